section
-- ===== PART A: goes FIRST, ahead of the names: the tables' words, and 'selects' of the private methods out of them =====
/-- a private method of a class that the tables say can be made, by its rows of tables_1 -/
def lw_okq (q : MethodName × Nat) : Prop := (q.1.cls ≠ "java/lang/invoke/MethodHandle" ∧ q.1.cls ≠ "java/lang/invoke/VarHandle") ∧ Cond.instantiable q.1.cls q.2 ∈ tables_1 ∧ Cond.privateMethod q.1 ∈ tables_1 ∧ Cond.instanceMethod q.1 ∈ tables_1
theorem lw_p0 : lw_okq (⟨"FortyJars", "faulty", "(I)I"⟩, 10) := ⟨⟨by decide +kernel, by decide +kernel⟩, List.mem_of_getElem? (i := 13) (by decide +kernel), List.mem_of_getElem? (i := 250) (by decide +kernel), List.mem_of_getElem? (i := 251) (by decide +kernel)⟩
theorem lw_p1 : lw_okq (⟨"FortyJars", "takeText", "(I)I"⟩, 10) := ⟨⟨by decide +kernel, by decide +kernel⟩, List.mem_of_getElem? (i := 13) (by decide +kernel), List.mem_of_getElem? (i := 266) (by decide +kernel), List.mem_of_getElem? (i := 267) (by decide +kernel)⟩
theorem lw_p2 : lw_okq (⟨"FortyJars$Yard", "clear", "()V"⟩, 13) := ⟨⟨by decide +kernel, by decide +kernel⟩, List.mem_of_getElem? (i := 129) (by decide +kernel), List.mem_of_getElem? (i := 274) (by decide +kernel), List.mem_of_getElem? (i := 275) (by decide +kernel)⟩
theorem lw_p3 : lw_okq (⟨"FortyJars$Yard", "readCell", "([III)I"⟩, 13) := ⟨⟨by decide +kernel, by decide +kernel⟩, List.mem_of_getElem? (i := 129) (by decide +kernel), List.mem_of_getElem? (i := 281) (by decide +kernel), List.mem_of_getElem? (i := 282) (by decide +kernel)⟩
theorem lw_p4 : lw_okq (⟨"FortyJars$Yard", "addOil", "()V"⟩, 13) := ⟨⟨by decide +kernel, by decide +kernel⟩, List.mem_of_getElem? (i := 129) (by decide +kernel), List.mem_of_getElem? (i := 285) (by decide +kernel), List.mem_of_getElem? (i := 286) (by decide +kernel)⟩
theorem lw_p5 : lw_okq (⟨"FortyJars$Yard", "addMan", "(II)V"⟩, 13) := ⟨⟨by decide +kernel, by decide +kernel⟩, List.mem_of_getElem? (i := 129) (by decide +kernel), List.mem_of_getElem? (i := 292) (by decide +kernel), List.mem_of_getElem? (i := 293) (by decide +kernel)⟩
theorem lw_p6 : lw_okq (⟨"FortyJars$Yard", "addCell", "(II)V"⟩, 13) := ⟨⟨by decide +kernel, by decide +kernel⟩, List.mem_of_getElem? (i := 129) (by decide +kernel), List.mem_of_getElem? (i := 296) (by decide +kernel), List.mem_of_getElem? (i := 297) (by decide +kernel)⟩
theorem lw_p7 : lw_okq (⟨"FortyJars", "walkPlan", "(IIIIZ)I"⟩, 10) := ⟨⟨by decide +kernel, by decide +kernel⟩, List.mem_of_getElem? (i := 13) (by decide +kernel), List.mem_of_getElem? (i := 364) (by decide +kernel), List.mem_of_getElem? (i := 365) (by decide +kernel)⟩
theorem lw_p8 : lw_okq (⟨"FortyJars$Yard", "isOil", "(I)Z"⟩, 13) := ⟨⟨by decide +kernel, by decide +kernel⟩, List.mem_of_getElem? (i := 129) (by decide +kernel), List.mem_of_getElem? (i := 373) (by decide +kernel), List.mem_of_getElem? (i := 374) (by decide +kernel)⟩
theorem lw_p9 : lw_okq (⟨"FortyJars$Walk", "fill", "(LFortyJars$Yard;I)V"⟩, 7) := ⟨⟨by decide +kernel, by decide +kernel⟩, List.mem_of_getElem? (i := 59) (by decide +kernel), List.mem_of_getElem? (i := 381) (by decide +kernel), List.mem_of_getElem? (i := 382) (by decide +kernel)⟩
theorem lw_p10 : lw_okq (⟨"FortyJars$Walk", "walkTo", "(LFortyJars$Yard;I)V"⟩, 7) := ⟨⟨by decide +kernel, by decide +kernel⟩, List.mem_of_getElem? (i := 59) (by decide +kernel), List.mem_of_getElem? (i := 385) (by decide +kernel), List.mem_of_getElem? (i := 386) (by decide +kernel)⟩
theorem lw_p11 : lw_okq (⟨"FortyJars$Walk", "stands", "(I)Z"⟩, 7) := ⟨⟨by decide +kernel, by decide +kernel⟩, List.mem_of_getElem? (i := 59) (by decide +kernel), List.mem_of_getElem? (i := 390) (by decide +kernel), List.mem_of_getElem? (i := 391) (by decide +kernel)⟩
theorem lw_p12 : lw_okq (⟨"FortyJars$Walk", "pour", "(LFortyJars$Yard;II)V"⟩, 7) := ⟨⟨by decide +kernel, by decide +kernel⟩, List.mem_of_getElem? (i := 59) (by decide +kernel), List.mem_of_getElem? (i := 394) (by decide +kernel), List.mem_of_getElem? (i := 395) (by decide +kernel)⟩
theorem lw_p13 : lw_okq (⟨"FortyJars$Order", "firstUnheard", "(LFortyJars$Yard;)I"⟩, 3) := ⟨⟨by decide +kernel, by decide +kernel⟩, List.mem_of_getElem? (i := 94) (by decide +kernel), List.mem_of_getElem? (i := 407) (by decide +kernel), List.mem_of_getElem? (i := 408) (by decide +kernel)⟩
theorem lw_p14 : lw_okq (⟨"FortyJars$Search", "spread", "(LFortyJars$Yard;I)V"⟩, 3) := ⟨⟨by decide +kernel, by decide +kernel⟩, List.mem_of_getElem? (i := 113) (by decide +kernel), List.mem_of_getElem? (i := 424) (by decide +kernel), List.mem_of_getElem? (i := 425) (by decide +kernel)⟩
theorem lw_p15 : lw_okq (⟨"FortyJars$Search", "begin", "(LFortyJars$Yard;I)V"⟩, 3) := ⟨⟨by decide +kernel, by decide +kernel⟩, List.mem_of_getElem? (i := 113) (by decide +kernel), List.mem_of_getElem? (i := 428) (by decide +kernel), List.mem_of_getElem? (i := 429) (by decide +kernel)⟩
def lw_privs_1 : List (MethodName × Nat) := [(⟨"FortyJars", "faulty", "(I)I"⟩, 10), (⟨"FortyJars", "takeText", "(I)I"⟩, 10), (⟨"FortyJars$Yard", "clear", "()V"⟩, 13), (⟨"FortyJars$Yard", "readCell", "([III)I"⟩, 13), (⟨"FortyJars$Yard", "addOil", "()V"⟩, 13), (⟨"FortyJars$Yard", "addMan", "(II)V"⟩, 13), (⟨"FortyJars$Yard", "addCell", "(II)V"⟩, 13), (⟨"FortyJars", "walkPlan", "(IIIIZ)I"⟩, 10), (⟨"FortyJars$Yard", "isOil", "(I)Z"⟩, 13), (⟨"FortyJars$Walk", "fill", "(LFortyJars$Yard;I)V"⟩, 7), (⟨"FortyJars$Walk", "walkTo", "(LFortyJars$Yard;I)V"⟩, 7), (⟨"FortyJars$Walk", "stands", "(I)Z"⟩, 7), (⟨"FortyJars$Walk", "pour", "(LFortyJars$Yard;II)V"⟩, 7), (⟨"FortyJars$Order", "firstUnheard", "(LFortyJars$Yard;)I"⟩, 3), (⟨"FortyJars$Search", "spread", "(LFortyJars$Yard;I)V"⟩, 3), (⟨"FortyJars$Search", "begin", "(LFortyJars$Yard;I)V"⟩, 3)]
theorem lw_r1 : ∀ q ∈ lw_privs_1, lw_okq q := List.forall_mem_cons.mpr ⟨lw_p0, List.forall_mem_cons.mpr ⟨lw_p1, List.forall_mem_cons.mpr ⟨lw_p2, List.forall_mem_cons.mpr ⟨lw_p3, List.forall_mem_cons.mpr ⟨lw_p4, List.forall_mem_cons.mpr ⟨lw_p5, List.forall_mem_cons.mpr ⟨lw_p6, List.forall_mem_cons.mpr ⟨lw_p7, List.forall_mem_cons.mpr ⟨lw_p8, List.forall_mem_cons.mpr ⟨lw_p9, List.forall_mem_cons.mpr ⟨lw_p10, List.forall_mem_cons.mpr ⟨lw_p11, List.forall_mem_cons.mpr ⟨lw_p12, List.forall_mem_cons.mpr ⟨lw_p13, List.forall_mem_cons.mpr ⟨lw_p14, List.forall_mem_cons.mpr ⟨lw_p15, fun _ h => absurd h List.not_mem_nil⟩⟩⟩⟩⟩⟩⟩⟩⟩⟩⟩⟩⟩⟩⟩⟩
theorem lw_p16 : lw_okq (⟨"FortyJars$Search", "leastIn", "(I)I"⟩, 3) := ⟨⟨by decide +kernel, by decide +kernel⟩, List.mem_of_getElem? (i := 113) (by decide +kernel), List.mem_of_getElem? (i := 434) (by decide +kernel), List.mem_of_getElem? (i := 435) (by decide +kernel)⟩
theorem lw_p17 : lw_okq (⟨"FortyJars$Search", "isQuiet", "(II)Z"⟩, 3) := ⟨⟨by decide +kernel, by decide +kernel⟩, List.mem_of_getElem? (i := 113) (by decide +kernel), List.mem_of_getElem? (i := 441) (by decide +kernel), List.mem_of_getElem? (i := 442) (by decide +kernel)⟩
theorem lw_p18 : lw_okq (⟨"FortyJars$Search", "pourOn", "(LFortyJars$Yard;II)V"⟩, 3) := ⟨⟨by decide +kernel, by decide +kernel⟩, List.mem_of_getElem? (i := 113) (by decide +kernel), List.mem_of_getElem? (i := 445) (by decide +kernel), List.mem_of_getElem? (i := 446) (by decide +kernel)⟩
theorem lw_p19 : lw_okq (⟨"FortyJars$Search", "offer", "(IIII)V"⟩, 3) := ⟨⟨by decide +kernel, by decide +kernel⟩, List.mem_of_getElem? (i := 113) (by decide +kernel), List.mem_of_getElem? (i := 453) (by decide +kernel), List.mem_of_getElem? (i := 454) (by decide +kernel)⟩
theorem lw_p20 : lw_okq (⟨"FortyJars$Readings", "isSo", "(LFortyJars$Yard;III)Z"⟩, 4) := ⟨⟨by decide +kernel, by decide +kernel⟩, List.mem_of_getElem? (i := 38) (by decide +kernel), List.mem_of_getElem? (i := 495) (by decide +kernel), List.mem_of_getElem? (i := 496) (by decide +kernel)⟩
theorem lw_p21 : lw_okq (⟨"FortyJars", "chiefTells", "(I)I"⟩, 10) := ⟨⟨by decide +kernel, by decide +kernel⟩, List.mem_of_getElem? (i := 13) (by decide +kernel), List.mem_of_getElem? (i := 575) (by decide +kernel), List.mem_of_getElem? (i := 576) (by decide +kernel)⟩
theorem lw_p22 : lw_okq (⟨"FortyJars", "leaveTrace", "(I)V"⟩, 10) := ⟨⟨by decide +kernel, by decide +kernel⟩, List.mem_of_getElem? (i := 13) (by decide +kernel), List.mem_of_getElem? (i := 579) (by decide +kernel), List.mem_of_getElem? (i := 580) (by decide +kernel)⟩
theorem lw_p23 : lw_okq (⟨"FortyJars", "watchfulTells", "(I)I"⟩, 10) := ⟨⟨by decide +kernel, by decide +kernel⟩, List.mem_of_getElem? (i := 13) (by decide +kernel), List.mem_of_getElem? (i := 583) (by decide +kernel), List.mem_of_getElem? (i := 584) (by decide +kernel)⟩
theorem lw_p24 : lw_okq (⟨"FortyJars", "manTells", "(I)I"⟩, 10) := ⟨⟨by decide +kernel, by decide +kernel⟩, List.mem_of_getElem? (i := 13) (by decide +kernel), List.mem_of_getElem? (i := 587) (by decide +kernel), List.mem_of_getElem? (i := 588) (by decide +kernel)⟩
theorem lw_p25 : lw_okq (⟨"FortyJarsModel", "refused", "(I)I"⟩, 41) := ⟨⟨by decide +kernel, by decide +kernel⟩, List.mem_of_getElem? (i := 611) (by decide +kernel), List.mem_of_getElem? (i := 752) (by decide +kernel), List.mem_of_getElem? (i := 753) (by decide +kernel)⟩
theorem lw_p26 : lw_okq (⟨"FortyJarsModel", "cellsBarred", "(IIIJ)I"⟩, 41) := ⟨⟨by decide +kernel, by decide +kernel⟩, List.mem_of_getElem? (i := 611) (by decide +kernel), List.mem_of_getElem? (i := 757) (by decide +kernel), List.mem_of_getElem? (i := 758) (by decide +kernel)⟩
theorem lw_p27 : lw_okq (⟨"FortyJarsModel", "failed", "(I)I"⟩, 41) := ⟨⟨by decide +kernel, by decide +kernel⟩, List.mem_of_getElem? (i := 611) (by decide +kernel), List.mem_of_getElem? (i := 761) (by decide +kernel), List.mem_of_getElem? (i := 762) (by decide +kernel)⟩
theorem lw_p28 : lw_okq (⟨"FortyJarsModel", "readsYard", "(II)Z"⟩, 41) := ⟨⟨by decide +kernel, by decide +kernel⟩, List.mem_of_getElem? (i := 611) (by decide +kernel), List.mem_of_getElem? (i := 768) (by decide +kernel), List.mem_of_getElem? (i := 769) (by decide +kernel)⟩
theorem lw_p29 : lw_okq (⟨"FortyJarsModel", "codeAt", "(II)I"⟩, 41) := ⟨⟨by decide +kernel, by decide +kernel⟩, List.mem_of_getElem? (i := 611) (by decide +kernel), List.mem_of_getElem? (i := 772) (by decide +kernel), List.mem_of_getElem? (i := 773) (by decide +kernel)⟩
theorem lw_p30 : lw_okq (⟨"FortyJarsModel", "figure", "(IIII)I"⟩, 41) := ⟨⟨by decide +kernel, by decide +kernel⟩, List.mem_of_getElem? (i := 611) (by decide +kernel), List.mem_of_getElem? (i := 776) (by decide +kernel), List.mem_of_getElem? (i := 777) (by decide +kernel)⟩
theorem lw_p31 : lw_okq (⟨"FortyJarsModel", "readsCell", "(III)Z"⟩, 41) := ⟨⟨by decide +kernel, by decide +kernel⟩, List.mem_of_getElem? (i := 611) (by decide +kernel), List.mem_of_getElem? (i := 780) (by decide +kernel), List.mem_of_getElem? (i := 781) (by decide +kernel)⟩
def lw_privs_2 : List (MethodName × Nat) := [(⟨"FortyJars$Search", "leastIn", "(I)I"⟩, 3), (⟨"FortyJars$Search", "isQuiet", "(II)Z"⟩, 3), (⟨"FortyJars$Search", "pourOn", "(LFortyJars$Yard;II)V"⟩, 3), (⟨"FortyJars$Search", "offer", "(IIII)V"⟩, 3), (⟨"FortyJars$Readings", "isSo", "(LFortyJars$Yard;III)Z"⟩, 4), (⟨"FortyJars", "chiefTells", "(I)I"⟩, 10), (⟨"FortyJars", "leaveTrace", "(I)V"⟩, 10), (⟨"FortyJars", "watchfulTells", "(I)I"⟩, 10), (⟨"FortyJars", "manTells", "(I)I"⟩, 10), (⟨"FortyJarsModel", "refused", "(I)I"⟩, 41), (⟨"FortyJarsModel", "cellsBarred", "(IIIJ)I"⟩, 41), (⟨"FortyJarsModel", "failed", "(I)I"⟩, 41), (⟨"FortyJarsModel", "readsYard", "(II)Z"⟩, 41), (⟨"FortyJarsModel", "codeAt", "(II)I"⟩, 41), (⟨"FortyJarsModel", "figure", "(IIII)I"⟩, 41), (⟨"FortyJarsModel", "readsCell", "(III)Z"⟩, 41)]
theorem lw_r2 : ∀ q ∈ lw_privs_2, lw_okq q := List.forall_mem_cons.mpr ⟨lw_p16, List.forall_mem_cons.mpr ⟨lw_p17, List.forall_mem_cons.mpr ⟨lw_p18, List.forall_mem_cons.mpr ⟨lw_p19, List.forall_mem_cons.mpr ⟨lw_p20, List.forall_mem_cons.mpr ⟨lw_p21, List.forall_mem_cons.mpr ⟨lw_p22, List.forall_mem_cons.mpr ⟨lw_p23, List.forall_mem_cons.mpr ⟨lw_p24, List.forall_mem_cons.mpr ⟨lw_p25, List.forall_mem_cons.mpr ⟨lw_p26, List.forall_mem_cons.mpr ⟨lw_p27, List.forall_mem_cons.mpr ⟨lw_p28, List.forall_mem_cons.mpr ⟨lw_p29, List.forall_mem_cons.mpr ⟨lw_p30, List.forall_mem_cons.mpr ⟨lw_p31, fun _ h => absurd h List.not_mem_nil⟩⟩⟩⟩⟩⟩⟩⟩⟩⟩⟩⟩⟩⟩⟩⟩
theorem lw_p32 : lw_okq (⟨"FortyJarsModel", "readsMan", "(IIII)Z"⟩, 41) := ⟨⟨by decide +kernel, by decide +kernel⟩, List.mem_of_getElem? (i := 611) (by decide +kernel), List.mem_of_getElem? (i := 784) (by decide +kernel), List.mem_of_getElem? (i := 785) (by decide +kernel)⟩
theorem lw_p33 : lw_okq (⟨"FortyJarsModel", "noSpot", "(I)Z"⟩, 41) := ⟨⟨by decide +kernel, by decide +kernel⟩, List.mem_of_getElem? (i := 611) (by decide +kernel), List.mem_of_getElem? (i := 792) (by decide +kernel), List.mem_of_getElem? (i := 793) (by decide +kernel)⟩
theorem lw_p34 : lw_okq (⟨"FortyJarsModel", "noMan", "(I)Z"⟩, 41) := ⟨⟨by decide +kernel, by decide +kernel⟩, List.mem_of_getElem? (i := 611) (by decide +kernel), List.mem_of_getElem? (i := 800) (by decide +kernel), List.mem_of_getElem? (i := 801) (by decide +kernel)⟩
theorem lw_p35 : lw_okq (⟨"FortyJarsModel", "hearsOf", "(I)I"⟩, 41) := ⟨⟨by decide +kernel, by decide +kernel⟩, List.mem_of_getElem? (i := 611) (by decide +kernel), List.mem_of_getElem? (i := 804) (by decide +kernel), List.mem_of_getElem? (i := 805) (by decide +kernel)⟩
theorem lw_p36 : lw_okq (⟨"FortyJarsModel", "farOf", "(II)I"⟩, 41) := ⟨⟨by decide +kernel, by decide +kernel⟩, List.mem_of_getElem? (i := 611) (by decide +kernel), List.mem_of_getElem? (i := 815) (by decide +kernel), List.mem_of_getElem? (i := 816) (by decide +kernel)⟩
theorem lw_p37 : lw_okq (⟨"FortyJarsModel", "all", "()I"⟩, 41) := ⟨⟨by decide +kernel, by decide +kernel⟩, List.mem_of_getElem? (i := 611) (by decide +kernel), List.mem_of_getElem? (i := 837) (by decide +kernel), List.mem_of_getElem? (i := 838) (by decide +kernel)⟩
theorem lw_p38 : lw_okq (⟨"FortyJarsModel", "hearersAt", "(II)I"⟩, 41) := ⟨⟨by decide +kernel, by decide +kernel⟩, List.mem_of_getElem? (i := 611) (by decide +kernel), List.mem_of_getElem? (i := 841) (by decide +kernel), List.mem_of_getElem? (i := 842) (by decide +kernel)⟩
theorem lw_p39 : lw_okq (⟨"FortyJarsModel", "planBarred", "(IIIIZ)I"⟩, 41) := ⟨⟨by decide +kernel, by decide +kernel⟩, List.mem_of_getElem? (i := 611) (by decide +kernel), List.mem_of_getElem? (i := 850) (by decide +kernel), List.mem_of_getElem? (i := 851) (by decide +kernel)⟩
theorem lw_p40 : lw_okq (⟨"FortyJarsModel", "noStep", "(I)Z"⟩, 41) := ⟨⟨by decide +kernel, by decide +kernel⟩, List.mem_of_getElem? (i := 611) (by decide +kernel), List.mem_of_getElem? (i := 855) (by decide +kernel), List.mem_of_getElem? (i := 856) (by decide +kernel)⟩
theorem lw_p41 : lw_okq (⟨"FortyJarsModel", "goPlan", "(II)V"⟩, 41) := ⟨⟨by decide +kernel, by decide +kernel⟩, List.mem_of_getElem? (i := 611) (by decide +kernel), List.mem_of_getElem? (i := 859) (by decide +kernel), List.mem_of_getElem? (i := 860) (by decide +kernel)⟩
theorem lw_p42 : lw_okq (⟨"FortyJarsModel", "layQuiet", "()I"⟩, 41) := ⟨⟨by decide +kernel, by decide +kernel⟩, List.mem_of_getElem? (i := 611) (by decide +kernel), List.mem_of_getElem? (i := 867) (by decide +kernel), List.mem_of_getElem? (i := 868) (by decide +kernel)⟩
theorem lw_p43 : lw_okq (⟨"FortyJarsModel", "soonestOf", "(I)I"⟩, 41) := ⟨⟨by decide +kernel, by decide +kernel⟩, List.mem_of_getElem? (i := 611) (by decide +kernel), List.mem_of_getElem? (i := 879) (by decide +kernel), List.mem_of_getElem? (i := 880) (by decide +kernel)⟩
theorem lw_p44 : lw_okq (⟨"FortyJarsModel", "laySoon", "(I)V"⟩, 41) := ⟨⟨by decide +kernel, by decide +kernel⟩, List.mem_of_getElem? (i := 611) (by decide +kernel), List.mem_of_getElem? (i := 883) (by decide +kernel), List.mem_of_getElem? (i := 884) (by decide +kernel)⟩
theorem lw_p45 : lw_okq (⟨"FortyJarsModel", "goOn", "(I)Z"⟩, 41) := ⟨⟨by decide +kernel, by decide +kernel⟩, List.mem_of_getElem? (i := 611) (by decide +kernel), List.mem_of_getElem? (i := 891) (by decide +kernel), List.mem_of_getElem? (i := 892) (by decide +kernel)⟩
theorem lw_p46 : lw_okq (⟨"FortyJarsModel", "cellOfPlace", "(I)I"⟩, 41) := ⟨⟨by decide +kernel, by decide +kernel⟩, List.mem_of_getElem? (i := 611) (by decide +kernel), List.mem_of_getElem? (i := 895) (by decide +kernel), List.mem_of_getElem? (i := 896) (by decide +kernel)⟩
theorem lw_p47 : lw_okq (⟨"FortyJarsModel", "soonestFor", "(I)I"⟩, 41) := ⟨⟨by decide +kernel, by decide +kernel⟩, List.mem_of_getElem? (i := 611) (by decide +kernel), List.mem_of_getElem? (i := 899) (by decide +kernel), List.mem_of_getElem? (i := 900) (by decide +kernel)⟩
def lw_privs_3 : List (MethodName × Nat) := [(⟨"FortyJarsModel", "readsMan", "(IIII)Z"⟩, 41), (⟨"FortyJarsModel", "noSpot", "(I)Z"⟩, 41), (⟨"FortyJarsModel", "noMan", "(I)Z"⟩, 41), (⟨"FortyJarsModel", "hearsOf", "(I)I"⟩, 41), (⟨"FortyJarsModel", "farOf", "(II)I"⟩, 41), (⟨"FortyJarsModel", "all", "()I"⟩, 41), (⟨"FortyJarsModel", "hearersAt", "(II)I"⟩, 41), (⟨"FortyJarsModel", "planBarred", "(IIIIZ)I"⟩, 41), (⟨"FortyJarsModel", "noStep", "(I)Z"⟩, 41), (⟨"FortyJarsModel", "goPlan", "(II)V"⟩, 41), (⟨"FortyJarsModel", "layQuiet", "()I"⟩, 41), (⟨"FortyJarsModel", "soonestOf", "(I)I"⟩, 41), (⟨"FortyJarsModel", "laySoon", "(I)V"⟩, 41), (⟨"FortyJarsModel", "goOn", "(I)Z"⟩, 41), (⟨"FortyJarsModel", "cellOfPlace", "(I)I"⟩, 41), (⟨"FortyJarsModel", "soonestFor", "(I)I"⟩, 41)]
theorem lw_r3 : ∀ q ∈ lw_privs_3, lw_okq q := List.forall_mem_cons.mpr ⟨lw_p32, List.forall_mem_cons.mpr ⟨lw_p33, List.forall_mem_cons.mpr ⟨lw_p34, List.forall_mem_cons.mpr ⟨lw_p35, List.forall_mem_cons.mpr ⟨lw_p36, List.forall_mem_cons.mpr ⟨lw_p37, List.forall_mem_cons.mpr ⟨lw_p38, List.forall_mem_cons.mpr ⟨lw_p39, List.forall_mem_cons.mpr ⟨lw_p40, List.forall_mem_cons.mpr ⟨lw_p41, List.forall_mem_cons.mpr ⟨lw_p42, List.forall_mem_cons.mpr ⟨lw_p43, List.forall_mem_cons.mpr ⟨lw_p44, List.forall_mem_cons.mpr ⟨lw_p45, List.forall_mem_cons.mpr ⟨lw_p46, List.forall_mem_cons.mpr ⟨lw_p47, fun _ h => absurd h List.not_mem_nil⟩⟩⟩⟩⟩⟩⟩⟩⟩⟩⟩⟩⟩⟩⟩⟩
theorem lw_p48 : lw_okq (⟨"FortyJarsModel", "areSo", "()Z"⟩, 41) := ⟨⟨by decide +kernel, by decide +kernel⟩, List.mem_of_getElem? (i := 611) (by decide +kernel), List.mem_of_getElem? (i := 926) (by decide +kernel), List.mem_of_getElem? (i := 927) (by decide +kernel)⟩
theorem lw_p49 : lw_okq (⟨"FortyJarsModel", "noCell", "(II)I"⟩, 41) := ⟨⟨by decide +kernel, by decide +kernel⟩, List.mem_of_getElem? (i := 611) (by decide +kernel), List.mem_of_getElem? (i := 961) (by decide +kernel), List.mem_of_getElem? (i := 962) (by decide +kernel)⟩
theorem lw_p50 : lw_okq (⟨"FortyJarsModel", "failedLong", "(I)J"⟩, 41) := ⟨⟨by decide +kernel, by decide +kernel⟩, List.mem_of_getElem? (i := 611) (by decide +kernel), List.mem_of_getElem? (i := 969) (by decide +kernel), List.mem_of_getElem? (i := 970) (by decide +kernel)⟩
theorem lw_p51 : lw_okq (⟨"FortyJarsModel", "traced", "(I)V"⟩, 41) := ⟨⟨by decide +kernel, by decide +kernel⟩, List.mem_of_getElem? (i := 611) (by decide +kernel), List.mem_of_getElem? (i := 981) (by decide +kernel), List.mem_of_getElem? (i := 982) (by decide +kernel)⟩
def lw_privs_4 : List (MethodName × Nat) := [(⟨"FortyJarsModel", "areSo", "()Z"⟩, 41), (⟨"FortyJarsModel", "noCell", "(II)I"⟩, 41), (⟨"FortyJarsModel", "failedLong", "(I)J"⟩, 41), (⟨"FortyJarsModel", "traced", "(I)V"⟩, 41)]
theorem lw_r4 : ∀ q ∈ lw_privs_4, lw_okq q := List.forall_mem_cons.mpr ⟨lw_p48, List.forall_mem_cons.mpr ⟨lw_p49, List.forall_mem_cons.mpr ⟨lw_p50, List.forall_mem_cons.mpr ⟨lw_p51, fun _ h => absurd h List.not_mem_nil⟩⟩⟩⟩
def lw_privs : List (MethodName × Nat) := lw_privs_1 ++ (lw_privs_2 ++ (lw_privs_3 ++ (lw_privs_4)))
def lw_tbl : List Cond := k2_sels lw_privs ++ tables_1
theorem lw_privs_ok : ∀ q ∈ lw_privs, lw_okq q := by
  show ∀ q ∈ lw_privs_1 ++ (lw_privs_2 ++ (lw_privs_3 ++ (lw_privs_4))), lw_okq q
  exact List.forall_mem_append.mpr ⟨lw_r1, List.forall_mem_append.mpr ⟨lw_r2, List.forall_mem_append.mpr ⟨lw_r3, lw_r4⟩⟩⟩
-- ===== end of PART A; then your names; then what follows =====
/-! ===== BEGIN printed: names, fields, word lists, decode rows ===== -/
def RX0 : String := "FortyJars$Order"
def TX0 : u_T := fun k => match k with
  | 0 => ("FortyJars$Order", "row", "[I", true)
  | 1 => ("FortyJars$Order", "length", "I", false)
  | _ => ("FortyJars$Order", "leftOver", "I", false)
def tyX0 : Nat → FieldType := fun k => match k with
  | 0 => .array .int
  | 1 => .int
  | _ => .int
theorem nmX0 : ∀ a, a < 3 → ∀ b, b < 3 → a ≠ b → (TX0 a).2.1 ≠ (TX0 b).2.1 := by decide +kernel
theorem tyX0_ok : ∀ k, k < 3 → parseFieldDescriptor (TX0 k).2.2.1 = some (tyX0 k) := by decide +kernel
abbrev cX0_init : ByteArray := prog_2_method_1_code
def yX0_init : MethodName := ⟨RX0, "<init>", "()V"⟩
abbrev cX0_find : ByteArray := prog_2_method_2_code
def yX0_find : MethodName := ⟨RX0, "find", "(LFortyJars$Yard;)V"⟩
abbrev cX0_firstUnheard : ByteArray := prog_2_method_3_code
def yX0_firstUnheard : MethodName := ⟨RX0, "firstUnheard", "(LFortyJars$Yard;)I"⟩
def RX1 : String := "FortyJars$Readings"
def TX1 : u_T := fun k => match k with
  | 0 => ("FortyJars$Readings", "count", "I", false)
  | 1 => ("FortyJars$Readings", "man", "[I", true)
  | 2 => ("FortyJars$Readings", "place", "[I", true)
  | _ => ("FortyJars$Readings", "heard", "[Z", true)
def tyX1 : Nat → FieldType := fun k => match k with
  | 0 => .int
  | 1 => .array .int
  | 2 => .array .int
  | _ => .array .boolean
theorem nmX1 : ∀ a, a < 4 → ∀ b, b < 4 → a ≠ b → (TX1 a).2.1 ≠ (TX1 b).2.1 := by decide +kernel
theorem tyX1_ok : ∀ k, k < 4 → parseFieldDescriptor (TX1 k).2.2.1 = some (tyX1 k) := by decide +kernel
abbrev cX1_init : ByteArray := prog_3_method_1_code
def yX1_init : MethodName := ⟨RX1, "<init>", "()V"⟩
abbrev cX1_add : ByteArray := prog_3_method_2_code
def yX1_add : MethodName := ⟨RX1, "add", "(IIZ)I"⟩
abbrev cX1_allSo : ByteArray := prog_3_method_3_code
def yX1_allSo : MethodName := ⟨RX1, "allSo", "(LFortyJars$Yard;)Z"⟩
abbrev cX1_allSoIf : ByteArray := prog_3_method_4_code
def yX1_allSoIf : MethodName := ⟨RX1, "allSoIf", "(LFortyJars$Yard;III)Z"⟩
abbrev cX1_isSo : ByteArray := prog_3_method_5_code
def yX1_isSo : MethodName := ⟨RX1, "isSo", "(LFortyJars$Yard;III)Z"⟩
def RX2 : String := "FortyJars$Search"
def TX2 : u_T := fun k => match k with
  | 0 => ("FortyJars$Search", "least", "[I", true)
  | 1 => ("FortyJars$Search", "leastOfSet", "[I", true)
  | _ => ("FortyJars$Search", "hearers", "[I", true)
def tyX2 : Nat → FieldType := fun k => match k with
  | 0 => .array .int
  | 1 => .array .int
  | _ => .array .int
theorem nmX2 : ∀ a, a < 3 → ∀ b, b < 3 → a ≠ b → (TX2 a).2.1 ≠ (TX2 b).2.1 := by decide +kernel
theorem tyX2_ok : ∀ k, k < 3 → parseFieldDescriptor (TX2 k).2.2.1 = some (tyX2 k) := by decide +kernel
abbrev cX2_init : ByteArray := prog_4_method_1_code
def yX2_init : MethodName := ⟨RX2, "<init>", "()V"⟩
abbrev cX2_leastMinutes : ByteArray := prog_4_method_2_code
def yX2_leastMinutes : MethodName := ⟨RX2, "leastMinutes", "(LFortyJars$Yard;I)I"⟩
abbrev cX2_largestBy : ByteArray := prog_4_method_3_code
def yX2_largestBy : MethodName := ⟨RX2, "largestBy", "(LFortyJars$Yard;I)I"⟩
abbrev cX2_spread : ByteArray := prog_4_method_4_code
def yX2_spread : MethodName := ⟨RX2, "spread", "(LFortyJars$Yard;I)V"⟩
abbrev cX2_isQuiet : ByteArray := prog_4_method_5_code
def yX2_isQuiet : MethodName := ⟨RX2, "isQuiet", "(II)Z"⟩
abbrev cX2_begin : ByteArray := prog_4_method_6_code
def yX2_begin : MethodName := ⟨RX2, "begin", "(LFortyJars$Yard;I)V"⟩
abbrev cX2_leastIn : ByteArray := prog_4_method_7_code
def yX2_leastIn : MethodName := ⟨RX2, "leastIn", "(I)I"⟩
abbrev cX2_pourOn : ByteArray := prog_4_method_8_code
def yX2_pourOn : MethodName := ⟨RX2, "pourOn", "(LFortyJars$Yard;II)V"⟩
abbrev cX2_minutesByOil : ByteArray := prog_4_method_9_code
def yX2_minutesByOil : MethodName := ⟨RX2, "minutesByOil", "(LFortyJars$Yard;II)I"⟩
abbrev cX2_offer : ByteArray := prog_4_method_10_code
def yX2_offer : MethodName := ⟨RX2, "offer", "(IIII)V"⟩
def RX3 : String := "FortyJars$Sheets"
def TX3 : u_T := fun k => match k with
  | 0 => ("FortyJars$Sheets", "numbers", "[I", true)
  | 1 => ("FortyJars$Sheets", "lanes", "[I", true)
  | _ => ("FortyJars$Sheets", "lengths", "[I", true)
def tyX3 : Nat → FieldType := fun k => match k with
  | 0 => .array .int
  | 1 => .array .int
  | _ => .array .int
theorem nmX3 : ∀ a, a < 3 → ∀ b, b < 3 → a ≠ b → (TX3 a).2.1 ≠ (TX3 b).2.1 := by decide +kernel
theorem tyX3_ok : ∀ k, k < 3 → parseFieldDescriptor (TX3 k).2.2.1 = some (tyX3 k) := by decide +kernel
abbrev cX3_init : ByteArray := prog_5_method_1_code
def yX3_init : MethodName := ⟨RX3, "<init>", "()V"⟩
abbrev cX3_isSheet : ByteArray := prog_5_method_2_code
def yX3_isSheet : MethodName := ⟨RX3, "isSheet", "(I)Z"⟩
abbrev cX3_isLane : ByteArray := prog_5_method_3_code
def yX3_isLane : MethodName := ⟨RX3, "isLane", "(I)Z"⟩
abbrev cX3_isBare : ByteArray := prog_5_method_4_code
def yX3_isBare : MethodName := ⟨RX3, "isBare", "(I)Z"⟩
abbrev cX3_areAlike : ByteArray := prog_5_method_5_code
def yX3_areAlike : MethodName := ⟨RX3, "areAlike", "(II)Z"⟩
abbrev cX3_faultOfRow : ByteArray := prog_5_method_6_code
def yX3_faultOfRow : MethodName := ⟨RX3, "faultOfRow", "(II)I"⟩
abbrev cX3_hasCell : ByteArray := prog_5_method_7_code
def yX3_hasCell : MethodName := ⟨RX3, "hasCell", "(II)Z"⟩
abbrev cX3_hasCells : ByteArray := prog_5_method_8_code
def yX3_hasCells : MethodName := ⟨RX3, "hasCells", "(III)Z"⟩
abbrev cX3_renew : ByteArray := prog_5_method_9_code
def yX3_renew : MethodName := ⟨RX3, "renew", "(III)V"⟩
abbrev cX3_bare : ByteArray := prog_5_method_10_code
def yX3_bare : MethodName := ⟨RX3, "bare", "(I)V"⟩
abbrev cX3_at : ByteArray := prog_5_method_11_code
def yX3_at : MethodName := ⟨RX3, "at", "(II)I"⟩
abbrev cX3_write : ByteArray := prog_5_method_12_code
def yX3_write : MethodName := ⟨RX3, "write", "(III)V"⟩
abbrev cX3_cut : ByteArray := prog_5_method_13_code
def yX3_cut : MethodName := ⟨RX3, "cut", "(II)I"⟩
abbrev cX3_move : ByteArray := prog_5_method_14_code
def yX3_move : MethodName := ⟨RX3, "move", "(IIIII)V"⟩
abbrev cX3_lift : ByteArray := prog_5_method_15_code
def yX3_lift : MethodName := ⟨RX3, "lift", "(III[I)V"⟩
def RX4 : String := "FortyJars$Walk"
def TX4 : u_T := fun k => match k with
  | 0 => ("FortyJars$Walk", "minutes", "I", false)
  | 1 => ("FortyJars$Walk", "firstWrong", "I", false)
  | 2 => ("FortyJars$Walk", "firstHeard", "I", false)
  | 3 => ("FortyJars$Walk", "dealt", "I", false)
  | 4 => ("FortyJars$Walk", "left", "I", false)
  | 5 => ("FortyJars$Walk", "at", "I", false)
  | _ => ("FortyJars$Walk", "couldHear", "I", false)
def tyX4 : Nat → FieldType := fun k => match k with
  | 0 => .int
  | 1 => .int
  | 2 => .int
  | 3 => .int
  | 4 => .int
  | 5 => .int
  | _ => .int
theorem nmX4 : ∀ a, a < 7 → ∀ b, b < 7 → a ≠ b → (TX4 a).2.1 ≠ (TX4 b).2.1 := by decide +kernel
theorem tyX4_ok : ∀ k, k < 7 → parseFieldDescriptor (TX4 k).2.2.1 = some (tyX4 k) := by decide +kernel
abbrev cX4_init : ByteArray := prog_6_method_1_code
def yX4_init : MethodName := ⟨RX4, "<init>", "()V"⟩
abbrev cX4_go : ByteArray := prog_6_method_2_code
def yX4_go : MethodName := ⟨RX4, "go", "(LFortyJars$Yard;[II)V"⟩
abbrev cX4_stands : ByteArray := prog_6_method_3_code
def yX4_stands : MethodName := ⟨RX4, "stands", "(I)Z"⟩
abbrev cX4_fill : ByteArray := prog_6_method_4_code
def yX4_fill : MethodName := ⟨RX4, "fill", "(LFortyJars$Yard;I)V"⟩
abbrev cX4_walkTo : ByteArray := prog_6_method_5_code
def yX4_walkTo : MethodName := ⟨RX4, "walkTo", "(LFortyJars$Yard;I)V"⟩
abbrev cX4_pour : ByteArray := prog_6_method_6_code
def yX4_pour : MethodName := ⟨RX4, "pour", "(LFortyJars$Yard;II)V"⟩
def RX5 : String := "FortyJars$Yard"
def TX5 : u_T := fun k => match k with
  | 0 => ("FortyJars$Yard", "cells", "I", false)
  | 1 => ("FortyJars$Yard", "men", "I", false)
  | 2 => ("FortyJars$Yard", "oils", "I", false)
  | 3 => ("FortyJars$Yard", "asleep", "I", false)
  | 4 => ("FortyJars$Yard", "canHolds", "I", false)
  | 5 => ("FortyJars$Yard", "sign", "I", false)
  | 6 => ("FortyJars$Yard", "inCell", "[I", true)
  | 7 => ("FortyJars$Yard", "kind", "[I", true)
  | 8 => ("FortyJars$Yard", "ear", "[I", true)
  | 9 => ("FortyJars$Yard", "manCell", "[I", true)
  | 10 => ("FortyJars$Yard", "oilCell", "[I", true)
  | 11 => ("FortyJars$Yard", "rowOf", "[I", true)
  | _ => ("FortyJars$Yard", "acrossOf", "[I", true)
def tyX5 : Nat → FieldType := fun k => match k with
  | 0 => .int
  | 1 => .int
  | 2 => .int
  | 3 => .int
  | 4 => .int
  | 5 => .int
  | 6 => .array .int
  | 7 => .array .int
  | 8 => .array .int
  | 9 => .array .int
  | 10 => .array .int
  | 11 => .array .int
  | _ => .array .int
theorem nmX5 : ∀ a, a < 13 → ∀ b, b < 13 → a ≠ b → (TX5 a).2.1 ≠ (TX5 b).2.1 := by decide +kernel
theorem tyX5_ok : ∀ k, k < 13 → parseFieldDescriptor (TX5 k).2.2.1 = some (tyX5 k) := by decide +kernel
abbrev cX5_init : ByteArray := prog_7_method_1_code
def yX5_init : MethodName := ⟨RX5, "<init>", "()V"⟩
abbrev cX5_stands : ByteArray := prog_7_method_2_code
def yX5_stands : MethodName := ⟨RX5, "stands", "()Z"⟩
abbrev cX5_isCell : ByteArray := prog_7_method_3_code
def yX5_isCell : MethodName := ⟨RX5, "isCell", "(I)Z"⟩
abbrev cX5_isMan : ByteArray := prog_7_method_4_code
def yX5_isMan : MethodName := ⟨RX5, "isMan", "(I)Z"⟩
abbrev cX5_sleeps : ByteArray := prog_7_method_5_code
def yX5_sleeps : MethodName := ⟨RX5, "sleeps", "(I)Z"⟩
abbrev cX5_readText : ByteArray := prog_7_method_6_code
def yX5_readText : MethodName := ⟨RX5, "readText", "([II)I"⟩
abbrev cX5_clear : ByteArray := prog_7_method_7_code
def yX5_clear : MethodName := ⟨RX5, "clear", "()V"⟩
abbrev cX5_codeAt : ByteArray := prog_7_method_8_code
def yX5_codeAt : MethodName := ⟨RX5, "codeAt", "([III)I"⟩
abbrev cX5_readCell : ByteArray := prog_7_method_9_code
def yX5_readCell : MethodName := ⟨RX5, "readCell", "([III)I"⟩
abbrev cX5_kindOf : ByteArray := prog_7_method_10_code
def yX5_kindOf : MethodName := ⟨RX5, "kindOf", "(I)I"⟩
abbrev cX5_addOil : ByteArray := prog_7_method_11_code
def yX5_addOil : MethodName := ⟨RX5, "addOil", "()V"⟩
abbrev cX5_addMan : ByteArray := prog_7_method_12_code
def yX5_addMan : MethodName := ⟨RX5, "addMan", "(II)V"⟩
abbrev cX5_addCell : ByteArray := prog_7_method_13_code
def yX5_addCell : MethodName := ⟨RX5, "addCell", "(II)V"⟩
abbrev cX5_apart : ByteArray := prog_7_method_14_code
def yX5_apart : MethodName := ⟨RX5, "apart", "(II)I"⟩
abbrev cX5_reach : ByteArray := prog_7_method_15_code
def yX5_reach : MethodName := ⟨RX5, "reach", "(II)I"⟩
abbrev cX5_hearersAt : ByteArray := prog_7_method_16_code
def yX5_hearersAt : MethodName := ⟨RX5, "hearersAt", "(I)I"⟩
abbrev cX5_areSteps : ByteArray := prog_7_method_17_code
def yX5_areSteps : MethodName := ⟨RX5, "areSteps", "([II)Z"⟩
abbrev cX5_isOil : ByteArray := prog_7_method_18_code
def yX5_isOil : MethodName := ⟨RX5, "isOil", "(I)Z"⟩
def RX6 : String := "FortyJars"
def TX6 : u_T := fun k => match k with
  | 0 => ("FortyJars", "sheets", "LFortyJars$Sheets;", true)
  | 1 => ("FortyJars", "readings", "LFortyJars$Readings;", true)
  | 2 => ("FortyJars", "walk", "LFortyJars$Walk;", true)
  | 3 => ("FortyJars", "order", "LFortyJars$Order;", true)
  | 4 => ("FortyJars", "search", "LFortyJars$Search;", true)
  | 5 => ("FortyJars", "taken", "[I", true)
  | 6 => ("FortyJars", "yard", "LFortyJars$Yard;", false)
  | 7 => ("FortyJars", "spare", "LFortyJars$Yard;", false)
  | 8 => ("FortyJars", "traced", "I", false)
  | _ => ("FortyJars", "lastFault", "I", false)
def tyX6 : Nat → FieldType := fun k => match k with
  | 0 => .object "FortyJars$Sheets"
  | 1 => .object "FortyJars$Readings"
  | 2 => .object "FortyJars$Walk"
  | 3 => .object "FortyJars$Order"
  | 4 => .object "FortyJars$Search"
  | 5 => .array .int
  | 6 => .object "FortyJars$Yard"
  | 7 => .object "FortyJars$Yard"
  | 8 => .int
  | _ => .int
theorem nmX6 : ∀ a, a < 10 → ∀ b, b < 10 → a ≠ b → (TX6 a).2.1 ≠ (TX6 b).2.1 := by decide +kernel
theorem tyX6_ok : ∀ k, k < 10 → parseFieldDescriptor (TX6 k).2.2.1 = some (tyX6 k) := by decide +kernel
abbrev cX6_init : ByteArray := prog_1_method_1_code
def yX6_init : MethodName := ⟨RX6, "<init>", "()V"⟩
abbrev cX6_yard : ByteArray := prog_1_method_2_code
def yX6_yard : MethodName := ⟨RX6, "yard", "(IIII)I"⟩
abbrev cX6_takeText : ByteArray := prog_1_method_3_code
def yX6_takeText : MethodName := ⟨RX6, "takeText", "(I)I"⟩
abbrev cX6_inside : ByteArray := prog_1_method_4_code
def yX6_inside : MethodName := ⟨RX6, "inside", "(I)I"⟩
abbrev cX6_ofMan : ByteArray := prog_1_method_5_code
def yX6_ofMan : MethodName := ⟨RX6, "ofMan", "(II)I"⟩
abbrev cX6_far : ByteArray := prog_1_method_6_code
def yX6_far : MethodName := ⟨RX6, "far", "(II)I"⟩
abbrev cX6_can : ByteArray := prog_1_method_7_code
def yX6_can : MethodName := ⟨RX6, "can", "(I)I"⟩
abbrev cX6_delay : ByteArray := prog_1_method_8_code
def yX6_delay : MethodName := ⟨RX6, "delay", "(I)I"⟩
abbrev cX6_doze : ByteArray := prog_1_method_9_code
def yX6_doze : MethodName := ⟨RX6, "doze", "(IZ)I"⟩
abbrev cX6_ears : ByteArray := prog_1_method_10_code
def yX6_ears : MethodName := ⟨RX6, "ears", "(I)I"⟩
abbrev cX6_plan : ByteArray := prog_1_method_11_code
def yX6_plan : MethodName := ⟨RX6, "plan", "(IIIII)I"⟩
abbrev cX6_walkPlan : ByteArray := prog_1_method_12_code
def yX6_walkPlan : MethodName := ⟨RX6, "walkPlan", "(IIIIZ)I"⟩
abbrev cX6_quiet : ByteArray := prog_1_method_13_code
def yX6_quiet : MethodName := ⟨RX6, "quiet", "(I)I"⟩
abbrev cX6_stuck : ByteArray := prog_1_method_14_code
def yX6_stuck : MethodName := ⟨RX6, "stuck", "()I"⟩
abbrev cX6_soonest : ByteArray := prog_1_method_15_code
def yX6_soonest : MethodName := ⟨RX6, "soonest", "()I"⟩
abbrev cX6_most : ByteArray := prog_1_method_16_code
def yX6_most : MethodName := ⟨RX6, "most", "()I"⟩
abbrev cX6_without : ByteArray := prog_1_method_17_code
def yX6_without : MethodName := ⟨RX6, "without", "(I)I"⟩
abbrev cX6_reading : ByteArray := prog_1_method_18_code
def yX6_reading : MethodName := ⟨RX6, "reading", "(IIZ)I"⟩
abbrev cX6_back : ByteArray := prog_1_method_19_code
def yX6_back : MethodName := ⟨RX6, "back", "(I)I"⟩
abbrev cX6_holds : ByteArray := prog_1_method_20_code
def yX6_holds : MethodName := ⟨RX6, "holds", "()I"⟩
abbrev cX6_hearing : ByteArray := prog_1_method_21_code
def yX6_hearing : MethodName := ⟨RX6, "hearing", "(I)I"⟩
abbrev cX6_kinds : ByteArray := prog_1_method_22_code
def yX6_kinds : MethodName := ⟨RX6, "kinds", "(I)I"⟩
abbrev cX6_odds : ByteArray := prog_1_method_23_code
def yX6_odds : MethodName := ⟨RX6, "odds", "(IIIII)J"⟩
abbrev cX6_sheet : ByteArray := prog_1_method_24_code
def yX6_sheet : MethodName := ⟨RX6, "sheet", "(III)I"⟩
abbrev cX6_lose : ByteArray := prog_1_method_25_code
def yX6_lose : MethodName := ⟨RX6, "lose", "(I)I"⟩
abbrev cX6_put : ByteArray := prog_1_method_26_code
def yX6_put : MethodName := ⟨RX6, "put", "(III)I"⟩
abbrev cX6_cell : ByteArray := prog_1_method_27_code
def yX6_cell : MethodName := ⟨RX6, "cell", "(III)J"⟩
abbrev cX6_copy : ByteArray := prog_1_method_28_code
def yX6_copy : MethodName := ⟨RX6, "copy", "(IIIII)I"⟩
abbrev cX6_tell : ByteArray := prog_1_method_29_code
def yX6_tell : MethodName := ⟨RX6, "tell", "(I)I"⟩
abbrev cX6_manTells : ByteArray := prog_1_method_30_code
def yX6_manTells : MethodName := ⟨RX6, "manTells", "(I)I"⟩
abbrev cX6_watchfulTells : ByteArray := prog_1_method_31_code
def yX6_watchfulTells : MethodName := ⟨RX6, "watchfulTells", "(I)I"⟩
abbrev cX6_chiefTells : ByteArray := prog_1_method_32_code
def yX6_chiefTells : MethodName := ⟨RX6, "chiefTells", "(I)I"⟩
abbrev cX6_ask : ByteArray := prog_1_method_33_code
def yX6_ask : MethodName := ⟨RX6, "ask", "(I)I"⟩
abbrev cX6_leaveTrace : ByteArray := prog_1_method_34_code
def yX6_leaveTrace : MethodName := ⟨RX6, "leaveTrace", "(I)V"⟩
abbrev cX6_as : ByteArray := prog_1_method_35_code
def yX6_as : MethodName := ⟨RX6, "as", "(II)I"⟩
abbrev cX6_trace : ByteArray := prog_1_method_36_code
def yX6_trace : MethodName := ⟨RX6, "trace", "()I"⟩
abbrev cX6_fault : ByteArray := prog_1_method_37_code
def yX6_fault : MethodName := ⟨RX6, "fault", "()I"⟩
abbrev cX6_many : ByteArray := prog_1_method_38_code
def yX6_many : MethodName := ⟨RX6, "many", "(I)I"⟩
abbrev cX6_faulty : ByteArray := prog_1_method_39_code
def yX6_faulty : MethodName := ⟨RX6, "faulty", "(I)I"⟩
def RX7 : String := "FortyJarsModel"
def TX7 : u_T := fun k => match k with
  | 0 => ("FortyJarsModel", "fault", "I", false)
  | 1 => ("FortyJarsModel", "high", "I", false)
  | 2 => ("FortyJarsModel", "wide", "I", false)
  | 3 => ("FortyJarsModel", "hasIn", "[I", true)
  | 4 => ("FortyJarsModel", "men", "I", false)
  | 5 => ("FortyJarsModel", "kindOf", "[I", true)
  | 6 => ("FortyJarsModel", "earOf", "[I", true)
  | 7 => ("FortyJarsModel", "cellOfMan", "[I", true)
  | 8 => ("FortyJarsModel", "oils", "I", false)
  | 9 => ("FortyJarsModel", "cellOfOil", "[I", true)
  | 10 => ("FortyJarsModel", "canHolds", "I", false)
  | 11 => ("FortyJarsModel", "signIn", "I", false)
  | 12 => ("FortyJarsModel", "sleeping", "I", false)
  | 13 => ("FortyJarsModel", "readAt", "I", false)
  | 14 => ("FortyJarsModel", "readHigh", "I", false)
  | 15 => ("FortyJarsModel", "readWide", "I", false)
  | 16 => ("FortyJarsModel", "readMen", "I", false)
  | 17 => ("FortyJarsModel", "readOils", "I", false)
  | 18 => ("FortyJarsModel", "readIn", "[I", true)
  | 19 => ("FortyJarsModel", "readKind", "[I", true)
  | 20 => ("FortyJarsModel", "readEar", "[I", true)
  | 21 => ("FortyJarsModel", "readCell", "[I", true)
  | 22 => ("FortyJarsModel", "readOil", "[I", true)
  | 23 => ("FortyJarsModel", "isAt", "I", false)
  | 24 => ("FortyJarsModel", "inCan", "I", false)
  | 25 => ("FortyJarsModel", "standing", "I", false)
  | 26 => ("FortyJarsModel", "minutes", "I", false)
  | 27 => ("FortyJarsModel", "firstWrong", "I", false)
  | 28 => ("FortyJarsModel", "firstHeard", "I", false)
  | 29 => ("FortyJarsModel", "quietRow", "[I", true)
  | 30 => ("FortyJarsModel", "quietMany", "I", false)
  | 31 => ("FortyJarsModel", "soonIn", "[I", true)
  | 32 => ("FortyJarsModel", "readings", "I", false)
  | 33 => ("FortyJarsModel", "readingOf", "[I", true)
  | 34 => ("FortyJarsModel", "readingAt", "[I", true)
  | 35 => ("FortyJarsModel", "readingWas", "[Z", true)
  | 36 => ("FortyJarsModel", "sheetSize", "[I", true)
  | 37 => ("FortyJarsModel", "sheetLane", "[I", true)
  | 38 => ("FortyJarsModel", "sheet", "[I", true)
  | 39 => ("FortyJarsModel", "hands", "[I", true)
  | _ => ("FortyJarsModel", "traceNow", "I", false)
def tyX7 : Nat → FieldType := fun k => match k with
  | 0 => .int
  | 1 => .int
  | 2 => .int
  | 3 => .array .int
  | 4 => .int
  | 5 => .array .int
  | 6 => .array .int
  | 7 => .array .int
  | 8 => .int
  | 9 => .array .int
  | 10 => .int
  | 11 => .int
  | 12 => .int
  | 13 => .int
  | 14 => .int
  | 15 => .int
  | 16 => .int
  | 17 => .int
  | 18 => .array .int
  | 19 => .array .int
  | 20 => .array .int
  | 21 => .array .int
  | 22 => .array .int
  | 23 => .int
  | 24 => .int
  | 25 => .int
  | 26 => .int
  | 27 => .int
  | 28 => .int
  | 29 => .array .int
  | 30 => .int
  | 31 => .array .int
  | 32 => .int
  | 33 => .array .int
  | 34 => .array .int
  | 35 => .array .boolean
  | 36 => .array .int
  | 37 => .array .int
  | 38 => .array .int
  | 39 => .array .int
  | _ => .int
theorem nmX7 : ∀ a, a < 41 → ∀ b, b < 41 → a ≠ b → (TX7 a).2.1 ≠ (TX7 b).2.1 := by decide +kernel
theorem tyX7_ok : ∀ k, k < 41 → parseFieldDescriptor (TX7 k).2.2.1 = some (tyX7 k) := by decide +kernel
abbrev cX7_init : ByteArray := prog_9_method_1_code
def yX7_init : MethodName := ⟨RX7, "<init>", "()V"⟩
abbrev cX7_in : ByteArray := prog_9_method_2_code
def yX7_in : MethodName := ⟨RX7, "in", "(JJJ)Z"⟩
abbrev cX7_lost : ByteArray := prog_9_method_3_code
def yX7_lost : MethodName := ⟨RX7, "lost", "()J"⟩
abbrev cX7_isIn : ByteArray := prog_9_method_4_code
def yX7_isIn : MethodName := ⟨RX7, "isIn", "(II)Z"⟩
abbrev cX7_bits : ByteArray := prog_9_method_5_code
def yX7_bits : MethodName := ⟨RX7, "bits", "(I)I"⟩
abbrev cX7_told : ByteArray := prog_9_method_6_code
def yX7_told : MethodName := ⟨RX7, "told", "(JJI)J"⟩
abbrev cX7_refused : ByteArray := prog_9_method_7_code
def yX7_refused : MethodName := ⟨RX7, "refused", "(I)I"⟩
abbrev cX7_failed : ByteArray := prog_9_method_8_code
def yX7_failed : MethodName := ⟨RX7, "failed", "(I)I"⟩
abbrev cX7_failedLong : ByteArray := prog_9_method_9_code
def yX7_failedLong : MethodName := ⟨RX7, "failedLong", "(I)J"⟩
abbrev cX7_noSpot : ByteArray := prog_9_method_10_code
def yX7_noSpot : MethodName := ⟨RX7, "noSpot", "(I)Z"⟩
abbrev cX7_noMan : ByteArray := prog_9_method_11_code
def yX7_noMan : MethodName := ⟨RX7, "noMan", "(I)Z"⟩
abbrev cX7_all : ByteArray := prog_9_method_12_code
def yX7_all : MethodName := ⟨RX7, "all", "()I"⟩
abbrev cX7_codeAt : ByteArray := prog_9_method_13_code
def yX7_codeAt : MethodName := ⟨RX7, "codeAt", "(II)I"⟩
abbrev cX7_figure : ByteArray := prog_9_method_14_code
def yX7_figure : MethodName := ⟨RX7, "figure", "(IIII)I"⟩
abbrev cX7_readsMan : ByteArray := prog_9_method_15_code
def yX7_readsMan : MethodName := ⟨RX7, "readsMan", "(IIII)Z"⟩
abbrev cX7_readsCell : ByteArray := prog_9_method_16_code
def yX7_readsCell : MethodName := ⟨RX7, "readsCell", "(III)Z"⟩
abbrev cX7_readsYard : ByteArray := prog_9_method_17_code
def yX7_readsYard : MethodName := ⟨RX7, "readsYard", "(II)Z"⟩
abbrev cX7_cellsBarred : ByteArray := prog_9_method_18_code
def yX7_cellsBarred : MethodName := ⟨RX7, "cellsBarred", "(IIIJ)I"⟩
abbrev cX7_yard : ByteArray := prog_9_method_19_code
def yX7_yard : MethodName := ⟨RX7, "yard", "(IIII)I"⟩
abbrev cX7_inside : ByteArray := prog_9_method_20_code
def yX7_inside : MethodName := ⟨RX7, "inside", "(I)I"⟩
abbrev cX7_hearsOf : ByteArray := prog_9_method_21_code
def yX7_hearsOf : MethodName := ⟨RX7, "hearsOf", "(I)I"⟩
abbrev cX7_ofMan : ByteArray := prog_9_method_22_code
def yX7_ofMan : MethodName := ⟨RX7, "ofMan", "(II)I"⟩
abbrev cX7_farOf : ByteArray := prog_9_method_23_code
def yX7_farOf : MethodName := ⟨RX7, "farOf", "(II)I"⟩
abbrev cX7_far : ByteArray := prog_9_method_24_code
def yX7_far : MethodName := ⟨RX7, "far", "(II)I"⟩
abbrev cX7_can : ByteArray := prog_9_method_25_code
def yX7_can : MethodName := ⟨RX7, "can", "(I)I"⟩
abbrev cX7_delay : ByteArray := prog_9_method_26_code
def yX7_delay : MethodName := ⟨RX7, "delay", "(I)I"⟩
abbrev cX7_doze : ByteArray := prog_9_method_27_code
def yX7_doze : MethodName := ⟨RX7, "doze", "(IZ)I"⟩
abbrev cX7_hearersAt : ByteArray := prog_9_method_28_code
def yX7_hearersAt : MethodName := ⟨RX7, "hearersAt", "(II)I"⟩
abbrev cX7_ears : ByteArray := prog_9_method_29_code
def yX7_ears : MethodName := ⟨RX7, "ears", "(I)I"⟩
abbrev cX7_noStep : ByteArray := prog_9_method_30_code
def yX7_noStep : MethodName := ⟨RX7, "noStep", "(I)Z"⟩
abbrev cX7_goPlan : ByteArray := prog_9_method_31_code
def yX7_goPlan : MethodName := ⟨RX7, "goPlan", "(II)V"⟩
abbrev cX7_planBarred : ByteArray := prog_9_method_32_code
def yX7_planBarred : MethodName := ⟨RX7, "planBarred", "(IIIIZ)I"⟩
abbrev cX7_plan : ByteArray := prog_9_method_33_code
def yX7_plan : MethodName := ⟨RX7, "plan", "(IIIII)I"⟩
abbrev cX7_layQuiet : ByteArray := prog_9_method_34_code
def yX7_layQuiet : MethodName := ⟨RX7, "layQuiet", "()I"⟩
abbrev cX7_quiet : ByteArray := prog_9_method_35_code
def yX7_quiet : MethodName := ⟨RX7, "quiet", "(I)I"⟩
abbrev cX7_stuck : ByteArray := prog_9_method_36_code
def yX7_stuck : MethodName := ⟨RX7, "stuck", "()I"⟩
abbrev cX7_cellOfPlace : ByteArray := prog_9_method_37_code
def yX7_cellOfPlace : MethodName := ⟨RX7, "cellOfPlace", "(I)I"⟩
abbrev cX7_stateOf : ByteArray := prog_9_method_38_code
def yX7_stateOf : MethodName := ⟨RX7, "stateOf", "(III)I"⟩
abbrev cX7_goOn : ByteArray := prog_9_method_39_code
def yX7_goOn : MethodName := ⟨RX7, "goOn", "(I)Z"⟩
abbrev cX7_laySoon : ByteArray := prog_9_method_40_code
def yX7_laySoon : MethodName := ⟨RX7, "laySoon", "(I)V"⟩
abbrev cX7_soonestFor : ByteArray := prog_9_method_41_code
def yX7_soonestFor : MethodName := ⟨RX7, "soonestFor", "(I)I"⟩
abbrev cX7_soonestOf : ByteArray := prog_9_method_42_code
def yX7_soonestOf : MethodName := ⟨RX7, "soonestOf", "(I)I"⟩
abbrev cX7_soonest : ByteArray := prog_9_method_43_code
def yX7_soonest : MethodName := ⟨RX7, "soonest", "()I"⟩
abbrev cX7_most : ByteArray := prog_9_method_44_code
def yX7_most : MethodName := ⟨RX7, "most", "()I"⟩
abbrev cX7_without : ByteArray := prog_9_method_45_code
def yX7_without : MethodName := ⟨RX7, "without", "(I)I"⟩
abbrev cX7_reading : ByteArray := prog_9_method_46_code
def yX7_reading : MethodName := ⟨RX7, "reading", "(IIZ)I"⟩
abbrev cX7_back : ByteArray := prog_9_method_47_code
def yX7_back : MethodName := ⟨RX7, "back", "(I)I"⟩
abbrev cX7_areSo : ByteArray := prog_9_method_48_code
def yX7_areSo : MethodName := ⟨RX7, "areSo", "()Z"⟩
abbrev cX7_holds : ByteArray := prog_9_method_49_code
def yX7_holds : MethodName := ⟨RX7, "holds", "()I"⟩
abbrev cX7_hearing : ByteArray := prog_9_method_50_code
def yX7_hearing : MethodName := ⟨RX7, "hearing", "(I)I"⟩
abbrev cX7_kinds : ByteArray := prog_9_method_51_code
def yX7_kinds : MethodName := ⟨RX7, "kinds", "(I)I"⟩
abbrev cX7_odds : ByteArray := prog_9_method_52_code
def yX7_odds : MethodName := ⟨RX7, "odds", "(IIIII)J"⟩
abbrev cX7_noSheet : ByteArray := prog_9_method_53_code
def yX7_noSheet : MethodName := ⟨RX7, "noSheet", "(I)Z"⟩
abbrev cX7_sheet : ByteArray := prog_9_method_54_code
def yX7_sheet : MethodName := ⟨RX7, "sheet", "(III)I"⟩
abbrev cX7_lose : ByteArray := prog_9_method_55_code
def yX7_lose : MethodName := ⟨RX7, "lose", "(I)I"⟩
abbrev cX7_noCell : ByteArray := prog_9_method_56_code
def yX7_noCell : MethodName := ⟨RX7, "noCell", "(II)I"⟩
abbrev cX7_put : ByteArray := prog_9_method_57_code
def yX7_put : MethodName := ⟨RX7, "put", "(III)I"⟩
abbrev cX7_cell : ByteArray := prog_9_method_58_code
def yX7_cell : MethodName := ⟨RX7, "cell", "(III)J"⟩
abbrev cX7_isBeyond : ByteArray := prog_9_method_59_code
def yX7_isBeyond : MethodName := ⟨RX7, "isBeyond", "(IJI)Z"⟩
abbrev cX7_copy : ByteArray := prog_9_method_60_code
def yX7_copy : MethodName := ⟨RX7, "copy", "(IIIII)I"⟩
abbrev cX7_traced : ByteArray := prog_9_method_61_code
def yX7_traced : MethodName := ⟨RX7, "traced", "(I)V"⟩
abbrev cX7_tell : ByteArray := prog_9_method_62_code
def yX7_tell : MethodName := ⟨RX7, "tell", "(I)I"⟩
abbrev cX7_ask : ByteArray := prog_9_method_63_code
def yX7_ask : MethodName := ⟨RX7, "ask", "(I)I"⟩
abbrev cX7_as : ByteArray := prog_9_method_64_code
def yX7_as : MethodName := ⟨RX7, "as", "(II)I"⟩
abbrev cX7_trace : ByteArray := prog_9_method_65_code
def yX7_trace : MethodName := ⟨RX7, "trace", "()I"⟩
abbrev cX7_fault : ByteArray := prog_9_method_66_code
def yX7_fault : MethodName := ⟨RX7, "fault", "()I"⟩
abbrev cX7_many : ByteArray := prog_9_method_67_code
def yX7_many : MethodName := ⟨RX7, "many", "(I)I"⟩
def RJ6 : String := "java/lang/Integer"
def TJ6 : u_T := fun k => match k with
  | _ => ("", "", "", false)
def tyJ6 : Nat → FieldType := fun k => match k with
  | _ => .int
theorem nmJ6 : ∀ a, a < 0 → ∀ b, b < 0 → a ≠ b → (TJ6 a).2.1 ≠ (TJ6 b).2.1 := by decide +kernel
theorem tyJ6_ok : ∀ k, k < 0 → parseFieldDescriptor (TJ6 k).2.2.1 = some (tyJ6 k) := by decide +kernel
abbrev cJ6_bitCount_0f7a4 : ByteArray := prog_10_method_49_code
def yJ6_bitCount_0f7a4 : MethodName := ⟨RJ6, "bitCount", "(I)I"⟩
def RJ9 : String := "java/lang/Math"
def TJ9 : u_T := fun k => match k with
  | _ => ("", "", "", false)
def tyJ9 : Nat → FieldType := fun k => match k with
  | _ => .int
theorem nmJ9 : ∀ a, a < 0 → ∀ b, b < 0 → a ≠ b → (TJ9 a).2.1 ≠ (TJ9 b).2.1 := by decide +kernel
theorem tyJ9_ok : ∀ k, k < 0 → parseFieldDescriptor (TJ9 k).2.2.1 = some (tyJ9 k) := by decide +kernel
abbrev cJ9_abs_0f7a4 : ByteArray := prog_11_method_59_code
def yJ9_abs_0f7a4 : MethodName := ⟨RJ9, "abs", "(I)I"⟩
abbrev cJ9_min_7cf53 : ByteArray := prog_11_method_69_code
def yJ9_min_7cf53 : MethodName := ⟨RJ9, "min", "(II)I"⟩
def RJ10 : String := "java/lang/System"
def TJ10 : u_T := fun k => match k with
  | _ => ("", "", "", false)
def tyJ10 : Nat → FieldType := fun k => match k with
  | _ => .int
theorem nmJ10 : ∀ a, a < 0 → ∀ b, b < 0 → a ≠ b → (TJ10 a).2.1 ≠ (TJ10 b).2.1 := by decide +kernel
theorem tyJ10_ok : ∀ k, k < 0 → parseFieldDescriptor (TJ10 k).2.2.1 = some (tyJ10 k) := by decide +kernel
def RL : String := "FortyJarsLaw"
abbrev cL_law : ByteArray := code
def yL_law : MethodName := ⟨RL, "law", "([I)Z"⟩
end
section
/-! ===== tables of the abstract machine: laid by wip/whole/gen1.py ===== -/
abbrev fj_AI : Type := Instr × Nat × Nat × Nat × Int × List Nat
/-- the words: all that any method needs -/
def fj_T : List Jvm.Cond := lw_tbl.filter goodWord
/-- private constructors of nest mates -/
def fj_N : List Jvm.Cond := [.methodLinkNest RX6 11 yX3_init "FortyJars", .methodLinkNest RX6 20 yX1_init "FortyJars", .methodLinkNest RX6 27 yX4_init "FortyJars", .methodLinkNest RX6 34 yX0_init "FortyJars", .methodLinkNest RX6 41 yX2_init "FortyJars", .methodLinkNest RX6 52 yX5_init "FortyJars"]
def fj_cl : List vw_C := [(RX0, TX0, 3), (RX1, TX1, 4), (RX2, TX2, 3), (RX3, TX3, 3), (RX4, TX4, 7), (RX5, TX5, 13), (RX6, TX6, 10), (RX7, TX7, 41)]
/-- how many fields -/
def fj_nF : Nat → Nat := fun k => match k with
  | 0 => 3
  | 1 => 4
  | 2 => 3
  | 3 => 3
  | 4 => 7
  | 5 => 13
  | 6 => 10
  | _ => 41
/-- whether a field holds a reference -/
def fj_rf : List (List Bool) := [[true, false, false], [false, true, true, true], [true, true, true], [true, true, true], [false, false, false, false, false, false, false], [false, false, false, false, false, false, true, true, true, true, true, true, true], [true, true, true, true, true, true, true, true, false, false], [false, false, false, true, false, true, true, true, false, true, false, false, false, false, false, false, false, false, true, true, true, true, true, false, false, false, false, false, false, true, false, true, false, true, true, true, true, true, true, true, false]]
def fj_isR (c k : Nat) : Bool := (fj_rf.getD c []).getD k false
def fj_i0 : List (Nat × fj_AI) := [(0, (.aload_n 0, 1, 0, 0, 0, [])), (1, (.invokespecial 3, 3, 999, 0, 0, [150, 70, 71])), (4, (.aload_n 0, 1, 0, 0, 0, [])), (5, (.bipush 6, 2, 0, 0, 6, [])), (7, (.newarray .int, 2, 1, 0, 0, [88])), (9, (.putfield 11, 3, 0, 0, 0, [151])), (12, (.return_, 1, 0, 0, 0, []))]
def fj_i1 : List (Nat × fj_AI) := [(0, (.aload_n 0, 1, 0, 0, 0, [])), (1, (.iconst 0, 1, 0, 0, 0, [])), (2, (.putfield 17, 3, 0, 1, 0, [153])), (5, (.aload_n 0, 1, 0, 0, 0, [])), (6, (.iconst 1, 1, 0, 0, 1, [])), (7, (.aload_n 1, 1, 1, 0, 0, [])), (8, (.getfield 21, 3, 5, 1, 0, [189])), (11, (.ishl, 1, 0, 0, 0, [])), (12, (.iconst 1, 1, 0, 0, 1, [])), (13, (.isub, 1, 0, 0, 0, [])), (14, (.putfield 24, 3, 0, 2, 0, [155])), (17, (.iconst 0, 1, 0, 0, 0, [])), (18, (.istore_n 2, 1, 2, 0, 0, [])), (19, (.iload_n 2, 1, 2, 0, 0, [])), (20, (.aload_n 1, 1, 1, 0, 0, [])), (21, (.getfield 21, 3, 5, 1, 0, [189])), (24, (.if_icmp .ge 56, 3, 80, 0, 0, [])), (27, (.aload_n 0, 1, 0, 0, 0, [])), (28, (.aload_n 1, 1, 1, 0, 0, [])), (29, (.invokevirtual 27, 3, 2, 1, 0, [458, 460, 13, 57, 461])), (32, (.istore_n 3, 1, 3, 0, 0, [])), (33, (.iload_n 3, 1, 3, 0, 0, [])), (34, (.bipush (-9), 2, 0, 0, (-9), [])), (36, (.if_icmp .ne 4, 3, 40, 0, 0, [])), (39, (.return_, 1, 0, 0, 0, [])), (40, (.aload_n 0, 1, 0, 0, 0, [])), (41, (.getfield 11, 3, 0, 0, 0, [151])), (44, (.aload_n 0, 1, 0, 0, 0, [])), (45, (.getfield 17, 3, 0, 1, 0, [153])), (48, (.iload_n 3, 1, 3, 0, 0, [])), (49, (.iastore, 1, 0, 0, 0, [])), (50, (.aload_n 0, 1, 0, 0, 0, [])), (51, (.dup, 1, 0, 0, 0, [])), (52, (.getfield 17, 3, 0, 1, 0, [153])), (55, (.iconst 1, 1, 0, 0, 1, [])), (56, (.iadd, 1, 0, 0, 0, [])), (57, (.putfield 17, 3, 0, 1, 0, [153])), (60, (.aload_n 0, 1, 0, 0, 0, [])), (61, (.dup, 1, 0, 0, 0, [])), (62, (.getfield 24, 3, 0, 2, 0, [155])), (65, (.iconst 1, 1, 0, 0, 1, [])), (66, (.iload_n 3, 1, 3, 0, 0, [])), (67, (.ishl, 1, 0, 0, 0, [])), (68, (.iconst (-1), 1, 0, 0, (-1), [])), (69, (.ixor, 1, 0, 0, 0, [])), (70, (.iand, 1, 0, 0, 0, [])), (71, (.putfield 24, 3, 0, 2, 0, [155])), (74, (.iinc 2 1, 3, 2, 0, 1, [])), (77, (.goto (-58), 3, 19, 0, 0, [])), (80, (.return_, 1, 0, 0, 0, []))]
def fj_i2 : List (Nat × fj_AI) := [(0, (.iconst 0, 1, 0, 0, 0, [])), (1, (.istore_n 2, 1, 2, 0, 0, [])), (2, (.iload_n 2, 1, 2, 0, 0, [])), (3, (.aload_n 1, 1, 1, 0, 0, [])), (4, (.getfield 21, 3, 5, 1, 0, [189])), (7, (.if_icmp .ge 67, 3, 74, 0, 0, [])), (10, (.aload_n 0, 1, 0, 0, 0, [])), (11, (.getfield 24, 3, 0, 2, 0, [155])), (14, (.iconst 1, 1, 0, 0, 1, [])), (15, (.iload_n 2, 1, 2, 0, 0, [])), (16, (.ishl, 1, 0, 0, 0, [])), (17, (.iconst (-1), 1, 0, 0, (-1), [])), (18, (.ixor, 1, 0, 0, 0, [])), (19, (.iand, 1, 0, 0, 0, [])), (20, (.aload_n 1, 1, 1, 0, 0, [])), (21, (.getfield 31, 3, 5, 3, 0, [195])), (24, (.iconst (-1), 1, 0, 0, (-1), [])), (25, (.ixor, 1, 0, 0, 0, [])), (26, (.iand, 1, 0, 0, 0, [])), (27, (.istore_n 3, 1, 3, 0, 0, [])), (28, (.aload_n 0, 1, 0, 0, 0, [])), (29, (.getfield 24, 3, 0, 2, 0, [155])), (32, (.iload_n 2, 1, 2, 0, 0, [])), (33, (.ishr, 1, 0, 0, 0, [])), (34, (.iconst 1, 1, 0, 0, 1, [])), (35, (.iand, 1, 0, 0, 0, [])), (36, (.ifCond .eq 7, 3, 43, 0, 0, [])), (39, (.iconst 1, 1, 0, 0, 1, [])), (40, (.goto 4, 3, 44, 0, 0, [])), (43, (.iconst 0, 1, 0, 0, 0, [])), (44, (.istore 4, 2, 4, 0, 0, [])), (46, (.iload 4, 2, 4, 0, 0, [])), (48, (.ifCond .eq 20, 3, 68, 0, 0, [])), (51, (.aload_n 1, 1, 1, 0, 0, [])), (52, (.aload_n 1, 1, 1, 0, 0, [])), (53, (.getfield 34, 3, 5, 9, 0, [215])), (56, (.iload_n 2, 1, 2, 0, 0, [])), (57, (.iaload, 1, 0, 0, 0, [])), (58, (.invokevirtual 37, 3, 54, 1, 0, [462, 406, 407, 59, 408])), (61, (.iload_n 3, 1, 3, 0, 0, [])), (62, (.iand, 1, 0, 0, 0, [])), (63, (.ifCond .ne 5, 3, 68, 0, 0, [])), (66, (.iload_n 2, 1, 2, 0, 0, [])), (67, (.ireturn, 1, 0, 0, 0, [])), (68, (.iinc 2 1, 3, 2, 0, 1, [])), (71, (.goto (-69), 3, 2, 0, 0, [])), (74, (.bipush (-9), 2, 0, 0, (-9), [])), (76, (.ireturn, 1, 0, 0, 0, []))]
def fj_i3 : List (Nat × fj_AI) := [(0, (.aload_n 0, 1, 0, 0, 0, [])), (1, (.invokespecial 1, 3, 999, 0, 0, [94, 70, 71])), (4, (.aload_n 0, 1, 0, 0, 0, [])), (5, (.bipush 8, 2, 0, 0, 8, [])), (7, (.newarray .int, 2, 1, 0, 0, [88])), (9, (.putfield 9, 3, 1, 1, 0, [97])), (12, (.aload_n 0, 1, 0, 0, 0, [])), (13, (.bipush 8, 2, 0, 0, 8, [])), (15, (.newarray .int, 2, 1, 0, 0, [88])), (17, (.putfield 13, 3, 1, 2, 0, [98])), (20, (.aload_n 0, 1, 0, 0, 0, [])), (21, (.bipush 8, 2, 0, 0, 8, [])), (23, (.newarray .boolean, 2, 2, 0, 0, [109])), (25, (.putfield 16, 3, 1, 3, 0, [99])), (28, (.return_, 1, 0, 0, 0, []))]
def fj_i4 : List (Nat × fj_AI) := [(0, (.aload_n 0, 1, 0, 0, 0, [])), (1, (.getfield 9, 3, 1, 1, 0, [97])), (4, (.aload_n 0, 1, 0, 0, 0, [])), (5, (.getfield 20, 3, 1, 0, 0, [95])), (8, (.iload_n 1, 1, 1, 0, 0, [])), (9, (.iastore, 1, 0, 0, 0, [])), (10, (.aload_n 0, 1, 0, 0, 0, [])), (11, (.getfield 13, 3, 1, 2, 0, [98])), (14, (.aload_n 0, 1, 0, 0, 0, [])), (15, (.getfield 20, 3, 1, 0, 0, [95])), (18, (.iload_n 2, 1, 2, 0, 0, [])), (19, (.iastore, 1, 0, 0, 0, [])), (20, (.aload_n 0, 1, 0, 0, 0, [])), (21, (.getfield 16, 3, 1, 3, 0, [99])), (24, (.aload_n 0, 1, 0, 0, 0, [])), (25, (.getfield 20, 3, 1, 0, 0, [95])), (28, (.iload_n 3, 1, 3, 0, 0, [])), (29, (.bastore, 1, 0, 0, 0, [])), (30, (.aload_n 0, 1, 0, 0, 0, [])), (31, (.dup, 1, 0, 0, 0, [])), (32, (.getfield 20, 3, 1, 0, 0, [95])), (35, (.iconst 1, 1, 0, 0, 1, [])), (36, (.iadd, 1, 0, 0, 0, [])), (37, (.putfield 20, 3, 1, 0, 0, [95])), (40, (.aload_n 0, 1, 0, 0, 0, [])), (41, (.getfield 20, 3, 1, 0, 0, [95])), (44, (.iconst 1, 1, 0, 0, 1, [])), (45, (.isub, 1, 0, 0, 0, [])), (46, (.ireturn, 1, 0, 0, 0, []))]
def fj_i5 : List (Nat × fj_AI) := [(0, (.iconst 0, 1, 0, 0, 0, [])), (1, (.istore_n 2, 1, 2, 0, 0, [])), (2, (.iload_n 2, 1, 2, 0, 0, [])), (3, (.aload_n 0, 1, 0, 0, 0, [])), (4, (.getfield 20, 3, 1, 0, 0, [95])), (7, (.if_icmp .ge 42, 3, 49, 0, 0, [])), (10, (.aload_n 0, 1, 0, 0, 0, [])), (11, (.aload_n 1, 1, 1, 0, 0, [])), (12, (.iload_n 2, 1, 2, 0, 0, [])), (13, (.aload_n 1, 1, 1, 0, 0, [])), (14, (.getfield 24, 3, 5, 7, 0, [209])), (17, (.aload_n 0, 1, 0, 0, 0, [])), (18, (.getfield 9, 3, 1, 1, 0, [97])), (21, (.iload_n 2, 1, 2, 0, 0, [])), (22, (.iaload, 1, 0, 0, 0, [])), (23, (.iaload, 1, 0, 0, 0, [])), (24, (.aload_n 1, 1, 1, 0, 0, [])), (25, (.getfield 29, 3, 5, 8, 0, [212])), (28, (.aload_n 0, 1, 0, 0, 0, [])), (29, (.getfield 9, 3, 1, 1, 0, [97])), (32, (.iload_n 2, 1, 2, 0, 0, [])), (33, (.iaload, 1, 0, 0, 0, [])), (34, (.iaload, 1, 0, 0, 0, [])), (35, (.invokevirtual 32, 3, 7, 4, 0, [546, 548, 20, 55, 549])), (38, (.ifCond .ne 5, 3, 43, 0, 0, [])), (41, (.iconst 0, 1, 0, 0, 0, [])), (42, (.ireturn, 1, 0, 0, 0, [])), (43, (.iinc 2 1, 3, 2, 0, 1, [])), (46, (.goto (-44), 3, 2, 0, 0, [])), (49, (.iconst 1, 1, 0, 0, 1, [])), (50, (.ireturn, 1, 0, 0, 0, []))]
def fj_i6 : List (Nat × fj_AI) := [(0, (.iconst 0, 1, 0, 0, 0, [])), (1, (.istore 5, 2, 5, 0, 0, [])), (3, (.iload 5, 2, 5, 0, 0, [])), (5, (.aload_n 0, 1, 0, 0, 0, [])), (6, (.getfield 20, 3, 1, 0, 0, [95])), (9, (.if_icmp .ge 67, 3, 76, 0, 0, [])), (12, (.aload_n 0, 1, 0, 0, 0, [])), (13, (.getfield 9, 3, 1, 1, 0, [97])), (16, (.iload 5, 2, 5, 0, 0, [])), (18, (.iaload, 1, 0, 0, 0, [])), (19, (.istore 6, 2, 6, 0, 0, [])), (21, (.iload 6, 2, 6, 0, 0, [])), (23, (.iload_n 2, 1, 2, 0, 0, [])), (24, (.if_icmp .ne 16, 3, 40, 0, 0, [])), (27, (.aload_n 0, 1, 0, 0, 0, [])), (28, (.aload_n 1, 1, 1, 0, 0, [])), (29, (.iload 5, 2, 5, 0, 0, [])), (31, (.iload_n 3, 1, 3, 0, 0, [])), (32, (.iload 4, 2, 4, 0, 0, [])), (34, (.invokevirtual 32, 3, 7, 4, 0, [546, 548, 20, 55, 549])), (37, (.goto 24, 3, 61, 0, 0, [])), (40, (.aload_n 0, 1, 0, 0, 0, [])), (41, (.aload_n 1, 1, 1, 0, 0, [])), (42, (.iload 5, 2, 5, 0, 0, [])), (44, (.aload_n 1, 1, 1, 0, 0, [])), (45, (.getfield 24, 3, 5, 7, 0, [209])), (48, (.iload 6, 2, 6, 0, 0, [])), (50, (.iaload, 1, 0, 0, 0, [])), (51, (.aload_n 1, 1, 1, 0, 0, [])), (52, (.getfield 29, 3, 5, 8, 0, [212])), (55, (.iload 6, 2, 6, 0, 0, [])), (57, (.iaload, 1, 0, 0, 0, [])), (58, (.invokevirtual 32, 3, 7, 4, 0, [546, 548, 20, 55, 549])), (61, (.istore 7, 2, 7, 0, 0, [])), (63, (.iload 7, 2, 7, 0, 0, [])), (65, (.ifCond .ne 5, 3, 70, 0, 0, [])), (68, (.iconst 0, 1, 0, 0, 0, [])), (69, (.ireturn, 1, 0, 0, 0, [])), (70, (.iinc 5 1, 3, 5, 0, 1, [])), (73, (.goto (-70), 3, 3, 0, 0, [])), (76, (.iconst 1, 1, 0, 0, 1, [])), (77, (.ireturn, 1, 0, 0, 0, []))]
def fj_i7 : List (Nat × fj_AI) := [(0, (.aload_n 1, 1, 1, 0, 0, [])), (1, (.aload_n 0, 1, 0, 0, 0, [])), (2, (.getfield 13, 3, 1, 2, 0, [98])), (5, (.iload_n 2, 1, 2, 0, 0, [])), (6, (.iaload, 1, 0, 0, 0, [])), (7, (.aload_n 1, 1, 1, 0, 0, [])), (8, (.getfield 36, 3, 5, 9, 0, [216])), (11, (.aload_n 0, 1, 0, 0, 0, [])), (12, (.getfield 9, 3, 1, 1, 0, [97])), (15, (.iload_n 2, 1, 2, 0, 0, [])), (16, (.iaload, 1, 0, 0, 0, [])), (17, (.iaload, 1, 0, 0, 0, [])), (18, (.invokevirtual 39, 3, 52, 2, 0, [550, 379, 380, 59, 381])), (21, (.iload_n 3, 1, 3, 0, 0, [])), (22, (.iload 4, 2, 4, 0, 0, [])), (24, (.invokestatic 43, 3, 53, 2, 0, [551, 368, 59, 369])), (27, (.if_icmp .gt 7, 3, 34, 0, 0, [])), (30, (.iconst 1, 1, 0, 0, 1, [])), (31, (.goto 4, 3, 35, 0, 0, [])), (34, (.iconst 0, 1, 0, 0, 0, [])), (35, (.istore 5, 2, 5, 0, 0, [])), (37, (.iload 5, 2, 5, 0, 0, [])), (39, (.aload_n 0, 1, 0, 0, 0, [])), (40, (.getfield 16, 3, 1, 3, 0, [99])), (43, (.iload_n 2, 1, 2, 0, 0, [])), (44, (.baload, 1, 0, 0, 0, [])), (45, (.if_icmp .ne 7, 3, 52, 0, 0, [])), (48, (.iconst 1, 1, 0, 0, 1, [])), (49, (.goto 4, 3, 53, 0, 0, [])), (52, (.iconst 0, 1, 0, 0, 0, [])), (53, (.ireturn, 1, 0, 0, 0, []))]
def fj_i8 : List (Nat × fj_AI) := [(0, (.aload_n 0, 1, 0, 0, 0, [])), (1, (.invokespecial 9, 3, 999, 0, 0, [169, 70, 71])), (4, (.aload_n 0, 1, 0, 0, 0, [])), (5, (.sipush 2688, 3, 0, 0, 2688, [])), (8, (.newarray .int, 2, 1, 0, 0, [88])), (10, (.putfield 15, 3, 2, 0, 0, [170])), (13, (.aload_n 0, 1, 0, 0, 0, [])), (14, (.bipush 64, 2, 0, 0, 64, [])), (16, (.newarray .int, 2, 1, 0, 0, [88])), (18, (.putfield 19, 3, 2, 1, 0, [171])), (21, (.aload_n 0, 1, 0, 0, 0, [])), (22, (.bipush 6, 2, 0, 0, 6, [])), (24, (.newarray .int, 2, 1, 0, 0, [88])), (26, (.putfield 22, 3, 2, 2, 0, [172])), (29, (.return_, 1, 0, 0, 0, []))]
def fj_i9 : List (Nat × fj_AI) := [(0, (.iconst 1, 1, 0, 0, 1, [])), (1, (.aload_n 1, 1, 1, 0, 0, [])), (2, (.getfield 25, 3, 5, 1, 0, [188])), (5, (.ishl, 1, 0, 0, 0, [])), (6, (.iconst 1, 1, 0, 0, 1, [])), (7, (.isub, 1, 0, 0, 0, [])), (8, (.istore_n 3, 1, 3, 0, 0, [])), (9, (.aload_n 0, 1, 0, 0, 0, [])), (10, (.aload_n 1, 1, 1, 0, 0, [])), (11, (.iload_n 3, 1, 3, 0, 0, [])), (12, (.iload_n 2, 1, 2, 0, 0, [])), (13, (.iconst (-1), 1, 0, 0, (-1), [])), (14, (.ixor, 1, 0, 0, 0, [])), (15, (.iand, 1, 0, 0, 0, [])), (16, (.invokevirtual 29, 3, 11, 2, 0, [475, 477, 14, 58, 478])), (19, (.aload_n 0, 1, 0, 0, 0, [])), (20, (.getfield 19, 3, 2, 1, 0, [171])), (23, (.iload_n 3, 1, 3, 0, 0, [])), (24, (.iload_n 2, 1, 2, 0, 0, [])), (25, (.iconst (-1), 1, 0, 0, (-1), [])), (26, (.ixor, 1, 0, 0, 0, [])), (27, (.iand, 1, 0, 0, 0, [])), (28, (.iaload, 1, 0, 0, 0, [])), (29, (.istore 4, 2, 4, 0, 0, [])), (31, (.iload 4, 2, 4, 0, 0, [])), (33, (.ldc 33, 2, 0, 0, 2147483647, [483])), (35, (.if_icmp .ne 8, 3, 43, 0, 0, [])), (38, (.bipush (-9), 2, 0, 0, (-9), [])), (40, (.goto 5, 3, 45, 0, 0, [])), (43, (.iload 4, 2, 4, 0, 0, [])), (45, (.ireturn, 1, 0, 0, 0, []))]
def fj_i10 : List (Nat × fj_AI) := [(0, (.iconst 1, 1, 0, 0, 1, [])), (1, (.aload_n 1, 1, 1, 0, 0, [])), (2, (.getfield 25, 3, 5, 1, 0, [188])), (5, (.ishl, 1, 0, 0, 0, [])), (6, (.iconst 1, 1, 0, 0, 1, [])), (7, (.isub, 1, 0, 0, 0, [])), (8, (.istore_n 3, 1, 3, 0, 0, [])), (9, (.aload_n 0, 1, 0, 0, 0, [])), (10, (.aload_n 1, 1, 1, 0, 0, [])), (11, (.iload_n 3, 1, 3, 0, 0, [])), (12, (.invokevirtual 29, 3, 11, 2, 0, [475, 477, 14, 58, 478])), (15, (.iconst 0, 1, 0, 0, 0, [])), (16, (.istore 4, 2, 4, 0, 0, [])), (18, (.iconst 1, 1, 0, 0, 1, [])), (19, (.istore 5, 2, 5, 0, 0, [])), (21, (.iload 5, 2, 5, 0, 0, [])), (23, (.iload_n 3, 1, 3, 0, 0, [])), (24, (.if_icmp .gt 49, 3, 73, 0, 0, [])), (27, (.aload_n 0, 1, 0, 0, 0, [])), (28, (.getfield 19, 3, 2, 1, 0, [171])), (31, (.iload 5, 2, 5, 0, 0, [])), (33, (.iaload, 1, 0, 0, 0, [])), (34, (.iload_n 2, 1, 2, 0, 0, [])), (35, (.if_icmp .gt 7, 3, 42, 0, 0, [])), (38, (.iconst 1, 1, 0, 0, 1, [])), (39, (.goto 4, 3, 43, 0, 0, [])), (42, (.iconst 0, 1, 0, 0, 0, [])), (43, (.istore 6, 2, 6, 0, 0, [])), (45, (.iload 6, 2, 6, 0, 0, [])), (47, (.ifCond .eq 20, 3, 67, 0, 0, [])), (50, (.iload 5, 2, 5, 0, 0, [])), (52, (.invokestatic 34, 3, 163, 1, 0, [516, 517, 62, 518])), (55, (.iload 4, 2, 4, 0, 0, [])), (57, (.invokestatic 34, 3, 163, 1, 0, [516, 517, 62, 518])), (60, (.if_icmp .le 7, 3, 67, 0, 0, [])), (63, (.iload 5, 2, 5, 0, 0, [])), (65, (.istore 4, 2, 4, 0, 0, [])), (67, (.iinc 5 1, 3, 5, 0, 1, [])), (70, (.goto (-49), 3, 21, 0, 0, [])), (73, (.iload 4, 2, 4, 0, 0, [])), (75, (.ireturn, 1, 0, 0, 0, []))]
def fj_i11 : List (Nat × fj_AI) := [(0, (.aload_n 0, 1, 0, 0, 0, [])), (1, (.aload_n 1, 1, 1, 0, 0, [])), (2, (.iload_n 2, 1, 2, 0, 0, [])), (3, (.invokevirtual 38, 3, 13, 2, 0, [479, 481, 15, 58, 482])), (6, (.iconst 0, 1, 0, 0, 0, [])), (7, (.istore_n 3, 1, 3, 0, 0, [])), (8, (.iload_n 3, 1, 3, 0, 0, [])), (9, (.iload_n 2, 1, 2, 0, 0, [])), (10, (.if_icmp .gt 74, 3, 84, 0, 0, [])), (13, (.aload_n 0, 1, 0, 0, 0, [])), (14, (.getfield 19, 3, 2, 1, 0, [171])), (17, (.iload_n 3, 1, 3, 0, 0, [])), (18, (.aload_n 0, 1, 0, 0, 0, [])), (19, (.iload_n 3, 1, 3, 0, 0, [])), (20, (.invokevirtual 41, 3, 14, 1, 0, [485, 487, 16, 58, 488])), (23, (.iastore, 1, 0, 0, 0, [])), (24, (.aload_n 0, 1, 0, 0, 0, [])), (25, (.getfield 19, 3, 2, 1, 0, [171])), (28, (.iload_n 3, 1, 3, 0, 0, [])), (29, (.iaload, 1, 0, 0, 0, [])), (30, (.ldc 33, 2, 0, 0, 2147483647, [483])), (32, (.if_icmp .ne 6, 3, 38, 0, 0, [])), (35, (.goto 43, 3, 78, 0, 0, [])), (38, (.iconst 0, 1, 0, 0, 0, [])), (39, (.istore 4, 2, 4, 0, 0, [])), (41, (.iload 4, 2, 4, 0, 0, [])), (43, (.aload_n 1, 1, 1, 0, 0, [])), (44, (.getfield 25, 3, 5, 1, 0, [188])), (47, (.if_icmp .ge 31, 3, 78, 0, 0, [])), (50, (.aload_n 0, 1, 0, 0, 0, [])), (51, (.iload 4, 2, 4, 0, 0, [])), (53, (.iload_n 2, 1, 2, 0, 0, [])), (54, (.iload_n 3, 1, 3, 0, 0, [])), (55, (.iconst (-1), 1, 0, 0, (-1), [])), (56, (.ixor, 1, 0, 0, 0, [])), (57, (.iand, 1, 0, 0, 0, [])), (58, (.invokevirtual 44, 3, 12, 2, 0, [492, 494, 17, 58, 495])), (61, (.ifCond .eq 11, 3, 72, 0, 0, [])), (64, (.aload_n 0, 1, 0, 0, 0, [])), (65, (.aload_n 1, 1, 1, 0, 0, [])), (66, (.iload_n 3, 1, 3, 0, 0, [])), (67, (.iload 4, 2, 4, 0, 0, [])), (69, (.invokevirtual 48, 3, 15, 3, 0, [496, 498, 18, 58, 499])), (72, (.iinc 4 1, 3, 4, 0, 1, [])), (75, (.goto (-34), 3, 41, 0, 0, [])), (78, (.iinc 3 1, 3, 3, 0, 1, [])), (81, (.goto (-73), 3, 8, 0, 0, [])), (84, (.return_, 1, 0, 0, 0, []))]
def fj_i12 : List (Nat × fj_AI) := [(0, (.iload_n 2, 1, 2, 0, 0, [])), (1, (.iload_n 1, 1, 1, 0, 0, [])), (2, (.ishr, 1, 0, 0, 0, [])), (3, (.iconst 1, 1, 0, 0, 1, [])), (4, (.iand, 1, 0, 0, 0, [])), (5, (.ifCond .eq 18, 3, 23, 0, 0, [])), (8, (.aload_n 0, 1, 0, 0, 0, [])), (9, (.getfield 22, 3, 2, 2, 0, [172])), (12, (.iload_n 1, 1, 1, 0, 0, [])), (13, (.iaload, 1, 0, 0, 0, [])), (14, (.iload_n 2, 1, 2, 0, 0, [])), (15, (.iand, 1, 0, 0, 0, [])), (16, (.ifCond .ne 7, 3, 23, 0, 0, [])), (19, (.iconst 1, 1, 0, 0, 1, [])), (20, (.goto 4, 3, 24, 0, 0, [])), (23, (.iconst 0, 1, 0, 0, 0, [])), (24, (.ireturn, 1, 0, 0, 0, []))]
def fj_i13 : List (Nat × fj_AI) := [(0, (.iconst 0, 1, 0, 0, 0, [])), (1, (.istore_n 3, 1, 3, 0, 0, [])), (2, (.iload_n 3, 1, 3, 0, 0, [])), (3, (.iload_n 2, 1, 2, 0, 0, [])), (4, (.iconst 1, 1, 0, 0, 1, [])), (5, (.iadd, 1, 0, 0, 0, [])), (6, (.bipush 7, 2, 0, 0, 7, [])), (8, (.imul, 1, 0, 0, 0, [])), (9, (.bipush 6, 2, 0, 0, 6, [])), (11, (.imul, 1, 0, 0, 0, [])), (12, (.if_icmp .ge 17, 3, 29, 0, 0, [])), (15, (.aload_n 0, 1, 0, 0, 0, [])), (16, (.getfield 15, 3, 2, 0, 0, [170])), (19, (.iload_n 3, 1, 3, 0, 0, [])), (20, (.ldc 33, 2, 0, 0, 2147483647, [483])), (22, (.iastore, 1, 0, 0, 0, [])), (23, (.iinc 3 1, 3, 3, 0, 1, [])), (26, (.goto (-24), 3, 2, 0, 0, [])), (29, (.aload_n 0, 1, 0, 0, 0, [])), (30, (.getfield 15, 3, 2, 0, 0, [170])), (33, (.bipush 36, 2, 0, 0, 36, [])), (35, (.iconst 0, 1, 0, 0, 0, [])), (36, (.iastore, 1, 0, 0, 0, [])), (37, (.iconst 0, 1, 0, 0, 0, [])), (38, (.istore_n 3, 1, 3, 0, 0, [])), (39, (.iload_n 3, 1, 3, 0, 0, [])), (40, (.aload_n 1, 1, 1, 0, 0, [])), (41, (.getfield 25, 3, 5, 1, 0, [188])), (44, (.if_icmp .ge 38, 3, 82, 0, 0, [])), (47, (.aload_n 0, 1, 0, 0, 0, [])), (48, (.getfield 22, 3, 2, 2, 0, [172])), (51, (.iload_n 3, 1, 3, 0, 0, [])), (52, (.aload_n 1, 1, 1, 0, 0, [])), (53, (.aload_n 1, 1, 1, 0, 0, [])), (54, (.getfield 52, 3, 5, 9, 0, [219])), (57, (.iload_n 3, 1, 3, 0, 0, [])), (58, (.iaload, 1, 0, 0, 0, [])), (59, (.invokevirtual 55, 3, 54, 1, 0, [484, 406, 407, 59, 408])), (62, (.aload_n 1, 1, 1, 0, 0, [])), (63, (.getfield 58, 3, 5, 3, 0, [197])), (66, (.iconst (-1), 1, 0, 0, (-1), [])), (67, (.ixor, 1, 0, 0, 0, [])), (68, (.iand, 1, 0, 0, 0, [])), (69, (.iconst 1, 1, 0, 0, 1, [])), (70, (.iload_n 3, 1, 3, 0, 0, [])), (71, (.ishl, 1, 0, 0, 0, [])), (72, (.iconst (-1), 1, 0, 0, (-1), [])), (73, (.ixor, 1, 0, 0, 0, [])), (74, (.iand, 1, 0, 0, 0, [])), (75, (.iastore, 1, 0, 0, 0, [])), (76, (.iinc 3 1, 3, 3, 0, 1, [])), (79, (.goto (-40), 3, 39, 0, 0, [])), (82, (.return_, 1, 0, 0, 0, []))]
def fj_i14 : List (Nat × fj_AI) := [(0, (.ldc 33, 2, 0, 0, 2147483647, [483])), (2, (.istore_n 2, 1, 2, 0, 0, [])), (3, (.iload_n 1, 1, 1, 0, 0, [])), (4, (.bipush 7, 2, 0, 0, 7, [])), (6, (.imul, 1, 0, 0, 0, [])), (7, (.bipush 6, 2, 0, 0, 6, [])), (9, (.imul, 1, 0, 0, 0, [])), (10, (.istore_n 3, 1, 3, 0, 0, [])), (11, (.iload_n 3, 1, 3, 0, 0, [])), (12, (.iload_n 1, 1, 1, 0, 0, [])), (13, (.iconst 1, 1, 0, 0, 1, [])), (14, (.iadd, 1, 0, 0, 0, [])), (15, (.bipush 7, 2, 0, 0, 7, [])), (17, (.imul, 1, 0, 0, 0, [])), (18, (.bipush 6, 2, 0, 0, 6, [])), (20, (.imul, 1, 0, 0, 0, [])), (21, (.if_icmp .ge 20, 3, 41, 0, 0, [])), (24, (.iload_n 2, 1, 2, 0, 0, [])), (25, (.aload_n 0, 1, 0, 0, 0, [])), (26, (.getfield 15, 3, 2, 0, 0, [170])), (29, (.iload_n 3, 1, 3, 0, 0, [])), (30, (.iaload, 1, 0, 0, 0, [])), (31, (.invokestatic 61, 3, 996, 0, 0, [489, 490, 61, 491])), (34, (.istore_n 2, 1, 2, 0, 0, [])), (35, (.iinc 3 1, 3, 3, 0, 1, [])), (38, (.goto (-27), 3, 11, 0, 0, [])), (41, (.iload_n 2, 1, 2, 0, 0, [])), (42, (.ireturn, 1, 0, 0, 0, []))]
def fj_i15 : List (Nat × fj_AI) := [(0, (.iconst 0, 1, 0, 0, 0, [])), (1, (.istore 4, 2, 4, 0, 0, [])), (3, (.iload 4, 2, 4, 0, 0, [])), (5, (.bipush 7, 2, 0, 0, 7, [])), (7, (.if_icmp .ge 157, 3, 164, 0, 0, [])), (10, (.iload 4, 2, 4, 0, 0, [])), (12, (.bipush 6, 2, 0, 0, 6, [])), (14, (.if_icmp .ne 7, 3, 21, 0, 0, [])), (17, (.iconst 0, 1, 0, 0, 0, [])), (18, (.goto 10, 3, 28, 0, 0, [])), (21, (.aload_n 1, 1, 1, 0, 0, [])), (22, (.getfield 52, 3, 5, 9, 0, [219])), (25, (.iload 4, 2, 4, 0, 0, [])), (27, (.iaload, 1, 0, 0, 0, [])), (28, (.istore 5, 2, 5, 0, 0, [])), (30, (.aload_n 1, 1, 1, 0, 0, [])), (31, (.iload 5, 2, 5, 0, 0, [])), (33, (.aload_n 1, 1, 1, 0, 0, [])), (34, (.getfield 52, 3, 5, 9, 0, [219])), (37, (.iload_n 3, 1, 3, 0, 0, [])), (38, (.iaload, 1, 0, 0, 0, [])), (39, (.invokevirtual 67, 3, 52, 2, 0, [500, 379, 380, 59, 381])), (42, (.iconst 1, 1, 0, 0, 1, [])), (43, (.iadd, 1, 0, 0, 0, [])), (44, (.istore 6, 2, 6, 0, 0, [])), (46, (.aload_n 1, 1, 1, 0, 0, [])), (47, (.iload 5, 2, 5, 0, 0, [])), (49, (.aload_n 1, 1, 1, 0, 0, [])), (50, (.getfield 52, 3, 5, 9, 0, [219])), (53, (.iload_n 3, 1, 3, 0, 0, [])), (54, (.iaload, 1, 0, 0, 0, [])), (55, (.invokestatic 70, 3, 16, 3, 0, [501, 502, 58, 503])), (58, (.istore 7, 2, 7, 0, 0, [])), (60, (.iconst 0, 1, 0, 0, 0, [])), (61, (.istore 8, 2, 8, 0, 0, [])), (63, (.iload 8, 2, 8, 0, 0, [])), (65, (.bipush 6, 2, 0, 0, 6, [])), (67, (.if_icmp .ge 91, 3, 158, 0, 0, [])), (70, (.aload_n 0, 1, 0, 0, 0, [])), (71, (.getfield 15, 3, 2, 0, 0, [170])), (74, (.iload_n 2, 1, 2, 0, 0, [])), (75, (.bipush 7, 2, 0, 0, 7, [])), (77, (.imul, 1, 0, 0, 0, [])), (78, (.iload 4, 2, 4, 0, 0, [])), (80, (.iadd, 1, 0, 0, 0, [])), (81, (.bipush 6, 2, 0, 0, 6, [])), (83, (.imul, 1, 0, 0, 0, [])), (84, (.iload 8, 2, 8, 0, 0, [])), (86, (.iadd, 1, 0, 0, 0, [])), (87, (.iaload, 1, 0, 0, 0, [])), (88, (.istore 9, 2, 9, 0, 0, [])), (90, (.iload 9, 2, 9, 0, 0, [])), (92, (.ldc 33, 2, 0, 0, 2147483647, [483])), (94, (.if_icmp .ne 6, 3, 100, 0, 0, [])), (97, (.goto 55, 3, 152, 0, 0, [])), (100, (.iload 8, 2, 8, 0, 0, [])), (102, (.ifCond .le 22, 3, 124, 0, 0, [])), (105, (.aload_n 0, 1, 0, 0, 0, [])), (106, (.iload_n 2, 1, 2, 0, 0, [])), (107, (.iconst 1, 1, 0, 0, 1, [])), (108, (.iload_n 3, 1, 3, 0, 0, [])), (109, (.ishl, 1, 0, 0, 0, [])), (110, (.ior, 1, 0, 0, 0, [])), (111, (.iload_n 3, 1, 3, 0, 0, [])), (112, (.iload 8, 2, 8, 0, 0, [])), (114, (.iconst 1, 1, 0, 0, 1, [])), (115, (.isub, 1, 0, 0, 0, [])), (116, (.iload 9, 2, 9, 0, 0, [])), (118, (.iload 6, 2, 6, 0, 0, [])), (120, (.iadd, 1, 0, 0, 0, [])), (121, (.invokevirtual 74, 3, 17, 4, 0, [504, 506, 19, 58, 507])), (124, (.iload 7, 2, 7, 0, 0, [])), (126, (.ldc 33, 2, 0, 0, 2147483647, [483])), (128, (.if_icmp .eq 24, 3, 152, 0, 0, [])), (131, (.aload_n 0, 1, 0, 0, 0, [])), (132, (.iload_n 2, 1, 2, 0, 0, [])), (133, (.iconst 1, 1, 0, 0, 1, [])), (134, (.iload_n 3, 1, 3, 0, 0, [])), (135, (.ishl, 1, 0, 0, 0, [])), (136, (.ior, 1, 0, 0, 0, [])), (137, (.iload_n 3, 1, 3, 0, 0, [])), (138, (.aload_n 1, 1, 1, 0, 0, [])), (139, (.getfield 78, 3, 5, 4, 0, [203])), (142, (.iconst 1, 1, 0, 0, 1, [])), (143, (.isub, 1, 0, 0, 0, [])), (144, (.iload 9, 2, 9, 0, 0, [])), (146, (.iload 7, 2, 7, 0, 0, [])), (148, (.iadd, 1, 0, 0, 0, [])), (149, (.invokevirtual 74, 3, 17, 4, 0, [504, 506, 19, 58, 507])), (152, (.iinc 8 1, 3, 8, 0, 1, [])), (155, (.goto (-92), 3, 63, 0, 0, [])), (158, (.iinc 4 1, 3, 4, 0, 1, [])), (161, (.goto (-158), 3, 3, 0, 0, [])), (164, (.return_, 1, 0, 0, 0, []))]
def fj_i16 : List (Nat × fj_AI) := [(0, (.ldc 33, 2, 0, 0, 2147483647, [483])), (2, (.istore_n 3, 1, 3, 0, 0, [])), (3, (.iconst 0, 1, 0, 0, 0, [])), (4, (.istore 4, 2, 4, 0, 0, [])), (6, (.iload 4, 2, 4, 0, 0, [])), (8, (.aload_n 0, 1, 0, 0, 0, [])), (9, (.getfield 81, 3, 5, 2, 0, [193])), (12, (.if_icmp .ge 42, 3, 54, 0, 0, [])), (15, (.aload_n 0, 1, 0, 0, 0, [])), (16, (.getfield 84, 3, 5, 10, 0, [222])), (19, (.iload 4, 2, 4, 0, 0, [])), (21, (.iaload, 1, 0, 0, 0, [])), (22, (.istore 5, 2, 5, 0, 0, [])), (24, (.iload_n 3, 1, 3, 0, 0, [])), (25, (.aload_n 0, 1, 0, 0, 0, [])), (26, (.iload_n 1, 1, 1, 0, 0, [])), (27, (.iload 5, 2, 5, 0, 0, [])), (29, (.invokevirtual 67, 3, 52, 2, 0, [500, 379, 380, 59, 381])), (32, (.iconst 1, 1, 0, 0, 1, [])), (33, (.iadd, 1, 0, 0, 0, [])), (34, (.aload_n 0, 1, 0, 0, 0, [])), (35, (.iload 5, 2, 5, 0, 0, [])), (37, (.iload_n 2, 1, 2, 0, 0, [])), (38, (.invokevirtual 67, 3, 52, 2, 0, [500, 379, 380, 59, 381])), (41, (.iadd, 1, 0, 0, 0, [])), (42, (.iconst 1, 1, 0, 0, 1, [])), (43, (.iadd, 1, 0, 0, 0, [])), (44, (.invokestatic 61, 3, 996, 0, 0, [489, 490, 61, 491])), (47, (.istore_n 3, 1, 3, 0, 0, [])), (48, (.iinc 4 1, 3, 4, 0, 1, [])), (51, (.goto (-45), 3, 6, 0, 0, [])), (54, (.iload_n 3, 1, 3, 0, 0, [])), (55, (.ireturn, 1, 0, 0, 0, []))]
def fj_i17 : List (Nat × fj_AI) := [(0, (.iload_n 1, 1, 1, 0, 0, [])), (1, (.bipush 7, 2, 0, 0, 7, [])), (3, (.imul, 1, 0, 0, 0, [])), (4, (.iload_n 2, 1, 2, 0, 0, [])), (5, (.iadd, 1, 0, 0, 0, [])), (6, (.bipush 6, 2, 0, 0, 6, [])), (8, (.imul, 1, 0, 0, 0, [])), (9, (.iload_n 3, 1, 3, 0, 0, [])), (10, (.iadd, 1, 0, 0, 0, [])), (11, (.istore 5, 2, 5, 0, 0, [])), (13, (.aload_n 0, 1, 0, 0, 0, [])), (14, (.getfield 15, 3, 2, 0, 0, [170])), (17, (.iload 5, 2, 5, 0, 0, [])), (19, (.aload_n 0, 1, 0, 0, 0, [])), (20, (.getfield 15, 3, 2, 0, 0, [170])), (23, (.iload 5, 2, 5, 0, 0, [])), (25, (.iaload, 1, 0, 0, 0, [])), (26, (.iload 4, 2, 4, 0, 0, [])), (28, (.invokestatic 61, 3, 996, 0, 0, [489, 490, 61, 491])), (31, (.iastore, 1, 0, 0, 0, [])), (32, (.return_, 1, 0, 0, 0, []))]
def fj_i18 : List (Nat × fj_AI) := [(0, (.aload_n 0, 1, 0, 0, 0, [])), (1, (.invokespecial 3, 3, 999, 0, 0, [77, 70, 71])), (4, (.aload_n 0, 1, 0, 0, 0, [])), (5, (.sipush 240, 3, 0, 0, 240, [])), (8, (.newarray .int, 2, 1, 0, 0, [88])), (10, (.putfield 11, 3, 3, 0, 0, [78])), (13, (.aload_n 0, 1, 0, 0, 0, [])), (14, (.iconst 4, 1, 0, 0, 4, [])), (15, (.newarray .int, 2, 1, 0, 0, [88])), (17, (.dup, 1, 0, 0, 0, [])), (18, (.iconst 0, 1, 0, 0, 0, [])), (19, (.iconst (-1), 1, 0, 0, (-1), [])), (20, (.iastore, 1, 0, 0, 0, [])), (21, (.dup, 1, 0, 0, 0, [])), (22, (.iconst 1, 1, 0, 0, 1, [])), (23, (.iconst (-1), 1, 0, 0, (-1), [])), (24, (.iastore, 1, 0, 0, 0, [])), (25, (.dup, 1, 0, 0, 0, [])), (26, (.iconst 2, 1, 0, 0, 2, [])), (27, (.iconst (-1), 1, 0, 0, (-1), [])), (28, (.iastore, 1, 0, 0, 0, [])), (29, (.dup, 1, 0, 0, 0, [])), (30, (.iconst 3, 1, 0, 0, 3, [])), (31, (.iconst (-1), 1, 0, 0, (-1), [])), (32, (.iastore, 1, 0, 0, 0, [])), (33, (.putfield 15, 3, 3, 1, 0, [79])), (36, (.aload_n 0, 1, 0, 0, 0, [])), (37, (.iconst 4, 1, 0, 0, 4, [])), (38, (.newarray .int, 2, 1, 0, 0, [88])), (40, (.putfield 18, 3, 3, 2, 0, [80])), (43, (.return_, 1, 0, 0, 0, []))]
def fj_i19 : List (Nat × fj_AI) := [(0, (.iload_n 0, 1, 0, 0, 0, [])), (1, (.ifCond .lt 12, 3, 13, 0, 0, [])), (4, (.iload_n 0, 1, 0, 0, 0, [])), (5, (.iconst 4, 1, 0, 0, 4, [])), (6, (.if_icmp .ge 7, 3, 13, 0, 0, [])), (9, (.iconst 1, 1, 0, 0, 1, [])), (10, (.goto 4, 3, 14, 0, 0, [])), (13, (.iconst 0, 1, 0, 0, 0, [])), (14, (.ireturn, 1, 0, 0, 0, []))]
def fj_i20 : List (Nat × fj_AI) := [(0, (.iload_n 0, 1, 0, 0, 0, [])), (1, (.ifCond .lt 12, 3, 13, 0, 0, [])), (4, (.iload_n 0, 1, 0, 0, 0, [])), (5, (.iconst 2, 1, 0, 0, 2, [])), (6, (.if_icmp .gt 7, 3, 13, 0, 0, [])), (9, (.iconst 1, 1, 0, 0, 1, [])), (10, (.goto 4, 3, 14, 0, 0, [])), (13, (.iconst 0, 1, 0, 0, 0, [])), (14, (.ireturn, 1, 0, 0, 0, []))]
def fj_i21 : List (Nat × fj_AI) := [(0, (.aload_n 0, 1, 0, 0, 0, [])), (1, (.getfield 15, 3, 3, 1, 0, [79])), (4, (.iload_n 1, 1, 1, 0, 0, [])), (5, (.iaload, 1, 0, 0, 0, [])), (6, (.iconst (-1), 1, 0, 0, (-1), [])), (7, (.if_icmp .ne 7, 3, 14, 0, 0, [])), (10, (.iconst 1, 1, 0, 0, 1, [])), (11, (.goto 4, 3, 15, 0, 0, [])), (14, (.iconst 0, 1, 0, 0, 0, [])), (15, (.ireturn, 1, 0, 0, 0, []))]
def fj_i22 : List (Nat × fj_AI) := [(0, (.aload_n 0, 1, 0, 0, 0, [])), (1, (.getfield 15, 3, 3, 1, 0, [79])), (4, (.iload_n 1, 1, 1, 0, 0, [])), (5, (.iaload, 1, 0, 0, 0, [])), (6, (.aload_n 0, 1, 0, 0, 0, [])), (7, (.getfield 15, 3, 3, 1, 0, [79])), (10, (.iload_n 2, 1, 2, 0, 0, [])), (11, (.iaload, 1, 0, 0, 0, [])), (12, (.if_icmp .ne 7, 3, 19, 0, 0, [])), (15, (.iconst 1, 1, 0, 0, 1, [])), (16, (.goto 4, 3, 20, 0, 0, [])), (19, (.iconst 0, 1, 0, 0, 0, [])), (20, (.ireturn, 1, 0, 0, 0, []))]
def fj_i23 : List (Nat × fj_AI) := [(0, (.aload_n 0, 1, 0, 0, 0, [])), (1, (.iload_n 1, 1, 1, 0, 0, [])), (2, (.invokevirtual 21, 3, 21, 1, 0, [297, 298, 299, 54, 300])), (5, (.ifCond .eq 5, 3, 10, 0, 0, [])), (8, (.iconst 1, 1, 0, 0, 1, [])), (9, (.ireturn, 1, 0, 0, 0, [])), (10, (.aload_n 0, 1, 0, 0, 0, [])), (11, (.getfield 15, 3, 3, 1, 0, [79])), (14, (.iload_n 1, 1, 1, 0, 0, [])), (15, (.iaload, 1, 0, 0, 0, [])), (16, (.iload_n 2, 1, 2, 0, 0, [])), (17, (.if_icmp .ne 7, 3, 24, 0, 0, [])), (20, (.iconst 0, 1, 0, 0, 0, [])), (21, (.goto 4, 3, 25, 0, 0, [])), (24, (.iconst 2, 1, 0, 0, 2, [])), (25, (.ireturn, 1, 0, 0, 0, []))]
def fj_i24 : List (Nat × fj_AI) := [(0, (.iload_n 2, 1, 2, 0, 0, [])), (1, (.ifCond .lt 17, 3, 18, 0, 0, [])), (4, (.iload_n 2, 1, 2, 0, 0, [])), (5, (.aload_n 0, 1, 0, 0, 0, [])), (6, (.getfield 18, 3, 3, 2, 0, [80])), (9, (.iload_n 1, 1, 1, 0, 0, [])), (10, (.iaload, 1, 0, 0, 0, [])), (11, (.if_icmp .ge 7, 3, 18, 0, 0, [])), (14, (.iconst 1, 1, 0, 0, 1, [])), (15, (.goto 4, 3, 19, 0, 0, [])), (18, (.iconst 0, 1, 0, 0, 0, [])), (19, (.ireturn, 1, 0, 0, 0, []))]
def fj_i25 : List (Nat × fj_AI) := [(0, (.iload_n 2, 1, 2, 0, 0, [])), (1, (.ifCond .lt 33, 3, 34, 0, 0, [])), (4, (.iload_n 2, 1, 2, 0, 0, [])), (5, (.aload_n 0, 1, 0, 0, 0, [])), (6, (.getfield 18, 3, 3, 2, 0, [80])), (9, (.iload_n 1, 1, 1, 0, 0, [])), (10, (.iaload, 1, 0, 0, 0, [])), (11, (.if_icmp .gt 23, 3, 34, 0, 0, [])), (14, (.iload_n 3, 1, 3, 0, 0, [])), (15, (.ifCond .lt 19, 3, 34, 0, 0, [])), (18, (.iload_n 3, 1, 3, 0, 0, [])), (19, (.aload_n 0, 1, 0, 0, 0, [])), (20, (.getfield 18, 3, 3, 2, 0, [80])), (23, (.iload_n 1, 1, 1, 0, 0, [])), (24, (.iaload, 1, 0, 0, 0, [])), (25, (.iload_n 2, 1, 2, 0, 0, [])), (26, (.isub, 1, 0, 0, 0, [])), (27, (.if_icmp .gt 7, 3, 34, 0, 0, [])), (30, (.iconst 1, 1, 0, 0, 1, [])), (31, (.goto 4, 3, 35, 0, 0, [])), (34, (.iconst 0, 1, 0, 0, 0, [])), (35, (.ireturn, 1, 0, 0, 0, []))]
def fj_i26 : List (Nat × fj_AI) := [(0, (.aload_n 0, 1, 0, 0, 0, [])), (1, (.getfield 15, 3, 3, 1, 0, [79])), (4, (.iload_n 1, 1, 1, 0, 0, [])), (5, (.iload_n 2, 1, 2, 0, 0, [])), (6, (.iastore, 1, 0, 0, 0, [])), (7, (.aload_n 0, 1, 0, 0, 0, [])), (8, (.getfield 18, 3, 3, 2, 0, [80])), (11, (.iload_n 1, 1, 1, 0, 0, [])), (12, (.iload_n 3, 1, 3, 0, 0, [])), (13, (.iastore, 1, 0, 0, 0, [])), (14, (.iconst 0, 1, 0, 0, 0, [])), (15, (.istore 4, 2, 4, 0, 0, [])), (17, (.iload 4, 2, 4, 0, 0, [])), (19, (.bipush 60, 2, 0, 0, 60, [])), (21, (.if_icmp .ge 22, 3, 43, 0, 0, [])), (24, (.aload_n 0, 1, 0, 0, 0, [])), (25, (.getfield 11, 3, 3, 0, 0, [78])), (28, (.iload_n 1, 1, 1, 0, 0, [])), (29, (.bipush 60, 2, 0, 0, 60, [])), (31, (.imul, 1, 0, 0, 0, [])), (32, (.iload 4, 2, 4, 0, 0, [])), (34, (.iadd, 1, 0, 0, 0, [])), (35, (.iconst 0, 1, 0, 0, 0, [])), (36, (.iastore, 1, 0, 0, 0, [])), (37, (.iinc 4 1, 3, 4, 0, 1, [])), (40, (.goto (-23), 3, 17, 0, 0, [])), (43, (.return_, 1, 0, 0, 0, []))]
def fj_i27 : List (Nat × fj_AI) := [(0, (.aload_n 0, 1, 0, 0, 0, [])), (1, (.getfield 15, 3, 3, 1, 0, [79])), (4, (.iload_n 1, 1, 1, 0, 0, [])), (5, (.iconst (-1), 1, 0, 0, (-1), [])), (6, (.iastore, 1, 0, 0, 0, [])), (7, (.aload_n 0, 1, 0, 0, 0, [])), (8, (.getfield 18, 3, 3, 2, 0, [80])), (11, (.iload_n 1, 1, 1, 0, 0, [])), (12, (.iconst 0, 1, 0, 0, 0, [])), (13, (.iastore, 1, 0, 0, 0, [])), (14, (.return_, 1, 0, 0, 0, []))]
def fj_i28 : List (Nat × fj_AI) := [(0, (.aload_n 0, 1, 0, 0, 0, [])), (1, (.getfield 11, 3, 3, 0, 0, [78])), (4, (.iload_n 1, 1, 1, 0, 0, [])), (5, (.bipush 60, 2, 0, 0, 60, [])), (7, (.imul, 1, 0, 0, 0, [])), (8, (.iload_n 2, 1, 2, 0, 0, [])), (9, (.iadd, 1, 0, 0, 0, [])), (10, (.iaload, 1, 0, 0, 0, [])), (11, (.ireturn, 1, 0, 0, 0, []))]
def fj_i29 : List (Nat × fj_AI) := [(0, (.aload_n 0, 1, 0, 0, 0, [])), (1, (.getfield 11, 3, 3, 0, 0, [78])), (4, (.iload_n 1, 1, 1, 0, 0, [])), (5, (.bipush 60, 2, 0, 0, 60, [])), (7, (.imul, 1, 0, 0, 0, [])), (8, (.iload_n 2, 1, 2, 0, 0, [])), (9, (.iadd, 1, 0, 0, 0, [])), (10, (.aload_n 0, 1, 0, 0, 0, [])), (11, (.getfield 15, 3, 3, 1, 0, [79])), (14, (.iload_n 1, 1, 1, 0, 0, [])), (15, (.iaload, 1, 0, 0, 0, [])), (16, (.iload_n 3, 1, 3, 0, 0, [])), (17, (.invokestatic 25, 3, 30, 2, 0, [599, 600, 54, 601])), (20, (.iastore, 1, 0, 0, 0, [])), (21, (.return_, 1, 0, 0, 0, []))]
def fj_i30 : List (Nat × fj_AI) := [(0, (.iload_n 0, 1, 0, 0, 0, [])), (1, (.lookupswitch 33 #[(0, 27), (1, 30)], 27, 0, 0, 0, [])), (28, (.iload_n 1, 1, 1, 0, 0, [])), (29, (.i2b, 1, 0, 0, 0, [])), (30, (.ireturn, 1, 0, 0, 0, [])), (31, (.iload_n 1, 1, 1, 0, 0, [])), (32, (.i2s, 1, 0, 0, 0, [])), (33, (.ireturn, 1, 0, 0, 0, [])), (34, (.iload_n 1, 1, 1, 0, 0, [])), (35, (.ireturn, 1, 0, 0, 0, []))]
def fj_i31 : List (Nat × fj_AI) := [(0, (.aload_n 0, 1, 0, 0, 0, [])), (1, (.getfield 11, 3, 3, 0, 0, [78])), (4, (.iload_n 1, 1, 1, 0, 0, [])), (5, (.bipush 60, 2, 0, 0, 60, [])), (7, (.imul, 1, 0, 0, 0, [])), (8, (.iload_n 2, 1, 2, 0, 0, [])), (9, (.iadd, 1, 0, 0, 0, [])), (10, (.aload_n 0, 1, 0, 0, 0, [])), (11, (.getfield 11, 3, 3, 0, 0, [78])), (14, (.iload_n 3, 1, 3, 0, 0, [])), (15, (.bipush 60, 2, 0, 0, 60, [])), (17, (.imul, 1, 0, 0, 0, [])), (18, (.iload 4, 2, 4, 0, 0, [])), (20, (.iadd, 1, 0, 0, 0, [])), (21, (.iload 5, 2, 5, 0, 0, [])), (23, (.invokestatic 29, 3, 998, 0, 0, [619, 621, 620, 63])), (26, (.return_, 1, 0, 0, 0, []))]
def fj_i32 : List (Nat × fj_AI) := [(0, (.iconst 0, 1, 0, 0, 0, [])), (1, (.istore 5, 2, 5, 0, 0, [])), (3, (.iload 5, 2, 5, 0, 0, [])), (5, (.iload_n 3, 1, 3, 0, 0, [])), (6, (.if_icmp .ge 31, 3, 37, 0, 0, [])), (9, (.iload 5, 2, 5, 0, 0, [])), (11, (.aload 4, 2, 4, 0, 0, [])), (13, (.arraylength, 1, 0, 0, 0, [])), (14, (.if_icmp .ge 23, 3, 37, 0, 0, [])), (17, (.aload 4, 2, 4, 0, 0, [])), (19, (.iload 5, 2, 5, 0, 0, [])), (21, (.aload_n 0, 1, 0, 0, 0, [])), (22, (.iload_n 1, 1, 1, 0, 0, [])), (23, (.iload_n 2, 1, 2, 0, 0, [])), (24, (.iload 5, 2, 5, 0, 0, [])), (26, (.iadd, 1, 0, 0, 0, [])), (27, (.invokevirtual 35, 3, 28, 2, 0, [313, 314, 315, 54, 316])), (30, (.iastore, 1, 0, 0, 0, [])), (31, (.iinc 5 1, 3, 5, 0, 1, [])), (34, (.goto (-31), 3, 3, 0, 0, [])), (37, (.return_, 1, 0, 0, 0, []))]
def fj_i33 : List (Nat × fj_AI) := [(0, (.aload_n 0, 1, 0, 0, 0, [])), (1, (.invokespecial 3, 3, 999, 0, 0, [115, 70, 71])), (4, (.return_, 1, 0, 0, 0, []))]
def fj_i34 : List (Nat × fj_AI) := [(0, (.aload_n 0, 1, 0, 0, 0, [])), (1, (.iconst 0, 1, 0, 0, 0, [])), (2, (.putfield 9, 3, 4, 0, 0, [116])), (5, (.aload_n 0, 1, 0, 0, 0, [])), (6, (.bipush (-9), 2, 0, 0, (-9), [])), (8, (.putfield 15, 3, 4, 1, 0, [118])), (11, (.aload_n 0, 1, 0, 0, 0, [])), (12, (.bipush (-9), 2, 0, 0, (-9), [])), (14, (.putfield 18, 3, 4, 2, 0, [120])), (17, (.aload_n 0, 1, 0, 0, 0, [])), (18, (.iconst 0, 1, 0, 0, 0, [])), (19, (.putfield 21, 3, 4, 3, 0, [122])), (22, (.aload_n 0, 1, 0, 0, 0, [])), (23, (.iconst 0, 1, 0, 0, 0, [])), (24, (.putfield 24, 3, 4, 4, 0, [124])), (27, (.aload_n 0, 1, 0, 0, 0, [])), (28, (.iconst 0, 1, 0, 0, 0, [])), (29, (.putfield 27, 3, 4, 5, 0, [126])), (32, (.aload_n 0, 1, 0, 0, 0, [])), (33, (.iconst 0, 1, 0, 0, 0, [])), (34, (.putfield 30, 3, 4, 6, 0, [128])), (37, (.iconst 0, 1, 0, 0, 0, [])), (38, (.istore 4, 2, 4, 0, 0, [])), (40, (.iload 4, 2, 4, 0, 0, [])), (42, (.iload_n 3, 1, 3, 0, 0, [])), (43, (.if_icmp .ge 85, 3, 128, 0, 0, [])), (46, (.iload 4, 2, 4, 0, 0, [])), (48, (.aload_n 2, 1, 2, 0, 0, [])), (49, (.arraylength, 1, 0, 0, 0, [])), (50, (.if_icmp .ge 78, 3, 128, 0, 0, [])), (53, (.aload_n 0, 1, 0, 0, 0, [])), (54, (.getfield 15, 3, 4, 1, 0, [118])), (57, (.bipush (-9), 2, 0, 0, (-9), [])), (59, (.if_icmp .ne 69, 3, 128, 0, 0, [])), (62, (.aload_n 2, 1, 2, 0, 0, [])), (63, (.iload 4, 2, 4, 0, 0, [])), (65, (.iaload, 1, 0, 0, 0, [])), (66, (.istore 5, 2, 5, 0, 0, [])), (68, (.iload 5, 2, 5, 0, 0, [])), (70, (.bipush 6, 2, 0, 0, 6, [])), (72, (.if_icmp .lt 16, 3, 88, 0, 0, [])), (75, (.aload_n 0, 1, 0, 0, 0, [])), (76, (.aload_n 1, 1, 1, 0, 0, [])), (77, (.iload 5, 2, 5, 0, 0, [])), (79, (.bipush 6, 2, 0, 0, 6, [])), (81, (.isub, 1, 0, 0, 0, [])), (82, (.invokevirtual 35, 3, 36, 2, 0, [432, 434, 9, 56, 435])), (85, (.goto 37, 3, 122, 0, 0, [])), (88, (.aload_n 0, 1, 0, 0, 0, [])), (89, (.getfield 24, 3, 4, 4, 0, [124])), (92, (.ifCond .le 24, 3, 116, 0, 0, [])), (95, (.aload_n 0, 1, 0, 0, 0, [])), (96, (.iload 5, 2, 5, 0, 0, [])), (98, (.invokevirtual 39, 3, 35, 1, 0, [441, 443, 11, 56, 444])), (101, (.ifCond .eq 15, 3, 116, 0, 0, [])), (104, (.aload_n 0, 1, 0, 0, 0, [])), (105, (.aload_n 1, 1, 1, 0, 0, [])), (106, (.iload 5, 2, 5, 0, 0, [])), (108, (.iload 4, 2, 4, 0, 0, [])), (110, (.invokevirtual 43, 3, 38, 3, 0, [445, 447, 12, 56, 448])), (113, (.goto 9, 3, 122, 0, 0, [])), (116, (.aload_n 0, 1, 0, 0, 0, [])), (117, (.iload 4, 2, 4, 0, 0, [])), (119, (.putfield 15, 3, 4, 1, 0, [118])), (122, (.iinc 4 1, 3, 4, 0, 1, [])), (125, (.goto (-85), 3, 40, 0, 0, [])), (128, (.return_, 1, 0, 0, 0, []))]
def fj_i35 : List (Nat × fj_AI) := [(0, (.aload_n 0, 1, 0, 0, 0, [])), (1, (.getfield 21, 3, 4, 3, 0, [122])), (4, (.iload_n 1, 1, 1, 0, 0, [])), (5, (.ishr, 1, 0, 0, 0, [])), (6, (.iconst 1, 1, 0, 0, 1, [])), (7, (.iand, 1, 0, 0, 0, [])), (8, (.ifCond .ne 7, 3, 15, 0, 0, [])), (11, (.iconst 1, 1, 0, 0, 1, [])), (12, (.goto 4, 3, 16, 0, 0, [])), (15, (.iconst 0, 1, 0, 0, 0, [])), (16, (.ireturn, 1, 0, 0, 0, []))]
def fj_i36 : List (Nat × fj_AI) := [(0, (.aload_n 0, 1, 0, 0, 0, [])), (1, (.aload_n 1, 1, 1, 0, 0, [])), (2, (.aload_n 1, 1, 1, 0, 0, [])), (3, (.getfield 47, 3, 5, 10, 0, [221])), (6, (.iload_n 2, 1, 2, 0, 0, [])), (7, (.iaload, 1, 0, 0, 0, [])), (8, (.invokevirtual 51, 3, 37, 2, 0, [436, 438, 10, 56, 439])), (11, (.aload_n 0, 1, 0, 0, 0, [])), (12, (.aload_n 1, 1, 1, 0, 0, [])), (13, (.getfield 54, 3, 5, 4, 0, [200])), (16, (.putfield 24, 3, 4, 4, 0, [124])), (19, (.return_, 1, 0, 0, 0, []))]
def fj_i37 : List (Nat × fj_AI) := [(0, (.aload_n 0, 1, 0, 0, 0, [])), (1, (.dup, 1, 0, 0, 0, [])), (2, (.getfield 9, 3, 4, 0, 0, [116])), (5, (.aload_n 1, 1, 1, 0, 0, [])), (6, (.aload_n 0, 1, 0, 0, 0, [])), (7, (.getfield 27, 3, 4, 5, 0, [126])), (10, (.iload_n 2, 1, 2, 0, 0, [])), (11, (.invokevirtual 57, 3, 52, 2, 0, [440, 379, 380, 59, 381])), (14, (.iconst 1, 1, 0, 0, 1, [])), (15, (.iadd, 1, 0, 0, 0, [])), (16, (.iadd, 1, 0, 0, 0, [])), (17, (.putfield 9, 3, 4, 0, 0, [116])), (20, (.aload_n 0, 1, 0, 0, 0, [])), (21, (.iload_n 2, 1, 2, 0, 0, [])), (22, (.putfield 27, 3, 4, 5, 0, [126])), (25, (.return_, 1, 0, 0, 0, []))]
def fj_i38 : List (Nat × fj_AI) := [(0, (.aload_n 0, 1, 0, 0, 0, [])), (1, (.aload_n 1, 1, 1, 0, 0, [])), (2, (.aload_n 1, 1, 1, 0, 0, [])), (3, (.getfield 61, 3, 5, 9, 0, [218])), (6, (.iload_n 2, 1, 2, 0, 0, [])), (7, (.iaload, 1, 0, 0, 0, [])), (8, (.invokevirtual 51, 3, 37, 2, 0, [436, 438, 10, 56, 439])), (11, (.aload_n 0, 1, 0, 0, 0, [])), (12, (.dup, 1, 0, 0, 0, [])), (13, (.getfield 24, 3, 4, 4, 0, [124])), (16, (.iconst 1, 1, 0, 0, 1, [])), (17, (.isub, 1, 0, 0, 0, [])), (18, (.putfield 24, 3, 4, 4, 0, [124])), (21, (.aload_n 0, 1, 0, 0, 0, [])), (22, (.dup, 1, 0, 0, 0, [])), (23, (.getfield 21, 3, 4, 3, 0, [122])), (26, (.iconst 1, 1, 0, 0, 1, [])), (27, (.iload_n 2, 1, 2, 0, 0, [])), (28, (.ishl, 1, 0, 0, 0, [])), (29, (.ior, 1, 0, 0, 0, [])), (30, (.putfield 21, 3, 4, 3, 0, [122])), (33, (.aload_n 1, 1, 1, 0, 0, [])), (34, (.aload_n 0, 1, 0, 0, 0, [])), (35, (.getfield 27, 3, 4, 5, 0, [126])), (38, (.invokevirtual 64, 3, 54, 1, 0, [449, 406, 407, 59, 408])), (41, (.aload_n 0, 1, 0, 0, 0, [])), (42, (.getfield 21, 3, 4, 3, 0, [122])), (45, (.iconst (-1), 1, 0, 0, (-1), [])), (46, (.ixor, 1, 0, 0, 0, [])), (47, (.iand, 1, 0, 0, 0, [])), (48, (.istore 4, 2, 4, 0, 0, [])), (50, (.aload_n 0, 1, 0, 0, 0, [])), (51, (.dup, 1, 0, 0, 0, [])), (52, (.getfield 30, 3, 4, 6, 0, [128])), (55, (.iload 4, 2, 4, 0, 0, [])), (57, (.ior, 1, 0, 0, 0, [])), (58, (.putfield 30, 3, 4, 6, 0, [128])), (61, (.aload_n 0, 1, 0, 0, 0, [])), (62, (.getfield 18, 3, 4, 2, 0, [120])), (65, (.bipush (-9), 2, 0, 0, (-9), [])), (67, (.if_icmp .ne 20, 3, 87, 0, 0, [])), (70, (.iload 4, 2, 4, 0, 0, [])), (72, (.aload_n 1, 1, 1, 0, 0, [])), (73, (.getfield 68, 3, 5, 3, 0, [198])), (76, (.iconst (-1), 1, 0, 0, (-1), [])), (77, (.ixor, 1, 0, 0, 0, [])), (78, (.iand, 1, 0, 0, 0, [])), (79, (.ifCond .eq 8, 3, 87, 0, 0, [])), (82, (.aload_n 0, 1, 0, 0, 0, [])), (83, (.iload_n 3, 1, 3, 0, 0, [])), (84, (.putfield 18, 3, 4, 2, 0, [120])), (87, (.return_, 1, 0, 0, 0, []))]
def fj_i39 : List (Nat × fj_AI) := [(0, (.aload_n 0, 1, 0, 0, 0, [])), (1, (.invokespecial 3, 3, 999, 0, 0, [185, 70, 71])), (4, (.aload_n 0, 1, 0, 0, 0, [])), (5, (.bipush 24, 2, 0, 0, 24, [])), (7, (.newarray .int, 2, 1, 0, 0, [88])), (9, (.putfield 11, 3, 5, 6, 0, [206])), (12, (.aload_n 0, 1, 0, 0, 0, [])), (13, (.bipush 6, 2, 0, 0, 6, [])), (15, (.newarray .int, 2, 1, 0, 0, [88])), (17, (.putfield 15, 3, 5, 7, 0, [208])), (20, (.aload_n 0, 1, 0, 0, 0, [])), (21, (.bipush 6, 2, 0, 0, 6, [])), (23, (.newarray .int, 2, 1, 0, 0, [88])), (25, (.putfield 18, 3, 5, 8, 0, [211])), (28, (.aload_n 0, 1, 0, 0, 0, [])), (29, (.bipush 6, 2, 0, 0, 6, [])), (31, (.newarray .int, 2, 1, 0, 0, [88])), (33, (.putfield 21, 3, 5, 9, 0, [214])), (36, (.aload_n 0, 1, 0, 0, 0, [])), (37, (.iconst 2, 1, 0, 0, 2, [])), (38, (.newarray .int, 2, 1, 0, 0, [88])), (40, (.putfield 24, 3, 5, 10, 0, [220])), (43, (.aload_n 0, 1, 0, 0, 0, [])), (44, (.bipush 24, 2, 0, 0, 24, [])), (46, (.newarray .int, 2, 1, 0, 0, [88])), (48, (.putfield 27, 3, 5, 11, 0, [223])), (51, (.aload_n 0, 1, 0, 0, 0, [])), (52, (.bipush 24, 2, 0, 0, 24, [])), (54, (.newarray .int, 2, 1, 0, 0, [88])), (56, (.putfield 30, 3, 5, 12, 0, [224])), (59, (.return_, 1, 0, 0, 0, []))]
def fj_i40 : List (Nat × fj_AI) := [(0, (.aload_n 0, 1, 0, 0, 0, [])), (1, (.getfield 33, 3, 5, 0, 0, [186])), (4, (.ifCond .le 7, 3, 11, 0, 0, [])), (7, (.iconst 1, 1, 0, 0, 1, [])), (8, (.goto 4, 3, 12, 0, 0, [])), (11, (.iconst 0, 1, 0, 0, 0, [])), (12, (.ireturn, 1, 0, 0, 0, []))]
def fj_i41 : List (Nat × fj_AI) := [(0, (.iload_n 1, 1, 1, 0, 0, [])), (1, (.ifCond .lt 15, 3, 16, 0, 0, [])), (4, (.iload_n 1, 1, 1, 0, 0, [])), (5, (.aload_n 0, 1, 0, 0, 0, [])), (6, (.getfield 33, 3, 5, 0, 0, [186])), (9, (.if_icmp .ge 7, 3, 16, 0, 0, [])), (12, (.iconst 1, 1, 0, 0, 1, [])), (13, (.goto 4, 3, 17, 0, 0, [])), (16, (.iconst 0, 1, 0, 0, 0, [])), (17, (.ireturn, 1, 0, 0, 0, []))]
def fj_i42 : List (Nat × fj_AI) := [(0, (.iload_n 1, 1, 1, 0, 0, [])), (1, (.ifCond .lt 15, 3, 16, 0, 0, [])), (4, (.iload_n 1, 1, 1, 0, 0, [])), (5, (.aload_n 0, 1, 0, 0, 0, [])), (6, (.getfield 37, 3, 5, 1, 0, [191])), (9, (.if_icmp .ge 7, 3, 16, 0, 0, [])), (12, (.iconst 1, 1, 0, 0, 1, [])), (13, (.goto 4, 3, 17, 0, 0, [])), (16, (.iconst 0, 1, 0, 0, 0, [])), (17, (.ireturn, 1, 0, 0, 0, []))]
def fj_i43 : List (Nat × fj_AI) := [(0, (.aload_n 0, 1, 0, 0, 0, [])), (1, (.getfield 40, 3, 5, 3, 0, [196])), (4, (.iload_n 1, 1, 1, 0, 0, [])), (5, (.ishr, 1, 0, 0, 0, [])), (6, (.iconst 1, 1, 0, 0, 1, [])), (7, (.iand, 1, 0, 0, 0, [])), (8, (.ifCond .eq 7, 3, 15, 0, 0, [])), (11, (.iconst 1, 1, 0, 0, 1, [])), (12, (.goto 4, 3, 16, 0, 0, [])), (15, (.iconst 0, 1, 0, 0, 0, [])), (16, (.ireturn, 1, 0, 0, 0, []))]
def fj_i44 : List (Nat × fj_AI) := [(0, (.aload_n 0, 1, 0, 0, 0, [])), (1, (.invokevirtual 43, 3, 45, 0, 0, [325, 327, 2, 59, 328])), (4, (.aload_n 1, 1, 1, 0, 0, [])), (5, (.iload_n 2, 1, 2, 0, 0, [])), (6, (.iconst 0, 1, 0, 0, 0, [])), (7, (.invokestatic 46, 3, 46, 3, 0, [329, 330, 59, 331])), (10, (.bipush 121, 2, 0, 0, 121, [])), (12, (.if_icmp .eq 5, 3, 17, 0, 0, [])), (15, (.iconst 0, 1, 0, 0, 0, [])), (16, (.ireturn, 1, 0, 0, 0, [])), (17, (.aload_n 1, 1, 1, 0, 0, [])), (18, (.iload_n 2, 1, 2, 0, 0, [])), (19, (.iconst 1, 1, 0, 0, 1, [])), (20, (.invokestatic 46, 3, 46, 3, 0, [329, 330, 59, 331])), (23, (.bipush 48, 2, 0, 0, 48, [])), (25, (.isub, 1, 0, 0, 0, [])), (26, (.istore_n 3, 1, 3, 0, 0, [])), (27, (.iload_n 3, 1, 3, 0, 0, [])), (28, (.iconst 1, 1, 0, 0, 1, [])), (29, (.if_icmp .lt 8, 3, 37, 0, 0, [])), (32, (.iload_n 3, 1, 3, 0, 0, [])), (33, (.iconst 4, 1, 0, 0, 4, [])), (34, (.if_icmp .le 5, 3, 39, 0, 0, [])), (37, (.iconst 1, 1, 0, 0, 1, [])), (38, (.ireturn, 1, 0, 0, 0, [])), (39, (.aload_n 1, 1, 1, 0, 0, [])), (40, (.iload_n 2, 1, 2, 0, 0, [])), (41, (.iconst 2, 1, 0, 0, 2, [])), (42, (.invokestatic 46, 3, 46, 3, 0, [329, 330, 59, 331])), (45, (.bipush 48, 2, 0, 0, 48, [])), (47, (.isub, 1, 0, 0, 0, [])), (48, (.istore 4, 2, 4, 0, 0, [])), (50, (.iload 4, 2, 4, 0, 0, [])), (52, (.iconst 2, 1, 0, 0, 2, [])), (53, (.if_icmp .lt 10, 3, 63, 0, 0, [])), (56, (.iload 4, 2, 4, 0, 0, [])), (58, (.bipush 6, 2, 0, 0, 6, [])), (60, (.if_icmp .le 5, 3, 65, 0, 0, [])), (63, (.iconst 2, 1, 0, 0, 2, [])), (64, (.ireturn, 1, 0, 0, 0, [])), (65, (.iconst 3, 1, 0, 0, 3, [])), (66, (.istore 5, 2, 5, 0, 0, [])), (68, (.iconst 0, 1, 0, 0, 0, [])), (69, (.istore 6, 2, 6, 0, 0, [])), (71, (.iload 6, 2, 6, 0, 0, [])), (73, (.iload_n 3, 1, 3, 0, 0, [])), (74, (.if_icmp .ge 75, 3, 149, 0, 0, [])), (77, (.aload_n 1, 1, 1, 0, 0, [])), (78, (.iload_n 2, 1, 2, 0, 0, [])), (79, (.iload 5, 2, 5, 0, 0, [])), (81, (.invokestatic 46, 3, 46, 3, 0, [329, 330, 59, 331])), (84, (.bipush 59, 2, 0, 0, 59, [])), (86, (.if_icmp .eq 6, 3, 92, 0, 0, [])), (89, (.iload 5, 2, 5, 0, 0, [])), (91, (.ireturn, 1, 0, 0, 0, [])), (92, (.iinc 5 1, 3, 5, 0, 1, [])), (95, (.iconst 0, 1, 0, 0, 0, [])), (96, (.istore 7, 2, 7, 0, 0, [])), (98, (.iload 7, 2, 7, 0, 0, [])), (100, (.iload 4, 2, 4, 0, 0, [])), (102, (.if_icmp .ge 41, 3, 143, 0, 0, [])), (105, (.aload_n 0, 1, 0, 0, 0, [])), (106, (.aload_n 1, 1, 1, 0, 0, [])), (107, (.iload_n 2, 1, 2, 0, 0, [])), (108, (.iload 5, 2, 5, 0, 0, [])), (110, (.invokevirtual 50, 3, 47, 3, 0, [332, 334, 3, 59, 335])), (113, (.istore 8, 2, 8, 0, 0, [])), (115, (.iload 8, 2, 8, 0, 0, [])), (117, (.ifCond .ge 8, 3, 125, 0, 0, [])), (120, (.iconst (-1), 1, 0, 0, (-1), [])), (121, (.iload 8, 2, 8, 0, 0, [])), (123, (.isub, 1, 0, 0, 0, [])), (124, (.ireturn, 1, 0, 0, 0, [])), (125, (.aload_n 0, 1, 0, 0, 0, [])), (126, (.iload 6, 2, 6, 0, 0, [])), (128, (.iload 7, 2, 7, 0, 0, [])), (130, (.invokevirtual 53, 3, 51, 2, 0, [347, 349, 6, 59, 350])), (133, (.iload 8, 2, 8, 0, 0, [])), (135, (.istore 5, 2, 5, 0, 0, [])), (137, (.iinc 7 1, 3, 7, 0, 1, [])), (140, (.goto (-42), 3, 98, 0, 0, [])), (143, (.iinc 6 1, 3, 6, 0, 1, [])), (146, (.goto (-75), 3, 71, 0, 0, [])), (149, (.iload 5, 2, 5, 0, 0, [])), (151, (.iload_n 2, 1, 2, 0, 0, [])), (152, (.if_icmp .ge 8, 3, 160, 0, 0, [])), (155, (.iload 5, 2, 5, 0, 0, [])), (157, (.goto 5, 3, 162, 0, 0, [])), (160, (.bipush (-9), 2, 0, 0, (-9), [])), (162, (.ireturn, 1, 0, 0, 0, []))]
def fj_i45 : List (Nat × fj_AI) := [(0, (.aload_n 0, 1, 0, 0, 0, [])), (1, (.iconst 0, 1, 0, 0, 0, [])), (2, (.putfield 33, 3, 5, 0, 0, [186])), (5, (.aload_n 0, 1, 0, 0, 0, [])), (6, (.iconst 0, 1, 0, 0, 0, [])), (7, (.putfield 37, 3, 5, 1, 0, [191])), (10, (.aload_n 0, 1, 0, 0, 0, [])), (11, (.iconst 0, 1, 0, 0, 0, [])), (12, (.putfield 57, 3, 5, 2, 0, [192])), (15, (.aload_n 0, 1, 0, 0, 0, [])), (16, (.iconst 0, 1, 0, 0, 0, [])), (17, (.putfield 40, 3, 5, 3, 0, [196])), (20, (.aload_n 0, 1, 0, 0, 0, [])), (21, (.iconst 1, 1, 0, 0, 1, [])), (22, (.putfield 60, 3, 5, 4, 0, [201])), (25, (.aload_n 0, 1, 0, 0, 0, [])), (26, (.bipush 30, 2, 0, 0, 30, [])), (28, (.putfield 63, 3, 5, 5, 0, [204])), (31, (.return_, 1, 0, 0, 0, []))]
def fj_i46 : List (Nat × fj_AI) := [(0, (.iload_n 2, 1, 2, 0, 0, [])), (1, (.iload_n 1, 1, 1, 0, 0, [])), (2, (.if_icmp .ge 15, 3, 17, 0, 0, [])), (5, (.iload_n 2, 1, 2, 0, 0, [])), (6, (.aload_n 0, 1, 0, 0, 0, [])), (7, (.arraylength, 1, 0, 0, 0, [])), (8, (.if_icmp .ge 9, 3, 17, 0, 0, [])), (11, (.aload_n 0, 1, 0, 0, 0, [])), (12, (.iload_n 2, 1, 2, 0, 0, [])), (13, (.iaload, 1, 0, 0, 0, [])), (14, (.goto 4, 3, 18, 0, 0, [])), (17, (.iconst 0, 1, 0, 0, 0, [])), (18, (.ireturn, 1, 0, 0, 0, []))]
def fj_i47 : List (Nat × fj_AI) := [(0, (.aload_n 1, 1, 1, 0, 0, [])), (1, (.iload_n 2, 1, 2, 0, 0, [])), (2, (.iload_n 3, 1, 3, 0, 0, [])), (3, (.invokestatic 46, 3, 46, 3, 0, [329, 330, 59, 331])), (6, (.istore 4, 2, 4, 0, 0, [])), (8, (.aload_n 0, 1, 0, 0, 0, [])), (9, (.getfield 11, 3, 5, 6, 0, [206])), (12, (.aload_n 0, 1, 0, 0, 0, [])), (13, (.getfield 33, 3, 5, 0, 0, [186])), (16, (.bipush (-9), 2, 0, 0, (-9), [])), (18, (.iastore, 1, 0, 0, 0, [])), (19, (.iload 4, 2, 4, 0, 0, [])), (21, (.bipush 46, 2, 0, 0, 46, [])), (23, (.if_icmp .ne 7, 3, 30, 0, 0, [])), (26, (.iload_n 3, 1, 3, 0, 0, [])), (27, (.iconst 1, 1, 0, 0, 1, [])), (28, (.iadd, 1, 0, 0, 0, [])), (29, (.ireturn, 1, 0, 0, 0, [])), (30, (.iload 4, 2, 4, 0, 0, [])), (32, (.bipush 111, 2, 0, 0, 111, [])), (34, (.if_icmp .ne 23, 3, 57, 0, 0, [])), (37, (.aload_n 0, 1, 0, 0, 0, [])), (38, (.getfield 57, 3, 5, 2, 0, [192])), (41, (.iconst 2, 1, 0, 0, 2, [])), (42, (.if_icmp .ne 7, 3, 49, 0, 0, [])), (45, (.iconst (-1), 1, 0, 0, (-1), [])), (46, (.iload_n 3, 1, 3, 0, 0, [])), (47, (.isub, 1, 0, 0, 0, [])), (48, (.ireturn, 1, 0, 0, 0, [])), (49, (.aload_n 0, 1, 0, 0, 0, [])), (50, (.invokevirtual 66, 3, 49, 0, 0, [336, 338, 4, 59, 339])), (53, (.iload_n 3, 1, 3, 0, 0, [])), (54, (.iconst 1, 1, 0, 0, 1, [])), (55, (.iadd, 1, 0, 0, 0, [])), (56, (.ireturn, 1, 0, 0, 0, [])), (57, (.iload 4, 2, 4, 0, 0, [])), (59, (.invokestatic 69, 3, 48, 1, 0, [340, 341, 59, 342])), (62, (.istore 5, 2, 5, 0, 0, [])), (64, (.iload 5, 2, 5, 0, 0, [])), (66, (.bipush (-9), 2, 0, 0, (-9), [])), (68, (.if_icmp .eq 12, 3, 80, 0, 0, [])), (71, (.aload_n 0, 1, 0, 0, 0, [])), (72, (.getfield 37, 3, 5, 1, 0, [191])), (75, (.bipush 6, 2, 0, 0, 6, [])), (77, (.if_icmp .ne 7, 3, 84, 0, 0, [])), (80, (.iconst (-1), 1, 0, 0, (-1), [])), (81, (.iload_n 3, 1, 3, 0, 0, [])), (82, (.isub, 1, 0, 0, 0, [])), (83, (.ireturn, 1, 0, 0, 0, [])), (84, (.aload_n 1, 1, 1, 0, 0, [])), (85, (.iload_n 2, 1, 2, 0, 0, [])), (86, (.iload_n 3, 1, 3, 0, 0, [])), (87, (.iconst 1, 1, 0, 0, 1, [])), (88, (.iadd, 1, 0, 0, 0, [])), (89, (.invokestatic 46, 3, 46, 3, 0, [329, 330, 59, 331])), (92, (.bipush 48, 2, 0, 0, 48, [])), (94, (.isub, 1, 0, 0, 0, [])), (95, (.istore 6, 2, 6, 0, 0, [])), (97, (.iload 6, 2, 6, 0, 0, [])), (99, (.ifCond .lt 9, 3, 108, 0, 0, [])), (102, (.iload 6, 2, 6, 0, 0, [])), (104, (.iconst 5, 1, 0, 0, 5, [])), (105, (.if_icmp .le 9, 3, 114, 0, 0, [])), (108, (.iconst (-1), 1, 0, 0, (-1), [])), (109, (.iload_n 3, 1, 3, 0, 0, [])), (110, (.iconst 1, 1, 0, 0, 1, [])), (111, (.iadd, 1, 0, 0, 0, [])), (112, (.isub, 1, 0, 0, 0, [])), (113, (.ireturn, 1, 0, 0, 0, [])), (114, (.aload_n 0, 1, 0, 0, 0, [])), (115, (.iload 5, 2, 5, 0, 0, [])), (117, (.iload 6, 2, 6, 0, 0, [])), (119, (.invokevirtual 73, 3, 50, 2, 0, [343, 345, 5, 59, 346])), (122, (.iload_n 3, 1, 3, 0, 0, [])), (123, (.iconst 2, 1, 0, 0, 2, [])), (124, (.iadd, 1, 0, 0, 0, [])), (125, (.ireturn, 1, 0, 0, 0, []))]
def fj_i48 : List (Nat × fj_AI) := [(0, (.iload_n 0, 1, 0, 0, 0, [])), (1, (.lookupswitch 41 #[(99, 39), (109, 35), (119, 37)], 35, 0, 0, 0, [])), (36, (.iconst 0, 1, 0, 0, 0, [])), (37, (.ireturn, 1, 0, 0, 0, [])), (38, (.iconst 1, 1, 0, 0, 1, [])), (39, (.ireturn, 1, 0, 0, 0, [])), (40, (.iconst 2, 1, 0, 0, 2, [])), (41, (.ireturn, 1, 0, 0, 0, [])), (42, (.bipush (-9), 2, 0, 0, (-9), [])), (44, (.ireturn, 1, 0, 0, 0, []))]
def fj_i49 : List (Nat × fj_AI) := [(0, (.aload_n 0, 1, 0, 0, 0, [])), (1, (.getfield 24, 3, 5, 10, 0, [220])), (4, (.aload_n 0, 1, 0, 0, 0, [])), (5, (.getfield 57, 3, 5, 2, 0, [192])), (8, (.aload_n 0, 1, 0, 0, 0, [])), (9, (.getfield 33, 3, 5, 0, 0, [186])), (12, (.iastore, 1, 0, 0, 0, [])), (13, (.aload_n 0, 1, 0, 0, 0, [])), (14, (.getfield 11, 3, 5, 6, 0, [206])), (17, (.aload_n 0, 1, 0, 0, 0, [])), (18, (.getfield 33, 3, 5, 0, 0, [186])), (21, (.bipush 6, 2, 0, 0, 6, [])), (23, (.aload_n 0, 1, 0, 0, 0, [])), (24, (.getfield 57, 3, 5, 2, 0, [192])), (27, (.iadd, 1, 0, 0, 0, [])), (28, (.iastore, 1, 0, 0, 0, [])), (29, (.aload_n 0, 1, 0, 0, 0, [])), (30, (.dup, 1, 0, 0, 0, [])), (31, (.getfield 57, 3, 5, 2, 0, [192])), (34, (.iconst 1, 1, 0, 0, 1, [])), (35, (.iadd, 1, 0, 0, 0, [])), (36, (.putfield 57, 3, 5, 2, 0, [192])), (39, (.return_, 1, 0, 0, 0, []))]
def fj_i50 : List (Nat × fj_AI) := [(0, (.aload_n 0, 1, 0, 0, 0, [])), (1, (.getfield 15, 3, 5, 7, 0, [208])), (4, (.aload_n 0, 1, 0, 0, 0, [])), (5, (.getfield 37, 3, 5, 1, 0, [191])), (8, (.iload_n 1, 1, 1, 0, 0, [])), (9, (.iastore, 1, 0, 0, 0, [])), (10, (.aload_n 0, 1, 0, 0, 0, [])), (11, (.getfield 18, 3, 5, 8, 0, [211])), (14, (.aload_n 0, 1, 0, 0, 0, [])), (15, (.getfield 37, 3, 5, 1, 0, [191])), (18, (.iload_n 2, 1, 2, 0, 0, [])), (19, (.iastore, 1, 0, 0, 0, [])), (20, (.aload_n 0, 1, 0, 0, 0, [])), (21, (.getfield 21, 3, 5, 9, 0, [214])), (24, (.aload_n 0, 1, 0, 0, 0, [])), (25, (.getfield 37, 3, 5, 1, 0, [191])), (28, (.aload_n 0, 1, 0, 0, 0, [])), (29, (.getfield 33, 3, 5, 0, 0, [186])), (32, (.iastore, 1, 0, 0, 0, [])), (33, (.aload_n 0, 1, 0, 0, 0, [])), (34, (.getfield 11, 3, 5, 6, 0, [206])), (37, (.aload_n 0, 1, 0, 0, 0, [])), (38, (.getfield 33, 3, 5, 0, 0, [186])), (41, (.aload_n 0, 1, 0, 0, 0, [])), (42, (.getfield 37, 3, 5, 1, 0, [191])), (45, (.iastore, 1, 0, 0, 0, [])), (46, (.aload_n 0, 1, 0, 0, 0, [])), (47, (.dup, 1, 0, 0, 0, [])), (48, (.getfield 37, 3, 5, 1, 0, [191])), (51, (.iconst 1, 1, 0, 0, 1, [])), (52, (.iadd, 1, 0, 0, 0, [])), (53, (.putfield 37, 3, 5, 1, 0, [191])), (56, (.return_, 1, 0, 0, 0, []))]
def fj_i51 : List (Nat × fj_AI) := [(0, (.aload_n 0, 1, 0, 0, 0, [])), (1, (.getfield 27, 3, 5, 11, 0, [223])), (4, (.aload_n 0, 1, 0, 0, 0, [])), (5, (.getfield 33, 3, 5, 0, 0, [186])), (8, (.iload_n 1, 1, 1, 0, 0, [])), (9, (.iastore, 1, 0, 0, 0, [])), (10, (.aload_n 0, 1, 0, 0, 0, [])), (11, (.getfield 30, 3, 5, 12, 0, [224])), (14, (.aload_n 0, 1, 0, 0, 0, [])), (15, (.getfield 33, 3, 5, 0, 0, [186])), (18, (.iload_n 2, 1, 2, 0, 0, [])), (19, (.iastore, 1, 0, 0, 0, [])), (20, (.aload_n 0, 1, 0, 0, 0, [])), (21, (.dup, 1, 0, 0, 0, [])), (22, (.getfield 33, 3, 5, 0, 0, [186])), (25, (.iconst 1, 1, 0, 0, 1, [])), (26, (.iadd, 1, 0, 0, 0, [])), (27, (.putfield 33, 3, 5, 0, 0, [186])), (30, (.return_, 1, 0, 0, 0, []))]
def fj_i52 : List (Nat × fj_AI) := [(0, (.aload_n 0, 1, 0, 0, 0, [])), (1, (.getfield 27, 3, 5, 11, 0, [223])), (4, (.iload_n 1, 1, 1, 0, 0, [])), (5, (.iaload, 1, 0, 0, 0, [])), (6, (.aload_n 0, 1, 0, 0, 0, [])), (7, (.getfield 27, 3, 5, 11, 0, [223])), (10, (.iload_n 2, 1, 2, 0, 0, [])), (11, (.iaload, 1, 0, 0, 0, [])), (12, (.isub, 1, 0, 0, 0, [])), (13, (.invokestatic 76, 3, 997, 0, 0, [382, 383, 61, 384])), (16, (.aload_n 0, 1, 0, 0, 0, [])), (17, (.getfield 30, 3, 5, 12, 0, [224])), (20, (.iload_n 1, 1, 1, 0, 0, [])), (21, (.iaload, 1, 0, 0, 0, [])), (22, (.aload_n 0, 1, 0, 0, 0, [])), (23, (.getfield 30, 3, 5, 12, 0, [224])), (26, (.iload_n 2, 1, 2, 0, 0, [])), (27, (.iaload, 1, 0, 0, 0, [])), (28, (.isub, 1, 0, 0, 0, [])), (29, (.invokestatic 76, 3, 997, 0, 0, [382, 383, 61, 384])), (32, (.iadd, 1, 0, 0, 0, [])), (33, (.ireturn, 1, 0, 0, 0, []))]
def fj_i53 : List (Nat × fj_AI) := [(0, (.iload_n 0, 1, 0, 0, 0, [])), (1, (.lookupswitch 37 #[(1, 33), (2, 27)], 27, 0, 0, 0, [])), (28, (.iconst 2, 1, 0, 0, 2, [])), (29, (.iload_n 1, 1, 1, 0, 0, [])), (30, (.iconst 1, 1, 0, 0, 1, [])), (31, (.iadd, 1, 0, 0, 0, [])), (32, (.imul, 1, 0, 0, 0, [])), (33, (.ireturn, 1, 0, 0, 0, [])), (34, (.iload_n 1, 1, 1, 0, 0, [])), (35, (.iconst 1, 1, 0, 0, 1, [])), (36, (.iadd, 1, 0, 0, 0, [])), (37, (.ireturn, 1, 0, 0, 0, [])), (38, (.iload_n 1, 1, 1, 0, 0, [])), (39, (.ireturn, 1, 0, 0, 0, []))]
def fj_i54 : List (Nat × fj_AI) := [(0, (.iconst 0, 1, 0, 0, 0, [])), (1, (.istore_n 2, 1, 2, 0, 0, [])), (2, (.iconst 0, 1, 0, 0, 0, [])), (3, (.istore_n 3, 1, 3, 0, 0, [])), (4, (.iload_n 3, 1, 3, 0, 0, [])), (5, (.aload_n 0, 1, 0, 0, 0, [])), (6, (.getfield 37, 3, 5, 1, 0, [191])), (9, (.if_icmp .ge 44, 3, 53, 0, 0, [])), (12, (.aload_n 0, 1, 0, 0, 0, [])), (13, (.iload_n 1, 1, 1, 0, 0, [])), (14, (.aload_n 0, 1, 0, 0, 0, [])), (15, (.getfield 21, 3, 5, 9, 0, [214])), (18, (.iload_n 3, 1, 3, 0, 0, [])), (19, (.iaload, 1, 0, 0, 0, [])), (20, (.invokevirtual 81, 3, 52, 2, 0, [409, 379, 380, 59, 381])), (23, (.aload_n 0, 1, 0, 0, 0, [])), (24, (.getfield 15, 3, 5, 7, 0, [208])), (27, (.iload_n 3, 1, 3, 0, 0, [])), (28, (.iaload, 1, 0, 0, 0, [])), (29, (.aload_n 0, 1, 0, 0, 0, [])), (30, (.getfield 18, 3, 5, 8, 0, [211])), (33, (.iload_n 3, 1, 3, 0, 0, [])), (34, (.iaload, 1, 0, 0, 0, [])), (35, (.invokestatic 85, 3, 53, 2, 0, [410, 368, 59, 369])), (38, (.if_icmp .gt 9, 3, 47, 0, 0, [])), (41, (.iload_n 2, 1, 2, 0, 0, [])), (42, (.iconst 1, 1, 0, 0, 1, [])), (43, (.iload_n 3, 1, 3, 0, 0, [])), (44, (.ishl, 1, 0, 0, 0, [])), (45, (.ior, 1, 0, 0, 0, [])), (46, (.istore_n 2, 1, 2, 0, 0, [])), (47, (.iinc 3 1, 3, 3, 0, 1, [])), (50, (.goto (-46), 3, 4, 0, 0, [])), (53, (.iload_n 2, 1, 2, 0, 0, [])), (54, (.ireturn, 1, 0, 0, 0, []))]
def fj_i55 : List (Nat × fj_AI) := [(0, (.iconst 0, 1, 0, 0, 0, [])), (1, (.istore_n 3, 1, 3, 0, 0, [])), (2, (.iload_n 3, 1, 3, 0, 0, [])), (3, (.iload_n 2, 1, 2, 0, 0, [])), (4, (.if_icmp .ge 37, 3, 41, 0, 0, [])), (7, (.iload_n 3, 1, 3, 0, 0, [])), (8, (.aload_n 1, 1, 1, 0, 0, [])), (9, (.arraylength, 1, 0, 0, 0, [])), (10, (.if_icmp .ge 31, 3, 41, 0, 0, [])), (13, (.aload_n 0, 1, 0, 0, 0, [])), (14, (.aload_n 1, 1, 1, 0, 0, [])), (15, (.iload_n 3, 1, 3, 0, 0, [])), (16, (.iaload, 1, 0, 0, 0, [])), (17, (.invokevirtual 88, 3, 42, 1, 0, [423, 364, 365, 59, 366])), (20, (.ifCond .ne 15, 3, 35, 0, 0, [])), (23, (.aload_n 0, 1, 0, 0, 0, [])), (24, (.aload_n 1, 1, 1, 0, 0, [])), (25, (.iload_n 3, 1, 3, 0, 0, [])), (26, (.iaload, 1, 0, 0, 0, [])), (27, (.invokevirtual 92, 3, 56, 1, 0, [424, 426, 8, 59, 427])), (30, (.ifCond .ne 5, 3, 35, 0, 0, [])), (33, (.iconst 0, 1, 0, 0, 0, [])), (34, (.ireturn, 1, 0, 0, 0, [])), (35, (.iinc 3 1, 3, 3, 0, 1, [])), (38, (.goto (-36), 3, 2, 0, 0, [])), (41, (.iconst 1, 1, 0, 0, 1, [])), (42, (.ireturn, 1, 0, 0, 0, []))]
def fj_i56 : List (Nat × fj_AI) := [(0, (.iload_n 1, 1, 1, 0, 0, [])), (1, (.bipush 6, 2, 0, 0, 6, [])), (3, (.if_icmp .lt 18, 3, 21, 0, 0, [])), (6, (.iload_n 1, 1, 1, 0, 0, [])), (7, (.bipush 6, 2, 0, 0, 6, [])), (9, (.aload_n 0, 1, 0, 0, 0, [])), (10, (.getfield 57, 3, 5, 2, 0, [192])), (13, (.iadd, 1, 0, 0, 0, [])), (14, (.if_icmp .ge 7, 3, 21, 0, 0, [])), (17, (.iconst 1, 1, 0, 0, 1, [])), (18, (.goto 4, 3, 22, 0, 0, [])), (21, (.iconst 0, 1, 0, 0, 0, [])), (22, (.ireturn, 1, 0, 0, 0, []))]
def fj_i57 : List (Nat × fj_AI) := [(0, (.aload_n 0, 1, 0, 0, 0, [])), (1, (.invokespecial 3, 3, 999, 0, 0, [69, 70, 71])), (4, (.aload_n 0, 1, 0, 0, 0, [])), (5, (.new 9, 3, 3, 0, 0, [72, 73, 54])), (8, (.dup, 1, 0, 0, 0, [])), (9, (.invokespecial 11, 3, 18, 0, 1, [0, 75, 54, 76])), (12, (.putfield 12, 3, 6, 0, 0, [252])), (15, (.aload_n 0, 1, 0, 0, 0, [])), (16, (.new 18, 3, 1, 0, 0, [89, 90, 55])), (19, (.dup, 1, 0, 0, 0, [])), (20, (.invokespecial 20, 3, 3, 0, 1, [1, 92, 55, 93])), (23, (.putfield 21, 3, 6, 1, 0, [253])), (26, (.aload_n 0, 1, 0, 0, 0, [])), (27, (.new 25, 3, 4, 0, 0, [110, 111, 56])), (30, (.dup, 1, 0, 0, 0, [])), (31, (.invokespecial 27, 3, 33, 0, 1, [2, 113, 56, 114])), (34, (.putfield 28, 3, 6, 2, 0, [254])), (37, (.aload_n 0, 1, 0, 0, 0, [])), (38, (.new 32, 3, 0, 0, 0, [145, 146, 57])), (41, (.dup, 1, 0, 0, 0, [])), (42, (.invokespecial 34, 3, 0, 0, 1, [3, 148, 57, 149])), (45, (.putfield 35, 3, 6, 3, 0, [255])), (48, (.aload_n 0, 1, 0, 0, 0, [])), (49, (.new 39, 3, 2, 0, 0, [164, 165, 58])), (52, (.dup, 1, 0, 0, 0, [])), (53, (.invokespecial 41, 3, 8, 0, 1, [4, 167, 58, 168])), (56, (.putfield 42, 3, 6, 4, 0, [256])), (59, (.aload_n 0, 1, 0, 0, 0, [])), (60, (.bipush 60, 2, 0, 0, 60, [])), (62, (.newarray .int, 2, 1, 0, 0, [88])), (64, (.putfield 46, 3, 6, 5, 0, [257])), (67, (.aload_n 0, 1, 0, 0, 0, [])), (68, (.new 50, 3, 5, 0, 0, [180, 181, 59])), (71, (.dup, 1, 0, 0, 0, [])), (72, (.invokespecial 52, 3, 39, 0, 1, [5, 183, 59, 184])), (75, (.putfield 53, 3, 6, 6, 0, [258])), (78, (.aload_n 0, 1, 0, 0, 0, [])), (79, (.new 50, 3, 5, 0, 0, [180, 181, 59])), (82, (.dup, 1, 0, 0, 0, [])), (83, (.invokespecial 52, 3, 39, 0, 1, [5, 183, 59, 184])), (86, (.putfield 57, 3, 6, 7, 0, [259])), (89, (.return_, 1, 0, 0, 0, []))]
def fj_i58 : List (Nat × fj_AI) := [(0, (.aload_n 0, 1, 0, 0, 0, [])), (1, (.iconst 0, 1, 0, 0, 0, [])), (2, (.putfield 60, 3, 6, 9, 0, [261])), (5, (.iload_n 1, 1, 1, 0, 0, [])), (6, (.invokestatic 64, 3, 19, 1, 0, [287, 288, 54, 289])), (9, (.ifCond .ne 5, 3, 14, 0, 0, [])), (12, (.iconst (-1), 1, 0, 0, (-1), [])), (13, (.ireturn, 1, 0, 0, 0, [])), (14, (.iload_n 2, 1, 2, 0, 0, [])), (15, (.invokestatic 68, 3, 20, 1, 0, [290, 291, 54, 292])), (18, (.ifCond .ne 6, 3, 24, 0, 0, [])), (21, (.bipush (-2), 2, 0, 0, (-2), [])), (23, (.ireturn, 1, 0, 0, 0, [])), (24, (.aload_n 0, 1, 0, 0, 0, [])), (25, (.getfield 12, 3, 6, 0, 0, [252])), (28, (.iload_n 1, 1, 1, 0, 0, [])), (29, (.iload_n 2, 1, 2, 0, 0, [])), (30, (.invokevirtual 71, 3, 23, 2, 0, [293, 294, 295, 54, 296])), (33, (.istore 5, 2, 5, 0, 0, [])), (35, (.iload 5, 2, 5, 0, 0, [])), (37, (.ifCond .eq 10, 3, 47, 0, 0, [])), (40, (.aload_n 0, 1, 0, 0, 0, [])), (41, (.iload 5, 2, 5, 0, 0, [])), (43, (.invokevirtual 75, 3, 95, 1, 0, [301, 303, 0, 53, 304])), (46, (.ireturn, 1, 0, 0, 0, [])), (47, (.iload 4, 2, 4, 0, 0, [])), (49, (.ifCond .ge 9, 3, 58, 0, 0, [])), (52, (.aload_n 0, 1, 0, 0, 0, [])), (53, (.iconst 4, 1, 0, 0, 4, [])), (54, (.invokevirtual 75, 3, 95, 1, 0, [301, 303, 0, 53, 304])), (57, (.ireturn, 1, 0, 0, 0, [])), (58, (.aload_n 0, 1, 0, 0, 0, [])), (59, (.getfield 12, 3, 6, 0, 0, [252])), (62, (.iload_n 1, 1, 1, 0, 0, [])), (63, (.iload_n 3, 1, 3, 0, 0, [])), (64, (.iload 4, 2, 4, 0, 0, [])), (66, (.invokevirtual 79, 3, 25, 3, 0, [305, 306, 307, 54, 308])), (69, (.ifCond .ne 9, 3, 78, 0, 0, [])), (72, (.aload_n 0, 1, 0, 0, 0, [])), (73, (.iconst 3, 1, 0, 0, 3, [])), (74, (.invokevirtual 75, 3, 95, 1, 0, [301, 303, 0, 53, 304])), (77, (.ireturn, 1, 0, 0, 0, [])), (78, (.aload_n 0, 1, 0, 0, 0, [])), (79, (.getfield 12, 3, 6, 0, 0, [252])), (82, (.iload_n 1, 1, 1, 0, 0, [])), (83, (.iload_n 3, 1, 3, 0, 0, [])), (84, (.iload 4, 2, 4, 0, 0, [])), (86, (.aload_n 0, 1, 0, 0, 0, [])), (87, (.getfield 46, 3, 6, 5, 0, [257])), (90, (.invokevirtual 83, 3, 32, 4, 0, [309, 310, 311, 54, 312])), (93, (.aload_n 0, 1, 0, 0, 0, [])), (94, (.iload 4, 2, 4, 0, 0, [])), (96, (.invokevirtual 87, 3, 59, 1, 0, [317, 319, 1, 53, 320])), (99, (.ireturn, 1, 0, 0, 0, []))]
def fj_i59 : List (Nat × fj_AI) := [(0, (.aload_n 0, 1, 0, 0, 0, [])), (1, (.getfield 57, 3, 6, 7, 0, [259])), (4, (.aload_n 0, 1, 0, 0, 0, [])), (5, (.getfield 46, 3, 6, 5, 0, [257])), (8, (.iload_n 1, 1, 1, 0, 0, [])), (9, (.invokevirtual 90, 3, 44, 2, 0, [321, 322, 323, 59, 324])), (12, (.istore_n 2, 1, 2, 0, 0, [])), (13, (.iload_n 2, 1, 2, 0, 0, [])), (14, (.bipush (-9), 2, 0, 0, (-9), [])), (16, (.if_icmp .eq 8, 3, 24, 0, 0, [])), (19, (.bipush (-100), 2, 0, 0, (-100), [])), (21, (.iload_n 2, 1, 2, 0, 0, [])), (22, (.isub, 1, 0, 0, 0, [])), (23, (.ireturn, 1, 0, 0, 0, [])), (24, (.aload_n 0, 1, 0, 0, 0, [])), (25, (.getfield 53, 3, 6, 6, 0, [258])), (28, (.astore_n 3, 1, 3, 0, 0, [])), (29, (.aload_n 0, 1, 0, 0, 0, [])), (30, (.aload_n 0, 1, 0, 0, 0, [])), (31, (.getfield 57, 3, 6, 7, 0, [259])), (34, (.putfield 53, 3, 6, 6, 0, [258])), (37, (.aload_n 0, 1, 0, 0, 0, [])), (38, (.aload_n 3, 1, 3, 0, 0, [])), (39, (.putfield 57, 3, 6, 7, 0, [259])), (42, (.aload_n 0, 1, 0, 0, 0, [])), (43, (.getfield 21, 3, 6, 1, 0, [253])), (46, (.iconst 0, 1, 0, 0, 0, [])), (47, (.putfield 94, 3, 1, 0, 0, [96])), (50, (.aload_n 0, 1, 0, 0, 0, [])), (51, (.getfield 53, 3, 6, 6, 0, [258])), (54, (.getfield 97, 3, 5, 1, 0, [190])), (57, (.ireturn, 1, 0, 0, 0, []))]
def fj_i60 : List (Nat × fj_AI) := [(0, (.aload_n 0, 1, 0, 0, 0, [])), (1, (.getfield 53, 3, 6, 6, 0, [258])), (4, (.iload_n 1, 1, 1, 0, 0, [])), (5, (.invokevirtual 100, 3, 41, 1, 0, [355, 356, 357, 59, 358])), (8, (.ifCond .ne 5, 3, 13, 0, 0, [])), (11, (.iconst (-1), 1, 0, 0, (-1), [])), (12, (.ireturn, 1, 0, 0, 0, [])), (13, (.aload_n 0, 1, 0, 0, 0, [])), (14, (.getfield 53, 3, 6, 6, 0, [258])), (17, (.getfield 103, 3, 5, 6, 0, [207])), (20, (.iload_n 1, 1, 1, 0, 0, [])), (21, (.iaload, 1, 0, 0, 0, [])), (22, (.ireturn, 1, 0, 0, 0, []))]
def fj_i61 : List (Nat × fj_AI) := [(0, (.aload_n 0, 1, 0, 0, 0, [])), (1, (.getfield 53, 3, 6, 6, 0, [258])), (4, (.iload_n 1, 1, 1, 0, 0, [])), (5, (.invokevirtual 106, 3, 42, 1, 0, [363, 364, 365, 59, 366])), (8, (.ifCond .ne 5, 3, 13, 0, 0, [])), (11, (.iconst (-1), 1, 0, 0, (-1), [])), (12, (.ireturn, 1, 0, 0, 0, [])), (13, (.iload_n 2, 1, 2, 0, 0, [])), (14, (.tableswitch 103 0 4 #[34, 44, 54, 64, 86], 34, 0, 0, 0, [])), (48, (.aload_n 0, 1, 0, 0, 0, [])), (49, (.getfield 53, 3, 6, 6, 0, [258])), (52, (.getfield 109, 3, 5, 7, 0, [210])), (55, (.iload_n 1, 1, 1, 0, 0, [])), (56, (.iaload, 1, 0, 0, 0, [])), (57, (.ireturn, 1, 0, 0, 0, [])), (58, (.aload_n 0, 1, 0, 0, 0, [])), (59, (.getfield 53, 3, 6, 6, 0, [258])), (62, (.getfield 112, 3, 5, 8, 0, [213])), (65, (.iload_n 1, 1, 1, 0, 0, [])), (66, (.iaload, 1, 0, 0, 0, [])), (67, (.ireturn, 1, 0, 0, 0, [])), (68, (.aload_n 0, 1, 0, 0, 0, [])), (69, (.getfield 53, 3, 6, 6, 0, [258])), (72, (.getfield 115, 3, 5, 9, 0, [217])), (75, (.iload_n 1, 1, 1, 0, 0, [])), (76, (.iaload, 1, 0, 0, 0, [])), (77, (.ireturn, 1, 0, 0, 0, [])), (78, (.aload_n 0, 1, 0, 0, 0, [])), (79, (.getfield 53, 3, 6, 6, 0, [258])), (82, (.getfield 109, 3, 5, 7, 0, [210])), (85, (.iload_n 1, 1, 1, 0, 0, [])), (86, (.iaload, 1, 0, 0, 0, [])), (87, (.aload_n 0, 1, 0, 0, 0, [])), (88, (.getfield 53, 3, 6, 6, 0, [258])), (91, (.getfield 112, 3, 5, 8, 0, [213])), (94, (.iload_n 1, 1, 1, 0, 0, [])), (95, (.iaload, 1, 0, 0, 0, [])), (96, (.invokestatic 118, 3, 53, 2, 0, [367, 368, 59, 369])), (99, (.ireturn, 1, 0, 0, 0, [])), (100, (.aload_n 0, 1, 0, 0, 0, [])), (101, (.getfield 53, 3, 6, 6, 0, [258])), (104, (.iload_n 1, 1, 1, 0, 0, [])), (105, (.invokevirtual 121, 3, 43, 1, 0, [370, 371, 372, 59, 373])), (108, (.ifCond .eq 7, 3, 115, 0, 0, [])), (111, (.iconst 1, 1, 0, 0, 1, [])), (112, (.goto 4, 3, 116, 0, 0, [])), (115, (.iconst 0, 1, 0, 0, 0, [])), (116, (.ireturn, 1, 0, 0, 0, [])), (117, (.bipush (-2), 2, 0, 0, (-2), [])), (119, (.ireturn, 1, 0, 0, 0, []))]
def fj_i62 : List (Nat × fj_AI) := [(0, (.aload_n 0, 1, 0, 0, 0, [])), (1, (.getfield 53, 3, 6, 6, 0, [258])), (4, (.iload_n 1, 1, 1, 0, 0, [])), (5, (.invokevirtual 100, 3, 41, 1, 0, [355, 356, 357, 59, 358])), (8, (.ifCond .eq 14, 3, 22, 0, 0, [])), (11, (.aload_n 0, 1, 0, 0, 0, [])), (12, (.getfield 53, 3, 6, 6, 0, [258])), (15, (.iload_n 2, 1, 2, 0, 0, [])), (16, (.invokevirtual 100, 3, 41, 1, 0, [355, 356, 357, 59, 358])), (19, (.ifCond .ne 5, 3, 24, 0, 0, [])), (22, (.iconst (-1), 1, 0, 0, (-1), [])), (23, (.ireturn, 1, 0, 0, 0, [])), (24, (.aload_n 0, 1, 0, 0, 0, [])), (25, (.getfield 53, 3, 6, 6, 0, [258])), (28, (.iload_n 1, 1, 1, 0, 0, [])), (29, (.iload_n 2, 1, 2, 0, 0, [])), (30, (.invokevirtual 124, 3, 52, 2, 0, [378, 379, 380, 59, 381])), (33, (.ireturn, 1, 0, 0, 0, []))]
def fj_i63 : List (Nat × fj_AI) := [(0, (.iload_n 1, 1, 1, 0, 0, [])), (1, (.iconst 1, 1, 0, 0, 1, [])), (2, (.if_icmp .lt 9, 3, 11, 0, 0, [])), (5, (.iload_n 1, 1, 1, 0, 0, [])), (6, (.bipush 6, 2, 0, 0, 6, [])), (8, (.if_icmp .le 6, 3, 14, 0, 0, [])), (11, (.bipush (-2), 2, 0, 0, (-2), [])), (13, (.ireturn, 1, 0, 0, 0, [])), (14, (.aload_n 0, 1, 0, 0, 0, [])), (15, (.getfield 53, 3, 6, 6, 0, [258])), (18, (.invokevirtual 127, 3, 40, 0, 0, [389, 390, 391, 59, 392])), (21, (.ifCond .ne 6, 3, 27, 0, 0, [])), (24, (.bipush (-3), 2, 0, 0, (-3), [])), (26, (.ireturn, 1, 0, 0, 0, [])), (27, (.aload_n 0, 1, 0, 0, 0, [])), (28, (.getfield 53, 3, 6, 6, 0, [258])), (31, (.getfield 131, 3, 5, 4, 0, [202])), (34, (.istore_n 2, 1, 2, 0, 0, [])), (35, (.aload_n 0, 1, 0, 0, 0, [])), (36, (.getfield 53, 3, 6, 6, 0, [258])), (39, (.iload_n 1, 1, 1, 0, 0, [])), (40, (.putfield 131, 3, 5, 4, 0, [202])), (43, (.iload_n 2, 1, 2, 0, 0, [])), (44, (.ireturn, 1, 0, 0, 0, []))]
def fj_i64 : List (Nat × fj_AI) := [(0, (.iload_n 1, 1, 1, 0, 0, [])), (1, (.ifCond .lt 9, 3, 10, 0, 0, [])), (4, (.iload_n 1, 1, 1, 0, 0, [])), (5, (.bipush 99, 2, 0, 0, 99, [])), (7, (.if_icmp .le 6, 3, 13, 0, 0, [])), (10, (.bipush (-2), 2, 0, 0, (-2), [])), (12, (.ireturn, 1, 0, 0, 0, [])), (13, (.aload_n 0, 1, 0, 0, 0, [])), (14, (.getfield 53, 3, 6, 6, 0, [258])), (17, (.invokevirtual 127, 3, 40, 0, 0, [389, 390, 391, 59, 392])), (20, (.ifCond .ne 6, 3, 26, 0, 0, [])), (23, (.bipush (-3), 2, 0, 0, (-3), [])), (25, (.ireturn, 1, 0, 0, 0, [])), (26, (.aload_n 0, 1, 0, 0, 0, [])), (27, (.getfield 53, 3, 6, 6, 0, [258])), (30, (.getfield 134, 3, 5, 5, 0, [205])), (33, (.istore_n 2, 1, 2, 0, 0, [])), (34, (.aload_n 0, 1, 0, 0, 0, [])), (35, (.getfield 53, 3, 6, 6, 0, [258])), (38, (.iload_n 1, 1, 1, 0, 0, [])), (39, (.putfield 134, 3, 5, 5, 0, [205])), (42, (.iload_n 2, 1, 2, 0, 0, [])), (43, (.ireturn, 1, 0, 0, 0, []))]
def fj_i65 : List (Nat × fj_AI) := [(0, (.aload_n 0, 1, 0, 0, 0, [])), (1, (.getfield 53, 3, 6, 6, 0, [258])), (4, (.iload_n 1, 1, 1, 0, 0, [])), (5, (.invokevirtual 106, 3, 42, 1, 0, [363, 364, 365, 59, 366])), (8, (.ifCond .ne 5, 3, 13, 0, 0, [])), (11, (.iconst (-1), 1, 0, 0, (-1), [])), (12, (.ireturn, 1, 0, 0, 0, [])), (13, (.aload_n 0, 1, 0, 0, 0, [])), (14, (.getfield 53, 3, 6, 6, 0, [258])), (17, (.iload_n 1, 1, 1, 0, 0, [])), (18, (.invokevirtual 121, 3, 43, 1, 0, [370, 371, 372, 59, 373])), (21, (.iload_n 2, 1, 2, 0, 0, [])), (22, (.if_icmp .ne 5, 3, 27, 0, 0, [])), (25, (.iconst 0, 1, 0, 0, 0, [])), (26, (.ireturn, 1, 0, 0, 0, [])), (27, (.aload_n 0, 1, 0, 0, 0, [])), (28, (.getfield 53, 3, 6, 6, 0, [258])), (31, (.dup, 1, 0, 0, 0, [])), (32, (.getfield 137, 3, 5, 3, 0, [199])), (35, (.iconst 1, 1, 0, 0, 1, [])), (36, (.iload_n 1, 1, 1, 0, 0, [])), (37, (.ishl, 1, 0, 0, 0, [])), (38, (.ixor, 1, 0, 0, 0, [])), (39, (.putfield 137, 3, 5, 3, 0, [199])), (42, (.iconst 1, 1, 0, 0, 1, [])), (43, (.ireturn, 1, 0, 0, 0, []))]
def fj_i66 : List (Nat × fj_AI) := [(0, (.aload_n 0, 1, 0, 0, 0, [])), (1, (.getfield 53, 3, 6, 6, 0, [258])), (4, (.iload_n 1, 1, 1, 0, 0, [])), (5, (.invokevirtual 100, 3, 41, 1, 0, [355, 356, 357, 59, 358])), (8, (.ifCond .ne 5, 3, 13, 0, 0, [])), (11, (.iconst (-1), 1, 0, 0, (-1), [])), (12, (.ireturn, 1, 0, 0, 0, [])), (13, (.aload_n 0, 1, 0, 0, 0, [])), (14, (.getfield 53, 3, 6, 6, 0, [258])), (17, (.iload_n 1, 1, 1, 0, 0, [])), (18, (.invokevirtual 140, 3, 54, 1, 0, [405, 406, 407, 59, 408])), (21, (.aload_n 0, 1, 0, 0, 0, [])), (22, (.getfield 53, 3, 6, 6, 0, [258])), (25, (.getfield 137, 3, 5, 3, 0, [199])), (28, (.iconst (-1), 1, 0, 0, (-1), [])), (29, (.ixor, 1, 0, 0, 0, [])), (30, (.iand, 1, 0, 0, 0, [])), (31, (.ireturn, 1, 0, 0, 0, []))]
def fj_i67 : List (Nat × fj_AI) := [(0, (.aload_n 0, 1, 0, 0, 0, [])), (1, (.iload_n 1, 1, 1, 0, 0, [])), (2, (.iload_n 2, 1, 2, 0, 0, [])), (3, (.iload_n 3, 1, 3, 0, 0, [])), (4, (.iload 4, 2, 4, 0, 0, [])), (6, (.iload 5, 2, 5, 0, 0, [])), (8, (.ifCond .lt 13, 3, 21, 0, 0, [])), (11, (.iload 5, 2, 5, 0, 0, [])), (13, (.iconst 5, 1, 0, 0, 5, [])), (14, (.if_icmp .gt 7, 3, 21, 0, 0, [])), (17, (.iconst 1, 1, 0, 0, 1, [])), (18, (.goto 4, 3, 22, 0, 0, [])), (21, (.iconst 0, 1, 0, 0, 0, [])), (22, (.invokevirtual 143, 3, 68, 5, 0, [415, 417, 7, 53, 418])), (25, (.istore 6, 2, 6, 0, 0, [])), (27, (.iload 6, 2, 6, 0, 0, [])), (29, (.ifCond .eq 6, 3, 35, 0, 0, [])), (32, (.iload 6, 2, 6, 0, 0, [])), (34, (.ireturn, 1, 0, 0, 0, [])), (35, (.iload 5, 2, 5, 0, 0, [])), (37, (.iconst 1, 1, 0, 0, 1, [])), (38, (.if_icmp .ne 11, 3, 49, 0, 0, [])), (41, (.aload_n 0, 1, 0, 0, 0, [])), (42, (.getfield 28, 3, 6, 2, 0, [254])), (45, (.getfield 147, 3, 4, 1, 0, [119])), (48, (.ireturn, 1, 0, 0, 0, [])), (49, (.aload_n 0, 1, 0, 0, 0, [])), (50, (.getfield 28, 3, 6, 2, 0, [254])), (53, (.getfield 147, 3, 4, 1, 0, [119])), (56, (.bipush (-9), 2, 0, 0, (-9), [])), (58, (.if_icmp .eq 14, 3, 72, 0, 0, [])), (61, (.bipush (-100), 2, 0, 0, (-100), [])), (63, (.aload_n 0, 1, 0, 0, 0, [])), (64, (.getfield 28, 3, 6, 2, 0, [254])), (67, (.getfield 147, 3, 4, 1, 0, [119])), (70, (.isub, 1, 0, 0, 0, [])), (71, (.ireturn, 1, 0, 0, 0, [])), (72, (.iload 5, 2, 5, 0, 0, [])), (74, (.tableswitch 66 0 4 #[34, 66, 42, 50, 58], 34, 0, 0, 0, [])), (108, (.aload_n 0, 1, 0, 0, 0, [])), (109, (.getfield 28, 3, 6, 2, 0, [254])), (112, (.getfield 150, 3, 4, 0, 0, [117])), (115, (.ireturn, 1, 0, 0, 0, [])), (116, (.aload_n 0, 1, 0, 0, 0, [])), (117, (.getfield 28, 3, 6, 2, 0, [254])), (120, (.getfield 153, 3, 4, 3, 0, [123])), (123, (.ireturn, 1, 0, 0, 0, [])), (124, (.aload_n 0, 1, 0, 0, 0, [])), (125, (.getfield 28, 3, 6, 2, 0, [254])), (128, (.getfield 156, 3, 4, 2, 0, [121])), (131, (.ireturn, 1, 0, 0, 0, [])), (132, (.aload_n 0, 1, 0, 0, 0, [])), (133, (.getfield 28, 3, 6, 2, 0, [254])), (136, (.getfield 159, 3, 4, 4, 0, [125])), (139, (.ireturn, 1, 0, 0, 0, [])), (140, (.aload_n 0, 1, 0, 0, 0, [])), (141, (.getfield 28, 3, 6, 2, 0, [254])), (144, (.getfield 162, 3, 4, 5, 0, [127])), (147, (.ireturn, 1, 0, 0, 0, []))]
def fj_i68 : List (Nat × fj_AI) := [(0, (.aload_n 0, 1, 0, 0, 0, [])), (1, (.iconst 0, 1, 0, 0, 0, [])), (2, (.putfield 60, 3, 6, 9, 0, [261])), (5, (.iload_n 1, 1, 1, 0, 0, [])), (6, (.invokestatic 64, 3, 19, 1, 0, [287, 288, 54, 289])), (9, (.ifCond .ne 5, 3, 14, 0, 0, [])), (12, (.iconst (-1), 1, 0, 0, (-1), [])), (13, (.ireturn, 1, 0, 0, 0, [])), (14, (.iload_n 2, 1, 2, 0, 0, [])), (15, (.invokestatic 68, 3, 20, 1, 0, [290, 291, 54, 292])), (18, (.ifCond .eq 20, 3, 38, 0, 0, [])), (21, (.iload 4, 2, 4, 0, 0, [])), (23, (.ifCond .lt 15, 3, 38, 0, 0, [])), (26, (.iload 4, 2, 4, 0, 0, [])), (28, (.bipush 20, 2, 0, 0, 20, [])), (30, (.if_icmp .gt 8, 3, 38, 0, 0, [])), (33, (.iload 5, 2, 5, 0, 0, [])), (35, (.ifCond .ne 6, 3, 41, 0, 0, [])), (38, (.bipush (-2), 2, 0, 0, (-2), [])), (40, (.ireturn, 1, 0, 0, 0, [])), (41, (.aload_n 0, 1, 0, 0, 0, [])), (42, (.getfield 53, 3, 6, 6, 0, [258])), (45, (.invokevirtual 127, 3, 40, 0, 0, [389, 390, 391, 59, 392])), (48, (.ifCond .ne 6, 3, 54, 0, 0, [])), (51, (.bipush (-3), 2, 0, 0, (-3), [])), (53, (.ireturn, 1, 0, 0, 0, [])), (54, (.aload_n 0, 1, 0, 0, 0, [])), (55, (.getfield 12, 3, 6, 0, 0, [252])), (58, (.iload_n 1, 1, 1, 0, 0, [])), (59, (.iload_n 2, 1, 2, 0, 0, [])), (60, (.invokevirtual 71, 3, 23, 2, 0, [293, 294, 295, 54, 296])), (63, (.istore 6, 2, 6, 0, 0, [])), (65, (.iload 6, 2, 6, 0, 0, [])), (67, (.ifCond .eq 10, 3, 77, 0, 0, [])), (70, (.aload_n 0, 1, 0, 0, 0, [])), (71, (.iload 6, 2, 6, 0, 0, [])), (73, (.invokevirtual 75, 3, 95, 1, 0, [301, 303, 0, 53, 304])), (76, (.ireturn, 1, 0, 0, 0, [])), (77, (.aload_n 0, 1, 0, 0, 0, [])), (78, (.getfield 12, 3, 6, 0, 0, [252])), (81, (.iload_n 1, 1, 1, 0, 0, [])), (82, (.iload_n 3, 1, 3, 0, 0, [])), (83, (.iload 4, 2, 4, 0, 0, [])), (85, (.invokevirtual 79, 3, 25, 3, 0, [305, 306, 307, 54, 308])), (88, (.ifCond .ne 9, 3, 97, 0, 0, [])), (91, (.aload_n 0, 1, 0, 0, 0, [])), (92, (.iconst 3, 1, 0, 0, 3, [])), (93, (.invokevirtual 75, 3, 95, 1, 0, [301, 303, 0, 53, 304])), (96, (.ireturn, 1, 0, 0, 0, [])), (97, (.aload_n 0, 1, 0, 0, 0, [])), (98, (.getfield 12, 3, 6, 0, 0, [252])), (101, (.iload_n 1, 1, 1, 0, 0, [])), (102, (.iload_n 3, 1, 3, 0, 0, [])), (103, (.iload 4, 2, 4, 0, 0, [])), (105, (.aload_n 0, 1, 0, 0, 0, [])), (106, (.getfield 46, 3, 6, 5, 0, [257])), (109, (.invokevirtual 83, 3, 32, 4, 0, [309, 310, 311, 54, 312])), (112, (.aload_n 0, 1, 0, 0, 0, [])), (113, (.getfield 53, 3, 6, 6, 0, [258])), (116, (.aload_n 0, 1, 0, 0, 0, [])), (117, (.getfield 46, 3, 6, 5, 0, [257])), (120, (.iload 4, 2, 4, 0, 0, [])), (122, (.invokevirtual 165, 3, 55, 2, 0, [419, 420, 421, 59, 422])), (125, (.ifCond .ne 5, 3, 130, 0, 0, [])), (128, (.iconst (-1), 1, 0, 0, (-1), [])), (129, (.ireturn, 1, 0, 0, 0, [])), (130, (.aload_n 0, 1, 0, 0, 0, [])), (131, (.getfield 28, 3, 6, 2, 0, [254])), (134, (.aload_n 0, 1, 0, 0, 0, [])), (135, (.getfield 53, 3, 6, 6, 0, [258])), (138, (.aload_n 0, 1, 0, 0, 0, [])), (139, (.getfield 46, 3, 6, 5, 0, [257])), (142, (.iload 4, 2, 4, 0, 0, [])), (144, (.invokevirtual 169, 3, 34, 3, 0, [428, 429, 430, 56, 431])), (147, (.iconst 0, 1, 0, 0, 0, [])), (148, (.ireturn, 1, 0, 0, 0, []))]
def fj_i69 : List (Nat × fj_AI) := [(0, (.iload_n 1, 1, 1, 0, 0, [])), (1, (.ifCond .ge 5, 3, 6, 0, 0, [])), (4, (.iconst (-1), 1, 0, 0, (-1), [])), (5, (.ireturn, 1, 0, 0, 0, [])), (6, (.aload_n 0, 1, 0, 0, 0, [])), (7, (.getfield 53, 3, 6, 6, 0, [258])), (10, (.invokevirtual 127, 3, 40, 0, 0, [389, 390, 391, 59, 392])), (13, (.ifCond .ne 6, 3, 19, 0, 0, [])), (16, (.bipush (-3), 2, 0, 0, (-3), [])), (18, (.ireturn, 1, 0, 0, 0, [])), (19, (.aload_n 0, 1, 0, 0, 0, [])), (20, (.getfield 35, 3, 6, 3, 0, [255])), (23, (.aload_n 0, 1, 0, 0, 0, [])), (24, (.getfield 53, 3, 6, 6, 0, [258])), (27, (.invokevirtual 173, 3, 1, 1, 0, [454, 455, 456, 57, 457])), (30, (.aload_n 0, 1, 0, 0, 0, [])), (31, (.getfield 35, 3, 6, 3, 0, [255])), (34, (.getfield 177, 3, 0, 2, 0, [156])), (37, (.ifCond .ne 14, 3, 51, 0, 0, [])), (40, (.iload_n 1, 1, 1, 0, 0, [])), (41, (.aload_n 0, 1, 0, 0, 0, [])), (42, (.getfield 35, 3, 6, 3, 0, [255])), (45, (.getfield 180, 3, 0, 1, 0, [154])), (48, (.if_icmp .lt 6, 3, 54, 0, 0, [])), (51, (.bipush (-9), 2, 0, 0, (-9), [])), (53, (.ireturn, 1, 0, 0, 0, [])), (54, (.aload_n 0, 1, 0, 0, 0, [])), (55, (.getfield 35, 3, 6, 3, 0, [255])), (58, (.getfield 183, 3, 0, 0, 0, [152])), (61, (.iload_n 1, 1, 1, 0, 0, [])), (62, (.iaload, 1, 0, 0, 0, [])), (63, (.ireturn, 1, 0, 0, 0, []))]
def fj_i70 : List (Nat × fj_AI) := [(0, (.aload_n 0, 1, 0, 0, 0, [])), (1, (.getfield 53, 3, 6, 6, 0, [258])), (4, (.invokevirtual 127, 3, 40, 0, 0, [389, 390, 391, 59, 392])), (7, (.ifCond .ne 6, 3, 13, 0, 0, [])), (10, (.bipush (-3), 2, 0, 0, (-3), [])), (12, (.ireturn, 1, 0, 0, 0, [])), (13, (.aload_n 0, 1, 0, 0, 0, [])), (14, (.getfield 35, 3, 6, 3, 0, [255])), (17, (.aload_n 0, 1, 0, 0, 0, [])), (18, (.getfield 53, 3, 6, 6, 0, [258])), (21, (.invokevirtual 173, 3, 1, 1, 0, [454, 455, 456, 57, 457])), (24, (.aload_n 0, 1, 0, 0, 0, [])), (25, (.getfield 35, 3, 6, 3, 0, [255])), (28, (.getfield 177, 3, 0, 2, 0, [156])), (31, (.ireturn, 1, 0, 0, 0, []))]
def fj_i71 : List (Nat × fj_AI) := [(0, (.aload_n 0, 1, 0, 0, 0, [])), (1, (.getfield 53, 3, 6, 6, 0, [258])), (4, (.invokevirtual 127, 3, 40, 0, 0, [389, 390, 391, 59, 392])), (7, (.ifCond .ne 6, 3, 13, 0, 0, [])), (10, (.bipush (-3), 2, 0, 0, (-3), [])), (12, (.ireturn, 1, 0, 0, 0, [])), (13, (.aload_n 0, 1, 0, 0, 0, [])), (14, (.getfield 42, 3, 6, 4, 0, [256])), (17, (.aload_n 0, 1, 0, 0, 0, [])), (18, (.getfield 53, 3, 6, 6, 0, [258])), (21, (.iconst 0, 1, 0, 0, 0, [])), (22, (.invokevirtual 186, 3, 9, 2, 0, [471, 472, 473, 58, 474])), (25, (.ireturn, 1, 0, 0, 0, []))]
def fj_i72 : List (Nat × fj_AI) := [(0, (.aload_n 0, 1, 0, 0, 0, [])), (1, (.getfield 53, 3, 6, 6, 0, [258])), (4, (.invokevirtual 127, 3, 40, 0, 0, [389, 390, 391, 59, 392])), (7, (.ifCond .ne 6, 3, 13, 0, 0, [])), (10, (.bipush (-3), 2, 0, 0, (-3), [])), (12, (.ireturn, 1, 0, 0, 0, [])), (13, (.aload_n 0, 1, 0, 0, 0, [])), (14, (.getfield 42, 3, 6, 4, 0, [256])), (17, (.aload_n 0, 1, 0, 0, 0, [])), (18, (.getfield 53, 3, 6, 6, 0, [258])), (21, (.aload_n 0, 1, 0, 0, 0, [])), (22, (.getfield 53, 3, 6, 6, 0, [258])), (25, (.getfield 134, 3, 5, 5, 0, [205])), (28, (.invokevirtual 190, 3, 10, 2, 0, [512, 513, 514, 58, 515])), (31, (.ireturn, 1, 0, 0, 0, []))]
def fj_i73 : List (Nat × fj_AI) := [(0, (.aload_n 0, 1, 0, 0, 0, [])), (1, (.getfield 53, 3, 6, 6, 0, [258])), (4, (.iload_n 1, 1, 1, 0, 0, [])), (5, (.invokevirtual 106, 3, 42, 1, 0, [363, 364, 365, 59, 366])), (8, (.ifCond .ne 5, 3, 13, 0, 0, [])), (11, (.iconst (-1), 1, 0, 0, (-1), [])), (12, (.ireturn, 1, 0, 0, 0, [])), (13, (.aload_n 0, 1, 0, 0, 0, [])), (14, (.getfield 42, 3, 6, 4, 0, [256])), (17, (.aload_n 0, 1, 0, 0, 0, [])), (18, (.getfield 53, 3, 6, 6, 0, [258])), (21, (.iconst 1, 1, 0, 0, 1, [])), (22, (.iload_n 1, 1, 1, 0, 0, [])), (23, (.ishl, 1, 0, 0, 0, [])), (24, (.invokevirtual 186, 3, 9, 2, 0, [471, 472, 473, 58, 474])), (27, (.ireturn, 1, 0, 0, 0, []))]
def fj_i74 : List (Nat × fj_AI) := [(0, (.aload_n 0, 1, 0, 0, 0, [])), (1, (.getfield 53, 3, 6, 6, 0, [258])), (4, (.iload_n 1, 1, 1, 0, 0, [])), (5, (.invokevirtual 106, 3, 42, 1, 0, [363, 364, 365, 59, 366])), (8, (.ifCond .eq 14, 3, 22, 0, 0, [])), (11, (.aload_n 0, 1, 0, 0, 0, [])), (12, (.getfield 53, 3, 6, 6, 0, [258])), (15, (.iload_n 2, 1, 2, 0, 0, [])), (16, (.invokevirtual 100, 3, 41, 1, 0, [355, 356, 357, 59, 358])), (19, (.ifCond .ne 5, 3, 24, 0, 0, [])), (22, (.iconst (-1), 1, 0, 0, (-1), [])), (23, (.ireturn, 1, 0, 0, 0, [])), (24, (.aload_n 0, 1, 0, 0, 0, [])), (25, (.getfield 21, 3, 6, 1, 0, [253])), (28, (.getfield 94, 3, 1, 0, 0, [96])), (31, (.bipush 8, 2, 0, 0, 8, [])), (33, (.if_icmp .lt 6, 3, 39, 0, 0, [])), (36, (.bipush (-4), 2, 0, 0, (-4), [])), (38, (.ireturn, 1, 0, 0, 0, [])), (39, (.aload_n 0, 1, 0, 0, 0, [])), (40, (.getfield 21, 3, 6, 1, 0, [253])), (43, (.iload_n 1, 1, 1, 0, 0, [])), (44, (.iload_n 2, 1, 2, 0, 0, [])), (45, (.iload_n 3, 1, 3, 0, 0, [])), (46, (.invokevirtual 193, 3, 4, 3, 0, [530, 531, 532, 55, 533])), (49, (.ireturn, 1, 0, 0, 0, []))]
def fj_i75 : List (Nat × fj_AI) := [(0, (.iload_n 1, 1, 1, 0, 0, [])), (1, (.ifCond .lt 14, 3, 15, 0, 0, [])), (4, (.iload_n 1, 1, 1, 0, 0, [])), (5, (.aload_n 0, 1, 0, 0, 0, [])), (6, (.getfield 21, 3, 6, 1, 0, [253])), (9, (.getfield 94, 3, 1, 0, 0, [96])), (12, (.if_icmp .le 6, 3, 18, 0, 0, [])), (15, (.bipush (-2), 2, 0, 0, (-2), [])), (17, (.ireturn, 1, 0, 0, 0, [])), (18, (.aload_n 0, 1, 0, 0, 0, [])), (19, (.getfield 21, 3, 6, 1, 0, [253])), (22, (.dup, 1, 0, 0, 0, [])), (23, (.getfield 94, 3, 1, 0, 0, [96])), (26, (.iload_n 1, 1, 1, 0, 0, [])), (27, (.isub, 1, 0, 0, 0, [])), (28, (.putfield 94, 3, 1, 0, 0, [96])), (31, (.aload_n 0, 1, 0, 0, 0, [])), (32, (.getfield 21, 3, 6, 1, 0, [253])), (35, (.getfield 94, 3, 1, 0, 0, [96])), (38, (.ireturn, 1, 0, 0, 0, []))]
def fj_i76 : List (Nat × fj_AI) := [(0, (.aload_n 0, 1, 0, 0, 0, [])), (1, (.getfield 53, 3, 6, 6, 0, [258])), (4, (.invokevirtual 127, 3, 40, 0, 0, [389, 390, 391, 59, 392])), (7, (.ifCond .ne 6, 3, 13, 0, 0, [])), (10, (.bipush (-3), 2, 0, 0, (-3), [])), (12, (.ireturn, 1, 0, 0, 0, [])), (13, (.aload_n 0, 1, 0, 0, 0, [])), (14, (.getfield 21, 3, 6, 1, 0, [253])), (17, (.aload_n 0, 1, 0, 0, 0, [])), (18, (.getfield 53, 3, 6, 6, 0, [258])), (21, (.invokevirtual 197, 3, 5, 1, 0, [542, 543, 544, 55, 545])), (24, (.ifCond .eq 7, 3, 31, 0, 0, [])), (27, (.iconst 1, 1, 0, 0, 1, [])), (28, (.goto 4, 3, 32, 0, 0, [])), (31, (.iconst 0, 1, 0, 0, 0, [])), (32, (.ireturn, 1, 0, 0, 0, []))]
def fj_i77 : List (Nat × fj_AI) := [(0, (.aload_n 0, 1, 0, 0, 0, [])), (1, (.getfield 53, 3, 6, 6, 0, [258])), (4, (.iload_n 1, 1, 1, 0, 0, [])), (5, (.invokevirtual 106, 3, 42, 1, 0, [363, 364, 365, 59, 366])), (8, (.ifCond .ne 5, 3, 13, 0, 0, [])), (11, (.iconst (-1), 1, 0, 0, (-1), [])), (12, (.ireturn, 1, 0, 0, 0, [])), (13, (.iconst 0, 1, 0, 0, 0, [])), (14, (.istore_n 2, 1, 2, 0, 0, [])), (15, (.iconst 0, 1, 0, 0, 0, [])), (16, (.istore_n 3, 1, 3, 0, 0, [])), (17, (.iload_n 3, 1, 3, 0, 0, [])), (18, (.iconst 5, 1, 0, 0, 5, [])), (19, (.if_icmp .gt 40, 3, 59, 0, 0, [])), (22, (.aload_n 0, 1, 0, 0, 0, [])), (23, (.getfield 21, 3, 6, 1, 0, [253])), (26, (.aload_n 0, 1, 0, 0, 0, [])), (27, (.getfield 53, 3, 6, 6, 0, [258])), (30, (.iload_n 1, 1, 1, 0, 0, [])), (31, (.aload_n 0, 1, 0, 0, 0, [])), (32, (.getfield 53, 3, 6, 6, 0, [258])), (35, (.getfield 109, 3, 5, 7, 0, [210])), (38, (.iload_n 1, 1, 1, 0, 0, [])), (39, (.iaload, 1, 0, 0, 0, [])), (40, (.iload_n 3, 1, 3, 0, 0, [])), (41, (.invokevirtual 201, 3, 6, 4, 0, [556, 557, 558, 55, 559])), (44, (.ifCond .eq 9, 3, 53, 0, 0, [])), (47, (.iload_n 2, 1, 2, 0, 0, [])), (48, (.iconst 1, 1, 0, 0, 1, [])), (49, (.iload_n 3, 1, 3, 0, 0, [])), (50, (.ishl, 1, 0, 0, 0, [])), (51, (.ior, 1, 0, 0, 0, [])), (52, (.istore_n 2, 1, 2, 0, 0, [])), (53, (.iinc 3 1, 3, 3, 0, 1, [])), (56, (.goto (-39), 3, 17, 0, 0, [])), (59, (.iload_n 2, 1, 2, 0, 0, [])), (60, (.ireturn, 1, 0, 0, 0, []))]
def fj_i78 : List (Nat × fj_AI) := [(0, (.aload_n 0, 1, 0, 0, 0, [])), (1, (.getfield 53, 3, 6, 6, 0, [258])), (4, (.iload_n 1, 1, 1, 0, 0, [])), (5, (.invokevirtual 106, 3, 42, 1, 0, [363, 364, 365, 59, 366])), (8, (.ifCond .ne 5, 3, 13, 0, 0, [])), (11, (.iconst (-1), 1, 0, 0, (-1), [])), (12, (.ireturn, 1, 0, 0, 0, [])), (13, (.iconst 0, 1, 0, 0, 0, [])), (14, (.istore_n 2, 1, 2, 0, 0, [])), (15, (.iconst 0, 1, 0, 0, 0, [])), (16, (.istore_n 3, 1, 3, 0, 0, [])), (17, (.iload_n 3, 1, 3, 0, 0, [])), (18, (.iconst 2, 1, 0, 0, 2, [])), (19, (.if_icmp .gt 40, 3, 59, 0, 0, [])), (22, (.aload_n 0, 1, 0, 0, 0, [])), (23, (.getfield 21, 3, 6, 1, 0, [253])), (26, (.aload_n 0, 1, 0, 0, 0, [])), (27, (.getfield 53, 3, 6, 6, 0, [258])), (30, (.iload_n 1, 1, 1, 0, 0, [])), (31, (.iload_n 3, 1, 3, 0, 0, [])), (32, (.aload_n 0, 1, 0, 0, 0, [])), (33, (.getfield 53, 3, 6, 6, 0, [258])), (36, (.getfield 112, 3, 5, 8, 0, [213])), (39, (.iload_n 1, 1, 1, 0, 0, [])), (40, (.iaload, 1, 0, 0, 0, [])), (41, (.invokevirtual 201, 3, 6, 4, 0, [556, 557, 558, 55, 559])), (44, (.ifCond .eq 9, 3, 53, 0, 0, [])), (47, (.iload_n 2, 1, 2, 0, 0, [])), (48, (.iconst 1, 1, 0, 0, 1, [])), (49, (.iload_n 3, 1, 3, 0, 0, [])), (50, (.ishl, 1, 0, 0, 0, [])), (51, (.ior, 1, 0, 0, 0, [])), (52, (.istore_n 2, 1, 2, 0, 0, [])), (53, (.iinc 3 1, 3, 3, 0, 1, [])), (56, (.goto (-39), 3, 17, 0, 0, [])), (59, (.iload_n 2, 1, 2, 0, 0, [])), (60, (.ireturn, 1, 0, 0, 0, []))]
def fj_i79 : List (Nat × fj_AI) := [(0, (.aload_n 0, 1, 0, 0, 0, [])), (1, (.iload_n 1, 1, 1, 0, 0, [])), (2, (.iload_n 2, 1, 2, 0, 0, [])), (3, (.iload_n 3, 1, 3, 0, 0, [])), (4, (.iload 4, 2, 4, 0, 0, [])), (6, (.iload 5, 2, 5, 0, 0, [])), (8, (.ifCond .eq 9, 3, 17, 0, 0, [])), (11, (.iload 5, 2, 5, 0, 0, [])), (13, (.iconst 1, 1, 0, 0, 1, [])), (14, (.if_icmp .ne 7, 3, 21, 0, 0, [])), (17, (.iconst 1, 1, 0, 0, 1, [])), (18, (.goto 4, 3, 22, 0, 0, [])), (21, (.iconst 0, 1, 0, 0, 0, [])), (22, (.invokevirtual 143, 3, 68, 5, 0, [415, 417, 7, 53, 418])), (25, (.istore 6, 2, 6, 0, 0, [])), (27, (.iload 6, 2, 6, 0, 0, [])), (29, (.ifCond .ne 15, 3, 44, 0, 0, [])), (32, (.aload_n 0, 1, 0, 0, 0, [])), (33, (.getfield 28, 3, 6, 2, 0, [254])), (36, (.getfield 147, 3, 4, 1, 0, [119])), (39, (.bipush (-9), 2, 0, 0, (-9), [])), (41, (.if_icmp .eq 7, 3, 48, 0, 0, [])), (44, (.ldc2_w 205, 3, 0, 0, (-9223372036854775808), [568])), (47, (.lreturn, 1, 0, 0, 0, [])), (48, (.iload 5, 2, 5, 0, 0, [])), (50, (.ifCond .ne 7, 3, 57, 0, 0, [])), (53, (.lconst 1, 1, 0, 0, 1, [])), (54, (.goto 15, 3, 69, 0, 0, [])), (57, (.lconst 1, 1, 0, 0, 1, [])), (58, (.aload_n 0, 1, 0, 0, 0, [])), (59, (.getfield 28, 3, 6, 2, 0, [254])), (62, (.getfield 207, 3, 4, 6, 0, [129])), (65, (.invokestatic 210, 3, 163, 1, 0, [569, 517, 62, 518])), (68, (.lshl, 1, 0, 0, 0, [])), (69, (.lreturn, 1, 0, 0, 0, []))]
def fj_i80 : List (Nat × fj_AI) := [(0, (.aload_n 0, 1, 0, 0, 0, [])), (1, (.iconst 0, 1, 0, 0, 0, [])), (2, (.putfield 60, 3, 6, 9, 0, [261])), (5, (.iload_n 1, 1, 1, 0, 0, [])), (6, (.invokestatic 64, 3, 19, 1, 0, [287, 288, 54, 289])), (9, (.ifCond .ne 5, 3, 14, 0, 0, [])), (12, (.iconst (-1), 1, 0, 0, (-1), [])), (13, (.ireturn, 1, 0, 0, 0, [])), (14, (.iload_n 2, 1, 2, 0, 0, [])), (15, (.invokestatic 68, 3, 20, 1, 0, [290, 291, 54, 292])), (18, (.ifCond .eq 9, 3, 27, 0, 0, [])), (21, (.iload_n 3, 1, 3, 0, 0, [])), (22, (.bipush 60, 2, 0, 0, 60, [])), (24, (.if_icmp .le 6, 3, 30, 0, 0, [])), (27, (.bipush (-2), 2, 0, 0, (-2), [])), (29, (.ireturn, 1, 0, 0, 0, [])), (30, (.iload_n 3, 1, 3, 0, 0, [])), (31, (.ifCond .ge 9, 3, 40, 0, 0, [])), (34, (.aload_n 0, 1, 0, 0, 0, [])), (35, (.iconst 4, 1, 0, 0, 4, [])), (36, (.invokevirtual 75, 3, 95, 1, 0, [301, 303, 0, 53, 304])), (39, (.ireturn, 1, 0, 0, 0, [])), (40, (.aload_n 0, 1, 0, 0, 0, [])), (41, (.getfield 12, 3, 6, 0, 0, [252])), (44, (.iload_n 1, 1, 1, 0, 0, [])), (45, (.iload_n 2, 1, 2, 0, 0, [])), (46, (.iload_n 3, 1, 3, 0, 0, [])), (47, (.invokevirtual 215, 3, 26, 3, 0, [574, 575, 576, 54, 577])), (50, (.iconst 1, 1, 0, 0, 1, [])), (51, (.ireturn, 1, 0, 0, 0, []))]
def fj_i81 : List (Nat × fj_AI) := [(0, (.iload_n 1, 1, 1, 0, 0, [])), (1, (.invokestatic 64, 3, 19, 1, 0, [287, 288, 54, 289])), (4, (.ifCond .ne 5, 3, 9, 0, 0, [])), (7, (.iconst (-1), 1, 0, 0, (-1), [])), (8, (.ireturn, 1, 0, 0, 0, [])), (9, (.aload_n 0, 1, 0, 0, 0, [])), (10, (.getfield 12, 3, 6, 0, 0, [252])), (13, (.iload_n 1, 1, 1, 0, 0, [])), (14, (.invokevirtual 219, 3, 21, 1, 0, [582, 298, 299, 54, 300])), (17, (.ifCond .eq 5, 3, 22, 0, 0, [])), (20, (.iconst 0, 1, 0, 0, 0, [])), (21, (.ireturn, 1, 0, 0, 0, [])), (22, (.aload_n 0, 1, 0, 0, 0, [])), (23, (.getfield 12, 3, 6, 0, 0, [252])), (26, (.iload_n 1, 1, 1, 0, 0, [])), (27, (.invokevirtual 222, 3, 27, 1, 0, [583, 584, 585, 54, 586])), (30, (.iconst 1, 1, 0, 0, 1, [])), (31, (.ireturn, 1, 0, 0, 0, []))]
def fj_i82 : List (Nat × fj_AI) := [(0, (.aload_n 0, 1, 0, 0, 0, [])), (1, (.iconst 0, 1, 0, 0, 0, [])), (2, (.putfield 60, 3, 6, 9, 0, [261])), (5, (.iload_n 1, 1, 1, 0, 0, [])), (6, (.invokestatic 64, 3, 19, 1, 0, [287, 288, 54, 289])), (9, (.ifCond .ne 5, 3, 14, 0, 0, [])), (12, (.iconst (-1), 1, 0, 0, (-1), [])), (13, (.ireturn, 1, 0, 0, 0, [])), (14, (.aload_n 0, 1, 0, 0, 0, [])), (15, (.getfield 12, 3, 6, 0, 0, [252])), (18, (.iload_n 1, 1, 1, 0, 0, [])), (19, (.invokevirtual 219, 3, 21, 1, 0, [582, 298, 299, 54, 300])), (22, (.ifCond .eq 9, 3, 31, 0, 0, [])), (25, (.aload_n 0, 1, 0, 0, 0, [])), (26, (.iconst 1, 1, 0, 0, 1, [])), (27, (.invokevirtual 75, 3, 95, 1, 0, [301, 303, 0, 53, 304])), (30, (.ireturn, 1, 0, 0, 0, [])), (31, (.aload_n 0, 1, 0, 0, 0, [])), (32, (.getfield 12, 3, 6, 0, 0, [252])), (35, (.iload_n 1, 1, 1, 0, 0, [])), (36, (.iload_n 2, 1, 2, 0, 0, [])), (37, (.invokevirtual 226, 3, 24, 2, 0, [591, 592, 593, 54, 594])), (40, (.ifCond .ne 9, 3, 49, 0, 0, [])), (43, (.aload_n 0, 1, 0, 0, 0, [])), (44, (.iconst 3, 1, 0, 0, 3, [])), (45, (.invokevirtual 75, 3, 95, 1, 0, [301, 303, 0, 53, 304])), (48, (.ireturn, 1, 0, 0, 0, [])), (49, (.aload_n 0, 1, 0, 0, 0, [])), (50, (.getfield 12, 3, 6, 0, 0, [252])), (53, (.iload_n 1, 1, 1, 0, 0, [])), (54, (.iload_n 2, 1, 2, 0, 0, [])), (55, (.iload_n 3, 1, 3, 0, 0, [])), (56, (.invokevirtual 230, 3, 29, 3, 0, [595, 596, 597, 54, 598])), (59, (.iconst 1, 1, 0, 0, 1, [])), (60, (.ireturn, 1, 0, 0, 0, []))]
def fj_i83 : List (Nat × fj_AI) := [(0, (.aload_n 0, 1, 0, 0, 0, [])), (1, (.iconst 0, 1, 0, 0, 0, [])), (2, (.putfield 60, 3, 6, 9, 0, [261])), (5, (.iload_n 1, 1, 1, 0, 0, [])), (6, (.invokestatic 64, 3, 19, 1, 0, [287, 288, 54, 289])), (9, (.ifCond .eq 10, 3, 19, 0, 0, [])), (12, (.iload_n 3, 1, 3, 0, 0, [])), (13, (.invokestatic 68, 3, 20, 1, 0, [290, 291, 54, 292])), (16, (.ifCond .ne 7, 3, 23, 0, 0, [])), (19, (.ldc2_w 205, 3, 0, 0, (-9223372036854775808), [568])), (22, (.lreturn, 1, 0, 0, 0, [])), (23, (.aload_n 0, 1, 0, 0, 0, [])), (24, (.aload_n 0, 1, 0, 0, 0, [])), (25, (.getfield 12, 3, 6, 0, 0, [252])), (28, (.iload_n 1, 1, 1, 0, 0, [])), (29, (.iload_n 3, 1, 3, 0, 0, [])), (30, (.invokevirtual 71, 3, 23, 2, 0, [293, 294, 295, 54, 296])), (33, (.putfield 60, 3, 6, 9, 0, [261])), (36, (.aload_n 0, 1, 0, 0, 0, [])), (37, (.getfield 60, 3, 6, 9, 0, [261])), (40, (.ifCond .ne 20, 3, 60, 0, 0, [])), (43, (.aload_n 0, 1, 0, 0, 0, [])), (44, (.getfield 12, 3, 6, 0, 0, [252])), (47, (.iload_n 1, 1, 1, 0, 0, [])), (48, (.iload_n 2, 1, 2, 0, 0, [])), (49, (.invokevirtual 226, 3, 24, 2, 0, [591, 592, 593, 54, 594])), (52, (.ifCond .ne 8, 3, 60, 0, 0, [])), (55, (.aload_n 0, 1, 0, 0, 0, [])), (56, (.iconst 3, 1, 0, 0, 3, [])), (57, (.putfield 60, 3, 6, 9, 0, [261])), (60, (.aload_n 0, 1, 0, 0, 0, [])), (61, (.getfield 60, 3, 6, 9, 0, [261])), (64, (.ifCond .ne 16, 3, 80, 0, 0, [])), (67, (.aload_n 0, 1, 0, 0, 0, [])), (68, (.getfield 12, 3, 6, 0, 0, [252])), (71, (.iload_n 1, 1, 1, 0, 0, [])), (72, (.iload_n 2, 1, 2, 0, 0, [])), (73, (.invokevirtual 233, 3, 28, 2, 0, [606, 314, 315, 54, 316])), (76, (.i2l, 1, 0, 0, 0, [])), (77, (.goto 6, 3, 83, 0, 0, [])), (80, (.ldc2_w 205, 3, 0, 0, (-9223372036854775808), [568])), (83, (.lreturn, 1, 0, 0, 0, []))]
def fj_i84 : List (Nat × fj_AI) := [(0, (.aload_n 0, 1, 0, 0, 0, [])), (1, (.iconst 0, 1, 0, 0, 0, [])), (2, (.putfield 60, 3, 6, 9, 0, [261])), (5, (.iload_n 1, 1, 1, 0, 0, [])), (6, (.invokestatic 64, 3, 19, 1, 0, [287, 288, 54, 289])), (9, (.ifCond .eq 10, 3, 19, 0, 0, [])), (12, (.iload_n 3, 1, 3, 0, 0, [])), (13, (.invokestatic 64, 3, 19, 1, 0, [287, 288, 54, 289])), (16, (.ifCond .ne 5, 3, 21, 0, 0, [])), (19, (.iconst (-1), 1, 0, 0, (-1), [])), (20, (.ireturn, 1, 0, 0, 0, [])), (21, (.aload_n 0, 1, 0, 0, 0, [])), (22, (.getfield 12, 3, 6, 0, 0, [252])), (25, (.iload_n 1, 1, 1, 0, 0, [])), (26, (.invokevirtual 219, 3, 21, 1, 0, [582, 298, 299, 54, 300])), (29, (.ifCond .ne 14, 3, 43, 0, 0, [])), (32, (.aload_n 0, 1, 0, 0, 0, [])), (33, (.getfield 12, 3, 6, 0, 0, [252])), (36, (.iload_n 3, 1, 3, 0, 0, [])), (37, (.invokevirtual 219, 3, 21, 1, 0, [582, 298, 299, 54, 300])), (40, (.ifCond .eq 9, 3, 49, 0, 0, [])), (43, (.aload_n 0, 1, 0, 0, 0, [])), (44, (.iconst 1, 1, 0, 0, 1, [])), (45, (.invokevirtual 75, 3, 95, 1, 0, [301, 303, 0, 53, 304])), (48, (.ireturn, 1, 0, 0, 0, [])), (49, (.aload_n 0, 1, 0, 0, 0, [])), (50, (.getfield 12, 3, 6, 0, 0, [252])), (53, (.iload_n 1, 1, 1, 0, 0, [])), (54, (.iload_n 3, 1, 3, 0, 0, [])), (55, (.invokevirtual 235, 3, 22, 2, 0, [611, 612, 613, 54, 614])), (58, (.ifCond .ne 9, 3, 67, 0, 0, [])), (61, (.aload_n 0, 1, 0, 0, 0, [])), (62, (.iconst 2, 1, 0, 0, 2, [])), (63, (.invokevirtual 75, 3, 95, 1, 0, [301, 303, 0, 53, 304])), (66, (.ireturn, 1, 0, 0, 0, [])), (67, (.aload_n 0, 1, 0, 0, 0, [])), (68, (.getfield 12, 3, 6, 0, 0, [252])), (71, (.iload_n 1, 1, 1, 0, 0, [])), (72, (.iload_n 2, 1, 2, 0, 0, [])), (73, (.iload 5, 2, 5, 0, 0, [])), (75, (.invokevirtual 79, 3, 25, 3, 0, [305, 306, 307, 54, 308])), (78, (.ifCond .eq 18, 3, 96, 0, 0, [])), (81, (.aload_n 0, 1, 0, 0, 0, [])), (82, (.getfield 12, 3, 6, 0, 0, [252])), (85, (.iload_n 3, 1, 3, 0, 0, [])), (86, (.iload 4, 2, 4, 0, 0, [])), (88, (.iload 5, 2, 5, 0, 0, [])), (90, (.invokevirtual 79, 3, 25, 3, 0, [305, 306, 307, 54, 308])), (93, (.ifCond .ne 9, 3, 102, 0, 0, [])), (96, (.aload_n 0, 1, 0, 0, 0, [])), (97, (.iconst 3, 1, 0, 0, 3, [])), (98, (.invokevirtual 75, 3, 95, 1, 0, [301, 303, 0, 53, 304])), (101, (.ireturn, 1, 0, 0, 0, [])), (102, (.aload_n 0, 1, 0, 0, 0, [])), (103, (.getfield 12, 3, 6, 0, 0, [252])), (106, (.iload_n 1, 1, 1, 0, 0, [])), (107, (.iload_n 2, 1, 2, 0, 0, [])), (108, (.iload_n 3, 1, 3, 0, 0, [])), (109, (.iload 4, 2, 4, 0, 0, [])), (111, (.iload 5, 2, 5, 0, 0, [])), (113, (.invokevirtual 238, 3, 31, 5, 0, [615, 616, 617, 54, 618])), (116, (.iload 5, 2, 5, 0, 0, [])), (118, (.ireturn, 1, 0, 0, 0, []))]
def fj_i85 : List (Nat × fj_AI) := [(0, (.aload_n 0, 1, 0, 0, 0, [])), (1, (.getfield 53, 3, 6, 6, 0, [258])), (4, (.iload_n 1, 1, 1, 0, 0, [])), (5, (.invokevirtual 106, 3, 42, 1, 0, [363, 364, 365, 59, 366])), (8, (.ifCond .ne 5, 3, 13, 0, 0, [])), (11, (.iconst (-1), 1, 0, 0, (-1), [])), (12, (.ireturn, 1, 0, 0, 0, [])), (13, (.aload_n 0, 1, 0, 0, 0, [])), (14, (.getfield 53, 3, 6, 6, 0, [258])), (17, (.getfield 109, 3, 5, 7, 0, [210])), (20, (.iload_n 1, 1, 1, 0, 0, [])), (21, (.iaload, 1, 0, 0, 0, [])), (22, (.lookupswitch 38 #[(1, 32), (2, 26)], 26, 0, 0, 0, [])), (48, (.aload_n 0, 1, 0, 0, 0, [])), (49, (.iload_n 1, 1, 1, 0, 0, [])), (50, (.invokevirtual 242, 3, 88, 1, 0, [626, 628, 21, 53, 629])), (53, (.ireturn, 1, 0, 0, 0, [])), (54, (.aload_n 0, 1, 0, 0, 0, [])), (55, (.iload_n 1, 1, 1, 0, 0, [])), (56, (.invokevirtual 245, 3, 87, 1, 0, [634, 636, 23, 53, 637])), (59, (.ireturn, 1, 0, 0, 0, [])), (60, (.aload_n 0, 1, 0, 0, 0, [])), (61, (.iload_n 1, 1, 1, 0, 0, [])), (62, (.invokevirtual 248, 3, 86, 1, 0, [638, 640, 24, 53, 641])), (65, (.ireturn, 1, 0, 0, 0, []))]
def fj_i86 : List (Nat × fj_AI) := [(0, (.aload_n 0, 1, 0, 0, 0, [])), (1, (.iconst 1, 1, 0, 0, 1, [])), (2, (.invokevirtual 251, 3, 90, 1, 0, [630, 632, 22, 53, 633])), (5, (.aload_n 0, 1, 0, 0, 0, [])), (6, (.getfield 53, 3, 6, 6, 0, [258])), (9, (.getfield 112, 3, 5, 8, 0, [213])), (12, (.iload_n 1, 1, 1, 0, 0, [])), (13, (.iaload, 1, 0, 0, 0, [])), (14, (.ireturn, 1, 0, 0, 0, []))]
def fj_i87 : List (Nat × fj_AI) := [(0, (.aload_n 0, 1, 0, 0, 0, [])), (1, (.iconst 2, 1, 0, 0, 2, [])), (2, (.invokevirtual 251, 3, 90, 1, 0, [630, 632, 22, 53, 633])), (5, (.aload_n 0, 1, 0, 0, 0, [])), (6, (.iload_n 1, 1, 1, 0, 0, [])), (7, (.invokevirtual 248, 3, 86, 1, 0, [638, 640, 24, 53, 641])), (10, (.bipush 100, 2, 0, 0, 100, [])), (12, (.iadd, 1, 0, 0, 0, [])), (13, (.ireturn, 1, 0, 0, 0, []))]
def fj_i88 : List (Nat × fj_AI) := [(0, (.aload_n 0, 1, 0, 0, 0, [])), (1, (.iconst 3, 1, 0, 0, 3, [])), (2, (.invokevirtual 251, 3, 90, 1, 0, [630, 632, 22, 53, 633])), (5, (.aload_n 0, 1, 0, 0, 0, [])), (6, (.iload_n 1, 1, 1, 0, 0, [])), (7, (.invokevirtual 245, 3, 87, 1, 0, [634, 636, 23, 53, 637])), (10, (.istore_n 2, 1, 2, 0, 0, [])), (11, (.iload_n 2, 1, 2, 0, 0, [])), (12, (.aload_n 0, 1, 0, 0, 0, [])), (13, (.iload_n 1, 1, 1, 0, 0, [])), (14, (.invokevirtual 248, 3, 86, 1, 0, [638, 640, 24, 53, 641])), (17, (.iadd, 1, 0, 0, 0, [])), (18, (.ireturn, 1, 0, 0, 0, []))]
def fj_i89 : List (Nat × fj_AI) := [(0, (.aload_n 0, 1, 0, 0, 0, [])), (1, (.getfield 53, 3, 6, 6, 0, [258])), (4, (.iload_n 1, 1, 1, 0, 0, [])), (5, (.invokevirtual 106, 3, 42, 1, 0, [363, 364, 365, 59, 366])), (8, (.ifCond .ne 5, 3, 13, 0, 0, [])), (11, (.iconst (-1), 1, 0, 0, (-1), [])), (12, (.ireturn, 1, 0, 0, 0, [])), (13, (.aload_n 0, 1, 0, 0, 0, [])), (14, (.getfield 53, 3, 6, 6, 0, [258])), (17, (.getfield 109, 3, 5, 7, 0, [210])), (20, (.iload_n 1, 1, 1, 0, 0, [])), (21, (.iaload, 1, 0, 0, 0, [])), (22, (.iconst 2, 1, 0, 0, 2, [])), (23, (.if_icmp .ne 11, 3, 34, 0, 0, [])), (26, (.aload_n 0, 1, 0, 0, 0, [])), (27, (.iconst 5, 1, 0, 0, 5, [])), (28, (.invokevirtual 251, 3, 90, 1, 0, [630, 632, 22, 53, 633])), (31, (.bipush 70, 2, 0, 0, 70, [])), (33, (.ireturn, 1, 0, 0, 0, [])), (34, (.aload_n 0, 1, 0, 0, 0, [])), (35, (.iconst 4, 1, 0, 0, 4, [])), (36, (.invokevirtual 251, 3, 90, 1, 0, [630, 632, 22, 53, 633])), (39, (.iload_n 1, 1, 1, 0, 0, [])), (40, (.ireturn, 1, 0, 0, 0, []))]
def fj_i90 : List (Nat × fj_AI) := [(0, (.aload_n 0, 1, 0, 0, 0, [])), (1, (.bipush 31, 2, 0, 0, 31, [])), (3, (.aload_n 0, 1, 0, 0, 0, [])), (4, (.getfield 254, 3, 6, 8, 0, [260])), (7, (.imul, 1, 0, 0, 0, [])), (8, (.iload_n 1, 1, 1, 0, 0, [])), (9, (.iadd, 1, 0, 0, 0, [])), (10, (.putfield 254, 3, 6, 8, 0, [260])), (13, (.return_, 1, 0, 0, 0, []))]
def fj_i91 : List (Nat × fj_AI) := [(0, (.aload_n 0, 1, 0, 0, 0, [])), (1, (.iconst 0, 1, 0, 0, 0, [])), (2, (.putfield 60, 3, 6, 9, 0, [261])), (5, (.aload_n 0, 1, 0, 0, 0, [])), (6, (.getfield 53, 3, 6, 6, 0, [258])), (9, (.iload_n 1, 1, 1, 0, 0, [])), (10, (.invokevirtual 106, 3, 42, 1, 0, [363, 364, 365, 59, 366])), (13, (.ifCond .ne 5, 3, 18, 0, 0, [])), (16, (.iconst (-1), 1, 0, 0, (-1), [])), (17, (.ireturn, 1, 0, 0, 0, [])), (18, (.iload_n 2, 1, 2, 0, 0, [])), (19, (.ifCond .lt 8, 3, 27, 0, 0, [])), (22, (.iload_n 2, 1, 2, 0, 0, [])), (23, (.iconst 2, 1, 0, 0, 2, [])), (24, (.if_icmp .le 6, 3, 30, 0, 0, [])), (27, (.bipush (-2), 2, 0, 0, (-2), [])), (29, (.ireturn, 1, 0, 0, 0, [])), (30, (.aload_n 0, 1, 0, 0, 0, [])), (31, (.getfield 53, 3, 6, 6, 0, [258])), (34, (.getfield 109, 3, 5, 7, 0, [210])), (37, (.iload_n 1, 1, 1, 0, 0, [])), (38, (.iaload, 1, 0, 0, 0, [])), (39, (.iload_n 2, 1, 2, 0, 0, [])), (40, (.if_icmp .ge 9, 3, 49, 0, 0, [])), (43, (.aload_n 0, 1, 0, 0, 0, [])), (44, (.iconst 2, 1, 0, 0, 2, [])), (45, (.invokevirtual 75, 3, 95, 1, 0, [301, 303, 0, 53, 304])), (48, (.ireturn, 1, 0, 0, 0, [])), (49, (.iconst 1, 1, 0, 0, 1, [])), (50, (.ireturn, 1, 0, 0, 0, []))]
def fj_i92 : List (Nat × fj_AI) := [(0, (.aload_n 0, 1, 0, 0, 0, [])), (1, (.getfield 254, 3, 6, 8, 0, [260])), (4, (.ireturn, 1, 0, 0, 0, []))]
def fj_i93 : List (Nat × fj_AI) := [(0, (.aload_n 0, 1, 0, 0, 0, [])), (1, (.getfield 60, 3, 6, 9, 0, [261])), (4, (.ireturn, 1, 0, 0, 0, []))]
def fj_i94 : List (Nat × fj_AI) := [(0, (.iload_n 1, 1, 1, 0, 0, [])), (1, (.tableswitch 87 0 5 #[39, 47, 55, 63, 71, 79], 39, 0, 0, 0, [])), (40, (.aload_n 0, 1, 0, 0, 0, [])), (41, (.getfield 53, 3, 6, 6, 0, [258])), (44, (.getfield 257, 3, 5, 0, 0, [187])), (47, (.ireturn, 1, 0, 0, 0, [])), (48, (.aload_n 0, 1, 0, 0, 0, [])), (49, (.getfield 53, 3, 6, 6, 0, [258])), (52, (.getfield 97, 3, 5, 1, 0, [190])), (55, (.ireturn, 1, 0, 0, 0, [])), (56, (.aload_n 0, 1, 0, 0, 0, [])), (57, (.getfield 53, 3, 6, 6, 0, [258])), (60, (.getfield 260, 3, 5, 2, 0, [194])), (63, (.ireturn, 1, 0, 0, 0, [])), (64, (.aload_n 0, 1, 0, 0, 0, [])), (65, (.getfield 53, 3, 6, 6, 0, [258])), (68, (.getfield 131, 3, 5, 4, 0, [202])), (71, (.ireturn, 1, 0, 0, 0, [])), (72, (.aload_n 0, 1, 0, 0, 0, [])), (73, (.getfield 53, 3, 6, 6, 0, [258])), (76, (.getfield 134, 3, 5, 5, 0, [205])), (79, (.ireturn, 1, 0, 0, 0, [])), (80, (.aload_n 0, 1, 0, 0, 0, [])), (81, (.getfield 21, 3, 6, 1, 0, [253])), (84, (.getfield 94, 3, 1, 0, 0, [96])), (87, (.ireturn, 1, 0, 0, 0, [])), (88, (.bipush (-2), 2, 0, 0, (-2), [])), (90, (.ireturn, 1, 0, 0, 0, []))]
def fj_i95 : List (Nat × fj_AI) := [(0, (.aload_n 0, 1, 0, 0, 0, [])), (1, (.iload_n 1, 1, 1, 0, 0, [])), (2, (.putfield 60, 3, 6, 9, 0, [261])), (5, (.bipush (-10), 2, 0, 0, (-10), [])), (7, (.iload_n 1, 1, 1, 0, 0, [])), (8, (.isub, 1, 0, 0, 0, [])), (9, (.ireturn, 1, 0, 0, 0, []))]
def fj_i96 : List (Nat × fj_AI) := [(0, (.aload_n 0, 1, 0, 0, 0, [])), (1, (.invokespecial 1, 3, 999, 0, 0, [667, 70, 71])), (4, (.aload_n 0, 1, 0, 0, 0, [])), (5, (.bipush 24, 2, 0, 0, 24, [])), (7, (.newarray .int, 2, 1, 0, 0, [88])), (9, (.putfield 7, 3, 7, 3, 0, [671])), (12, (.aload_n 0, 1, 0, 0, 0, [])), (13, (.bipush 6, 2, 0, 0, 6, [])), (15, (.newarray .int, 2, 1, 0, 0, [88])), (17, (.putfield 13, 3, 7, 5, 0, [673])), (20, (.aload_n 0, 1, 0, 0, 0, [])), (21, (.bipush 6, 2, 0, 0, 6, [])), (23, (.newarray .int, 2, 1, 0, 0, [88])), (25, (.putfield 16, 3, 7, 6, 0, [674])), (28, (.aload_n 0, 1, 0, 0, 0, [])), (29, (.bipush 6, 2, 0, 0, 6, [])), (31, (.newarray .int, 2, 1, 0, 0, [88])), (33, (.putfield 19, 3, 7, 7, 0, [675])), (36, (.aload_n 0, 1, 0, 0, 0, [])), (37, (.iconst 2, 1, 0, 0, 2, [])), (38, (.newarray .int, 2, 1, 0, 0, [88])), (40, (.putfield 22, 3, 7, 9, 0, [677])), (43, (.aload_n 0, 1, 0, 0, 0, [])), (44, (.bipush 24, 2, 0, 0, 24, [])), (46, (.newarray .int, 2, 1, 0, 0, [88])), (48, (.putfield 25, 3, 7, 18, 0, [686])), (51, (.aload_n 0, 1, 0, 0, 0, [])), (52, (.bipush 6, 2, 0, 0, 6, [])), (54, (.newarray .int, 2, 1, 0, 0, [88])), (56, (.putfield 28, 3, 7, 19, 0, [687])), (59, (.aload_n 0, 1, 0, 0, 0, [])), (60, (.bipush 6, 2, 0, 0, 6, [])), (62, (.newarray .int, 2, 1, 0, 0, [88])), (64, (.putfield 31, 3, 7, 20, 0, [688])), (67, (.aload_n 0, 1, 0, 0, 0, [])), (68, (.bipush 6, 2, 0, 0, 6, [])), (70, (.newarray .int, 2, 1, 0, 0, [88])), (72, (.putfield 34, 3, 7, 21, 0, [689])), (75, (.aload_n 0, 1, 0, 0, 0, [])), (76, (.iconst 2, 1, 0, 0, 2, [])), (77, (.newarray .int, 2, 1, 0, 0, [88])), (79, (.putfield 37, 3, 7, 22, 0, [690])), (82, (.aload_n 0, 1, 0, 0, 0, [])), (83, (.bipush 6, 2, 0, 0, 6, [])), (85, (.newarray .int, 2, 1, 0, 0, [88])), (87, (.putfield 40, 3, 7, 29, 0, [697])), (90, (.aload_n 0, 1, 0, 0, 0, [])), (91, (.sipush 4032, 3, 0, 0, 4032, [])), (94, (.newarray .int, 2, 1, 0, 0, [88])), (96, (.putfield 43, 3, 7, 31, 0, [699])), (99, (.aload_n 0, 1, 0, 0, 0, [])), (100, (.bipush 8, 2, 0, 0, 8, [])), (102, (.newarray .int, 2, 1, 0, 0, [88])), (104, (.putfield 46, 3, 7, 33, 0, [701])), (107, (.aload_n 0, 1, 0, 0, 0, [])), (108, (.bipush 8, 2, 0, 0, 8, [])), (110, (.newarray .int, 2, 1, 0, 0, [88])), (112, (.putfield 49, 3, 7, 34, 0, [702])), (115, (.aload_n 0, 1, 0, 0, 0, [])), (116, (.bipush 8, 2, 0, 0, 8, [])), (118, (.newarray .boolean, 2, 2, 0, 0, [109])), (120, (.putfield 52, 3, 7, 35, 0, [703])), (123, (.aload_n 0, 1, 0, 0, 0, [])), (124, (.iconst 4, 1, 0, 0, 4, [])), (125, (.newarray .int, 2, 1, 0, 0, [88])), (127, (.putfield 56, 3, 7, 36, 0, [704])), (130, (.aload_n 0, 1, 0, 0, 0, [])), (131, (.iconst 4, 1, 0, 0, 4, [])), (132, (.newarray .int, 2, 1, 0, 0, [88])), (134, (.putfield 59, 3, 7, 37, 0, [705])), (137, (.aload_n 0, 1, 0, 0, 0, [])), (138, (.sipush 240, 3, 0, 0, 240, [])), (141, (.newarray .int, 2, 1, 0, 0, [88])), (143, (.putfield 62, 3, 7, 38, 0, [706])), (146, (.aload_n 0, 1, 0, 0, 0, [])), (147, (.bipush 60, 2, 0, 0, 60, [])), (149, (.newarray .int, 2, 1, 0, 0, [88])), (151, (.putfield 65, 3, 7, 39, 0, [707])), (154, (.iconst 0, 1, 0, 0, 0, [])), (155, (.istore_n 1, 1, 1, 0, 0, [])), (156, (.iload_n 1, 1, 1, 0, 0, [])), (157, (.iconst 4, 1, 0, 0, 4, [])), (158, (.if_icmp .ge 16, 3, 174, 0, 0, [])), (161, (.aload_n 0, 1, 0, 0, 0, [])), (162, (.getfield 56, 3, 7, 36, 0, [704])), (165, (.iload_n 1, 1, 1, 0, 0, [])), (166, (.iconst (-1), 1, 0, 0, (-1), [])), (167, (.iastore, 1, 0, 0, 0, [])), (168, (.iinc 1 1, 3, 1, 0, 1, [])), (171, (.goto (-15), 3, 156, 0, 0, [])), (174, (.return_, 1, 0, 0, 0, []))]
def fj_i97 : List (Nat × fj_AI) := [(0, (.lload_n 0, 1, 0, 0, 0, [])), (1, (.lload_n 2, 1, 2, 0, 0, [])), (2, (.lcmp, 1, 0, 0, 0, [])), (3, (.ifCond .lt 14, 3, 17, 0, 0, [])), (6, (.lload_n 0, 1, 0, 0, 0, [])), (7, (.lload 4, 2, 4, 0, 0, [])), (9, (.lcmp, 1, 0, 0, 0, [])), (10, (.ifCond .gt 7, 3, 17, 0, 0, [])), (13, (.iconst 1, 1, 0, 0, 1, [])), (14, (.goto 4, 3, 18, 0, 0, [])), (17, (.iconst 0, 1, 0, 0, 0, [])), (18, (.ireturn, 1, 0, 0, 0, []))]
def fj_i98 : List (Nat × fj_AI) := [(0, (.ldc2_w 68, 3, 0, 0, (-9223372036854775808), [996])), (3, (.lreturn, 1, 0, 0, 0, []))]
def fj_i99 : List (Nat × fj_AI) := [(0, (.iload_n 0, 1, 0, 0, 0, [])), (1, (.iload_n 1, 1, 1, 0, 0, [])), (2, (.ishr, 1, 0, 0, 0, [])), (3, (.iconst 1, 1, 0, 0, 1, [])), (4, (.iand, 1, 0, 0, 0, [])), (5, (.iconst 1, 1, 0, 0, 1, [])), (6, (.if_icmp .ne 7, 3, 13, 0, 0, [])), (9, (.iconst 1, 1, 0, 0, 1, [])), (10, (.goto 4, 3, 14, 0, 0, [])), (13, (.iconst 0, 1, 0, 0, 0, [])), (14, (.ireturn, 1, 0, 0, 0, []))]
def fj_i100 : List (Nat × fj_AI) := [(0, (.iconst 0, 1, 0, 0, 0, [])), (1, (.istore_n 1, 1, 1, 0, 0, [])), (2, (.iload_n 0, 1, 0, 0, 0, [])), (3, (.istore_n 2, 1, 2, 0, 0, [])), (4, (.iload_n 2, 1, 2, 0, 0, [])), (5, (.ifCond .le 16, 3, 21, 0, 0, [])), (8, (.iload_n 1, 1, 1, 0, 0, [])), (9, (.iload_n 2, 1, 2, 0, 0, [])), (10, (.iconst 1, 1, 0, 0, 1, [])), (11, (.iand, 1, 0, 0, 0, [])), (12, (.iadd, 1, 0, 0, 0, [])), (13, (.istore_n 1, 1, 1, 0, 0, [])), (14, (.iload_n 2, 1, 2, 0, 0, [])), (15, (.iconst 1, 1, 0, 0, 1, [])), (16, (.ishr, 1, 0, 0, 0, [])), (17, (.istore_n 2, 1, 2, 0, 0, [])), (18, (.goto (-14), 3, 4, 0, 0, [])), (21, (.iload_n 1, 1, 1, 0, 0, [])), (22, (.ireturn, 1, 0, 0, 0, []))]
def fj_i101 : List (Nat × fj_AI) := [(0, (.lload_n 0, 1, 0, 0, 0, [])), (1, (.lstore 5, 2, 5, 0, 0, [])), (3, (.lload_n 2, 1, 2, 0, 0, [])), (4, (.lstore 7, 2, 7, 0, 0, [])), (6, (.lload 7, 2, 7, 0, 0, [])), (8, (.lconst 0, 1, 0, 0, 0, [])), (9, (.lcmp, 1, 0, 0, 0, [])), (10, (.ifCond .eq 21, 3, 31, 0, 0, [])), (13, (.lload 5, 2, 5, 0, 0, [])), (15, (.lload 7, 2, 7, 0, 0, [])), (17, (.lrem, 1, 0, 0, 0, [])), (18, (.lstore 9, 2, 9, 0, 0, [])), (20, (.lload 7, 2, 7, 0, 0, [])), (22, (.lstore 5, 2, 5, 0, 0, [])), (24, (.lload 9, 2, 9, 0, 0, [])), (26, (.lstore 7, 2, 7, 0, 0, [])), (28, (.goto (-22), 3, 6, 0, 0, [])), (31, (.iload 4, 2, 4, 0, 0, [])), (33, (.ifCond .ne 7, 3, 40, 0, 0, [])), (36, (.lload_n 0, 1, 0, 0, 0, [])), (37, (.goto 4, 3, 41, 0, 0, [])), (40, (.lload_n 2, 1, 2, 0, 0, [])), (41, (.lload 5, 2, 5, 0, 0, [])), (43, (.ldiv, 1, 0, 0, 0, [])), (44, (.lreturn, 1, 0, 0, 0, []))]
def fj_i102 : List (Nat × fj_AI) := [(0, (.aload_n 0, 1, 0, 0, 0, [])), (1, (.iconst 0, 1, 0, 0, 0, [])), (2, (.putfield 70, 3, 7, 0, 0, [668])), (5, (.iload_n 1, 1, 1, 0, 0, [])), (6, (.ireturn, 1, 0, 0, 0, []))]
def fj_i103 : List (Nat × fj_AI) := [(0, (.aload_n 0, 1, 0, 0, 0, [])), (1, (.iload_n 1, 1, 1, 0, 0, [])), (2, (.putfield 70, 3, 7, 0, 0, [668])), (5, (.bipush (-10), 2, 0, 0, (-10), [])), (7, (.iload_n 1, 1, 1, 0, 0, [])), (8, (.isub, 1, 0, 0, 0, [])), (9, (.ireturn, 1, 0, 0, 0, []))]
def fj_i104 : List (Nat × fj_AI) := [(0, (.aload_n 0, 1, 0, 0, 0, [])), (1, (.iload_n 1, 1, 1, 0, 0, [])), (2, (.putfield 70, 3, 7, 0, 0, [668])), (5, (.invokestatic 74, 3, 98, 0, 0, [993, 994, 60, 995])), (8, (.lreturn, 1, 0, 0, 0, []))]
def fj_i105 : List (Nat × fj_AI) := [(0, (.iload_n 1, 1, 1, 0, 0, [])), (1, (.i2l, 1, 0, 0, 0, [])), (2, (.lconst 0, 1, 0, 0, 0, [])), (3, (.aload_n 0, 1, 0, 0, 0, [])), (4, (.getfield 78, 3, 7, 1, 0, [669])), (7, (.aload_n 0, 1, 0, 0, 0, [])), (8, (.getfield 81, 3, 7, 2, 0, [670])), (11, (.imul, 1, 0, 0, 0, [])), (12, (.i2l, 1, 0, 0, 0, [])), (13, (.lconst 1, 1, 0, 0, 1, [])), (14, (.lsub, 1, 0, 0, 0, [])), (15, (.invokestatic 84, 3, 97, 3, 0, [800, 801, 60, 802])), (18, (.ifCond .ne 7, 3, 25, 0, 0, [])), (21, (.iconst 1, 1, 0, 0, 1, [])), (22, (.goto 4, 3, 26, 0, 0, [])), (25, (.iconst 0, 1, 0, 0, 0, [])), (26, (.ireturn, 1, 0, 0, 0, []))]
def fj_i106 : List (Nat × fj_AI) := [(0, (.iload_n 1, 1, 1, 0, 0, [])), (1, (.i2l, 1, 0, 0, 0, [])), (2, (.lconst 0, 1, 0, 0, 0, [])), (3, (.aload_n 0, 1, 0, 0, 0, [])), (4, (.getfield 88, 3, 7, 4, 0, [672])), (7, (.i2l, 1, 0, 0, 0, [])), (8, (.lconst 1, 1, 0, 0, 1, [])), (9, (.lsub, 1, 0, 0, 0, [])), (10, (.invokestatic 84, 3, 97, 3, 0, [800, 801, 60, 802])), (13, (.ifCond .ne 7, 3, 20, 0, 0, [])), (16, (.iconst 1, 1, 0, 0, 1, [])), (17, (.goto 4, 3, 21, 0, 0, [])), (20, (.iconst 0, 1, 0, 0, 0, [])), (21, (.ireturn, 1, 0, 0, 0, []))]
def fj_i107 : List (Nat × fj_AI) := [(0, (.iconst 1, 1, 0, 0, 1, [])), (1, (.aload_n 0, 1, 0, 0, 0, [])), (2, (.getfield 88, 3, 7, 4, 0, [672])), (5, (.ishl, 1, 0, 0, 0, [])), (6, (.iconst 1, 1, 0, 0, 1, [])), (7, (.isub, 1, 0, 0, 0, [])), (8, (.ireturn, 1, 0, 0, 0, []))]
def fj_i108 : List (Nat × fj_AI) := [(0, (.aload_n 0, 1, 0, 0, 0, [])), (1, (.getfield 91, 3, 7, 13, 0, [681])), (4, (.iload_n 2, 1, 2, 0, 0, [])), (5, (.if_icmp .ge 17, 3, 22, 0, 0, [])), (8, (.aload_n 0, 1, 0, 0, 0, [])), (9, (.getfield 62, 3, 7, 38, 0, [706])), (12, (.iload_n 1, 1, 1, 0, 0, [])), (13, (.aload_n 0, 1, 0, 0, 0, [])), (14, (.getfield 91, 3, 7, 13, 0, [681])), (17, (.iadd, 1, 0, 0, 0, [])), (18, (.iaload, 1, 0, 0, 0, [])), (19, (.goto 5, 3, 24, 0, 0, [])), (22, (.bipush (-9), 2, 0, 0, (-9), [])), (24, (.ireturn, 1, 0, 0, 0, []))]
def fj_i109 : List (Nat × fj_AI) := [(0, (.aload_n 0, 1, 0, 0, 0, [])), (1, (.iload_n 1, 1, 1, 0, 0, [])), (2, (.iload_n 2, 1, 2, 0, 0, [])), (3, (.invokevirtual 94, 3, 108, 2, 0, [823, 825, 29, 60, 826])), (6, (.bipush 48, 2, 0, 0, 48, [])), (8, (.isub, 1, 0, 0, 0, [])), (9, (.istore 5, 2, 5, 0, 0, [])), (11, (.iload 5, 2, 5, 0, 0, [])), (13, (.i2l, 1, 0, 0, 0, [])), (14, (.iload_n 3, 1, 3, 0, 0, [])), (15, (.i2l, 1, 0, 0, 0, [])), (16, (.iload 4, 2, 4, 0, 0, [])), (18, (.i2l, 1, 0, 0, 0, [])), (19, (.invokestatic 84, 3, 97, 3, 0, [800, 801, 60, 802])), (22, (.istore 6, 2, 6, 0, 0, [])), (24, (.aload_n 0, 1, 0, 0, 0, [])), (25, (.dup, 1, 0, 0, 0, [])), (26, (.getfield 91, 3, 7, 13, 0, [681])), (29, (.iload 6, 2, 6, 0, 0, [])), (31, (.ifCond .eq 7, 3, 38, 0, 0, [])), (34, (.iconst 1, 1, 0, 0, 1, [])), (35, (.goto 4, 3, 39, 0, 0, [])), (38, (.iconst 0, 1, 0, 0, 0, [])), (39, (.iadd, 1, 0, 0, 0, [])), (40, (.putfield 91, 3, 7, 13, 0, [681])), (43, (.iload 6, 2, 6, 0, 0, [])), (45, (.ifCond .eq 8, 3, 53, 0, 0, [])), (48, (.iload 5, 2, 5, 0, 0, [])), (50, (.goto 5, 3, 55, 0, 0, [])), (53, (.bipush (-9), 2, 0, 0, (-9), [])), (55, (.ireturn, 1, 0, 0, 0, []))]
def fj_i110 : List (Nat × fj_AI) := [(0, (.aload_n 0, 1, 0, 0, 0, [])), (1, (.getfield 98, 3, 7, 16, 0, [684])), (4, (.bipush 6, 2, 0, 0, 6, [])), (6, (.if_icmp .ne 5, 3, 11, 0, 0, [])), (9, (.iconst 0, 1, 0, 0, 0, [])), (10, (.ireturn, 1, 0, 0, 0, [])), (11, (.aload_n 0, 1, 0, 0, 0, [])), (12, (.dup, 1, 0, 0, 0, [])), (13, (.getfield 91, 3, 7, 13, 0, [681])), (16, (.iconst 1, 1, 0, 0, 1, [])), (17, (.iadd, 1, 0, 0, 0, [])), (18, (.putfield 91, 3, 7, 13, 0, [681])), (21, (.aload_n 0, 1, 0, 0, 0, [])), (22, (.iload_n 1, 1, 1, 0, 0, [])), (23, (.iload_n 2, 1, 2, 0, 0, [])), (24, (.iconst 0, 1, 0, 0, 0, [])), (25, (.iconst 5, 1, 0, 0, 5, [])), (26, (.invokevirtual 101, 3, 109, 4, 0, [827, 829, 30, 60, 830])), (29, (.istore 5, 2, 5, 0, 0, [])), (31, (.iload 5, 2, 5, 0, 0, [])), (33, (.ifCond .ge 5, 3, 38, 0, 0, [])), (36, (.iconst 0, 1, 0, 0, 0, [])), (37, (.ireturn, 1, 0, 0, 0, [])), (38, (.aload_n 0, 1, 0, 0, 0, [])), (39, (.getfield 28, 3, 7, 19, 0, [687])), (42, (.aload_n 0, 1, 0, 0, 0, [])), (43, (.getfield 98, 3, 7, 16, 0, [684])), (46, (.iload 4, 2, 4, 0, 0, [])), (48, (.iastore, 1, 0, 0, 0, [])), (49, (.aload_n 0, 1, 0, 0, 0, [])), (50, (.getfield 31, 3, 7, 20, 0, [688])), (53, (.aload_n 0, 1, 0, 0, 0, [])), (54, (.getfield 98, 3, 7, 16, 0, [684])), (57, (.iload 5, 2, 5, 0, 0, [])), (59, (.iastore, 1, 0, 0, 0, [])), (60, (.aload_n 0, 1, 0, 0, 0, [])), (61, (.getfield 34, 3, 7, 21, 0, [689])), (64, (.aload_n 0, 1, 0, 0, 0, [])), (65, (.getfield 98, 3, 7, 16, 0, [684])), (68, (.iload_n 3, 1, 3, 0, 0, [])), (69, (.iastore, 1, 0, 0, 0, [])), (70, (.aload_n 0, 1, 0, 0, 0, [])), (71, (.getfield 25, 3, 7, 18, 0, [686])), (74, (.iload_n 3, 1, 3, 0, 0, [])), (75, (.aload_n 0, 1, 0, 0, 0, [])), (76, (.getfield 98, 3, 7, 16, 0, [684])), (79, (.iastore, 1, 0, 0, 0, [])), (80, (.aload_n 0, 1, 0, 0, 0, [])), (81, (.dup, 1, 0, 0, 0, [])), (82, (.getfield 98, 3, 7, 16, 0, [684])), (85, (.iconst 1, 1, 0, 0, 1, [])), (86, (.iadd, 1, 0, 0, 0, [])), (87, (.putfield 98, 3, 7, 16, 0, [684])), (90, (.iconst 1, 1, 0, 0, 1, [])), (91, (.ireturn, 1, 0, 0, 0, []))]
def fj_i111 : List (Nat × fj_AI) := [(0, (.iload_n 3, 1, 3, 0, 0, [])), (1, (.aload_n 0, 1, 0, 0, 0, [])), (2, (.getfield 105, 3, 7, 15, 0, [683])), (5, (.irem, 1, 0, 0, 0, [])), (6, (.ifCond .ne 26, 3, 32, 0, 0, [])), (9, (.aload_n 0, 1, 0, 0, 0, [])), (10, (.iload_n 1, 1, 1, 0, 0, [])), (11, (.iload_n 2, 1, 2, 0, 0, [])), (12, (.invokevirtual 94, 3, 108, 2, 0, [823, 825, 29, 60, 826])), (15, (.bipush 59, 2, 0, 0, 59, [])), (17, (.if_icmp .eq 5, 3, 22, 0, 0, [])), (20, (.iconst 0, 1, 0, 0, 0, [])), (21, (.ireturn, 1, 0, 0, 0, [])), (22, (.aload_n 0, 1, 0, 0, 0, [])), (23, (.dup, 1, 0, 0, 0, [])), (24, (.getfield 91, 3, 7, 13, 0, [681])), (27, (.iconst 1, 1, 0, 0, 1, [])), (28, (.iadd, 1, 0, 0, 0, [])), (29, (.putfield 91, 3, 7, 13, 0, [681])), (32, (.aload_n 0, 1, 0, 0, 0, [])), (33, (.iload_n 1, 1, 1, 0, 0, [])), (34, (.iload_n 2, 1, 2, 0, 0, [])), (35, (.invokevirtual 94, 3, 108, 2, 0, [823, 825, 29, 60, 826])), (38, (.istore 4, 2, 4, 0, 0, [])), (40, (.iload 4, 2, 4, 0, 0, [])), (42, (.bipush 46, 2, 0, 0, 46, [])), (44, (.if_icmp .ne 23, 3, 67, 0, 0, [])), (47, (.aload_n 0, 1, 0, 0, 0, [])), (48, (.getfield 25, 3, 7, 18, 0, [686])), (51, (.iload_n 3, 1, 3, 0, 0, [])), (52, (.bipush (-9), 2, 0, 0, (-9), [])), (54, (.iastore, 1, 0, 0, 0, [])), (55, (.aload_n 0, 1, 0, 0, 0, [])), (56, (.dup, 1, 0, 0, 0, [])), (57, (.getfield 91, 3, 7, 13, 0, [681])), (60, (.iconst 1, 1, 0, 0, 1, [])), (61, (.iadd, 1, 0, 0, 0, [])), (62, (.putfield 91, 3, 7, 13, 0, [681])), (65, (.iconst 1, 1, 0, 0, 1, [])), (66, (.ireturn, 1, 0, 0, 0, [])), (67, (.iload 4, 2, 4, 0, 0, [])), (69, (.bipush 111, 2, 0, 0, 111, [])), (71, (.if_icmp .ne 56, 3, 127, 0, 0, [])), (74, (.aload_n 0, 1, 0, 0, 0, [])), (75, (.getfield 108, 3, 7, 17, 0, [685])), (78, (.iconst 2, 1, 0, 0, 2, [])), (79, (.if_icmp .ge 48, 3, 127, 0, 0, [])), (82, (.aload_n 0, 1, 0, 0, 0, [])), (83, (.getfield 37, 3, 7, 22, 0, [690])), (86, (.aload_n 0, 1, 0, 0, 0, [])), (87, (.getfield 108, 3, 7, 17, 0, [685])), (90, (.iload_n 3, 1, 3, 0, 0, [])), (91, (.iastore, 1, 0, 0, 0, [])), (92, (.aload_n 0, 1, 0, 0, 0, [])), (93, (.getfield 25, 3, 7, 18, 0, [686])), (96, (.iload_n 3, 1, 3, 0, 0, [])), (97, (.bipush 6, 2, 0, 0, 6, [])), (99, (.aload_n 0, 1, 0, 0, 0, [])), (100, (.getfield 108, 3, 7, 17, 0, [685])), (103, (.iadd, 1, 0, 0, 0, [])), (104, (.iastore, 1, 0, 0, 0, [])), (105, (.aload_n 0, 1, 0, 0, 0, [])), (106, (.dup, 1, 0, 0, 0, [])), (107, (.getfield 108, 3, 7, 17, 0, [685])), (110, (.iconst 1, 1, 0, 0, 1, [])), (111, (.iadd, 1, 0, 0, 0, [])), (112, (.putfield 108, 3, 7, 17, 0, [685])), (115, (.aload_n 0, 1, 0, 0, 0, [])), (116, (.dup, 1, 0, 0, 0, [])), (117, (.getfield 91, 3, 7, 13, 0, [681])), (120, (.iconst 1, 1, 0, 0, 1, [])), (121, (.iadd, 1, 0, 0, 0, [])), (122, (.putfield 91, 3, 7, 13, 0, [681])), (125, (.iconst 1, 1, 0, 0, 1, [])), (126, (.ireturn, 1, 0, 0, 0, [])), (127, (.iload 4, 2, 4, 0, 0, [])), (129, (.bipush 109, 2, 0, 0, 109, [])), (131, (.if_icmp .eq 17, 3, 148, 0, 0, [])), (134, (.iload 4, 2, 4, 0, 0, [])), (136, (.bipush 119, 2, 0, 0, 119, [])), (138, (.if_icmp .eq 10, 3, 148, 0, 0, [])), (141, (.iload 4, 2, 4, 0, 0, [])), (143, (.bipush 99, 2, 0, 0, 99, [])), (145, (.if_icmp .ne 40, 3, 185, 0, 0, [])), (148, (.aload_n 0, 1, 0, 0, 0, [])), (149, (.iload_n 1, 1, 1, 0, 0, [])), (150, (.iload_n 2, 1, 2, 0, 0, [])), (151, (.iload_n 3, 1, 3, 0, 0, [])), (152, (.iload 4, 2, 4, 0, 0, [])), (154, (.bipush 109, 2, 0, 0, 109, [])), (156, (.if_icmp .ne 7, 3, 163, 0, 0, [])), (159, (.iconst 0, 1, 0, 0, 0, [])), (160, (.goto 15, 3, 175, 0, 0, [])), (163, (.iload 4, 2, 4, 0, 0, [])), (165, (.bipush 119, 2, 0, 0, 119, [])), (167, (.if_icmp .ne 7, 3, 174, 0, 0, [])), (170, (.iconst 1, 1, 0, 0, 1, [])), (171, (.goto 4, 3, 175, 0, 0, [])), (174, (.iconst 2, 1, 0, 0, 2, [])), (175, (.invokevirtual 111, 3, 110, 4, 0, [835, 837, 32, 60, 838])), (178, (.ifCond .eq 7, 3, 185, 0, 0, [])), (181, (.iconst 1, 1, 0, 0, 1, [])), (182, (.goto 4, 3, 186, 0, 0, [])), (185, (.iconst 0, 1, 0, 0, 0, [])), (186, (.ireturn, 1, 0, 0, 0, []))]
def fj_i112 : List (Nat × fj_AI) := [(0, (.aload_n 0, 1, 0, 0, 0, [])), (1, (.iconst 0, 1, 0, 0, 0, [])), (2, (.putfield 91, 3, 7, 13, 0, [681])), (5, (.aload_n 0, 1, 0, 0, 0, [])), (6, (.iconst 0, 1, 0, 0, 0, [])), (7, (.putfield 98, 3, 7, 16, 0, [684])), (10, (.aload_n 0, 1, 0, 0, 0, [])), (11, (.iconst 0, 1, 0, 0, 0, [])), (12, (.putfield 108, 3, 7, 17, 0, [685])), (15, (.aload_n 0, 1, 0, 0, 0, [])), (16, (.iload_n 1, 1, 1, 0, 0, [])), (17, (.iload_n 2, 1, 2, 0, 0, [])), (18, (.invokevirtual 94, 3, 108, 2, 0, [823, 825, 29, 60, 826])), (21, (.bipush 121, 2, 0, 0, 121, [])), (23, (.if_icmp .ne 7, 3, 30, 0, 0, [])), (26, (.iconst 1, 1, 0, 0, 1, [])), (27, (.goto 4, 3, 31, 0, 0, [])), (30, (.iconst 0, 1, 0, 0, 0, [])), (31, (.istore_n 3, 1, 3, 0, 0, [])), (32, (.aload_n 0, 1, 0, 0, 0, [])), (33, (.dup, 1, 0, 0, 0, [])), (34, (.getfield 91, 3, 7, 13, 0, [681])), (37, (.iload_n 3, 1, 3, 0, 0, [])), (38, (.ifCond .eq 7, 3, 45, 0, 0, [])), (41, (.iconst 1, 1, 0, 0, 1, [])), (42, (.goto 4, 3, 46, 0, 0, [])), (45, (.iconst 0, 1, 0, 0, 0, [])), (46, (.iadd, 1, 0, 0, 0, [])), (47, (.putfield 91, 3, 7, 13, 0, [681])), (50, (.aload_n 0, 1, 0, 0, 0, [])), (51, (.iload_n 3, 1, 3, 0, 0, [])), (52, (.ifCond .eq 14, 3, 66, 0, 0, [])), (55, (.aload_n 0, 1, 0, 0, 0, [])), (56, (.iload_n 1, 1, 1, 0, 0, [])), (57, (.iload_n 2, 1, 2, 0, 0, [])), (58, (.iconst 1, 1, 0, 0, 1, [])), (59, (.iconst 4, 1, 0, 0, 4, [])), (60, (.invokevirtual 101, 3, 109, 4, 0, [827, 829, 30, 60, 830])), (63, (.goto 5, 3, 68, 0, 0, [])), (66, (.bipush (-9), 2, 0, 0, (-9), [])), (68, (.putfield 115, 3, 7, 14, 0, [682])), (71, (.aload_n 0, 1, 0, 0, 0, [])), (72, (.aload_n 0, 1, 0, 0, 0, [])), (73, (.getfield 115, 3, 7, 14, 0, [682])), (76, (.ifCond .le 15, 3, 91, 0, 0, [])), (79, (.aload_n 0, 1, 0, 0, 0, [])), (80, (.iload_n 1, 1, 1, 0, 0, [])), (81, (.iload_n 2, 1, 2, 0, 0, [])), (82, (.iconst 2, 1, 0, 0, 2, [])), (83, (.bipush 6, 2, 0, 0, 6, [])), (85, (.invokevirtual 101, 3, 109, 4, 0, [827, 829, 30, 60, 830])), (88, (.goto 5, 3, 93, 0, 0, [])), (91, (.bipush (-9), 2, 0, 0, (-9), [])), (93, (.putfield 105, 3, 7, 15, 0, [683])), (96, (.aload_n 0, 1, 0, 0, 0, [])), (97, (.getfield 105, 3, 7, 15, 0, [683])), (100, (.ifCond .le 7, 3, 107, 0, 0, [])), (103, (.iconst 1, 1, 0, 0, 1, [])), (104, (.goto 4, 3, 108, 0, 0, [])), (107, (.iconst 0, 1, 0, 0, 0, [])), (108, (.istore_n 3, 1, 3, 0, 0, [])), (109, (.iconst 0, 1, 0, 0, 0, [])), (110, (.istore 4, 2, 4, 0, 0, [])), (112, (.iload_n 3, 1, 3, 0, 0, [])), (113, (.ifCond .eq 32, 3, 145, 0, 0, [])), (116, (.iload 4, 2, 4, 0, 0, [])), (118, (.aload_n 0, 1, 0, 0, 0, [])), (119, (.getfield 115, 3, 7, 14, 0, [682])), (122, (.aload_n 0, 1, 0, 0, 0, [])), (123, (.getfield 105, 3, 7, 15, 0, [683])), (126, (.imul, 1, 0, 0, 0, [])), (127, (.if_icmp .ge 18, 3, 145, 0, 0, [])), (130, (.aload_n 0, 1, 0, 0, 0, [])), (131, (.iload_n 1, 1, 1, 0, 0, [])), (132, (.iload_n 2, 1, 2, 0, 0, [])), (133, (.iload 4, 2, 4, 0, 0, [])), (135, (.invokevirtual 118, 3, 111, 3, 0, [831, 833, 31, 60, 834])), (138, (.istore_n 3, 1, 3, 0, 0, [])), (139, (.iinc 4 1, 3, 4, 0, 1, [])), (142, (.goto (-30), 3, 112, 0, 0, [])), (145, (.iload_n 3, 1, 3, 0, 0, [])), (146, (.ifCond .eq 15, 3, 161, 0, 0, [])), (149, (.aload_n 0, 1, 0, 0, 0, [])), (150, (.getfield 91, 3, 7, 13, 0, [681])), (153, (.iload_n 2, 1, 2, 0, 0, [])), (154, (.if_icmp .ne 7, 3, 161, 0, 0, [])), (157, (.iconst 1, 1, 0, 0, 1, [])), (158, (.goto 4, 3, 162, 0, 0, [])), (161, (.iconst 0, 1, 0, 0, 0, [])), (162, (.ireturn, 1, 0, 0, 0, []))]
def fj_i113 : List (Nat × fj_AI) := [(0, (.aload_n 0, 1, 0, 0, 0, [])), (1, (.getfield 56, 3, 7, 36, 0, [704])), (4, (.iload_n 1, 1, 1, 0, 0, [])), (5, (.iaload, 1, 0, 0, 0, [])), (6, (.ifCond .lt 19, 3, 25, 0, 0, [])), (9, (.aload_n 0, 1, 0, 0, 0, [])), (10, (.getfield 59, 3, 7, 37, 0, [705])), (13, (.iload_n 1, 1, 1, 0, 0, [])), (14, (.iaload, 1, 0, 0, 0, [])), (15, (.iload_n 2, 1, 2, 0, 0, [])), (16, (.if_icmp .eq 9, 3, 25, 0, 0, [])), (19, (.aload_n 0, 1, 0, 0, 0, [])), (20, (.iconst 2, 1, 0, 0, 2, [])), (21, (.invokevirtual 122, 3, 103, 1, 0, [812, 814, 27, 60, 815])), (24, (.ireturn, 1, 0, 0, 0, [])), (25, (.aload_n 0, 1, 0, 0, 0, [])), (26, (.getfield 56, 3, 7, 36, 0, [704])), (29, (.iload_n 1, 1, 1, 0, 0, [])), (30, (.iaload, 1, 0, 0, 0, [])), (31, (.ifCond .ge 9, 3, 40, 0, 0, [])), (34, (.aload_n 0, 1, 0, 0, 0, [])), (35, (.iconst 1, 1, 0, 0, 1, [])), (36, (.invokevirtual 122, 3, 103, 1, 0, [812, 814, 27, 60, 815])), (39, (.ireturn, 1, 0, 0, 0, [])), (40, (.lload 4, 2, 4, 0, 0, [])), (42, (.lconst 0, 1, 0, 0, 0, [])), (43, (.lcmp, 1, 0, 0, 0, [])), (44, (.ifCond .ge 9, 3, 53, 0, 0, [])), (47, (.aload_n 0, 1, 0, 0, 0, [])), (48, (.iconst 4, 1, 0, 0, 4, [])), (49, (.invokevirtual 122, 3, 103, 1, 0, [812, 814, 27, 60, 815])), (52, (.ireturn, 1, 0, 0, 0, [])), (53, (.iload_n 3, 1, 3, 0, 0, [])), (54, (.lload 4, 2, 4, 0, 0, [])), (56, (.aload_n 0, 1, 0, 0, 0, [])), (57, (.getfield 56, 3, 7, 36, 0, [704])), (60, (.iload_n 1, 1, 1, 0, 0, [])), (61, (.iaload, 1, 0, 0, 0, [])), (62, (.invokestatic 126, 3, 154, 3, 0, [816, 817, 60, 818])), (65, (.ifCond .eq 11, 3, 76, 0, 0, [])), (68, (.aload_n 0, 1, 0, 0, 0, [])), (69, (.iconst 3, 1, 0, 0, 3, [])), (70, (.invokevirtual 122, 3, 103, 1, 0, [812, 814, 27, 60, 815])), (73, (.goto 4, 3, 77, 0, 0, [])), (76, (.iconst 0, 1, 0, 0, 0, [])), (77, (.ireturn, 1, 0, 0, 0, []))]
def fj_i114 : List (Nat × fj_AI) := [(0, (.iload_n 1, 1, 1, 0, 0, [])), (1, (.invokestatic 130, 3, 148, 1, 0, [796, 797, 60, 798])), (4, (.ifCond .eq 9, 3, 13, 0, 0, [])), (7, (.aload_n 0, 1, 0, 0, 0, [])), (8, (.iconst (-1), 1, 0, 0, (-1), [])), (9, (.invokevirtual 134, 3, 102, 1, 0, [803, 805, 25, 60, 806])), (12, (.ireturn, 1, 0, 0, 0, [])), (13, (.iload_n 2, 1, 2, 0, 0, [])), (14, (.i2l, 1, 0, 0, 0, [])), (15, (.lconst 0, 1, 0, 0, 0, [])), (16, (.ldc2_w 137, 3, 0, 0, 2, [807])), (19, (.invokestatic 84, 3, 97, 3, 0, [800, 801, 60, 802])), (22, (.ifCond .ne 10, 3, 32, 0, 0, [])), (25, (.aload_n 0, 1, 0, 0, 0, [])), (26, (.bipush (-2), 2, 0, 0, (-2), [])), (28, (.invokevirtual 134, 3, 102, 1, 0, [803, 805, 25, 60, 806])), (31, (.ireturn, 1, 0, 0, 0, [])), (32, (.aload_n 0, 1, 0, 0, 0, [])), (33, (.iload_n 1, 1, 1, 0, 0, [])), (34, (.iload_n 2, 1, 2, 0, 0, [])), (35, (.iload_n 3, 1, 3, 0, 0, [])), (36, (.iload 4, 2, 4, 0, 0, [])), (38, (.i2l, 1, 0, 0, 0, [])), (39, (.invokevirtual 139, 3, 113, 4, 0, [808, 810, 26, 60, 811])), (42, (.istore 5, 2, 5, 0, 0, [])), (44, (.iload 5, 2, 5, 0, 0, [])), (46, (.ifCond .ge 6, 3, 52, 0, 0, [])), (49, (.iload 5, 2, 5, 0, 0, [])), (51, (.ireturn, 1, 0, 0, 0, [])), (52, (.aload_n 0, 1, 0, 0, 0, [])), (53, (.bipush 60, 2, 0, 0, 60, [])), (55, (.iload_n 1, 1, 1, 0, 0, [])), (56, (.imul, 1, 0, 0, 0, [])), (57, (.iload_n 3, 1, 3, 0, 0, [])), (58, (.iadd, 1, 0, 0, 0, [])), (59, (.iload 4, 2, 4, 0, 0, [])), (61, (.invokevirtual 143, 3, 112, 2, 0, [819, 821, 28, 60, 822])), (64, (.ifCond .ne 15, 3, 79, 0, 0, [])), (67, (.aload_n 0, 1, 0, 0, 0, [])), (68, (.bipush (-100), 2, 0, 0, (-100), [])), (70, (.aload_n 0, 1, 0, 0, 0, [])), (71, (.getfield 91, 3, 7, 13, 0, [681])), (74, (.isub, 1, 0, 0, 0, [])), (75, (.invokevirtual 134, 3, 102, 1, 0, [803, 805, 25, 60, 806])), (78, (.ireturn, 1, 0, 0, 0, [])), (79, (.aload_n 0, 1, 0, 0, 0, [])), (80, (.aload_n 0, 1, 0, 0, 0, [])), (81, (.getfield 115, 3, 7, 14, 0, [682])), (84, (.putfield 78, 3, 7, 1, 0, [669])), (87, (.aload_n 0, 1, 0, 0, 0, [])), (88, (.aload_n 0, 1, 0, 0, 0, [])), (89, (.getfield 105, 3, 7, 15, 0, [683])), (92, (.putfield 81, 3, 7, 2, 0, [670])), (95, (.aload_n 0, 1, 0, 0, 0, [])), (96, (.aload_n 0, 1, 0, 0, 0, [])), (97, (.getfield 98, 3, 7, 16, 0, [684])), (100, (.putfield 88, 3, 7, 4, 0, [672])), (103, (.aload_n 0, 1, 0, 0, 0, [])), (104, (.aload_n 0, 1, 0, 0, 0, [])), (105, (.getfield 108, 3, 7, 17, 0, [685])), (108, (.putfield 147, 3, 7, 8, 0, [676])), (111, (.iconst 0, 1, 0, 0, 0, [])), (112, (.istore 6, 2, 6, 0, 0, [])), (114, (.iload 6, 2, 6, 0, 0, [])), (116, (.aload_n 0, 1, 0, 0, 0, [])), (117, (.getfield 78, 3, 7, 1, 0, [669])), (120, (.aload_n 0, 1, 0, 0, 0, [])), (121, (.getfield 81, 3, 7, 2, 0, [670])), (124, (.imul, 1, 0, 0, 0, [])), (125, (.if_icmp .ge 23, 3, 148, 0, 0, [])), (128, (.aload_n 0, 1, 0, 0, 0, [])), (129, (.getfield 7, 3, 7, 3, 0, [671])), (132, (.iload 6, 2, 6, 0, 0, [])), (134, (.aload_n 0, 1, 0, 0, 0, [])), (135, (.getfield 25, 3, 7, 18, 0, [686])), (138, (.iload 6, 2, 6, 0, 0, [])), (140, (.iaload, 1, 0, 0, 0, [])), (141, (.iastore, 1, 0, 0, 0, [])), (142, (.iinc 6 1, 3, 6, 0, 1, [])), (145, (.goto (-31), 3, 114, 0, 0, [])), (148, (.iconst 0, 1, 0, 0, 0, [])), (149, (.istore 6, 2, 6, 0, 0, [])), (151, (.iload 6, 2, 6, 0, 0, [])), (153, (.aload_n 0, 1, 0, 0, 0, [])), (154, (.getfield 88, 3, 7, 4, 0, [672])), (157, (.if_icmp .ge 51, 3, 208, 0, 0, [])), (160, (.aload_n 0, 1, 0, 0, 0, [])), (161, (.getfield 13, 3, 7, 5, 0, [673])), (164, (.iload 6, 2, 6, 0, 0, [])), (166, (.aload_n 0, 1, 0, 0, 0, [])), (167, (.getfield 28, 3, 7, 19, 0, [687])), (170, (.iload 6, 2, 6, 0, 0, [])), (172, (.iaload, 1, 0, 0, 0, [])), (173, (.iastore, 1, 0, 0, 0, [])), (174, (.aload_n 0, 1, 0, 0, 0, [])), (175, (.getfield 16, 3, 7, 6, 0, [674])), (178, (.iload 6, 2, 6, 0, 0, [])), (180, (.aload_n 0, 1, 0, 0, 0, [])), (181, (.getfield 31, 3, 7, 20, 0, [688])), (184, (.iload 6, 2, 6, 0, 0, [])), (186, (.iaload, 1, 0, 0, 0, [])), (187, (.iastore, 1, 0, 0, 0, [])), (188, (.aload_n 0, 1, 0, 0, 0, [])), (189, (.getfield 19, 3, 7, 7, 0, [675])), (192, (.iload 6, 2, 6, 0, 0, [])), (194, (.aload_n 0, 1, 0, 0, 0, [])), (195, (.getfield 34, 3, 7, 21, 0, [689])), (198, (.iload 6, 2, 6, 0, 0, [])), (200, (.iaload, 1, 0, 0, 0, [])), (201, (.iastore, 1, 0, 0, 0, [])), (202, (.iinc 6 1, 3, 6, 0, 1, [])), (205, (.goto (-54), 3, 151, 0, 0, [])), (208, (.iconst 0, 1, 0, 0, 0, [])), (209, (.istore 6, 2, 6, 0, 0, [])), (211, (.iload 6, 2, 6, 0, 0, [])), (213, (.aload_n 0, 1, 0, 0, 0, [])), (214, (.getfield 147, 3, 7, 8, 0, [676])), (217, (.if_icmp .ge 23, 3, 240, 0, 0, [])), (220, (.aload_n 0, 1, 0, 0, 0, [])), (221, (.getfield 22, 3, 7, 9, 0, [677])), (224, (.iload 6, 2, 6, 0, 0, [])), (226, (.aload_n 0, 1, 0, 0, 0, [])), (227, (.getfield 37, 3, 7, 22, 0, [690])), (230, (.iload 6, 2, 6, 0, 0, [])), (232, (.iaload, 1, 0, 0, 0, [])), (233, (.iastore, 1, 0, 0, 0, [])), (234, (.iinc 6 1, 3, 6, 0, 1, [])), (237, (.goto (-26), 3, 211, 0, 0, [])), (240, (.aload_n 0, 1, 0, 0, 0, [])), (241, (.iconst 1, 1, 0, 0, 1, [])), (242, (.putfield 150, 3, 7, 10, 0, [678])), (245, (.aload_n 0, 1, 0, 0, 0, [])), (246, (.bipush 30, 2, 0, 0, 30, [])), (248, (.putfield 153, 3, 7, 11, 0, [679])), (251, (.aload_n 0, 1, 0, 0, 0, [])), (252, (.iconst 0, 1, 0, 0, 0, [])), (253, (.putfield 156, 3, 7, 12, 0, [680])), (256, (.aload_n 0, 1, 0, 0, 0, [])), (257, (.iconst 0, 1, 0, 0, 0, [])), (258, (.putfield 159, 3, 7, 32, 0, [700])), (261, (.aload_n 0, 1, 0, 0, 0, [])), (262, (.aload_n 0, 1, 0, 0, 0, [])), (263, (.getfield 88, 3, 7, 4, 0, [672])), (266, (.invokevirtual 134, 3, 102, 1, 0, [803, 805, 25, 60, 806])), (269, (.ireturn, 1, 0, 0, 0, []))]
def fj_i115 : List (Nat × fj_AI) := [(0, (.aload_n 0, 1, 0, 0, 0, [])), (1, (.iload_n 1, 1, 1, 0, 0, [])), (2, (.invokevirtual 162, 3, 105, 1, 0, [843, 845, 33, 60, 846])), (5, (.ifCond .eq 7, 3, 12, 0, 0, [])), (8, (.iconst (-1), 1, 0, 0, (-1), [])), (9, (.goto 9, 3, 18, 0, 0, [])), (12, (.aload_n 0, 1, 0, 0, 0, [])), (13, (.getfield 7, 3, 7, 3, 0, [671])), (16, (.iload_n 1, 1, 1, 0, 0, [])), (17, (.iaload, 1, 0, 0, 0, [])), (18, (.ireturn, 1, 0, 0, 0, []))]
def fj_i116 : List (Nat × fj_AI) := [(0, (.aload_n 0, 1, 0, 0, 0, [])), (1, (.getfield 16, 3, 7, 6, 0, [674])), (4, (.iload_n 1, 1, 1, 0, 0, [])), (5, (.iaload, 1, 0, 0, 0, [])), (6, (.istore_n 2, 1, 2, 0, 0, [])), (7, (.aload_n 0, 1, 0, 0, 0, [])), (8, (.getfield 13, 3, 7, 5, 0, [673])), (11, (.iload_n 1, 1, 1, 0, 0, [])), (12, (.iaload, 1, 0, 0, 0, [])), (13, (.ifCond .ne 7, 3, 20, 0, 0, [])), (16, (.iload_n 2, 1, 2, 0, 0, [])), (17, (.goto 24, 3, 41, 0, 0, [])), (20, (.aload_n 0, 1, 0, 0, 0, [])), (21, (.getfield 13, 3, 7, 5, 0, [673])), (24, (.iload_n 1, 1, 1, 0, 0, [])), (25, (.iaload, 1, 0, 0, 0, [])), (26, (.iconst 1, 1, 0, 0, 1, [])), (27, (.if_icmp .ne 9, 3, 36, 0, 0, [])), (30, (.iload_n 2, 1, 2, 0, 0, [])), (31, (.iconst 1, 1, 0, 0, 1, [])), (32, (.iadd, 1, 0, 0, 0, [])), (33, (.goto 8, 3, 41, 0, 0, [])), (36, (.iconst 2, 1, 0, 0, 2, [])), (37, (.iload_n 2, 1, 2, 0, 0, [])), (38, (.iconst 1, 1, 0, 0, 1, [])), (39, (.iadd, 1, 0, 0, 0, [])), (40, (.imul, 1, 0, 0, 0, [])), (41, (.ireturn, 1, 0, 0, 0, []))]
def fj_i117 : List (Nat × fj_AI) := [(0, (.aload_n 0, 1, 0, 0, 0, [])), (1, (.iload_n 1, 1, 1, 0, 0, [])), (2, (.invokevirtual 165, 3, 106, 1, 0, [851, 853, 34, 60, 854])), (5, (.ifCond .eq 5, 3, 10, 0, 0, [])), (8, (.iconst (-1), 1, 0, 0, (-1), [])), (9, (.ireturn, 1, 0, 0, 0, [])), (10, (.iload_n 2, 1, 2, 0, 0, [])), (11, (.tableswitch 77 0 4 #[33, 40, 47, 54, 60], 33, 0, 0, 0, [])), (44, (.aload_n 0, 1, 0, 0, 0, [])), (45, (.getfield 13, 3, 7, 5, 0, [673])), (48, (.iload_n 1, 1, 1, 0, 0, [])), (49, (.iaload, 1, 0, 0, 0, [])), (50, (.ireturn, 1, 0, 0, 0, [])), (51, (.aload_n 0, 1, 0, 0, 0, [])), (52, (.getfield 16, 3, 7, 6, 0, [674])), (55, (.iload_n 1, 1, 1, 0, 0, [])), (56, (.iaload, 1, 0, 0, 0, [])), (57, (.ireturn, 1, 0, 0, 0, [])), (58, (.aload_n 0, 1, 0, 0, 0, [])), (59, (.getfield 19, 3, 7, 7, 0, [675])), (62, (.iload_n 1, 1, 1, 0, 0, [])), (63, (.iaload, 1, 0, 0, 0, [])), (64, (.ireturn, 1, 0, 0, 0, [])), (65, (.aload_n 0, 1, 0, 0, 0, [])), (66, (.iload_n 1, 1, 1, 0, 0, [])), (67, (.invokevirtual 168, 3, 116, 1, 0, [855, 857, 35, 60, 858])), (70, (.ireturn, 1, 0, 0, 0, [])), (71, (.aload_n 0, 1, 0, 0, 0, [])), (72, (.getfield 156, 3, 7, 12, 0, [680])), (75, (.iload_n 1, 1, 1, 0, 0, [])), (76, (.invokestatic 171, 3, 99, 2, 0, [859, 860, 60, 861])), (79, (.ifCond .eq 7, 3, 86, 0, 0, [])), (82, (.iconst 1, 1, 0, 0, 1, [])), (83, (.goto 4, 3, 87, 0, 0, [])), (86, (.iconst 0, 1, 0, 0, 0, [])), (87, (.ireturn, 1, 0, 0, 0, [])), (88, (.bipush (-2), 2, 0, 0, (-2), [])), (90, (.ireturn, 1, 0, 0, 0, []))]
def fj_i118 : List (Nat × fj_AI) := [(0, (.iload_n 1, 1, 1, 0, 0, [])), (1, (.aload_n 0, 1, 0, 0, 0, [])), (2, (.getfield 81, 3, 7, 2, 0, [670])), (5, (.idiv, 1, 0, 0, 0, [])), (6, (.iload_n 2, 1, 2, 0, 0, [])), (7, (.aload_n 0, 1, 0, 0, 0, [])), (8, (.getfield 81, 3, 7, 2, 0, [670])), (11, (.idiv, 1, 0, 0, 0, [])), (12, (.isub, 1, 0, 0, 0, [])), (13, (.istore_n 3, 1, 3, 0, 0, [])), (14, (.iload_n 1, 1, 1, 0, 0, [])), (15, (.aload_n 0, 1, 0, 0, 0, [])), (16, (.getfield 81, 3, 7, 2, 0, [670])), (19, (.irem, 1, 0, 0, 0, [])), (20, (.iload_n 2, 1, 2, 0, 0, [])), (21, (.aload_n 0, 1, 0, 0, 0, [])), (22, (.getfield 81, 3, 7, 2, 0, [670])), (25, (.irem, 1, 0, 0, 0, [])), (26, (.isub, 1, 0, 0, 0, [])), (27, (.istore 4, 2, 4, 0, 0, [])), (29, (.iload_n 3, 1, 3, 0, 0, [])), (30, (.ifCond .ge 8, 3, 38, 0, 0, [])), (33, (.iload_n 3, 1, 3, 0, 0, [])), (34, (.ineg, 1, 0, 0, 0, [])), (35, (.goto 4, 3, 39, 0, 0, [])), (38, (.iload_n 3, 1, 3, 0, 0, [])), (39, (.iload 4, 2, 4, 0, 0, [])), (41, (.ifCond .ge 9, 3, 50, 0, 0, [])), (44, (.iload 4, 2, 4, 0, 0, [])), (46, (.ineg, 1, 0, 0, 0, [])), (47, (.goto 5, 3, 52, 0, 0, [])), (50, (.iload 4, 2, 4, 0, 0, [])), (52, (.iadd, 1, 0, 0, 0, [])), (53, (.ireturn, 1, 0, 0, 0, []))]
def fj_i119 : List (Nat × fj_AI) := [(0, (.aload_n 0, 1, 0, 0, 0, [])), (1, (.iload_n 1, 1, 1, 0, 0, [])), (2, (.invokevirtual 162, 3, 105, 1, 0, [843, 845, 33, 60, 846])), (5, (.ifCond .ne 11, 3, 16, 0, 0, [])), (8, (.aload_n 0, 1, 0, 0, 0, [])), (9, (.iload_n 2, 1, 2, 0, 0, [])), (10, (.invokevirtual 162, 3, 105, 1, 0, [843, 845, 33, 60, 846])), (13, (.ifCond .eq 7, 3, 20, 0, 0, [])), (16, (.iconst (-1), 1, 0, 0, (-1), [])), (17, (.goto 9, 3, 26, 0, 0, [])), (20, (.aload_n 0, 1, 0, 0, 0, [])), (21, (.iload_n 1, 1, 1, 0, 0, [])), (22, (.iload_n 2, 1, 2, 0, 0, [])), (23, (.invokevirtual 174, 3, 118, 2, 0, [866, 868, 36, 60, 869])), (26, (.ireturn, 1, 0, 0, 0, []))]
def fj_i120 : List (Nat × fj_AI) := [(0, (.iload_n 1, 1, 1, 0, 0, [])), (1, (.i2l, 1, 0, 0, 0, [])), (2, (.lconst 1, 1, 0, 0, 1, [])), (3, (.ldc2_w 177, 3, 0, 0, 6, [874])), (6, (.invokestatic 84, 3, 97, 3, 0, [800, 801, 60, 802])), (9, (.ifCond .ne 6, 3, 15, 0, 0, [])), (12, (.bipush (-2), 2, 0, 0, (-2), [])), (14, (.ireturn, 1, 0, 0, 0, [])), (15, (.aload_n 0, 1, 0, 0, 0, [])), (16, (.getfield 78, 3, 7, 1, 0, [669])), (19, (.ifCond .ne 6, 3, 25, 0, 0, [])), (22, (.bipush (-3), 2, 0, 0, (-3), [])), (24, (.ireturn, 1, 0, 0, 0, [])), (25, (.aload_n 0, 1, 0, 0, 0, [])), (26, (.getfield 150, 3, 7, 10, 0, [678])), (29, (.istore_n 2, 1, 2, 0, 0, [])), (30, (.aload_n 0, 1, 0, 0, 0, [])), (31, (.iload_n 1, 1, 1, 0, 0, [])), (32, (.putfield 150, 3, 7, 10, 0, [678])), (35, (.iload_n 2, 1, 2, 0, 0, [])), (36, (.ireturn, 1, 0, 0, 0, []))]
def fj_i121 : List (Nat × fj_AI) := [(0, (.iload_n 1, 1, 1, 0, 0, [])), (1, (.i2l, 1, 0, 0, 0, [])), (2, (.lconst 0, 1, 0, 0, 0, [])), (3, (.ldc2_w 179, 3, 0, 0, 99, [879])), (6, (.invokestatic 84, 3, 97, 3, 0, [800, 801, 60, 802])), (9, (.ifCond .ne 6, 3, 15, 0, 0, [])), (12, (.bipush (-2), 2, 0, 0, (-2), [])), (14, (.ireturn, 1, 0, 0, 0, [])), (15, (.aload_n 0, 1, 0, 0, 0, [])), (16, (.getfield 78, 3, 7, 1, 0, [669])), (19, (.ifCond .ne 6, 3, 25, 0, 0, [])), (22, (.bipush (-3), 2, 0, 0, (-3), [])), (24, (.ireturn, 1, 0, 0, 0, [])), (25, (.aload_n 0, 1, 0, 0, 0, [])), (26, (.getfield 153, 3, 7, 11, 0, [679])), (29, (.istore_n 2, 1, 2, 0, 0, [])), (30, (.aload_n 0, 1, 0, 0, 0, [])), (31, (.iload_n 1, 1, 1, 0, 0, [])), (32, (.putfield 153, 3, 7, 11, 0, [679])), (35, (.iload_n 2, 1, 2, 0, 0, [])), (36, (.ireturn, 1, 0, 0, 0, []))]
def fj_i122 : List (Nat × fj_AI) := [(0, (.aload_n 0, 1, 0, 0, 0, [])), (1, (.iload_n 1, 1, 1, 0, 0, [])), (2, (.invokevirtual 165, 3, 106, 1, 0, [851, 853, 34, 60, 854])), (5, (.ifCond .eq 5, 3, 10, 0, 0, [])), (8, (.iconst (-1), 1, 0, 0, (-1), [])), (9, (.ireturn, 1, 0, 0, 0, [])), (10, (.aload_n 0, 1, 0, 0, 0, [])), (11, (.getfield 156, 3, 7, 12, 0, [680])), (14, (.iload_n 1, 1, 1, 0, 0, [])), (15, (.invokestatic 171, 3, 99, 2, 0, [859, 860, 60, 861])), (18, (.istore_n 3, 1, 3, 0, 0, [])), (19, (.aload_n 0, 1, 0, 0, 0, [])), (20, (.iload_n 2, 1, 2, 0, 0, [])), (21, (.ifCond .eq 14, 3, 35, 0, 0, [])), (24, (.aload_n 0, 1, 0, 0, 0, [])), (25, (.getfield 156, 3, 7, 12, 0, [680])), (28, (.iconst 1, 1, 0, 0, 1, [])), (29, (.iload_n 1, 1, 1, 0, 0, [])), (30, (.ishl, 1, 0, 0, 0, [])), (31, (.ior, 1, 0, 0, 0, [])), (32, (.goto 13, 3, 45, 0, 0, [])), (35, (.aload_n 0, 1, 0, 0, 0, [])), (36, (.getfield 156, 3, 7, 12, 0, [680])), (39, (.iconst 1, 1, 0, 0, 1, [])), (40, (.iload_n 1, 1, 1, 0, 0, [])), (41, (.ishl, 1, 0, 0, 0, [])), (42, (.iconst (-1), 1, 0, 0, (-1), [])), (43, (.ixor, 1, 0, 0, 0, [])), (44, (.iand, 1, 0, 0, 0, [])), (45, (.putfield 156, 3, 7, 12, 0, [680])), (48, (.iload_n 3, 1, 3, 0, 0, [])), (49, (.iload_n 2, 1, 2, 0, 0, [])), (50, (.if_icmp .ne 7, 3, 57, 0, 0, [])), (53, (.iconst 0, 1, 0, 0, 0, [])), (54, (.goto 4, 3, 58, 0, 0, [])), (57, (.iconst 1, 1, 0, 0, 1, [])), (58, (.ireturn, 1, 0, 0, 0, []))]
def fj_i123 : List (Nat × fj_AI) := [(0, (.iconst 0, 1, 0, 0, 0, [])), (1, (.istore_n 3, 1, 3, 0, 0, [])), (2, (.iconst 0, 1, 0, 0, 0, [])), (3, (.istore 4, 2, 4, 0, 0, [])), (5, (.iload 4, 2, 4, 0, 0, [])), (7, (.aload_n 0, 1, 0, 0, 0, [])), (8, (.getfield 88, 3, 7, 4, 0, [672])), (11, (.if_icmp .ge 69, 3, 80, 0, 0, [])), (14, (.iload_n 2, 1, 2, 0, 0, [])), (15, (.aload_n 0, 1, 0, 0, 0, [])), (16, (.getfield 156, 3, 7, 12, 0, [680])), (19, (.iconst (-1), 1, 0, 0, (-1), [])), (20, (.ixor, 1, 0, 0, 0, [])), (21, (.iand, 1, 0, 0, 0, [])), (22, (.iload 4, 2, 4, 0, 0, [])), (24, (.invokestatic 171, 3, 99, 2, 0, [859, 860, 60, 861])), (27, (.ifCond .eq 28, 3, 55, 0, 0, [])), (30, (.aload_n 0, 1, 0, 0, 0, [])), (31, (.aload_n 0, 1, 0, 0, 0, [])), (32, (.getfield 19, 3, 7, 7, 0, [675])), (35, (.iload 4, 2, 4, 0, 0, [])), (37, (.iaload, 1, 0, 0, 0, [])), (38, (.iload_n 1, 1, 1, 0, 0, [])), (39, (.invokevirtual 174, 3, 118, 2, 0, [866, 868, 36, 60, 869])), (42, (.aload_n 0, 1, 0, 0, 0, [])), (43, (.iload 4, 2, 4, 0, 0, [])), (45, (.invokevirtual 168, 3, 116, 1, 0, [855, 857, 35, 60, 858])), (48, (.if_icmp .gt 7, 3, 55, 0, 0, [])), (51, (.iconst 1, 1, 0, 0, 1, [])), (52, (.goto 4, 3, 56, 0, 0, [])), (55, (.iconst 0, 1, 0, 0, 0, [])), (56, (.istore 5, 2, 5, 0, 0, [])), (58, (.iload_n 3, 1, 3, 0, 0, [])), (59, (.iload 5, 2, 5, 0, 0, [])), (61, (.ifCond .eq 10, 3, 71, 0, 0, [])), (64, (.iconst 1, 1, 0, 0, 1, [])), (65, (.iload 4, 2, 4, 0, 0, [])), (67, (.ishl, 1, 0, 0, 0, [])), (68, (.goto 4, 3, 72, 0, 0, [])), (71, (.iconst 0, 1, 0, 0, 0, [])), (72, (.ior, 1, 0, 0, 0, [])), (73, (.istore_n 3, 1, 3, 0, 0, [])), (74, (.iinc 4 1, 3, 4, 0, 1, [])), (77, (.goto (-72), 3, 5, 0, 0, [])), (80, (.iload_n 3, 1, 3, 0, 0, [])), (81, (.ireturn, 1, 0, 0, 0, []))]
def fj_i124 : List (Nat × fj_AI) := [(0, (.aload_n 0, 1, 0, 0, 0, [])), (1, (.iload_n 1, 1, 1, 0, 0, [])), (2, (.invokevirtual 162, 3, 105, 1, 0, [843, 845, 33, 60, 846])), (5, (.ifCond .eq 7, 3, 12, 0, 0, [])), (8, (.iconst (-1), 1, 0, 0, (-1), [])), (9, (.goto 12, 3, 21, 0, 0, [])), (12, (.aload_n 0, 1, 0, 0, 0, [])), (13, (.iload_n 1, 1, 1, 0, 0, [])), (14, (.aload_n 0, 1, 0, 0, 0, [])), (15, (.invokevirtual 181, 3, 107, 0, 0, [888, 890, 37, 60, 891])), (18, (.invokevirtual 185, 3, 123, 2, 0, [892, 894, 38, 60, 895])), (21, (.ireturn, 1, 0, 0, 0, []))]
def fj_i125 : List (Nat × fj_AI) := [(0, (.iload_n 1, 1, 1, 0, 0, [])), (1, (.bipush 6, 2, 0, 0, 6, [])), (3, (.if_icmp .ge 11, 3, 14, 0, 0, [])), (6, (.aload_n 0, 1, 0, 0, 0, [])), (7, (.iload_n 1, 1, 1, 0, 0, [])), (8, (.invokevirtual 165, 3, 106, 1, 0, [851, 853, 34, 60, 854])), (11, (.goto 27, 3, 38, 0, 0, [])), (14, (.iload_n 1, 1, 1, 0, 0, [])), (15, (.bipush 6, 2, 0, 0, 6, [])), (17, (.isub, 1, 0, 0, 0, [])), (18, (.i2l, 1, 0, 0, 0, [])), (19, (.lconst 0, 1, 0, 0, 0, [])), (20, (.aload_n 0, 1, 0, 0, 0, [])), (21, (.getfield 147, 3, 7, 8, 0, [676])), (24, (.i2l, 1, 0, 0, 0, [])), (25, (.lconst 1, 1, 0, 0, 1, [])), (26, (.lsub, 1, 0, 0, 0, [])), (27, (.invokestatic 84, 3, 97, 3, 0, [800, 801, 60, 802])), (30, (.ifCond .ne 7, 3, 37, 0, 0, [])), (33, (.iconst 1, 1, 0, 0, 1, [])), (34, (.goto 4, 3, 38, 0, 0, [])), (37, (.iconst 0, 1, 0, 0, 0, [])), (38, (.ireturn, 1, 0, 0, 0, []))]
def fj_i126 : List (Nat × fj_AI) := [(0, (.aload_n 0, 1, 0, 0, 0, [])), (1, (.iconst 0, 1, 0, 0, 0, [])), (2, (.putfield 188, 3, 7, 23, 0, [691])), (5, (.aload_n 0, 1, 0, 0, 0, [])), (6, (.iconst 0, 1, 0, 0, 0, [])), (7, (.putfield 191, 3, 7, 24, 0, [692])), (10, (.aload_n 0, 1, 0, 0, 0, [])), (11, (.aload_n 0, 1, 0, 0, 0, [])), (12, (.invokevirtual 181, 3, 107, 0, 0, [888, 890, 37, 60, 891])), (15, (.putfield 194, 3, 7, 25, 0, [693])), (18, (.aload_n 0, 1, 0, 0, 0, [])), (19, (.iconst 0, 1, 0, 0, 0, [])), (20, (.putfield 197, 3, 7, 26, 0, [694])), (23, (.aload_n 0, 1, 0, 0, 0, [])), (24, (.bipush (-9), 2, 0, 0, (-9), [])), (26, (.putfield 200, 3, 7, 27, 0, [695])), (29, (.aload_n 0, 1, 0, 0, 0, [])), (30, (.bipush (-9), 2, 0, 0, (-9), [])), (32, (.putfield 203, 3, 7, 28, 0, [696])), (35, (.iconst 0, 1, 0, 0, 0, [])), (36, (.istore_n 3, 1, 3, 0, 0, [])), (37, (.iload_n 3, 1, 3, 0, 0, [])), (38, (.iload_n 2, 1, 2, 0, 0, [])), (39, (.if_icmp .ge 191, 3, 230, 0, 0, [])), (42, (.aload_n 0, 1, 0, 0, 0, [])), (43, (.getfield 200, 3, 7, 27, 0, [695])), (46, (.ifCond .ge 184, 3, 230, 0, 0, [])), (49, (.aload_n 0, 1, 0, 0, 0, [])), (50, (.getfield 62, 3, 7, 38, 0, [706])), (53, (.iload_n 1, 1, 1, 0, 0, [])), (54, (.iload_n 3, 1, 3, 0, 0, [])), (55, (.iadd, 1, 0, 0, 0, [])), (56, (.iaload, 1, 0, 0, 0, [])), (57, (.istore 4, 2, 4, 0, 0, [])), (59, (.iload 4, 2, 4, 0, 0, [])), (61, (.bipush 6, 2, 0, 0, 6, [])), (63, (.if_icmp .ge 30, 3, 93, 0, 0, [])), (66, (.aload_n 0, 1, 0, 0, 0, [])), (67, (.getfield 191, 3, 7, 24, 0, [692])), (70, (.ifCond .eq 15, 3, 85, 0, 0, [])), (73, (.aload_n 0, 1, 0, 0, 0, [])), (74, (.getfield 194, 3, 7, 25, 0, [693])), (77, (.iload 4, 2, 4, 0, 0, [])), (79, (.invokestatic 171, 3, 99, 2, 0, [859, 860, 60, 861])), (82, (.ifCond .ne 11, 3, 93, 0, 0, [])), (85, (.aload_n 0, 1, 0, 0, 0, [])), (86, (.iload_n 3, 1, 3, 0, 0, [])), (87, (.putfield 200, 3, 7, 27, 0, [695])), (90, (.goto 134, 3, 224, 0, 0, [])), (93, (.iload 4, 2, 4, 0, 0, [])), (95, (.bipush 6, 2, 0, 0, 6, [])), (97, (.if_icmp .ge 13, 3, 110, 0, 0, [])), (100, (.aload_n 0, 1, 0, 0, 0, [])), (101, (.getfield 19, 3, 7, 7, 0, [675])), (104, (.iload 4, 2, 4, 0, 0, [])), (106, (.iaload, 1, 0, 0, 0, [])), (107, (.goto 13, 3, 120, 0, 0, [])), (110, (.aload_n 0, 1, 0, 0, 0, [])), (111, (.getfield 22, 3, 7, 9, 0, [677])), (114, (.iload 4, 2, 4, 0, 0, [])), (116, (.bipush 6, 2, 0, 0, 6, [])), (118, (.isub, 1, 0, 0, 0, [])), (119, (.iaload, 1, 0, 0, 0, [])), (120, (.istore 5, 2, 5, 0, 0, [])), (122, (.aload_n 0, 1, 0, 0, 0, [])), (123, (.dup, 1, 0, 0, 0, [])), (124, (.getfield 197, 3, 7, 26, 0, [694])), (127, (.aload_n 0, 1, 0, 0, 0, [])), (128, (.aload_n 0, 1, 0, 0, 0, [])), (129, (.getfield 188, 3, 7, 23, 0, [691])), (132, (.iload 5, 2, 5, 0, 0, [])), (134, (.invokevirtual 174, 3, 118, 2, 0, [866, 868, 36, 60, 869])), (137, (.iconst 1, 1, 0, 0, 1, [])), (138, (.iadd, 1, 0, 0, 0, [])), (139, (.iadd, 1, 0, 0, 0, [])), (140, (.putfield 197, 3, 7, 26, 0, [694])), (143, (.aload_n 0, 1, 0, 0, 0, [])), (144, (.iload 5, 2, 5, 0, 0, [])), (146, (.putfield 188, 3, 7, 23, 0, [691])), (149, (.iload 4, 2, 4, 0, 0, [])), (151, (.bipush 6, 2, 0, 0, 6, [])), (153, (.if_icmp .ge 63, 3, 216, 0, 0, [])), (156, (.aload_n 0, 1, 0, 0, 0, [])), (157, (.dup, 1, 0, 0, 0, [])), (158, (.getfield 191, 3, 7, 24, 0, [692])), (161, (.iconst 1, 1, 0, 0, 1, [])), (162, (.isub, 1, 0, 0, 0, [])), (163, (.putfield 191, 3, 7, 24, 0, [692])), (166, (.aload_n 0, 1, 0, 0, 0, [])), (167, (.dup, 1, 0, 0, 0, [])), (168, (.getfield 194, 3, 7, 25, 0, [693])), (171, (.iconst 1, 1, 0, 0, 1, [])), (172, (.iload 4, 2, 4, 0, 0, [])), (174, (.ishl, 1, 0, 0, 0, [])), (175, (.iconst (-1), 1, 0, 0, (-1), [])), (176, (.ixor, 1, 0, 0, 0, [])), (177, (.iand, 1, 0, 0, 0, [])), (178, (.putfield 194, 3, 7, 25, 0, [693])), (181, (.aload_n 0, 1, 0, 0, 0, [])), (182, (.aload_n 0, 1, 0, 0, 0, [])), (183, (.getfield 203, 3, 7, 28, 0, [696])), (186, (.ifCond .ge 20, 3, 206, 0, 0, [])), (189, (.aload_n 0, 1, 0, 0, 0, [])), (190, (.iload 5, 2, 5, 0, 0, [])), (192, (.aload_n 0, 1, 0, 0, 0, [])), (193, (.getfield 194, 3, 7, 25, 0, [693])), (196, (.invokevirtual 185, 3, 123, 2, 0, [892, 894, 38, 60, 895])), (199, (.ifCond .eq 7, 3, 206, 0, 0, [])), (202, (.iload_n 3, 1, 3, 0, 0, [])), (203, (.goto 7, 3, 210, 0, 0, [])), (206, (.aload_n 0, 1, 0, 0, 0, [])), (207, (.getfield 203, 3, 7, 28, 0, [696])), (210, (.putfield 203, 3, 7, 28, 0, [696])), (213, (.goto 11, 3, 224, 0, 0, [])), (216, (.aload_n 0, 1, 0, 0, 0, [])), (217, (.aload_n 0, 1, 0, 0, 0, [])), (218, (.getfield 150, 3, 7, 10, 0, [678])), (221, (.putfield 191, 3, 7, 24, 0, [692])), (224, (.iinc 3 1, 3, 3, 0, 1, [])), (227, (.goto (-190), 3, 37, 0, 0, [])), (230, (.return_, 1, 0, 0, 0, []))]
def fj_i127 : List (Nat × fj_AI) := [(0, (.iload_n 1, 1, 1, 0, 0, [])), (1, (.invokestatic 130, 3, 148, 1, 0, [796, 797, 60, 798])), (4, (.ifCond .eq 9, 3, 13, 0, 0, [])), (7, (.aload_n 0, 1, 0, 0, 0, [])), (8, (.iconst (-1), 1, 0, 0, (-1), [])), (9, (.invokevirtual 134, 3, 102, 1, 0, [803, 805, 25, 60, 806])), (12, (.ireturn, 1, 0, 0, 0, [])), (13, (.iload_n 2, 1, 2, 0, 0, [])), (14, (.i2l, 1, 0, 0, 0, [])), (15, (.lconst 0, 1, 0, 0, 0, [])), (16, (.ldc2_w 137, 3, 0, 0, 2, [807])), (19, (.invokestatic 84, 3, 97, 3, 0, [800, 801, 60, 802])), (22, (.ifCond .eq 21, 3, 43, 0, 0, [])), (25, (.iload 4, 2, 4, 0, 0, [])), (27, (.i2l, 1, 0, 0, 0, [])), (28, (.lconst 0, 1, 0, 0, 0, [])), (29, (.ldc2_w 206, 3, 0, 0, 20, [905])), (32, (.invokestatic 84, 3, 97, 3, 0, [800, 801, 60, 802])), (35, (.ifCond .eq 8, 3, 43, 0, 0, [])), (38, (.iload 5, 2, 5, 0, 0, [])), (40, (.ifCond .ne 10, 3, 50, 0, 0, [])), (43, (.aload_n 0, 1, 0, 0, 0, [])), (44, (.bipush (-2), 2, 0, 0, (-2), [])), (46, (.invokevirtual 134, 3, 102, 1, 0, [803, 805, 25, 60, 806])), (49, (.ireturn, 1, 0, 0, 0, [])), (50, (.aload_n 0, 1, 0, 0, 0, [])), (51, (.getfield 78, 3, 7, 1, 0, [669])), (54, (.ifCond .ne 10, 3, 64, 0, 0, [])), (57, (.aload_n 0, 1, 0, 0, 0, [])), (58, (.bipush (-3), 2, 0, 0, (-3), [])), (60, (.invokevirtual 134, 3, 102, 1, 0, [803, 805, 25, 60, 806])), (63, (.ireturn, 1, 0, 0, 0, [])), (64, (.aload_n 0, 1, 0, 0, 0, [])), (65, (.iload_n 1, 1, 1, 0, 0, [])), (66, (.iload_n 2, 1, 2, 0, 0, [])), (67, (.iload_n 3, 1, 3, 0, 0, [])), (68, (.iload 4, 2, 4, 0, 0, [])), (70, (.i2l, 1, 0, 0, 0, [])), (71, (.invokevirtual 139, 3, 113, 4, 0, [808, 810, 26, 60, 811])), (74, (.istore 6, 2, 6, 0, 0, [])), (76, (.iload 6, 2, 6, 0, 0, [])), (78, (.ifCond .ge 6, 3, 84, 0, 0, [])), (81, (.iload 6, 2, 6, 0, 0, [])), (83, (.ireturn, 1, 0, 0, 0, [])), (84, (.iconst 0, 1, 0, 0, 0, [])), (85, (.istore 7, 2, 7, 0, 0, [])), (87, (.iload 7, 2, 7, 0, 0, [])), (89, (.iload 4, 2, 4, 0, 0, [])), (91, (.if_icmp .ge 36, 3, 127, 0, 0, [])), (94, (.aload_n 0, 1, 0, 0, 0, [])), (95, (.aload_n 0, 1, 0, 0, 0, [])), (96, (.getfield 62, 3, 7, 38, 0, [706])), (99, (.bipush 60, 2, 0, 0, 60, [])), (101, (.iload_n 1, 1, 1, 0, 0, [])), (102, (.imul, 1, 0, 0, 0, [])), (103, (.iload_n 3, 1, 3, 0, 0, [])), (104, (.iadd, 1, 0, 0, 0, [])), (105, (.iload 7, 2, 7, 0, 0, [])), (107, (.iadd, 1, 0, 0, 0, [])), (108, (.iaload, 1, 0, 0, 0, [])), (109, (.invokevirtual 208, 3, 125, 1, 0, [906, 908, 40, 60, 909])), (112, (.ifCond .eq 9, 3, 121, 0, 0, [])), (115, (.aload_n 0, 1, 0, 0, 0, [])), (116, (.iconst (-1), 1, 0, 0, (-1), [])), (117, (.invokevirtual 134, 3, 102, 1, 0, [803, 805, 25, 60, 806])), (120, (.ireturn, 1, 0, 0, 0, [])), (121, (.iinc 7 1, 3, 7, 0, 1, [])), (124, (.goto (-37), 3, 87, 0, 0, [])), (127, (.aload_n 0, 1, 0, 0, 0, [])), (128, (.iconst 0, 1, 0, 0, 0, [])), (129, (.invokevirtual 134, 3, 102, 1, 0, [803, 805, 25, 60, 806])), (132, (.ireturn, 1, 0, 0, 0, []))]
def fj_i128 : List (Nat × fj_AI) := [(0, (.aload_n 0, 1, 0, 0, 0, [])), (1, (.iload_n 1, 1, 1, 0, 0, [])), (2, (.iload_n 2, 1, 2, 0, 0, [])), (3, (.iload_n 3, 1, 3, 0, 0, [])), (4, (.iload 4, 2, 4, 0, 0, [])), (6, (.iload 5, 2, 5, 0, 0, [])), (8, (.i2l, 1, 0, 0, 0, [])), (9, (.lconst 0, 1, 0, 0, 0, [])), (10, (.ldc2_w 211, 3, 0, 0, 5, [900])), (13, (.invokestatic 84, 3, 97, 3, 0, [800, 801, 60, 802])), (16, (.invokevirtual 213, 3, 127, 5, 0, [901, 903, 39, 60, 904])), (19, (.istore 6, 2, 6, 0, 0, [])), (21, (.iload 6, 2, 6, 0, 0, [])), (23, (.ifCond .ge 6, 3, 29, 0, 0, [])), (26, (.iload 6, 2, 6, 0, 0, [])), (28, (.ireturn, 1, 0, 0, 0, [])), (29, (.aload_n 0, 1, 0, 0, 0, [])), (30, (.bipush 60, 2, 0, 0, 60, [])), (32, (.iload_n 1, 1, 1, 0, 0, [])), (33, (.imul, 1, 0, 0, 0, [])), (34, (.iload_n 3, 1, 3, 0, 0, [])), (35, (.iadd, 1, 0, 0, 0, [])), (36, (.iload 4, 2, 4, 0, 0, [])), (38, (.invokevirtual 217, 3, 126, 2, 0, [910, 912, 41, 60, 913])), (41, (.iload 5, 2, 5, 0, 0, [])), (43, (.iconst 1, 1, 0, 0, 1, [])), (44, (.if_icmp .ne 8, 3, 52, 0, 0, [])), (47, (.aload_n 0, 1, 0, 0, 0, [])), (48, (.getfield 200, 3, 7, 27, 0, [695])), (51, (.ireturn, 1, 0, 0, 0, [])), (52, (.aload_n 0, 1, 0, 0, 0, [])), (53, (.getfield 200, 3, 7, 27, 0, [695])), (56, (.ifCond .lt 11, 3, 67, 0, 0, [])), (59, (.bipush (-100), 2, 0, 0, (-100), [])), (61, (.aload_n 0, 1, 0, 0, 0, [])), (62, (.getfield 200, 3, 7, 27, 0, [695])), (65, (.isub, 1, 0, 0, 0, [])), (66, (.ireturn, 1, 0, 0, 0, [])), (67, (.iload 5, 2, 5, 0, 0, [])), (69, (.tableswitch 62 0 4 #[35, 62, 40, 52, 57], 35, 0, 0, 0, [])), (104, (.aload_n 0, 1, 0, 0, 0, [])), (105, (.getfield 197, 3, 7, 26, 0, [694])), (108, (.ireturn, 1, 0, 0, 0, [])), (109, (.aload_n 0, 1, 0, 0, 0, [])), (110, (.invokevirtual 181, 3, 107, 0, 0, [888, 890, 37, 60, 891])), (113, (.aload_n 0, 1, 0, 0, 0, [])), (114, (.getfield 194, 3, 7, 25, 0, [693])), (117, (.iconst (-1), 1, 0, 0, (-1), [])), (118, (.ixor, 1, 0, 0, 0, [])), (119, (.iand, 1, 0, 0, 0, [])), (120, (.ireturn, 1, 0, 0, 0, [])), (121, (.aload_n 0, 1, 0, 0, 0, [])), (122, (.getfield 203, 3, 7, 28, 0, [696])), (125, (.ireturn, 1, 0, 0, 0, [])), (126, (.aload_n 0, 1, 0, 0, 0, [])), (127, (.getfield 191, 3, 7, 24, 0, [692])), (130, (.ireturn, 1, 0, 0, 0, [])), (131, (.aload_n 0, 1, 0, 0, 0, [])), (132, (.getfield 188, 3, 7, 23, 0, [691])), (135, (.ireturn, 1, 0, 0, 0, []))]
def fj_i129 : List (Nat × fj_AI) := [(0, (.aload_n 0, 1, 0, 0, 0, [])), (1, (.invokevirtual 181, 3, 107, 0, 0, [888, 890, 37, 60, 891])), (4, (.istore_n 1, 1, 1, 0, 0, [])), (5, (.aload_n 0, 1, 0, 0, 0, [])), (6, (.iconst 0, 1, 0, 0, 0, [])), (7, (.putfield 221, 3, 7, 30, 0, [698])), (10, (.iconst 1, 1, 0, 0, 1, [])), (11, (.istore_n 2, 1, 2, 0, 0, [])), (12, (.iload_n 2, 1, 2, 0, 0, [])), (13, (.ifCond .eq 86, 3, 99, 0, 0, [])), (16, (.iconst 0, 1, 0, 0, 0, [])), (17, (.istore_n 2, 1, 2, 0, 0, [])), (18, (.iconst 0, 1, 0, 0, 0, [])), (19, (.istore_n 3, 1, 3, 0, 0, [])), (20, (.iload_n 3, 1, 3, 0, 0, [])), (21, (.aload_n 0, 1, 0, 0, 0, [])), (22, (.getfield 88, 3, 7, 4, 0, [672])), (25, (.if_icmp .ge 71, 3, 96, 0, 0, [])), (28, (.iload_n 2, 1, 2, 0, 0, [])), (29, (.ifCond .ne 67, 3, 96, 0, 0, [])), (32, (.iload_n 1, 1, 1, 0, 0, [])), (33, (.iload_n 3, 1, 3, 0, 0, [])), (34, (.invokestatic 171, 3, 99, 2, 0, [859, 860, 60, 861])), (37, (.ifCond .eq 53, 3, 90, 0, 0, [])), (40, (.aload_n 0, 1, 0, 0, 0, [])), (41, (.aload_n 0, 1, 0, 0, 0, [])), (42, (.getfield 19, 3, 7, 7, 0, [675])), (45, (.iload_n 3, 1, 3, 0, 0, [])), (46, (.iaload, 1, 0, 0, 0, [])), (47, (.iload_n 1, 1, 1, 0, 0, [])), (48, (.iconst 1, 1, 0, 0, 1, [])), (49, (.iload_n 3, 1, 3, 0, 0, [])), (50, (.ishl, 1, 0, 0, 0, [])), (51, (.iconst (-1), 1, 0, 0, (-1), [])), (52, (.ixor, 1, 0, 0, 0, [])), (53, (.iand, 1, 0, 0, 0, [])), (54, (.invokevirtual 185, 3, 123, 2, 0, [892, 894, 38, 60, 895])), (57, (.ifCond .ne 33, 3, 90, 0, 0, [])), (60, (.iload_n 1, 1, 1, 0, 0, [])), (61, (.iconst 1, 1, 0, 0, 1, [])), (62, (.iload_n 3, 1, 3, 0, 0, [])), (63, (.ishl, 1, 0, 0, 0, [])), (64, (.iconst (-1), 1, 0, 0, (-1), [])), (65, (.ixor, 1, 0, 0, 0, [])), (66, (.iand, 1, 0, 0, 0, [])), (67, (.istore_n 1, 1, 1, 0, 0, [])), (68, (.aload_n 0, 1, 0, 0, 0, [])), (69, (.getfield 40, 3, 7, 29, 0, [697])), (72, (.aload_n 0, 1, 0, 0, 0, [])), (73, (.getfield 221, 3, 7, 30, 0, [698])), (76, (.iload_n 3, 1, 3, 0, 0, [])), (77, (.iastore, 1, 0, 0, 0, [])), (78, (.aload_n 0, 1, 0, 0, 0, [])), (79, (.dup, 1, 0, 0, 0, [])), (80, (.getfield 221, 3, 7, 30, 0, [698])), (83, (.iconst 1, 1, 0, 0, 1, [])), (84, (.iadd, 1, 0, 0, 0, [])), (85, (.putfield 221, 3, 7, 30, 0, [698])), (88, (.iconst 1, 1, 0, 0, 1, [])), (89, (.istore_n 2, 1, 2, 0, 0, [])), (90, (.iinc 3 1, 3, 3, 0, 1, [])), (93, (.goto (-73), 3, 20, 0, 0, [])), (96, (.goto (-84), 3, 12, 0, 0, [])), (99, (.iload_n 1, 1, 1, 0, 0, [])), (100, (.ireturn, 1, 0, 0, 0, []))]
def fj_i130 : List (Nat × fj_AI) := [(0, (.iload_n 1, 1, 1, 0, 0, [])), (1, (.ifCond .ge 5, 3, 6, 0, 0, [])), (4, (.iconst (-1), 1, 0, 0, (-1), [])), (5, (.ireturn, 1, 0, 0, 0, [])), (6, (.aload_n 0, 1, 0, 0, 0, [])), (7, (.getfield 78, 3, 7, 1, 0, [669])), (10, (.ifCond .ne 6, 3, 16, 0, 0, [])), (13, (.bipush (-3), 2, 0, 0, (-3), [])), (15, (.ireturn, 1, 0, 0, 0, [])), (16, (.aload_n 0, 1, 0, 0, 0, [])), (17, (.invokevirtual 224, 3, 129, 0, 0, [918, 920, 42, 60, 921])), (20, (.ifCond .ne 20, 3, 40, 0, 0, [])), (23, (.iload_n 1, 1, 1, 0, 0, [])), (24, (.aload_n 0, 1, 0, 0, 0, [])), (25, (.getfield 88, 3, 7, 4, 0, [672])), (28, (.if_icmp .ge 12, 3, 40, 0, 0, [])), (31, (.aload_n 0, 1, 0, 0, 0, [])), (32, (.getfield 40, 3, 7, 29, 0, [697])), (35, (.iload_n 1, 1, 1, 0, 0, [])), (36, (.iaload, 1, 0, 0, 0, [])), (37, (.goto 5, 3, 42, 0, 0, [])), (40, (.bipush (-9), 2, 0, 0, (-9), [])), (42, (.ireturn, 1, 0, 0, 0, []))]
def fj_i131 : List (Nat × fj_AI) := [(0, (.aload_n 0, 1, 0, 0, 0, [])), (1, (.getfield 78, 3, 7, 1, 0, [669])), (4, (.ifCond .ne 8, 3, 12, 0, 0, [])), (7, (.bipush (-3), 2, 0, 0, (-3), [])), (9, (.goto 7, 3, 16, 0, 0, [])), (12, (.aload_n 0, 1, 0, 0, 0, [])), (13, (.invokevirtual 224, 3, 129, 0, 0, [918, 920, 42, 60, 921])), (16, (.ireturn, 1, 0, 0, 0, []))]
def fj_i132 : List (Nat × fj_AI) := [(0, (.iload_n 1, 1, 1, 0, 0, [])), (1, (.ifCond .ne 7, 3, 8, 0, 0, [])), (4, (.iconst 0, 1, 0, 0, 0, [])), (5, (.goto 29, 3, 34, 0, 0, [])), (8, (.iload_n 1, 1, 1, 0, 0, [])), (9, (.bipush 7, 2, 0, 0, 7, [])), (11, (.if_icmp .ge 14, 3, 25, 0, 0, [])), (14, (.aload_n 0, 1, 0, 0, 0, [])), (15, (.getfield 19, 3, 7, 7, 0, [675])), (18, (.iload_n 1, 1, 1, 0, 0, [])), (19, (.iconst 1, 1, 0, 0, 1, [])), (20, (.isub, 1, 0, 0, 0, [])), (21, (.iaload, 1, 0, 0, 0, [])), (22, (.goto 12, 3, 34, 0, 0, [])), (25, (.aload_n 0, 1, 0, 0, 0, [])), (26, (.getfield 22, 3, 7, 9, 0, [677])), (29, (.iload_n 1, 1, 1, 0, 0, [])), (30, (.bipush 7, 2, 0, 0, 7, [])), (32, (.isub, 1, 0, 0, 0, [])), (33, (.iaload, 1, 0, 0, 0, [])), (34, (.ireturn, 1, 0, 0, 0, []))]
def fj_i133 : List (Nat × fj_AI) := [(0, (.bipush 64, 2, 0, 0, 64, [])), (2, (.iload_n 0, 1, 0, 0, 0, [])), (3, (.imul, 1, 0, 0, 0, [])), (4, (.iload_n 1, 1, 1, 0, 0, [])), (5, (.iadd, 1, 0, 0, 0, [])), (6, (.bipush 7, 2, 0, 0, 7, [])), (8, (.imul, 1, 0, 0, 0, [])), (9, (.iload_n 2, 1, 2, 0, 0, [])), (10, (.iadd, 1, 0, 0, 0, [])), (11, (.ireturn, 1, 0, 0, 0, []))]
def fj_i134 : List (Nat × fj_AI) := [(0, (.iload_n 1, 1, 1, 0, 0, [])), (1, (.bipush 7, 2, 0, 0, 7, [])), (3, (.irem, 1, 0, 0, 0, [])), (4, (.istore_n 2, 1, 2, 0, 0, [])), (5, (.iload_n 1, 1, 1, 0, 0, [])), (6, (.bipush 7, 2, 0, 0, 7, [])), (8, (.idiv, 1, 0, 0, 0, [])), (9, (.bipush 64, 2, 0, 0, 64, [])), (11, (.irem, 1, 0, 0, 0, [])), (12, (.istore_n 3, 1, 3, 0, 0, [])), (13, (.iload_n 1, 1, 1, 0, 0, [])), (14, (.sipush 448, 3, 0, 0, 448, [])), (17, (.idiv, 1, 0, 0, 0, [])), (18, (.istore 4, 2, 4, 0, 0, [])), (20, (.iconst 0, 1, 0, 0, 0, [])), (21, (.istore 5, 2, 5, 0, 0, [])), (23, (.iconst 1, 1, 0, 0, 1, [])), (24, (.istore 6, 2, 6, 0, 0, [])), (26, (.iload 6, 2, 6, 0, 0, [])), (28, (.bipush 7, 2, 0, 0, 7, [])), (30, (.aload_n 0, 1, 0, 0, 0, [])), (31, (.getfield 147, 3, 7, 8, 0, [676])), (34, (.iadd, 1, 0, 0, 0, [])), (35, (.if_icmp .ge 201, 3, 236, 0, 0, [])), (38, (.iload 6, 2, 6, 0, 0, [])), (40, (.bipush 7, 2, 0, 0, 7, [])), (42, (.if_icmp .ge 7, 3, 49, 0, 0, [])), (45, (.iconst 1, 1, 0, 0, 1, [])), (46, (.goto 4, 3, 50, 0, 0, [])), (49, (.iconst 0, 1, 0, 0, 0, [])), (50, (.istore 7, 2, 7, 0, 0, [])), (52, (.iload 7, 2, 7, 0, 0, [])), (54, (.ifCond .eq 44, 3, 98, 0, 0, [])), (57, (.iload_n 2, 1, 2, 0, 0, [])), (58, (.ifCond .le 44, 3, 102, 0, 0, [])), (61, (.iload_n 3, 1, 3, 0, 0, [])), (62, (.iload 6, 2, 6, 0, 0, [])), (64, (.iconst 1, 1, 0, 0, 1, [])), (65, (.isub, 1, 0, 0, 0, [])), (66, (.invokestatic 171, 3, 99, 2, 0, [859, 860, 60, 861])), (69, (.ifCond .eq 33, 3, 102, 0, 0, [])), (72, (.aload_n 0, 1, 0, 0, 0, [])), (73, (.aload_n 0, 1, 0, 0, 0, [])), (74, (.getfield 19, 3, 7, 7, 0, [675])), (77, (.iload 6, 2, 6, 0, 0, [])), (79, (.iconst 1, 1, 0, 0, 1, [])), (80, (.isub, 1, 0, 0, 0, [])), (81, (.iaload, 1, 0, 0, 0, [])), (82, (.iload_n 3, 1, 3, 0, 0, [])), (83, (.iconst 1, 1, 0, 0, 1, [])), (84, (.iload 6, 2, 6, 0, 0, [])), (86, (.iconst 1, 1, 0, 0, 1, [])), (87, (.isub, 1, 0, 0, 0, [])), (88, (.ishl, 1, 0, 0, 0, [])), (89, (.iconst (-1), 1, 0, 0, (-1), [])), (90, (.ixor, 1, 0, 0, 0, [])), (91, (.iand, 1, 0, 0, 0, [])), (92, (.invokevirtual 185, 3, 123, 2, 0, [892, 894, 38, 60, 895])), (95, (.ifCond .ne 7, 3, 102, 0, 0, [])), (98, (.iconst 1, 1, 0, 0, 1, [])), (99, (.goto 4, 3, 103, 0, 0, [])), (102, (.iconst 0, 1, 0, 0, 0, [])), (103, (.istore 8, 2, 8, 0, 0, [])), (105, (.iload 8, 2, 8, 0, 0, [])), (107, (.ifCond .eq 123, 3, 230, 0, 0, [])), (110, (.iload 7, 2, 7, 0, 0, [])), (112, (.ifCond .eq 24, 3, 136, 0, 0, [])), (115, (.iload 6, 2, 6, 0, 0, [])), (117, (.iload_n 3, 1, 3, 0, 0, [])), (118, (.iconst 1, 1, 0, 0, 1, [])), (119, (.iload 6, 2, 6, 0, 0, [])), (121, (.iconst 1, 1, 0, 0, 1, [])), (122, (.isub, 1, 0, 0, 0, [])), (123, (.ishl, 1, 0, 0, 0, [])), (124, (.iconst (-1), 1, 0, 0, (-1), [])), (125, (.ixor, 1, 0, 0, 0, [])), (126, (.iand, 1, 0, 0, 0, [])), (127, (.iload_n 2, 1, 2, 0, 0, [])), (128, (.iconst 1, 1, 0, 0, 1, [])), (129, (.isub, 1, 0, 0, 0, [])), (130, (.invokestatic 227, 3, 133, 3, 0, [939, 940, 60, 941])), (133, (.goto 13, 3, 146, 0, 0, [])), (136, (.iload 6, 2, 6, 0, 0, [])), (138, (.iload_n 3, 1, 3, 0, 0, [])), (139, (.aload_n 0, 1, 0, 0, 0, [])), (140, (.getfield 150, 3, 7, 10, 0, [678])), (143, (.invokestatic 227, 3, 133, 3, 0, [939, 940, 60, 941])), (146, (.istore 9, 2, 9, 0, 0, [])), (148, (.aload_n 0, 1, 0, 0, 0, [])), (149, (.getfield 43, 3, 7, 31, 0, [699])), (152, (.iload_n 1, 1, 1, 0, 0, [])), (153, (.iaload, 1, 0, 0, 0, [])), (154, (.aload_n 0, 1, 0, 0, 0, [])), (155, (.aload_n 0, 1, 0, 0, 0, [])), (156, (.iload 4, 2, 4, 0, 0, [])), (158, (.invokevirtual 231, 3, 132, 1, 0, [946, 948, 46, 60, 949])), (161, (.aload_n 0, 1, 0, 0, 0, [])), (162, (.iload 6, 2, 6, 0, 0, [])), (164, (.invokevirtual 231, 3, 132, 1, 0, [946, 948, 46, 60, 949])), (167, (.invokevirtual 174, 3, 118, 2, 0, [866, 868, 36, 60, 869])), (170, (.iadd, 1, 0, 0, 0, [])), (171, (.iconst 1, 1, 0, 0, 1, [])), (172, (.iadd, 1, 0, 0, 0, [])), (173, (.istore 10, 2, 10, 0, 0, [])), (175, (.iload 5, 2, 5, 0, 0, [])), (177, (.ifCond .ne 15, 3, 192, 0, 0, [])), (180, (.iload 10, 2, 10, 0, 0, [])), (182, (.aload_n 0, 1, 0, 0, 0, [])), (183, (.getfield 43, 3, 7, 31, 0, [699])), (186, (.iload 9, 2, 9, 0, 0, [])), (188, (.iaload, 1, 0, 0, 0, [])), (189, (.if_icmp .ge 7, 3, 196, 0, 0, [])), (192, (.iconst 1, 1, 0, 0, 1, [])), (193, (.goto 4, 3, 197, 0, 0, [])), (196, (.iconst 0, 1, 0, 0, 0, [])), (197, (.istore 5, 2, 5, 0, 0, [])), (199, (.aload_n 0, 1, 0, 0, 0, [])), (200, (.getfield 43, 3, 7, 31, 0, [699])), (203, (.iload 9, 2, 9, 0, 0, [])), (205, (.iload 10, 2, 10, 0, 0, [])), (207, (.aload_n 0, 1, 0, 0, 0, [])), (208, (.getfield 43, 3, 7, 31, 0, [699])), (211, (.iload 9, 2, 9, 0, 0, [])), (213, (.iaload, 1, 0, 0, 0, [])), (214, (.if_icmp .ge 8, 3, 222, 0, 0, [])), (217, (.iload 10, 2, 10, 0, 0, [])), (219, (.goto 10, 3, 229, 0, 0, [])), (222, (.aload_n 0, 1, 0, 0, 0, [])), (223, (.getfield 43, 3, 7, 31, 0, [699])), (226, (.iload 9, 2, 9, 0, 0, [])), (228, (.iaload, 1, 0, 0, 0, [])), (229, (.iastore, 1, 0, 0, 0, [])), (230, (.iinc 6 1, 3, 6, 0, 1, [])), (233, (.goto (-207), 3, 26, 0, 0, [])), (236, (.iload 5, 2, 5, 0, 0, [])), (238, (.ireturn, 1, 0, 0, 0, []))]
def fj_i135 : List (Nat × fj_AI) := [(0, (.iconst 0, 1, 0, 0, 0, [])), (1, (.istore_n 2, 1, 2, 0, 0, [])), (2, (.iload_n 2, 1, 2, 0, 0, [])), (3, (.sipush 4032, 3, 0, 0, 4032, [])), (6, (.if_icmp .ge 17, 3, 23, 0, 0, [])), (9, (.aload_n 0, 1, 0, 0, 0, [])), (10, (.getfield 43, 3, 7, 31, 0, [699])), (13, (.iload_n 2, 1, 2, 0, 0, [])), (14, (.ldc 234, 2, 0, 0, 99999, [938])), (16, (.iastore, 1, 0, 0, 0, [])), (17, (.iinc 2 1, 3, 2, 0, 1, [])), (20, (.goto (-18), 3, 2, 0, 0, [])), (23, (.aload_n 0, 1, 0, 0, 0, [])), (24, (.getfield 43, 3, 7, 31, 0, [699])), (27, (.iconst 0, 1, 0, 0, 0, [])), (28, (.iload_n 1, 1, 1, 0, 0, [])), (29, (.iconst 0, 1, 0, 0, 0, [])), (30, (.invokestatic 227, 3, 133, 3, 0, [939, 940, 60, 941])), (33, (.iconst 0, 1, 0, 0, 0, [])), (34, (.iastore, 1, 0, 0, 0, [])), (35, (.iconst 1, 1, 0, 0, 1, [])), (36, (.istore_n 2, 1, 2, 0, 0, [])), (37, (.iload_n 2, 1, 2, 0, 0, [])), (38, (.ifCond .eq 44, 3, 82, 0, 0, [])), (41, (.iconst 0, 1, 0, 0, 0, [])), (42, (.istore_n 2, 1, 2, 0, 0, [])), (43, (.iconst 0, 1, 0, 0, 0, [])), (44, (.istore_n 3, 1, 3, 0, 0, [])), (45, (.iload_n 3, 1, 3, 0, 0, [])), (46, (.sipush 4032, 3, 0, 0, 4032, [])), (49, (.if_icmp .ge 30, 3, 79, 0, 0, [])), (52, (.aload_n 0, 1, 0, 0, 0, [])), (53, (.getfield 43, 3, 7, 31, 0, [699])), (56, (.iload_n 3, 1, 3, 0, 0, [])), (57, (.iaload, 1, 0, 0, 0, [])), (58, (.ldc 234, 2, 0, 0, 99999, [938])), (60, (.if_icmp .ge 13, 3, 73, 0, 0, [])), (63, (.aload_n 0, 1, 0, 0, 0, [])), (64, (.iload_n 3, 1, 3, 0, 0, [])), (65, (.invokevirtual 235, 3, 134, 1, 0, [942, 944, 45, 60, 945])), (68, (.ifCond .eq 5, 3, 73, 0, 0, [])), (71, (.iconst 1, 1, 0, 0, 1, [])), (72, (.istore_n 2, 1, 2, 0, 0, [])), (73, (.iinc 3 1, 3, 3, 0, 1, [])), (76, (.goto (-31), 3, 45, 0, 0, [])), (79, (.goto (-42), 3, 37, 0, 0, [])), (82, (.return_, 1, 0, 0, 0, []))]
def fj_i136 : List (Nat × fj_AI) := [(0, (.ldc 234, 2, 0, 0, 99999, [938])), (2, (.istore_n 2, 1, 2, 0, 0, [])), (3, (.iconst 0, 1, 0, 0, 0, [])), (4, (.istore_n 3, 1, 3, 0, 0, [])), (5, (.iload_n 3, 1, 3, 0, 0, [])), (6, (.bipush 9, 2, 0, 0, 9, [])), (8, (.if_icmp .ge 52, 3, 60, 0, 0, [])), (11, (.iconst 0, 1, 0, 0, 0, [])), (12, (.istore 4, 2, 4, 0, 0, [])), (14, (.iload 4, 2, 4, 0, 0, [])), (16, (.bipush 7, 2, 0, 0, 7, [])), (18, (.if_icmp .ge 36, 3, 54, 0, 0, [])), (21, (.aload_n 0, 1, 0, 0, 0, [])), (22, (.getfield 43, 3, 7, 31, 0, [699])), (25, (.iload_n 3, 1, 3, 0, 0, [])), (26, (.iload_n 1, 1, 1, 0, 0, [])), (27, (.iload 4, 2, 4, 0, 0, [])), (29, (.invokestatic 227, 3, 133, 3, 0, [939, 940, 60, 941])), (32, (.iaload, 1, 0, 0, 0, [])), (33, (.istore 5, 2, 5, 0, 0, [])), (35, (.iload 5, 2, 5, 0, 0, [])), (37, (.iload_n 2, 1, 2, 0, 0, [])), (38, (.if_icmp .ge 8, 3, 46, 0, 0, [])), (41, (.iload 5, 2, 5, 0, 0, [])), (43, (.goto 4, 3, 47, 0, 0, [])), (46, (.iload_n 2, 1, 2, 0, 0, [])), (47, (.istore_n 2, 1, 2, 0, 0, [])), (48, (.iinc 4 1, 3, 4, 0, 1, [])), (51, (.goto (-37), 3, 14, 0, 0, [])), (54, (.iinc 3 1, 3, 3, 0, 1, [])), (57, (.goto (-52), 3, 5, 0, 0, [])), (60, (.iload_n 2, 1, 2, 0, 0, [])), (61, (.ireturn, 1, 0, 0, 0, []))]
def fj_i137 : List (Nat × fj_AI) := [(0, (.aload_n 0, 1, 0, 0, 0, [])), (1, (.iload_n 1, 1, 1, 0, 0, [])), (2, (.invokevirtual 238, 3, 135, 1, 0, [934, 936, 44, 60, 937])), (5, (.aload_n 0, 1, 0, 0, 0, [])), (6, (.iconst 0, 1, 0, 0, 0, [])), (7, (.invokevirtual 242, 3, 136, 1, 0, [950, 952, 47, 60, 953])), (10, (.istore_n 2, 1, 2, 0, 0, [])), (11, (.iload_n 2, 1, 2, 0, 0, [])), (12, (.ldc 234, 2, 0, 0, 99999, [938])), (14, (.if_icmp .ge 7, 3, 21, 0, 0, [])), (17, (.iload_n 2, 1, 2, 0, 0, [])), (18, (.goto 5, 3, 23, 0, 0, [])), (21, (.bipush (-9), 2, 0, 0, (-9), [])), (23, (.ireturn, 1, 0, 0, 0, []))]
def fj_i138 : List (Nat × fj_AI) := [(0, (.aload_n 0, 1, 0, 0, 0, [])), (1, (.getfield 78, 3, 7, 1, 0, [669])), (4, (.ifCond .ne 8, 3, 12, 0, 0, [])), (7, (.bipush (-3), 2, 0, 0, (-3), [])), (9, (.goto 11, 3, 20, 0, 0, [])), (12, (.aload_n 0, 1, 0, 0, 0, [])), (13, (.aload_n 0, 1, 0, 0, 0, [])), (14, (.invokevirtual 181, 3, 107, 0, 0, [888, 890, 37, 60, 891])), (17, (.invokevirtual 245, 3, 137, 1, 0, [930, 932, 43, 60, 933])), (20, (.ireturn, 1, 0, 0, 0, []))]
def fj_i139 : List (Nat × fj_AI) := [(0, (.aload_n 0, 1, 0, 0, 0, [])), (1, (.getfield 78, 3, 7, 1, 0, [669])), (4, (.ifCond .ne 6, 3, 10, 0, 0, [])), (7, (.bipush (-3), 2, 0, 0, (-3), [])), (9, (.ireturn, 1, 0, 0, 0, [])), (10, (.aload_n 0, 1, 0, 0, 0, [])), (11, (.aload_n 0, 1, 0, 0, 0, [])), (12, (.invokevirtual 181, 3, 107, 0, 0, [888, 890, 37, 60, 891])), (15, (.invokevirtual 238, 3, 135, 1, 0, [934, 936, 44, 60, 937])), (18, (.iconst 0, 1, 0, 0, 0, [])), (19, (.istore_n 1, 1, 1, 0, 0, [])), (20, (.iconst 1, 1, 0, 0, 1, [])), (21, (.istore_n 2, 1, 2, 0, 0, [])), (22, (.iload_n 2, 1, 2, 0, 0, [])), (23, (.aload_n 0, 1, 0, 0, 0, [])), (24, (.invokevirtual 181, 3, 107, 0, 0, [888, 890, 37, 60, 891])), (27, (.if_icmp .gt 55, 3, 82, 0, 0, [])), (30, (.iload_n 2, 1, 2, 0, 0, [])), (31, (.invokestatic 248, 3, 100, 1, 0, [958, 959, 60, 960])), (34, (.iload_n 1, 1, 1, 0, 0, [])), (35, (.invokestatic 248, 3, 100, 1, 0, [958, 959, 60, 960])), (38, (.if_icmp .le 26, 3, 64, 0, 0, [])), (41, (.aload_n 0, 1, 0, 0, 0, [])), (42, (.aload_n 0, 1, 0, 0, 0, [])), (43, (.invokevirtual 181, 3, 107, 0, 0, [888, 890, 37, 60, 891])), (46, (.iload_n 2, 1, 2, 0, 0, [])), (47, (.iconst (-1), 1, 0, 0, (-1), [])), (48, (.ixor, 1, 0, 0, 0, [])), (49, (.iand, 1, 0, 0, 0, [])), (50, (.invokevirtual 242, 3, 136, 1, 0, [950, 952, 47, 60, 953])), (53, (.aload_n 0, 1, 0, 0, 0, [])), (54, (.getfield 153, 3, 7, 11, 0, [679])), (57, (.if_icmp .gt 7, 3, 64, 0, 0, [])), (60, (.iconst 1, 1, 0, 0, 1, [])), (61, (.goto 4, 3, 65, 0, 0, [])), (64, (.iconst 0, 1, 0, 0, 0, [])), (65, (.istore_n 3, 1, 3, 0, 0, [])), (66, (.iload_n 3, 1, 3, 0, 0, [])), (67, (.ifCond .eq 7, 3, 74, 0, 0, [])), (70, (.iload_n 2, 1, 2, 0, 0, [])), (71, (.goto 4, 3, 75, 0, 0, [])), (74, (.iload_n 1, 1, 1, 0, 0, [])), (75, (.istore_n 1, 1, 1, 0, 0, [])), (76, (.iinc 2 1, 3, 2, 0, 1, [])), (79, (.goto (-57), 3, 22, 0, 0, [])), (82, (.iload_n 1, 1, 1, 0, 0, [])), (83, (.ireturn, 1, 0, 0, 0, []))]
def fj_i140 : List (Nat × fj_AI) := [(0, (.aload_n 0, 1, 0, 0, 0, [])), (1, (.iload_n 1, 1, 1, 0, 0, [])), (2, (.invokevirtual 165, 3, 106, 1, 0, [851, 853, 34, 60, 854])), (5, (.ifCond .eq 7, 3, 12, 0, 0, [])), (8, (.iconst (-1), 1, 0, 0, (-1), [])), (9, (.goto 17, 3, 26, 0, 0, [])), (12, (.aload_n 0, 1, 0, 0, 0, [])), (13, (.aload_n 0, 1, 0, 0, 0, [])), (14, (.invokevirtual 181, 3, 107, 0, 0, [888, 890, 37, 60, 891])), (17, (.iconst 1, 1, 0, 0, 1, [])), (18, (.iload_n 1, 1, 1, 0, 0, [])), (19, (.ishl, 1, 0, 0, 0, [])), (20, (.iconst (-1), 1, 0, 0, (-1), [])), (21, (.ixor, 1, 0, 0, 0, [])), (22, (.iand, 1, 0, 0, 0, [])), (23, (.invokevirtual 245, 3, 137, 1, 0, [930, 932, 43, 60, 933])), (26, (.ireturn, 1, 0, 0, 0, []))]
def fj_i141 : List (Nat × fj_AI) := [(0, (.aload_n 0, 1, 0, 0, 0, [])), (1, (.iload_n 1, 1, 1, 0, 0, [])), (2, (.invokevirtual 165, 3, 106, 1, 0, [851, 853, 34, 60, 854])), (5, (.ifCond .ne 11, 3, 16, 0, 0, [])), (8, (.aload_n 0, 1, 0, 0, 0, [])), (9, (.iload_n 2, 1, 2, 0, 0, [])), (10, (.invokevirtual 162, 3, 105, 1, 0, [843, 845, 33, 60, 846])), (13, (.ifCond .eq 5, 3, 18, 0, 0, [])), (16, (.iconst (-1), 1, 0, 0, (-1), [])), (17, (.ireturn, 1, 0, 0, 0, [])), (18, (.aload_n 0, 1, 0, 0, 0, [])), (19, (.getfield 159, 3, 7, 32, 0, [700])), (22, (.bipush 8, 2, 0, 0, 8, [])), (24, (.if_icmp .ne 6, 3, 30, 0, 0, [])), (27, (.bipush (-4), 2, 0, 0, (-4), [])), (29, (.ireturn, 1, 0, 0, 0, [])), (30, (.aload_n 0, 1, 0, 0, 0, [])), (31, (.getfield 46, 3, 7, 33, 0, [701])), (34, (.aload_n 0, 1, 0, 0, 0, [])), (35, (.getfield 159, 3, 7, 32, 0, [700])), (38, (.iload_n 1, 1, 1, 0, 0, [])), (39, (.iastore, 1, 0, 0, 0, [])), (40, (.aload_n 0, 1, 0, 0, 0, [])), (41, (.getfield 49, 3, 7, 34, 0, [702])), (44, (.aload_n 0, 1, 0, 0, 0, [])), (45, (.getfield 159, 3, 7, 32, 0, [700])), (48, (.iload_n 2, 1, 2, 0, 0, [])), (49, (.iastore, 1, 0, 0, 0, [])), (50, (.aload_n 0, 1, 0, 0, 0, [])), (51, (.getfield 52, 3, 7, 35, 0, [703])), (54, (.aload_n 0, 1, 0, 0, 0, [])), (55, (.getfield 159, 3, 7, 32, 0, [700])), (58, (.iload_n 3, 1, 3, 0, 0, [])), (59, (.bastore, 1, 0, 0, 0, [])), (60, (.aload_n 0, 1, 0, 0, 0, [])), (61, (.dup, 1, 0, 0, 0, [])), (62, (.getfield 159, 3, 7, 32, 0, [700])), (65, (.iconst 1, 1, 0, 0, 1, [])), (66, (.iadd, 1, 0, 0, 0, [])), (67, (.putfield 159, 3, 7, 32, 0, [700])), (70, (.aload_n 0, 1, 0, 0, 0, [])), (71, (.getfield 159, 3, 7, 32, 0, [700])), (74, (.iconst 1, 1, 0, 0, 1, [])), (75, (.isub, 1, 0, 0, 0, [])), (76, (.ireturn, 1, 0, 0, 0, []))]
def fj_i142 : List (Nat × fj_AI) := [(0, (.iload_n 1, 1, 1, 0, 0, [])), (1, (.i2l, 1, 0, 0, 0, [])), (2, (.lconst 0, 1, 0, 0, 0, [])), (3, (.aload_n 0, 1, 0, 0, 0, [])), (4, (.getfield 159, 3, 7, 32, 0, [700])), (7, (.i2l, 1, 0, 0, 0, [])), (8, (.invokestatic 84, 3, 97, 3, 0, [800, 801, 60, 802])), (11, (.ifCond .ne 6, 3, 17, 0, 0, [])), (14, (.bipush (-2), 2, 0, 0, (-2), [])), (16, (.ireturn, 1, 0, 0, 0, [])), (17, (.aload_n 0, 1, 0, 0, 0, [])), (18, (.dup, 1, 0, 0, 0, [])), (19, (.getfield 159, 3, 7, 32, 0, [700])), (22, (.iload_n 1, 1, 1, 0, 0, [])), (23, (.isub, 1, 0, 0, 0, [])), (24, (.putfield 159, 3, 7, 32, 0, [700])), (27, (.aload_n 0, 1, 0, 0, 0, [])), (28, (.getfield 159, 3, 7, 32, 0, [700])), (31, (.ireturn, 1, 0, 0, 0, []))]
def fj_i143 : List (Nat × fj_AI) := [(0, (.iconst 1, 1, 0, 0, 1, [])), (1, (.istore_n 1, 1, 1, 0, 0, [])), (2, (.iconst 0, 1, 0, 0, 0, [])), (3, (.istore_n 2, 1, 2, 0, 0, [])), (4, (.iload_n 2, 1, 2, 0, 0, [])), (5, (.aload_n 0, 1, 0, 0, 0, [])), (6, (.getfield 159, 3, 7, 32, 0, [700])), (9, (.if_icmp .ge 68, 3, 77, 0, 0, [])), (12, (.aload_n 0, 1, 0, 0, 0, [])), (13, (.getfield 46, 3, 7, 33, 0, [701])), (16, (.iload_n 2, 1, 2, 0, 0, [])), (17, (.iaload, 1, 0, 0, 0, [])), (18, (.istore_n 3, 1, 3, 0, 0, [])), (19, (.aload_n 0, 1, 0, 0, 0, [])), (20, (.aload_n 0, 1, 0, 0, 0, [])), (21, (.getfield 19, 3, 7, 7, 0, [675])), (24, (.iload_n 3, 1, 3, 0, 0, [])), (25, (.iaload, 1, 0, 0, 0, [])), (26, (.aload_n 0, 1, 0, 0, 0, [])), (27, (.getfield 49, 3, 7, 34, 0, [702])), (30, (.iload_n 2, 1, 2, 0, 0, [])), (31, (.iaload, 1, 0, 0, 0, [])), (32, (.invokevirtual 174, 3, 118, 2, 0, [866, 868, 36, 60, 869])), (35, (.aload_n 0, 1, 0, 0, 0, [])), (36, (.iload_n 3, 1, 3, 0, 0, [])), (37, (.invokevirtual 168, 3, 116, 1, 0, [855, 857, 35, 60, 858])), (40, (.if_icmp .gt 7, 3, 47, 0, 0, [])), (43, (.iconst 1, 1, 0, 0, 1, [])), (44, (.goto 4, 3, 48, 0, 0, [])), (47, (.iconst 0, 1, 0, 0, 0, [])), (48, (.istore 4, 2, 4, 0, 0, [])), (50, (.iload_n 1, 1, 1, 0, 0, [])), (51, (.ifCond .eq 18, 3, 69, 0, 0, [])), (54, (.iload 4, 2, 4, 0, 0, [])), (56, (.aload_n 0, 1, 0, 0, 0, [])), (57, (.getfield 52, 3, 7, 35, 0, [703])), (60, (.iload_n 2, 1, 2, 0, 0, [])), (61, (.baload, 1, 0, 0, 0, [])), (62, (.if_icmp .ne 7, 3, 69, 0, 0, [])), (65, (.iconst 1, 1, 0, 0, 1, [])), (66, (.goto 4, 3, 70, 0, 0, [])), (69, (.iconst 0, 1, 0, 0, 0, [])), (70, (.istore_n 1, 1, 1, 0, 0, [])), (71, (.iinc 2 1, 3, 2, 0, 1, [])), (74, (.goto (-70), 3, 4, 0, 0, [])), (77, (.iload_n 1, 1, 1, 0, 0, [])), (78, (.ireturn, 1, 0, 0, 0, []))]
def fj_i144 : List (Nat × fj_AI) := [(0, (.aload_n 0, 1, 0, 0, 0, [])), (1, (.getfield 78, 3, 7, 1, 0, [669])), (4, (.ifCond .ne 8, 3, 12, 0, 0, [])), (7, (.bipush (-3), 2, 0, 0, (-3), [])), (9, (.goto 15, 3, 24, 0, 0, [])), (12, (.aload_n 0, 1, 0, 0, 0, [])), (13, (.invokevirtual 251, 3, 143, 0, 0, [977, 979, 48, 60, 980])), (16, (.ifCond .eq 7, 3, 23, 0, 0, [])), (19, (.iconst 1, 1, 0, 0, 1, [])), (20, (.goto 4, 3, 24, 0, 0, [])), (23, (.iconst 0, 1, 0, 0, 0, [])), (24, (.ireturn, 1, 0, 0, 0, []))]
def fj_i145 : List (Nat × fj_AI) := [(0, (.aload_n 0, 1, 0, 0, 0, [])), (1, (.iload_n 1, 1, 1, 0, 0, [])), (2, (.invokevirtual 165, 3, 106, 1, 0, [851, 853, 34, 60, 854])), (5, (.ifCond .eq 5, 3, 10, 0, 0, [])), (8, (.iconst (-1), 1, 0, 0, (-1), [])), (9, (.ireturn, 1, 0, 0, 0, [])), (10, (.aload_n 0, 1, 0, 0, 0, [])), (11, (.getfield 16, 3, 7, 6, 0, [674])), (14, (.iload_n 1, 1, 1, 0, 0, [])), (15, (.iaload, 1, 0, 0, 0, [])), (16, (.istore_n 2, 1, 2, 0, 0, [])), (17, (.iconst 0, 1, 0, 0, 0, [])), (18, (.istore_n 3, 1, 3, 0, 0, [])), (19, (.iconst 0, 1, 0, 0, 0, [])), (20, (.istore 4, 2, 4, 0, 0, [])), (22, (.iload 4, 2, 4, 0, 0, [])), (24, (.bipush 6, 2, 0, 0, 6, [])), (26, (.if_icmp .ge 35, 3, 61, 0, 0, [])), (29, (.aload_n 0, 1, 0, 0, 0, [])), (30, (.getfield 16, 3, 7, 6, 0, [674])), (33, (.iload_n 1, 1, 1, 0, 0, [])), (34, (.iload 4, 2, 4, 0, 0, [])), (36, (.iastore, 1, 0, 0, 0, [])), (37, (.iload_n 3, 1, 3, 0, 0, [])), (38, (.aload_n 0, 1, 0, 0, 0, [])), (39, (.invokevirtual 251, 3, 143, 0, 0, [977, 979, 48, 60, 980])), (42, (.ifCond .eq 10, 3, 52, 0, 0, [])), (45, (.iconst 1, 1, 0, 0, 1, [])), (46, (.iload 4, 2, 4, 0, 0, [])), (48, (.ishl, 1, 0, 0, 0, [])), (49, (.goto 4, 3, 53, 0, 0, [])), (52, (.iconst 0, 1, 0, 0, 0, [])), (53, (.ior, 1, 0, 0, 0, [])), (54, (.istore_n 3, 1, 3, 0, 0, [])), (55, (.iinc 4 1, 3, 4, 0, 1, [])), (58, (.goto (-36), 3, 22, 0, 0, [])), (61, (.aload_n 0, 1, 0, 0, 0, [])), (62, (.getfield 16, 3, 7, 6, 0, [674])), (65, (.iload_n 1, 1, 1, 0, 0, [])), (66, (.iload_n 2, 1, 2, 0, 0, [])), (67, (.iastore, 1, 0, 0, 0, [])), (68, (.iload_n 3, 1, 3, 0, 0, [])), (69, (.ireturn, 1, 0, 0, 0, []))]
def fj_i146 : List (Nat × fj_AI) := [(0, (.aload_n 0, 1, 0, 0, 0, [])), (1, (.iload_n 1, 1, 1, 0, 0, [])), (2, (.invokevirtual 165, 3, 106, 1, 0, [851, 853, 34, 60, 854])), (5, (.ifCond .eq 5, 3, 10, 0, 0, [])), (8, (.iconst (-1), 1, 0, 0, (-1), [])), (9, (.ireturn, 1, 0, 0, 0, [])), (10, (.aload_n 0, 1, 0, 0, 0, [])), (11, (.getfield 13, 3, 7, 5, 0, [673])), (14, (.iload_n 1, 1, 1, 0, 0, [])), (15, (.iaload, 1, 0, 0, 0, [])), (16, (.istore_n 2, 1, 2, 0, 0, [])), (17, (.iconst 0, 1, 0, 0, 0, [])), (18, (.istore_n 3, 1, 3, 0, 0, [])), (19, (.iconst 0, 1, 0, 0, 0, [])), (20, (.istore 4, 2, 4, 0, 0, [])), (22, (.iload 4, 2, 4, 0, 0, [])), (24, (.iconst 3, 1, 0, 0, 3, [])), (25, (.if_icmp .ge 35, 3, 60, 0, 0, [])), (28, (.aload_n 0, 1, 0, 0, 0, [])), (29, (.getfield 13, 3, 7, 5, 0, [673])), (32, (.iload_n 1, 1, 1, 0, 0, [])), (33, (.iload 4, 2, 4, 0, 0, [])), (35, (.iastore, 1, 0, 0, 0, [])), (36, (.iload_n 3, 1, 3, 0, 0, [])), (37, (.aload_n 0, 1, 0, 0, 0, [])), (38, (.invokevirtual 251, 3, 143, 0, 0, [977, 979, 48, 60, 980])), (41, (.ifCond .eq 10, 3, 51, 0, 0, [])), (44, (.iconst 1, 1, 0, 0, 1, [])), (45, (.iload 4, 2, 4, 0, 0, [])), (47, (.ishl, 1, 0, 0, 0, [])), (48, (.goto 4, 3, 52, 0, 0, [])), (51, (.iconst 0, 1, 0, 0, 0, [])), (52, (.ior, 1, 0, 0, 0, [])), (53, (.istore_n 3, 1, 3, 0, 0, [])), (54, (.iinc 4 1, 3, 4, 0, 1, [])), (57, (.goto (-35), 3, 22, 0, 0, [])), (60, (.aload_n 0, 1, 0, 0, 0, [])), (61, (.getfield 13, 3, 7, 5, 0, [673])), (64, (.iload_n 1, 1, 1, 0, 0, [])), (65, (.iload_n 2, 1, 2, 0, 0, [])), (66, (.iastore, 1, 0, 0, 0, [])), (67, (.iload_n 3, 1, 3, 0, 0, [])), (68, (.ireturn, 1, 0, 0, 0, []))]
def fj_i147 : List (Nat × fj_AI) := [(0, (.aload_n 0, 1, 0, 0, 0, [])), (1, (.iload_n 1, 1, 1, 0, 0, [])), (2, (.iload_n 2, 1, 2, 0, 0, [])), (3, (.iload_n 3, 1, 3, 0, 0, [])), (4, (.iload 4, 2, 4, 0, 0, [])), (6, (.iload 5, 2, 5, 0, 0, [])), (8, (.i2l, 1, 0, 0, 0, [])), (9, (.lconst 0, 1, 0, 0, 0, [])), (10, (.lconst 1, 1, 0, 0, 1, [])), (11, (.invokestatic 84, 3, 97, 3, 0, [800, 801, 60, 802])), (14, (.invokevirtual 213, 3, 127, 5, 0, [901, 903, 39, 60, 904])), (17, (.ifCond .ge 7, 3, 24, 0, 0, [])), (20, (.invokestatic 74, 3, 98, 0, 0, [993, 994, 60, 995])), (23, (.lreturn, 1, 0, 0, 0, [])), (24, (.aload_n 0, 1, 0, 0, 0, [])), (25, (.bipush 60, 2, 0, 0, 60, [])), (27, (.iload_n 1, 1, 1, 0, 0, [])), (28, (.imul, 1, 0, 0, 0, [])), (29, (.iload_n 3, 1, 3, 0, 0, [])), (30, (.iadd, 1, 0, 0, 0, [])), (31, (.iload 4, 2, 4, 0, 0, [])), (33, (.invokevirtual 217, 3, 126, 2, 0, [910, 912, 41, 60, 913])), (36, (.aload_n 0, 1, 0, 0, 0, [])), (37, (.getfield 200, 3, 7, 27, 0, [695])), (40, (.ifCond .lt 7, 3, 47, 0, 0, [])), (43, (.invokestatic 74, 3, 98, 0, 0, [993, 994, 60, 995])), (46, (.lreturn, 1, 0, 0, 0, [])), (47, (.aload_n 0, 1, 0, 0, 0, [])), (48, (.getfield 156, 3, 7, 12, 0, [680])), (51, (.istore 6, 2, 6, 0, 0, [])), (53, (.lconst 0, 1, 0, 0, 0, [])), (54, (.lstore 7, 2, 7, 0, 0, [])), (56, (.iconst 0, 1, 0, 0, 0, [])), (57, (.istore 9, 2, 9, 0, 0, [])), (59, (.iload 9, 2, 9, 0, 0, [])), (61, (.aload_n 0, 1, 0, 0, 0, [])), (62, (.invokevirtual 181, 3, 107, 0, 0, [888, 890, 37, 60, 891])), (65, (.if_icmp .gt 44, 3, 109, 0, 0, [])), (68, (.aload_n 0, 1, 0, 0, 0, [])), (69, (.iload 9, 2, 9, 0, 0, [])), (71, (.putfield 156, 3, 7, 12, 0, [680])), (74, (.aload_n 0, 1, 0, 0, 0, [])), (75, (.bipush 60, 2, 0, 0, 60, [])), (77, (.iload_n 1, 1, 1, 0, 0, [])), (78, (.imul, 1, 0, 0, 0, [])), (79, (.iload_n 3, 1, 3, 0, 0, [])), (80, (.iadd, 1, 0, 0, 0, [])), (81, (.iload 4, 2, 4, 0, 0, [])), (83, (.invokevirtual 217, 3, 126, 2, 0, [910, 912, 41, 60, 913])), (86, (.lload 7, 2, 7, 0, 0, [])), (88, (.aload_n 0, 1, 0, 0, 0, [])), (89, (.getfield 203, 3, 7, 28, 0, [696])), (92, (.ifCond .ge 7, 3, 99, 0, 0, [])), (95, (.lconst 1, 1, 0, 0, 1, [])), (96, (.goto 4, 3, 100, 0, 0, [])), (99, (.lconst 0, 1, 0, 0, 0, [])), (100, (.ladd, 1, 0, 0, 0, [])), (101, (.lstore 7, 2, 7, 0, 0, [])), (103, (.iinc 9 1, 3, 9, 0, 1, [])), (106, (.goto (-47), 3, 59, 0, 0, [])), (109, (.aload_n 0, 1, 0, 0, 0, [])), (110, (.iload 6, 2, 6, 0, 0, [])), (112, (.putfield 156, 3, 7, 12, 0, [680])), (115, (.lload 7, 2, 7, 0, 0, [])), (117, (.aload_n 0, 1, 0, 0, 0, [])), (118, (.invokevirtual 181, 3, 107, 0, 0, [888, 890, 37, 60, 891])), (121, (.i2l, 1, 0, 0, 0, [])), (122, (.lconst 1, 1, 0, 0, 1, [])), (123, (.ladd, 1, 0, 0, 0, [])), (124, (.iload 5, 2, 5, 0, 0, [])), (126, (.invokestatic 255, 3, 101, 3, 0, [997, 998, 60, 999])), (129, (.lreturn, 1, 0, 0, 0, []))]
def fj_i148 : List (Nat × fj_AI) := [(0, (.iload_n 0, 1, 0, 0, 0, [])), (1, (.i2l, 1, 0, 0, 0, [])), (2, (.lconst 0, 1, 0, 0, 0, [])), (3, (.ldc2_w 259, 3, 0, 0, 3, [799])), (6, (.invokestatic 84, 3, 97, 3, 0, [800, 801, 60, 802])), (9, (.ifCond .ne 7, 3, 16, 0, 0, [])), (12, (.iconst 1, 1, 0, 0, 1, [])), (13, (.goto 4, 3, 17, 0, 0, [])), (16, (.iconst 0, 1, 0, 0, 0, [])), (17, (.ireturn, 1, 0, 0, 0, []))]
def fj_i149 : List (Nat × fj_AI) := [(0, (.iload_n 1, 1, 1, 0, 0, [])), (1, (.invokestatic 130, 3, 148, 1, 0, [796, 797, 60, 798])), (4, (.ifCond .eq 9, 3, 13, 0, 0, [])), (7, (.aload_n 0, 1, 0, 0, 0, [])), (8, (.iconst (-1), 1, 0, 0, (-1), [])), (9, (.invokevirtual 134, 3, 102, 1, 0, [803, 805, 25, 60, 806])), (12, (.ireturn, 1, 0, 0, 0, [])), (13, (.iload_n 2, 1, 2, 0, 0, [])), (14, (.i2l, 1, 0, 0, 0, [])), (15, (.lconst 0, 1, 0, 0, 0, [])), (16, (.ldc2_w 137, 3, 0, 0, 2, [807])), (19, (.invokestatic 84, 3, 97, 3, 0, [800, 801, 60, 802])), (22, (.ifCond .eq 9, 3, 31, 0, 0, [])), (25, (.iload_n 3, 1, 3, 0, 0, [])), (26, (.bipush 60, 2, 0, 0, 60, [])), (28, (.if_icmp .le 10, 3, 38, 0, 0, [])), (31, (.aload_n 0, 1, 0, 0, 0, [])), (32, (.bipush (-2), 2, 0, 0, (-2), [])), (34, (.invokevirtual 134, 3, 102, 1, 0, [803, 805, 25, 60, 806])), (37, (.ireturn, 1, 0, 0, 0, [])), (38, (.iload_n 3, 1, 3, 0, 0, [])), (39, (.ifCond .ge 9, 3, 48, 0, 0, [])), (42, (.aload_n 0, 1, 0, 0, 0, [])), (43, (.iconst 4, 1, 0, 0, 4, [])), (44, (.invokevirtual 122, 3, 103, 1, 0, [812, 814, 27, 60, 815])), (47, (.ireturn, 1, 0, 0, 0, [])), (48, (.aload_n 0, 1, 0, 0, 0, [])), (49, (.getfield 56, 3, 7, 36, 0, [704])), (52, (.iload_n 1, 1, 1, 0, 0, [])), (53, (.iload_n 3, 1, 3, 0, 0, [])), (54, (.iastore, 1, 0, 0, 0, [])), (55, (.aload_n 0, 1, 0, 0, 0, [])), (56, (.getfield 59, 3, 7, 37, 0, [705])), (59, (.iload_n 1, 1, 1, 0, 0, [])), (60, (.iload_n 2, 1, 2, 0, 0, [])), (61, (.iastore, 1, 0, 0, 0, [])), (62, (.iconst 0, 1, 0, 0, 0, [])), (63, (.istore 4, 2, 4, 0, 0, [])), (65, (.iload 4, 2, 4, 0, 0, [])), (67, (.iload_n 3, 1, 3, 0, 0, [])), (68, (.if_icmp .ge 22, 3, 90, 0, 0, [])), (71, (.aload_n 0, 1, 0, 0, 0, [])), (72, (.getfield 62, 3, 7, 38, 0, [706])), (75, (.bipush 60, 2, 0, 0, 60, [])), (77, (.iload_n 1, 1, 1, 0, 0, [])), (78, (.imul, 1, 0, 0, 0, [])), (79, (.iload 4, 2, 4, 0, 0, [])), (81, (.iadd, 1, 0, 0, 0, [])), (82, (.iconst 0, 1, 0, 0, 0, [])), (83, (.iastore, 1, 0, 0, 0, [])), (84, (.iinc 4 1, 3, 4, 0, 1, [])), (87, (.goto (-22), 3, 65, 0, 0, [])), (90, (.aload_n 0, 1, 0, 0, 0, [])), (91, (.iconst 1, 1, 0, 0, 1, [])), (92, (.invokevirtual 134, 3, 102, 1, 0, [803, 805, 25, 60, 806])), (95, (.ireturn, 1, 0, 0, 0, []))]
def fj_i150 : List (Nat × fj_AI) := [(0, (.iload_n 1, 1, 1, 0, 0, [])), (1, (.invokestatic 130, 3, 148, 1, 0, [796, 797, 60, 798])), (4, (.ifCond .eq 5, 3, 9, 0, 0, [])), (7, (.iconst (-1), 1, 0, 0, (-1), [])), (8, (.ireturn, 1, 0, 0, 0, [])), (9, (.aload_n 0, 1, 0, 0, 0, [])), (10, (.getfield 56, 3, 7, 36, 0, [704])), (13, (.iload_n 1, 1, 1, 0, 0, [])), (14, (.iaload, 1, 0, 0, 0, [])), (15, (.ifCond .ge 7, 3, 22, 0, 0, [])), (18, (.iconst 0, 1, 0, 0, 0, [])), (19, (.goto 4, 3, 23, 0, 0, [])), (22, (.iconst 1, 1, 0, 0, 1, [])), (23, (.istore_n 2, 1, 2, 0, 0, [])), (24, (.aload_n 0, 1, 0, 0, 0, [])), (25, (.getfield 56, 3, 7, 36, 0, [704])), (28, (.iload_n 1, 1, 1, 0, 0, [])), (29, (.iconst (-1), 1, 0, 0, (-1), [])), (30, (.iastore, 1, 0, 0, 0, [])), (31, (.iload_n 2, 1, 2, 0, 0, [])), (32, (.ireturn, 1, 0, 0, 0, []))]
def fj_i151 : List (Nat × fj_AI) := [(0, (.aload_n 0, 1, 0, 0, 0, [])), (1, (.getfield 56, 3, 7, 36, 0, [704])), (4, (.iload_n 1, 1, 1, 0, 0, [])), (5, (.iaload, 1, 0, 0, 0, [])), (6, (.ifCond .ge 7, 3, 13, 0, 0, [])), (9, (.iconst 1, 1, 0, 0, 1, [])), (10, (.goto 26, 3, 36, 0, 0, [])), (13, (.iload_n 2, 1, 2, 0, 0, [])), (14, (.i2l, 1, 0, 0, 0, [])), (15, (.lconst 0, 1, 0, 0, 0, [])), (16, (.aload_n 0, 1, 0, 0, 0, [])), (17, (.getfield 56, 3, 7, 36, 0, [704])), (20, (.iload_n 1, 1, 1, 0, 0, [])), (21, (.iaload, 1, 0, 0, 0, [])), (22, (.i2l, 1, 0, 0, 0, [])), (23, (.lconst 1, 1, 0, 0, 1, [])), (24, (.lsub, 1, 0, 0, 0, [])), (25, (.invokestatic 84, 3, 97, 3, 0, [800, 801, 60, 802])), (28, (.ifCond .eq 7, 3, 35, 0, 0, [])), (31, (.iconst 0, 1, 0, 0, 0, [])), (32, (.goto 4, 3, 36, 0, 0, [])), (35, (.iconst 3, 1, 0, 0, 3, [])), (36, (.ireturn, 1, 0, 0, 0, []))]
def fj_i152 : List (Nat × fj_AI) := [(0, (.iload_n 1, 1, 1, 0, 0, [])), (1, (.invokestatic 130, 3, 148, 1, 0, [796, 797, 60, 798])), (4, (.ifCond .eq 9, 3, 13, 0, 0, [])), (7, (.aload_n 0, 1, 0, 0, 0, [])), (8, (.iconst (-1), 1, 0, 0, (-1), [])), (9, (.invokevirtual 134, 3, 102, 1, 0, [803, 805, 25, 60, 806])), (12, (.ireturn, 1, 0, 0, 0, [])), (13, (.aload_n 0, 1, 0, 0, 0, [])), (14, (.iload_n 1, 1, 1, 0, 0, [])), (15, (.iload_n 2, 1, 2, 0, 0, [])), (16, (.invokevirtual 261, 3, 151, 2, 0, [1012, 1014, 49, 60, 1015])), (19, (.ifCond .le 14, 3, 33, 0, 0, [])), (22, (.aload_n 0, 1, 0, 0, 0, [])), (23, (.aload_n 0, 1, 0, 0, 0, [])), (24, (.iload_n 1, 1, 1, 0, 0, [])), (25, (.iload_n 2, 1, 2, 0, 0, [])), (26, (.invokevirtual 261, 3, 151, 2, 0, [1012, 1014, 49, 60, 1015])), (29, (.invokevirtual 122, 3, 103, 1, 0, [812, 814, 27, 60, 815])), (32, (.ireturn, 1, 0, 0, 0, [])), (33, (.aload_n 0, 1, 0, 0, 0, [])), (34, (.getfield 62, 3, 7, 38, 0, [706])), (37, (.bipush 60, 2, 0, 0, 60, [])), (39, (.iload_n 1, 1, 1, 0, 0, [])), (40, (.imul, 1, 0, 0, 0, [])), (41, (.iload_n 2, 1, 2, 0, 0, [])), (42, (.iadd, 1, 0, 0, 0, [])), (43, (.aload_n 0, 1, 0, 0, 0, [])), (44, (.getfield 59, 3, 7, 37, 0, [705])), (47, (.iload_n 1, 1, 1, 0, 0, [])), (48, (.iaload, 1, 0, 0, 0, [])), (49, (.ifCond .ne 8, 3, 57, 0, 0, [])), (52, (.iload_n 3, 1, 3, 0, 0, [])), (53, (.i2b, 1, 0, 0, 0, [])), (54, (.goto 19, 3, 73, 0, 0, [])), (57, (.aload_n 0, 1, 0, 0, 0, [])), (58, (.getfield 59, 3, 7, 37, 0, [705])), (61, (.iload_n 1, 1, 1, 0, 0, [])), (62, (.iaload, 1, 0, 0, 0, [])), (63, (.iconst 1, 1, 0, 0, 1, [])), (64, (.if_icmp .ne 8, 3, 72, 0, 0, [])), (67, (.iload_n 3, 1, 3, 0, 0, [])), (68, (.i2s, 1, 0, 0, 0, [])), (69, (.goto 4, 3, 73, 0, 0, [])), (72, (.iload_n 3, 1, 3, 0, 0, [])), (73, (.iastore, 1, 0, 0, 0, [])), (74, (.aload_n 0, 1, 0, 0, 0, [])), (75, (.iconst 1, 1, 0, 0, 1, [])), (76, (.invokevirtual 134, 3, 102, 1, 0, [803, 805, 25, 60, 806])), (79, (.ireturn, 1, 0, 0, 0, []))]
def fj_i153 : List (Nat × fj_AI) := [(0, (.aload_n 0, 1, 0, 0, 0, [])), (1, (.iconst 0, 1, 0, 0, 0, [])), (2, (.putfield 70, 3, 7, 0, 0, [668])), (5, (.iload_n 1, 1, 1, 0, 0, [])), (6, (.invokestatic 130, 3, 148, 1, 0, [796, 797, 60, 798])), (9, (.ifCond .ne 15, 3, 24, 0, 0, [])), (12, (.iload_n 3, 1, 3, 0, 0, [])), (13, (.i2l, 1, 0, 0, 0, [])), (14, (.lconst 0, 1, 0, 0, 0, [])), (15, (.ldc2_w 137, 3, 0, 0, 2, [807])), (18, (.invokestatic 84, 3, 97, 3, 0, [800, 801, 60, 802])), (21, (.ifCond .ne 7, 3, 28, 0, 0, [])), (24, (.invokestatic 74, 3, 98, 0, 0, [993, 994, 60, 995])), (27, (.lreturn, 1, 0, 0, 0, [])), (28, (.aload_n 0, 1, 0, 0, 0, [])), (29, (.getfield 56, 3, 7, 36, 0, [704])), (32, (.iload_n 1, 1, 1, 0, 0, [])), (33, (.iaload, 1, 0, 0, 0, [])), (34, (.ifCond .lt 19, 3, 53, 0, 0, [])), (37, (.aload_n 0, 1, 0, 0, 0, [])), (38, (.getfield 59, 3, 7, 37, 0, [705])), (41, (.iload_n 1, 1, 1, 0, 0, [])), (42, (.iaload, 1, 0, 0, 0, [])), (43, (.iload_n 3, 1, 3, 0, 0, [])), (44, (.if_icmp .eq 9, 3, 53, 0, 0, [])), (47, (.aload_n 0, 1, 0, 0, 0, [])), (48, (.iconst 2, 1, 0, 0, 2, [])), (49, (.invokevirtual 264, 3, 104, 1, 0, [1020, 1022, 50, 60, 1023])), (52, (.lreturn, 1, 0, 0, 0, [])), (53, (.aload_n 0, 1, 0, 0, 0, [])), (54, (.iload_n 1, 1, 1, 0, 0, [])), (55, (.iload_n 2, 1, 2, 0, 0, [])), (56, (.invokevirtual 261, 3, 151, 2, 0, [1012, 1014, 49, 60, 1015])), (59, (.ifCond .le 16, 3, 75, 0, 0, [])), (62, (.aload_n 0, 1, 0, 0, 0, [])), (63, (.aload_n 0, 1, 0, 0, 0, [])), (64, (.iload_n 1, 1, 1, 0, 0, [])), (65, (.iload_n 2, 1, 2, 0, 0, [])), (66, (.invokevirtual 261, 3, 151, 2, 0, [1012, 1014, 49, 60, 1015])), (69, (.invokevirtual 264, 3, 104, 1, 0, [1020, 1022, 50, 60, 1023])), (72, (.goto 15, 3, 87, 0, 0, [])), (75, (.aload_n 0, 1, 0, 0, 0, [])), (76, (.getfield 62, 3, 7, 38, 0, [706])), (79, (.bipush 60, 2, 0, 0, 60, [])), (81, (.iload_n 1, 1, 1, 0, 0, [])), (82, (.imul, 1, 0, 0, 0, [])), (83, (.iload_n 2, 1, 2, 0, 0, [])), (84, (.iadd, 1, 0, 0, 0, [])), (85, (.iaload, 1, 0, 0, 0, [])), (86, (.i2l, 1, 0, 0, 0, [])), (87, (.lreturn, 1, 0, 0, 0, []))]
def fj_i154 : List (Nat × fj_AI) := [(0, (.iload_n 0, 1, 0, 0, 0, [])), (1, (.ifCond .lt 19, 3, 20, 0, 0, [])), (4, (.lload_n 1, 1, 1, 0, 0, [])), (5, (.lconst 0, 1, 0, 0, 0, [])), (6, (.lcmp, 1, 0, 0, 0, [])), (7, (.ifCond .lt 13, 3, 20, 0, 0, [])), (10, (.iload_n 0, 1, 0, 0, 0, [])), (11, (.i2l, 1, 0, 0, 0, [])), (12, (.lload_n 1, 1, 1, 0, 0, [])), (13, (.ladd, 1, 0, 0, 0, [])), (14, (.iload_n 3, 1, 3, 0, 0, [])), (15, (.i2l, 1, 0, 0, 0, [])), (16, (.lcmp, 1, 0, 0, 0, [])), (17, (.ifCond .le 7, 3, 24, 0, 0, [])), (20, (.iconst 1, 1, 0, 0, 1, [])), (21, (.goto 4, 3, 25, 0, 0, [])), (24, (.iconst 0, 1, 0, 0, 0, [])), (25, (.ireturn, 1, 0, 0, 0, []))]
def fj_i155 : List (Nat × fj_AI) := [(0, (.iload_n 1, 1, 1, 0, 0, [])), (1, (.invokestatic 130, 3, 148, 1, 0, [796, 797, 60, 798])), (4, (.ifCond .ne 10, 3, 14, 0, 0, [])), (7, (.iload_n 3, 1, 3, 0, 0, [])), (8, (.invokestatic 130, 3, 148, 1, 0, [796, 797, 60, 798])), (11, (.ifCond .eq 9, 3, 20, 0, 0, [])), (14, (.aload_n 0, 1, 0, 0, 0, [])), (15, (.iconst (-1), 1, 0, 0, (-1), [])), (16, (.invokevirtual 134, 3, 102, 1, 0, [803, 805, 25, 60, 806])), (19, (.ireturn, 1, 0, 0, 0, [])), (20, (.aload_n 0, 1, 0, 0, 0, [])), (21, (.getfield 56, 3, 7, 36, 0, [704])), (24, (.iload_n 1, 1, 1, 0, 0, [])), (25, (.iaload, 1, 0, 0, 0, [])), (26, (.ifCond .lt 12, 3, 38, 0, 0, [])), (29, (.aload_n 0, 1, 0, 0, 0, [])), (30, (.getfield 56, 3, 7, 36, 0, [704])), (33, (.iload_n 3, 1, 3, 0, 0, [])), (34, (.iaload, 1, 0, 0, 0, [])), (35, (.ifCond .ge 9, 3, 44, 0, 0, [])), (38, (.aload_n 0, 1, 0, 0, 0, [])), (39, (.iconst 1, 1, 0, 0, 1, [])), (40, (.invokevirtual 122, 3, 103, 1, 0, [812, 814, 27, 60, 815])), (43, (.ireturn, 1, 0, 0, 0, [])), (44, (.aload_n 0, 1, 0, 0, 0, [])), (45, (.getfield 59, 3, 7, 37, 0, [705])), (48, (.iload_n 1, 1, 1, 0, 0, [])), (49, (.iaload, 1, 0, 0, 0, [])), (50, (.aload_n 0, 1, 0, 0, 0, [])), (51, (.getfield 59, 3, 7, 37, 0, [705])), (54, (.iload_n 3, 1, 3, 0, 0, [])), (55, (.iaload, 1, 0, 0, 0, [])), (56, (.if_icmp .eq 9, 3, 65, 0, 0, [])), (59, (.aload_n 0, 1, 0, 0, 0, [])), (60, (.iconst 2, 1, 0, 0, 2, [])), (61, (.invokevirtual 122, 3, 103, 1, 0, [812, 814, 27, 60, 815])), (64, (.ireturn, 1, 0, 0, 0, [])), (65, (.iload_n 2, 1, 2, 0, 0, [])), (66, (.iload 5, 2, 5, 0, 0, [])), (68, (.i2l, 1, 0, 0, 0, [])), (69, (.aload_n 0, 1, 0, 0, 0, [])), (70, (.getfield 56, 3, 7, 36, 0, [704])), (73, (.iload_n 1, 1, 1, 0, 0, [])), (74, (.iaload, 1, 0, 0, 0, [])), (75, (.invokestatic 126, 3, 154, 3, 0, [816, 817, 60, 818])), (78, (.ifCond .ne 20, 3, 98, 0, 0, [])), (81, (.iload 4, 2, 4, 0, 0, [])), (83, (.iload 5, 2, 5, 0, 0, [])), (85, (.i2l, 1, 0, 0, 0, [])), (86, (.aload_n 0, 1, 0, 0, 0, [])), (87, (.getfield 56, 3, 7, 36, 0, [704])), (90, (.iload_n 3, 1, 3, 0, 0, [])), (91, (.iaload, 1, 0, 0, 0, [])), (92, (.invokestatic 126, 3, 154, 3, 0, [816, 817, 60, 818])), (95, (.ifCond .eq 9, 3, 104, 0, 0, [])), (98, (.aload_n 0, 1, 0, 0, 0, [])), (99, (.iconst 3, 1, 0, 0, 3, [])), (100, (.invokevirtual 122, 3, 103, 1, 0, [812, 814, 27, 60, 815])), (103, (.ireturn, 1, 0, 0, 0, [])), (104, (.iconst 0, 1, 0, 0, 0, [])), (105, (.istore 6, 2, 6, 0, 0, [])), (107, (.iload 6, 2, 6, 0, 0, [])), (109, (.iload 5, 2, 5, 0, 0, [])), (111, (.if_icmp .ge 30, 3, 141, 0, 0, [])), (114, (.aload_n 0, 1, 0, 0, 0, [])), (115, (.getfield 65, 3, 7, 39, 0, [707])), (118, (.iload 6, 2, 6, 0, 0, [])), (120, (.aload_n 0, 1, 0, 0, 0, [])), (121, (.getfield 62, 3, 7, 38, 0, [706])), (124, (.bipush 60, 2, 0, 0, 60, [])), (126, (.iload_n 1, 1, 1, 0, 0, [])), (127, (.imul, 1, 0, 0, 0, [])), (128, (.iload_n 2, 1, 2, 0, 0, [])), (129, (.iadd, 1, 0, 0, 0, [])), (130, (.iload 6, 2, 6, 0, 0, [])), (132, (.iadd, 1, 0, 0, 0, [])), (133, (.iaload, 1, 0, 0, 0, [])), (134, (.iastore, 1, 0, 0, 0, [])), (135, (.iinc 6 1, 3, 6, 0, 1, [])), (138, (.goto (-31), 3, 107, 0, 0, [])), (141, (.iconst 0, 1, 0, 0, 0, [])), (142, (.istore 6, 2, 6, 0, 0, [])), (144, (.iload 6, 2, 6, 0, 0, [])), (146, (.iload 5, 2, 5, 0, 0, [])), (148, (.if_icmp .ge 31, 3, 179, 0, 0, [])), (151, (.aload_n 0, 1, 0, 0, 0, [])), (152, (.getfield 62, 3, 7, 38, 0, [706])), (155, (.bipush 60, 2, 0, 0, 60, [])), (157, (.iload_n 3, 1, 3, 0, 0, [])), (158, (.imul, 1, 0, 0, 0, [])), (159, (.iload 4, 2, 4, 0, 0, [])), (161, (.iadd, 1, 0, 0, 0, [])), (162, (.iload 6, 2, 6, 0, 0, [])), (164, (.iadd, 1, 0, 0, 0, [])), (165, (.aload_n 0, 1, 0, 0, 0, [])), (166, (.getfield 65, 3, 7, 39, 0, [707])), (169, (.iload 6, 2, 6, 0, 0, [])), (171, (.iaload, 1, 0, 0, 0, [])), (172, (.iastore, 1, 0, 0, 0, [])), (173, (.iinc 6 1, 3, 6, 0, 1, [])), (176, (.goto (-32), 3, 144, 0, 0, [])), (179, (.aload_n 0, 1, 0, 0, 0, [])), (180, (.iload 5, 2, 5, 0, 0, [])), (182, (.invokevirtual 134, 3, 102, 1, 0, [803, 805, 25, 60, 806])), (185, (.ireturn, 1, 0, 0, 0, []))]
def fj_i156 : List (Nat × fj_AI) := [(0, (.aload_n 0, 1, 0, 0, 0, [])), (1, (.bipush 31, 2, 0, 0, 31, [])), (3, (.aload_n 0, 1, 0, 0, 0, [])), (4, (.getfield 268, 3, 7, 40, 0, [708])), (7, (.imul, 1, 0, 0, 0, [])), (8, (.iload_n 1, 1, 1, 0, 0, [])), (9, (.iadd, 1, 0, 0, 0, [])), (10, (.putfield 268, 3, 7, 40, 0, [708])), (13, (.return_, 1, 0, 0, 0, []))]
def fj_i157 : List (Nat × fj_AI) := [(0, (.aload_n 0, 1, 0, 0, 0, [])), (1, (.iload_n 1, 1, 1, 0, 0, [])), (2, (.invokevirtual 165, 3, 106, 1, 0, [851, 853, 34, 60, 854])), (5, (.ifCond .eq 5, 3, 10, 0, 0, [])), (8, (.iconst (-1), 1, 0, 0, (-1), [])), (9, (.ireturn, 1, 0, 0, 0, [])), (10, (.aload_n 0, 1, 0, 0, 0, [])), (11, (.getfield 13, 3, 7, 5, 0, [673])), (14, (.iload_n 1, 1, 1, 0, 0, [])), (15, (.iaload, 1, 0, 0, 0, [])), (16, (.istore_n 2, 1, 2, 0, 0, [])), (17, (.iload_n 2, 1, 2, 0, 0, [])), (18, (.iconst 2, 1, 0, 0, 2, [])), (19, (.if_icmp .ne 8, 3, 27, 0, 0, [])), (22, (.aload_n 0, 1, 0, 0, 0, [])), (23, (.iconst 3, 1, 0, 0, 3, [])), (24, (.invokevirtual 271, 3, 156, 1, 0, [1032, 1034, 51, 60, 1035])), (27, (.iload_n 2, 1, 2, 0, 0, [])), (28, (.ifCond .le 8, 3, 36, 0, 0, [])), (31, (.aload_n 0, 1, 0, 0, 0, [])), (32, (.iconst 2, 1, 0, 0, 2, [])), (33, (.invokevirtual 271, 3, 156, 1, 0, [1032, 1034, 51, 60, 1035])), (36, (.aload_n 0, 1, 0, 0, 0, [])), (37, (.iconst 1, 1, 0, 0, 1, [])), (38, (.invokevirtual 271, 3, 156, 1, 0, [1032, 1034, 51, 60, 1035])), (41, (.iload_n 2, 1, 2, 0, 0, [])), (42, (.iconst 2, 1, 0, 0, 2, [])), (43, (.if_icmp .ne 8, 3, 51, 0, 0, [])), (46, (.aload_n 0, 1, 0, 0, 0, [])), (47, (.iconst 1, 1, 0, 0, 1, [])), (48, (.invokevirtual 271, 3, 156, 1, 0, [1032, 1034, 51, 60, 1035])), (51, (.aload_n 0, 1, 0, 0, 0, [])), (52, (.getfield 16, 3, 7, 6, 0, [674])), (55, (.iload_n 1, 1, 1, 0, 0, [])), (56, (.iaload, 1, 0, 0, 0, [])), (57, (.istore_n 3, 1, 3, 0, 0, [])), (58, (.iload_n 2, 1, 2, 0, 0, [])), (59, (.ifCond .ne 7, 3, 66, 0, 0, [])), (62, (.iload_n 3, 1, 3, 0, 0, [])), (63, (.goto 21, 3, 84, 0, 0, [])), (66, (.iload_n 2, 1, 2, 0, 0, [])), (67, (.iconst 1, 1, 0, 0, 1, [])), (68, (.if_icmp .ne 10, 3, 78, 0, 0, [])), (71, (.iload_n 3, 1, 3, 0, 0, [])), (72, (.bipush 100, 2, 0, 0, 100, [])), (74, (.iadd, 1, 0, 0, 0, [])), (75, (.goto 9, 3, 84, 0, 0, [])), (78, (.iconst 2, 1, 0, 0, 2, [])), (79, (.iload_n 3, 1, 3, 0, 0, [])), (80, (.imul, 1, 0, 0, 0, [])), (81, (.bipush 100, 2, 0, 0, 100, [])), (83, (.iadd, 1, 0, 0, 0, [])), (84, (.ireturn, 1, 0, 0, 0, []))]
def fj_i158 : List (Nat × fj_AI) := [(0, (.aload_n 0, 1, 0, 0, 0, [])), (1, (.iload_n 1, 1, 1, 0, 0, [])), (2, (.invokevirtual 165, 3, 106, 1, 0, [851, 853, 34, 60, 854])), (5, (.ifCond .eq 5, 3, 10, 0, 0, [])), (8, (.iconst (-1), 1, 0, 0, (-1), [])), (9, (.ireturn, 1, 0, 0, 0, [])), (10, (.aload_n 0, 1, 0, 0, 0, [])), (11, (.aload_n 0, 1, 0, 0, 0, [])), (12, (.getfield 13, 3, 7, 5, 0, [673])), (15, (.iload_n 1, 1, 1, 0, 0, [])), (16, (.iaload, 1, 0, 0, 0, [])), (17, (.iconst 2, 1, 0, 0, 2, [])), (18, (.if_icmp .ne 7, 3, 25, 0, 0, [])), (21, (.iconst 5, 1, 0, 0, 5, [])), (22, (.goto 4, 3, 26, 0, 0, [])), (25, (.iconst 4, 1, 0, 0, 4, [])), (26, (.invokevirtual 271, 3, 156, 1, 0, [1032, 1034, 51, 60, 1035])), (29, (.aload_n 0, 1, 0, 0, 0, [])), (30, (.getfield 13, 3, 7, 5, 0, [673])), (33, (.iload_n 1, 1, 1, 0, 0, [])), (34, (.iaload, 1, 0, 0, 0, [])), (35, (.iconst 2, 1, 0, 0, 2, [])), (36, (.if_icmp .ne 8, 3, 44, 0, 0, [])), (39, (.bipush 70, 2, 0, 0, 70, [])), (41, (.goto 4, 3, 45, 0, 0, [])), (44, (.iload_n 1, 1, 1, 0, 0, [])), (45, (.ireturn, 1, 0, 0, 0, []))]
def fj_i159 : List (Nat × fj_AI) := [(0, (.aload_n 0, 1, 0, 0, 0, [])), (1, (.iload_n 1, 1, 1, 0, 0, [])), (2, (.invokevirtual 165, 3, 106, 1, 0, [851, 853, 34, 60, 854])), (5, (.ifCond .eq 9, 3, 14, 0, 0, [])), (8, (.aload_n 0, 1, 0, 0, 0, [])), (9, (.iconst (-1), 1, 0, 0, (-1), [])), (10, (.invokevirtual 134, 3, 102, 1, 0, [803, 805, 25, 60, 806])), (13, (.ireturn, 1, 0, 0, 0, [])), (14, (.iload_n 2, 1, 2, 0, 0, [])), (15, (.i2l, 1, 0, 0, 0, [])), (16, (.lconst 0, 1, 0, 0, 0, [])), (17, (.ldc2_w 137, 3, 0, 0, 2, [807])), (20, (.invokestatic 84, 3, 97, 3, 0, [800, 801, 60, 802])), (23, (.ifCond .ne 10, 3, 33, 0, 0, [])), (26, (.aload_n 0, 1, 0, 0, 0, [])), (27, (.bipush (-2), 2, 0, 0, (-2), [])), (29, (.invokevirtual 134, 3, 102, 1, 0, [803, 805, 25, 60, 806])), (32, (.ireturn, 1, 0, 0, 0, [])), (33, (.aload_n 0, 1, 0, 0, 0, [])), (34, (.getfield 13, 3, 7, 5, 0, [673])), (37, (.iload_n 1, 1, 1, 0, 0, [])), (38, (.iaload, 1, 0, 0, 0, [])), (39, (.iload_n 2, 1, 2, 0, 0, [])), (40, (.if_icmp .lt 11, 3, 51, 0, 0, [])), (43, (.aload_n 0, 1, 0, 0, 0, [])), (44, (.iconst 1, 1, 0, 0, 1, [])), (45, (.invokevirtual 134, 3, 102, 1, 0, [803, 805, 25, 60, 806])), (48, (.goto 8, 3, 56, 0, 0, [])), (51, (.aload_n 0, 1, 0, 0, 0, [])), (52, (.iconst 2, 1, 0, 0, 2, [])), (53, (.invokevirtual 122, 3, 103, 1, 0, [812, 814, 27, 60, 815])), (56, (.ireturn, 1, 0, 0, 0, []))]
def fj_i160 : List (Nat × fj_AI) := [(0, (.aload_n 0, 1, 0, 0, 0, [])), (1, (.getfield 268, 3, 7, 40, 0, [708])), (4, (.ireturn, 1, 0, 0, 0, []))]
def fj_i161 : List (Nat × fj_AI) := [(0, (.aload_n 0, 1, 0, 0, 0, [])), (1, (.getfield 70, 3, 7, 0, 0, [668])), (4, (.ireturn, 1, 0, 0, 0, []))]
def fj_i162 : List (Nat × fj_AI) := [(0, (.iload_n 1, 1, 1, 0, 0, [])), (1, (.tableswitch 74 0 5 #[39, 49, 54, 59, 64, 69], 39, 0, 0, 0, [])), (40, (.aload_n 0, 1, 0, 0, 0, [])), (41, (.getfield 78, 3, 7, 1, 0, [669])), (44, (.aload_n 0, 1, 0, 0, 0, [])), (45, (.getfield 81, 3, 7, 2, 0, [670])), (48, (.imul, 1, 0, 0, 0, [])), (49, (.ireturn, 1, 0, 0, 0, [])), (50, (.aload_n 0, 1, 0, 0, 0, [])), (51, (.getfield 88, 3, 7, 4, 0, [672])), (54, (.ireturn, 1, 0, 0, 0, [])), (55, (.aload_n 0, 1, 0, 0, 0, [])), (56, (.getfield 147, 3, 7, 8, 0, [676])), (59, (.ireturn, 1, 0, 0, 0, [])), (60, (.aload_n 0, 1, 0, 0, 0, [])), (61, (.getfield 150, 3, 7, 10, 0, [678])), (64, (.ireturn, 1, 0, 0, 0, [])), (65, (.aload_n 0, 1, 0, 0, 0, [])), (66, (.getfield 153, 3, 7, 11, 0, [679])), (69, (.ireturn, 1, 0, 0, 0, [])), (70, (.aload_n 0, 1, 0, 0, 0, [])), (71, (.getfield 159, 3, 7, 32, 0, [700])), (74, (.ireturn, 1, 0, 0, 0, [])), (75, (.bipush (-2), 2, 0, 0, (-2), [])), (77, (.ireturn, 1, 0, 0, 0, []))]
def fj_i163 : List (Nat × fj_AI) := [(0, (.iload_n 0, 1, 0, 0, 0, [])), (1, (.iload_n 0, 1, 0, 0, 0, [])), (2, (.iconst 1, 1, 0, 0, 1, [])), (3, (.iushr, 1, 0, 0, 0, [])), (4, (.ldc_w 265, 3, 0, 0, 1431655765, [519])), (7, (.iand, 1, 0, 0, 0, [])), (8, (.isub, 1, 0, 0, 0, [])), (9, (.istore_n 0, 1, 0, 0, 0, [])), (10, (.iload_n 0, 1, 0, 0, 0, [])), (11, (.ldc_w 266, 3, 0, 0, 858993459, [520])), (14, (.iand, 1, 0, 0, 0, [])), (15, (.iload_n 0, 1, 0, 0, 0, [])), (16, (.iconst 2, 1, 0, 0, 2, [])), (17, (.iushr, 1, 0, 0, 0, [])), (18, (.ldc_w 266, 3, 0, 0, 858993459, [520])), (21, (.iand, 1, 0, 0, 0, [])), (22, (.iadd, 1, 0, 0, 0, [])), (23, (.istore_n 0, 1, 0, 0, 0, [])), (24, (.iload_n 0, 1, 0, 0, 0, [])), (25, (.iload_n 0, 1, 0, 0, 0, [])), (26, (.iconst 4, 1, 0, 0, 4, [])), (27, (.iushr, 1, 0, 0, 0, [])), (28, (.iadd, 1, 0, 0, 0, [])), (29, (.ldc_w 267, 3, 0, 0, 252645135, [521])), (32, (.iand, 1, 0, 0, 0, [])), (33, (.istore_n 0, 1, 0, 0, 0, [])), (34, (.iload_n 0, 1, 0, 0, 0, [])), (35, (.iload_n 0, 1, 0, 0, 0, [])), (36, (.bipush 8, 2, 0, 0, 8, [])), (38, (.iushr, 1, 0, 0, 0, [])), (39, (.iadd, 1, 0, 0, 0, [])), (40, (.istore_n 0, 1, 0, 0, 0, [])), (41, (.iload_n 0, 1, 0, 0, 0, [])), (42, (.iload_n 0, 1, 0, 0, 0, [])), (43, (.bipush 16, 2, 0, 0, 16, [])), (45, (.iushr, 1, 0, 0, 0, [])), (46, (.iadd, 1, 0, 0, 0, [])), (47, (.istore_n 0, 1, 0, 0, 0, [])), (48, (.iload_n 0, 1, 0, 0, 0, [])), (49, (.bipush 63, 2, 0, 0, 63, [])), (51, (.iand, 1, 0, 0, 0, [])), (52, (.ireturn, 1, 0, 0, 0, []))]
def fj_i164_0 : List (Nat × fj_AI) := [(0, (.new 7, 3, 6, 0, 0, [64, 65, 53])), (3, (.dup, 1, 0, 0, 0, [])), (4, (.invokespecial 9, 3, 57, 0, 0, [66, 67, 53, 68])), (7, (.astore_n 1, 1, 1, 0, 0, [])), (8, (.new 10, 3, 7, 0, 0, [662, 663, 60])), (11, (.dup, 1, 0, 0, 0, [])), (12, (.invokespecial 12, 3, 96, 0, 0, [664, 665, 60, 666])), (15, (.astore_n 2, 1, 2, 0, 0, [])), (16, (.iconst 0, 1, 0, 0, 0, [])), (17, (.istore_n 3, 1, 3, 0, 0, [])), (18, (.iload_n 3, 1, 3, 0, 0, [])), (19, (.aload_n 0, 1, 0, 0, 0, [])), (20, (.arraylength, 1, 0, 0, 0, [])), (21, (.bipush 6, 2, 0, 0, 6, [])), (23, (.isub, 1, 0, 0, 0, [])), (24, (.if_icmp .gt 1111, 3, 1135, 0, 0, [])), (27, (.aload_n 0, 1, 0, 0, 0, [])), (28, (.iload_n 3, 1, 3, 0, 0, [])), (29, (.iaload, 1, 0, 0, 0, [])), (30, (.bipush 31, 2, 0, 0, 31, [])), (32, (.iand, 1, 0, 0, 0, [])), (33, (.tableswitch 1096 0 30 #[139, 192, 215, 248, 281, 304, 327, 376, 399, 462, 485, 498, 511, 524, 547, 606, 629, 642, 665, 688, 752, 795, 818, 861, 905, 968, 991, 1014, 1047, 1060, 1073], 139, 0, 0, 0, [])), (172, (.aload_n 1, 1, 1, 0, 0, [])), (173, (.aload_n 0, 1, 0, 0, 0, []))]
def fj_i164_1 : List (Nat × fj_AI) := [(174, (.iload_n 3, 1, 3, 0, 0, [])), (175, (.iconst 1, 1, 0, 0, 1, [])), (176, (.iadd, 1, 0, 0, 0, [])), (177, (.iaload, 1, 0, 0, 0, [])), (178, (.aload_n 0, 1, 0, 0, 0, [])), (179, (.iload_n 3, 1, 3, 0, 0, [])), (180, (.iconst 2, 1, 0, 0, 2, [])), (181, (.iadd, 1, 0, 0, 0, [])), (182, (.iaload, 1, 0, 0, 0, [])), (183, (.aload_n 0, 1, 0, 0, 0, [])), (184, (.iload_n 3, 1, 3, 0, 0, [])), (185, (.iconst 3, 1, 0, 0, 3, [])), (186, (.iadd, 1, 0, 0, 0, [])), (187, (.iaload, 1, 0, 0, 0, [])), (188, (.aload_n 0, 1, 0, 0, 0, [])), (189, (.iload_n 3, 1, 3, 0, 0, [])), (190, (.iconst 4, 1, 0, 0, 4, [])), (191, (.iadd, 1, 0, 0, 0, [])), (192, (.iaload, 1, 0, 0, 0, [])), (193, (.invokevirtual 13, 3, 58, 4, 0, [283, 284, 285, 53, 286])), (196, (.aload_n 2, 1, 2, 0, 0, [])), (197, (.aload_n 0, 1, 0, 0, 0, [])), (198, (.iload_n 3, 1, 3, 0, 0, [])), (199, (.iconst 1, 1, 0, 0, 1, []))]
def fj_i164_2 : List (Nat × fj_AI) := [(200, (.iadd, 1, 0, 0, 0, [])), (201, (.iaload, 1, 0, 0, 0, [])), (202, (.aload_n 0, 1, 0, 0, 0, [])), (203, (.iload_n 3, 1, 3, 0, 0, [])), (204, (.iconst 2, 1, 0, 0, 2, [])), (205, (.iadd, 1, 0, 0, 0, [])), (206, (.iaload, 1, 0, 0, 0, [])), (207, (.aload_n 0, 1, 0, 0, 0, [])), (208, (.iload_n 3, 1, 3, 0, 0, [])), (209, (.iconst 3, 1, 0, 0, 3, [])), (210, (.iadd, 1, 0, 0, 0, [])), (211, (.iaload, 1, 0, 0, 0, [])), (212, (.aload_n 0, 1, 0, 0, 0, [])), (213, (.iload_n 3, 1, 3, 0, 0, [])), (214, (.iconst 4, 1, 0, 0, 4, [])), (215, (.iadd, 1, 0, 0, 0, [])), (216, (.iaload, 1, 0, 0, 0, [])), (217, (.invokevirtual 17, 3, 114, 4, 0, [792, 793, 794, 60, 795])), (220, (.if_icmp .eq 909, 3, 1129, 0, 0, [])), (223, (.iconst 0, 1, 0, 0, 0, [])), (224, (.ireturn, 1, 0, 0, 0, [])), (225, (.aload_n 1, 1, 1, 0, 0, [])), (226, (.aload_n 0, 1, 0, 0, 0, [])), (227, (.iload_n 3, 1, 3, 0, 0, []))]
def fj_i164_3 : List (Nat × fj_AI) := [(228, (.iconst 1, 1, 0, 0, 1, [])), (229, (.iadd, 1, 0, 0, 0, [])), (230, (.iaload, 1, 0, 0, 0, [])), (231, (.invokevirtual 18, 3, 60, 1, 0, [351, 352, 353, 53, 354])), (234, (.aload_n 2, 1, 2, 0, 0, [])), (235, (.aload_n 0, 1, 0, 0, 0, [])), (236, (.iload_n 3, 1, 3, 0, 0, [])), (237, (.iconst 1, 1, 0, 0, 1, [])), (238, (.iadd, 1, 0, 0, 0, [])), (239, (.iaload, 1, 0, 0, 0, [])), (240, (.invokevirtual 22, 3, 115, 1, 0, [839, 840, 841, 60, 842])), (243, (.if_icmp .eq 886, 3, 1129, 0, 0, [])), (246, (.iconst 0, 1, 0, 0, 0, [])), (247, (.ireturn, 1, 0, 0, 0, [])), (248, (.aload_n 1, 1, 1, 0, 0, [])), (249, (.aload_n 0, 1, 0, 0, 0, [])), (250, (.iload_n 3, 1, 3, 0, 0, [])), (251, (.iconst 1, 1, 0, 0, 1, [])), (252, (.iadd, 1, 0, 0, 0, [])), (253, (.iaload, 1, 0, 0, 0, [])), (254, (.aload_n 0, 1, 0, 0, 0, [])), (255, (.iload_n 3, 1, 3, 0, 0, [])), (256, (.iconst 2, 1, 0, 0, 2, [])), (257, (.iadd, 1, 0, 0, 0, []))]
def fj_i164_4 : List (Nat × fj_AI) := [(258, (.iaload, 1, 0, 0, 0, [])), (259, (.invokevirtual 23, 3, 61, 2, 0, [359, 360, 361, 53, 362])), (262, (.aload_n 2, 1, 2, 0, 0, [])), (263, (.aload_n 0, 1, 0, 0, 0, [])), (264, (.iload_n 3, 1, 3, 0, 0, [])), (265, (.iconst 1, 1, 0, 0, 1, [])), (266, (.iadd, 1, 0, 0, 0, [])), (267, (.iaload, 1, 0, 0, 0, [])), (268, (.aload_n 0, 1, 0, 0, 0, [])), (269, (.iload_n 3, 1, 3, 0, 0, [])), (270, (.iconst 2, 1, 0, 0, 2, [])), (271, (.iadd, 1, 0, 0, 0, [])), (272, (.iaload, 1, 0, 0, 0, [])), (273, (.invokevirtual 27, 3, 117, 2, 0, [847, 848, 849, 60, 850])), (276, (.if_icmp .eq 853, 3, 1129, 0, 0, [])), (279, (.iconst 0, 1, 0, 0, 0, [])), (280, (.ireturn, 1, 0, 0, 0, [])), (281, (.aload_n 1, 1, 1, 0, 0, [])), (282, (.aload_n 0, 1, 0, 0, 0, [])), (283, (.iload_n 3, 1, 3, 0, 0, [])), (284, (.iconst 1, 1, 0, 0, 1, [])), (285, (.iadd, 1, 0, 0, 0, [])), (286, (.iaload, 1, 0, 0, 0, [])), (287, (.aload_n 0, 1, 0, 0, 0, []))]
def fj_i164_5 : List (Nat × fj_AI) := [(288, (.iload_n 3, 1, 3, 0, 0, [])), (289, (.iconst 2, 1, 0, 0, 2, [])), (290, (.iadd, 1, 0, 0, 0, [])), (291, (.iaload, 1, 0, 0, 0, [])), (292, (.invokevirtual 28, 3, 62, 2, 0, [374, 375, 376, 53, 377])), (295, (.aload_n 2, 1, 2, 0, 0, [])), (296, (.aload_n 0, 1, 0, 0, 0, [])), (297, (.iload_n 3, 1, 3, 0, 0, [])), (298, (.iconst 1, 1, 0, 0, 1, [])), (299, (.iadd, 1, 0, 0, 0, [])), (300, (.iaload, 1, 0, 0, 0, [])), (301, (.aload_n 0, 1, 0, 0, 0, [])), (302, (.iload_n 3, 1, 3, 0, 0, [])), (303, (.iconst 2, 1, 0, 0, 2, [])), (304, (.iadd, 1, 0, 0, 0, [])), (305, (.iaload, 1, 0, 0, 0, [])), (306, (.invokevirtual 31, 3, 119, 2, 0, [862, 863, 864, 60, 865])), (309, (.if_icmp .eq 820, 3, 1129, 0, 0, [])), (312, (.iconst 0, 1, 0, 0, 0, [])), (313, (.ireturn, 1, 0, 0, 0, [])), (314, (.aload_n 1, 1, 1, 0, 0, [])), (315, (.aload_n 0, 1, 0, 0, 0, [])), (316, (.iload_n 3, 1, 3, 0, 0, [])), (317, (.iconst 1, 1, 0, 0, 1, []))]
def fj_i164_6 : List (Nat × fj_AI) := [(318, (.iadd, 1, 0, 0, 0, [])), (319, (.iaload, 1, 0, 0, 0, [])), (320, (.invokevirtual 32, 3, 63, 1, 0, [385, 386, 387, 53, 388])), (323, (.aload_n 2, 1, 2, 0, 0, [])), (324, (.aload_n 0, 1, 0, 0, 0, [])), (325, (.iload_n 3, 1, 3, 0, 0, [])), (326, (.iconst 1, 1, 0, 0, 1, [])), (327, (.iadd, 1, 0, 0, 0, [])), (328, (.iaload, 1, 0, 0, 0, [])), (329, (.invokevirtual 35, 3, 120, 1, 0, [870, 871, 872, 60, 873])), (332, (.if_icmp .eq 797, 3, 1129, 0, 0, [])), (335, (.iconst 0, 1, 0, 0, 0, [])), (336, (.ireturn, 1, 0, 0, 0, [])), (337, (.aload_n 1, 1, 1, 0, 0, [])), (338, (.aload_n 0, 1, 0, 0, 0, [])), (339, (.iload_n 3, 1, 3, 0, 0, [])), (340, (.iconst 1, 1, 0, 0, 1, [])), (341, (.iadd, 1, 0, 0, 0, [])), (342, (.iaload, 1, 0, 0, 0, [])), (343, (.invokevirtual 36, 3, 64, 1, 0, [393, 394, 395, 53, 396])), (346, (.aload_n 2, 1, 2, 0, 0, [])), (347, (.aload_n 0, 1, 0, 0, 0, [])), (348, (.iload_n 3, 1, 3, 0, 0, [])), (349, (.iconst 1, 1, 0, 0, 1, []))]
def fj_i164_7 : List (Nat × fj_AI) := [(350, (.iadd, 1, 0, 0, 0, [])), (351, (.iaload, 1, 0, 0, 0, [])), (352, (.invokevirtual 39, 3, 121, 1, 0, [875, 876, 877, 60, 878])), (355, (.if_icmp .eq 774, 3, 1129, 0, 0, [])), (358, (.iconst 0, 1, 0, 0, 0, [])), (359, (.ireturn, 1, 0, 0, 0, [])), (360, (.aload_n 1, 1, 1, 0, 0, [])), (361, (.aload_n 0, 1, 0, 0, 0, [])), (362, (.iload_n 3, 1, 3, 0, 0, [])), (363, (.iconst 1, 1, 0, 0, 1, [])), (364, (.iadd, 1, 0, 0, 0, [])), (365, (.iaload, 1, 0, 0, 0, [])), (366, (.aload_n 0, 1, 0, 0, 0, [])), (367, (.iload_n 3, 1, 3, 0, 0, [])), (368, (.iconst 2, 1, 0, 0, 2, [])), (369, (.iadd, 1, 0, 0, 0, [])), (370, (.iaload, 1, 0, 0, 0, [])), (371, (.ifCond .eq 7, 3, 378, 0, 0, [])), (374, (.iconst 1, 1, 0, 0, 1, [])), (375, (.goto 4, 3, 379, 0, 0, [])), (378, (.iconst 0, 1, 0, 0, 0, [])), (379, (.invokevirtual 40, 3, 65, 2, 0, [397, 398, 399, 53, 400])), (382, (.aload_n 2, 1, 2, 0, 0, [])), (383, (.aload_n 0, 1, 0, 0, 0, []))]
def fj_i164_8 : List (Nat × fj_AI) := [(384, (.iload_n 3, 1, 3, 0, 0, [])), (385, (.iconst 1, 1, 0, 0, 1, [])), (386, (.iadd, 1, 0, 0, 0, [])), (387, (.iaload, 1, 0, 0, 0, [])), (388, (.aload_n 0, 1, 0, 0, 0, [])), (389, (.iload_n 3, 1, 3, 0, 0, [])), (390, (.iconst 2, 1, 0, 0, 2, [])), (391, (.iadd, 1, 0, 0, 0, [])), (392, (.iaload, 1, 0, 0, 0, [])), (393, (.ifCond .eq 7, 3, 400, 0, 0, [])), (396, (.iconst 1, 1, 0, 0, 1, [])), (397, (.goto 4, 3, 401, 0, 0, [])), (400, (.iconst 0, 1, 0, 0, 0, [])), (401, (.invokevirtual 44, 3, 122, 2, 0, [880, 881, 882, 60, 883])), (404, (.if_icmp .eq 725, 3, 1129, 0, 0, [])), (407, (.iconst 0, 1, 0, 0, 0, [])), (408, (.ireturn, 1, 0, 0, 0, [])), (409, (.aload_n 1, 1, 1, 0, 0, [])), (410, (.aload_n 0, 1, 0, 0, 0, [])), (411, (.iload_n 3, 1, 3, 0, 0, [])), (412, (.iconst 1, 1, 0, 0, 1, [])), (413, (.iadd, 1, 0, 0, 0, [])), (414, (.iaload, 1, 0, 0, 0, [])), (415, (.invokevirtual 45, 3, 66, 1, 0, [401, 402, 403, 53, 404]))]
def fj_i164_9 : List (Nat × fj_AI) := [(418, (.aload_n 2, 1, 2, 0, 0, [])), (419, (.aload_n 0, 1, 0, 0, 0, [])), (420, (.iload_n 3, 1, 3, 0, 0, [])), (421, (.iconst 1, 1, 0, 0, 1, [])), (422, (.iadd, 1, 0, 0, 0, [])), (423, (.iaload, 1, 0, 0, 0, [])), (424, (.invokevirtual 48, 3, 124, 1, 0, [884, 885, 886, 60, 887])), (427, (.if_icmp .eq 702, 3, 1129, 0, 0, [])), (430, (.iconst 0, 1, 0, 0, 0, [])), (431, (.ireturn, 1, 0, 0, 0, [])), (432, (.aload_n 1, 1, 1, 0, 0, [])), (433, (.aload_n 0, 1, 0, 0, 0, [])), (434, (.iload_n 3, 1, 3, 0, 0, [])), (435, (.iconst 1, 1, 0, 0, 1, [])), (436, (.iadd, 1, 0, 0, 0, [])), (437, (.iaload, 1, 0, 0, 0, [])), (438, (.aload_n 0, 1, 0, 0, 0, [])), (439, (.iload_n 3, 1, 3, 0, 0, [])), (440, (.iconst 2, 1, 0, 0, 2, [])), (441, (.iadd, 1, 0, 0, 0, [])), (442, (.iaload, 1, 0, 0, 0, [])), (443, (.aload_n 0, 1, 0, 0, 0, [])), (444, (.iload_n 3, 1, 3, 0, 0, [])), (445, (.iconst 3, 1, 0, 0, 3, []))]
def fj_i164_10 : List (Nat × fj_AI) := [(446, (.iadd, 1, 0, 0, 0, [])), (447, (.iaload, 1, 0, 0, 0, [])), (448, (.aload_n 0, 1, 0, 0, 0, [])), (449, (.iload_n 3, 1, 3, 0, 0, [])), (450, (.iconst 4, 1, 0, 0, 4, [])), (451, (.iadd, 1, 0, 0, 0, [])), (452, (.iaload, 1, 0, 0, 0, [])), (453, (.aload_n 0, 1, 0, 0, 0, [])), (454, (.iload_n 3, 1, 3, 0, 0, [])), (455, (.iconst 5, 1, 0, 0, 5, [])), (456, (.iadd, 1, 0, 0, 0, [])), (457, (.iaload, 1, 0, 0, 0, [])), (458, (.invokevirtual 49, 3, 67, 5, 0, [411, 412, 413, 53, 414])), (461, (.aload_n 2, 1, 2, 0, 0, [])), (462, (.aload_n 0, 1, 0, 0, 0, [])), (463, (.iload_n 3, 1, 3, 0, 0, [])), (464, (.iconst 1, 1, 0, 0, 1, [])), (465, (.iadd, 1, 0, 0, 0, [])), (466, (.iaload, 1, 0, 0, 0, [])), (467, (.aload_n 0, 1, 0, 0, 0, [])), (468, (.iload_n 3, 1, 3, 0, 0, [])), (469, (.iconst 2, 1, 0, 0, 2, [])), (470, (.iadd, 1, 0, 0, 0, [])), (471, (.iaload, 1, 0, 0, 0, []))]
def fj_i164_11 : List (Nat × fj_AI) := [(472, (.aload_n 0, 1, 0, 0, 0, [])), (473, (.iload_n 3, 1, 3, 0, 0, [])), (474, (.iconst 3, 1, 0, 0, 3, [])), (475, (.iadd, 1, 0, 0, 0, [])), (476, (.iaload, 1, 0, 0, 0, [])), (477, (.aload_n 0, 1, 0, 0, 0, [])), (478, (.iload_n 3, 1, 3, 0, 0, [])), (479, (.iconst 4, 1, 0, 0, 4, [])), (480, (.iadd, 1, 0, 0, 0, [])), (481, (.iaload, 1, 0, 0, 0, [])), (482, (.aload_n 0, 1, 0, 0, 0, [])), (483, (.iload_n 3, 1, 3, 0, 0, [])), (484, (.iconst 5, 1, 0, 0, 5, [])), (485, (.iadd, 1, 0, 0, 0, [])), (486, (.iaload, 1, 0, 0, 0, [])), (487, (.invokevirtual 53, 3, 128, 5, 0, [896, 897, 898, 60, 899])), (490, (.if_icmp .eq 639, 3, 1129, 0, 0, [])), (493, (.iconst 0, 1, 0, 0, 0, [])), (494, (.ireturn, 1, 0, 0, 0, [])), (495, (.aload_n 1, 1, 1, 0, 0, [])), (496, (.aload_n 0, 1, 0, 0, 0, [])), (497, (.iload_n 3, 1, 3, 0, 0, [])), (498, (.iconst 1, 1, 0, 0, 1, [])), (499, (.iadd, 1, 0, 0, 0, []))]
def fj_i164_12 : List (Nat × fj_AI) := [(500, (.iaload, 1, 0, 0, 0, [])), (501, (.invokevirtual 54, 3, 69, 1, 0, [450, 451, 452, 53, 453])), (504, (.aload_n 2, 1, 2, 0, 0, [])), (505, (.aload_n 0, 1, 0, 0, 0, [])), (506, (.iload_n 3, 1, 3, 0, 0, [])), (507, (.iconst 1, 1, 0, 0, 1, [])), (508, (.iadd, 1, 0, 0, 0, [])), (509, (.iaload, 1, 0, 0, 0, [])), (510, (.invokevirtual 57, 3, 130, 1, 0, [914, 915, 916, 60, 917])), (513, (.if_icmp .eq 616, 3, 1129, 0, 0, [])), (516, (.iconst 0, 1, 0, 0, 0, [])), (517, (.ireturn, 1, 0, 0, 0, [])), (518, (.aload_n 1, 1, 1, 0, 0, [])), (519, (.invokevirtual 58, 3, 70, 0, 0, [463, 464, 465, 53, 466])), (522, (.aload_n 2, 1, 2, 0, 0, [])), (523, (.invokevirtual 62, 3, 131, 0, 0, [922, 923, 924, 60, 925])), (526, (.if_icmp .eq 603, 3, 1129, 0, 0, [])), (529, (.iconst 0, 1, 0, 0, 0, [])), (530, (.ireturn, 1, 0, 0, 0, [])), (531, (.aload_n 1, 1, 1, 0, 0, [])), (532, (.invokevirtual 63, 3, 71, 0, 0, [467, 468, 469, 53, 470])), (535, (.aload_n 2, 1, 2, 0, 0, [])), (536, (.invokevirtual 66, 3, 138, 0, 0, [926, 927, 928, 60, 929])), (539, (.if_icmp .eq 590, 3, 1129, 0, 0, []))]
def fj_i164_13 : List (Nat × fj_AI) := [(542, (.iconst 0, 1, 0, 0, 0, [])), (543, (.ireturn, 1, 0, 0, 0, [])), (544, (.aload_n 1, 1, 1, 0, 0, [])), (545, (.invokevirtual 67, 3, 72, 0, 0, [508, 509, 510, 53, 511])), (548, (.aload_n 2, 1, 2, 0, 0, [])), (549, (.invokevirtual 70, 3, 139, 0, 0, [954, 955, 956, 60, 957])), (552, (.if_icmp .eq 577, 3, 1129, 0, 0, [])), (555, (.iconst 0, 1, 0, 0, 0, [])), (556, (.ireturn, 1, 0, 0, 0, [])), (557, (.aload_n 1, 1, 1, 0, 0, [])), (558, (.aload_n 0, 1, 0, 0, 0, [])), (559, (.iload_n 3, 1, 3, 0, 0, [])), (560, (.iconst 1, 1, 0, 0, 1, [])), (561, (.iadd, 1, 0, 0, 0, [])), (562, (.iaload, 1, 0, 0, 0, [])), (563, (.invokevirtual 71, 3, 73, 1, 0, [522, 523, 524, 53, 525])), (566, (.aload_n 2, 1, 2, 0, 0, [])), (567, (.aload_n 0, 1, 0, 0, 0, [])), (568, (.iload_n 3, 1, 3, 0, 0, [])), (569, (.iconst 1, 1, 0, 0, 1, [])), (570, (.iadd, 1, 0, 0, 0, [])), (571, (.iaload, 1, 0, 0, 0, [])), (572, (.invokevirtual 74, 3, 140, 1, 0, [961, 962, 963, 60, 964])), (575, (.if_icmp .eq 554, 3, 1129, 0, 0, []))]
def fj_i164_14 : List (Nat × fj_AI) := [(578, (.iconst 0, 1, 0, 0, 0, [])), (579, (.ireturn, 1, 0, 0, 0, [])), (580, (.aload_n 1, 1, 1, 0, 0, [])), (581, (.aload_n 0, 1, 0, 0, 0, [])), (582, (.iload_n 3, 1, 3, 0, 0, [])), (583, (.iconst 1, 1, 0, 0, 1, [])), (584, (.iadd, 1, 0, 0, 0, [])), (585, (.iaload, 1, 0, 0, 0, [])), (586, (.aload_n 0, 1, 0, 0, 0, [])), (587, (.iload_n 3, 1, 3, 0, 0, [])), (588, (.iconst 2, 1, 0, 0, 2, [])), (589, (.iadd, 1, 0, 0, 0, [])), (590, (.iaload, 1, 0, 0, 0, [])), (591, (.aload_n 0, 1, 0, 0, 0, [])), (592, (.iload_n 3, 1, 3, 0, 0, [])), (593, (.iconst 3, 1, 0, 0, 3, [])), (594, (.iadd, 1, 0, 0, 0, [])), (595, (.iaload, 1, 0, 0, 0, [])), (596, (.ifCond .eq 7, 3, 603, 0, 0, [])), (599, (.iconst 1, 1, 0, 0, 1, [])), (600, (.goto 4, 3, 604, 0, 0, [])), (603, (.iconst 0, 1, 0, 0, 0, [])), (604, (.invokevirtual 75, 3, 74, 3, 0, [526, 527, 528, 53, 529])), (607, (.aload_n 2, 1, 2, 0, 0, []))]
def fj_i164_15 : List (Nat × fj_AI) := [(608, (.aload_n 0, 1, 0, 0, 0, [])), (609, (.iload_n 3, 1, 3, 0, 0, [])), (610, (.iconst 1, 1, 0, 0, 1, [])), (611, (.iadd, 1, 0, 0, 0, [])), (612, (.iaload, 1, 0, 0, 0, [])), (613, (.aload_n 0, 1, 0, 0, 0, [])), (614, (.iload_n 3, 1, 3, 0, 0, [])), (615, (.iconst 2, 1, 0, 0, 2, [])), (616, (.iadd, 1, 0, 0, 0, [])), (617, (.iaload, 1, 0, 0, 0, [])), (618, (.aload_n 0, 1, 0, 0, 0, [])), (619, (.iload_n 3, 1, 3, 0, 0, [])), (620, (.iconst 3, 1, 0, 0, 3, [])), (621, (.iadd, 1, 0, 0, 0, [])), (622, (.iaload, 1, 0, 0, 0, [])), (623, (.ifCond .eq 7, 3, 630, 0, 0, [])), (626, (.iconst 1, 1, 0, 0, 1, [])), (627, (.goto 4, 3, 631, 0, 0, [])), (630, (.iconst 0, 1, 0, 0, 0, [])), (631, (.invokevirtual 79, 3, 141, 3, 0, [965, 966, 967, 60, 968])), (634, (.if_icmp .eq 495, 3, 1129, 0, 0, [])), (637, (.iconst 0, 1, 0, 0, 0, [])), (638, (.ireturn, 1, 0, 0, 0, [])), (639, (.aload_n 1, 1, 1, 0, 0, []))]
def fj_i164_16 : List (Nat × fj_AI) := [(640, (.aload_n 0, 1, 0, 0, 0, [])), (641, (.iload_n 3, 1, 3, 0, 0, [])), (642, (.iconst 1, 1, 0, 0, 1, [])), (643, (.iadd, 1, 0, 0, 0, [])), (644, (.iaload, 1, 0, 0, 0, [])), (645, (.invokevirtual 80, 3, 75, 1, 0, [534, 535, 536, 53, 537])), (648, (.aload_n 2, 1, 2, 0, 0, [])), (649, (.aload_n 0, 1, 0, 0, 0, [])), (650, (.iload_n 3, 1, 3, 0, 0, [])), (651, (.iconst 1, 1, 0, 0, 1, [])), (652, (.iadd, 1, 0, 0, 0, [])), (653, (.iaload, 1, 0, 0, 0, [])), (654, (.invokevirtual 83, 3, 142, 1, 0, [969, 970, 971, 60, 972])), (657, (.if_icmp .eq 472, 3, 1129, 0, 0, [])), (660, (.iconst 0, 1, 0, 0, 0, [])), (661, (.ireturn, 1, 0, 0, 0, [])), (662, (.aload_n 1, 1, 1, 0, 0, [])), (663, (.invokevirtual 84, 3, 76, 0, 0, [538, 539, 540, 53, 541])), (666, (.aload_n 2, 1, 2, 0, 0, [])), (667, (.invokevirtual 87, 3, 144, 0, 0, [973, 974, 975, 60, 976])), (670, (.if_icmp .eq 459, 3, 1129, 0, 0, [])), (673, (.iconst 0, 1, 0, 0, 0, [])), (674, (.ireturn, 1, 0, 0, 0, [])), (675, (.aload_n 1, 1, 1, 0, 0, []))]
def fj_i164_17 : List (Nat × fj_AI) := [(676, (.aload_n 0, 1, 0, 0, 0, [])), (677, (.iload_n 3, 1, 3, 0, 0, [])), (678, (.iconst 1, 1, 0, 0, 1, [])), (679, (.iadd, 1, 0, 0, 0, [])), (680, (.iaload, 1, 0, 0, 0, [])), (681, (.invokevirtual 88, 3, 77, 1, 0, [552, 553, 554, 53, 555])), (684, (.aload_n 2, 1, 2, 0, 0, [])), (685, (.aload_n 0, 1, 0, 0, 0, [])), (686, (.iload_n 3, 1, 3, 0, 0, [])), (687, (.iconst 1, 1, 0, 0, 1, [])), (688, (.iadd, 1, 0, 0, 0, [])), (689, (.iaload, 1, 0, 0, 0, [])), (690, (.invokevirtual 91, 3, 145, 1, 0, [981, 982, 983, 60, 984])), (693, (.if_icmp .eq 436, 3, 1129, 0, 0, [])), (696, (.iconst 0, 1, 0, 0, 0, [])), (697, (.ireturn, 1, 0, 0, 0, [])), (698, (.aload_n 1, 1, 1, 0, 0, [])), (699, (.aload_n 0, 1, 0, 0, 0, [])), (700, (.iload_n 3, 1, 3, 0, 0, [])), (701, (.iconst 1, 1, 0, 0, 1, [])), (702, (.iadd, 1, 0, 0, 0, [])), (703, (.iaload, 1, 0, 0, 0, [])), (704, (.invokevirtual 92, 3, 78, 1, 0, [560, 561, 562, 53, 563])), (707, (.aload_n 2, 1, 2, 0, 0, []))]
def fj_i164_18 : List (Nat × fj_AI) := [(708, (.aload_n 0, 1, 0, 0, 0, [])), (709, (.iload_n 3, 1, 3, 0, 0, [])), (710, (.iconst 1, 1, 0, 0, 1, [])), (711, (.iadd, 1, 0, 0, 0, [])), (712, (.iaload, 1, 0, 0, 0, [])), (713, (.invokevirtual 95, 3, 146, 1, 0, [985, 986, 987, 60, 988])), (716, (.if_icmp .eq 413, 3, 1129, 0, 0, [])), (719, (.iconst 0, 1, 0, 0, 0, [])), (720, (.ireturn, 1, 0, 0, 0, [])), (721, (.aload_n 1, 1, 1, 0, 0, [])), (722, (.aload_n 0, 1, 0, 0, 0, [])), (723, (.iload_n 3, 1, 3, 0, 0, [])), (724, (.iconst 1, 1, 0, 0, 1, [])), (725, (.iadd, 1, 0, 0, 0, [])), (726, (.iaload, 1, 0, 0, 0, [])), (727, (.aload_n 0, 1, 0, 0, 0, [])), (728, (.iload_n 3, 1, 3, 0, 0, [])), (729, (.iconst 2, 1, 0, 0, 2, [])), (730, (.iadd, 1, 0, 0, 0, [])), (731, (.iaload, 1, 0, 0, 0, [])), (732, (.aload_n 0, 1, 0, 0, 0, [])), (733, (.iload_n 3, 1, 3, 0, 0, [])), (734, (.iconst 3, 1, 0, 0, 3, [])), (735, (.iadd, 1, 0, 0, 0, []))]
def fj_i164_19 : List (Nat × fj_AI) := [(736, (.iaload, 1, 0, 0, 0, [])), (737, (.aload_n 0, 1, 0, 0, 0, [])), (738, (.iload_n 3, 1, 3, 0, 0, [])), (739, (.iconst 4, 1, 0, 0, 4, [])), (740, (.iadd, 1, 0, 0, 0, [])), (741, (.iaload, 1, 0, 0, 0, [])), (742, (.aload_n 0, 1, 0, 0, 0, [])), (743, (.iload_n 3, 1, 3, 0, 0, [])), (744, (.iconst 5, 1, 0, 0, 5, [])), (745, (.iadd, 1, 0, 0, 0, [])), (746, (.iaload, 1, 0, 0, 0, [])), (747, (.invokevirtual 96, 3, 79, 5, 0, [564, 565, 566, 53, 567])), (750, (.aload_n 2, 1, 2, 0, 0, [])), (751, (.aload_n 0, 1, 0, 0, 0, [])), (752, (.iload_n 3, 1, 3, 0, 0, [])), (753, (.iconst 1, 1, 0, 0, 1, [])), (754, (.iadd, 1, 0, 0, 0, [])), (755, (.iaload, 1, 0, 0, 0, [])), (756, (.aload_n 0, 1, 0, 0, 0, [])), (757, (.iload_n 3, 1, 3, 0, 0, [])), (758, (.iconst 2, 1, 0, 0, 2, [])), (759, (.iadd, 1, 0, 0, 0, [])), (760, (.iaload, 1, 0, 0, 0, [])), (761, (.aload_n 0, 1, 0, 0, 0, []))]
def fj_i164_20 : List (Nat × fj_AI) := [(762, (.iload_n 3, 1, 3, 0, 0, [])), (763, (.iconst 3, 1, 0, 0, 3, [])), (764, (.iadd, 1, 0, 0, 0, [])), (765, (.iaload, 1, 0, 0, 0, [])), (766, (.aload_n 0, 1, 0, 0, 0, [])), (767, (.iload_n 3, 1, 3, 0, 0, [])), (768, (.iconst 4, 1, 0, 0, 4, [])), (769, (.iadd, 1, 0, 0, 0, [])), (770, (.iaload, 1, 0, 0, 0, [])), (771, (.aload_n 0, 1, 0, 0, 0, [])), (772, (.iload_n 3, 1, 3, 0, 0, [])), (773, (.iconst 5, 1, 0, 0, 5, [])), (774, (.iadd, 1, 0, 0, 0, [])), (775, (.iaload, 1, 0, 0, 0, [])), (776, (.invokevirtual 100, 3, 147, 5, 0, [989, 990, 991, 60, 992])), (779, (.lcmp, 1, 0, 0, 0, [])), (780, (.ifCond .eq 349, 3, 1129, 0, 0, [])), (783, (.iconst 0, 1, 0, 0, 0, [])), (784, (.ireturn, 1, 0, 0, 0, [])), (785, (.aload_n 1, 1, 1, 0, 0, [])), (786, (.aload_n 0, 1, 0, 0, 0, [])), (787, (.iload_n 3, 1, 3, 0, 0, [])), (788, (.iconst 1, 1, 0, 0, 1, [])), (789, (.iadd, 1, 0, 0, 0, []))]
def fj_i164_21 : List (Nat × fj_AI) := [(790, (.iaload, 1, 0, 0, 0, [])), (791, (.aload_n 0, 1, 0, 0, 0, [])), (792, (.iload_n 3, 1, 3, 0, 0, [])), (793, (.iconst 2, 1, 0, 0, 2, [])), (794, (.iadd, 1, 0, 0, 0, [])), (795, (.iaload, 1, 0, 0, 0, [])), (796, (.aload_n 0, 1, 0, 0, 0, [])), (797, (.iload_n 3, 1, 3, 0, 0, [])), (798, (.iconst 3, 1, 0, 0, 3, [])), (799, (.iadd, 1, 0, 0, 0, [])), (800, (.iaload, 1, 0, 0, 0, [])), (801, (.invokevirtual 101, 3, 80, 3, 0, [570, 571, 572, 53, 573])), (804, (.aload_n 2, 1, 2, 0, 0, [])), (805, (.aload_n 0, 1, 0, 0, 0, [])), (806, (.iload_n 3, 1, 3, 0, 0, [])), (807, (.iconst 1, 1, 0, 0, 1, [])), (808, (.iadd, 1, 0, 0, 0, [])), (809, (.iaload, 1, 0, 0, 0, [])), (810, (.aload_n 0, 1, 0, 0, 0, [])), (811, (.iload_n 3, 1, 3, 0, 0, [])), (812, (.iconst 2, 1, 0, 0, 2, [])), (813, (.iadd, 1, 0, 0, 0, [])), (814, (.iaload, 1, 0, 0, 0, [])), (815, (.aload_n 0, 1, 0, 0, 0, []))]
def fj_i164_22 : List (Nat × fj_AI) := [(816, (.iload_n 3, 1, 3, 0, 0, [])), (817, (.iconst 3, 1, 0, 0, 3, [])), (818, (.iadd, 1, 0, 0, 0, [])), (819, (.iaload, 1, 0, 0, 0, [])), (820, (.invokevirtual 105, 3, 149, 3, 0, [1000, 1001, 1002, 60, 1003])), (823, (.if_icmp .eq 306, 3, 1129, 0, 0, [])), (826, (.iconst 0, 1, 0, 0, 0, [])), (827, (.ireturn, 1, 0, 0, 0, [])), (828, (.aload_n 1, 1, 1, 0, 0, [])), (829, (.aload_n 0, 1, 0, 0, 0, [])), (830, (.iload_n 3, 1, 3, 0, 0, [])), (831, (.iconst 1, 1, 0, 0, 1, [])), (832, (.iadd, 1, 0, 0, 0, [])), (833, (.iaload, 1, 0, 0, 0, [])), (834, (.invokevirtual 106, 3, 81, 1, 0, [578, 579, 580, 53, 581])), (837, (.aload_n 2, 1, 2, 0, 0, [])), (838, (.aload_n 0, 1, 0, 0, 0, [])), (839, (.iload_n 3, 1, 3, 0, 0, [])), (840, (.iconst 1, 1, 0, 0, 1, [])), (841, (.iadd, 1, 0, 0, 0, [])), (842, (.iaload, 1, 0, 0, 0, [])), (843, (.invokevirtual 109, 3, 150, 1, 0, [1004, 1005, 1006, 60, 1007])), (846, (.if_icmp .eq 283, 3, 1129, 0, 0, [])), (849, (.iconst 0, 1, 0, 0, 0, []))]
def fj_i164_23 : List (Nat × fj_AI) := [(850, (.ireturn, 1, 0, 0, 0, [])), (851, (.aload_n 1, 1, 1, 0, 0, [])), (852, (.aload_n 0, 1, 0, 0, 0, [])), (853, (.iload_n 3, 1, 3, 0, 0, [])), (854, (.iconst 1, 1, 0, 0, 1, [])), (855, (.iadd, 1, 0, 0, 0, [])), (856, (.iaload, 1, 0, 0, 0, [])), (857, (.aload_n 0, 1, 0, 0, 0, [])), (858, (.iload_n 3, 1, 3, 0, 0, [])), (859, (.iconst 2, 1, 0, 0, 2, [])), (860, (.iadd, 1, 0, 0, 0, [])), (861, (.iaload, 1, 0, 0, 0, [])), (862, (.aload_n 0, 1, 0, 0, 0, [])), (863, (.iload_n 3, 1, 3, 0, 0, [])), (864, (.iconst 3, 1, 0, 0, 3, [])), (865, (.iadd, 1, 0, 0, 0, [])), (866, (.iaload, 1, 0, 0, 0, [])), (867, (.invokevirtual 110, 3, 82, 3, 0, [587, 588, 589, 53, 590])), (870, (.aload_n 2, 1, 2, 0, 0, [])), (871, (.aload_n 0, 1, 0, 0, 0, [])), (872, (.iload_n 3, 1, 3, 0, 0, [])), (873, (.iconst 1, 1, 0, 0, 1, [])), (874, (.iadd, 1, 0, 0, 0, [])), (875, (.iaload, 1, 0, 0, 0, []))]
def fj_i164_24 : List (Nat × fj_AI) := [(876, (.aload_n 0, 1, 0, 0, 0, [])), (877, (.iload_n 3, 1, 3, 0, 0, [])), (878, (.iconst 2, 1, 0, 0, 2, [])), (879, (.iadd, 1, 0, 0, 0, [])), (880, (.iaload, 1, 0, 0, 0, [])), (881, (.aload_n 0, 1, 0, 0, 0, [])), (882, (.iload_n 3, 1, 3, 0, 0, [])), (883, (.iconst 3, 1, 0, 0, 3, [])), (884, (.iadd, 1, 0, 0, 0, [])), (885, (.iaload, 1, 0, 0, 0, [])), (886, (.invokevirtual 113, 3, 152, 3, 0, [1008, 1009, 1010, 60, 1011])), (889, (.if_icmp .eq 240, 3, 1129, 0, 0, [])), (892, (.iconst 0, 1, 0, 0, 0, [])), (893, (.ireturn, 1, 0, 0, 0, [])), (894, (.aload_n 1, 1, 1, 0, 0, [])), (895, (.aload_n 0, 1, 0, 0, 0, [])), (896, (.iload_n 3, 1, 3, 0, 0, [])), (897, (.iconst 1, 1, 0, 0, 1, [])), (898, (.iadd, 1, 0, 0, 0, [])), (899, (.iaload, 1, 0, 0, 0, [])), (900, (.aload_n 0, 1, 0, 0, 0, [])), (901, (.iload_n 3, 1, 3, 0, 0, [])), (902, (.iconst 2, 1, 0, 0, 2, [])), (903, (.iadd, 1, 0, 0, 0, []))]
def fj_i164_25 : List (Nat × fj_AI) := [(904, (.iaload, 1, 0, 0, 0, [])), (905, (.aload_n 0, 1, 0, 0, 0, [])), (906, (.iload_n 3, 1, 3, 0, 0, [])), (907, (.iconst 3, 1, 0, 0, 3, [])), (908, (.iadd, 1, 0, 0, 0, [])), (909, (.iaload, 1, 0, 0, 0, [])), (910, (.invokevirtual 114, 3, 83, 3, 0, [602, 603, 604, 53, 605])), (913, (.aload_n 2, 1, 2, 0, 0, [])), (914, (.aload_n 0, 1, 0, 0, 0, [])), (915, (.iload_n 3, 1, 3, 0, 0, [])), (916, (.iconst 1, 1, 0, 0, 1, [])), (917, (.iadd, 1, 0, 0, 0, [])), (918, (.iaload, 1, 0, 0, 0, [])), (919, (.aload_n 0, 1, 0, 0, 0, [])), (920, (.iload_n 3, 1, 3, 0, 0, [])), (921, (.iconst 2, 1, 0, 0, 2, [])), (922, (.iadd, 1, 0, 0, 0, [])), (923, (.iaload, 1, 0, 0, 0, [])), (924, (.aload_n 0, 1, 0, 0, 0, [])), (925, (.iload_n 3, 1, 3, 0, 0, [])), (926, (.iconst 3, 1, 0, 0, 3, [])), (927, (.iadd, 1, 0, 0, 0, [])), (928, (.iaload, 1, 0, 0, 0, [])), (929, (.invokevirtual 118, 3, 153, 3, 0, [1016, 1017, 1018, 60, 1019]))]
def fj_i164_26 : List (Nat × fj_AI) := [(932, (.lcmp, 1, 0, 0, 0, [])), (933, (.ifCond .eq 196, 3, 1129, 0, 0, [])), (936, (.iconst 0, 1, 0, 0, 0, [])), (937, (.ireturn, 1, 0, 0, 0, [])), (938, (.aload_n 1, 1, 1, 0, 0, [])), (939, (.aload_n 0, 1, 0, 0, 0, [])), (940, (.iload_n 3, 1, 3, 0, 0, [])), (941, (.iconst 1, 1, 0, 0, 1, [])), (942, (.iadd, 1, 0, 0, 0, [])), (943, (.iaload, 1, 0, 0, 0, [])), (944, (.aload_n 0, 1, 0, 0, 0, [])), (945, (.iload_n 3, 1, 3, 0, 0, [])), (946, (.iconst 2, 1, 0, 0, 2, [])), (947, (.iadd, 1, 0, 0, 0, [])), (948, (.iaload, 1, 0, 0, 0, [])), (949, (.aload_n 0, 1, 0, 0, 0, [])), (950, (.iload_n 3, 1, 3, 0, 0, [])), (951, (.iconst 3, 1, 0, 0, 3, [])), (952, (.iadd, 1, 0, 0, 0, [])), (953, (.iaload, 1, 0, 0, 0, [])), (954, (.aload_n 0, 1, 0, 0, 0, [])), (955, (.iload_n 3, 1, 3, 0, 0, [])), (956, (.iconst 4, 1, 0, 0, 4, [])), (957, (.iadd, 1, 0, 0, 0, []))]
def fj_i164_27 : List (Nat × fj_AI) := [(958, (.iaload, 1, 0, 0, 0, [])), (959, (.aload_n 0, 1, 0, 0, 0, [])), (960, (.iload_n 3, 1, 3, 0, 0, [])), (961, (.iconst 5, 1, 0, 0, 5, [])), (962, (.iadd, 1, 0, 0, 0, [])), (963, (.iaload, 1, 0, 0, 0, [])), (964, (.invokevirtual 119, 3, 84, 5, 0, [607, 608, 609, 53, 610])), (967, (.aload_n 2, 1, 2, 0, 0, [])), (968, (.aload_n 0, 1, 0, 0, 0, [])), (969, (.iload_n 3, 1, 3, 0, 0, [])), (970, (.iconst 1, 1, 0, 0, 1, [])), (971, (.iadd, 1, 0, 0, 0, [])), (972, (.iaload, 1, 0, 0, 0, [])), (973, (.aload_n 0, 1, 0, 0, 0, [])), (974, (.iload_n 3, 1, 3, 0, 0, [])), (975, (.iconst 2, 1, 0, 0, 2, [])), (976, (.iadd, 1, 0, 0, 0, [])), (977, (.iaload, 1, 0, 0, 0, [])), (978, (.aload_n 0, 1, 0, 0, 0, [])), (979, (.iload_n 3, 1, 3, 0, 0, [])), (980, (.iconst 3, 1, 0, 0, 3, [])), (981, (.iadd, 1, 0, 0, 0, [])), (982, (.iaload, 1, 0, 0, 0, [])), (983, (.aload_n 0, 1, 0, 0, 0, []))]
def fj_i164_28 : List (Nat × fj_AI) := [(984, (.iload_n 3, 1, 3, 0, 0, [])), (985, (.iconst 4, 1, 0, 0, 4, [])), (986, (.iadd, 1, 0, 0, 0, [])), (987, (.iaload, 1, 0, 0, 0, [])), (988, (.aload_n 0, 1, 0, 0, 0, [])), (989, (.iload_n 3, 1, 3, 0, 0, [])), (990, (.iconst 5, 1, 0, 0, 5, [])), (991, (.iadd, 1, 0, 0, 0, [])), (992, (.iaload, 1, 0, 0, 0, [])), (993, (.invokevirtual 122, 3, 155, 5, 0, [1024, 1025, 1026, 60, 1027])), (996, (.if_icmp .eq 133, 3, 1129, 0, 0, [])), (999, (.iconst 0, 1, 0, 0, 0, [])), (1000, (.ireturn, 1, 0, 0, 0, [])), (1001, (.aload_n 1, 1, 1, 0, 0, [])), (1002, (.aload_n 0, 1, 0, 0, 0, [])), (1003, (.iload_n 3, 1, 3, 0, 0, [])), (1004, (.iconst 1, 1, 0, 0, 1, [])), (1005, (.iadd, 1, 0, 0, 0, [])), (1006, (.iaload, 1, 0, 0, 0, [])), (1007, (.invokevirtual 123, 3, 85, 1, 0, [622, 623, 624, 53, 625])), (1010, (.aload_n 2, 1, 2, 0, 0, [])), (1011, (.aload_n 0, 1, 0, 0, 0, [])), (1012, (.iload_n 3, 1, 3, 0, 0, [])), (1013, (.iconst 1, 1, 0, 0, 1, []))]
def fj_i164_29 : List (Nat × fj_AI) := [(1014, (.iadd, 1, 0, 0, 0, [])), (1015, (.iaload, 1, 0, 0, 0, [])), (1016, (.invokevirtual 126, 3, 157, 1, 0, [1028, 1029, 1030, 60, 1031])), (1019, (.if_icmp .eq 110, 3, 1129, 0, 0, [])), (1022, (.iconst 0, 1, 0, 0, 0, [])), (1023, (.ireturn, 1, 0, 0, 0, [])), (1024, (.aload_n 1, 1, 1, 0, 0, [])), (1025, (.aload_n 0, 1, 0, 0, 0, [])), (1026, (.iload_n 3, 1, 3, 0, 0, [])), (1027, (.iconst 1, 1, 0, 0, 1, [])), (1028, (.iadd, 1, 0, 0, 0, [])), (1029, (.iaload, 1, 0, 0, 0, [])), (1030, (.invokevirtual 127, 3, 89, 1, 0, [642, 643, 644, 53, 645])), (1033, (.aload_n 2, 1, 2, 0, 0, [])), (1034, (.aload_n 0, 1, 0, 0, 0, [])), (1035, (.iload_n 3, 1, 3, 0, 0, [])), (1036, (.iconst 1, 1, 0, 0, 1, [])), (1037, (.iadd, 1, 0, 0, 0, [])), (1038, (.iaload, 1, 0, 0, 0, [])), (1039, (.invokevirtual 130, 3, 158, 1, 0, [1036, 1037, 1038, 60, 1039])), (1042, (.if_icmp .eq 87, 3, 1129, 0, 0, [])), (1045, (.iconst 0, 1, 0, 0, 0, [])), (1046, (.ireturn, 1, 0, 0, 0, [])), (1047, (.aload_n 1, 1, 1, 0, 0, []))]
def fj_i164_30 : List (Nat × fj_AI) := [(1048, (.aload_n 0, 1, 0, 0, 0, [])), (1049, (.iload_n 3, 1, 3, 0, 0, [])), (1050, (.iconst 1, 1, 0, 0, 1, [])), (1051, (.iadd, 1, 0, 0, 0, [])), (1052, (.iaload, 1, 0, 0, 0, [])), (1053, (.aload_n 0, 1, 0, 0, 0, [])), (1054, (.iload_n 3, 1, 3, 0, 0, [])), (1055, (.iconst 2, 1, 0, 0, 2, [])), (1056, (.iadd, 1, 0, 0, 0, [])), (1057, (.iaload, 1, 0, 0, 0, [])), (1058, (.invokevirtual 131, 3, 91, 2, 0, [646, 647, 648, 53, 649])), (1061, (.aload_n 2, 1, 2, 0, 0, [])), (1062, (.aload_n 0, 1, 0, 0, 0, [])), (1063, (.iload_n 3, 1, 3, 0, 0, [])), (1064, (.iconst 1, 1, 0, 0, 1, [])), (1065, (.iadd, 1, 0, 0, 0, [])), (1066, (.iaload, 1, 0, 0, 0, [])), (1067, (.aload_n 0, 1, 0, 0, 0, [])), (1068, (.iload_n 3, 1, 3, 0, 0, [])), (1069, (.iconst 2, 1, 0, 0, 2, [])), (1070, (.iadd, 1, 0, 0, 0, [])), (1071, (.iaload, 1, 0, 0, 0, [])), (1072, (.invokevirtual 134, 3, 159, 2, 0, [1040, 1041, 1042, 60, 1043])), (1075, (.if_icmp .eq 54, 3, 1129, 0, 0, []))]
def fj_i164_31 : List (Nat × fj_AI) := [(1078, (.iconst 0, 1, 0, 0, 0, [])), (1079, (.ireturn, 1, 0, 0, 0, [])), (1080, (.aload_n 1, 1, 1, 0, 0, [])), (1081, (.invokevirtual 135, 3, 92, 0, 0, [650, 651, 652, 53, 653])), (1084, (.aload_n 2, 1, 2, 0, 0, [])), (1085, (.invokevirtual 138, 3, 160, 0, 0, [1044, 1045, 1046, 60, 1047])), (1088, (.if_icmp .eq 41, 3, 1129, 0, 0, [])), (1091, (.iconst 0, 1, 0, 0, 0, [])), (1092, (.ireturn, 1, 0, 0, 0, [])), (1093, (.aload_n 1, 1, 1, 0, 0, [])), (1094, (.invokevirtual 139, 3, 93, 0, 0, [654, 655, 656, 53, 657])), (1097, (.aload_n 2, 1, 2, 0, 0, [])), (1098, (.invokevirtual 142, 3, 161, 0, 0, [1048, 1049, 1050, 60, 1051])), (1101, (.if_icmp .eq 28, 3, 1129, 0, 0, [])), (1104, (.iconst 0, 1, 0, 0, 0, [])), (1105, (.ireturn, 1, 0, 0, 0, [])), (1106, (.aload_n 1, 1, 1, 0, 0, [])), (1107, (.aload_n 0, 1, 0, 0, 0, [])), (1108, (.iload_n 3, 1, 3, 0, 0, [])), (1109, (.iconst 1, 1, 0, 0, 1, [])), (1110, (.iadd, 1, 0, 0, 0, [])), (1111, (.iaload, 1, 0, 0, 0, [])), (1112, (.invokevirtual 143, 3, 94, 1, 0, [658, 659, 660, 53, 661])), (1115, (.aload_n 2, 1, 2, 0, 0, []))]
def fj_i164_32 : List (Nat × fj_AI) := [(1116, (.aload_n 0, 1, 0, 0, 0, [])), (1117, (.iload_n 3, 1, 3, 0, 0, [])), (1118, (.iconst 1, 1, 0, 0, 1, [])), (1119, (.iadd, 1, 0, 0, 0, [])), (1120, (.iaload, 1, 0, 0, 0, [])), (1121, (.invokevirtual 146, 3, 162, 1, 0, [1052, 1053, 1054, 60, 1055])), (1124, (.if_icmp .eq 5, 3, 1129, 0, 0, [])), (1127, (.iconst 0, 1, 0, 0, 0, [])), (1128, (.ireturn, 1, 0, 0, 0, [])), (1129, (.iinc 3 6, 3, 3, 0, 6, [])), (1132, (.goto (-1114), 3, 18, 0, 0, [])), (1135, (.iconst 1, 1, 0, 0, 1, [])), (1136, (.ireturn, 1, 0, 0, 0, []))]
def fj_i164 : List (Nat × fj_AI) := fj_i164_0 ++ (fj_i164_1 ++ (fj_i164_2 ++ (fj_i164_3 ++ (fj_i164_4 ++ (fj_i164_5 ++ (fj_i164_6 ++ (fj_i164_7 ++ (fj_i164_8 ++ (fj_i164_9 ++ (fj_i164_10 ++ (fj_i164_11 ++ (fj_i164_12 ++ (fj_i164_13 ++ (fj_i164_14 ++ (fj_i164_15 ++ (fj_i164_16 ++ (fj_i164_17 ++ (fj_i164_18 ++ (fj_i164_19 ++ (fj_i164_20 ++ (fj_i164_21 ++ (fj_i164_22 ++ (fj_i164_23 ++ (fj_i164_24 ++ (fj_i164_25 ++ (fj_i164_26 ++ (fj_i164_27 ++ (fj_i164_28 ++ (fj_i164_29 ++ (fj_i164_30 ++ (fj_i164_31 ++ (fj_i164_32))))))))))))))))))))))))))))))))
/-- a method: name, code, locals, return, class, a constructor, frames, words of locals, instructions -/
abbrev fj_MT : Type := MethodName × ByteArray × Nat × Option FieldType × String × Bool × Nat × Nat × List (Nat × fj_AI)
def fj_m_0 : List fj_MT := [(yX0_init, cX0_init, 1, none, RX0, true, 1, 20, fj_i0), (yX0_find, cX0_find, 4, none, RX0, false, 4, 90, fj_i1), (yX0_firstUnheard, cX0_firstUnheard, 5, (some .int), RX0, false, 3, 66, fj_i2), (yX1_init, cX1_init, 1, none, RX1, true, 1, 20, fj_i3), (yX1_add, cX1_add, 4, (some .int), RX1, false, 0, 0, fj_i4), (yX1_allSo, cX1_allSo, 3, (some .boolean), RX1, false, 3, 68, fj_i5), (yX1_allSoIf, cX1_allSoIf, 8, (some .boolean), RX1, false, 3, 68, fj_i6), (yX1_isSo, cX1_isSo, 6, (some .boolean), RX1, false, 2, 43, fj_i7), (yX2_init, cX2_init, 1, none, RX2, true, 1, 20, fj_i8), (yX2_leastMinutes, cX2_leastMinutes, 5, (some .int), RX2, false, 5, 121, fj_i9), (yX2_largestBy, cX2_largestBy, 7, (some .int), RX2, false, 5, 121, fj_i10), (yX2_spread, cX2_spread, 5, none, RX2, false, 4, 97, fj_i11), (yX2_isQuiet, cX2_isQuiet, 3, (some .boolean), RX2, false, 0, 0, fj_i12), (yX2_begin, cX2_begin, 4, none, RX2, false, 3, 66, fj_i13), (yX2_leastIn, cX2_leastIn, 4, (some .int), RX2, false, 1, 21, fj_i14), (yX2_pourOn, cX2_pourOn, 10, none, RX2, false, 3, 68, fj_i15), (yX2_minutesByOil, cX2_minutesByOil, 6, (some .int), RX2, false, 2, 43, fj_i16), (yX2_offer, cX2_offer, 6, none, RX2, false, 1, 21, fj_i17), (yX3_init, cX3_init, 1, none, RX3, true, 1, 20, fj_i18), (yX3_isSheet, cX3_isSheet, 1, (some .boolean), RX3, false, 0, 0, fj_i19)]
def fj_m_1 : List fj_MT := [(yX3_isLane, cX3_isLane, 1, (some .boolean), RX3, false, 0, 0, fj_i20), (yX3_isBare, cX3_isBare, 2, (some .boolean), RX3, false, 0, 0, fj_i21), (yX3_areAlike, cX3_areAlike, 3, (some .boolean), RX3, false, 0, 0, fj_i22), (yX3_faultOfRow, cX3_faultOfRow, 3, (some .int), RX3, false, 1, 21, fj_i23), (yX3_hasCell, cX3_hasCell, 3, (some .boolean), RX3, false, 0, 0, fj_i24), (yX3_hasCells, cX3_hasCells, 4, (some .boolean), RX3, false, 0, 0, fj_i25), (yX3_renew, cX3_renew, 5, none, RX3, false, 0, 0, fj_i26), (yX3_bare, cX3_bare, 2, none, RX3, false, 0, 0, fj_i27), (yX3_at, cX3_at, 3, (some .int), RX3, false, 0, 0, fj_i28), (yX3_write, cX3_write, 4, none, RX3, false, 1, 21, fj_i29), (yX3_cut, cX3_cut, 2, (some .int), RX3, false, 0, 0, fj_i30), (yX3_move, cX3_move, 6, none, RX3, false, 1, 35, fj_i31), (yX3_lift, cX3_lift, 6, none, RX3, false, 1, 22, fj_i32), (yX4_init, cX4_init, 1, none, RX4, true, 1, 20, fj_i33), (yX4_go, cX4_go, 6, none, RX4, false, 4, 90, fj_i34), (yX4_stands, cX4_stands, 2, (some .boolean), RX4, false, 0, 0, fj_i35), (yX4_fill, cX4_fill, 3, none, RX4, false, 3, 65, fj_i36), (yX4_walkTo, cX4_walkTo, 3, none, RX4, false, 2, 43, fj_i37), (yX4_pour, cX4_pour, 5, none, RX4, false, 3, 66, fj_i38), (yX5_init, cX5_init, 1, none, RX5, true, 1, 20, fj_i39)]
def fj_m_2 : List fj_MT := [(yX5_stands, cX5_stands, 1, (some .boolean), RX5, false, 0, 0, fj_i40), (yX5_isCell, cX5_isCell, 2, (some .boolean), RX5, false, 0, 0, fj_i41), (yX5_isMan, cX5_isMan, 2, (some .boolean), RX5, false, 0, 0, fj_i42), (yX5_sleeps, cX5_sleeps, 2, (some .boolean), RX5, false, 0, 0, fj_i43), (yX5_readText, cX5_readText, 9, (some .int), RX5, false, 2, 48, fj_i44), (yX5_clear, cX5_clear, 1, none, RX5, false, 0, 0, fj_i45), (yX5_codeAt, cX5_codeAt, 3, (some .int), RX5, false, 0, 0, fj_i46), (yX5_readCell, cX5_readCell, 7, (some .int), RX5, false, 1, 22, fj_i47), (yX5_kindOf, cX5_kindOf, 1, (some .int), RX5, false, 0, 0, fj_i48), (yX5_addOil, cX5_addOil, 1, none, RX5, false, 0, 0, fj_i49), (yX5_addMan, cX5_addMan, 3, none, RX5, false, 0, 0, fj_i50), (yX5_addCell, cX5_addCell, 3, none, RX5, false, 0, 0, fj_i51), (yX5_apart, cX5_apart, 3, (some .int), RX5, false, 1, 21, fj_i52), (yX5_reach, cX5_reach, 2, (some .int), RX5, false, 0, 0, fj_i53), (yX5_hearersAt, cX5_hearersAt, 4, (some .int), RX5, false, 2, 43, fj_i54), (yX5_areSteps, cX5_areSteps, 4, (some .boolean), RX5, false, 1, 21, fj_i55), (yX5_isOil, cX5_isOil, 2, (some .boolean), RX5, false, 0, 0, fj_i56), (yX6_init, cX6_init, 1, none, RX6, true, 2, 40, fj_i57), (yX6_yard, cX6_yard, 6, (some .int), RX6, false, 4, 99, fj_i58), (yX6_takeText, cX6_takeText, 4, (some .int), RX6, false, 3, 76, fj_i59)]
def fj_m_3 : List fj_MT := [(yX6_inside, cX6_inside, 2, (some .int), RX6, false, 1, 21, fj_i60), (yX6_ofMan, cX6_ofMan, 3, (some .int), RX6, false, 1, 21, fj_i61), (yX6_far, cX6_far, 3, (some .int), RX6, false, 2, 43, fj_i62), (yX6_can, cX6_can, 3, (some .int), RX6, false, 1, 20, fj_i63), (yX6_delay, cX6_delay, 3, (some .int), RX6, false, 1, 20, fj_i64), (yX6_doze, cX6_doze, 3, (some .int), RX6, false, 1, 21, fj_i65), (yX6_ears, cX6_ears, 2, (some .int), RX6, false, 3, 66, fj_i66), (yX6_plan, cX6_plan, 7, (some .int), RX6, false, 6, 141, fj_i67), (yX6_walkPlan, cX6_walkPlan, 7, (some .int), RX6, false, 5, 115, fj_i68), (yX6_quiet, cX6_quiet, 2, (some .int), RX6, false, 5, 113, fj_i69), (yX6_stuck, cX6_stuck, 1, (some .int), RX6, false, 5, 113, fj_i70), (yX6_soonest, cX6_soonest, 1, (some .int), RX6, false, 6, 145, fj_i71), (yX6_most, cX6_most, 1, (some .int), RX6, false, 6, 147, fj_i72), (yX6_without, cX6_without, 2, (some .int), RX6, false, 6, 145, fj_i73), (yX6_reading, cX6_reading, 4, (some .int), RX6, false, 1, 23, fj_i74), (yX6_back, cX6_back, 2, (some .int), RX6, false, 0, 0, fj_i75), (yX6_holds, cX6_holds, 1, (some .int), RX6, false, 4, 90, fj_i76), (yX6_hearing, cX6_hearing, 4, (some .int), RX6, false, 4, 95, fj_i77), (yX6_kinds, cX6_kinds, 4, (some .int), RX6, false, 4, 95, fj_i78), (yX6_odds, cX6_odds, 7, (some .long), RX6, false, 6, 141, fj_i79)]
def fj_m_4 : List fj_MT := [(yX6_sheet, cX6_sheet, 4, (some .int), RX6, false, 1, 24, fj_i80), (yX6_lose, cX6_lose, 2, (some .int), RX6, false, 1, 21, fj_i81), (yX6_put, cX6_put, 4, (some .int), RX6, false, 2, 44, fj_i82), (yX6_cell, cX6_cell, 4, (some .long), RX6, false, 2, 43, fj_i83), (yX6_copy, cX6_copy, 6, (some .int), RX6, false, 2, 60, fj_i84), (yX6_tell, cX6_tell, 2, (some .int), RX6, false, 4, 85, fj_i85), (yX6_manTells, cX6_manTells, 2, (some .int), RX6, false, 1, 21, fj_i86), (yX6_watchfulTells, cX6_watchfulTells, 2, (some .int), RX6, false, 2, 42, fj_i87), (yX6_chiefTells, cX6_chiefTells, 3, (some .int), RX6, false, 3, 63, fj_i88), (yX6_ask, cX6_ask, 2, (some .int), RX6, false, 1, 21, fj_i89), (yX6_leaveTrace, cX6_leaveTrace, 2, none, RX6, false, 0, 0, fj_i90), (yX6_as, cX6_as, 3, (some .int), RX6, false, 1, 21, fj_i91), (yX6_trace, cX6_trace, 1, (some .int), RX6, false, 0, 0, fj_i92), (yX6_fault, cX6_fault, 1, (some .int), RX6, false, 0, 0, fj_i93), (yX6_many, cX6_many, 2, (some .int), RX6, false, 0, 0, fj_i94), (yX6_faulty, cX6_faulty, 2, (some .int), RX6, false, 0, 0, fj_i95), (yX7_init, cX7_init, 2, none, RX7, true, 1, 20, fj_i96), (yX7_in, cX7_in, 6, (some .boolean), RX7, false, 0, 0, fj_i97), (yX7_lost, cX7_lost, 0, (some .long), RX7, false, 0, 0, fj_i98), (yX7_isIn, cX7_isIn, 2, (some .boolean), RX7, false, 0, 0, fj_i99)]
def fj_m_5 : List fj_MT := [(yX7_bits, cX7_bits, 3, (some .int), RX7, false, 0, 0, fj_i100), (yX7_told, cX7_told, 11, (some .long), RX7, false, 0, 0, fj_i101), (yX7_refused, cX7_refused, 2, (some .int), RX7, false, 0, 0, fj_i102), (yX7_failed, cX7_failed, 2, (some .int), RX7, false, 0, 0, fj_i103), (yX7_failedLong, cX7_failedLong, 2, (some .long), RX7, false, 1, 19, fj_i104), (yX7_noSpot, cX7_noSpot, 2, (some .boolean), RX7, false, 1, 25, fj_i105), (yX7_noMan, cX7_noMan, 2, (some .boolean), RX7, false, 1, 25, fj_i106), (yX7_all, cX7_all, 1, (some .int), RX7, false, 0, 0, fj_i107), (yX7_codeAt, cX7_codeAt, 3, (some .int), RX7, false, 0, 0, fj_i108), (yX7_figure, cX7_figure, 7, (some .int), RX7, false, 1, 25, fj_i109), (yX7_readsMan, cX7_readsMan, 6, (some .boolean), RX7, false, 2, 51, fj_i110), (yX7_readsCell, cX7_readsCell, 5, (some .boolean), RX7, false, 3, 76, fj_i111), (yX7_readsYard, cX7_readsYard, 5, (some .boolean), RX7, false, 4, 100, fj_i112), (yX7_cellsBarred, cX7_cellsBarred, 6, (some .int), RX7, false, 1, 23, fj_i113), (yX7_yard, cX7_yard, 7, (some .int), RX7, false, 5, 124, fj_i114), (yX7_inside, cX7_inside, 2, (some .int), RX7, false, 2, 46, fj_i115), (yX7_hearsOf, cX7_hearsOf, 3, (some .int), RX7, false, 0, 0, fj_i116), (yX7_ofMan, cX7_ofMan, 3, (some .int), RX7, false, 2, 46, fj_i117), (yX7_farOf, cX7_farOf, 5, (some .int), RX7, false, 0, 0, fj_i118), (yX7_far, cX7_far, 3, (some .int), RX7, false, 2, 46, fj_i119)]
def fj_m_6 : List fj_MT := [(yX7_can, cX7_can, 3, (some .int), RX7, false, 1, 25, fj_i120), (yX7_delay, cX7_delay, 3, (some .int), RX7, false, 1, 25, fj_i121), (yX7_doze, cX7_doze, 4, (some .int), RX7, false, 2, 46, fj_i122), (yX7_hearersAt, cX7_hearersAt, 6, (some .int), RX7, false, 1, 24, fj_i123), (yX7_ears, cX7_ears, 2, (some .int), RX7, false, 2, 49, fj_i124), (yX7_noStep, cX7_noStep, 2, (some .boolean), RX7, false, 2, 46, fj_i125), (yX7_goPlan, cX7_goPlan, 6, none, RX7, false, 2, 49, fj_i126), (yX7_planBarred, cX7_planBarred, 8, (some .int), RX7, false, 3, 67, fj_i127), (yX7_plan, cX7_plan, 7, (some .int), RX7, false, 4, 94, fj_i128), (yX7_layQuiet, cX7_layQuiet, 4, (some .int), RX7, false, 2, 49, fj_i129), (yX7_quiet, cX7_quiet, 2, (some .int), RX7, false, 3, 72, fj_i130), (yX7_stuck, cX7_stuck, 1, (some .int), RX7, false, 3, 72, fj_i131), (yX7_cellOfPlace, cX7_cellOfPlace, 2, (some .int), RX7, false, 0, 0, fj_i132), (yX7_stateOf, cX7_stateOf, 3, (some .int), RX7, false, 0, 0, fj_i133), (yX7_goOn, cX7_goOn, 11, (some .boolean), RX7, false, 2, 49, fj_i134), (yX7_laySoon, cX7_laySoon, 4, none, RX7, false, 3, 79, fj_i135), (yX7_soonestFor, cX7_soonestFor, 6, (some .int), RX7, false, 1, 22, fj_i136), (yX7_soonestOf, cX7_soonestOf, 3, (some .int), RX7, false, 4, 102, fj_i137), (yX7_soonest, cX7_soonest, 1, (some .int), RX7, false, 5, 124, fj_i138), (yX7_most, cX7_most, 4, (some .int), RX7, false, 4, 102, fj_i139)]
def fj_m_7 : List fj_MT := [(yX7_without, cX7_without, 2, (some .int), RX7, false, 5, 124, fj_i140), (yX7_reading, cX7_reading, 4, (some .int), RX7, false, 2, 46, fj_i141), (yX7_back, cX7_back, 2, (some .int), RX7, false, 1, 25, fj_i142), (yX7_areSo, cX7_areSo, 5, (some .boolean), RX7, false, 1, 24, fj_i143), (yX7_holds, cX7_holds, 1, (some .int), RX7, false, 2, 48, fj_i144), (yX7_hearing, cX7_hearing, 5, (some .int), RX7, false, 2, 48, fj_i145), (yX7_kinds, cX7_kinds, 5, (some .int), RX7, false, 2, 48, fj_i146), (yX7_odds, cX7_odds, 10, (some .long), RX7, false, 4, 94, fj_i147), (yX7_noSheet, cX7_noSheet, 1, (some .boolean), RX7, false, 1, 25, fj_i148), (yX7_sheet, cX7_sheet, 5, (some .int), RX7, false, 2, 45, fj_i149), (yX7_lose, cX7_lose, 3, (some .int), RX7, false, 2, 45, fj_i150), (yX7_noCell, cX7_noCell, 3, (some .int), RX7, false, 1, 25, fj_i151), (yX7_put, cX7_put, 4, (some .int), RX7, false, 2, 47, fj_i152), (yX7_cell, cX7_cell, 4, (some .long), RX7, false, 2, 47, fj_i153), (yX7_isBeyond, cX7_isBeyond, 4, (some .boolean), RX7, false, 0, 0, fj_i154), (yX7_copy, cX7_copy, 7, (some .int), RX7, false, 2, 45, fj_i155), (yX7_traced, cX7_traced, 2, none, RX7, false, 0, 0, fj_i156), (yX7_tell, cX7_tell, 4, (some .int), RX7, false, 2, 46, fj_i157), (yX7_ask, cX7_ask, 2, (some .int), RX7, false, 2, 46, fj_i158), (yX7_as, cX7_as, 3, (some .int), RX7, false, 2, 46, fj_i159)]
def fj_m_8 : List fj_MT := [(yX7_trace, cX7_trace, 1, (some .int), RX7, false, 0, 0, fj_i160), (yX7_fault, cX7_fault, 1, (some .int), RX7, false, 0, 0, fj_i161), (yX7_many, cX7_many, 2, (some .int), RX7, false, 0, 0, fj_i162), (yJ6_bitCount_0f7a4, cJ6_bitCount_0f7a4, 1, (some .int), RJ6, false, 0, 0, fj_i163), (yL_law, cL_law, 4, (some .boolean), RL, false, 7, 167, fj_i164)]
def fj_mt : List fj_MT := fj_m_0 ++ fj_m_1 ++ fj_m_2 ++ fj_m_3 ++ fj_m_4 ++ fj_m_5 ++ fj_m_6 ++ fj_m_7 ++ fj_m_8
-- ids: 0=X0_init 1=X0_find 2=X0_firstUnheard 3=X1_init 4=X1_add 5=X1_allSo 6=X1_allSoIf 7=X1_isSo 8=X2_init 9=X2_leastMinutes 10=X2_largestBy 11=X2_spread 12=X2_isQuiet 13=X2_begin 14=X2_leastIn 15=X2_pourOn 16=X2_minutesByOil 17=X2_offer 18=X3_init 19=X3_isSheet 20=X3_isLane 21=X3_isBare 22=X3_areAlike 23=X3_faultOfRow 24=X3_hasCell 25=X3_hasCells 26=X3_renew 27=X3_bare 28=X3_at 29=X3_write 30=X3_cut 31=X3_move 32=X3_lift 33=X4_init 34=X4_go 35=X4_stands 36=X4_fill 37=X4_walkTo 38=X4_pour 39=X5_init 40=X5_stands 41=X5_isCell 42=X5_isMan 43=X5_sleeps 44=X5_readText 45=X5_clear 46=X5_codeAt 47=X5_readCell 48=X5_kindOf 49=X5_addOil 50=X5_addMan 51=X5_addCell 52=X5_apart 53=X5_reach 54=X5_hearersAt 55=X5_areSteps 56=X5_isOil 57=X6_init 58=X6_yard 59=X6_takeText 60=X6_inside 61=X6_ofMan 62=X6_far 63=X6_can 64=X6_delay 65=X6_doze 66=X6_ears 67=X6_plan 68=X6_walkPlan 69=X6_quiet 70=X6_stuck 71=X6_soonest 72=X6_most 73=X6_without 74=X6_reading 75=X6_back 76=X6_holds 77=X6_hearing 78=X6_kinds 79=X6_odds 80=X6_sheet 81=X6_lose 82=X6_put 83=X6_cell 84=X6_copy 85=X6_tell 86=X6_manTells 87=X6_watchfulTells 88=X6_chiefTells 89=X6_ask 90=X6_leaveTrace 91=X6_as 92=X6_trace 93=X6_fault 94=X6_many 95=X6_faulty 96=X7_init 97=X7_in 98=X7_lost 99=X7_isIn 100=X7_bits 101=X7_told 102=X7_refused 103=X7_failed 104=X7_failedLong 105=X7_noSpot 106=X7_noMan 107=X7_all 108=X7_codeAt 109=X7_figure 110=X7_readsMan 111=X7_readsCell 112=X7_readsYard 113=X7_cellsBarred 114=X7_yard 115=X7_inside 116=X7_hearsOf 117=X7_ofMan 118=X7_farOf 119=X7_far 120=X7_can 121=X7_delay 122=X7_doze 123=X7_hearersAt 124=X7_ears 125=X7_noStep 126=X7_goPlan 127=X7_planBarred 128=X7_plan 129=X7_layQuiet 130=X7_quiet 131=X7_stuck 132=X7_cellOfPlace 133=X7_stateOf 134=X7_goOn 135=X7_laySoon 136=X7_soonestFor 137=X7_soonestOf 138=X7_soonest 139=X7_most 140=X7_without 141=X7_reading 142=X7_back 143=X7_areSo 144=X7_holds 145=X7_hearing 146=X7_kinds 147=X7_odds 148=X7_noSheet 149=X7_sheet 150=X7_lose 151=X7_noCell 152=X7_put 153=X7_cell 154=X7_isBeyond 155=X7_copy 156=X7_traced 157=X7_tell 158=X7_ask 159=X7_as 160=X7_trace 161=X7_fault 162=X7_many 163=J6_bitCount_0f7a4 164=L_law
/-- where the code words of the methods stand in lw_tbl -/
def fj_cp : List Nat := [149, 457, 461, 93, 533, 545, 559, 549, 168, 474, 515, 478, 495, 482, 488, 499, 503, 507, 76, 289, 292, 300, 614, 296, 594, 308, 577, 586, 316, 598, 601, 618, 312, 114, 431, 444, 435, 439, 448, 184, 392, 358, 366, 373, 324, 328, 331, 335, 342, 339, 346, 350, 381, 369, 408, 422, 427, 68, 286, 320, 354, 362, 377, 388, 396, 400, 404, 414, 418, 453, 466, 470, 511, 525, 529, 537, 541, 555, 563, 567, 573, 581, 590, 605, 610, 625, 641, 637, 629, 645, 633, 649, 653, 657, 661, 304, 666, 802, 995, 861, 960, 999, 806, 815, 1023, 846, 854, 891, 826, 830, 838, 834, 822, 811, 795, 842, 858, 850, 869, 865, 873, 878, 883, 895, 887, 909, 913, 904, 899, 921, 917, 925, 949, 941, 945, 937, 953, 933, 929, 957, 964, 968, 972, 980, 976, 984, 988, 992, 798, 1003, 1007, 1015, 1011, 1019, 818, 1027, 1035, 1031, 1039, 1043, 1047, 1051, 1055, 518]
/-- where the words of the fields stand -/
def fj_lp : List (List Nat) := [[157, 159, 161], [100, 102, 104, 106], [173, 175, 177], [81, 83, 85], [130, 132, 134, 136, 138, 140, 142], [225, 227, 229, 231, 233, 235, 237, 239, 241, 243, 245, 247, 249], [262, 264, 266, 268, 270, 272, 274, 276, 278, 280], [709, 711, 713, 715, 717, 719, 721, 723, 725, 727, 729, 731, 733, 735, 737, 739, 741, 743, 745, 747, 749, 751, 753, 755, 757, 759, 761, 763, 765, 767, 769, 771, 773, 775, 777, 779, 781, 783, 785, 787, 789]]
def fj_np : List Nat := [74, 91, 112, 147, 166, 182]
def fj_ap : List Nat := [88, 109]
/-- a dummy method -/
def fj_d0 : fj_MT := (⟨"", "", ""⟩, ⟨#[]⟩, 0, none, "", false, 0, 0, [])
def fj_me (y : Nat) : fj_MT := fj_mt.getD y fj_d0
def fj_yn (y : Nat) : MethodName := (fj_me y).1
def fj_bc (y : Nat) : ByteArray := (fj_me y).2.1
def fj_ml (y : Nat) : Nat := (fj_me y).2.2.1
def fj_rt (y : Nat) : Option FieldType := (fj_me y).2.2.2.1
def fj_ow (y : Nat) : String := (fj_me y).2.2.2.2.1
def fj_ini (y : Nat) : Bool := (fj_me y).2.2.2.2.2.1
def fj_fr (y : Nat) : Nat := (fj_me y).2.2.2.2.2.2.1
def fj_lo (y : Nat) : Nat := (fj_me y).2.2.2.2.2.2.2.1
def fj_cd (y pc : Nat) : Option fj_AI := (fj_me y).2.2.2.2.2.2.2.2.lookup pc
end
section
/-! ===== the abstract machine: values as the kit's, a reference is a place in the order of allocation ===== -/
abbrev fj_HM : Type := Nat → Nat → Int32
abbrev fj_HP : Type := Nat → Nat → Nat
abbrev fj_Sc : Type := Option (Nat × (Nat → Int32))
/-- next: pc, locals, stack, numbers, references, cells, slots -/
abbrev fj_Nx : Type := Nat × List Value × List Value × fj_HM × fj_HP × Nat × Nat
/-- a call: whom, its locals at entry, what is left of the stack -/
abbrev fj_Cl : Type := Nat × List Value × List Value
/-- the second half of a long among the locals -/
abbrev fj_mk : Value := .double 0
def fj_rv : Nat → Value
  | 0 => .null
  | k + 1 => .ref k
def fj_up (M : fj_HM) (o k : Nat) (v : Int32) : fj_HM := fun o' k' => if o' = o ∧ k' = k then v else M o' k'
def fj_uP (P : fj_HP) (o k v : Nat) : fj_HP := fun o' k' => if o' = o ∧ k' = k then v else P o' k'
def fj_ze (M : fj_HM) (o : Nat) : fj_HM := fun o' k' => if o' = o then 0 else M o' k'
def fj_zP (P : fj_HP) (o : Nat) : fj_HP := fun o' k' => if o' = o then 0 else P o' k'
def fj_cy (M : fj_HM) (src dst sp dp n : Nat) : fj_HM := fun o k => if o = dst ∧ dp ≤ k ∧ k < dp + n then M src (sp + (k - dp)) else M o k
/-- which cell stands at a place: an object of a class (0, class), an array of ints (1, length), of booleans (2, length) -/
def fj_shl : List (Nat × Nat) := [(0, 6), (0, 3), (1, 240), (1, 4), (1, 4), (0, 1), (1, 8), (1, 8), (2, 8), (0, 4), (0, 0), (1, 6), (0, 2), (1, 2688), (1, 64), (1, 6), (1, 60), (0, 5), (1, 24), (1, 6), (1, 6), (1, 6), (1, 2), (1, 24), (1, 24), (0, 5), (1, 24), (1, 6), (1, 6), (1, 6), (1, 2), (1, 24), (1, 24), (0, 7), (1, 24), (1, 6), (1, 6), (1, 6), (1, 2), (1, 24), (1, 6), (1, 6), (1, 6), (1, 2), (1, 6), (1, 4032), (1, 8), (1, 8), (2, 8), (1, 4), (1, 4), (1, 240), (1, 60)]
def fj_sh (o : Nat) : Nat × Nat := fj_shl.getD o (3, 0)
/-- an object of a class stands there -/
def fj_ob (c o ci : Nat) : Prop := o < c ∧ fj_sh o = (0, ci)
/-- an array of a kind stands there, and the index is in it -/
def fj_ar (c o t : Nat) (j : Int32) : Prop := o < c ∧ (fj_sh o).1 = t ∧ vp_in j (fj_sh o).2
def fj_zo (v : Int32) : Prop := v = 0 ∨ v = 1

def fj_go (pc : Nat) (ls st : List Value) (M : fj_HM) (P : fj_HP) (c z : Nat) : Option (fj_Nx ⊕ fj_Cl ⊕ Option Value) := some (.inl (pc, ls, st, M, P, c, z))
def fj_ca (y : Nat) (ls st : List Value) : Option (fj_Nx ⊕ fj_Cl ⊕ Option Value) := some (.inr (.inl (y, ls, st)))
def fj_re (v : Option Value) : Option (fj_Nx ⊕ fj_Cl ⊕ Option Value) := some (.inr (.inr v))
/-- the arguments as locals -/
def fj_pa : List Value → List Value
  | [] => []
  | .long v :: r => .long v :: fj_mk :: fj_pa r
  | v :: r => v :: fj_pa r
/-- the locals at entry -/
def fj_en (y : Nat) (as : List Value) : List Value := fj_pa as ++ List.replicate (fj_ml y - (fj_pa as).length) .null
/-- what may be handed on: no second half, and there is room -/
def fj_v1 (v : Value) : Prop := match v with | .double _ => False | _ => True
def fj_nd (y : Nat) (as : List Value) : Prop := (∀ v ∈ as, fj_v1 v) ∧ (fj_pa as).length ≤ fj_ml y
abbrev fj_R : Type := Option (fj_Nx ⊕ fj_Cl ⊕ Option Value)
def fj_p1 (st : List Value) (f : Int32 → List Value → fj_R) : fj_R := match st with | .int x :: r => f x r | _ => none
def fj_p2 (st : List Value) (f : Int32 → Int32 → List Value → fj_R) : fj_R := match st with | .int y :: .int x :: r => f x y r | _ => none
def fj_q2 (st : List Value) (f : Int64 → Int64 → List Value → fj_R) : fj_R := match st with | .long y :: .long x :: r => f x y r | _ => none
def fj_ild (ls : List Value) (a : Nat) (f : Int32 → fj_R) : fj_R := match ls[a]? with | some (.int x) => f x | _ => none
def fj_ald (ls : List Value) (a : Nat) (f : Value → fj_R) : fj_R := match ls[a]? with | some (.ref x) => f (.ref x) | some (.float x) => f (.float x) | _ => none
def fj_lld (ls : List Value) (a : Nat) (f : Int64 → fj_R) : fj_R := match ls[a]? with | some (.long x) => (if ls[a + 1]? = some fj_mk then f x else none) | _ => none
/-- where a switch goes -/
def fj_sw (ins : Instr) (pc : Nat) (x : Int32) (f : Nat → fj_R) : fj_R := match ins with
  | .tableswitch d lo hi offs => (if x.toInt < lo ∨ hi < x.toInt then (if 0 ≤ (pc : Int) + d then f ((pc : Int) + d).toNat else none) else match offs[(x.toInt - lo).toNat]? with | some o => (if 0 ≤ (pc : Int) + o then f ((pc : Int) + o).toNat else none) | none => none)
  | .lookupswitch d ps => (if 0 ≤ (pc : Int) + Op.lookupswitch.offset ps.toList d x.toInt then f ((pc : Int) + Op.lookupswitch.offset ps.toList d x.toInt).toNat else none)
  | _ => none
/-- the receiver of a virtual call -/
def fj_rc (c : Nat) (v : Value) (ci : Nat) : Prop := match v with | .ref o => fj_ob c o ci | _ => False
/-- which class a method's receiver is -/
def fj_ci (y : Nat) : Nat := fj_cl.findIdx (fun q => q.1 == (fj_yn y).cls)

/-- a choice by any proposition -/
noncomputable def fj_if {α : Type} (q : Prop) (a b : α) : α := @ite α q (Classical.propDecidable q) a b
theorem fj_if_t {α : Type} {q : Prop} {a b : α} (h : q) : fj_if q a b = a := by unfold fj_if; exact if_pos h
theorem fj_if_f {α : Type} {q : Prop} {a b : α} (h : ¬ q) : fj_if q a b = b := by unfold fj_if; exact if_neg h
theorem fj_if_some {α : Type} {q : Prop} {a : Option α} {r : α} (h : fj_if q a none = some r) : q ∧ a = some r := by
  by_cases hq : q
  · rw [fj_if_t hq] at h; exact ⟨hq, h⟩
  · rw [fj_if_f hq] at h; cases h
/-- no reference beyond the cells that there are -/
def fj_okv (c : Nat) (v : Value) : Prop := match v with | .ref k => k < c | _ => True
def fj_okl (c : Nat) (ls st : List Value) : Prop := (∀ v ∈ ls, fj_okv c v) ∧ ∀ v ∈ st, fj_okv c v
noncomputable def fj_stp (y : Nat) (sc : fj_Sc) (ai : fj_AI) (pc : Nat) (ls st : List Value) (M : fj_HM) (P : fj_HP) (c z : Nat) : fj_R :=
  match ai.1 with
  | .iconst _ => fj_go (pc + 1) ls (.int (Int32.ofInt ai.2.2.2.2.1) :: st) M P c z
  | .bipush _ => fj_go (pc + 2) ls (.int (Int32.ofInt ai.2.2.2.2.1) :: st) M P c z
  | .sipush _ => fj_go (pc + 3) ls (.int (Int32.ofInt ai.2.2.2.2.1) :: st) M P c z
  | .ldc _ => fj_go (pc + 2) ls (.int (Int32.ofInt ai.2.2.2.2.1) :: st) M P c z
  | .ldc_w _ => fj_go (pc + 3) ls (.int (Int32.ofInt ai.2.2.2.2.1) :: st) M P c z
  | .ldc2_w _ => fj_go (pc + 3) ls (.long (Int64.ofInt ai.2.2.2.2.1) :: st) M P c z
  | .lconst _ => fj_go (pc + 1) ls (.long (Int64.ofInt ai.2.2.2.2.1) :: st) M P c z
  | .iload_n _ => fj_ild ls ai.2.2.1 fun x => fj_go (pc + 1) ls (.int x :: st) M P c z
  | .iload _ => fj_ild ls ai.2.2.1 fun x => fj_go (pc + 2) ls (.int x :: st) M P c z
  | .aload_n _ => fj_ald ls ai.2.2.1 fun x => fj_go (pc + 1) ls (x :: st) M P c z
  | .aload _ => fj_ald ls ai.2.2.1 fun x => fj_go (pc + 2) ls (x :: st) M P c z
  | .lload_n _ => fj_lld ls ai.2.2.1 fun x => fj_go (pc + 1) ls (.long x :: st) M P c z
  | .lload _ => fj_lld ls ai.2.2.1 fun x => fj_go (pc + 2) ls (.long x :: st) M P c z
  | .istore_n _ => match st with | .int x :: r => (if ai.2.2.1 < ls.length then fj_go (pc + 1) (ls.set ai.2.2.1 (.int x)) r M P c z else none) | _ => none
  | .istore _ => match st with | .int x :: r => (if ai.2.2.1 < ls.length then fj_go (pc + 2) (ls.set ai.2.2.1 (.int x)) r M P c z else none) | _ => none
  | .astore_n _ => match st with | .ref x :: r => (if ai.2.2.1 < ls.length then fj_go (pc + 1) (ls.set ai.2.2.1 (.ref x)) r M P c z else none) | _ => none
  | .astore _ => match st with | .ref x :: r => (if ai.2.2.1 < ls.length then fj_go (pc + 2) (ls.set ai.2.2.1 (.ref x)) r M P c z else none) | _ => none
  | .lstore_n _ => match st with | .long x :: r => (if ai.2.2.1 + 1 < ls.length then fj_go (pc + 1) ((ls.set ai.2.2.1 (.long x)).set (ai.2.2.1 + 1) fj_mk) r M P c z else none) | _ => none
  | .lstore _ => match st with | .long x :: r => (if ai.2.2.1 + 1 < ls.length then fj_go (pc + 2) ((ls.set ai.2.2.1 (.long x)).set (ai.2.2.1 + 1) fj_mk) r M P c z else none) | _ => none
  | .iinc _ _ => fj_ild ls ai.2.2.1 fun x => fj_go (pc + 3) (ls.set ai.2.2.1 (.int (x + Int32.ofInt ai.2.2.2.2.1))) st M P c z
  | .iadd => fj_p2 st fun x y r => fj_go (pc + 1) ls (.int (x + y) :: r) M P c z
  | .isub => fj_p2 st fun x y r => fj_go (pc + 1) ls (.int (x - y) :: r) M P c z
  | .imul => fj_p2 st fun x y r => fj_go (pc + 1) ls (.int (x * y) :: r) M P c z
  | .iand => fj_p2 st fun x y r => fj_go (pc + 1) ls (.int (x &&& y) :: r) M P c z
  | .ior => fj_p2 st fun x y r => fj_go (pc + 1) ls (.int (x ||| y) :: r) M P c z
  | .ixor => fj_p2 st fun x y r => fj_go (pc + 1) ls (.int (x ^^^ y) :: r) M P c z
  | .ishl => fj_p2 st fun x y r => fj_go (pc + 1) ls (.int (x <<< (y &&& 31)) :: r) M P c z
  | .ishr => fj_p2 st fun x y r => fj_go (pc + 1) ls (.int (x >>> (y &&& 31)) :: r) M P c z
  | .iushr => fj_p2 st fun x y r => fj_go (pc + 1) ls (.int ((x.toUInt32 >>> (y.toUInt32 &&& Int32.toUInt32 31)).toInt32) :: r) M P c z
  | .idiv => fj_p2 st fun x y r => if y = 0 then none else fj_go (pc + 1) ls (.int (x / y) :: r) M P c z
  | .irem => fj_p2 st fun x y r => if y = 0 then none else fj_go (pc + 1) ls (.int (x - x / y * y) :: r) M P c z
  | .ineg => fj_p1 st fun x r => fj_go (pc + 1) ls (.int (-x) :: r) M P c z
  | .i2l => fj_p1 st fun x r => fj_go (pc + 1) ls (.long x.toInt64 :: r) M P c z
  | .i2b => fj_p1 st fun x r => fj_go (pc + 1) ls (.int x.toInt8.toInt32 :: r) M P c z
  | .i2s => fj_p1 st fun x r => fj_go (pc + 1) ls (.int x.toInt16.toInt32 :: r) M P c z
  | .ladd => fj_q2 st fun x y r => fj_go (pc + 1) ls (.long (x + y) :: r) M P c z
  | .lsub => fj_q2 st fun x y r => fj_go (pc + 1) ls (.long (x - y) :: r) M P c z
  | .ldiv => fj_q2 st fun x y r => if y = 0 then none else fj_go (pc + 1) ls (.long (x / y) :: r) M P c z
  | .lrem => fj_q2 st fun x y r => if y = 0 then none else fj_go (pc + 1) ls (.long (x - x / y * y) :: r) M P c z
  | .lcmp => fj_q2 st fun x y r => fj_go (pc + 1) ls (.int (lg_cmp x y) :: r) M P c z
  | .lshl => match st with | .int y :: .long x :: r => fj_go (pc + 1) ls (.long (x <<< (y.toInt64 &&& 63)) :: r) M P c z | _ => none
  | .dup => match st with | .int x :: r => fj_go (pc + 1) ls (.int x :: .int x :: r) M P c z | .ref x :: r => fj_go (pc + 1) ls (.ref x :: .ref x :: r) M P c z | _ => none
  | .ifCond .eq _ => fj_p1 st fun x r => if x = 0 then fj_go ai.2.2.1 ls r M P c z else fj_go (pc + 3) ls r M P c z
  | .if_icmp .eq _ => fj_p2 st fun x y r => if x = y then fj_go ai.2.2.1 ls r M P c z else fj_go (pc + 3) ls r M P c z
  | .ifCond .ne _ => fj_p1 st fun x r => if x ≠ 0 then fj_go ai.2.2.1 ls r M P c z else fj_go (pc + 3) ls r M P c z
  | .if_icmp .ne _ => fj_p2 st fun x y r => if x ≠ y then fj_go ai.2.2.1 ls r M P c z else fj_go (pc + 3) ls r M P c z
  | .ifCond .lt _ => fj_p1 st fun x r => if x < 0 then fj_go ai.2.2.1 ls r M P c z else fj_go (pc + 3) ls r M P c z
  | .if_icmp .lt _ => fj_p2 st fun x y r => if x < y then fj_go ai.2.2.1 ls r M P c z else fj_go (pc + 3) ls r M P c z
  | .ifCond .ge _ => fj_p1 st fun x r => if 0 ≤ x then fj_go ai.2.2.1 ls r M P c z else fj_go (pc + 3) ls r M P c z
  | .if_icmp .ge _ => fj_p2 st fun x y r => if y ≤ x then fj_go ai.2.2.1 ls r M P c z else fj_go (pc + 3) ls r M P c z
  | .ifCond .gt _ => fj_p1 st fun x r => if 0 < x then fj_go ai.2.2.1 ls r M P c z else fj_go (pc + 3) ls r M P c z
  | .if_icmp .gt _ => fj_p2 st fun x y r => if y < x then fj_go ai.2.2.1 ls r M P c z else fj_go (pc + 3) ls r M P c z
  | .ifCond .le _ => fj_p1 st fun x r => if x ≤ 0 then fj_go ai.2.2.1 ls r M P c z else fj_go (pc + 3) ls r M P c z
  | .if_icmp .le _ => fj_p2 st fun x y r => if x ≤ y then fj_go ai.2.2.1 ls r M P c z else fj_go (pc + 3) ls r M P c z
  | .goto _ => fj_go ai.2.2.1 ls st M P c z
  | .tableswitch _ _ _ _ => fj_p1 st fun x r => fj_sw ai.1 pc x fun t => fj_go t ls r M P c z
  | .lookupswitch _ _ => fj_p1 st fun x r => fj_sw ai.1 pc x fun t => fj_go t ls r M P c z
  | .getfield _ => match st with | .ref o :: r => (fj_if (fj_ob c o ai.2.2.1) (fj_go (pc + 3) ls ((if fj_isR ai.2.2.1 ai.2.2.2.1 then fj_rv (P o ai.2.2.2.1) else .int (M o ai.2.2.2.1)) :: r) M P c z) none) | _ => none
  | .putfield _ => match st with | .int v :: .ref o :: r => (fj_if (fj_ob c o ai.2.2.1 ∧ fj_isR ai.2.2.1 ai.2.2.2.1 = false) (fj_go (pc + 3) ls r (fj_up M o ai.2.2.2.1 v) P c z) none) | .ref w :: .ref o :: r => (fj_if (fj_ob c o ai.2.2.1 ∧ fj_isR ai.2.2.1 ai.2.2.2.1 = true ∧ w < c) (fj_go (pc + 3) ls r M (fj_uP P o ai.2.2.2.1 (w + 1)) c z) none) | _ => none
  | .iaload => match st with | .int j :: .ref o :: r => (fj_if (fj_ar c o 1 j) (fj_go (pc + 1) ls (.int (M o j.toNatClampNeg) :: r) M P c z) none) | .int j :: .float _ :: r => (match sc with | some q => (fj_if (vp_in j q.1) (fj_go (pc + 1) ls (.int (q.2 j.toNatClampNeg) :: r) M P c z) none) | none => none) | _ => none
  | .baload => match st with | .int j :: .ref o :: r => (fj_if (fj_ar c o 2 j) (fj_go (pc + 1) ls (.int (M o j.toNatClampNeg) :: r) M P c z) none) | _ => none
  | .iastore => match st with | .int v :: .int j :: .ref o :: r => (fj_if (fj_ar c o 1 j) (fj_go (pc + 1) ls r (fj_up M o j.toNatClampNeg v) P c z) none) | _ => none
  | .bastore => match st with | .int v :: .int j :: .ref o :: r => (fj_if (fj_ar c o 2 j ∧ fj_zo v) (fj_go (pc + 1) ls r (fj_up M o j.toNatClampNeg v) P c z) none) | _ => none
  | .arraylength => match st with | .ref o :: r => (fj_if (o < c ∧ (fj_sh o).1 = 1) (fj_go (pc + 1) ls (.int (Int32.ofNat (fj_sh o).2) :: r) M P c z) none) | .float _ :: r => (match sc with | some q => fj_go (pc + 1) ls (.int (Int32.ofNat q.1) :: r) M P c z | none => none) | _ => none
  | .new _ => fj_if (fj_sh c = (0, ai.2.2.1) ∧ fj_okl c ls st) (fj_go (pc + 3) ls (.ref c :: st) (fj_ze M c) (fj_zP P c) (c + 1) (z + fj_nF ai.2.2.1)) none
  | .newarray _ => fj_p1 st fun n r => fj_if (fj_sh c = (ai.2.2.1, n.toNatClampNeg) ∧ 0 ≤ n ∧ fj_okl c ls r) (fj_go (pc + 2) ls (.ref c :: r) (fj_ze M c) P (c + 1) (z + n.toNatClampNeg)) none
  | .invokevirtual _ => fj_if (ai.2.2.2.1 < st.length ∧ st.length ≤ ai.2.2.2.1 + 5 ∧ (∃ v, st[ai.2.2.2.1]? = some v ∧ fj_rc c v (fj_ci ai.2.2.1)) ∧ fj_nd ai.2.2.1 (st.take (ai.2.2.2.1 + 1)).reverse) (fj_ca ai.2.2.1 (fj_en ai.2.2.1 (st.take (ai.2.2.2.1 + 1)).reverse) (st.drop (ai.2.2.2.1 + 1))) none
  | .invokestatic _ => if ai.2.2.1 = 997 then fj_p1 st (fun x r => if r.length ≤ 4 then fj_go (pc + 3) ls (.int (if 0 ≤ x then x else 0 - x) :: r) M P c z else none) else if ai.2.2.1 = 996 then fj_p2 st (fun x y r => if r.length ≤ 4 then fj_go (pc + 3) ls (.int (if y < x then y else x) :: r) M P c z else none) else if ai.2.2.1 = 998 then (match st with | .int n :: .int dp :: .ref d :: .int sp :: .ref o :: r => (fj_if (r.length ≤ 4 ∧ o < c ∧ d < c ∧ (fj_sh o).1 = 1 ∧ (fj_sh d).1 = 1 ∧ 0 ≤ sp ∧ 0 ≤ dp ∧ 0 ≤ n ∧ sp.toNatClampNeg + n.toNatClampNeg ≤ (fj_sh o).2 ∧ dp.toNatClampNeg + n.toNatClampNeg ≤ (fj_sh d).2) (fj_go (pc + 3) ls r (fj_cy M o d sp.toNatClampNeg dp.toNatClampNeg n.toNatClampNeg) P c z) none) | _ => none) else fj_if (ai.2.2.2.1 ≤ st.length ∧ st.length ≤ ai.2.2.2.1 + 4 ∧ fj_nd ai.2.2.1 (st.take ai.2.2.2.1).reverse) (fj_ca ai.2.2.1 (fj_en ai.2.2.1 (st.take ai.2.2.2.1).reverse) (st.drop ai.2.2.2.1)) none
  | .invokespecial _ => if ai.2.2.1 = 999 then (match st with | .ref _ :: r => (if r.length ≤ 4 then fj_go (pc + 3) ls r M P c z else none) | _ => none) else fj_if (ai.2.2.2.1 < st.length ∧ st.length ≤ ai.2.2.2.1 + 5 ∧ (∃ o, st[ai.2.2.2.1]? = some (.ref o)) ∧ fj_nd ai.2.2.1 (st.take (ai.2.2.2.1 + 1)).reverse) (fj_ca ai.2.2.1 (fj_en ai.2.2.1 (st.take (ai.2.2.2.1 + 1)).reverse) (st.drop (ai.2.2.2.1 + 1))) none
  | .ireturn => match st with | [.int v] => (if fj_rt y = some .boolean then (fj_if (fj_zo v) (fj_re (some (.int v))) none) else fj_re (some (.int v))) | _ => none
  | .lreturn => match st with | [.long v] => fj_re (some (.long v)) | _ => none
  | .return_ => match st with | [] => fj_re none | _ => none
  | _ => none

noncomputable def fj_run : Nat → fj_Sc → Nat → Nat → List Value → List Value → fj_HM → fj_HP → Nat → Nat → Option (Option Value × fj_HM × fj_HP × Nat × Nat)
  | 0, _, _, _, _, _, _, _, _, _ => none
  | n + 1, sc, y, pc, ls, st, M, P, c, z =>
    match fj_cd y pc with
    | none => none
    | some ai => match fj_stp y sc ai pc ls st M P c z with
      | none => none
      | some (.inl q) => fj_run n sc y q.1 q.2.1 q.2.2.1 q.2.2.2.1 q.2.2.2.2.1 q.2.2.2.2.2.1 q.2.2.2.2.2.2
      | some (.inr (.inl q)) => match fj_run n none q.1 0 q.2.1 [] M P c z with
        | none => none
        | some r => fj_if (r.2.2.2.1 = c ∨ fj_okl c ls q.2.2) (fj_run n sc y (pc + 3) ls (r.1.toList ++ q.2.2) r.2.1 r.2.2.1 r.2.2.2.1 r.2.2.2.2) none
      | some (.inr (.inr v)) => some (v, M, P, c, z)
end
section

/-! ===== each instruction's row of the tables is right ===== -/
def fj_wd (i : Nat) (w : Jvm.Cond) : Bool := decide (lw_tbl[i]? = some w) && goodWord w
theorem fj_wd_ok {i : Nat} {w : Jvm.Cond} (h : fj_wd i w = true) : w ∈ fj_T := by
  unfold fj_wd at h
  rw [Bool.and_eq_true, decide_eq_true_eq] at h
  exact List.mem_filter.mpr ⟨List.mem_of_getElem? h.1, h.2⟩
/-- what a callee must be: its words, its parameters, its room -/
def fj_okC (y a b : Nat) : Bool := decide (a < 164) && (decide ((parseMethodDescriptor (fj_yn a).desc).map (fun d => d.parameters.length) = some b) && (decide (fj_fr a + 1 ≤ fj_fr y) && decide (8 + (fj_ml a + 11) + fj_lo a ≤ fj_lo y)))
def fj_okI (y pc : Nat) (ai : fj_AI) : Bool :=
  decide (decode (fj_bc y) pc = .ok (ai.1, ai.2.1)) && (match ai.1 with
  | .iconst n => ai.2.1 == 1 && decide (Int32.ofInt n = Int32.ofInt ai.2.2.2.2.1)
  | .bipush n => ai.2.1 == 2 && decide ((Int8.ofInt n).toInt32 = Int32.ofInt ai.2.2.2.2.1)
  | .sipush n => ai.2.1 == 3 && decide ((Int16.ofInt n).toInt32 = Int32.ofInt ai.2.2.2.2.1)
  | .lconst n => ai.2.1 == 1 && decide (Int64.ofNat (n : Nat) = Int64.ofInt ai.2.2.2.2.1)
  | .ldc i => ai.2.1 == 2 && fj_wd (ai.2.2.2.2.2.getD 0 0) (.constant (fj_ow y) i (Int32.ofInt ai.2.2.2.2.1))
  | .ldc_w i => ai.2.1 == 3 && fj_wd (ai.2.2.2.2.2.getD 0 0) (.constant (fj_ow y) i (Int32.ofInt ai.2.2.2.2.1))
  | .ldc2_w i => ai.2.1 == 3 && fj_wd (ai.2.2.2.2.2.getD 0 0) (.constantLong (fj_ow y) i (Int64.ofInt ai.2.2.2.2.1))
  | .iload_n n => ai.2.1 == 1 && (n : Nat) == ai.2.2.1
  | .aload_n n => ai.2.1 == 1 && (n : Nat) == ai.2.2.1
  | .lload_n n => ai.2.1 == 1 && (n : Nat) == ai.2.2.1
  | .istore_n n => ai.2.1 == 1 && (n : Nat) == ai.2.2.1
  | .astore_n n => ai.2.1 == 1 && (n : Nat) == ai.2.2.1
  | .lstore_n n => ai.2.1 == 1 && (n : Nat) == ai.2.2.1
  | .iload n => ai.2.1 == 2 && n == ai.2.2.1
  | .aload n => ai.2.1 == 2 && n == ai.2.2.1
  | .lload n => ai.2.1 == 2 && n == ai.2.2.1
  | .istore n => ai.2.1 == 2 && n == ai.2.2.1
  | .astore n => ai.2.1 == 2 && n == ai.2.2.1
  | .lstore n => ai.2.1 == 2 && n == ai.2.2.1
  | .iinc n k => ai.2.1 == 3 && (n == ai.2.2.1 && decide (Int32.ofInt k = Int32.ofInt ai.2.2.2.2.1))
  | .iadd => ai.2.1 == 1 | .isub => ai.2.1 == 1 | .imul => ai.2.1 == 1 | .iand => ai.2.1 == 1 | .ior => ai.2.1 == 1 | .ixor => ai.2.1 == 1
  | .ishl => ai.2.1 == 1 | .ishr => ai.2.1 == 1 | .iushr => ai.2.1 == 1 | .idiv => ai.2.1 == 1 | .irem => ai.2.1 == 1 | .ineg => ai.2.1 == 1
  | .i2l => ai.2.1 == 1 | .i2b => ai.2.1 == 1 | .i2s => ai.2.1 == 1 | .ladd => ai.2.1 == 1 | .lsub => ai.2.1 == 1 | .ldiv => ai.2.1 == 1 | .lrem => ai.2.1 == 1
  | .lcmp => ai.2.1 == 1 | .lshl => ai.2.1 == 1 | .dup => ai.2.1 == 1 | .iaload => ai.2.1 == 1 | .baload => ai.2.1 == 1 | .iastore => ai.2.1 == 1 | .bastore => ai.2.1 == 1 | .arraylength => ai.2.1 == 1
  | .ifCond _ o => ai.2.1 == 3 && decide ((pc : Int) + o = (ai.2.2.1 : Int))
  | .if_icmp _ o => ai.2.1 == 3 && decide ((pc : Int) + o = (ai.2.2.1 : Int))
  | .goto o => ai.2.1 == 3 && decide ((pc : Int) + o = (ai.2.2.1 : Int))
  | .tableswitch _ _ _ _ => true
  | .lookupswitch _ ps => (ps.toList.zip (ps.toList.drop 1)).all (fun (a, next) => a.1 < next.1)
  | .getfield i => ai.2.1 == 3 && (match fj_cl[ai.2.2.1]? with
    | some q => decide (ai.2.2.2.1 < q.2.2) && fj_wd (ai.2.2.2.2.2.getD 0 0) (.fieldLink (fj_ow y) i q.1 (q.2.1 ai.2.2.2.1).2.1 (q.2.1 ai.2.2.2.1).2.2.1)
    | none => false)
  | .putfield i => ai.2.1 == 3 && (match fj_cl[ai.2.2.1]? with
    | some q => decide (ai.2.2.2.1 < q.2.2) && (fj_wd (ai.2.2.2.2.2.getD 0 0) (.fieldLink (fj_ow y) i q.1 (q.2.1 ai.2.2.2.1).2.1 (q.2.1 ai.2.2.2.1).2.2.1) && (!(q.2.1 ai.2.2.2.1).2.2.2 || (fj_ini y && decide (q.1 = fj_ow y))))
    | none => false)
  | .new i => ai.2.1 == 3 && (match fj_cl[ai.2.2.1]? with
    | some q => fj_wd (ai.2.2.2.2.2.getD 0 0) (.classLink (fj_ow y) i q.1) && (fj_wd (ai.2.2.2.2.2.getD 1 0) (.instantiable q.1 q.2.2) && fj_wd (ai.2.2.2.2.2.getD 2 0) (.initialized q.1))
    | none => false)
  | .newarray t => ai.2.1 == 2 && (fj_wd (ai.2.2.2.2.2.getD 0 0) (.arrayClass (newarray.typeOf t)) && ((ai.2.2.1 == 1 && decide (t = .int)) || (ai.2.2.1 == 2 && decide (t = .boolean))))
  | .invokevirtual i => ai.2.1 == 3 && (fj_okC y ai.2.2.1 ai.2.2.2.1 && (fj_wd (ai.2.2.2.2.2.getD 0 0) (.methodLink (fj_ow y) i (fj_yn ai.2.2.1)) && (fj_wd (ai.2.2.2.2.2.getD 1 0) (.instanceMethod (fj_yn ai.2.2.1)) && (fj_wd (ai.2.2.2.2.2.getD 2 0) (.selects (fj_yn ai.2.2.1).cls (fj_yn ai.2.2.1) (fj_yn ai.2.2.1)) && (fj_wd (ai.2.2.2.2.2.getD 3 0) (.initialized (fj_yn ai.2.2.1).cls) && decide ((fj_cl[fj_ci ai.2.2.1]?).map (fun q => q.1) = some (fj_yn ai.2.2.1).cls))))))
  | .invokestatic i => ai.2.1 == 3 && (if ai.2.2.1 = 997 then fj_wd (ai.2.2.2.2.2.getD 0 0) (.methodLink (fj_ow y) i Lib.Math.abs.name) && (fj_wd (ai.2.2.2.2.2.getD 1 0) (.static Lib.Math.abs.name) && (fj_wd (ai.2.2.2.2.2.getD 2 0) (.initialized "java/lang/Math") && (fj_wd (ai.2.2.2.2.2.getD 3 0) (.code Lib.Math.abs.name Lib.Math.abs.code 1 (some .int)) && (decide (1 ≤ fj_fr y) && decide (21 ≤ fj_lo y)))))
    else if ai.2.2.1 = 996 then fj_wd (ai.2.2.2.2.2.getD 0 0) (.methodLink (fj_ow y) i Lib.Math.min.name) && (fj_wd (ai.2.2.2.2.2.getD 1 0) (.static Lib.Math.min.name) && (fj_wd (ai.2.2.2.2.2.getD 2 0) (.initialized "java/lang/Math") && (fj_wd (ai.2.2.2.2.2.getD 3 0) (.code Lib.Math.min.name Lib.Math.min.code 2 (some .int)) && (decide (1 ≤ fj_fr y) && decide (21 ≤ fj_lo y)))))
    else if ai.2.2.1 = 998 then fj_wd (ai.2.2.2.2.2.getD 0 0) (.methodLink (fj_ow y) i arraycopyName) && (fj_wd (ai.2.2.2.2.2.getD 1 0) (.native arraycopyName) && (fj_wd (ai.2.2.2.2.2.getD 2 0) (.static arraycopyName) && (fj_wd (ai.2.2.2.2.2.getD 3 0) (.initialized "java/lang/System") && (decide (1 ≤ fj_fr y) && decide (8 + (nativeFrameWords "java/lang/System" "arraycopy" 5 + 11) ≤ fj_lo y)))))
    else fj_okC y ai.2.2.1 ai.2.2.2.1 && (fj_wd (ai.2.2.2.2.2.getD 0 0) (.methodLink (fj_ow y) i (fj_yn ai.2.2.1)) && (fj_wd (ai.2.2.2.2.2.getD 1 0) (.static (fj_yn ai.2.2.1)) && fj_wd (ai.2.2.2.2.2.getD 2 0) (.initialized (fj_yn ai.2.2.1).cls))))
  | .invokespecial i => ai.2.1 == 3 && (if ai.2.2.1 = 999 then fj_wd (ai.2.2.2.2.2.getD 0 0) (.methodLink (fj_ow y) i objectInit) && (fj_wd (ai.2.2.2.2.2.getD 1 0) (.instanceMethod objectInit) && (fj_wd (ai.2.2.2.2.2.getD 2 0) (.code objectInit ⟨#[0xb1]⟩ 1 none) && (decide (1 ≤ fj_fr y) && decide (8 + 12 ≤ fj_lo y))))
    else fj_okC y ai.2.2.1 ai.2.2.2.1 && ((if ai.2.2.2.2.1 = 1 then decide (fj_N[ai.2.2.2.2.2.getD 0 0]? = some (.methodLinkNest (fj_ow y) i (fj_yn ai.2.2.1) "FortyJars")) else fj_wd (ai.2.2.2.2.2.getD 0 0) (.methodLink (fj_ow y) i (fj_yn ai.2.2.1))) && (fj_wd (ai.2.2.2.2.2.getD 1 0) (.instanceMethod (fj_yn ai.2.2.1)) && (fj_wd (ai.2.2.2.2.2.getD 2 0) (.initialized (fj_yn ai.2.2.1).cls) && (decide ((fj_yn ai.2.2.1).name = "<init>") && decide (fj_rt ai.2.2.1 = none))))))
  | .ireturn => ai.2.1 == 1 && (decide (fj_rt y = some .int) || decide (fj_rt y = some .boolean))
  | .lreturn => ai.2.1 == 1 && decide (fj_rt y = some .long)
  | .return_ => ai.2.1 == 1 && decide (fj_rt y = none)
  | _ => false)
/-- a method's rows -/
def fj_okM (y : Nat) : Bool := (fj_me y).2.2.2.2.2.2.2.2.all (fun q => fj_okI y q.1 q.2)
/-- what a method is, besides -/
def fj_okY (y : Nat) : Bool := plainName (fj_yn y).cls && (decide (fj_ow y = (fj_yn y).cls) && ((!fj_ini y || decide ((fj_yn y).name = "<init>")) && (decide ((fj_yn y).cls ≠ "java/lang/invoke/MethodHandle") && decide ((fj_yn y).cls ≠ "java/lang/invoke/VarHandle"))))
theorem fj_lookup_mem {α : Type} {l : List (Nat × α)} {k : Nat} {v : α} (h : l.lookup k = some v) : (k, v) ∈ l := by
  induction l with
  | nil => cases h
  | cons q l ih =>
    obtain ⟨a, b⟩ := q
    rw [List.lookup_cons] at h
    by_cases e : k = a
    · subst e
      simp at h
      subst h
      exact List.mem_cons_self
    · rw [show (k == a) = false from by simpa using e] at h
      exact List.mem_cons_of_mem _ (ih h)

theorem fj_okM_0 : fj_okM 0 = true := by decide +kernel
theorem fj_okM_1 : fj_okM 1 = true := by decide +kernel
theorem fj_okM_2 : fj_okM 2 = true := by decide +kernel
theorem fj_okM_3 : fj_okM 3 = true := by decide +kernel
theorem fj_okM_4 : fj_okM 4 = true := by decide +kernel
theorem fj_okM_5 : fj_okM 5 = true := by decide +kernel
theorem fj_okM_6 : fj_okM 6 = true := by decide +kernel
theorem fj_okM_7 : fj_okM 7 = true := by decide +kernel
theorem fj_okM_8 : fj_okM 8 = true := by decide +kernel
theorem fj_okM_9 : fj_okM 9 = true := by decide +kernel
theorem fj_okM_10 : fj_okM 10 = true := by decide +kernel
theorem fj_okM_11 : fj_okM 11 = true := by decide +kernel
theorem fj_okM_12 : fj_okM 12 = true := by decide +kernel
theorem fj_okM_13 : fj_okM 13 = true := by decide +kernel
theorem fj_okM_14 : fj_okM 14 = true := by decide +kernel
theorem fj_okM_15 : fj_okM 15 = true := by decide +kernel
theorem fj_okM_16 : fj_okM 16 = true := by decide +kernel
theorem fj_okM_17 : fj_okM 17 = true := by decide +kernel
theorem fj_okM_18 : fj_okM 18 = true := by decide +kernel
theorem fj_okM_19 : fj_okM 19 = true := by decide +kernel
theorem fj_okM_20 : fj_okM 20 = true := by decide +kernel
theorem fj_okM_21 : fj_okM 21 = true := by decide +kernel
theorem fj_okM_22 : fj_okM 22 = true := by decide +kernel
theorem fj_okM_23 : fj_okM 23 = true := by decide +kernel
theorem fj_okM_24 : fj_okM 24 = true := by decide +kernel
theorem fj_okM_25 : fj_okM 25 = true := by decide +kernel
theorem fj_okM_26 : fj_okM 26 = true := by decide +kernel
theorem fj_okM_27 : fj_okM 27 = true := by decide +kernel
theorem fj_okM_28 : fj_okM 28 = true := by decide +kernel
theorem fj_okM_29 : fj_okM 29 = true := by decide +kernel
theorem fj_okM_30 : fj_okM 30 = true := by decide +kernel
theorem fj_okM_31 : fj_okM 31 = true := by decide +kernel
theorem fj_okM_32 : fj_okM 32 = true := by decide +kernel
theorem fj_okM_33 : fj_okM 33 = true := by decide +kernel
theorem fj_okM_34 : fj_okM 34 = true := by decide +kernel
theorem fj_okM_35 : fj_okM 35 = true := by decide +kernel
theorem fj_okM_36 : fj_okM 36 = true := by decide +kernel
theorem fj_okM_37 : fj_okM 37 = true := by decide +kernel
theorem fj_okM_38 : fj_okM 38 = true := by decide +kernel
theorem fj_okM_39 : fj_okM 39 = true := by decide +kernel
theorem fj_okM_40 : fj_okM 40 = true := by decide +kernel
theorem fj_okM_41 : fj_okM 41 = true := by decide +kernel
theorem fj_okM_42 : fj_okM 42 = true := by decide +kernel
theorem fj_okM_43 : fj_okM 43 = true := by decide +kernel
theorem fj_okM_44 : fj_okM 44 = true := by decide +kernel
theorem fj_okM_45 : fj_okM 45 = true := by decide +kernel
theorem fj_okM_46 : fj_okM 46 = true := by decide +kernel
theorem fj_okM_47 : fj_okM 47 = true := by decide +kernel
theorem fj_okM_48 : fj_okM 48 = true := by decide +kernel
theorem fj_okM_49 : fj_okM 49 = true := by decide +kernel
theorem fj_okM_50 : fj_okM 50 = true := by decide +kernel
theorem fj_okM_51 : fj_okM 51 = true := by decide +kernel
theorem fj_okM_52 : fj_okM 52 = true := by decide +kernel
theorem fj_okM_53 : fj_okM 53 = true := by decide +kernel
theorem fj_okM_54 : fj_okM 54 = true := by decide +kernel
theorem fj_okM_55 : fj_okM 55 = true := by decide +kernel
theorem fj_okM_56 : fj_okM 56 = true := by decide +kernel
theorem fj_okM_57 : fj_okM 57 = true := by decide +kernel
theorem fj_okM_58 : fj_okM 58 = true := by decide +kernel
theorem fj_okM_59 : fj_okM 59 = true := by decide +kernel
theorem fj_okM_60 : fj_okM 60 = true := by decide +kernel
theorem fj_okM_61 : fj_okM 61 = true := by decide +kernel
theorem fj_okM_62 : fj_okM 62 = true := by decide +kernel
theorem fj_okM_63 : fj_okM 63 = true := by decide +kernel
theorem fj_okM_64 : fj_okM 64 = true := by decide +kernel
theorem fj_okM_65 : fj_okM 65 = true := by decide +kernel
theorem fj_okM_66 : fj_okM 66 = true := by decide +kernel
theorem fj_okM_67 : fj_okM 67 = true := by decide +kernel
theorem fj_okM_68 : fj_okM 68 = true := by decide +kernel
theorem fj_okM_69 : fj_okM 69 = true := by decide +kernel
theorem fj_okM_70 : fj_okM 70 = true := by decide +kernel
theorem fj_okM_71 : fj_okM 71 = true := by decide +kernel
theorem fj_okM_72 : fj_okM 72 = true := by decide +kernel
theorem fj_okM_73 : fj_okM 73 = true := by decide +kernel
theorem fj_okM_74 : fj_okM 74 = true := by decide +kernel
theorem fj_okM_75 : fj_okM 75 = true := by decide +kernel
theorem fj_okM_76 : fj_okM 76 = true := by decide +kernel
theorem fj_okM_77 : fj_okM 77 = true := by decide +kernel
theorem fj_okM_78 : fj_okM 78 = true := by decide +kernel
theorem fj_okM_79 : fj_okM 79 = true := by decide +kernel
theorem fj_okM_80 : fj_okM 80 = true := by decide +kernel
theorem fj_okM_81 : fj_okM 81 = true := by decide +kernel
theorem fj_okM_82 : fj_okM 82 = true := by decide +kernel
theorem fj_okM_83 : fj_okM 83 = true := by decide +kernel
theorem fj_okM_84 : fj_okM 84 = true := by decide +kernel
theorem fj_okM_85 : fj_okM 85 = true := by decide +kernel
theorem fj_okM_86 : fj_okM 86 = true := by decide +kernel
theorem fj_okM_87 : fj_okM 87 = true := by decide +kernel
theorem fj_okM_88 : fj_okM 88 = true := by decide +kernel
theorem fj_okM_89 : fj_okM 89 = true := by decide +kernel
theorem fj_okM_90 : fj_okM 90 = true := by decide +kernel
theorem fj_okM_91 : fj_okM 91 = true := by decide +kernel
theorem fj_okM_92 : fj_okM 92 = true := by decide +kernel
theorem fj_okM_93 : fj_okM 93 = true := by decide +kernel
theorem fj_okM_94 : fj_okM 94 = true := by decide +kernel
theorem fj_okM_95 : fj_okM 95 = true := by decide +kernel
end
section
theorem fj_okM_96 : fj_okM 96 = true := by decide +kernel
theorem fj_okM_97 : fj_okM 97 = true := by decide +kernel
theorem fj_okM_98 : fj_okM 98 = true := by decide +kernel
theorem fj_okM_99 : fj_okM 99 = true := by decide +kernel
theorem fj_okM_100 : fj_okM 100 = true := by decide +kernel
theorem fj_okM_101 : fj_okM 101 = true := by decide +kernel
theorem fj_okM_102 : fj_okM 102 = true := by decide +kernel
theorem fj_okM_103 : fj_okM 103 = true := by decide +kernel
theorem fj_okM_104 : fj_okM 104 = true := by decide +kernel
theorem fj_okM_105 : fj_okM 105 = true := by decide +kernel
theorem fj_okM_106 : fj_okM 106 = true := by decide +kernel
theorem fj_okM_107 : fj_okM 107 = true := by decide +kernel
theorem fj_okM_108 : fj_okM 108 = true := by decide +kernel
theorem fj_okM_109 : fj_okM 109 = true := by decide +kernel
theorem fj_okM_110 : fj_okM 110 = true := by decide +kernel
theorem fj_okM_111 : fj_okM 111 = true := by decide +kernel
theorem fj_okM_112 : fj_okM 112 = true := by decide +kernel
theorem fj_okM_113 : fj_okM 113 = true := by decide +kernel
theorem fj_okM_114 : fj_okM 114 = true := by decide +kernel
theorem fj_okM_115 : fj_okM 115 = true := by decide +kernel
theorem fj_okM_116 : fj_okM 116 = true := by decide +kernel
theorem fj_okM_117 : fj_okM 117 = true := by decide +kernel
theorem fj_okM_118 : fj_okM 118 = true := by decide +kernel
theorem fj_okM_119 : fj_okM 119 = true := by decide +kernel
theorem fj_okM_120 : fj_okM 120 = true := by decide +kernel
theorem fj_okM_121 : fj_okM 121 = true := by decide +kernel
theorem fj_okM_122 : fj_okM 122 = true := by decide +kernel
theorem fj_okM_123 : fj_okM 123 = true := by decide +kernel
theorem fj_okM_124 : fj_okM 124 = true := by decide +kernel
theorem fj_okM_125 : fj_okM 125 = true := by decide +kernel
theorem fj_okM_126 : fj_okM 126 = true := by decide +kernel
theorem fj_okM_127 : fj_okM 127 = true := by decide +kernel
theorem fj_okM_128 : fj_okM 128 = true := by decide +kernel
theorem fj_okM_129 : fj_okM 129 = true := by decide +kernel
theorem fj_okM_130 : fj_okM 130 = true := by decide +kernel
theorem fj_okM_131 : fj_okM 131 = true := by decide +kernel
theorem fj_okM_132 : fj_okM 132 = true := by decide +kernel
theorem fj_okM_133 : fj_okM 133 = true := by decide +kernel
theorem fj_okM_134 : fj_okM 134 = true := by decide +kernel
theorem fj_okM_135 : fj_okM 135 = true := by decide +kernel
theorem fj_okM_136 : fj_okM 136 = true := by decide +kernel
theorem fj_okM_137 : fj_okM 137 = true := by decide +kernel
theorem fj_okM_138 : fj_okM 138 = true := by decide +kernel
theorem fj_okM_139 : fj_okM 139 = true := by decide +kernel
theorem fj_okM_140 : fj_okM 140 = true := by decide +kernel
theorem fj_okM_141 : fj_okM 141 = true := by decide +kernel
theorem fj_okM_142 : fj_okM 142 = true := by decide +kernel
theorem fj_okM_143 : fj_okM 143 = true := by decide +kernel
theorem fj_okM_144 : fj_okM 144 = true := by decide +kernel
theorem fj_okM_145 : fj_okM 145 = true := by decide +kernel
theorem fj_okM_146 : fj_okM 146 = true := by decide +kernel
theorem fj_okM_147 : fj_okM 147 = true := by decide +kernel
theorem fj_okM_148 : fj_okM 148 = true := by decide +kernel
theorem fj_okM_149 : fj_okM 149 = true := by decide +kernel
theorem fj_okM_150 : fj_okM 150 = true := by decide +kernel
theorem fj_okM_151 : fj_okM 151 = true := by decide +kernel
theorem fj_okM_152 : fj_okM 152 = true := by decide +kernel
theorem fj_okM_153 : fj_okM 153 = true := by decide +kernel
theorem fj_okM_154 : fj_okM 154 = true := by decide +kernel
theorem fj_okM_155 : fj_okM 155 = true := by decide +kernel
theorem fj_okM_156 : fj_okM 156 = true := by decide +kernel
theorem fj_okM_157 : fj_okM 157 = true := by decide +kernel
theorem fj_okM_158 : fj_okM 158 = true := by decide +kernel
theorem fj_okM_159 : fj_okM 159 = true := by decide +kernel
theorem fj_okM_160 : fj_okM 160 = true := by decide +kernel
theorem fj_okM_161 : fj_okM 161 = true := by decide +kernel
theorem fj_okM_162 : fj_okM 162 = true := by decide +kernel
theorem fj_okM_163 : fj_okM 163 = true := by decide +kernel
theorem fj_okY_all : (List.range 164).all fj_okY = true := by decide +kernel
end
section
theorem fj_okL_0 : fj_i164_0.all (fun q => fj_okI 164 q.1 q.2) = true := by decide +kernel
theorem fj_okL_1 : fj_i164_1.all (fun q => fj_okI 164 q.1 q.2) = true := by decide +kernel
theorem fj_okL_2 : fj_i164_2.all (fun q => fj_okI 164 q.1 q.2) = true := by decide +kernel
theorem fj_okL_3 : fj_i164_3.all (fun q => fj_okI 164 q.1 q.2) = true := by decide +kernel
theorem fj_okL_4 : fj_i164_4.all (fun q => fj_okI 164 q.1 q.2) = true := by decide +kernel
theorem fj_okL_5 : fj_i164_5.all (fun q => fj_okI 164 q.1 q.2) = true := by decide +kernel
theorem fj_okL_6 : fj_i164_6.all (fun q => fj_okI 164 q.1 q.2) = true := by decide +kernel
theorem fj_okL_7 : fj_i164_7.all (fun q => fj_okI 164 q.1 q.2) = true := by decide +kernel
theorem fj_okL_8 : fj_i164_8.all (fun q => fj_okI 164 q.1 q.2) = true := by decide +kernel
theorem fj_okL_9 : fj_i164_9.all (fun q => fj_okI 164 q.1 q.2) = true := by decide +kernel
theorem fj_okL_10 : fj_i164_10.all (fun q => fj_okI 164 q.1 q.2) = true := by decide +kernel
theorem fj_okL_11 : fj_i164_11.all (fun q => fj_okI 164 q.1 q.2) = true := by decide +kernel
theorem fj_okL_12 : fj_i164_12.all (fun q => fj_okI 164 q.1 q.2) = true := by decide +kernel
theorem fj_okL_13 : fj_i164_13.all (fun q => fj_okI 164 q.1 q.2) = true := by decide +kernel
theorem fj_okL_14 : fj_i164_14.all (fun q => fj_okI 164 q.1 q.2) = true := by decide +kernel
theorem fj_okL_15 : fj_i164_15.all (fun q => fj_okI 164 q.1 q.2) = true := by decide +kernel
theorem fj_okL_16 : fj_i164_16.all (fun q => fj_okI 164 q.1 q.2) = true := by decide +kernel
theorem fj_okL_17 : fj_i164_17.all (fun q => fj_okI 164 q.1 q.2) = true := by decide +kernel
theorem fj_okL_18 : fj_i164_18.all (fun q => fj_okI 164 q.1 q.2) = true := by decide +kernel
theorem fj_okL_19 : fj_i164_19.all (fun q => fj_okI 164 q.1 q.2) = true := by decide +kernel
theorem fj_okL_20 : fj_i164_20.all (fun q => fj_okI 164 q.1 q.2) = true := by decide +kernel
theorem fj_okL_21 : fj_i164_21.all (fun q => fj_okI 164 q.1 q.2) = true := by decide +kernel
theorem fj_okL_22 : fj_i164_22.all (fun q => fj_okI 164 q.1 q.2) = true := by decide +kernel
theorem fj_okL_23 : fj_i164_23.all (fun q => fj_okI 164 q.1 q.2) = true := by decide +kernel
theorem fj_okL_24 : fj_i164_24.all (fun q => fj_okI 164 q.1 q.2) = true := by decide +kernel
theorem fj_okL_25 : fj_i164_25.all (fun q => fj_okI 164 q.1 q.2) = true := by decide +kernel
theorem fj_okL_26 : fj_i164_26.all (fun q => fj_okI 164 q.1 q.2) = true := by decide +kernel
theorem fj_okL_27 : fj_i164_27.all (fun q => fj_okI 164 q.1 q.2) = true := by decide +kernel
theorem fj_okL_28 : fj_i164_28.all (fun q => fj_okI 164 q.1 q.2) = true := by decide +kernel
theorem fj_okL_29 : fj_i164_29.all (fun q => fj_okI 164 q.1 q.2) = true := by decide +kernel
theorem fj_okL_30 : fj_i164_30.all (fun q => fj_okI 164 q.1 q.2) = true := by decide +kernel
theorem fj_okL_31 : fj_i164_31.all (fun q => fj_okI 164 q.1 q.2) = true := by decide +kernel
theorem fj_okL_32 : fj_i164_32.all (fun q => fj_okI 164 q.1 q.2) = true := by decide +kernel
theorem fj_okM_164 : fj_okM 164 = true := by
  show fj_i164.all (fun q => fj_okI 164 q.1 q.2) = true
  simp only [fj_i164, List.all_append, Bool.and_eq_true, fj_okL_0, fj_okL_1, fj_okL_2, fj_okL_3, fj_okL_4, fj_okL_5, fj_okL_6, fj_okL_7, fj_okL_8, fj_okL_9, fj_okL_10, fj_okL_11, fj_okL_12, fj_okL_13, fj_okL_14, fj_okL_15, fj_okL_16, fj_okL_17, fj_okL_18, fj_okL_19, fj_okL_20, fj_okL_21, fj_okL_22, fj_okL_23, fj_okL_24, fj_okL_25, fj_okL_26, fj_okL_27, fj_okL_28, fj_okL_29, fj_okL_30, fj_okL_31, fj_okL_32, and_self]
theorem fj_me_out (y : Nat) (h : 165 ≤ y) : fj_me y = fj_d0 := by
  unfold fj_me
  rw [List.getD_eq_getElem?_getD, List.getElem?_eq_none (Nat.le_trans (show fj_mt.length ≤ 165 from by decide +kernel) h)]
  rfl
theorem fj_okM_all (y : Nat) : fj_okM y = true := by
  by_cases h : 165 ≤ y
  · unfold fj_okM
    rw [fj_me_out y h]
    rfl
  · match y, h with
    | 0, _ => exact fj_okM_0
    | 1, _ => exact fj_okM_1
    | 2, _ => exact fj_okM_2
    | 3, _ => exact fj_okM_3
    | 4, _ => exact fj_okM_4
    | 5, _ => exact fj_okM_5
    | 6, _ => exact fj_okM_6
    | 7, _ => exact fj_okM_7
    | 8, _ => exact fj_okM_8
    | 9, _ => exact fj_okM_9
    | 10, _ => exact fj_okM_10
    | 11, _ => exact fj_okM_11
    | 12, _ => exact fj_okM_12
    | 13, _ => exact fj_okM_13
    | 14, _ => exact fj_okM_14
    | 15, _ => exact fj_okM_15
    | 16, _ => exact fj_okM_16
    | 17, _ => exact fj_okM_17
    | 18, _ => exact fj_okM_18
    | 19, _ => exact fj_okM_19
    | 20, _ => exact fj_okM_20
    | 21, _ => exact fj_okM_21
    | 22, _ => exact fj_okM_22
    | 23, _ => exact fj_okM_23
    | 24, _ => exact fj_okM_24
    | 25, _ => exact fj_okM_25
    | 26, _ => exact fj_okM_26
    | 27, _ => exact fj_okM_27
    | 28, _ => exact fj_okM_28
    | 29, _ => exact fj_okM_29
    | 30, _ => exact fj_okM_30
    | 31, _ => exact fj_okM_31
    | 32, _ => exact fj_okM_32
    | 33, _ => exact fj_okM_33
    | 34, _ => exact fj_okM_34
    | 35, _ => exact fj_okM_35
    | 36, _ => exact fj_okM_36
    | 37, _ => exact fj_okM_37
    | 38, _ => exact fj_okM_38
    | 39, _ => exact fj_okM_39
    | 40, _ => exact fj_okM_40
    | 41, _ => exact fj_okM_41
    | 42, _ => exact fj_okM_42
    | 43, _ => exact fj_okM_43
    | 44, _ => exact fj_okM_44
    | 45, _ => exact fj_okM_45
    | 46, _ => exact fj_okM_46
    | 47, _ => exact fj_okM_47
    | 48, _ => exact fj_okM_48
    | 49, _ => exact fj_okM_49
    | 50, _ => exact fj_okM_50
    | 51, _ => exact fj_okM_51
    | 52, _ => exact fj_okM_52
    | 53, _ => exact fj_okM_53
    | 54, _ => exact fj_okM_54
    | 55, _ => exact fj_okM_55
    | 56, _ => exact fj_okM_56
    | 57, _ => exact fj_okM_57
    | 58, _ => exact fj_okM_58
    | 59, _ => exact fj_okM_59
    | 60, _ => exact fj_okM_60
    | 61, _ => exact fj_okM_61
    | 62, _ => exact fj_okM_62
    | 63, _ => exact fj_okM_63
    | 64, _ => exact fj_okM_64
    | 65, _ => exact fj_okM_65
    | 66, _ => exact fj_okM_66
    | 67, _ => exact fj_okM_67
    | 68, _ => exact fj_okM_68
    | 69, _ => exact fj_okM_69
    | 70, _ => exact fj_okM_70
    | 71, _ => exact fj_okM_71
    | 72, _ => exact fj_okM_72
    | 73, _ => exact fj_okM_73
    | 74, _ => exact fj_okM_74
    | 75, _ => exact fj_okM_75
    | 76, _ => exact fj_okM_76
    | 77, _ => exact fj_okM_77
    | 78, _ => exact fj_okM_78
    | 79, _ => exact fj_okM_79
    | 80, _ => exact fj_okM_80
    | 81, _ => exact fj_okM_81
    | 82, _ => exact fj_okM_82
    | 83, _ => exact fj_okM_83
    | 84, _ => exact fj_okM_84
    | 85, _ => exact fj_okM_85
    | 86, _ => exact fj_okM_86
    | 87, _ => exact fj_okM_87
    | 88, _ => exact fj_okM_88
    | 89, _ => exact fj_okM_89
    | 90, _ => exact fj_okM_90
    | 91, _ => exact fj_okM_91
    | 92, _ => exact fj_okM_92
    | 93, _ => exact fj_okM_93
    | 94, _ => exact fj_okM_94
    | 95, _ => exact fj_okM_95
    | 96, _ => exact fj_okM_96
    | 97, _ => exact fj_okM_97
    | 98, _ => exact fj_okM_98
    | 99, _ => exact fj_okM_99
    | 100, _ => exact fj_okM_100
    | 101, _ => exact fj_okM_101
    | 102, _ => exact fj_okM_102
    | 103, _ => exact fj_okM_103
    | 104, _ => exact fj_okM_104
    | 105, _ => exact fj_okM_105
    | 106, _ => exact fj_okM_106
    | 107, _ => exact fj_okM_107
    | 108, _ => exact fj_okM_108
    | 109, _ => exact fj_okM_109
    | 110, _ => exact fj_okM_110
    | 111, _ => exact fj_okM_111
    | 112, _ => exact fj_okM_112
    | 113, _ => exact fj_okM_113
    | 114, _ => exact fj_okM_114
    | 115, _ => exact fj_okM_115
    | 116, _ => exact fj_okM_116
    | 117, _ => exact fj_okM_117
    | 118, _ => exact fj_okM_118
    | 119, _ => exact fj_okM_119
    | 120, _ => exact fj_okM_120
    | 121, _ => exact fj_okM_121
    | 122, _ => exact fj_okM_122
    | 123, _ => exact fj_okM_123
    | 124, _ => exact fj_okM_124
    | 125, _ => exact fj_okM_125
    | 126, _ => exact fj_okM_126
    | 127, _ => exact fj_okM_127
    | 128, _ => exact fj_okM_128
    | 129, _ => exact fj_okM_129
    | 130, _ => exact fj_okM_130
    | 131, _ => exact fj_okM_131
    | 132, _ => exact fj_okM_132
    | 133, _ => exact fj_okM_133
    | 134, _ => exact fj_okM_134
    | 135, _ => exact fj_okM_135
    | 136, _ => exact fj_okM_136
    | 137, _ => exact fj_okM_137
    | 138, _ => exact fj_okM_138
    | 139, _ => exact fj_okM_139
    | 140, _ => exact fj_okM_140
    | 141, _ => exact fj_okM_141
    | 142, _ => exact fj_okM_142
    | 143, _ => exact fj_okM_143
    | 144, _ => exact fj_okM_144
    | 145, _ => exact fj_okM_145
    | 146, _ => exact fj_okM_146
    | 147, _ => exact fj_okM_147
    | 148, _ => exact fj_okM_148
    | 149, _ => exact fj_okM_149
    | 150, _ => exact fj_okM_150
    | 151, _ => exact fj_okM_151
    | 152, _ => exact fj_okM_152
    | 153, _ => exact fj_okM_153
    | 154, _ => exact fj_okM_154
    | 155, _ => exact fj_okM_155
    | 156, _ => exact fj_okM_156
    | 157, _ => exact fj_okM_157
    | 158, _ => exact fj_okM_158
    | 159, _ => exact fj_okM_159
    | 160, _ => exact fj_okM_160
    | 161, _ => exact fj_okM_161
    | 162, _ => exact fj_okM_162
    | 163, _ => exact fj_okM_163
    | 164, _ => exact fj_okM_164
    | n + 165, h => exact absurd (Nat.le_add_left _ _) h
theorem fj_okI_of {y pc : Nat} {ai : fj_AI} (h : fj_cd y pc = some ai) : fj_okI y pc ai = true := List.all_eq_true.mp (fj_okM_all y) (pc, ai) (fj_lookup_mem h)
theorem fj_okY_of {y : Nat} (h : y < 164) : fj_okY y = true := List.all_eq_true.mp fj_okY_all y (List.mem_range.mpr h)
set_option maxRecDepth 100000 in
theorem fj_kw_0 : lw_tbl[149]? = some (.code (fj_yn 0) (fj_bc 0) (fj_ml 0) (fj_rt 0)) := by rfl
set_option maxRecDepth 100000 in
theorem fj_kw_1 : lw_tbl[457]? = some (.code (fj_yn 1) (fj_bc 1) (fj_ml 1) (fj_rt 1)) := by rfl
set_option maxRecDepth 100000 in
theorem fj_kw_2 : lw_tbl[461]? = some (.code (fj_yn 2) (fj_bc 2) (fj_ml 2) (fj_rt 2)) := by rfl
set_option maxRecDepth 100000 in
theorem fj_kw_3 : lw_tbl[93]? = some (.code (fj_yn 3) (fj_bc 3) (fj_ml 3) (fj_rt 3)) := by rfl
set_option maxRecDepth 100000 in
theorem fj_kw_4 : lw_tbl[533]? = some (.code (fj_yn 4) (fj_bc 4) (fj_ml 4) (fj_rt 4)) := by rfl
set_option maxRecDepth 100000 in
theorem fj_kw_5 : lw_tbl[545]? = some (.code (fj_yn 5) (fj_bc 5) (fj_ml 5) (fj_rt 5)) := by rfl
set_option maxRecDepth 100000 in
theorem fj_kw_6 : lw_tbl[559]? = some (.code (fj_yn 6) (fj_bc 6) (fj_ml 6) (fj_rt 6)) := by rfl
set_option maxRecDepth 100000 in
theorem fj_kw_7 : lw_tbl[549]? = some (.code (fj_yn 7) (fj_bc 7) (fj_ml 7) (fj_rt 7)) := by rfl
set_option maxRecDepth 100000 in
theorem fj_kw_8 : lw_tbl[168]? = some (.code (fj_yn 8) (fj_bc 8) (fj_ml 8) (fj_rt 8)) := by rfl
set_option maxRecDepth 100000 in
theorem fj_kw_9 : lw_tbl[474]? = some (.code (fj_yn 9) (fj_bc 9) (fj_ml 9) (fj_rt 9)) := by rfl
set_option maxRecDepth 100000 in
theorem fj_kw_10 : lw_tbl[515]? = some (.code (fj_yn 10) (fj_bc 10) (fj_ml 10) (fj_rt 10)) := by rfl
set_option maxRecDepth 100000 in
theorem fj_kw_11 : lw_tbl[478]? = some (.code (fj_yn 11) (fj_bc 11) (fj_ml 11) (fj_rt 11)) := by rfl
set_option maxRecDepth 100000 in
theorem fj_kw_12 : lw_tbl[495]? = some (.code (fj_yn 12) (fj_bc 12) (fj_ml 12) (fj_rt 12)) := by rfl
set_option maxRecDepth 100000 in
theorem fj_kw_13 : lw_tbl[482]? = some (.code (fj_yn 13) (fj_bc 13) (fj_ml 13) (fj_rt 13)) := by rfl
set_option maxRecDepth 100000 in
theorem fj_kw_14 : lw_tbl[488]? = some (.code (fj_yn 14) (fj_bc 14) (fj_ml 14) (fj_rt 14)) := by rfl
set_option maxRecDepth 100000 in
theorem fj_kw_15 : lw_tbl[499]? = some (.code (fj_yn 15) (fj_bc 15) (fj_ml 15) (fj_rt 15)) := by rfl
set_option maxRecDepth 100000 in
theorem fj_kw_16 : lw_tbl[503]? = some (.code (fj_yn 16) (fj_bc 16) (fj_ml 16) (fj_rt 16)) := by rfl
set_option maxRecDepth 100000 in
theorem fj_kw_17 : lw_tbl[507]? = some (.code (fj_yn 17) (fj_bc 17) (fj_ml 17) (fj_rt 17)) := by rfl
set_option maxRecDepth 100000 in
theorem fj_kw_18 : lw_tbl[76]? = some (.code (fj_yn 18) (fj_bc 18) (fj_ml 18) (fj_rt 18)) := by rfl
set_option maxRecDepth 100000 in
theorem fj_kw_19 : lw_tbl[289]? = some (.code (fj_yn 19) (fj_bc 19) (fj_ml 19) (fj_rt 19)) := by rfl
set_option maxRecDepth 100000 in
theorem fj_kw_20 : lw_tbl[292]? = some (.code (fj_yn 20) (fj_bc 20) (fj_ml 20) (fj_rt 20)) := by rfl
set_option maxRecDepth 100000 in
theorem fj_kw_21 : lw_tbl[300]? = some (.code (fj_yn 21) (fj_bc 21) (fj_ml 21) (fj_rt 21)) := by rfl
set_option maxRecDepth 100000 in
theorem fj_kw_22 : lw_tbl[614]? = some (.code (fj_yn 22) (fj_bc 22) (fj_ml 22) (fj_rt 22)) := by rfl
set_option maxRecDepth 100000 in
theorem fj_kw_23 : lw_tbl[296]? = some (.code (fj_yn 23) (fj_bc 23) (fj_ml 23) (fj_rt 23)) := by rfl
set_option maxRecDepth 100000 in
theorem fj_kw_24 : lw_tbl[594]? = some (.code (fj_yn 24) (fj_bc 24) (fj_ml 24) (fj_rt 24)) := by rfl
set_option maxRecDepth 100000 in
theorem fj_kw_25 : lw_tbl[308]? = some (.code (fj_yn 25) (fj_bc 25) (fj_ml 25) (fj_rt 25)) := by rfl
set_option maxRecDepth 100000 in
theorem fj_kw_26 : lw_tbl[577]? = some (.code (fj_yn 26) (fj_bc 26) (fj_ml 26) (fj_rt 26)) := by rfl
set_option maxRecDepth 100000 in
theorem fj_kw_27 : lw_tbl[586]? = some (.code (fj_yn 27) (fj_bc 27) (fj_ml 27) (fj_rt 27)) := by rfl
set_option maxRecDepth 100000 in
theorem fj_kw_28 : lw_tbl[316]? = some (.code (fj_yn 28) (fj_bc 28) (fj_ml 28) (fj_rt 28)) := by rfl
set_option maxRecDepth 100000 in
theorem fj_kw_29 : lw_tbl[598]? = some (.code (fj_yn 29) (fj_bc 29) (fj_ml 29) (fj_rt 29)) := by rfl
set_option maxRecDepth 100000 in
theorem fj_kw_30 : lw_tbl[601]? = some (.code (fj_yn 30) (fj_bc 30) (fj_ml 30) (fj_rt 30)) := by rfl
set_option maxRecDepth 100000 in
theorem fj_kw_31 : lw_tbl[618]? = some (.code (fj_yn 31) (fj_bc 31) (fj_ml 31) (fj_rt 31)) := by rfl
set_option maxRecDepth 100000 in
theorem fj_kw_32 : lw_tbl[312]? = some (.code (fj_yn 32) (fj_bc 32) (fj_ml 32) (fj_rt 32)) := by rfl
set_option maxRecDepth 100000 in
theorem fj_kw_33 : lw_tbl[114]? = some (.code (fj_yn 33) (fj_bc 33) (fj_ml 33) (fj_rt 33)) := by rfl
set_option maxRecDepth 100000 in
theorem fj_kw_34 : lw_tbl[431]? = some (.code (fj_yn 34) (fj_bc 34) (fj_ml 34) (fj_rt 34)) := by rfl
set_option maxRecDepth 100000 in
theorem fj_kw_35 : lw_tbl[444]? = some (.code (fj_yn 35) (fj_bc 35) (fj_ml 35) (fj_rt 35)) := by rfl
set_option maxRecDepth 100000 in
theorem fj_kw_36 : lw_tbl[435]? = some (.code (fj_yn 36) (fj_bc 36) (fj_ml 36) (fj_rt 36)) := by rfl
set_option maxRecDepth 100000 in
theorem fj_kw_37 : lw_tbl[439]? = some (.code (fj_yn 37) (fj_bc 37) (fj_ml 37) (fj_rt 37)) := by rfl
set_option maxRecDepth 100000 in
theorem fj_kw_38 : lw_tbl[448]? = some (.code (fj_yn 38) (fj_bc 38) (fj_ml 38) (fj_rt 38)) := by rfl
set_option maxRecDepth 100000 in
theorem fj_kw_39 : lw_tbl[184]? = some (.code (fj_yn 39) (fj_bc 39) (fj_ml 39) (fj_rt 39)) := by rfl
set_option maxRecDepth 100000 in
theorem fj_kw_40 : lw_tbl[392]? = some (.code (fj_yn 40) (fj_bc 40) (fj_ml 40) (fj_rt 40)) := by rfl
set_option maxRecDepth 100000 in
theorem fj_kw_41 : lw_tbl[358]? = some (.code (fj_yn 41) (fj_bc 41) (fj_ml 41) (fj_rt 41)) := by rfl
set_option maxRecDepth 100000 in
theorem fj_kw_42 : lw_tbl[366]? = some (.code (fj_yn 42) (fj_bc 42) (fj_ml 42) (fj_rt 42)) := by rfl
set_option maxRecDepth 100000 in
theorem fj_kw_43 : lw_tbl[373]? = some (.code (fj_yn 43) (fj_bc 43) (fj_ml 43) (fj_rt 43)) := by rfl
set_option maxRecDepth 100000 in
theorem fj_kw_44 : lw_tbl[324]? = some (.code (fj_yn 44) (fj_bc 44) (fj_ml 44) (fj_rt 44)) := by rfl
set_option maxRecDepth 100000 in
theorem fj_kw_45 : lw_tbl[328]? = some (.code (fj_yn 45) (fj_bc 45) (fj_ml 45) (fj_rt 45)) := by rfl
set_option maxRecDepth 100000 in
theorem fj_kw_46 : lw_tbl[331]? = some (.code (fj_yn 46) (fj_bc 46) (fj_ml 46) (fj_rt 46)) := by rfl
set_option maxRecDepth 100000 in
theorem fj_kw_47 : lw_tbl[335]? = some (.code (fj_yn 47) (fj_bc 47) (fj_ml 47) (fj_rt 47)) := by rfl
set_option maxRecDepth 100000 in
theorem fj_kw_48 : lw_tbl[342]? = some (.code (fj_yn 48) (fj_bc 48) (fj_ml 48) (fj_rt 48)) := by rfl
set_option maxRecDepth 100000 in
theorem fj_kw_49 : lw_tbl[339]? = some (.code (fj_yn 49) (fj_bc 49) (fj_ml 49) (fj_rt 49)) := by rfl
set_option maxRecDepth 100000 in
theorem fj_kw_50 : lw_tbl[346]? = some (.code (fj_yn 50) (fj_bc 50) (fj_ml 50) (fj_rt 50)) := by rfl
set_option maxRecDepth 100000 in
theorem fj_kw_51 : lw_tbl[350]? = some (.code (fj_yn 51) (fj_bc 51) (fj_ml 51) (fj_rt 51)) := by rfl
set_option maxRecDepth 100000 in
theorem fj_kw_52 : lw_tbl[381]? = some (.code (fj_yn 52) (fj_bc 52) (fj_ml 52) (fj_rt 52)) := by rfl
set_option maxRecDepth 100000 in
theorem fj_kw_53 : lw_tbl[369]? = some (.code (fj_yn 53) (fj_bc 53) (fj_ml 53) (fj_rt 53)) := by rfl
set_option maxRecDepth 100000 in
theorem fj_kw_54 : lw_tbl[408]? = some (.code (fj_yn 54) (fj_bc 54) (fj_ml 54) (fj_rt 54)) := by rfl
set_option maxRecDepth 100000 in
theorem fj_kw_55 : lw_tbl[422]? = some (.code (fj_yn 55) (fj_bc 55) (fj_ml 55) (fj_rt 55)) := by rfl
set_option maxRecDepth 100000 in
theorem fj_kw_56 : lw_tbl[427]? = some (.code (fj_yn 56) (fj_bc 56) (fj_ml 56) (fj_rt 56)) := by rfl
set_option maxRecDepth 100000 in
theorem fj_kw_57 : lw_tbl[68]? = some (.code (fj_yn 57) (fj_bc 57) (fj_ml 57) (fj_rt 57)) := by rfl
set_option maxRecDepth 100000 in
theorem fj_kw_58 : lw_tbl[286]? = some (.code (fj_yn 58) (fj_bc 58) (fj_ml 58) (fj_rt 58)) := by rfl
set_option maxRecDepth 100000 in
theorem fj_kw_59 : lw_tbl[320]? = some (.code (fj_yn 59) (fj_bc 59) (fj_ml 59) (fj_rt 59)) := by rfl
set_option maxRecDepth 100000 in
theorem fj_kw_60 : lw_tbl[354]? = some (.code (fj_yn 60) (fj_bc 60) (fj_ml 60) (fj_rt 60)) := by rfl
set_option maxRecDepth 100000 in
theorem fj_kw_61 : lw_tbl[362]? = some (.code (fj_yn 61) (fj_bc 61) (fj_ml 61) (fj_rt 61)) := by rfl
set_option maxRecDepth 100000 in
theorem fj_kw_62 : lw_tbl[377]? = some (.code (fj_yn 62) (fj_bc 62) (fj_ml 62) (fj_rt 62)) := by rfl
set_option maxRecDepth 100000 in
theorem fj_kw_63 : lw_tbl[388]? = some (.code (fj_yn 63) (fj_bc 63) (fj_ml 63) (fj_rt 63)) := by rfl
set_option maxRecDepth 100000 in
theorem fj_kw_64 : lw_tbl[396]? = some (.code (fj_yn 64) (fj_bc 64) (fj_ml 64) (fj_rt 64)) := by rfl
set_option maxRecDepth 100000 in
theorem fj_kw_65 : lw_tbl[400]? = some (.code (fj_yn 65) (fj_bc 65) (fj_ml 65) (fj_rt 65)) := by rfl
set_option maxRecDepth 100000 in
theorem fj_kw_66 : lw_tbl[404]? = some (.code (fj_yn 66) (fj_bc 66) (fj_ml 66) (fj_rt 66)) := by rfl
set_option maxRecDepth 100000 in
theorem fj_kw_67 : lw_tbl[414]? = some (.code (fj_yn 67) (fj_bc 67) (fj_ml 67) (fj_rt 67)) := by rfl
set_option maxRecDepth 100000 in
theorem fj_kw_68 : lw_tbl[418]? = some (.code (fj_yn 68) (fj_bc 68) (fj_ml 68) (fj_rt 68)) := by rfl
set_option maxRecDepth 100000 in
theorem fj_kw_69 : lw_tbl[453]? = some (.code (fj_yn 69) (fj_bc 69) (fj_ml 69) (fj_rt 69)) := by rfl
set_option maxRecDepth 100000 in
theorem fj_kw_70 : lw_tbl[466]? = some (.code (fj_yn 70) (fj_bc 70) (fj_ml 70) (fj_rt 70)) := by rfl
set_option maxRecDepth 100000 in
theorem fj_kw_71 : lw_tbl[470]? = some (.code (fj_yn 71) (fj_bc 71) (fj_ml 71) (fj_rt 71)) := by rfl
set_option maxRecDepth 100000 in
theorem fj_kw_72 : lw_tbl[511]? = some (.code (fj_yn 72) (fj_bc 72) (fj_ml 72) (fj_rt 72)) := by rfl
set_option maxRecDepth 100000 in
theorem fj_kw_73 : lw_tbl[525]? = some (.code (fj_yn 73) (fj_bc 73) (fj_ml 73) (fj_rt 73)) := by rfl
set_option maxRecDepth 100000 in
theorem fj_kw_74 : lw_tbl[529]? = some (.code (fj_yn 74) (fj_bc 74) (fj_ml 74) (fj_rt 74)) := by rfl
set_option maxRecDepth 100000 in
theorem fj_kw_75 : lw_tbl[537]? = some (.code (fj_yn 75) (fj_bc 75) (fj_ml 75) (fj_rt 75)) := by rfl
set_option maxRecDepth 100000 in
theorem fj_kw_76 : lw_tbl[541]? = some (.code (fj_yn 76) (fj_bc 76) (fj_ml 76) (fj_rt 76)) := by rfl
set_option maxRecDepth 100000 in
theorem fj_kw_77 : lw_tbl[555]? = some (.code (fj_yn 77) (fj_bc 77) (fj_ml 77) (fj_rt 77)) := by rfl
set_option maxRecDepth 100000 in
theorem fj_kw_78 : lw_tbl[563]? = some (.code (fj_yn 78) (fj_bc 78) (fj_ml 78) (fj_rt 78)) := by rfl
set_option maxRecDepth 100000 in
theorem fj_kw_79 : lw_tbl[567]? = some (.code (fj_yn 79) (fj_bc 79) (fj_ml 79) (fj_rt 79)) := by rfl
set_option maxRecDepth 100000 in
theorem fj_kw_80 : lw_tbl[573]? = some (.code (fj_yn 80) (fj_bc 80) (fj_ml 80) (fj_rt 80)) := by rfl
set_option maxRecDepth 100000 in
theorem fj_kw_81 : lw_tbl[581]? = some (.code (fj_yn 81) (fj_bc 81) (fj_ml 81) (fj_rt 81)) := by rfl
set_option maxRecDepth 100000 in
theorem fj_kw_82 : lw_tbl[590]? = some (.code (fj_yn 82) (fj_bc 82) (fj_ml 82) (fj_rt 82)) := by rfl
set_option maxRecDepth 100000 in
theorem fj_kw_83 : lw_tbl[605]? = some (.code (fj_yn 83) (fj_bc 83) (fj_ml 83) (fj_rt 83)) := by rfl
set_option maxRecDepth 100000 in
theorem fj_kw_84 : lw_tbl[610]? = some (.code (fj_yn 84) (fj_bc 84) (fj_ml 84) (fj_rt 84)) := by rfl
set_option maxRecDepth 100000 in
theorem fj_kw_85 : lw_tbl[625]? = some (.code (fj_yn 85) (fj_bc 85) (fj_ml 85) (fj_rt 85)) := by rfl
set_option maxRecDepth 100000 in
theorem fj_kw_86 : lw_tbl[641]? = some (.code (fj_yn 86) (fj_bc 86) (fj_ml 86) (fj_rt 86)) := by rfl
set_option maxRecDepth 100000 in
theorem fj_kw_87 : lw_tbl[637]? = some (.code (fj_yn 87) (fj_bc 87) (fj_ml 87) (fj_rt 87)) := by rfl
set_option maxRecDepth 100000 in
theorem fj_kw_88 : lw_tbl[629]? = some (.code (fj_yn 88) (fj_bc 88) (fj_ml 88) (fj_rt 88)) := by rfl
set_option maxRecDepth 100000 in
theorem fj_kw_89 : lw_tbl[645]? = some (.code (fj_yn 89) (fj_bc 89) (fj_ml 89) (fj_rt 89)) := by rfl
set_option maxRecDepth 100000 in
theorem fj_kw_90 : lw_tbl[633]? = some (.code (fj_yn 90) (fj_bc 90) (fj_ml 90) (fj_rt 90)) := by rfl
set_option maxRecDepth 100000 in
theorem fj_kw_91 : lw_tbl[649]? = some (.code (fj_yn 91) (fj_bc 91) (fj_ml 91) (fj_rt 91)) := by rfl
set_option maxRecDepth 100000 in
theorem fj_kw_92 : lw_tbl[653]? = some (.code (fj_yn 92) (fj_bc 92) (fj_ml 92) (fj_rt 92)) := by rfl
set_option maxRecDepth 100000 in
theorem fj_kw_93 : lw_tbl[657]? = some (.code (fj_yn 93) (fj_bc 93) (fj_ml 93) (fj_rt 93)) := by rfl
set_option maxRecDepth 100000 in
theorem fj_kw_94 : lw_tbl[661]? = some (.code (fj_yn 94) (fj_bc 94) (fj_ml 94) (fj_rt 94)) := by rfl
set_option maxRecDepth 100000 in
theorem fj_kw_95 : lw_tbl[304]? = some (.code (fj_yn 95) (fj_bc 95) (fj_ml 95) (fj_rt 95)) := by rfl
set_option maxRecDepth 100000 in
theorem fj_kw_96 : lw_tbl[666]? = some (.code (fj_yn 96) (fj_bc 96) (fj_ml 96) (fj_rt 96)) := by rfl
set_option maxRecDepth 100000 in
theorem fj_kw_97 : lw_tbl[802]? = some (.code (fj_yn 97) (fj_bc 97) (fj_ml 97) (fj_rt 97)) := by rfl
set_option maxRecDepth 100000 in
theorem fj_kw_98 : lw_tbl[995]? = some (.code (fj_yn 98) (fj_bc 98) (fj_ml 98) (fj_rt 98)) := by rfl
set_option maxRecDepth 100000 in
theorem fj_kw_99 : lw_tbl[861]? = some (.code (fj_yn 99) (fj_bc 99) (fj_ml 99) (fj_rt 99)) := by rfl
set_option maxRecDepth 100000 in
theorem fj_kw_100 : lw_tbl[960]? = some (.code (fj_yn 100) (fj_bc 100) (fj_ml 100) (fj_rt 100)) := by rfl
set_option maxRecDepth 100000 in
theorem fj_kw_101 : lw_tbl[999]? = some (.code (fj_yn 101) (fj_bc 101) (fj_ml 101) (fj_rt 101)) := by rfl
set_option maxRecDepth 100000 in
theorem fj_kw_102 : lw_tbl[806]? = some (.code (fj_yn 102) (fj_bc 102) (fj_ml 102) (fj_rt 102)) := by rfl
set_option maxRecDepth 100000 in
theorem fj_kw_103 : lw_tbl[815]? = some (.code (fj_yn 103) (fj_bc 103) (fj_ml 103) (fj_rt 103)) := by rfl
set_option maxRecDepth 100000 in
theorem fj_kw_104 : lw_tbl[1023]? = some (.code (fj_yn 104) (fj_bc 104) (fj_ml 104) (fj_rt 104)) := by rfl
set_option maxRecDepth 100000 in
theorem fj_kw_105 : lw_tbl[846]? = some (.code (fj_yn 105) (fj_bc 105) (fj_ml 105) (fj_rt 105)) := by rfl
set_option maxRecDepth 100000 in
theorem fj_kw_106 : lw_tbl[854]? = some (.code (fj_yn 106) (fj_bc 106) (fj_ml 106) (fj_rt 106)) := by rfl
set_option maxRecDepth 100000 in
theorem fj_kw_107 : lw_tbl[891]? = some (.code (fj_yn 107) (fj_bc 107) (fj_ml 107) (fj_rt 107)) := by rfl
set_option maxRecDepth 100000 in
theorem fj_kw_108 : lw_tbl[826]? = some (.code (fj_yn 108) (fj_bc 108) (fj_ml 108) (fj_rt 108)) := by rfl
set_option maxRecDepth 100000 in
theorem fj_kw_109 : lw_tbl[830]? = some (.code (fj_yn 109) (fj_bc 109) (fj_ml 109) (fj_rt 109)) := by rfl
set_option maxRecDepth 100000 in
theorem fj_kw_110 : lw_tbl[838]? = some (.code (fj_yn 110) (fj_bc 110) (fj_ml 110) (fj_rt 110)) := by rfl
set_option maxRecDepth 100000 in
theorem fj_kw_111 : lw_tbl[834]? = some (.code (fj_yn 111) (fj_bc 111) (fj_ml 111) (fj_rt 111)) := by rfl
set_option maxRecDepth 100000 in
theorem fj_kw_112 : lw_tbl[822]? = some (.code (fj_yn 112) (fj_bc 112) (fj_ml 112) (fj_rt 112)) := by rfl
set_option maxRecDepth 100000 in
theorem fj_kw_113 : lw_tbl[811]? = some (.code (fj_yn 113) (fj_bc 113) (fj_ml 113) (fj_rt 113)) := by rfl
set_option maxRecDepth 100000 in
theorem fj_kw_114 : lw_tbl[795]? = some (.code (fj_yn 114) (fj_bc 114) (fj_ml 114) (fj_rt 114)) := by rfl
set_option maxRecDepth 100000 in
theorem fj_kw_115 : lw_tbl[842]? = some (.code (fj_yn 115) (fj_bc 115) (fj_ml 115) (fj_rt 115)) := by rfl
set_option maxRecDepth 100000 in
theorem fj_kw_116 : lw_tbl[858]? = some (.code (fj_yn 116) (fj_bc 116) (fj_ml 116) (fj_rt 116)) := by rfl
set_option maxRecDepth 100000 in
theorem fj_kw_117 : lw_tbl[850]? = some (.code (fj_yn 117) (fj_bc 117) (fj_ml 117) (fj_rt 117)) := by rfl
set_option maxRecDepth 100000 in
theorem fj_kw_118 : lw_tbl[869]? = some (.code (fj_yn 118) (fj_bc 118) (fj_ml 118) (fj_rt 118)) := by rfl
set_option maxRecDepth 100000 in
theorem fj_kw_119 : lw_tbl[865]? = some (.code (fj_yn 119) (fj_bc 119) (fj_ml 119) (fj_rt 119)) := by rfl
set_option maxRecDepth 100000 in
theorem fj_kw_120 : lw_tbl[873]? = some (.code (fj_yn 120) (fj_bc 120) (fj_ml 120) (fj_rt 120)) := by rfl
set_option maxRecDepth 100000 in
theorem fj_kw_121 : lw_tbl[878]? = some (.code (fj_yn 121) (fj_bc 121) (fj_ml 121) (fj_rt 121)) := by rfl
set_option maxRecDepth 100000 in
theorem fj_kw_122 : lw_tbl[883]? = some (.code (fj_yn 122) (fj_bc 122) (fj_ml 122) (fj_rt 122)) := by rfl
set_option maxRecDepth 100000 in
theorem fj_kw_123 : lw_tbl[895]? = some (.code (fj_yn 123) (fj_bc 123) (fj_ml 123) (fj_rt 123)) := by rfl
set_option maxRecDepth 100000 in
theorem fj_kw_124 : lw_tbl[887]? = some (.code (fj_yn 124) (fj_bc 124) (fj_ml 124) (fj_rt 124)) := by rfl
set_option maxRecDepth 100000 in
theorem fj_kw_125 : lw_tbl[909]? = some (.code (fj_yn 125) (fj_bc 125) (fj_ml 125) (fj_rt 125)) := by rfl
set_option maxRecDepth 100000 in
theorem fj_kw_126 : lw_tbl[913]? = some (.code (fj_yn 126) (fj_bc 126) (fj_ml 126) (fj_rt 126)) := by rfl
set_option maxRecDepth 100000 in
theorem fj_kw_127 : lw_tbl[904]? = some (.code (fj_yn 127) (fj_bc 127) (fj_ml 127) (fj_rt 127)) := by rfl
set_option maxRecDepth 100000 in
theorem fj_kw_128 : lw_tbl[899]? = some (.code (fj_yn 128) (fj_bc 128) (fj_ml 128) (fj_rt 128)) := by rfl
set_option maxRecDepth 100000 in
theorem fj_kw_129 : lw_tbl[921]? = some (.code (fj_yn 129) (fj_bc 129) (fj_ml 129) (fj_rt 129)) := by rfl
set_option maxRecDepth 100000 in
theorem fj_kw_130 : lw_tbl[917]? = some (.code (fj_yn 130) (fj_bc 130) (fj_ml 130) (fj_rt 130)) := by rfl
set_option maxRecDepth 100000 in
theorem fj_kw_131 : lw_tbl[925]? = some (.code (fj_yn 131) (fj_bc 131) (fj_ml 131) (fj_rt 131)) := by rfl
set_option maxRecDepth 100000 in
theorem fj_kw_132 : lw_tbl[949]? = some (.code (fj_yn 132) (fj_bc 132) (fj_ml 132) (fj_rt 132)) := by rfl
set_option maxRecDepth 100000 in
theorem fj_kw_133 : lw_tbl[941]? = some (.code (fj_yn 133) (fj_bc 133) (fj_ml 133) (fj_rt 133)) := by rfl
set_option maxRecDepth 100000 in
theorem fj_kw_134 : lw_tbl[945]? = some (.code (fj_yn 134) (fj_bc 134) (fj_ml 134) (fj_rt 134)) := by rfl
set_option maxRecDepth 100000 in
theorem fj_kw_135 : lw_tbl[937]? = some (.code (fj_yn 135) (fj_bc 135) (fj_ml 135) (fj_rt 135)) := by rfl
set_option maxRecDepth 100000 in
theorem fj_kw_136 : lw_tbl[953]? = some (.code (fj_yn 136) (fj_bc 136) (fj_ml 136) (fj_rt 136)) := by rfl
set_option maxRecDepth 100000 in
theorem fj_kw_137 : lw_tbl[933]? = some (.code (fj_yn 137) (fj_bc 137) (fj_ml 137) (fj_rt 137)) := by rfl
set_option maxRecDepth 100000 in
theorem fj_kw_138 : lw_tbl[929]? = some (.code (fj_yn 138) (fj_bc 138) (fj_ml 138) (fj_rt 138)) := by rfl
set_option maxRecDepth 100000 in
theorem fj_kw_139 : lw_tbl[957]? = some (.code (fj_yn 139) (fj_bc 139) (fj_ml 139) (fj_rt 139)) := by rfl
set_option maxRecDepth 100000 in
theorem fj_kw_140 : lw_tbl[964]? = some (.code (fj_yn 140) (fj_bc 140) (fj_ml 140) (fj_rt 140)) := by rfl
set_option maxRecDepth 100000 in
theorem fj_kw_141 : lw_tbl[968]? = some (.code (fj_yn 141) (fj_bc 141) (fj_ml 141) (fj_rt 141)) := by rfl
set_option maxRecDepth 100000 in
theorem fj_kw_142 : lw_tbl[972]? = some (.code (fj_yn 142) (fj_bc 142) (fj_ml 142) (fj_rt 142)) := by rfl
set_option maxRecDepth 100000 in
theorem fj_kw_143 : lw_tbl[980]? = some (.code (fj_yn 143) (fj_bc 143) (fj_ml 143) (fj_rt 143)) := by rfl
set_option maxRecDepth 100000 in
theorem fj_kw_144 : lw_tbl[976]? = some (.code (fj_yn 144) (fj_bc 144) (fj_ml 144) (fj_rt 144)) := by rfl
set_option maxRecDepth 100000 in
theorem fj_kw_145 : lw_tbl[984]? = some (.code (fj_yn 145) (fj_bc 145) (fj_ml 145) (fj_rt 145)) := by rfl
set_option maxRecDepth 100000 in
theorem fj_kw_146 : lw_tbl[988]? = some (.code (fj_yn 146) (fj_bc 146) (fj_ml 146) (fj_rt 146)) := by rfl
set_option maxRecDepth 100000 in
theorem fj_kw_147 : lw_tbl[992]? = some (.code (fj_yn 147) (fj_bc 147) (fj_ml 147) (fj_rt 147)) := by rfl
set_option maxRecDepth 100000 in
theorem fj_kw_148 : lw_tbl[798]? = some (.code (fj_yn 148) (fj_bc 148) (fj_ml 148) (fj_rt 148)) := by rfl
set_option maxRecDepth 100000 in
theorem fj_kw_149 : lw_tbl[1003]? = some (.code (fj_yn 149) (fj_bc 149) (fj_ml 149) (fj_rt 149)) := by rfl
set_option maxRecDepth 100000 in
theorem fj_kw_150 : lw_tbl[1007]? = some (.code (fj_yn 150) (fj_bc 150) (fj_ml 150) (fj_rt 150)) := by rfl
set_option maxRecDepth 100000 in
theorem fj_kw_151 : lw_tbl[1015]? = some (.code (fj_yn 151) (fj_bc 151) (fj_ml 151) (fj_rt 151)) := by rfl
set_option maxRecDepth 100000 in
theorem fj_kw_152 : lw_tbl[1011]? = some (.code (fj_yn 152) (fj_bc 152) (fj_ml 152) (fj_rt 152)) := by rfl
set_option maxRecDepth 100000 in
theorem fj_kw_153 : lw_tbl[1019]? = some (.code (fj_yn 153) (fj_bc 153) (fj_ml 153) (fj_rt 153)) := by rfl
set_option maxRecDepth 100000 in
theorem fj_kw_154 : lw_tbl[818]? = some (.code (fj_yn 154) (fj_bc 154) (fj_ml 154) (fj_rt 154)) := by rfl
set_option maxRecDepth 100000 in
theorem fj_kw_155 : lw_tbl[1027]? = some (.code (fj_yn 155) (fj_bc 155) (fj_ml 155) (fj_rt 155)) := by rfl
set_option maxRecDepth 100000 in
theorem fj_kw_156 : lw_tbl[1035]? = some (.code (fj_yn 156) (fj_bc 156) (fj_ml 156) (fj_rt 156)) := by rfl
set_option maxRecDepth 100000 in
theorem fj_kw_157 : lw_tbl[1031]? = some (.code (fj_yn 157) (fj_bc 157) (fj_ml 157) (fj_rt 157)) := by rfl
set_option maxRecDepth 100000 in
theorem fj_kw_158 : lw_tbl[1039]? = some (.code (fj_yn 158) (fj_bc 158) (fj_ml 158) (fj_rt 158)) := by rfl
set_option maxRecDepth 100000 in
theorem fj_kw_159 : lw_tbl[1043]? = some (.code (fj_yn 159) (fj_bc 159) (fj_ml 159) (fj_rt 159)) := by rfl
set_option maxRecDepth 100000 in
theorem fj_kw_160 : lw_tbl[1047]? = some (.code (fj_yn 160) (fj_bc 160) (fj_ml 160) (fj_rt 160)) := by rfl
set_option maxRecDepth 100000 in
theorem fj_kw_161 : lw_tbl[1051]? = some (.code (fj_yn 161) (fj_bc 161) (fj_ml 161) (fj_rt 161)) := by rfl
set_option maxRecDepth 100000 in
theorem fj_kw_162 : lw_tbl[1055]? = some (.code (fj_yn 162) (fj_bc 162) (fj_ml 162) (fj_rt 162)) := by rfl
set_option maxRecDepth 100000 in
theorem fj_kw_163 : lw_tbl[518]? = some (.code (fj_yn 163) (fj_bc 163) (fj_ml 163) (fj_rt 163)) := by rfl
theorem fj_code_in {y : Nat} (h : y < 164) : Cond.code (fj_yn y) (fj_bc y) (fj_ml y) (fj_rt y) ∈ fj_T := by
  refine List.mem_filter.mpr ⟨?_, rfl⟩
  match y, h with
  | 0, _ => exact List.mem_of_getElem? fj_kw_0
  | 1, _ => exact List.mem_of_getElem? fj_kw_1
  | 2, _ => exact List.mem_of_getElem? fj_kw_2
  | 3, _ => exact List.mem_of_getElem? fj_kw_3
  | 4, _ => exact List.mem_of_getElem? fj_kw_4
  | 5, _ => exact List.mem_of_getElem? fj_kw_5
  | 6, _ => exact List.mem_of_getElem? fj_kw_6
  | 7, _ => exact List.mem_of_getElem? fj_kw_7
  | 8, _ => exact List.mem_of_getElem? fj_kw_8
  | 9, _ => exact List.mem_of_getElem? fj_kw_9
  | 10, _ => exact List.mem_of_getElem? fj_kw_10
  | 11, _ => exact List.mem_of_getElem? fj_kw_11
  | 12, _ => exact List.mem_of_getElem? fj_kw_12
  | 13, _ => exact List.mem_of_getElem? fj_kw_13
  | 14, _ => exact List.mem_of_getElem? fj_kw_14
  | 15, _ => exact List.mem_of_getElem? fj_kw_15
  | 16, _ => exact List.mem_of_getElem? fj_kw_16
  | 17, _ => exact List.mem_of_getElem? fj_kw_17
  | 18, _ => exact List.mem_of_getElem? fj_kw_18
  | 19, _ => exact List.mem_of_getElem? fj_kw_19
  | 20, _ => exact List.mem_of_getElem? fj_kw_20
  | 21, _ => exact List.mem_of_getElem? fj_kw_21
  | 22, _ => exact List.mem_of_getElem? fj_kw_22
  | 23, _ => exact List.mem_of_getElem? fj_kw_23
  | 24, _ => exact List.mem_of_getElem? fj_kw_24
  | 25, _ => exact List.mem_of_getElem? fj_kw_25
  | 26, _ => exact List.mem_of_getElem? fj_kw_26
  | 27, _ => exact List.mem_of_getElem? fj_kw_27
  | 28, _ => exact List.mem_of_getElem? fj_kw_28
  | 29, _ => exact List.mem_of_getElem? fj_kw_29
  | 30, _ => exact List.mem_of_getElem? fj_kw_30
  | 31, _ => exact List.mem_of_getElem? fj_kw_31
  | 32, _ => exact List.mem_of_getElem? fj_kw_32
  | 33, _ => exact List.mem_of_getElem? fj_kw_33
  | 34, _ => exact List.mem_of_getElem? fj_kw_34
  | 35, _ => exact List.mem_of_getElem? fj_kw_35
  | 36, _ => exact List.mem_of_getElem? fj_kw_36
  | 37, _ => exact List.mem_of_getElem? fj_kw_37
  | 38, _ => exact List.mem_of_getElem? fj_kw_38
  | 39, _ => exact List.mem_of_getElem? fj_kw_39
  | 40, _ => exact List.mem_of_getElem? fj_kw_40
  | 41, _ => exact List.mem_of_getElem? fj_kw_41
  | 42, _ => exact List.mem_of_getElem? fj_kw_42
  | 43, _ => exact List.mem_of_getElem? fj_kw_43
  | 44, _ => exact List.mem_of_getElem? fj_kw_44
  | 45, _ => exact List.mem_of_getElem? fj_kw_45
  | 46, _ => exact List.mem_of_getElem? fj_kw_46
  | 47, _ => exact List.mem_of_getElem? fj_kw_47
  | 48, _ => exact List.mem_of_getElem? fj_kw_48
  | 49, _ => exact List.mem_of_getElem? fj_kw_49
  | 50, _ => exact List.mem_of_getElem? fj_kw_50
  | 51, _ => exact List.mem_of_getElem? fj_kw_51
  | 52, _ => exact List.mem_of_getElem? fj_kw_52
  | 53, _ => exact List.mem_of_getElem? fj_kw_53
  | 54, _ => exact List.mem_of_getElem? fj_kw_54
  | 55, _ => exact List.mem_of_getElem? fj_kw_55
  | 56, _ => exact List.mem_of_getElem? fj_kw_56
  | 57, _ => exact List.mem_of_getElem? fj_kw_57
  | 58, _ => exact List.mem_of_getElem? fj_kw_58
  | 59, _ => exact List.mem_of_getElem? fj_kw_59
  | 60, _ => exact List.mem_of_getElem? fj_kw_60
  | 61, _ => exact List.mem_of_getElem? fj_kw_61
  | 62, _ => exact List.mem_of_getElem? fj_kw_62
  | 63, _ => exact List.mem_of_getElem? fj_kw_63
  | 64, _ => exact List.mem_of_getElem? fj_kw_64
  | 65, _ => exact List.mem_of_getElem? fj_kw_65
  | 66, _ => exact List.mem_of_getElem? fj_kw_66
  | 67, _ => exact List.mem_of_getElem? fj_kw_67
  | 68, _ => exact List.mem_of_getElem? fj_kw_68
  | 69, _ => exact List.mem_of_getElem? fj_kw_69
  | 70, _ => exact List.mem_of_getElem? fj_kw_70
  | 71, _ => exact List.mem_of_getElem? fj_kw_71
  | 72, _ => exact List.mem_of_getElem? fj_kw_72
  | 73, _ => exact List.mem_of_getElem? fj_kw_73
  | 74, _ => exact List.mem_of_getElem? fj_kw_74
  | 75, _ => exact List.mem_of_getElem? fj_kw_75
  | 76, _ => exact List.mem_of_getElem? fj_kw_76
  | 77, _ => exact List.mem_of_getElem? fj_kw_77
  | 78, _ => exact List.mem_of_getElem? fj_kw_78
  | 79, _ => exact List.mem_of_getElem? fj_kw_79
  | 80, _ => exact List.mem_of_getElem? fj_kw_80
  | 81, _ => exact List.mem_of_getElem? fj_kw_81
  | 82, _ => exact List.mem_of_getElem? fj_kw_82
  | 83, _ => exact List.mem_of_getElem? fj_kw_83
  | 84, _ => exact List.mem_of_getElem? fj_kw_84
  | 85, _ => exact List.mem_of_getElem? fj_kw_85
  | 86, _ => exact List.mem_of_getElem? fj_kw_86
  | 87, _ => exact List.mem_of_getElem? fj_kw_87
  | 88, _ => exact List.mem_of_getElem? fj_kw_88
  | 89, _ => exact List.mem_of_getElem? fj_kw_89
  | 90, _ => exact List.mem_of_getElem? fj_kw_90
  | 91, _ => exact List.mem_of_getElem? fj_kw_91
  | 92, _ => exact List.mem_of_getElem? fj_kw_92
  | 93, _ => exact List.mem_of_getElem? fj_kw_93
  | 94, _ => exact List.mem_of_getElem? fj_kw_94
  | 95, _ => exact List.mem_of_getElem? fj_kw_95
  | 96, _ => exact List.mem_of_getElem? fj_kw_96
  | 97, _ => exact List.mem_of_getElem? fj_kw_97
  | 98, _ => exact List.mem_of_getElem? fj_kw_98
  | 99, _ => exact List.mem_of_getElem? fj_kw_99
  | 100, _ => exact List.mem_of_getElem? fj_kw_100
  | 101, _ => exact List.mem_of_getElem? fj_kw_101
  | 102, _ => exact List.mem_of_getElem? fj_kw_102
  | 103, _ => exact List.mem_of_getElem? fj_kw_103
  | 104, _ => exact List.mem_of_getElem? fj_kw_104
  | 105, _ => exact List.mem_of_getElem? fj_kw_105
  | 106, _ => exact List.mem_of_getElem? fj_kw_106
  | 107, _ => exact List.mem_of_getElem? fj_kw_107
  | 108, _ => exact List.mem_of_getElem? fj_kw_108
  | 109, _ => exact List.mem_of_getElem? fj_kw_109
  | 110, _ => exact List.mem_of_getElem? fj_kw_110
  | 111, _ => exact List.mem_of_getElem? fj_kw_111
  | 112, _ => exact List.mem_of_getElem? fj_kw_112
  | 113, _ => exact List.mem_of_getElem? fj_kw_113
  | 114, _ => exact List.mem_of_getElem? fj_kw_114
  | 115, _ => exact List.mem_of_getElem? fj_kw_115
  | 116, _ => exact List.mem_of_getElem? fj_kw_116
  | 117, _ => exact List.mem_of_getElem? fj_kw_117
  | 118, _ => exact List.mem_of_getElem? fj_kw_118
  | 119, _ => exact List.mem_of_getElem? fj_kw_119
  | 120, _ => exact List.mem_of_getElem? fj_kw_120
  | 121, _ => exact List.mem_of_getElem? fj_kw_121
  | 122, _ => exact List.mem_of_getElem? fj_kw_122
  | 123, _ => exact List.mem_of_getElem? fj_kw_123
  | 124, _ => exact List.mem_of_getElem? fj_kw_124
  | 125, _ => exact List.mem_of_getElem? fj_kw_125
  | 126, _ => exact List.mem_of_getElem? fj_kw_126
  | 127, _ => exact List.mem_of_getElem? fj_kw_127
  | 128, _ => exact List.mem_of_getElem? fj_kw_128
  | 129, _ => exact List.mem_of_getElem? fj_kw_129
  | 130, _ => exact List.mem_of_getElem? fj_kw_130
  | 131, _ => exact List.mem_of_getElem? fj_kw_131
  | 132, _ => exact List.mem_of_getElem? fj_kw_132
  | 133, _ => exact List.mem_of_getElem? fj_kw_133
  | 134, _ => exact List.mem_of_getElem? fj_kw_134
  | 135, _ => exact List.mem_of_getElem? fj_kw_135
  | 136, _ => exact List.mem_of_getElem? fj_kw_136
  | 137, _ => exact List.mem_of_getElem? fj_kw_137
  | 138, _ => exact List.mem_of_getElem? fj_kw_138
  | 139, _ => exact List.mem_of_getElem? fj_kw_139
  | 140, _ => exact List.mem_of_getElem? fj_kw_140
  | 141, _ => exact List.mem_of_getElem? fj_kw_141
  | 142, _ => exact List.mem_of_getElem? fj_kw_142
  | 143, _ => exact List.mem_of_getElem? fj_kw_143
  | 144, _ => exact List.mem_of_getElem? fj_kw_144
  | 145, _ => exact List.mem_of_getElem? fj_kw_145
  | 146, _ => exact List.mem_of_getElem? fj_kw_146
  | 147, _ => exact List.mem_of_getElem? fj_kw_147
  | 148, _ => exact List.mem_of_getElem? fj_kw_148
  | 149, _ => exact List.mem_of_getElem? fj_kw_149
  | 150, _ => exact List.mem_of_getElem? fj_kw_150
  | 151, _ => exact List.mem_of_getElem? fj_kw_151
  | 152, _ => exact List.mem_of_getElem? fj_kw_152
  | 153, _ => exact List.mem_of_getElem? fj_kw_153
  | 154, _ => exact List.mem_of_getElem? fj_kw_154
  | 155, _ => exact List.mem_of_getElem? fj_kw_155
  | 156, _ => exact List.mem_of_getElem? fj_kw_156
  | 157, _ => exact List.mem_of_getElem? fj_kw_157
  | 158, _ => exact List.mem_of_getElem? fj_kw_158
  | 159, _ => exact List.mem_of_getElem? fj_kw_159
  | 160, _ => exact List.mem_of_getElem? fj_kw_160
  | 161, _ => exact List.mem_of_getElem? fj_kw_161
  | 162, _ => exact List.mem_of_getElem? fj_kw_162
  | 163, _ => exact List.mem_of_getElem? fj_kw_163
  | n + 164, h => exact absurd h (Nat.not_lt.mpr (Nat.le_add_left _ _))
end
section
/-! ===== the abstract machine is sound: what it says, the bytecode does ===== -/
def fj_xv (b : Nat) (ad : List Nat) : Value → Value
  | .ref k => .ref (ad.getD k 0)
  | .float _ => .ref b
  | v => v
def fj_xf (ad : List Nat) (M : fj_HM) (P : fj_HP) (o ci : Nat) : List Value := (List.range (fj_nF ci)).map (fun k => if fj_isR ci k = true then fj_xv 0 ad (fj_rv (P o k)) else .int (M o k))
def fj_xc (cI cZ : ClassId) (ad : List Nat) (M : fj_HM) (P : fj_HP) (o : Nat) : va_E :=
  if (fj_sh o).1 = 0 then .inr ((fj_sh o).2, fj_xf ad M P o (fj_sh o).2) else .inl (if (fj_sh o).1 = 1 then cI else cZ, (fj_sh o).2, .inl (M o))
def fj_wl (cI cZ : ClassId) (ad : List Nat) (M : fj_HM) (P : fj_HP) : va_W := (List.range ad.length).map (fun o => (ad.getD o 0, fj_xc cI cZ ad M P o))
/-- what is known of a local -/
def fj_lv (b : Nat) (ad : List Nat) (ls : List Value) (i : Nat) : Option Value := match ls[i]? with
  | some (.int x) => some (.int x)
  | some (.ref x) => some (.ref (ad.getD x 0))
  | some (.float _) => some (.ref b)
  | some (.long x) => if ls[i + 1]? = some fj_mk then some (.long x) else none
  | _ => none
def fj_Lo (b : Nat) (ad : List Nat) (ls : List Value) (lsA : Array Slot) : Prop := ∃ l, lv_has lsA ls.length l ∧ ∀ i v, fj_lv b ad ls i = some v → (i, v) ∈ l
def fj_ty : List (Nat → FieldType) := [tyX0, tyX1, tyX2, tyX3, tyX4, tyX5, tyX6, tyX7]
theorem fj_wl_len (cI cZ : ClassId) (ad : List Nat) (M : fj_HM) (P : fj_HP) : (fj_wl cI cZ ad M P).length = ad.length := by simp [fj_wl]
theorem fj_wl_get {cI cZ : ClassId} {ad : List Nat} {M : fj_HM} {P : fj_HP} {o : Nat} (h : o < ad.length) : (fj_wl cI cZ ad M P)[o]? = some (ad.getD o 0, fj_xc cI cZ ad M P o) := by
  simp [fj_wl, h]
theorem fj_xf_get {ad : List Nat} {M : fj_HM} {P : fj_HP} {o ci k : Nat} (h : k < fj_nF ci) : (fj_xf ad M P o ci)[k]? = some (if fj_isR ci k = true then fj_xv 0 ad (fj_rv (P o k)) else .int (M o k)) := by
  simp [fj_xf, h]
theorem fj_xc_obj {cI cZ : ClassId} {ad : List Nat} {M : fj_HM} {P : fj_HP} {o ci : Nat} (h : fj_sh o = (0, ci)) : fj_xc cI cZ ad M P o = .inr (ci, fj_xf ad M P o ci) := by
  unfold fj_xc
  rw [h]
  rfl
theorem fj_xc_int {cI cZ : ClassId} {ad : List Nat} {M : fj_HM} {P : fj_HP} {o : Nat} (h : (fj_sh o).1 = 1) : fj_xc cI cZ ad M P o = .inl (cI, (fj_sh o).2, .inl (M o)) := by
  unfold fj_xc
  rw [h]
  rfl
theorem fj_xc_bool {cI cZ : ClassId} {ad : List Nat} {M : fj_HM} {P : fj_HP} {o : Nat} (h : (fj_sh o).1 = 2) : fj_xc cI cZ ad M P o = .inl (cZ, (fj_sh o).2, .inl (M o)) := by
  unfold fj_xc
  rw [h]
  rfl
/-- a world in which one cell is another -/
theorem fj_wl_set {cI cZ : ClassId} {ad : List Nat} {M M' : fj_HM} {P P' : fj_HP} {o : Nat} {e : va_E} (hM : ∀ q, q ≠ o → M' q = M q) (hP : ∀ q, q ≠ o → P' q = P q) (he : e = fj_xc cI cZ ad M' P' o) : (fj_wl cI cZ ad M P).set o (ad.getD o 0, e) = fj_wl cI cZ ad M' P' := by
  subst he
  apply List.ext_getElem?
  intro i
  rw [List.getElem?_set]
  by_cases hi : o = i
  · subst hi
    rw [if_pos rfl, fj_wl_len]
    by_cases hl : o < ad.length
    · rw [if_pos hl, fj_wl_get hl]
    · rw [if_neg hl, List.getElem?_eq_none (by rw [fj_wl_len]; omega)]
  · rw [if_neg hi]
    by_cases hl : i < ad.length
    · rw [fj_wl_get hl, fj_wl_get hl]
      have e1 : fj_xc cI cZ ad M' P' i = fj_xc cI cZ ad M P i := by
        unfold fj_xc fj_xf
        rw [hM i (Ne.symm hi), hP i (Ne.symm hi)]
      rw [e1]
    · rw [List.getElem?_eq_none (by rw [fj_wl_len]; omega), List.getElem?_eq_none (by rw [fj_wl_len]; omega)]
theorem fj_up_ne {M : fj_HM} {o k : Nat} {v : Int32} (q : Nat) (h : q ≠ o) : fj_up M o k v q = M q := by
  funext j
  simp [fj_up, h]
theorem fj_uP_ne {P : fj_HP} {o k v : Nat} (q : Nat) (h : q ≠ o) : fj_uP P o k v q = P q := by
  funext j
  simp [fj_uP, h]
theorem fj_up_self {M : fj_HM} {o k : Nat} {v : Int32} : fj_up M o k v o = upd (M o) k v := by
  funext j
  simp [fj_up, upd]
theorem fj_xf_up {ad : List Nat} {M : fj_HM} {P : fj_HP} {o ci k : Nat} {v : Int32} (hk : k < fj_nF ci) (hr : fj_isR ci k = false) : (fj_xf ad M P o ci).set k (.int v) = fj_xf ad (fj_up M o k v) P o ci := by
  apply List.ext_getElem?
  intro i
  rw [List.getElem?_set]
  have hlen : ∀ M P, (fj_xf ad M P o ci).length = fj_nF ci := fun M P => by simp [fj_xf]
  by_cases hi : k = i
  · subst hi
    rw [if_pos rfl, hlen, if_pos hk, fj_xf_get hk, hr]
    simp [fj_up]
  · rw [if_neg hi]
    by_cases hl : i < fj_nF ci
    · rw [fj_xf_get hl, fj_xf_get hl]
      simp [fj_up, Ne.symm hi]
    · rw [List.getElem?_eq_none (by rw [hlen]; omega), List.getElem?_eq_none (by rw [hlen]; omega)]
theorem fj_xf_uP {ad : List Nat} {M : fj_HM} {P : fj_HP} {o ci k w : Nat} (hk : k < fj_nF ci) (hr : fj_isR ci k = true) : (fj_xf ad M P o ci).set k (fj_xv 0 ad (.ref w)) = fj_xf ad M (fj_uP P o k (w + 1)) o ci := by
  apply List.ext_getElem?
  intro i
  rw [List.getElem?_set]
  have hlen : ∀ M P, (fj_xf ad M P o ci).length = fj_nF ci := fun M P => by simp [fj_xf]
  by_cases hi : k = i
  · subst hi
    rw [if_pos rfl, hlen, if_pos hk, fj_xf_get hk, if_pos hr]
    simp [fj_uP, fj_rv]
  · rw [if_neg hi]
    by_cases hl : i < fj_nF ci
    · rw [fj_xf_get hl, fj_xf_get hl]
      simp [fj_uP, Ne.symm hi]
    · rw [List.getElem?_eq_none (by rw [hlen]; omega), List.getElem?_eq_none (by rw [hlen]; omega)]
theorem fj_xv_ext {b : Nat} {ad ad2 : List Nat} {v : Value} (h : fj_okv ad.length v) : fj_xv b (ad ++ ad2) v = fj_xv b ad v := by
  cases v with
  | ref k =>
    simp only [fj_okv] at h
    simp only [fj_xv, List.getD_eq_getElem?_getD]
    rw [List.getElem?_append_left h]
  | _ => rfl
theorem fj_okv_rv {c n : Nat} (h : n ≤ c) : fj_okv c (fj_rv n) := by
  cases n with
  | zero => trivial
  | succ n => exact h
theorem fj_map_ext {b : Nat} {ad ad2 : List Nat} {st : List Value} (h : ∀ v ∈ st, fj_okv ad.length v) : st.map (fj_xv b (ad ++ ad2)) = st.map (fj_xv b ad) := List.map_congr_left fun v hv => fj_xv_ext (h v hv)
theorem fj_lv_ext {b : Nat} {ad ad2 : List Nat} {ls : List Value} (h : ∀ v ∈ ls, fj_okv ad.length v) (i : Nat) : fj_lv b (ad ++ ad2) ls i = fj_lv b ad ls i := by
  unfold fj_lv
  cases hi : ls[i]? with
  | none => rfl
  | some v =>
    cases v with
    | ref k =>
      have hk : k < ad.length := h _ (List.mem_of_getElem? hi)
      show some (Value.ref ((ad ++ ad2).getD k 0)) = some (Value.ref (ad.getD k 0))
      simp only [List.getD_eq_getElem?_getD]
      rw [List.getElem?_append_left hk]
    | _ => rfl
theorem fj_Lo_ext {b : Nat} {ad ad2 : List Nat} {ls : List Value} {lsA : Array Slot} (h : ∀ v ∈ ls, fj_okv ad.length v) (hl : fj_Lo b ad ls lsA) : fj_Lo b (ad ++ ad2) ls lsA := by
  obtain ⟨l, h1, h2⟩ := hl
  exact ⟨l, h1, fun i v hv => h2 i v (by rw [← fj_lv_ext h]; exact hv)⟩
/-- a world that grows -/
theorem fj_wl_push {cI cZ : ClassId} {ad : List Nat} {q : Nat} {M M' : fj_HM} {P P' : fj_HP} {e : va_E} (hM : ∀ o, o ≠ ad.length → M' o = M o) (hP : ∀ o, o ≠ ad.length → P' o = P o) (hok : ∀ o k, P o k ≤ ad.length) (he : e = fj_xc cI cZ (ad ++ [q]) M' P' ad.length) : fj_wl cI cZ ad M P ++ [(q, e)] = fj_wl cI cZ (ad ++ [q]) M' P' := by
  subst he
  apply List.ext_getElem?
  intro i
  by_cases hl : i < ad.length
  · rw [List.getElem?_append_left (by rw [fj_wl_len]; exact hl), fj_wl_get hl, fj_wl_get (by simp; omega)]
    have e1 : (ad ++ [q]).getD i 0 = ad.getD i 0 := by
      simp only [List.getD_eq_getElem?_getD]
      rw [List.getElem?_append_left hl]
    have e2 : fj_xc cI cZ (ad ++ [q]) M' P' i = fj_xc cI cZ ad M P i := by
      unfold fj_xc fj_xf
      rw [hM i (by omega), hP i (by omega)]
      have e3 : (fun k => if fj_isR (fj_sh i).2 k = true then fj_xv 0 (ad ++ [q]) (fj_rv (P i k)) else Value.int (M i k)) = (fun k => if fj_isR (fj_sh i).2 k = true then fj_xv 0 ad (fj_rv (P i k)) else Value.int (M i k)) := by
        funext k
        rw [fj_xv_ext (fj_okv_rv (hok i k))]
      rw [e3]
    rw [e1, e2]
  · by_cases hi : i = ad.length
    · subst hi
      rw [List.getElem?_append_right (by rw [fj_wl_len]; omega), fj_wl_len, fj_wl_get (by simp)]
      simp
    · rw [List.getElem?_eq_none (by simp [fj_wl_len]; omega), List.getElem?_eq_none (by rw [fj_wl_len]; simp; omega)]
/-! locals -/
theorem fj_lv_at {b : Nat} {ad : List Nat} {ls : List Value} {lsA : Array Slot} (h : fj_Lo b ad ls lsA) {i : Nat} {v : Value} (hv : fj_lv b ad ls i = some v) : lsA[i]? = some (.val v) := by
  obtain ⟨l, h1, h2⟩ := h
  exact h1.2.2 (i, v) (h2 i v hv)
theorem fj_Lo_set1 {b : Nat} {ad : List Nat} {ls : List Value} {i : Nat} {v w : Value} {l : List (Nat × Value)} (hi : i < ls.length) (hm : v ≠ fj_mk) (hv : fj_lv b ad (ls.set i v) i = some w) (h : ∀ i v, fj_lv b ad ls i = some v → (i, v) ∈ l) :
    ∀ j u, fj_lv b ad (ls.set i v) j = some u → (j, u) ∈ (i, w) :: l.filter (fun q => !(q.1 == i) && !(q.1 + 1 == i && q.2.category == 2)) := by
  intro j u hu
  by_cases hj : j = i
  · subst hj
    rw [hv] at hu
    cases hu
    exact List.mem_cons_self
  · refine List.mem_cons_of_mem _ (List.mem_filter.mpr ⟨?_, ?_⟩)
    · refine h j u ?_
      unfold fj_lv at hu ⊢
      rw [List.getElem?_set_ne (Ne.symm hj)] at hu
      split at hu
      · exact hu
      · exact hu
      · exact hu
      · split at hu
        · rename_i x _ hx
          by_cases hj1 : i = j + 1
          · rw [hj1, List.getElem?_set_self (by rw [← hj1]; exact hi)] at hx
            exact absurd (Option.some.inj hx) hm
          · rw [List.getElem?_set_ne hj1] at hx
            rw [if_pos hx]
            exact hu
        · cases hu
      · cases hu
    · simp only [Bool.and_eq_true, Bool.not_eq_true', beq_eq_false_iff_ne, Bool.and_eq_false_iff]
      refine ⟨hj, ?_⟩
      by_cases hj1 : j + 1 = i
      · right
        unfold fj_lv at hu
        rw [List.getElem?_set_ne (Ne.symm hj)] at hu
        split at hu
        · cases hu; simp [Value.category]
        · cases hu; simp [Value.category]
        · cases hu; simp [Value.category]
        · split at hu
          · rename_i x _ hx
            rw [hj1, List.getElem?_set_self hi] at hx
            exact absurd (Option.some.inj hx) hm
          · cases hu
        · cases hu
      · exact Or.inl hj1
theorem fj_Lo_set2 {b : Nat} {ad : List Nat} {ls : List Value} {i : Nat} {x : Int64} {l : List (Nat × Value)} (hi : i + 1 < ls.length) (h : ∀ i v, fj_lv b ad ls i = some v → (i, v) ∈ l) :
    ∀ j u, fj_lv b ad ((ls.set i (.long x)).set (i + 1) fj_mk) j = some u → (j, u) ∈ (i, Value.long x) :: l.filter (fun q => !(q.1 == i) && (!(q.1 == i + 1) && !(q.1 + 1 == i && q.2.category == 2))) := by
  intro j u hu
  by_cases hj : j = i
  · subst hj
    unfold fj_lv at hu
    rw [List.getElem?_set_ne (by omega), List.getElem?_set_self (by omega)] at hu
    simp only at hu
    rw [if_pos (by rw [List.getElem?_set_self (by simp; omega)])] at hu
    cases hu
    exact List.mem_cons_self
  · by_cases hj1 : j = i + 1
    · subst hj1
      unfold fj_lv at hu
      rw [List.getElem?_set_self (by simp; omega)] at hu
      cases hu
    · have e1 : ((ls.set i (.long x)).set (i + 1) fj_mk)[j]? = ls[j]? := by rw [List.getElem?_set_ne (by omega), List.getElem?_set_ne (by omega)]
      refine List.mem_cons_of_mem _ (List.mem_filter.mpr ⟨?_, ?_⟩)
      · refine h j u ?_
        unfold fj_lv at hu ⊢
        rw [e1] at hu
        split at hu
        · exact hu
        · exact hu
        · exact hu
        · split at hu
          · rename_i y _ hx
            by_cases hj2 : i = j + 1
            · rw [List.getElem?_set_ne (by omega), hj2, List.getElem?_set_self (by omega)] at hx
              cases hx
            · rw [List.getElem?_set_ne (by omega), List.getElem?_set_ne hj2] at hx
              rw [if_pos hx]
              exact hu
          · cases hu
        · cases hu
      · simp only [Bool.and_eq_true, Bool.not_eq_true', beq_eq_false_iff_ne, Bool.and_eq_false_iff]
        refine ⟨hj, hj1, ?_⟩
        by_cases hj2 : j + 1 = i
        · right
          unfold fj_lv at hu
          rw [e1] at hu
          split at hu
          · cases hu; simp [Value.category]
          · cases hu; simp [Value.category]
          · cases hu; simp [Value.category]
          · split at hu
            · rename_i y _ hx
              rw [List.getElem?_set_ne (by omega), hj2, List.getElem?_set_self (by omega)] at hx
              cases hx
            · cases hu
          · cases hu
        · exact Or.inl hj2
/-- the locals at entry -/
theorem fj_lv_pa (b : Nat) (ad : List Nat) (n : Nat) : ∀ (as : List Value), (∀ v ∈ as, fj_v1 v) → ∀ (k i : Nat) (v : Value), fj_lv b ad (fj_pa as ++ List.replicate n .null) i = some v → (i + k, v) ∈ lv_args k (as.map (fj_xv b ad)) := by
  intro as
  induction as with
  | nil =>
    intro _ k i v h
    exfalso
    unfold fj_lv at h
    have e : ∀ j : Nat, (fj_pa [] ++ List.replicate n Value.null)[j]? = some Value.null ∨ (fj_pa [] ++ List.replicate n Value.null)[j]? = none := by
      intro j
      simp only [fj_pa, List.nil_append, List.getElem?_replicate]
      split
      · exact Or.inl rfl
      · exact Or.inr rfl
    rcases e i with e | e <;> rw [e] at h <;> cases h
  | cons a as ih =>
    intro hd k i v h
    have hd' : ∀ v ∈ as, fj_v1 v := fun v hv => hd v (List.mem_cons_of_mem _ hv)
    have one : ∀ (w : Value), fj_pa (a :: as) = a :: fj_pa as → fj_xv b ad a = w → w.category ≠ 2 → (∀ r, fj_lv b ad (a :: r) 0 = some v → v = w) → (i + k, v) ∈ lv_args k ((a :: as).map (fj_xv b ad)) := by
      intro w e1 e2 e3 e4
      rw [List.map_cons, e2]
      unfold lv_args
      rw [if_neg e3]
      rw [e1, List.cons_append] at h
      cases i with
      | zero =>
        rw [e4 _ h, Nat.zero_add]
        exact List.mem_cons_self
      | succ i =>
        refine List.mem_cons_of_mem _ ?_
        rw [show i + 1 + k = i + (k + 1) by omega]
        refine ih hd' (k + 1) i v ?_
        rw [← h]
        unfold fj_lv
        simp only [List.getElem?_cons_succ]
    cases a with
    | int x => exact one (.int x) rfl rfl (by simp [Value.category]) (fun r h => by simp [fj_lv] at h; exact h.symm)
    | ref x => exact one (.ref (ad.getD x 0)) rfl rfl (by simp [Value.category]) (fun r h => by simp [fj_lv] at h; simp [List.getD_eq_getElem?_getD, ← h])
    | float x => exact one (.ref b) rfl rfl (by simp [Value.category]) (fun r h => by simp [fj_lv] at h; exact h.symm)
    | double x => exact absurd (hd _ List.mem_cons_self) (fun h => h)
    | long x =>
      rw [List.map_cons]
      show (i + k, v) ∈ lv_args k (.long x :: as.map (fj_xv b ad))
      unfold lv_args
      rw [if_pos (by simp [Value.category])]
      rw [show fj_pa (.long x :: as) = .long x :: fj_mk :: fj_pa as from rfl, List.cons_append, List.cons_append] at h
      match i, h with
      | 0, h =>
        simp [fj_lv] at h
        rw [Nat.zero_add, ← h]
        exact List.mem_cons_self
      | 1, h => simp [fj_lv] at h
      | i + 2, h =>
        refine List.mem_cons_of_mem _ ?_
        rw [show i + 2 + k = i + (k + 2) by omega]
        refine ih hd' (k + 2) i v ?_
        rw [← h]
        unfold fj_lv
        simp only [List.getElem?_cons_succ]
    | _ => exact one _ rfl rfl (by simp [fj_xv, Value.category]) (fun r h => by simp [fj_lv] at h)
theorem fj_sl_len (b : Nat) (ad : List Nat) : ∀ (as : List Value), (∀ v ∈ as, fj_v1 v) → (lg_sl (as.map (fj_xv b ad))).length = (fj_pa as).length := by
  intro as
  induction as with
  | nil => intro _; rfl
  | cons a as ih =>
    intro hd
    have ih := ih fun v hv => hd v (List.mem_cons_of_mem _ hv)
    rw [List.map_cons]
    show ((if (fj_xv b ad a).category = 2 then [Slot.val (fj_xv b ad a), .second] else [.val (fj_xv b ad a)]) ++ lg_sl (as.map (fj_xv b ad))).length = _
    rw [List.length_append, ih]
    cases a with
    | double x => exact absurd (hd _ List.mem_cons_self) (fun h => h)
    | long x => simp [fj_xv, Value.category, fj_pa]; omega
    | _ => simp [fj_xv, Value.category, fj_pa]; omega
theorem fj_cat (v : Value) : v.category ≤ 2 := by rcases lv_cat v with h | h <;> omega
theorem fj_cats : ∀ (st : List Value), (st.map fun v => v.category).sum ≤ 2 * st.length
  | [] => Nat.le_refl _
  | v :: st => by
    have h1 := fj_cat v
    have h2 := fj_cats st
    simp only [List.map_cons, List.sum_cons, List.length_cons]
    omega
end
section
/-! ===== a step of the abstract machine is a step of the machine ===== -/
def fj_Wd (D : va_G) (cI cZ : ClassId) (ad : List Nat) (M : fj_HM) (P : fj_HP) (c : Nat) (A : Nat → Prop) (H0 H : Heap) (locs : List Loc) (s : State) : Prop :=
  ad.length = c ∧ va_P D fj_cl (fj_wl cI cZ ad M P) H ∧ va_K D fj_cl [(cI, .int), (cZ, .boolean)] s ∧ va_D A (fj_wl cI cZ ad M P) ∧ va_S A H0 H locs ∧ (∀ q, H0.size ≤ q → A q) ∧ ∀ o k, P o k ≤ c
def fj_Xs (sc : fj_Sc) (b : Nat) (A : Nat → Prop) (H0 : Heap) (s : State) : Prop := match sc with
  | some q => va_X b q.1 q.2 s H0 ∧ b < H0.size ∧ ¬ A b
  | none => True
def fj_Cx (p : Program) (R : Room) (s : State) (m : MethodId) (args : Array Value) (meth : Method) (cd : Code) (y : Nat) : Prop :=
  p.tables.exec = Jvm.exec ∧ cd.code = fj_bc y ∧ cd.maxLocals = fj_ml y ∧ s.vm.findClass (fj_ow y) = some m.cls ∧ (∀ w ∈ fj_T, w.before args s = true) ∧ (fj_ini y = true → meth.name = "<init>") ∧ fj_fr y ≤ R.frames ∧ fj_lo y ≤ R.locals ∧ ∀ w ∈ fj_N, va_Nw w s
/-- from every heap that holds the abstract state, at this place, the machine comes to Q -/
def fj_G (p : Program) (l : Launch) (e : Env) (R : Room) (s : State) (m : MethodId) (args : Array Value) (below : List Frame) (meth : Method) (cd : Code) (Q : State → Prop) (D : va_G) (cI cZ : ClassId) (A : Nat → Prop) (H0 : Heap) (b : Nat) (ad0 : List Nat) (c0 z0 nL : Nat) (pc : Nat) (ls st : List Value) (M : fj_HM) (P : fj_HP) (c z : Nat) : Prop :=
  ∀ (ad : List Nat) (H : Heap) (locs : List Loc) (lsA : Array Slot) (cells slots : Nat), cells + c0 = c → slots + z0 = z → ad0 <+: ad → ls.length = nL → fj_Wd D cI cZ ad M P c A H0 H locs s → fj_Lo b ad ls lsA → W p l e R s m args below meth cd H locs cells slots Q (F0 m pc lsA (st.map (fj_xv b ad)))
theorem fj_p1_some {st : List Value} {f : Int32 → List Value → fj_R} {q : fj_Nx ⊕ fj_Cl ⊕ Option Value} (h : fj_p1 st f = some q) : ∃ x r, st = .int x :: r ∧ f x r = some q := by
  unfold fj_p1 at h
  split at h
  · exact ⟨_, _, rfl, h⟩
  · cases h
theorem fj_p2_some {st : List Value} {f : Int32 → Int32 → List Value → fj_R} {q : fj_Nx ⊕ fj_Cl ⊕ Option Value} (h : fj_p2 st f = some q) : ∃ x y r, st = .int y :: .int x :: r ∧ f x y r = some q := by
  unfold fj_p2 at h
  split at h
  · exact ⟨_, _, _, rfl, h⟩
  · cases h
theorem fj_q2_some {st : List Value} {f : Int64 → Int64 → List Value → fj_R} {q : fj_Nx ⊕ fj_Cl ⊕ Option Value} (h : fj_q2 st f = some q) : ∃ x y r, st = .long y :: .long x :: r ∧ f x y r = some q := by
  unfold fj_q2 at h
  split at h
  · exact ⟨_, _, _, rfl, h⟩
  · cases h
theorem fj_ild_some {ls : List Value} {a : Nat} {f : Int32 → fj_R} {q : fj_Nx ⊕ fj_Cl ⊕ Option Value} (h : fj_ild ls a f = some q) : ∃ x, ls[a]? = some (.int x) ∧ f x = some q := by
  unfold fj_ild at h
  split at h
  · rename_i x hx; exact ⟨x, hx, h⟩
  · cases h
theorem fj_ald_some {ls : List Value} {a : Nat} {f : Value → fj_R} {q : fj_Nx ⊕ fj_Cl ⊕ Option Value} (h : fj_ald ls a f = some q) : (∃ x, ls[a]? = some (.ref x) ∧ f (.ref x) = some q) ∨ ∃ x, ls[a]? = some (.float x) ∧ f (.float x) = some q := by
  unfold fj_ald at h
  split at h
  · rename_i x hx; exact Or.inl ⟨x, hx, h⟩
  · rename_i x hx; exact Or.inr ⟨x, hx, h⟩
  · cases h
theorem fj_lld_some {ls : List Value} {a : Nat} {f : Int64 → fj_R} {q : fj_Nx ⊕ fj_Cl ⊕ Option Value} (h : fj_lld ls a f = some q) : ∃ x, ls[a]? = some (.long x) ∧ ls[a + 1]? = some fj_mk ∧ f x = some q := by
  unfold fj_lld at h
  split at h
  · rename_i x hx
    split at h
    · rename_i hm; exact ⟨x, hx, hm, h⟩
    · cases h
  · cases h
theorem fj_go_some {pc : Nat} {ls st : List Value} {M : fj_HM} {P : fj_HP} {c z : Nat} {q : fj_Nx} (h : fj_go pc ls st M P c z = some (.inl q)) : q = (pc, ls, st, M, P, c, z) := by
  unfold fj_go at h
  cases h
  rfl
/-- the classes, as the tables have them -/
theorem fj_cls {ci : Nat} {q : vw_C} (h : fj_cl[ci]? = some q) : q.2.2 = fj_nF ci ∧ (∀ w ∈ u_ws q.1 q.2.1 q.2.2, w ∈ fj_T) ∧ (∀ k, k < q.2.2 → (q.2.1 k).1 = q.1) ∧ (∀ a, a < q.2.2 → ∀ b, b < q.2.2 → a ≠ b → (q.2.1 a).2.1 ≠ (q.2.1 b).2.1) ∧ ∃ ty : Nat → FieldType, (∀ k, k < q.2.2 → parseFieldDescriptor (q.2.1 k).2.2.1 = some (ty k)) ∧ ∀ k, k < q.2.2 → (fj_isR ci k = true → (∃ n, ty k = .object n) ∨ ∃ t, ty k = .array t) ∧ (fj_isR ci k = false → ty k = .int) := by
  have inT : ∀ (C : String) (T : u_T) (N : Nat) (ps : List Nat), ((u_ws C T N).zip ps).all (fun q => fj_wd q.2 q.1) = true → (u_ws C T N).length = ps.length → ∀ w ∈ u_ws C T N, w ∈ fj_T := by
    intro C T N ps h1 h2 w hw
    obtain ⟨i, hi⟩ := List.getElem?_of_mem hw
    have hl : i < (u_ws C T N).length := (List.getElem?_eq_some_iff.mp hi).1
    have hz : ((u_ws C T N).zip ps)[i]? = some (w, ps[i]'(by omega)) := by
      rw [List.getElem?_zip_eq_some]
      exact ⟨hi, List.getElem?_eq_getElem (by omega)⟩
    exact fj_wd_ok (List.all_eq_true.mp h1 _ (List.mem_of_getElem? hz))
  match ci, h with
  | 0, h => cases h; exact ⟨rfl, inT _ _ _ (fj_lp.getD 0 []) (by decide +kernel) (by decide +kernel), by decide +kernel, nmX0, tyX0, tyX0_ok, fun k hk => by rcases (show k = 0 ∨ k = 1 ∨ k = 2 by simp at hk; omega) with rfl | rfl | rfl <;> simp [fj_isR, fj_rf, tyX0]⟩
  | 1, h => cases h; exact ⟨rfl, inT _ _ _ (fj_lp.getD 1 []) (by decide +kernel) (by decide +kernel), by decide +kernel, nmX1, tyX1, tyX1_ok, fun k hk => by rcases (show k = 0 ∨ k = 1 ∨ k = 2 ∨ k = 3 by simp at hk; omega) with rfl | rfl | rfl | rfl <;> simp [fj_isR, fj_rf, tyX1]⟩
  | 2, h => cases h; exact ⟨rfl, inT _ _ _ (fj_lp.getD 2 []) (by decide +kernel) (by decide +kernel), by decide +kernel, nmX2, tyX2, tyX2_ok, fun k hk => by rcases (show k = 0 ∨ k = 1 ∨ k = 2 by simp at hk; omega) with rfl | rfl | rfl <;> simp [fj_isR, fj_rf, tyX2]⟩
  | 3, h => cases h; exact ⟨rfl, inT _ _ _ (fj_lp.getD 3 []) (by decide +kernel) (by decide +kernel), by decide +kernel, nmX3, tyX3, tyX3_ok, fun k hk => by rcases (show k = 0 ∨ k = 1 ∨ k = 2 by simp at hk; omega) with rfl | rfl | rfl <;> simp [fj_isR, fj_rf, tyX3]⟩
  | 4, h => cases h; exact ⟨rfl, inT _ _ _ (fj_lp.getD 4 []) (by decide +kernel) (by decide +kernel), by decide +kernel, nmX4, tyX4, tyX4_ok, fun k hk => by rcases (show k = 0 ∨ k = 1 ∨ k = 2 ∨ k = 3 ∨ k = 4 ∨ k = 5 ∨ k = 6 by simp at hk; omega) with rfl | rfl | rfl | rfl | rfl | rfl | rfl <;> simp [fj_isR, fj_rf, tyX4]⟩
  | 5, h => cases h; exact ⟨rfl, inT _ _ _ (fj_lp.getD 5 []) (by decide +kernel) (by decide +kernel), by decide +kernel, nmX5, tyX5, tyX5_ok, fun k hk => by rcases (show k = 0 ∨ k = 1 ∨ k = 2 ∨ k = 3 ∨ k = 4 ∨ k = 5 ∨ k = 6 ∨ k = 7 ∨ k = 8 ∨ k = 9 ∨ k = 10 ∨ k = 11 ∨ k = 12 by simp at hk; omega) with rfl | rfl | rfl | rfl | rfl | rfl | rfl | rfl | rfl | rfl | rfl | rfl | rfl <;> simp [fj_isR, fj_rf, tyX5]⟩
  | 6, h => cases h; exact ⟨rfl, inT _ _ _ (fj_lp.getD 6 []) (by decide +kernel) (by decide +kernel), by decide +kernel, nmX6, tyX6, tyX6_ok, fun k hk => by rcases (show k = 0 ∨ k = 1 ∨ k = 2 ∨ k = 3 ∨ k = 4 ∨ k = 5 ∨ k = 6 ∨ k = 7 ∨ k = 8 ∨ k = 9 by simp at hk; omega) with rfl | rfl | rfl | rfl | rfl | rfl | rfl | rfl | rfl | rfl <;> simp [fj_isR, fj_rf, tyX6]⟩
  | 7, h =>
    cases h
    refine ⟨rfl, inT _ _ _ (fj_lp.getD 7 []) (by decide +kernel) (by decide +kernel), by decide +kernel, nmX7, tyX7, tyX7_ok, fun k hk => ?_⟩
    have key : (List.range 41).all (fun k => match fj_isR 7 k, tyX7 k with | true, .object _ => true | true, .array _ => true | false, .int => true | _, _ => false) = true := by decide +kernel
    have k1 := List.all_eq_true.mp key k (List.mem_range.mpr hk)
    cases hr : fj_isR 7 k <;> rw [hr] at k1
    · refine ⟨fun h => absurd h (by decide), fun _ => ?_⟩
      cases ht : tyX7 k <;> rw [ht] at k1 <;> first | rfl | simp at k1
    · refine ⟨fun _ => ?_, fun h => absurd h (by decide)⟩
      cases ht : tyX7 k <;> rw [ht] at k1 <;> first | exact Or.inl ⟨_, rfl⟩ | exact Or.inr ⟨_, rfl⟩ | simp at k1
  | n + 8, h => exact absurd h (by simp [fj_cl])
theorem fj_uP_le {P : fj_HP} {o k w c : Nat} (h : ∀ o k, P o k ≤ c) (hw : w < c) : ∀ o2 k2, fj_uP P o k (w + 1) o2 k2 ≤ c := by
  intro o2 k2
  unfold fj_uP
  split
  · exact hw
  · exact h o2 k2
theorem fj_zP_le {P : fj_HP} {o c : Nat} (h : ∀ o k, P o k ≤ c) : ∀ o2 k2, fj_zP P o o2 k2 ≤ c + 1 := by
  intro o2 k2
  unfold fj_zP
  split
  · exact Nat.zero_le _
  · exact Nat.le_succ_of_le (h o2 k2)
theorem fj_ze_self {M : fj_HM} {c : Nat} : fj_ze M c c = fun _ => 0 := by
  funext j
  simp [fj_ze]
end
section
set_option maxHeartbeats 4000000 in
set_option maxRecDepth 100000 in
theorem fj_step {p : Program} {l : Launch} {e : Env} {R : Room} {s : State} {m : MethodId} {args : Array Value} {below : List Frame} {meth : Method} {cd : Code} {Q : State → Prop} {D : va_G} {cI cZ : ClassId} {A : Nat → Prop} {H0 : Heap} {b : Nat} {ad0 : List Nat} {c0 z0 nL : Nat} {y : Nat} {sc : fj_Sc} {pc : Nat} {ai : fj_AI} {ls st : List Value} {M : fj_HM} {P : fj_HP} {c z : Nat} {q : fj_Nx}
    (hcx : fj_Cx p R s m args meth cd y) (hX : fj_Xs sc b A H0 s) (hny : nL = fj_ml y) (hai : fj_cd y pc = some ai) (h : fj_stp y sc ai pc ls st M P c z = some (.inl q)) (hcR : c ≤ c0 + R.cells) (hzR : z ≤ z0 + R.slots) (hcR' : q.2.2.2.2.2.1 ≤ c0 + R.cells) (hzR' : q.2.2.2.2.2.2 ≤ z0 + R.slots)
    (kk : fj_G p l e R s m args below meth cd Q D cI cZ A H0 b ad0 c0 z0 nL q.1 q.2.1 q.2.2.1 q.2.2.2.1 q.2.2.2.2.1 q.2.2.2.2.2.1 q.2.2.2.2.2.2) :
    fj_G p l e R s m args below meth cd Q D cI cZ A H0 b ad0 c0 z0 nL pc ls st M P c z := by
  intro ad H locs lsA cells slots hcc hzz had hnl hW hLo
  obtain ⟨hx, hb, hml, hown, hts, hini, hfr, hlo, hN⟩ := hcx
  obtain ⟨hadl, hP, hK, hD, hS, hA, hPc⟩ := id hW
  have hsz : lsA.size = nL := by obtain ⟨l, h1, -⟩ := hLo; rw [h1.1, hnl]
  have cat4 : ∀ r : List Value, r.length ≤ 4 → ((r.map (fj_xv b ad)).map fun v => v.category).sum ≤ 8 := fun r hr => by
    have := fj_cats (r.map (fj_xv b ad))
    rw [List.length_map] at this
    omega
  have ok := fj_okI_of hai
  obtain ⟨ins, len, a, bb, k, ixs⟩ := ai
  cases ins with
  | iconst n =>
    simp only [fj_okI, Bool.and_eq_true, decide_eq_true_eq, beq_iff_eq] at ok
    dsimp only [fj_stp] at h
    obtain ⟨hdg, rfl, hk⟩ := ok
    cases fj_go_some h
    exact lv_iconst hx hb hdg hk (kk ad H locs lsA cells slots hcc hzz had hnl hW hLo)
  | bipush n =>
    simp only [fj_okI, Bool.and_eq_true, decide_eq_true_eq, beq_iff_eq] at ok
    dsimp only [fj_stp] at h
    obtain ⟨hdg, rfl, hk⟩ := ok
    cases fj_go_some h
    exact lv_bipush hx hb hdg hk (kk ad H locs lsA cells slots hcc hzz had hnl hW hLo)
  | sipush n =>
    simp only [fj_okI, Bool.and_eq_true, decide_eq_true_eq, beq_iff_eq] at ok
    dsimp only [fj_stp] at h
    obtain ⟨hdg, rfl, hk⟩ := ok
    cases fj_go_some h
    exact lv_sipush hx hb hdg hk (kk ad H locs lsA cells slots hcc hzz had hnl hW hLo)
  | lconst n =>
    simp only [fj_okI, Bool.and_eq_true, decide_eq_true_eq, beq_iff_eq] at ok
    dsimp only [fj_stp] at h
    obtain ⟨hdg, rfl, hk⟩ := ok
    cases fj_go_some h
    exact lv_lconst hx hb hdg hk (kk ad H locs lsA cells slots hcc hzz had hnl hW hLo)
  | ldc n =>
    simp only [fj_okI, Bool.and_eq_true, decide_eq_true_eq, beq_iff_eq] at ok
    dsimp only [fj_stp] at h
    obtain ⟨hdg, rfl, hk⟩ := ok
    cases fj_go_some h
    exact lv_ldc hx hb hown (hts _ (fj_wd_ok hk)) hdg (kk ad H locs lsA cells slots hcc hzz had hnl hW hLo)
  | ldc_w n =>
    simp only [fj_okI, Bool.and_eq_true, decide_eq_true_eq, beq_iff_eq] at ok
    dsimp only [fj_stp] at h
    obtain ⟨hdg, rfl, hk⟩ := ok
    cases fj_go_some h
    exact lv_ldcw hx hb hown (hts _ (fj_wd_ok hk)) hdg (kk ad H locs lsA cells slots hcc hzz had hnl hW hLo)
  | ldc2_w n =>
    simp only [fj_okI, Bool.and_eq_true, decide_eq_true_eq, beq_iff_eq] at ok
    dsimp only [fj_stp] at h
    obtain ⟨hdg, rfl, hk⟩ := ok
    cases fj_go_some h
    exact lv_ldc2 hx hb hown (hts _ (fj_wd_ok hk)) hdg (kk ad H locs lsA cells slots hcc hzz had hnl hW hLo)
  | iload_n n =>
    simp only [fj_okI, Bool.and_eq_true, decide_eq_true_eq, beq_iff_eq] at ok
    dsimp only [fj_stp] at h
    obtain ⟨hdg, rfl, rfl⟩ := ok
    obtain ⟨x, h1, h⟩ := fj_ild_some h
    cases fj_go_some h
    have hv : fj_lv b ad ls (n : Nat) = some (.int x) := by unfold fj_lv; rw [h1]
    exact lv_iload_n hx hb hdg rfl (fj_lv_at hLo hv) (kk ad H locs lsA cells slots hcc hzz had hnl hW hLo)
  | lload_n n =>
    simp only [fj_okI, Bool.and_eq_true, decide_eq_true_eq, beq_iff_eq] at ok
    dsimp only [fj_stp] at h
    obtain ⟨hdg, rfl, rfl⟩ := ok
    obtain ⟨x, h1, h2, h⟩ := fj_lld_some h
    cases fj_go_some h
    have hv : fj_lv b ad ls (n : Nat) = some (.long x) := by unfold fj_lv; rw [h1]; simp only; rw [if_pos h2]
    exact lv_lload_n hx hb hdg rfl (fj_lv_at hLo hv) (kk ad H locs lsA cells slots hcc hzz had hnl hW hLo)
  | iload n =>
    simp only [fj_okI, Bool.and_eq_true, decide_eq_true_eq, beq_iff_eq] at ok
    dsimp only [fj_stp] at h
    obtain ⟨hdg, rfl, rfl⟩ := ok
    obtain ⟨x, h1, h⟩ := fj_ild_some h
    cases fj_go_some h
    have hv : fj_lv b ad ls (n : Nat) = some (.int x) := by unfold fj_lv; rw [h1]
    exact lv_iload hx hb hdg (fj_lv_at hLo hv) (kk ad H locs lsA cells slots hcc hzz had hnl hW hLo)
  | lload n =>
    simp only [fj_okI, Bool.and_eq_true, decide_eq_true_eq, beq_iff_eq] at ok
    dsimp only [fj_stp] at h
    obtain ⟨hdg, rfl, rfl⟩ := ok
    obtain ⟨x, h1, h2, h⟩ := fj_lld_some h
    cases fj_go_some h
    have hv : fj_lv b ad ls (n : Nat) = some (.long x) := by unfold fj_lv; rw [h1]; simp only; rw [if_pos h2]
    exact lv_lload hx hb hdg (fj_lv_at hLo hv) (kk ad H locs lsA cells slots hcc hzz had hnl hW hLo)
  | aload_n n =>
    simp only [fj_okI, Bool.and_eq_true, decide_eq_true_eq, beq_iff_eq] at ok
    dsimp only [fj_stp] at h
    obtain ⟨hdg, rfl, rfl⟩ := ok
    rcases fj_ald_some h with ⟨x, h1, h⟩ | ⟨x, h1, h⟩
    · cases fj_go_some h
      have hv : fj_lv b ad ls (n : Nat) = some (.ref (ad.getD x 0)) := by unfold fj_lv; rw [h1]
      exact lv_aload_n hx hb hdg rfl (fj_lv_at hLo hv) (kk ad H locs lsA cells slots hcc hzz had hnl hW hLo)
    · cases fj_go_some h
      have hv : fj_lv b ad ls (n : Nat) = some (.ref b) := by unfold fj_lv; rw [h1]
      exact lv_aload_n hx hb hdg rfl (fj_lv_at hLo hv) (kk ad H locs lsA cells slots hcc hzz had hnl hW hLo)
  | aload n =>
    simp only [fj_okI, Bool.and_eq_true, decide_eq_true_eq, beq_iff_eq] at ok
    dsimp only [fj_stp] at h
    obtain ⟨hdg, rfl, rfl⟩ := ok
    rcases fj_ald_some h with ⟨x, h1, h⟩ | ⟨x, h1, h⟩
    · cases fj_go_some h
      have hv : fj_lv b ad ls (n : Nat) = some (.ref (ad.getD x 0)) := by unfold fj_lv; rw [h1]
      exact lv_aload hx hb hdg (fj_lv_at hLo hv) (kk ad H locs lsA cells slots hcc hzz had hnl hW hLo)
    · cases fj_go_some h
      have hv : fj_lv b ad ls (n : Nat) = some (.ref b) := by unfold fj_lv; rw [h1]
      exact lv_aload hx hb hdg (fj_lv_at hLo hv) (kk ad H locs lsA cells slots hcc hzz had hnl hW hLo)
  | istore_n n =>
    simp only [fj_okI, Bool.and_eq_true, decide_eq_true_eq, beq_iff_eq] at ok
    dsimp only [fj_stp] at h
    obtain ⟨hdg, rfl, rfl⟩ := ok
    split at h
    · rename_i x r
      split at h
      · rename_i hi
        cases fj_go_some h
        obtain ⟨lv, hl1, hl2⟩ := hLo
        exact lv_istore_n hx hb hdg rfl hl1 hi rfl (fun ls' h' => kk ad H locs ls' cells slots hcc hzz had (by simp [hnl]) hW ⟨_, by simp only [List.length_set]; exact h', fj_Lo_set1 (v := .int x) hi (by simp) (by unfold fj_lv; rw [List.getElem?_set_self hi]) hl2⟩)
      · cases h
    · cases h
  | istore n =>
    simp only [fj_okI, Bool.and_eq_true, decide_eq_true_eq, beq_iff_eq] at ok
    dsimp only [fj_stp] at h
    obtain ⟨hdg, rfl, rfl⟩ := ok
    split at h
    · rename_i x r
      split at h
      · rename_i hi
        cases fj_go_some h
        obtain ⟨lv, hl1, hl2⟩ := hLo
        exact lv_istore hx hb hdg hl1 hi rfl (fun ls' h' => kk ad H locs ls' cells slots hcc hzz had (by simp [hnl]) hW ⟨_, by simp only [List.length_set]; exact h', fj_Lo_set1 (v := .int x) hi (by simp) (by unfold fj_lv; rw [List.getElem?_set_self hi]) hl2⟩)
      · cases h
    · cases h
  | astore_n n =>
    simp only [fj_okI, Bool.and_eq_true, decide_eq_true_eq, beq_iff_eq] at ok
    dsimp only [fj_stp] at h
    obtain ⟨hdg, rfl, rfl⟩ := ok
    split at h
    · rename_i x r
      split at h
      · rename_i hi
        cases fj_go_some h
        obtain ⟨lv, hl1, hl2⟩ := hLo
        exact lv_astore_n hx hb hdg rfl hl1 hi rfl (fun ls' h' => kk ad H locs ls' cells slots hcc hzz had (by simp [hnl]) hW ⟨_, by simp only [List.length_set]; exact h', fj_Lo_set1 (v := .ref x) hi (by simp) (by unfold fj_lv; rw [List.getElem?_set_self hi]) hl2⟩)
      · cases h
    · cases h
  | astore n =>
    simp only [fj_okI, Bool.and_eq_true, decide_eq_true_eq, beq_iff_eq] at ok
    dsimp only [fj_stp] at h
    obtain ⟨hdg, rfl, rfl⟩ := ok
    split at h
    · rename_i x r
      split at h
      · rename_i hi
        cases fj_go_some h
        obtain ⟨lv, hl1, hl2⟩ := hLo
        exact lv_astore hx hb hdg hl1 hi rfl (fun ls' h' => kk ad H locs ls' cells slots hcc hzz had (by simp [hnl]) hW ⟨_, by simp only [List.length_set]; exact h', fj_Lo_set1 (v := .ref x) hi (by simp) (by unfold fj_lv; rw [List.getElem?_set_self hi]) hl2⟩)
      · cases h
    · cases h
  | lstore_n n =>
    simp only [fj_okI, Bool.and_eq_true, decide_eq_true_eq, beq_iff_eq] at ok
    dsimp only [fj_stp] at h
    obtain ⟨hdg, rfl, rfl⟩ := ok
    split at h
    · rename_i x r
      split at h
      · rename_i hi
        cases fj_go_some h
        obtain ⟨lv, hl1, hl2⟩ := hLo
        exact lv_lstore_n hx hb hdg rfl hl1 hi rfl (fun ls' h' => kk ad H locs ls' cells slots hcc hzz had (by simp [hnl]) hW ⟨_, by simp only [List.length_set]; exact h', fj_Lo_set2 hi hl2⟩)
      · cases h
    · cases h
  | lstore n =>
    simp only [fj_okI, Bool.and_eq_true, decide_eq_true_eq, beq_iff_eq] at ok
    dsimp only [fj_stp] at h
    obtain ⟨hdg, rfl, rfl⟩ := ok
    split at h
    · rename_i x r
      split at h
      · rename_i hi
        cases fj_go_some h
        obtain ⟨lv, hl1, hl2⟩ := hLo
        exact lv_lstore hx hb hdg hl1 hi rfl (fun ls' h' => kk ad H locs ls' cells slots hcc hzz had (by simp [hnl]) hW ⟨_, by simp only [List.length_set]; exact h', fj_Lo_set2 hi hl2⟩)
      · cases h
    · cases h
  | iinc n k2 =>
    simp only [fj_okI, Bool.and_eq_true, decide_eq_true_eq, beq_iff_eq] at ok
    dsimp only [fj_stp] at h
    obtain ⟨hdg, rfl, rfl, hk⟩ := ok
    obtain ⟨x, h1, h⟩ := fj_ild_some h
    cases fj_go_some h
    have hi : n < ls.length := (List.getElem?_eq_some_iff.mp h1).1
    obtain ⟨lv, hl1, hl2⟩ := hLo
    have hv : fj_lv b ad ls n = some (.int x) := by unfold fj_lv; rw [h1]
    obtain ⟨j, hj⟩ := List.getElem?_of_mem (hl2 n _ hv)
    exact lv_iinc hx hb hdg hl1 hj (by rw [hk]) hi rfl (fun ls' h' => kk ad H locs ls' cells slots hcc hzz had (by simp [hnl]) hW ⟨_, by simp only [List.length_set]; exact h', fj_Lo_set1 (v := .int (x + Int32.ofInt k)) hi (by simp) (by unfold fj_lv; rw [List.getElem?_set_self hi]) hl2⟩)
  | iadd =>
    simp only [fj_okI, Bool.and_eq_true, decide_eq_true_eq, beq_iff_eq] at ok
    dsimp only [fj_stp] at h
    obtain ⟨hdg, rfl⟩ := ok
    have h9 := fj_p2_some h
    clear h
    obtain ⟨x, y, r, rfl, h⟩ := h9
    try dsimp only at h
    cases fj_go_some h
    exact lv_iadd hx hb hdg (kk ad H locs lsA cells slots hcc hzz had hnl hW hLo)
  | isub =>
    simp only [fj_okI, Bool.and_eq_true, decide_eq_true_eq, beq_iff_eq] at ok
    dsimp only [fj_stp] at h
    obtain ⟨hdg, rfl⟩ := ok
    have h9 := fj_p2_some h
    clear h
    obtain ⟨x, y, r, rfl, h⟩ := h9
    try dsimp only at h
    cases fj_go_some h
    exact lv_isub hx hb hdg (kk ad H locs lsA cells slots hcc hzz had hnl hW hLo)
  | imul =>
    simp only [fj_okI, Bool.and_eq_true, decide_eq_true_eq, beq_iff_eq] at ok
    dsimp only [fj_stp] at h
    obtain ⟨hdg, rfl⟩ := ok
    have h9 := fj_p2_some h
    clear h
    obtain ⟨x, y, r, rfl, h⟩ := h9
    try dsimp only at h
    cases fj_go_some h
    exact lv_imul hx hb hdg (kk ad H locs lsA cells slots hcc hzz had hnl hW hLo)
  | iand =>
    simp only [fj_okI, Bool.and_eq_true, decide_eq_true_eq, beq_iff_eq] at ok
    dsimp only [fj_stp] at h
    obtain ⟨hdg, rfl⟩ := ok
    have h9 := fj_p2_some h
    clear h
    obtain ⟨x, y, r, rfl, h⟩ := h9
    try dsimp only at h
    cases fj_go_some h
    exact lv_iand hx hb hdg (kk ad H locs lsA cells slots hcc hzz had hnl hW hLo)
  | ior =>
    simp only [fj_okI, Bool.and_eq_true, decide_eq_true_eq, beq_iff_eq] at ok
    dsimp only [fj_stp] at h
    obtain ⟨hdg, rfl⟩ := ok
    have h9 := fj_p2_some h
    clear h
    obtain ⟨x, y, r, rfl, h⟩ := h9
    try dsimp only at h
    cases fj_go_some h
    exact lv_ior hx hb hdg (kk ad H locs lsA cells slots hcc hzz had hnl hW hLo)
  | ixor =>
    simp only [fj_okI, Bool.and_eq_true, decide_eq_true_eq, beq_iff_eq] at ok
    dsimp only [fj_stp] at h
    obtain ⟨hdg, rfl⟩ := ok
    have h9 := fj_p2_some h
    clear h
    obtain ⟨x, y, r, rfl, h⟩ := h9
    try dsimp only at h
    cases fj_go_some h
    exact lv_ixor hx hb hdg (kk ad H locs lsA cells slots hcc hzz had hnl hW hLo)
  | ishl =>
    simp only [fj_okI, Bool.and_eq_true, decide_eq_true_eq, beq_iff_eq] at ok
    dsimp only [fj_stp] at h
    obtain ⟨hdg, rfl⟩ := ok
    have h9 := fj_p2_some h
    clear h
    obtain ⟨x, y, r, rfl, h⟩ := h9
    try dsimp only at h
    cases fj_go_some h
    exact lv_ishl hx hb hdg (kk ad H locs lsA cells slots hcc hzz had hnl hW hLo)
  | ishr =>
    simp only [fj_okI, Bool.and_eq_true, decide_eq_true_eq, beq_iff_eq] at ok
    dsimp only [fj_stp] at h
    obtain ⟨hdg, rfl⟩ := ok
    have h9 := fj_p2_some h
    clear h
    obtain ⟨x, y, r, rfl, h⟩ := h9
    try dsimp only at h
    cases fj_go_some h
    exact lv_ishr hx hb hdg (kk ad H locs lsA cells slots hcc hzz had hnl hW hLo)
  | iushr =>
    simp only [fj_okI, Bool.and_eq_true, decide_eq_true_eq, beq_iff_eq] at ok
    dsimp only [fj_stp] at h
    obtain ⟨hdg, rfl⟩ := ok
    have h9 := fj_p2_some h
    clear h
    obtain ⟨x, y, r, rfl, h⟩ := h9
    try dsimp only at h
    cases fj_go_some h
    exact lv_iushr hx hb hdg rfl (kk ad H locs lsA cells slots hcc hzz had hnl hW hLo)
  | idiv =>
    simp only [fj_okI, Bool.and_eq_true, decide_eq_true_eq, beq_iff_eq] at ok
    dsimp only [fj_stp] at h
    obtain ⟨hdg, rfl⟩ := ok
    have h9 := fj_p2_some h
    clear h
    obtain ⟨x, y, r, rfl, h⟩ := h9
    try dsimp only at h
    split at h
    · cases h
    · rename_i hne
      cases fj_go_some h
      exact lv_idiv hx hb hdg hne (kk ad H locs lsA cells slots hcc hzz had hnl hW hLo)
  | irem =>
    simp only [fj_okI, Bool.and_eq_true, decide_eq_true_eq, beq_iff_eq] at ok
    dsimp only [fj_stp] at h
    obtain ⟨hdg, rfl⟩ := ok
    have h9 := fj_p2_some h
    clear h
    obtain ⟨x, y, r, rfl, h⟩ := h9
    try dsimp only at h
    split at h
    · cases h
    · rename_i hne
      cases fj_go_some h
      exact lv_irem hx hb hdg hne (kk ad H locs lsA cells slots hcc hzz had hnl hW hLo)
  | ldiv =>
    simp only [fj_okI, Bool.and_eq_true, decide_eq_true_eq, beq_iff_eq] at ok
    dsimp only [fj_stp] at h
    obtain ⟨hdg, rfl⟩ := ok
    have h9 := fj_q2_some h
    clear h
    obtain ⟨x, y, r, rfl, h⟩ := h9
    try dsimp only at h
    split at h
    · cases h
    · rename_i hne
      cases fj_go_some h
      exact lv_ldiv hx hb hdg hne (kk ad H locs lsA cells slots hcc hzz had hnl hW hLo)
  | lrem =>
    simp only [fj_okI, Bool.and_eq_true, decide_eq_true_eq, beq_iff_eq] at ok
    dsimp only [fj_stp] at h
    obtain ⟨hdg, rfl⟩ := ok
    have h9 := fj_q2_some h
    clear h
    obtain ⟨x, y, r, rfl, h⟩ := h9
    try dsimp only at h
    split at h
    · cases h
    · rename_i hne
      cases fj_go_some h
      exact lv_lrem hx hb hdg hne (kk ad H locs lsA cells slots hcc hzz had hnl hW hLo)
  | ineg =>
    simp only [fj_okI, Bool.and_eq_true, decide_eq_true_eq, beq_iff_eq] at ok
    dsimp only [fj_stp] at h
    obtain ⟨hdg, rfl⟩ := ok
    have h9 := fj_p1_some h
    clear h
    obtain ⟨x, r, rfl, h⟩ := h9
    try dsimp only at h
    cases fj_go_some h
    exact lv_ineg hx hb hdg (kk ad H locs lsA cells slots hcc hzz had hnl hW hLo)
  | i2l =>
    simp only [fj_okI, Bool.and_eq_true, decide_eq_true_eq, beq_iff_eq] at ok
    dsimp only [fj_stp] at h
    obtain ⟨hdg, rfl⟩ := ok
    have h9 := fj_p1_some h
    clear h
    obtain ⟨x, r, rfl, h⟩ := h9
    try dsimp only at h
    cases fj_go_some h
    exact lv_i2l hx hb hdg rfl (kk ad H locs lsA cells slots hcc hzz had hnl hW hLo)
  | i2b =>
    simp only [fj_okI, Bool.and_eq_true, decide_eq_true_eq, beq_iff_eq] at ok
    dsimp only [fj_stp] at h
    obtain ⟨hdg, rfl⟩ := ok
    have h9 := fj_p1_some h
    clear h
    obtain ⟨x, r, rfl, h⟩ := h9
    try dsimp only at h
    cases fj_go_some h
    exact lv_i2b hx hb hdg rfl (kk ad H locs lsA cells slots hcc hzz had hnl hW hLo)
  | i2s =>
    simp only [fj_okI, Bool.and_eq_true, decide_eq_true_eq, beq_iff_eq] at ok
    dsimp only [fj_stp] at h
    obtain ⟨hdg, rfl⟩ := ok
    have h9 := fj_p1_some h
    clear h
    obtain ⟨x, r, rfl, h⟩ := h9
    try dsimp only at h
    cases fj_go_some h
    exact lv_i2s hx hb hdg rfl (kk ad H locs lsA cells slots hcc hzz had hnl hW hLo)
  | ladd =>
    simp only [fj_okI, Bool.and_eq_true, decide_eq_true_eq, beq_iff_eq] at ok
    dsimp only [fj_stp] at h
    obtain ⟨hdg, rfl⟩ := ok
    have h9 := fj_q2_some h
    clear h
    obtain ⟨x, y, r, rfl, h⟩ := h9
    try dsimp only at h
    cases fj_go_some h
    exact lv_ladd hx hb hdg (kk ad H locs lsA cells slots hcc hzz had hnl hW hLo)
  | lsub =>
    simp only [fj_okI, Bool.and_eq_true, decide_eq_true_eq, beq_iff_eq] at ok
    dsimp only [fj_stp] at h
    obtain ⟨hdg, rfl⟩ := ok
    have h9 := fj_q2_some h
    clear h
    obtain ⟨x, y, r, rfl, h⟩ := h9
    try dsimp only at h
    cases fj_go_some h
    exact lv_lsub hx hb hdg (kk ad H locs lsA cells slots hcc hzz had hnl hW hLo)
  | lcmp =>
    simp only [fj_okI, Bool.and_eq_true, decide_eq_true_eq, beq_iff_eq] at ok
    dsimp only [fj_stp] at h
    obtain ⟨hdg, rfl⟩ := ok
    have h9 := fj_q2_some h
    clear h
    obtain ⟨x, y, r, rfl, h⟩ := h9
    try dsimp only at h
    cases fj_go_some h
    exact W.lcmp hx hb hdg (kk ad H locs lsA cells slots hcc hzz had hnl hW hLo)
  | lshl =>
    simp only [fj_okI, Bool.and_eq_true, decide_eq_true_eq, beq_iff_eq] at ok
    dsimp only [fj_stp] at h
    obtain ⟨hdg, rfl⟩ := ok
    split at h
    · cases fj_go_some h
      exact lv_lshl hx hb hdg rfl (kk ad H locs lsA cells slots hcc hzz had hnl hW hLo)
    · cases h
  | dup =>
    simp only [fj_okI, Bool.and_eq_true, decide_eq_true_eq, beq_iff_eq] at ok
    dsimp only [fj_stp] at h
    obtain ⟨hdg, rfl⟩ := ok
    split at h
    · cases fj_go_some h
      exact lv_dup hx hb hdg rfl (kk ad H locs lsA cells slots hcc hzz had hnl hW hLo)
    · cases fj_go_some h
      exact lv_dup hx hb hdg rfl (kk ad H locs lsA cells slots hcc hzz had hnl hW hLo)
    · cases h
  | ifCond cnd off =>
    cases cnd with
    | eq =>
      simp only [fj_okI, Bool.and_eq_true, decide_eq_true_eq, beq_iff_eq] at ok
      dsimp only [fj_stp] at h
      obtain ⟨hdg, rfl, ho⟩ := ok
      have h9 := fj_p1_some h
      clear h
      obtain ⟨x, r, rfl, h⟩ := h9
      try dsimp only at h
      refine lv_if_eq hx hb hdg ho (fun hc => ?_) (fun hc => ?_)
      · rw [if_pos hc] at h
        cases fj_go_some h
        exact (kk ad H locs lsA cells slots hcc hzz had hnl hW hLo)
      · rw [if_neg hc] at h
        cases fj_go_some h
        exact (kk ad H locs lsA cells slots hcc hzz had hnl hW hLo)
    | ne =>
      simp only [fj_okI, Bool.and_eq_true, decide_eq_true_eq, beq_iff_eq] at ok
      dsimp only [fj_stp] at h
      obtain ⟨hdg, rfl, ho⟩ := ok
      have h9 := fj_p1_some h
      clear h
      obtain ⟨x, r, rfl, h⟩ := h9
      try dsimp only at h
      refine lv_if_ne hx hb hdg ho (fun hc => ?_) (fun hc => ?_)
      · rw [if_pos hc] at h
        cases fj_go_some h
        exact (kk ad H locs lsA cells slots hcc hzz had hnl hW hLo)
      · rw [if_neg (fun q => q hc)] at h
        cases fj_go_some h
        exact (kk ad H locs lsA cells slots hcc hzz had hnl hW hLo)
    | lt =>
      simp only [fj_okI, Bool.and_eq_true, decide_eq_true_eq, beq_iff_eq] at ok
      dsimp only [fj_stp] at h
      obtain ⟨hdg, rfl, ho⟩ := ok
      have h9 := fj_p1_some h
      clear h
      obtain ⟨x, r, rfl, h⟩ := h9
      try dsimp only at h
      refine lv_if_lt hx hb hdg ho (fun hc => ?_) (fun hc => ?_)
      · rw [if_pos hc] at h
        cases fj_go_some h
        exact (kk ad H locs lsA cells slots hcc hzz had hnl hW hLo)
      · rw [if_neg hc] at h
        cases fj_go_some h
        exact (kk ad H locs lsA cells slots hcc hzz had hnl hW hLo)
    | ge =>
      simp only [fj_okI, Bool.and_eq_true, decide_eq_true_eq, beq_iff_eq] at ok
      dsimp only [fj_stp] at h
      obtain ⟨hdg, rfl, ho⟩ := ok
      have h9 := fj_p1_some h
      clear h
      obtain ⟨x, r, rfl, h⟩ := h9
      try dsimp only at h
      refine lv_if_ge hx hb hdg ho (fun hc => ?_) (fun hc => ?_)
      · rw [if_pos hc] at h
        cases fj_go_some h
        exact (kk ad H locs lsA cells slots hcc hzz had hnl hW hLo)
      · rw [if_neg hc] at h
        cases fj_go_some h
        exact (kk ad H locs lsA cells slots hcc hzz had hnl hW hLo)
    | gt =>
      simp only [fj_okI, Bool.and_eq_true, decide_eq_true_eq, beq_iff_eq] at ok
      dsimp only [fj_stp] at h
      obtain ⟨hdg, rfl, ho⟩ := ok
      have h9 := fj_p1_some h
      clear h
      obtain ⟨x, r, rfl, h⟩ := h9
      try dsimp only at h
      refine lv_if_gt hx hb hdg ho (fun hc => ?_) (fun hc => ?_)
      · rw [if_pos hc] at h
        cases fj_go_some h
        exact (kk ad H locs lsA cells slots hcc hzz had hnl hW hLo)
      · rw [if_neg hc] at h
        cases fj_go_some h
        exact (kk ad H locs lsA cells slots hcc hzz had hnl hW hLo)
    | le =>
      simp only [fj_okI, Bool.and_eq_true, decide_eq_true_eq, beq_iff_eq] at ok
      dsimp only [fj_stp] at h
      obtain ⟨hdg, rfl, ho⟩ := ok
      have h9 := fj_p1_some h
      clear h
      obtain ⟨x, r, rfl, h⟩ := h9
      try dsimp only at h
      refine lv_if_le hx hb hdg ho (fun hc => ?_) (fun hc => ?_)
      · rw [if_pos hc] at h
        cases fj_go_some h
        exact (kk ad H locs lsA cells slots hcc hzz had hnl hW hLo)
      · rw [if_neg hc] at h
        cases fj_go_some h
        exact (kk ad H locs lsA cells slots hcc hzz had hnl hW hLo)
  | if_icmp cnd off =>
    cases cnd with
    | eq =>
      simp only [fj_okI, Bool.and_eq_true, decide_eq_true_eq, beq_iff_eq] at ok
      dsimp only [fj_stp] at h
      obtain ⟨hdg, rfl, ho⟩ := ok
      have h9 := fj_p2_some h
      clear h
      obtain ⟨x, y, r, rfl, h⟩ := h9
      try dsimp only at h
      refine lv_icmp_eq hx hb hdg ho (fun hc => ?_) (fun hc => ?_)
      · rw [if_pos hc] at h
        cases fj_go_some h
        exact (kk ad H locs lsA cells slots hcc hzz had hnl hW hLo)
      · rw [if_neg hc] at h
        cases fj_go_some h
        exact (kk ad H locs lsA cells slots hcc hzz had hnl hW hLo)
    | ne =>
      simp only [fj_okI, Bool.and_eq_true, decide_eq_true_eq, beq_iff_eq] at ok
      dsimp only [fj_stp] at h
      obtain ⟨hdg, rfl, ho⟩ := ok
      have h9 := fj_p2_some h
      clear h
      obtain ⟨x, y, r, rfl, h⟩ := h9
      try dsimp only at h
      refine lv_icmp_ne hx hb hdg ho (fun hc => ?_) (fun hc => ?_)
      · rw [if_pos hc] at h
        cases fj_go_some h
        exact (kk ad H locs lsA cells slots hcc hzz had hnl hW hLo)
      · rw [if_neg (fun q => q hc)] at h
        cases fj_go_some h
        exact (kk ad H locs lsA cells slots hcc hzz had hnl hW hLo)
    | lt =>
      simp only [fj_okI, Bool.and_eq_true, decide_eq_true_eq, beq_iff_eq] at ok
      dsimp only [fj_stp] at h
      obtain ⟨hdg, rfl, ho⟩ := ok
      have h9 := fj_p2_some h
      clear h
      obtain ⟨x, y, r, rfl, h⟩ := h9
      try dsimp only at h
      refine lv_icmp_lt hx hb hdg ho (fun hc => ?_) (fun hc => ?_)
      · rw [if_pos hc] at h
        cases fj_go_some h
        exact (kk ad H locs lsA cells slots hcc hzz had hnl hW hLo)
      · rw [if_neg hc] at h
        cases fj_go_some h
        exact (kk ad H locs lsA cells slots hcc hzz had hnl hW hLo)
    | ge =>
      simp only [fj_okI, Bool.and_eq_true, decide_eq_true_eq, beq_iff_eq] at ok
      dsimp only [fj_stp] at h
      obtain ⟨hdg, rfl, ho⟩ := ok
      have h9 := fj_p2_some h
      clear h
      obtain ⟨x, y, r, rfl, h⟩ := h9
      try dsimp only at h
      refine lv_icmp_ge hx hb hdg ho (fun hc => ?_) (fun hc => ?_)
      · rw [if_pos hc] at h
        cases fj_go_some h
        exact (kk ad H locs lsA cells slots hcc hzz had hnl hW hLo)
      · rw [if_neg hc] at h
        cases fj_go_some h
        exact (kk ad H locs lsA cells slots hcc hzz had hnl hW hLo)
    | gt =>
      simp only [fj_okI, Bool.and_eq_true, decide_eq_true_eq, beq_iff_eq] at ok
      dsimp only [fj_stp] at h
      obtain ⟨hdg, rfl, ho⟩ := ok
      have h9 := fj_p2_some h
      clear h
      obtain ⟨x, y, r, rfl, h⟩ := h9
      try dsimp only at h
      refine lv_icmp_gt hx hb hdg ho (fun hc => ?_) (fun hc => ?_)
      · rw [if_pos hc] at h
        cases fj_go_some h
        exact (kk ad H locs lsA cells slots hcc hzz had hnl hW hLo)
      · rw [if_neg hc] at h
        cases fj_go_some h
        exact (kk ad H locs lsA cells slots hcc hzz had hnl hW hLo)
    | le =>
      simp only [fj_okI, Bool.and_eq_true, decide_eq_true_eq, beq_iff_eq] at ok
      dsimp only [fj_stp] at h
      obtain ⟨hdg, rfl, ho⟩ := ok
      have h9 := fj_p2_some h
      clear h
      obtain ⟨x, y, r, rfl, h⟩ := h9
      try dsimp only at h
      refine lv_icmp_le hx hb hdg ho (fun hc => ?_) (fun hc => ?_)
      · rw [if_pos hc] at h
        cases fj_go_some h
        exact (kk ad H locs lsA cells slots hcc hzz had hnl hW hLo)
      · rw [if_neg hc] at h
        cases fj_go_some h
        exact (kk ad H locs lsA cells slots hcc hzz had hnl hW hLo)
  | goto off =>
    simp only [fj_okI, Bool.and_eq_true, decide_eq_true_eq, beq_iff_eq] at ok
    dsimp only [fj_stp] at h
    obtain ⟨hdg, rfl, ho⟩ := ok
    cases fj_go_some h
    exact lv_goto hx hb hdg ho (kk ad H locs lsA cells slots hcc hzz had hnl hW hLo)
  | tableswitch d lo hi offs =>
    simp only [fj_okI, Bool.and_eq_true, decide_eq_true_eq, beq_iff_eq] at ok
    dsimp only [fj_stp] at h
    obtain ⟨hdg, -⟩ := ok
    have h9 := fj_p1_some h
    clear h
    obtain ⟨x, r, rfl, h⟩ := h9
    try dsimp only at h
    dsimp only [fj_sw] at h
    split at h
    · rename_i ho
      split at h
      · rename_i hp
        cases fj_go_some h
        exact lv_tableOut hx hb hdg ho (Int.toNat_of_nonneg hp).symm (kk ad H locs lsA cells slots hcc hzz had hnl hW hLo)
      · cases h
    · rename_i ho
      split at h
      · rename_i o hoo
        split at h
        · rename_i hp
          cases fj_go_some h
          exact lv_tableIn hx hb hdg (fun q => ho (Or.inl q)) (fun q => ho (Or.inr q)) hoo (Int.toNat_of_nonneg hp).symm (kk ad H locs lsA cells slots hcc hzz had hnl hW hLo)
        · cases h
      · cases h
  | lookupswitch d ps =>
    simp only [fj_okI, Bool.and_eq_true, decide_eq_true_eq, beq_iff_eq] at ok
    dsimp only [fj_stp] at h
    obtain ⟨hdg, hso⟩ := ok
    have h9 := fj_p1_some h
    clear h
    obtain ⟨x, r, rfl, h⟩ := h9
    try dsimp only at h
    dsimp only [fj_sw] at h
    split at h
    · rename_i hp
      cases fj_go_some h
      exact lv_lookup hx hb hdg hso rfl (Int.toNat_of_nonneg hp).symm (kk ad H locs lsA cells slots hcc hzz had hnl hW hLo)
    · cases h
  | getfield i =>
    simp only [fj_okI, Bool.and_eq_true, decide_eq_true_eq, beq_iff_eq] at ok
    dsimp only [fj_stp] at h
    obtain ⟨hdg, rfl, hok⟩ := ok
    cases hq : fj_cl[a]? with
    | none => rw [hq] at hok; exact absurd hok (by simp)
    | some q' =>
      rw [hq] at hok
      simp only [Bool.and_eq_true, decide_eq_true_eq] at hok
      obtain ⟨hkN, hlink⟩ := hok
      obtain ⟨hN', hin, hdecl, hnm, ty, hty, hrf⟩ := fj_cls hq
      split at h
      · rename_i o r
        obtain ⟨hob, h⟩ := fj_if_some h
        cases fj_go_some h
        have hv : (fj_xf ad M P o a)[bb]? = some (fj_xv b ad (if fj_isR a bb = true then fj_rv (P o bb) else .int (M o bb))) := by
          rw [fj_xf_get (by rw [← hN']; exact hkN)]
          by_cases hr : fj_isR a bb = true
          · rw [if_pos hr, if_pos hr]
            cases P o bb <;> rfl
          · rw [if_neg hr, if_neg hr]
            rfl
        exact va_get (D := D) (ci := a) (C := q'.1) (T := q'.2.1) (N := q'.2.2) hx hb hts hin hown hK hP o (by rw [fj_wl_get (by rw [hadl]; exact hob.1), fj_xc_obj hob.2]) hq bb hkN (hts _ (fj_wd_ok hlink)) (fun x hx => by rw [← hdecl bb hkN]; exact hx) hv hdg (kk ad H locs lsA cells slots hcc hzz had hnl hW hLo)
      · cases h
  | putfield i =>
    simp only [fj_okI, Bool.and_eq_true, decide_eq_true_eq, beq_iff_eq] at ok
    dsimp only [fj_stp] at h
    obtain ⟨hdg, rfl, hok⟩ := ok
    cases hq : fj_cl[a]? with
    | none => rw [hq] at hok; exact absurd hok (by simp)
    | some q' =>
      rw [hq] at hok
      simp only [Bool.and_eq_true, decide_eq_true_eq] at hok
      obtain ⟨hkN, hlink, hf⟩ := hok
      obtain ⟨hN', hin, hdecl, hnm, ty, hty, hrf⟩ := fj_cls hq
      have hkF : bb < fj_nF a := by rw [← hN']; exact hkN
      split at h
      · rename_i v o r
        obtain ⟨⟨hob, hr⟩, h⟩ := fj_if_some h
        cases fj_go_some h
        have ht : ty bb = .int := (hrf bb hkN).2 hr
        have hset := fj_wl_set (cI := cI) (cZ := cZ) (ad := ad) (M := M) (M' := fj_up M o bb v) (P := P) (P' := P) (o := o) (e := .inr (a, (fj_xf ad M P o a).set bb (.int v))) (fun q hq => fj_up_ne q hq) (fun q hq => rfl) (by rw [fj_xc_obj hob.2, fj_xf_up hkF hr])
        have kk2 : ∀ (H1 : Heap) (locs1 : List Loc), va_P D fj_cl ((fj_wl cI cZ ad M P).set o (ad.getD o 0, .inr (a, (fj_xf ad M P o a).set bb (.int v)))) H1 → va_D A ((fj_wl cI cZ ad M P).set o (ad.getD o 0, .inr (a, (fj_xf ad M P o a).set bb (.int v)))) → va_S A H0 H1 locs1 → W p l e R s m args below meth cd H1 locs1 cells slots Q (F0 m (pc + 3) lsA (r.map (fj_xv b ad))) := fun H1 locs1 q1 q2 q3 => kk ad H1 locs1 lsA cells slots hcc hzz had hnl ⟨hadl, by rw [← hset]; exact q1, hK, by rw [← hset]; exact q2, q3, hA, hPc⟩ hLo
        by_cases hfin : (q'.2.1 bb).2.2.2 = true
        · rw [hfin] at hf
          simp only [Bool.not_true, Bool.false_or, Bool.and_eq_true, decide_eq_true_eq] at hf
          exact va_putF (D := D) (ci := a) (C := q'.1) (T := q'.2.1) (N := q'.2.2) hx hb hts hin ty hty hnm hown hK hP hD hS o (by rw [fj_wl_get (by rw [hadl]; exact hob.1), fj_xc_obj hob.2]) hq bb hkN (hts _ (fj_wd_ok hlink)) (fun x hx => by rw [← hdecl bb hkN]; exact hx) hfin (hini hf.1) (by rw [hdecl bb hkN]; exact hf.2) (hty bb hkN) (by rw [ht]; rfl) (by rw [ht]; rfl) (by simp [fj_xf]; omega) hdg kk2
        · exact va_put (D := D) (ci := a) (C := q'.1) (T := q'.2.1) (N := q'.2.2) hx hb hts hin ty hty hnm hown hK hP hD hS o (by rw [fj_wl_get (by rw [hadl]; exact hob.1), fj_xc_obj hob.2]) hq bb hkN (hts _ (fj_wd_ok hlink)) (fun x hx => by rw [← hdecl bb hkN]; exact hx) (by simpa using hfin) (hty bb hkN) (by rw [ht]; rfl) (by rw [ht]; rfl) (by simp [fj_xf]; omega) hdg kk2
      · rename_i w o r
        obtain ⟨⟨hob, hr, hwc⟩, h⟩ := fj_if_some h
        cases fj_go_some h
        have ht : narrow (ty bb) (.ref (ad.getD w 0)) = .ref (ad.getD w 0) ∧ fits (ty bb) (.ref (ad.getD w 0)) = true := by
          rcases (hrf bb hkN).1 hr with ⟨n, hn⟩ | ⟨n, hn⟩ <;> rw [hn] <;> exact ⟨rfl, rfl⟩
        have hset := fj_wl_set (cI := cI) (cZ := cZ) (ad := ad) (M := M) (M' := M) (P := P) (P' := fj_uP P o bb (w + 1)) (o := o) (e := .inr (a, (fj_xf ad M P o a).set bb (.ref (ad.getD w 0)))) (fun q hq => rfl) (fun q hq => fj_uP_ne q hq) (by rw [fj_xc_obj hob.2]; exact congrArg (fun z => Sum.inr (a, z)) (fj_xf_uP hkF hr))
        have kk2 : ∀ (H1 : Heap) (locs1 : List Loc), va_P D fj_cl ((fj_wl cI cZ ad M P).set o (ad.getD o 0, .inr (a, (fj_xf ad M P o a).set bb (.ref (ad.getD w 0))))) H1 → va_D A ((fj_wl cI cZ ad M P).set o (ad.getD o 0, .inr (a, (fj_xf ad M P o a).set bb (.ref (ad.getD w 0))))) → va_S A H0 H1 locs1 → W p l e R s m args below meth cd H1 locs1 cells slots Q (F0 m (pc + 3) lsA (r.map (fj_xv b ad))) := fun H1 locs1 q1 q2 q3 => kk ad H1 locs1 lsA cells slots hcc hzz had hnl ⟨hadl, by rw [← hset]; exact q1, hK, by rw [← hset]; exact q2, q3, hA, fj_uP_le hPc hwc⟩ hLo
        by_cases hfin : (q'.2.1 bb).2.2.2 = true
        · rw [hfin] at hf
          simp only [Bool.not_true, Bool.false_or, Bool.and_eq_true, decide_eq_true_eq] at hf
          exact va_putF (D := D) (ci := a) (C := q'.1) (T := q'.2.1) (N := q'.2.2) hx hb hts hin ty hty hnm hown hK hP hD hS o (by rw [fj_wl_get (by rw [hadl]; exact hob.1), fj_xc_obj hob.2]) hq bb hkN (hts _ (fj_wd_ok hlink)) (fun x hx => by rw [← hdecl bb hkN]; exact hx) hfin (hini hf.1) (by rw [hdecl bb hkN]; exact hf.2) (hty bb hkN) ht.1 ht.2 (by simp [fj_xf]; omega) hdg kk2
        · exact va_put (D := D) (ci := a) (C := q'.1) (T := q'.2.1) (N := q'.2.2) hx hb hts hin ty hty hnm hown hK hP hD hS o (by rw [fj_wl_get (by rw [hadl]; exact hob.1), fj_xc_obj hob.2]) hq bb hkN (hts _ (fj_wd_ok hlink)) (fun x hx => by rw [← hdecl bb hkN]; exact hx) (by simpa using hfin) (hty bb hkN) ht.1 ht.2 (by simp [fj_xf]; omega) hdg kk2
      · cases h
  | iaload =>
    simp only [fj_okI, Bool.and_eq_true, decide_eq_true_eq, beq_iff_eq] at ok
    dsimp only [fj_stp] at h
    obtain ⟨hdg, rfl⟩ := ok
    split at h
    · rename_i j o r
      obtain ⟨⟨hoc, hsh, hin⟩, h⟩ := fj_if_some h
      cases fj_go_some h
      exact va_iald (D := D) hx hb hK hP o 0 (by rw [fj_wl_get (by rw [hadl]; exact hoc), fj_xc_int hsh]) rfl hin hdg (kk ad H locs lsA cells slots hcc hzz had hnl hW hLo)
    · rename_i j f r
      cases sc with
      | none => cases h
      | some q0 =>
        obtain ⟨hin, h⟩ := fj_if_some h
        cases fj_go_some h
        exact va_sld hx hb hX.1 hX.2.1 hX.2.2 hS hin hdg (kk ad H locs lsA cells slots hcc hzz had hnl hW hLo)
    · cases h
  | baload =>
    simp only [fj_okI, Bool.and_eq_true, decide_eq_true_eq, beq_iff_eq] at ok
    dsimp only [fj_stp] at h
    obtain ⟨hdg, rfl⟩ := ok
    split at h
    · rename_i j o r
      obtain ⟨⟨hoc, hsh, hin⟩, h⟩ := fj_if_some h
      cases fj_go_some h
      exact va_zald (D := D) hx hb hK hP o 1 (by rw [fj_wl_get (by rw [hadl]; exact hoc), fj_xc_bool hsh]) rfl hin hdg (kk ad H locs lsA cells slots hcc hzz had hnl hW hLo)
    · cases h
  | iastore =>
    simp only [fj_okI, Bool.and_eq_true, decide_eq_true_eq, beq_iff_eq] at ok
    dsimp only [fj_stp] at h
    obtain ⟨hdg, rfl⟩ := ok
    split at h
    · rename_i v j o r
      obtain ⟨⟨hoc, hsh, hin⟩, h⟩ := fj_if_some h
      cases fj_go_some h
      have hset := fj_wl_set (cI := cI) (cZ := cZ) (ad := ad) (M := M) (M' := fj_up M o j.toNatClampNeg v) (P := P) (P' := P) (o := o) (e := .inl (cI, (fj_sh o).2, .inl (upd (M o) j.toNatClampNeg v))) (fun q hq => fj_up_ne q hq) (fun q hq => rfl) (by rw [fj_xc_int hsh, fj_up_self])
      exact va_iast (D := D) hx hb hK hP hD hS o 0 (by rw [fj_wl_get (by rw [hadl]; exact hoc), fj_xc_int hsh]) rfl hin hdg (fun H1 locs1 q1 q2 q3 => kk ad H1 locs1 lsA cells slots hcc hzz had hnl ⟨hadl, by rw [← hset]; exact q1, hK, by rw [← hset]; exact q2, q3, hA, hPc⟩ hLo)
    · cases h
  | bastore =>
    simp only [fj_okI, Bool.and_eq_true, decide_eq_true_eq, beq_iff_eq] at ok
    dsimp only [fj_stp] at h
    obtain ⟨hdg, rfl⟩ := ok
    split at h
    · rename_i v j o r
      obtain ⟨⟨⟨hoc, hsh, hin⟩, hv⟩, h⟩ := fj_if_some h
      cases fj_go_some h
      have hnv : vp_nar .boolean v = v := by rcases hv with rfl | rfl <;> rfl
      have hset := fj_wl_set (cI := cI) (cZ := cZ) (ad := ad) (M := M) (M' := fj_up M o j.toNatClampNeg v) (P := P) (P' := P) (o := o) (e := .inl (cZ, (fj_sh o).2, .inl (upd (M o) j.toNatClampNeg v))) (fun q hq => fj_up_ne q hq) (fun q hq => rfl) (by rw [fj_xc_bool hsh, fj_up_self])
      exact va_zast (D := D) hx hb hK hP hD hS o 1 (by rw [fj_wl_get (by rw [hadl]; exact hoc), fj_xc_bool hsh]) rfl hin hdg (fun H1 locs1 q1 q2 q3 => by
        rw [hnv, hset] at q1 q2
        exact kk ad H1 locs1 lsA cells slots hcc hzz had hnl ⟨hadl, q1, hK, q2, q3, hA, hPc⟩ hLo)
    · cases h
  | arraylength =>
    simp only [fj_okI, Bool.and_eq_true, decide_eq_true_eq, beq_iff_eq] at ok
    dsimp only [fj_stp] at h
    obtain ⟨hdg, rfl⟩ := ok
    split at h
    · rename_i o r
      obtain ⟨⟨hoc, hsh⟩, h⟩ := fj_if_some h
      cases fj_go_some h
      exact va_alen (D := D) (x := ((fj_sh o).2, .inl (M o))) hx hb hK hP o 0 (by rw [fj_wl_get (by rw [hadl]; exact hoc), fj_xc_int hsh]) rfl rfl hdg (kk ad H locs lsA cells slots hcc hzz had hnl hW hLo)
    · rename_i f r
      cases sc with
      | none => cases h
      | some q0 =>
        cases fj_go_some h
        exact va_slen hx hb hX.1 hX.2.1 hX.2.2 hS hdg (kk ad H locs lsA cells slots hcc hzz had hnl hW hLo)
    · cases h
  | new i =>
    simp only [fj_okI, Bool.and_eq_true, decide_eq_true_eq, beq_iff_eq] at ok
    dsimp only [fj_stp] at h
    obtain ⟨hdg, rfl, hok⟩ := ok
    cases hq : fj_cl[a]? with
    | none => rw [hq] at hok; exact absurd hok (by simp)
    | some q' =>
      rw [hq] at hok
      simp only [Bool.and_eq_true] at hok
      obtain ⟨hw1, hw2, hw3⟩ := hok
      obtain ⟨hN', hin, hdecl, hnm, ty, hty, hrf⟩ := fj_cls hq
      obtain ⟨⟨hsh, hokl⟩, h⟩ := fj_if_some h
      cases fj_go_some h
      refine va_new (D := D) (ci := a) (C := q'.1) (T := q'.2.1) (N := q'.2.2) (fs := fj_xf [] (fun _ _ => 0) (fun _ _ => 0) c a) hx hb hts hin ty hty hown (hts _ (fj_wd_ok hw1)) (hts _ (fj_wd_ok hw2)) (hts _ (fj_wd_ok hw3)) hK hP hD hS hA hq ?_ (by simp only at hcR'; omega) (by simp only at hzR'; omega) hdg ?_
      · intro j hj
        unfold vp_V
        rw [List.getD_eq_getElem?_getD, fj_xf_get (by rw [← hN']; exact hj)]
        by_cases hr : fj_isR a j = true
        · rw [if_pos hr]
          rcases (hrf j hj).1 hr with ⟨n, hn⟩ | ⟨n, hn⟩ <;> rw [hn] <;> rfl
        · rw [if_neg hr, (hrf j hj).2 (by simpa using hr)]
          rfl
      · intro q1 H1 hP1 hD1 hS1
        have e1 : fj_wl cI cZ ad M P ++ [(q1, .inr (a, fj_xf [] (fun _ _ => 0) (fun _ _ => 0) c a))] = fj_wl cI cZ (ad ++ [q1]) (fj_ze M c) (fj_zP P c) := by
          refine fj_wl_push (fun o ho => ?_) (fun o ho => ?_) (by rw [hadl]; exact hPc) ?_
          · funext j; simp [fj_ze]; omega
          · funext j; simp [fj_zP]; omega
          · rw [hadl, fj_xc_obj hsh]
            unfold fj_xf
            simp only [fj_ze, fj_zP, if_true]
            congr 2
        rw [e1] at hP1 hD1
        have e2 : fj_xv b (ad ++ [q1]) (.ref c) = .ref q1 := by
          simp only [fj_xv, List.getD_eq_getElem?_getD]
          rw [List.getElem?_append_right (by omega), hadl]
          simp
        have e3 : st.map (fj_xv b (ad ++ [q1])) = st.map (fj_xv b ad) := fj_map_ext (by rw [hadl]; exact hokl.2)
        have K1 := kk (ad ++ [q1]) H1 locs lsA (cells + 1) (slots + q'.2.2) (by simp only; omega) (by simp only; rw [hN']; omega) (had.trans (List.prefix_append _ _)) hnl ⟨by simp [hadl], hP1, hK, hD1, hS1, hA, fj_zP_le hPc⟩ (fj_Lo_ext (by rw [hadl]; exact hokl.1) hLo)
        rw [List.map_cons, e2, e3] at K1
        exact K1
  | newarray t =>
    simp only [fj_okI, Bool.and_eq_true, decide_eq_true_eq, beq_iff_eq] at ok
    dsimp only [fj_stp] at h
    obtain ⟨hdg, rfl, hw, hat⟩ := ok
    simp only [Bool.or_eq_true, Bool.and_eq_true, decide_eq_true_eq, beq_iff_eq] at hat
    have h9 := fj_p1_some h
    clear h
    obtain ⟨n, r, rfl, h⟩ := h9
    try dsimp only at h
    obtain ⟨⟨hsh, hn0, hokl⟩, h⟩ := fj_if_some h
    cases fj_go_some h
    have hnn : ¬ n < 0 := Int32.not_lt.mpr hn0
    have key : ∀ (ty : FieldType) (hty : newarray.typeOf t = ty) (cT : ClassId), (∀ cA : ClassId, vp_cell cA (n.toNatClampNeg, .inl fun _ => (0 : Int32)) = arrV cA n.toNatClampNeg (fun _ => defaultValue ty)) → n.toNatClampNeg * componentBytes ty ≤ 536870912 → (∀ cA, va_K D fj_cl ([(cI, .int), (cZ, .boolean)] ++ [(cA, ty)]) s → cA = cT) → fj_xc cI cZ (ad ++ [0]) (fj_ze M c) P c = .inl (cT, n.toNatClampNeg, .inl fun _ => 0) → W p l e R s m args below meth cd H locs cells slots Q (F0 m pc lsA (.int n :: r.map (fj_xv b ad))) := by
      intro ty hty cT h1 h2 h3 h4
      refine va_newa (D := D) (a0 := (n.toNatClampNeg, .inl fun _ => (0 : Int32))) hx hb (hts _ (fj_wd_ok hw)) hty hK hP hD hS hA h1 hnn rfl h2 (by simp only at hcR'; omega) (by simp only at hzR'; omega) hdg ?_
      intro q1 cA H1 hK1 hP1 hD1 hS1
      cases h3 cA hK1
      have e1 : fj_wl cI cZ ad M P ++ [(q1, .inl (cT, n.toNatClampNeg, .inl fun _ => 0))] = fj_wl cI cZ (ad ++ [q1]) (fj_ze M c) P := by
        refine fj_wl_push (fun o ho => ?_) (fun o ho => rfl) (by rw [hadl]; exact hPc) ?_
        · funext j; simp [fj_ze]; omega
        · rw [hadl, ← h4]
          unfold fj_xc
          rw [hsh]
          rcases hat with ⟨rfl, -⟩ | ⟨rfl, -⟩ <;> rfl
      rw [e1] at hP1 hD1
      have e2 : fj_xv b (ad ++ [q1]) (.ref c) = .ref q1 := by
        simp only [fj_xv, List.getD_eq_getElem?_getD]
        rw [List.getElem?_append_right (by omega), hadl]
        simp
      have e3 : r.map (fj_xv b (ad ++ [q1])) = r.map (fj_xv b ad) := fj_map_ext (by rw [hadl]; exact hokl.2)
      have K1 := kk (ad ++ [q1]) H1 locs lsA (cells + 1) (slots + n.toNatClampNeg) (by simp only; omega) (by simp only; omega) (had.trans (List.prefix_append _ _)) hnl ⟨by simp [hadl], hP1, hK, hD1, hS1, hA, fun o k => Nat.le_succ_of_le (hPc o k)⟩ (fj_Lo_ext (by rw [hadl]; exact hokl.1) hLo)
      rw [List.map_cons, e2, e3] at K1
      exact K1
    have hsmall : ∀ o, (fj_sh o).2 ≤ 5000 := by
      intro o
      unfold fj_sh
      rw [List.getD_eq_getElem?_getD]
      cases ho : fj_shl[o]? with
      | none => simp
      | some q2 => exact List.all_eq_true.mp (show fj_shl.all (fun q => q.2 ≤ 5000) = true from by decide) q2 (List.mem_of_getElem? ho) |> fun h => by simpa using h
    have hn5 : n.toNatClampNeg ≤ 5000 := by have := hsmall c; rw [hsh] at this; exact this
    rcases hat with ⟨rfl, rfl⟩ | ⟨rfl, rfl⟩
    · exact key .int rfl cI (fun cA => rfl) (by simp [componentBytes]; omega) (fun cA hK1 => by
        have g1 := (hK1.2 2 (cA, .int) rfl).2
        have g2 := (hK.2 0 (cI, .int) rfl).2
        exact Option.some.inj (g1.symm.trans g2)) (by rw [fj_xc_int (by rw [hsh]), hsh, fj_ze_self])
    · exact key .boolean rfl cZ (fun cA => rfl) (by simp [componentBytes]; omega) (fun cA hK1 => by
        have g1 := (hK1.2 2 (cA, .boolean) rfl).2
        have g2 := (hK.2 1 (cZ, .boolean) rfl).2
        exact Option.some.inj (g1.symm.trans g2)) (by rw [fj_xc_bool (by rw [hsh]), hsh, fj_ze_self])
  | invokevirtual i =>
    dsimp only [fj_stp] at h
    obtain ⟨-, h⟩ := fj_if_some h
    cases h
  | invokestatic i =>
    simp only [fj_okI, Bool.and_eq_true, decide_eq_true_eq, beq_iff_eq] at ok
    dsimp only [fj_stp] at h
    obtain ⟨hdg, rfl, hok⟩ := ok
    by_cases h997 : a = 997
    · rw [if_pos h997] at h hok
      simp only [Bool.and_eq_true, decide_eq_true_eq] at hok
      obtain ⟨w1, w2, w3, w4, hf1, hl1⟩ := hok
      have h9 := fj_p1_some h
      clear h
      obtain ⟨x, r, rfl, h⟩ := h9
      try dsimp only at h
      split at h
      · rename_i hr
        cases fj_go_some h
        exact va_mabs hx hb (by rw [hml, hsz, hny]) hown (hts _ (fj_wd_ok w1)) (hts _ (fj_wd_ok w2)) (hts _ (fj_wd_ok w3)) (hts _ (fj_wd_ok w4)) (Nat.le_trans hf1 hfr) (by have := cat4 r hr; omega) (by omega) (by omega) hdg (kk ad H locs lsA cells slots hcc hzz had hnl hW hLo)
      · cases h
    · rw [if_neg h997] at h hok
      by_cases h996 : a = 996
      · rw [if_pos h996] at h hok
        simp only [Bool.and_eq_true, decide_eq_true_eq] at hok
        obtain ⟨w1, w2, w3, w4, hf1, hl1⟩ := hok
        have h9 := fj_p2_some h
        clear h
        obtain ⟨x, y2, r, rfl, h⟩ := h9
        try dsimp only at h
        split at h
        · rename_i hr
          cases fj_go_some h
          exact va_mmin hx hb (by rw [hml, hsz, hny]) hown (hts _ (fj_wd_ok w1)) (hts _ (fj_wd_ok w2)) (hts _ (fj_wd_ok w3)) (hts _ (fj_wd_ok w4)) (Nat.le_trans hf1 hfr) (by have := cat4 r hr; omega) (by omega) (by omega) hdg (kk ad H locs lsA cells slots hcc hzz had hnl hW hLo)
        · cases h
      · rw [if_neg h996] at h hok
        by_cases h998 : a = 998
        · rw [if_pos h998] at h hok
          simp only [Bool.and_eq_true, decide_eq_true_eq] at hok
          obtain ⟨w1, w2, w3, w4, hf1, hl1⟩ := hok
          split at h
          · rename_i n dp d sp o r
            obtain ⟨⟨hr, hoc, hdc, hso, hsd, h0, h1, h2, h3, h4⟩, h⟩ := fj_if_some h
            cases fj_go_some h
            have hset := fj_wl_set (cI := cI) (cZ := cZ) (ad := ad) (M := M) (M' := fj_cy M o d sp.toNatClampNeg dp.toNatClampNeg n.toNatClampNeg) (P := P) (P' := P) (o := d) (e := .inl (cI, (fj_sh d).2, .inl (va_cpy (M o) (M d) sp.toNatClampNeg dp.toNatClampNeg n.toNatClampNeg))) (fun q hq => by funext j; simp [fj_cy, hq]) (fun q hq => rfl) (by rw [fj_xc_int hsd]; exact congrArg (fun f : Nat → Int32 => (Sum.inl (cI, (fj_sh d).2, Sum.inl f) : va_E)) (by funext j; simp [fj_cy, va_cpy]))
            exact va_copyi (D := D) hx hb (by rw [hml, hsz, hny]) hown (hts _ (fj_wd_ok w1)) (hts _ (fj_wd_ok w2)) (hts _ (fj_wd_ok w3)) (hts _ (fj_wd_ok w4)) hK hP hD hS o d 0 0 (by rw [fj_wl_get (by rw [hadl]; exact hoc), fj_xc_int hso]) (by rw [fj_wl_get (by rw [hadl]; exact hdc), fj_xc_int hsd]) rfl rfl rfl (Int32.not_lt.mpr h0) (Int32.not_lt.mpr h1) (Int32.not_lt.mpr h2) h3 h4 (fun i hi => rfl) (Nat.le_trans hf1 hfr) (by have := cat4 r hr; omega) hdg (fun H1 locs1 q1 q2 q3 => kk ad H1 locs1 lsA cells slots hcc hzz had hnl ⟨hadl, by rw [← hset]; exact q1, hK, by rw [← hset]; exact q2, q3, hA, hPc⟩ hLo)
          · cases h
        · rw [if_neg h998] at h
          obtain ⟨-, h⟩ := fj_if_some h
          cases h
  | invokespecial i =>
    simp only [fj_okI, Bool.and_eq_true, decide_eq_true_eq, beq_iff_eq] at ok
    dsimp only [fj_stp] at h
    obtain ⟨hdg, rfl, hok⟩ := ok
    by_cases h999 : a = 999
    · rw [if_pos h999] at h hok
      simp only [Bool.and_eq_true, decide_eq_true_eq] at hok
      obtain ⟨w1, w2, w3, hf1, hl1⟩ := hok
      split at h
      · rename_i o r
        split at h
        · rename_i hr
          cases fj_go_some h
          exact W.objInit hx hb hown (hts _ (fj_wd_ok w1)) (hts _ (fj_wd_ok w2)) (hts _ (fj_wd_ok w3)) (g := F0 m pc lsA (.ref (ad.getD o 0) :: r.map (fj_xv b ad))) rfl (by show lsA.size = cd.maxLocals; rw [hml, hsz, hny]) rfl hdg (Nat.le_trans hf1 hfr) (by have := cat4 r hr; show 2 * 0 + _ + 12 ≤ R.locals; omega) (kk ad H locs lsA cells slots hcc hzz had hnl hW hLo)
        · cases h
      · cases h
    · rw [if_neg h999] at h
      obtain ⟨-, h⟩ := fj_if_some h
      cases h
  | ireturn =>
    dsimp only [fj_stp] at h
    split at h
    · split at h
      · obtain ⟨-, h⟩ := fj_if_some h
        cases h
      · cases h
    · cases h
  | lreturn =>
    dsimp only [fj_stp] at h
    split at h
    · cases h
    · cases h
  | return_ =>
    dsimp only [fj_stp] at h
    split at h
    · cases h
    · cases h
  | _ => exact absurd (show (none : fj_R) = some _ from h) (by simp)
end
section
/-! ===== a run of the abstract machine is a run of the machine ===== -/
def fj_mo (c z : Nat) (r : fj_R) : Prop := ∀ q, r = some (.inl q) → c ≤ q.2.2.2.2.2.1 ∧ z ≤ q.2.2.2.2.2.2
theorem fj_mo_none {c z : Nat} : fj_mo c z none := fun q h => by cases h
theorem fj_mo_ca {c z y : Nat} {ls st : List Value} : fj_mo c z (fj_ca y ls st) := fun q h => by cases h
theorem fj_mo_re {c z : Nat} {v : Option Value} : fj_mo c z (fj_re v) := fun q h => by cases h
theorem fj_mo_go {c z c' z' pc : Nat} {ls st : List Value} {M : fj_HM} {P : fj_HP} (h1 : c ≤ c') (h2 : z ≤ z') : fj_mo c z (fj_go pc ls st M P c' z') := fun q h => by cases fj_go_some h; exact ⟨h1, h2⟩
theorem fj_mo_if {c z : Nat} {q : Prop} {a : fj_R} (h : fj_mo c z a) : fj_mo c z (fj_if q a none) := fun r hr => h r (fj_if_some hr).2
theorem fj_mo_p1 {c z : Nat} {st : List Value} {f : Int32 → List Value → fj_R} (h : ∀ x r, fj_mo c z (f x r)) : fj_mo c z (fj_p1 st f) := fun q hq => by
  obtain ⟨x, r, -, h2⟩ := fj_p1_some hq
  exact h x r q h2
theorem fj_mo_p2 {c z : Nat} {st : List Value} {f : Int32 → Int32 → List Value → fj_R} (h : ∀ x y r, fj_mo c z (f x y r)) : fj_mo c z (fj_p2 st f) := fun q hq => by
  obtain ⟨x, y, r, -, h2⟩ := fj_p2_some hq
  exact h x y r q h2
theorem fj_mo_q2 {c z : Nat} {st : List Value} {f : Int64 → Int64 → List Value → fj_R} (h : ∀ x y r, fj_mo c z (f x y r)) : fj_mo c z (fj_q2 st f) := fun q hq => by
  obtain ⟨x, y, r, -, h2⟩ := fj_q2_some hq
  exact h x y r q h2
theorem fj_mo_ild {c z : Nat} {ls : List Value} {a : Nat} {f : Int32 → fj_R} (h : ∀ x, fj_mo c z (f x)) : fj_mo c z (fj_ild ls a f) := fun q hq => by
  obtain ⟨x, -, h2⟩ := fj_ild_some hq
  exact h x q h2
theorem fj_mo_lld {c z : Nat} {ls : List Value} {a : Nat} {f : Int64 → fj_R} (h : ∀ x, fj_mo c z (f x)) : fj_mo c z (fj_lld ls a f) := fun q hq => by
  obtain ⟨x, -, -, h2⟩ := fj_lld_some hq
  exact h x q h2
theorem fj_mo_ald {c z : Nat} {ls : List Value} {a : Nat} {f : Value → fj_R} (h : ∀ x, fj_mo c z (f x)) : fj_mo c z (fj_ald ls a f) := fun q hq => by
  rcases fj_ald_some hq with ⟨x, -, h2⟩ | ⟨x, -, h2⟩
  · exact h _ q h2
  · exact h _ q h2
theorem fj_mo_sw {c z pc : Nat} {ins : Instr} {x : Int32} {f : Nat → fj_R} (h : ∀ t, fj_mo c z (f t)) : fj_mo c z (fj_sw ins pc x f) := fun q hq => by
  unfold fj_sw at hq
  repeat' split at hq
  all_goals first | exact h _ q hq | cases hq
set_option maxHeartbeats 4000000 in
set_option maxRecDepth 100000 in
theorem fj_stp_mo (y : Nat) (sc : fj_Sc) (ai : fj_AI) (pc : Nat) (ls st : List Value) (M : fj_HM) (P : fj_HP) (c z : Nat) : fj_mo c z (fj_stp y sc ai pc ls st M P c z) := by
  obtain ⟨ins, len, a, bb, k, ixs⟩ := ai
  unfold fj_stp
  repeat' (first
    | exact fj_mo_none
    | exact fj_mo_ca
    | exact fj_mo_re
    | exact fj_mo_go (Nat.le_refl _) (Nat.le_refl _)
    | exact fj_mo_go (Nat.le_succ _) (Nat.le_add_right _ _)
    | refine fj_mo_if ?_
    | refine fj_mo_p1 fun x r => ?_
    | refine fj_mo_p2 fun x y r => ?_
    | refine fj_mo_q2 fun x y r => ?_
    | refine fj_mo_ild fun x => ?_
    | refine fj_mo_lld fun x => ?_
    | refine fj_mo_ald fun x => ?_
    | refine fj_mo_sw fun x => ?_
    | split)
theorem fj_run_mo : ∀ (n : Nat) {sc : fj_Sc} {y pc : Nat} {ls st : List Value} {M : fj_HM} {P : fj_HP} {c z : Nat} {r : Option Value × fj_HM × fj_HP × Nat × Nat}, fj_run n sc y pc ls st M P c z = some r → c ≤ r.2.2.2.1 ∧ z ≤ r.2.2.2.2 := by
  intro n
  induction n with
  | zero => intro sc y pc ls st M P c z r h; cases h
  | succ n ih =>
    intro sc y pc ls st M P c z r h
    unfold fj_run at h
    split at h
    · cases h
    · rename_i ai hai
      split at h
      · cases h
      · rename_i q hq
        have h1 := fj_stp_mo y sc ai pc ls st M P c z q hq
        have h2 := ih h
        omega
      · rename_i q hq
        split at h
        · cases h
        · rename_i r1 hr1
          have h1 := ih hr1
          have h2 := ih (fj_if_some h).2
          omega
      · cases h
        exact ⟨Nat.le_refl _, Nat.le_refl _⟩
/-- behind a call, of any kind -/
theorem fj_call {p : Program} {l : Launch} {e : Env} {R : Room} {s : State} {m : MethodId} {args : Array Value} {below : List Frame} {meth : Method} {c : Code} {H : Heap} {locs : List Loc} {cells slots : Nat} {Q : State → Prop} {pc : Nat} {ls : Array Slot} {rest st0 : List Value} {A0 A1 : Nat → Prop} {H0 : Heap} {mc ms : Nat} {free : Addr → Prop} {Qa : State → Outcome → State → Prop} {B : Option Value → State → Prop}
    (hr : va_Run p l e R s m args below meth c H locs cells slots mc ms (F0 m pc ls st0) rest Qa free) (hQ : ∀ st v t, Qa st (.returned v) t → B v t ∧ va_F A1 st t) (hS : va_S A0 H0 H locs) (hA : ∀ q, q < H.size → A1 q → A0 q) (hf : ∀ q, free q → A0 q)
    (kk : ∀ (v : Option Value) (t : State) (H1 : Heap) (locs1 : List Loc), t.heap = H1 → B v t → va_S A0 H0 H1 locs1 → W p l e R s m args below meth c H1 locs1 (cells + mc) (slots + ms) Q (F0 m (pc + 3) ls (v.toList ++ rest))) : W p l e R s m args below meth c H locs cells slots Q (F0 m pc ls st0) := by
  intro T hT X
  obtain ⟨v, st₀, t, T', L, h0, X', hL, e1, e2, hq, st⟩ := hr T hT X
  obtain ⟨hb, hz, hk⟩ := hQ _ _ _ hq
  rw [h0] at hz hk
  obtain ⟨t2, a1, b1⟩ := kk v t T'.heap (locs ++ L) e1.symm hb
    ⟨Nat.le_trans hS.1 (by rw [e1]; exact hz), fun q h1 h2 => by rw [e1, hk q (Nat.lt_of_lt_of_le h1 hS.1) (fun z => h2 (hA q (Nat.lt_of_lt_of_le h1 hS.1) z))]; exact hS.2.1 q h1 h2, fun q hq => by
      rcases List.mem_append.mp hq with h | h
      · exact hS.2.2 q h
      · exact hf _ (hL q h)⟩ T' rfl X'
  exact ⟨t2, st t2 a1, b1⟩
theorem fj_good {w : Jvm.Cond} (h : w ∈ fj_T) : w ∈ fj_T ∧ ((w.onTables && w.keeps) = true ∨ ∃ ty, w = .arrayClass ty) := ⟨h, good_of_word (List.mem_filter.mp h).2⟩
theorem fj_N_warm {s U : State} (hW : s.WarmedH U.vm) (h : ∀ w ∈ fj_N, va_Nw w s) : ∀ w ∈ fj_N, va_Nw w U := by
  intro w hw
  have h1 := h w hw
  unfold fj_N at hw
  simp only [List.mem_cons, List.not_mem_nil, or_false] at hw
  rcases hw with rfl | rfl | rfl | rfl | rfl | rfl <;> exact va_Nw.warmM hW h1
theorem fj_N_same {s U : State} (hv : s.vm = U.vm) (h : ∀ w ∈ fj_N, va_Nw w s) : ∀ w ∈ fj_N, va_Nw w U := by
  intro w hw
  have h1 := h w hw
  unfold fj_N at hw
  simp only [List.mem_cons, List.not_mem_nil, or_false] at hw
  rcases hw with rfl | rfl | rfl | rfl | rfl | rfl <;> exact va_Nw.same rfl hv h1
/-- a method's start, its room, its end -/
def fj_B0 (D : va_G) (cI cZ : ClassId) (ad : List Nat) (M : fj_HM) (P : fj_HP) (sz : Nat) : State → Prop := fun U => U.heap.size = sz ∧ va_P D fj_cl (fj_wl cI cZ ad M P) U.heap ∧ va_K D fj_cl [(cI, .int), (cZ, .boolean)] U ∧ va_D (fun _ => True) (fj_wl cI cZ ad M P) ∧ ∀ w ∈ fj_N, va_Nw w U
def fj_B1 (D : va_G) (cI cZ : ClassId) (b : Nat) (ad : List Nat) (A : Nat → Prop) (v : Option Value) (M' : fj_HM) (P' : fj_HP) (c' : Nat) : Option Value → State → Prop := fun v' t => ∃ ad', ad <+: ad' ∧ ad'.length = c' ∧ (∀ o k, P' o k ≤ c') ∧ v' = v.map (fj_xv b ad') ∧ va_P D fj_cl (fj_wl cI cZ ad' M' P') t.heap ∧ va_D A (fj_wl cI cZ ad' M' P')
def fj_Qm (D : va_G) (cI cZ : ClassId) (b : Nat) (ad : List Nat) (A : Nat → Prop) (v : Option Value) (M' : fj_HM) (P' : fj_HP) (c' : Nat) : Array Value → State → Outcome → State → Prop := fun _ st oc t => (∃ v', oc = .returned v' ∧ fj_B1 D cI cZ b ad A v M' P' c' v' t) ∧ va_F A st t
def fj_rm (y mc ms : Nat) : Room := { frames := fj_fr y, cells := mc, slots := ms, locals := fj_lo y }
def fj_Met (l : Launch) (D : va_G) (cI cZ : ClassId) (b : Nat) (ad : List Nat) (sz : Nat) (y : Nat) (as : List Value) (M : fj_HM) (P : fj_HP) (c z : Nat) (v : Option Value) (M' : fj_HM) (P' : fj_HP) (c' z' : Nat) : Prop :=
  Met l (fj_yn y) (.code (fj_yn y) (fj_bc y) (fj_ml y) (fj_rt y) :: fj_T) (fj_rm y (c' - c) (z' - z)) (va_Pc (as.map (fj_xv b ad)) (fj_B0 D cI cZ ad M P sz)) (fj_Qm D cI cZ b ad (va_A (fj_wl cI cZ ad M P) sz) v M' P' c') (c' - c) (z' - z) (va_A (fj_wl cI cZ ad M P) sz)
def fj_Snd (n : Nat) : Prop := ∀ (y : Nat) (sc : fj_Sc) (pc : Nat) (ls st : List Value) (M : fj_HM) (P : fj_HP) (c z : Nat) (v : Option Value) (M' : fj_HM) (P' : fj_HP) (c' z' : Nat), fj_run n sc y pc ls st M P c z = some (v, M', P', c', z') →
  ∀ (p : Program) (l : Launch) (e : Env) (R : Room) (s : State) (m : MethodId) (args : Array Value) (below : List Frame) (meth : Method) (cd : Code) (Q : State → Prop) (D : va_G) (cI cZ : ClassId) (A : Nat → Prop) (H0 : Heap) (b : Nat) (ad0 : List Nat) (c0 z0 : Nat),
  fj_Cx p R s m args meth cd y → fj_Xs sc b A H0 s → c' ≤ c0 + R.cells → z' ≤ z0 + R.slots →
  (∀ (pcR : Nat) (lsR stR : List Value) (ai : fj_AI), fj_cd y pcR = some ai → fj_stp y sc ai pcR lsR stR M' P' c' z' = some (.inr (.inr v)) → fj_G p l e R s m args below meth cd Q D cI cZ A H0 b ad0 c0 z0 (fj_ml y) pcR lsR stR M' P' c' z') →
  fj_G p l e R s m args below meth cd Q D cI cZ A H0 b ad0 c0 z0 (fj_ml y) pc ls st M P c z
def fj_nr (r : fj_R) : Prop := ∀ v, r ≠ some (.inr (.inr v))
theorem fj_nr_none : fj_nr none := fun v h => by cases h
theorem fj_nr_ca {y : Nat} {ls st : List Value} : fj_nr (fj_ca y ls st) := fun v h => by cases h
theorem fj_nr_go {c z pc : Nat} {ls st : List Value} {M : fj_HM} {P : fj_HP} : fj_nr (fj_go pc ls st M P c z) := fun v h => by cases h
theorem fj_nr_if {q : Prop} {a : fj_R} (h : fj_nr a) : fj_nr (fj_if q a none) := fun r hr => h r (fj_if_some hr).2
theorem fj_nr_p1 {st : List Value} {f : Int32 → List Value → fj_R} (h : ∀ x r, fj_nr (f x r)) : fj_nr (fj_p1 st f) := fun q hq => by
  obtain ⟨x, r, -, h2⟩ := fj_p1_some hq
  exact h x r q h2
theorem fj_nr_p2 {st : List Value} {f : Int32 → Int32 → List Value → fj_R} (h : ∀ x y r, fj_nr (f x y r)) : fj_nr (fj_p2 st f) := fun q hq => by
  obtain ⟨x, y, r, -, h2⟩ := fj_p2_some hq
  exact h x y r q h2
theorem fj_nr_q2 {st : List Value} {f : Int64 → Int64 → List Value → fj_R} (h : ∀ x y r, fj_nr (f x y r)) : fj_nr (fj_q2 st f) := fun q hq => by
  obtain ⟨x, y, r, -, h2⟩ := fj_q2_some hq
  exact h x y r q h2
theorem fj_nr_ild {ls : List Value} {a : Nat} {f : Int32 → fj_R} (h : ∀ x, fj_nr (f x)) : fj_nr (fj_ild ls a f) := fun q hq => by
  obtain ⟨x, -, h2⟩ := fj_ild_some hq
  exact h x q h2
theorem fj_nr_lld {ls : List Value} {a : Nat} {f : Int64 → fj_R} (h : ∀ x, fj_nr (f x)) : fj_nr (fj_lld ls a f) := fun q hq => by
  obtain ⟨x, -, -, h2⟩ := fj_lld_some hq
  exact h x q h2
theorem fj_nr_ald {ls : List Value} {a : Nat} {f : Value → fj_R} (h : ∀ x, fj_nr (f x)) : fj_nr (fj_ald ls a f) := fun q hq => by
  rcases fj_ald_some hq with ⟨x, -, h2⟩ | ⟨x, -, h2⟩
  · exact h _ q h2
  · exact h _ q h2
theorem fj_nr_sw {pc : Nat} {ins : Instr} {x : Int32} {f : Nat → fj_R} (h : ∀ t, fj_nr (f t)) : fj_nr (fj_sw ins pc x f) := fun q hq => by
  unfold fj_sw at hq
  repeat' split at hq
  all_goals first | exact h _ q hq | cases hq
set_option maxHeartbeats 4000000 in
set_option maxRecDepth 100000 in
theorem fj_no_ret {y : Nat} {sc : fj_Sc} {ins : Instr} {x : Nat × Nat × Nat × Int × List Nat} {pc : Nat} {ls st : List Value} {M : fj_HM} {P : fj_HP} {c z : Nat} {v : Option Value} (h1 : ins ≠ .ireturn) (h2 : ins ≠ .lreturn) (h3 : ins ≠ .return_) : fj_stp y sc (ins, x) pc ls st M P c z ≠ some (.inr (.inr v)) := by
  have key : fj_nr (fj_stp y sc (ins, x) pc ls st M P c z) := by
    unfold fj_stp
    repeat' (first
      | exact fj_nr_none
      | exact fj_nr_ca
      | exact fj_nr_go
      | refine fj_nr_if ?_
      | refine fj_nr_p1 fun x r => ?_
      | refine fj_nr_p2 fun x y r => ?_
      | refine fj_nr_q2 fun x y r => ?_
      | refine fj_nr_ild fun x => ?_
      | refine fj_nr_lld fun x => ?_
      | refine fj_nr_ald fun x => ?_
      | refine fj_nr_sw fun x => ?_
      | contradiction
      | split)
  exact key v
/-- a method's contract, out of its run -/
theorem fj_met_of {n : Nat} (ih : fj_Snd n) {y : Nat} {as : List Value} {M : fj_HM} {P : fj_HP} {c z : Nat} {v : Option Value} {M' : fj_HM} {P' : fj_HP} {c' z' : Nat} (hrun : fj_run n none y 0 (fj_en y as) [] M P c z = some (v, M', P', c', z')) (hy : y < 164) (hnd : fj_nd y as) (l : Launch) (D : va_G) (cI cZ : ClassId) (b : Nat) (ad : List Nat) (sz : Nat) (hadl : ad.length = c) (hPc : ∀ o k, P o k ≤ c) : fj_Met l D cI cZ b ad sz y as M P c z v M' P' c' z' := by
  have hmo := fj_run_mo n hrun
  simp only at hmo
  have hY := fj_okY_of hy
  simp only [fj_okY, Bool.and_eq_true, decide_eq_true_eq] at hY
  obtain ⟨hpl, how, hin, hn1, hn2⟩ := hY
  refine Met.ofW (cc := fj_bc y) (maxL := fj_ml y) (ret := fj_rt y) hpl rfl ?_
  intro p e s m args below meth cd s₁ B hml hv
  obtain ⟨rfl, hsz, hP, hK, hD0, hN⟩ := hv
  have hts : ∀ w ∈ fj_T, w.before _ s = true := fun w hw => atoms_spec (ws := .code (fj_yn y) (fj_bc y) (fj_ml y) (fj_rt y) :: fj_T) B.pre w (List.mem_cons_of_mem _ hw)
  have hown : s.vm.findClass (fj_ow y) = some m.cls := by rw [how]; exact findClass_of_methodNamed B.named
  subst hsz
  have hD := hD0.self (sz := s.heap.size)
  have hA : ∀ q, s.heap.size ≤ q → va_A (fj_wl cI cZ ad M P) s.heap.size q := fun q h => Or.inr h
  have hl := lv_entry (as.map (fj_xv b ad)) (n := fj_ml y) (by rw [fj_sl_len b ad as hnd.1]; exact hnd.2)
  have hen : (fj_en y as).length = fj_ml y := by
    unfold fj_en
    rw [List.length_append, List.length_replicate]
    have := hnd.2
    omega
  rw [lg_entry_eq]
  refine ih y none 0 (fj_en y as) [] M P c z v M' P' c' z' hrun p l e (fj_rm y (c' - c) (z' - z)) s m _ below meth cd _ D cI cZ (va_A (fj_wl cI cZ ad M P) s.heap.size) s.heap b ad c z ⟨B.exec, B.bytes, hml, hown, hts, fun hi => ?_, Nat.le_refl _, Nat.le_refl _, hN⟩ trivial (by show c' ≤ c + (c' - c); omega) (by show z' ≤ z + (z' - z); omega) ?_ ad s.heap [] _ 0 0 (Nat.zero_add _) (Nat.zero_add _) (List.prefix_refl _) hen ⟨hadl, hP, hK, hD, va_S.rf, hA, hPc⟩ ⟨_, by rw [hen]; exact hl, fun i w hw => ?_⟩
  · rw [(name_of_methodNamed B.named B.method).1]
    rcases Bool.or_eq_true _ _ ▸ hin with h | h
    · rw [hi] at h; exact absurd h (by decide)
    · exact of_decide_eq_true h
  · have hlocks := B.notSynchronized
    intro pcR lsR stR ai hai hst ad' H locs lsA cells slots hcc hzz had hnl hW hLo
    obtain ⟨hadl', hP', hK', hD', hS', hA', hPc'⟩ := hW
    obtain rfl : cells = c' - c := by omega
    obtain rfl : slots = z' - z := by omega
    have ok := fj_okI_of hai
    obtain ⟨ins, len, a, bb, k, ixs⟩ := ai
    have hno : ∀ q, fj_stp y none (ins, len, a, bb, k, ixs) pcR lsR stR M' P' c' z' = some (.inl q) → False := fun q hq => by rw [hst] at hq; cases hq
    by_cases e1 : ins = .ireturn
    · subst e1
      simp only [fj_okI, Bool.and_eq_true, decide_eq_true_eq, beq_iff_eq, Bool.or_eq_true] at ok
      obtain ⟨hdg, rfl, hrt⟩ := ok
      dsimp only [fj_stp] at hst
      split at hst
      · rename_i x
        by_cases hb : fj_rt y = some .boolean
        · rw [if_pos hb] at hst
          obtain ⟨hz, hst⟩ := fj_if_some hst
          cases hst
          exact W.zret (v := x) (ty := .boolean) B.exec B.bytes (by rw [B.returns, hb]) (by rcases hz with rfl | rfl <;> rfl) (fun t ht hW => ⟨⟨_, rfl, ad', had, hadl', hPc', rfl, by rw [ht]; exact hP', hD'⟩, hS'.F ht⟩) hS'.2.2 hdg hlocks
        · rw [if_neg hb] at hst
          cases hst
          exact W.iret (v := x) B.exec B.bytes (by rw [B.returns]; rcases hrt with h | h; exact h; exact absurd h hb) (fun t ht hW => ⟨⟨_, rfl, ad', had, hadl', hPc', rfl, by rw [ht]; exact hP', hD'⟩, hS'.F ht⟩) hS'.2.2 hdg hlocks
      · cases hst
    · by_cases e2 : ins = .lreturn
      · subst e2
        simp only [fj_okI, Bool.and_eq_true, decide_eq_true_eq, beq_iff_eq] at ok
        obtain ⟨hdg, rfl, hrt⟩ := ok
        dsimp only [fj_stp] at hst
        split at hst
        · rename_i x
          cases hst
          exact W.lret (v := x) B.exec B.bytes (by rw [B.returns, hrt]) (fun t ht hW => ⟨⟨_, rfl, ad', had, hadl', hPc', rfl, by rw [ht]; exact hP', hD'⟩, hS'.F ht⟩) hS'.2.2 hdg hlocks
        · cases hst
      · by_cases e3 : ins = .return_
        · subst e3
          simp only [fj_okI, Bool.and_eq_true, decide_eq_true_eq, beq_iff_eq] at ok
          obtain ⟨hdg, rfl, hrt⟩ := ok
          dsimp only [fj_stp] at hst
          split at hst
          · cases hst
            exact W.vret B.exec B.bytes (by rw [B.returns, hrt]) (fun t ht hW => ⟨⟨_, rfl, ad', had, hadl', hPc', rfl, by rw [ht]; exact hP', hD'⟩, hS'.F ht⟩) hS'.2.2 hdg hlocks
          · cases hst
        · exact absurd hst (fj_no_ret e1 e2 e3)
  · have := fj_lv_pa b ad (fj_ml y - (fj_pa as).length) as hnd.1 0 i w hw
    rwa [Nat.add_zero] at this
end
section
/-! ===== calls, and the whole ===== -/
theorem fj_take_at {α : Type} {st : List α} {b : Nat} {v : α} (h : st[b]? = some v) : (st.take (b + 1)).reverse = v :: (st.take b).reverse ∧ st = (st.take b) ++ v :: st.drop (b + 1) := by
  have hl : b < st.length := (List.getElem?_eq_some_iff.mp h).1
  have e : st[b] = v := (List.getElem?_eq_some_iff.mp h).2
  constructor
  · rw [List.take_succ_eq_append_getElem hl, e, List.reverse_append]
    rfl
  · conv => lhs; rw [← List.take_append_drop b st, List.drop_eq_getElem_cons hl, e]
theorem fj_pfx_eq {ad ad' : List Nat} (h : ad <+: ad') (hl : ad'.length = ad.length) : ad' = ad := (h.eq_of_length hl.symm).symm
def fj_nc (r : fj_R) : Prop := ∀ v, r ≠ some (.inr (.inl v))
theorem fj_nc_none : fj_nc none := fun v h => by cases h
theorem fj_nc_re {v : Option Value} : fj_nc (fj_re v) := fun v h => by cases h
theorem fj_nc_go {c z pc : Nat} {ls st : List Value} {M : fj_HM} {P : fj_HP} : fj_nc (fj_go pc ls st M P c z) := fun v h => by cases h
theorem fj_nc_if {q : Prop} {a : fj_R} (h : fj_nc a) : fj_nc (fj_if q a none) := fun r hr => h r (fj_if_some hr).2
theorem fj_nc_p1 {st : List Value} {f : Int32 → List Value → fj_R} (h : ∀ x r, fj_nc (f x r)) : fj_nc (fj_p1 st f) := fun q hq => by
  obtain ⟨x, r, -, h2⟩ := fj_p1_some hq
  exact h x r q h2
theorem fj_nc_p2 {st : List Value} {f : Int32 → Int32 → List Value → fj_R} (h : ∀ x y r, fj_nc (f x y r)) : fj_nc (fj_p2 st f) := fun q hq => by
  obtain ⟨x, y, r, -, h2⟩ := fj_p2_some hq
  exact h x y r q h2
theorem fj_nc_q2 {st : List Value} {f : Int64 → Int64 → List Value → fj_R} (h : ∀ x y r, fj_nc (f x y r)) : fj_nc (fj_q2 st f) := fun q hq => by
  obtain ⟨x, y, r, -, h2⟩ := fj_q2_some hq
  exact h x y r q h2
theorem fj_nc_ild {ls : List Value} {a : Nat} {f : Int32 → fj_R} (h : ∀ x, fj_nc (f x)) : fj_nc (fj_ild ls a f) := fun q hq => by
  obtain ⟨x, -, h2⟩ := fj_ild_some hq
  exact h x q h2
theorem fj_nc_lld {ls : List Value} {a : Nat} {f : Int64 → fj_R} (h : ∀ x, fj_nc (f x)) : fj_nc (fj_lld ls a f) := fun q hq => by
  obtain ⟨x, -, -, h2⟩ := fj_lld_some hq
  exact h x q h2
theorem fj_nc_ald {ls : List Value} {a : Nat} {f : Value → fj_R} (h : ∀ x, fj_nc (f x)) : fj_nc (fj_ald ls a f) := fun q hq => by
  rcases fj_ald_some hq with ⟨x, -, h2⟩ | ⟨x, -, h2⟩
  · exact h _ q h2
  · exact h _ q h2
theorem fj_nc_sw {pc : Nat} {ins : Instr} {x : Int32} {f : Nat → fj_R} (h : ∀ t, fj_nc (f t)) : fj_nc (fj_sw ins pc x f) := fun q hq => by
  unfold fj_sw at hq
  repeat' split at hq
  all_goals first | exact h _ q hq | cases hq
set_option maxHeartbeats 4000000 in
set_option maxRecDepth 100000 in
theorem fj_no_call {y : Nat} {sc : fj_Sc} {ins : Instr} {x : Nat × Nat × Nat × Int × List Nat} {pc : Nat} {ls st : List Value} {M : fj_HM} {P : fj_HP} {c z : Nat} {q : fj_Cl} (h1 : ∀ i, ins ≠ .invokevirtual i) (h2 : ∀ i, ins ≠ .invokestatic i) (h3 : ∀ i, ins ≠ .invokespecial i) : fj_stp y sc (ins, x) pc ls st M P c z ≠ some (.inr (.inl q)) := by
  have key : fj_nc (fj_stp y sc (ins, x) pc ls st M P c z) := by
    cases ins
    all_goals first
      | exact absurd rfl (h1 _)
      | exact absurd rfl (h2 _)
      | exact absurd rfl (h3 _)
      | skip
    all_goals unfold fj_stp
    all_goals dsimp only
    repeat' (first
      | exact fj_nc_none
      | exact fj_nc_re
      | exact fj_nc_go
      | contradiction
      | refine fj_nc_if ?_
      | refine fj_nc_p1 fun x r => ?_
      | refine fj_nc_p2 fun x y r => ?_
      | refine fj_nc_q2 fun x y r => ?_
      | refine fj_nc_ild fun x => ?_
      | refine fj_nc_lld fun x => ?_
      | refine fj_nc_ald fun x => ?_
      | refine fj_nc_sw fun x => ?_
      | split)
  exact key q
/-- what a run of a call gives, whatever its kind -/
theorem fj_called {p : Program} {l : Launch} {e : Env} {R : Room} {s : State} {m : MethodId} {args : Array Value} {below : List Frame} {meth : Method} {cd : Code} {Q : State → Prop} {D : va_G} {cI cZ : ClassId} {A : Nat → Prop} {H0 : Heap} {b : Nat} {ad0 : List Nat} {c0 z0 nL pc : Nat} {ls rest : List Value} {M : fj_HM} {P : fj_HP} {c z : Nat} {v : Option Value} {M' : fj_HM} {P' : fj_HP} {c' z' : Nat}
    {ad : List Nat} {H : Heap} {locs : List Loc} {lsA : Array Slot} {cells slots : Nat} (hcc : cells + c0 = c) (hzz : slots + z0 = z) (had : ad0 <+: ad) (hnl : ls.length = nL) (hW : fj_Wd D cI cZ ad M P c A H0 H locs s) (hLo : fj_Lo b ad ls lsA) (hcm : c ≤ c' ∧ z ≤ z') (hok : c' = c ∨ fj_okl c ls rest) {a : Array Value} {st0 : List Value}
    (hr : va_Run p l e R s m args below meth cd H locs cells slots (c' - c) (z' - z) (F0 m pc lsA st0) (rest.map (fj_xv b ad)) (fj_Qm D cI cZ b ad (va_A (fj_wl cI cZ ad M P) H.size) v M' P' c' a) (va_A (fj_wl cI cZ ad M P) H.size))
    (kk : fj_G p l e R s m args below meth cd Q D cI cZ A H0 b ad0 c0 z0 nL (pc + 3) ls (v.toList ++ rest) M' P' c' z') :
    W p l e R s m args below meth cd H locs cells slots Q (F0 m pc lsA st0) := by
  obtain ⟨hadl, hP, hK, hD, hS, hA, hPc⟩ := hW
  have hF : ∀ q, va_A (fj_wl cI cZ ad M P) H.size q → A q := by
    intro q hq
    rcases hq with ⟨k, x, hk⟩ | hq
    · exact hD.2 k (q, x) hk
    · exact hA q (Nat.le_trans hS.1 hq)
  refine fj_call hr (B := fj_B1 D cI cZ b ad (va_A (fj_wl cI cZ ad M P) H.size) v M' P' c') (fun st v2 t h => ?_) hS (fun q _ h => hF q h) hF (fun v2 t H1 locs1 ht hB hS1 => ?_)
  · obtain ⟨⟨v3, h1, h2⟩, h3⟩ := h
    cases h1
    exact ⟨h2, h3⟩
  · obtain ⟨ad', had', hl', hPc', rfl, hP', hD'⟩ := hB
    rw [ht] at hP'
    have key : fj_Lo b ad' ls lsA ∧ rest.map (fj_xv b ad') = rest.map (fj_xv b ad) := by
      rcases hok with h | h
      · have e1 := fj_pfx_eq had' (by rw [hl', hadl, h])
        rw [e1]
        exact ⟨hLo, rfl⟩
      · obtain ⟨t2, rfl⟩ := had'
        exact ⟨fj_Lo_ext (by rw [hadl]; exact h.1) hLo, fj_map_ext (by rw [hadl]; exact h.2)⟩
    have K1 := kk ad' H1 locs1 lsA (cells + (c' - c)) (slots + (z' - z)) (by omega) (by omega) (had.trans had') hnl ⟨hl', hP', hK, hD'.weaken (fun k q _ h => hF q.1 h), hS1, hA, hPc'⟩ key.1
    rw [List.map_append, key.2] at K1
    have e2 : (v.map (fj_xv b ad')).toList = v.toList.map (fj_xv b ad') := by cases v <;> rfl
    rw [e2]
    exact K1
theorem fj_blind {D : va_G} {cI cZ : ClassId} {ad : List Nat} {M : fj_HM} {P : fj_HP} {sz : Nat} {av : List Value} : FrameBlind (va_Pc av (fj_B0 D cI cZ ad M P sz)) := fun a U g mk q => by
  obtain ⟨q0, q1, qP, qK, qD, qN⟩ := q
  exact ⟨q0, q1, qP, va_K.moved (u := U) (U := U.calling g mk a) (Vm.Alike.refl U.vm) qK, qD, fj_N_same (s := U) rfl qN⟩
theorem fj_enters {D : va_G} {cI cZ : ClassId} {ad : List Nat} {M : fj_HM} {P : fj_HP} {c : Nat} {A : Nat → Prop} {H0 H : Heap} {locs : List Loc} {s : State} (hW : fj_Wd D cI cZ ad M P c A H0 H locs s) (hN : ∀ w ∈ fj_N, va_Nw w s) (av : List Value) : ∀ U : State, U.heap = H → s.WarmedH U.vm → va_Pc av (fj_B0 D cI cZ ad M P H.size) av.toArray U := by
  intro U hU hw
  obtain ⟨hadl, hP, hK, hD, hS, hA, hPc⟩ := hW
  exact ⟨rfl, by rw [hU], by rw [hU]; exact hP, va_K.moved hw.alike hK, hD.weaken (fun _ _ _ _ => trivial), fj_N_warm hw hN⟩
set_option maxHeartbeats 4000000 in
set_option maxRecDepth 100000 in
theorem fj_snd : ∀ n, fj_Snd n := by
  intro n
  induction n with
  | zero => intro y sc pc ls st M P c z v M' P' c' z' h; cases h
  | succ n ih =>
    intro y sc pc ls st M P c z v M' P' c' z' h p l e R s m args below meth cd Q D cI cZ A H0 b ad0 c0 z0 hcx hX hcR hzR hfin
    unfold fj_run at h
    split at h
    · cases h
    · rename_i ai hai
      split at h
      · cases h
      · rename_i q hq
        have h1 := fj_stp_mo y sc ai pc ls st M P c z q hq
        have h2 := fj_run_mo n h
        simp only at h2
        exact fj_step hcx hX rfl hai hq (by omega) (by omega) (by omega) (by omega) (ih y sc q.1 q.2.1 q.2.2.1 q.2.2.2.1 q.2.2.2.2.1 q.2.2.2.2.2.1 q.2.2.2.2.2.2 v M' P' c' z' h p l e R s m args below meth cd Q D cI cZ A H0 b ad0 c0 z0 hcx hX hcR hzR hfin)
      · rename_i q hq
        split at h
        · cases h
        · rename_i r hr
          obtain ⟨v1, M1, P1, c1, z1⟩ := r
          obtain ⟨hokl, h⟩ := fj_if_some h
          simp only at hokl h
          have m1 := fj_run_mo n hr
          have m2 := fj_run_mo n h
          simp only at m1 m2
          have kk := ih y sc (pc + 3) ls (v1.toList ++ q.2.2) M1 P1 c1 z1 v M' P' c' z' h p l e R s m args below meth cd Q D cI cZ A H0 b ad0 c0 z0 hcx hX hcR hzR hfin
          intro ad H locs lsA cells slots hcc hzz had hnl hW hLo
          have hW0 := hW
          obtain ⟨hadl, hP, hK, hD, hS, hA, hPc⟩ := hW
          have hsz : lsA.size = fj_ml y := by obtain ⟨l, h1, -⟩ := hLo; rw [h1.1, hnl]
          have cat4 : ∀ r : List Value, r.length ≤ 4 → ((r.map (fj_xv b ad)).map fun v => v.category).sum ≤ 8 := fun r hr => by
            have := fj_cats (r.map (fj_xv b ad))
            rw [List.length_map] at this
            omega
          obtain ⟨hx, hb, hml, hown, hts, hini, hfr, hlo, hN⟩ := hcx
          have ok := fj_okI_of hai
          obtain ⟨ins, len, a, bb, k, ixs⟩ := ai
          have callee : fj_okC y a bb = true → a < 164 ∧ ((parseMethodDescriptor (fj_yn a).desc).map (fun d => d.parameters.length) = some bb) ∧ (fj_fr a + 1 ≤ R.frames ∧ 8 + (fj_ml a + 11) + fj_lo a ≤ R.locals) ∧ (fj_yn a).cls ≠ "java/lang/invoke/MethodHandle" ∧ (fj_yn a).cls ≠ "java/lang/invoke/VarHandle" := by
            intro h
            simp only [fj_okC, Bool.and_eq_true, decide_eq_true_eq] at h
            obtain ⟨h1, h2, h3, h4⟩ := h
            have hY := fj_okY_of h1
            simp only [fj_okY, Bool.and_eq_true, decide_eq_true_eq] at hY
            exact ⟨h1, h2, ⟨by omega, by omega⟩, hY.2.2.2.1, hY.2.2.2.2⟩
          have goodY : a < 164 → ∀ w ∈ (Cond.code (fj_yn a) (fj_bc a) (fj_ml a) (fj_rt a) :: fj_T), w ∈ fj_T ∧ ((w.onTables && w.keeps) = true ∨ ∃ ty, w = .arrayClass ty) := fun ha w hw => by
            rcases List.mem_cons.mp hw with rfl | hw
            · exact fj_good (fj_code_in ha)
            · exact fj_good hw
          by_cases e1 : ∃ i, ins = .invokevirtual i
          · obtain ⟨i, rfl⟩ := e1
            simp only [fj_okI, Bool.and_eq_true, decide_eq_true_eq, beq_iff_eq] at ok
            obtain ⟨hdg, rfl, hC, w0, w1, w2, w3, hci⟩ := ok
            dsimp only [fj_stp] at hq
            obtain ⟨⟨hb1, hb2, ⟨v0, hv0, hrc⟩, hnd⟩, hq⟩ := fj_if_some hq
            cases hq
            obtain ⟨ha, hpar, hroom, hne1, hne2⟩ := callee hC
            have hM := fj_met_of ih hr ha hnd l D cI cZ b ad H.size hadl hPc
            obtain ⟨t1, t2⟩ := fj_take_at hv0
            cases v0 with
            | ref o =>
              have hob : fj_ob c o (fj_ci a) := hrc
              rw [t1] at hM
              cases hcl : fj_cl[fj_ci a]? with
              | none => rw [hcl] at hci; exact absurd hci (by simp)
              | some qc =>
                rw [hcl] at hci
                have hcn : qc.1 = (fj_yn a).cls := Option.some.inj hci
                have run := va_runV (C := (fj_yn a).cls) (b := ad.getD o 0) (As := ((st.take bb).reverse).map (fj_xv b ad)) (rest := (st.drop (bb + 1)).map (fj_xv b ad)) (g := F0 m pc lsA (st.map (fj_xv b ad))) (locs := locs) (cells := cells) (slots := slots) (p := p) (e := e) (R := R) (s := s) (m := m) (args := args) (below := below) (meth := meth) (c := cd) (H := H) ⟨hx, hb, hml, hown, hts⟩ hM
                  (cwV bb hts (fun w hw => by
                    unfold wsV at hw
                    rcases List.mem_append.mp hw with hw | hw
                    · simp only [List.mem_cons, List.not_mem_nil, or_false] at hw
                      rcases hw with rfl | rfl | rfl | rfl
                      · exact fj_good (fj_wd_ok w0)
                      · exact fj_good (fj_wd_ok w1)
                      · exact fj_good (fj_wd_ok w2)
                      · exact fj_good (fj_wd_ok w3)
                    · exact goodY ha w hw) rfl rfl rfl ⟨rfl, hne1, hne2, hpar⟩ hroom)
                  ⟨fj_blind, by rw [← hcn]; exact va_recv hK hP hcl (q0 := o) (by rw [fj_wl_get (by rw [hadl]; exact hob.1), fj_xc_obj hob.2]), fj_enters hW0 hN _⟩
                  rfl (by rw [List.length_map, List.length_reverse, List.length_take]; omega) hsz (by
                    show st.map (fj_xv b ad) = _
                    conv => lhs; rw [t2]
                    simp [fj_xv]) (by
                    have := cat4 (st.drop (bb + 1)) (by rw [List.length_drop]; omega)
                    show 2 * 0 + _ ≤ 8
                    omega) hdg ⟨by show cells + (c1 - c) ≤ R.cells; omega, by show slots + (z1 - z) ≤ R.slots; omega⟩
                exact fj_called hcc hzz had hnl hW0 hLo m1 hokl run kk
            | _ => exact absurd hrc (fun h => h)
          · by_cases e2 : ∃ i, ins = .invokestatic i
            · obtain ⟨i, rfl⟩ := e2
              simp only [fj_okI, Bool.and_eq_true, decide_eq_true_eq, beq_iff_eq] at ok
              obtain ⟨hdg, rfl, hok⟩ := ok
              dsimp only [fj_stp] at hq
              by_cases h997 : a = 997
              · rw [if_pos h997] at hq
                obtain ⟨x, r, -, hq⟩ := fj_p1_some hq
                try dsimp only at hq
                split at hq <;> cases hq
              · rw [if_neg h997] at hq hok
                by_cases h996 : a = 996
                · rw [if_pos h996] at hq
                  obtain ⟨x, y2, r, -, hq⟩ := fj_p2_some hq
                  try dsimp only at hq
                  split at hq <;> cases hq
                · rw [if_neg h996] at hq hok
                  by_cases h998 : a = 998
                  · rw [if_pos h998] at hq
                    split at hq
                    · obtain ⟨-, hq⟩ := fj_if_some hq
                      cases hq
                    · cases hq
                  · rw [if_neg h998] at hq hok
                    simp only [Bool.and_eq_true] at hok
                    obtain ⟨hC, w0, w1, w2⟩ := hok
                    obtain ⟨⟨hb1, hb2, hnd⟩, hq⟩ := fj_if_some hq
                    cases hq
                    obtain ⟨ha, hpar, hroom, hne1, hne2⟩ := callee hC
                    have hM := fj_met_of ih hr ha hnd l D cI cZ b ad H.size hadl hPc
                    have run := va_runS (As := ((st.take bb).reverse).map (fj_xv b ad)) (rest := (st.drop bb).map (fj_xv b ad)) (g := F0 m pc lsA (st.map (fj_xv b ad))) (locs := locs) (cells := cells) (slots := slots) (p := p) (e := e) (R := R) (s := s) (m := m) (args := args) (below := below) (meth := meth) (c := cd) (H := H) ⟨hx, hb, hml, hown, hts⟩ hM
                      (va_cwS bb hts (fun w hw => by
                        unfold va_wsS at hw
                        rcases List.mem_append.mp hw with hw | hw
                        · simp only [List.mem_cons, List.not_mem_nil, or_false] at hw
                          rcases hw with rfl | rfl | rfl
                          · exact fj_good (fj_wd_ok w0)
                          · exact fj_good (fj_wd_ok w1)
                          · exact fj_good (fj_wd_ok w2)
                        · exact goodY ha w hw) rfl rfl rfl ⟨hne1, hne2, hpar⟩ hroom)
                      ⟨fj_blind, fj_enters hW0 hN _⟩
                      rfl (by rw [List.length_map, List.length_reverse, List.length_take]; omega) hsz (by
                        show st.map (fj_xv b ad) = _
                        conv => lhs; rw [← List.take_append_drop bb st]
                        simp) (by
                        have := cat4 (st.drop bb) (by rw [List.length_drop]; omega)
                        show 2 * 0 + _ ≤ 8
                        omega) hdg ⟨by show cells + (c1 - c) ≤ R.cells; omega, by show slots + (z1 - z) ≤ R.slots; omega⟩
                    exact fj_called hcc hzz had hnl hW0 hLo m1 hokl run kk
            · by_cases e3 : ∃ i, ins = .invokespecial i
              · obtain ⟨i, rfl⟩ := e3
                simp only [fj_okI, Bool.and_eq_true, decide_eq_true_eq, beq_iff_eq] at ok
                obtain ⟨hdg, rfl, hok⟩ := ok
                dsimp only [fj_stp] at hq
                by_cases h999 : a = 999
                · rw [if_pos h999] at hq
                  split at hq
                  · split at hq <;> cases hq
                  · cases hq
                · rw [if_neg h999] at hq hok
                  simp only [Bool.and_eq_true, decide_eq_true_eq] at hok
                  obtain ⟨hC, w0, w1, w2, hinit, hrt⟩ := hok
                  obtain ⟨⟨hb1, hb2, ⟨o, hv0⟩, hnd⟩, hq⟩ := fj_if_some hq
                  cases hq
                  obtain ⟨ha, hpar, hroom, hne1, hne2⟩ := callee hC
                  have hM := fj_met_of ih hr ha hnd l D cI cZ b ad H.size hadl hPc
                  obtain ⟨t1, t2⟩ := fj_take_at hv0
                  rw [t1] at hM
                  unfold fj_Met at hM
                  rw [hrt] at hM
                  have goodY2 : ∀ w ∈ (Cond.code (fj_yn a) (fj_bc a) (fj_ml a) none :: fj_T), w ∈ fj_T ∧ ((w.onTables && w.keeps) = true ∨ ∃ ty, w = .arrayClass ty) := by rw [← hrt]; exact goodY ha
                  have run : va_Run p l e R s m args below meth cd H locs cells slots (c1 - c) (z1 - z) (F0 m pc lsA (st.map (fj_xv b ad))) ((st.drop (bb + 1)).map (fj_xv b ad)) (fj_Qm D cI cZ b ad (va_A (fj_wl cI cZ ad M P) H.size) v1 M1 P1 c1 (Value.ref (ad.getD o 0) :: ((st.take bb).reverse).map (fj_xv b ad)).toArray) (va_A (fj_wl cI cZ ad M P) H.size) := by
                    by_cases hk : k = 1
                    · rw [if_pos hk] at w0
                      have hl9 := hN _ (List.mem_of_getElem? (of_decide_eq_true w0))
                      exact va_runIN (host := "FortyJars") (b := ad.getD o 0) (As := ((st.take bb).reverse).map (fj_xv b ad)) (rest := (st.drop (bb + 1)).map (fj_xv b ad)) (g := F0 m pc lsA (st.map (fj_xv b ad))) (locs := locs) (cells := cells) (slots := slots) (p := p) (e := e) (R := R) (s := s) (m := m) (args := args) (below := below) (meth := meth) (c := cd) (H := H) ⟨hx, hb, hml, hown, hts⟩ hM
                        ⟨va_cnB bb hts goodY2 rfl rfl rfl hl9 (hts _ (fj_wd_ok w2)) ⟨hne1, hne2, hpar⟩ hroom, hinit, hts _ (fj_wd_ok w1)⟩
                        ⟨fj_blind, fj_enters hW0 hN _⟩
                        rfl (by rw [List.length_map, List.length_reverse, List.length_take]; omega) hsz (by
                          show st.map (fj_xv b ad) = _
                          conv => lhs; rw [t2]
                          simp [fj_xv]) (by
                          have := cat4 (st.drop (bb + 1)) (by rw [List.length_drop]; omega)
                          show 2 * 0 + _ ≤ 8
                          omega) hdg ⟨by show cells + (c1 - c) ≤ R.cells; omega, by show slots + (z1 - z) ≤ R.slots; omega⟩
                    · rw [if_neg hk] at w0
                      exact va_runI (b := ad.getD o 0) (As := ((st.take bb).reverse).map (fj_xv b ad)) (rest := (st.drop (bb + 1)).map (fj_xv b ad)) (g := F0 m pc lsA (st.map (fj_xv b ad))) (locs := locs) (cells := cells) (slots := slots) (p := p) (e := e) (R := R) (s := s) (m := m) (args := args) (below := below) (meth := meth) (c := cd) (H := H) ⟨hx, hb, hml, hown, hts⟩ hM
                        (cwI bb hts goodY2 rfl rfl rfl (hts _ (fj_wd_ok w2)) (hts _ (fj_wd_ok w0)) (hts _ (fj_wd_ok w1)) hinit ⟨hne1, hne2, hpar⟩ hroom)
                        ⟨fj_blind, fj_enters hW0 hN _⟩
                        rfl (by rw [List.length_map, List.length_reverse, List.length_take]; omega) hsz (by
                          show st.map (fj_xv b ad) = _
                          conv => lhs; rw [t2]
                          simp [fj_xv]) (by
                          have := cat4 (st.drop (bb + 1)) (by rw [List.length_drop]; omega)
                          show 2 * 0 + _ ≤ 8
                          omega) hdg ⟨by show cells + (c1 - c) ≤ R.cells; omega, by show slots + (z1 - z) ≤ R.slots; omega⟩
                  exact fj_called hcc hzz had hnl hW0 hLo m1 hokl run kk
              · exact absurd hq (fj_no_call (fun i h => e1 ⟨i, h⟩) (fun i h => e2 ⟨i, h⟩) (fun i h => e3 ⟨i, h⟩))
      · rename_i v0 hv0
        cases h
        exact hfin pc ls st ai hai hv0
end
section
/-! THE CLAIM OUT OF ONE WALK OF THE LAW'S BODY. Your part is whole_start (and what it stands on); all else here is the same for every law, but numbers. -/
def R_law : String := "FortyJarsLaw"
def lw_P (b : Addr) (xs : List Int32) (args : Array Value) (s : State) : Prop := args = #[.ref b] ∧ s.IntsAt b xs ∧ xs.length ≤ 3072 ∧ (Jvm.Cond.and given_1 narrow_1).before args s = true
def lw_Q (_ : Array Value) (s : State) (o : Outcome) (t : State) : Prop := o = .returned (some (.int 1)) ∧ Framed s o t [] 53 7835
def lw_Z (below : List Frame) (a : Array Value) (s : State) : State → Prop := fun t => ∃ o, t.status = .running ∧ Ended t below o ∧ lw_Q a s o t
/-- the law's own end, with 1 on the stack, nothing written that was there before, its room as the claim has it -/
theorem lw_ret {p : Program} {l : Launch} {e : Env} {s : State} {m : MethodId} {below : List Frame} {meth : Method} {c : Code} {b : Nat} (hx : p.tables.exec = Jvm.exec) (hb : c.code = code) (hr : meth.sig.returnType = ret) (hlocks : meth.locks = false) {pc : Nat} {H : Heap} {ls : Array Slot} (hdg : decode code pc = .ok (.ireturn, 1)) : W p l e room_1 s m #[Value.ref b] below meth c H [] 53 7835 (lw_Z below #[Value.ref b] s) (F0 m pc ls [.int 1]) := by
  intro T hT X
  obtain ⟨fs, hret, hrun, hended, hW, hframe⟩ := X.leave (v := some (.int 1)) (hlocks := hlocks) (fun h => by rw [hr] at h; cases h)
  have hmeth' : T.vm.method? m = some meth := X.method'
  refine ⟨T.setFrames fs, ?_, .returned (some (.int 1)), hrun, hended, rfl, ⟨_, rfl⟩, hW, hframe⟩
  jvm_step X.here [X.here.top, hx, hb, hdg, hmeth', hr, ret, narrow_b1]
  (try refine ⟨rfl, ?_⟩); (try refine ⟨rfl, ?_⟩)
  first | (intro acts; rw [hret _ acts rfl rfl rfl]) | rw [hret _ _ rfl rfl rfl]
  exact Steps.refl _
/-- what holds at the law's entry: the machine, the code, the tables' words (any of lw_tbl by 'hts w (by decide +kernel)'), the script of L ints xs at the cell b, what the Statement gives of the start (any of its parts by flat_of_before) -/
def lw_At (p : Program) (s : State) (m : MethodId) (meth : Method) (c : Code) (b L : Nat) (xs : Nat → Int32) : Prop :=
  p.tables.exec = Jvm.exec ∧ c.code = code ∧ meth.sig.returnType = ret ∧ c.maxLocals = 4 ∧ s.vm.findClass R_law = some m.cls ∧ (∀ w ∈ lw_tbl, w.before #[Value.ref b] s = true) ∧ va_X b L xs s s.heap ∧ b < s.heap.size ∧ meth.locks = false ∧ (Jvm.Cond.and given_1 narrow_1).before #[Value.ref b] s = true
theorem fj_inst0 : Cond.instantiable RX0 3 ∈ fj_T := fj_wd_ok (i := 146) (by decide +kernel)
theorem fj_inst1 : Cond.instantiable RX1 4 ∈ fj_T := fj_wd_ok (i := 90) (by decide +kernel)
theorem fj_inst2 : Cond.instantiable RX2 3 ∈ fj_T := fj_wd_ok (i := 165) (by decide +kernel)
theorem fj_inst3 : Cond.instantiable RX3 3 ∈ fj_T := fj_wd_ok (i := 73) (by decide +kernel)
theorem fj_inst4 : Cond.instantiable RX4 7 ∈ fj_T := fj_wd_ok (i := 111) (by decide +kernel)
theorem fj_inst5 : Cond.instantiable RX5 13 ∈ fj_T := fj_wd_ok (i := 181) (by decide +kernel)
theorem fj_inst6 : Cond.instantiable RX6 10 ∈ fj_T := fj_wd_ok (i := 65) (by decide +kernel)
theorem fj_inst7 : Cond.instantiable RX7 41 ∈ fj_T := fj_wd_ok (i := 663) (by decide +kernel)
/-! ===== the law from its entry, out of its run on the abstract machine ===== -/
/-- what the abstract run of the law must be -/
def fj_lawOk (L : Nat) (xs : Nat → Int32) : Prop := ∃ (n : Nat) (M' : fj_HM) (P' : fj_HP), fj_run n (some (L, xs)) 164 0 [.float 0, .null, .null, .null] [] (fun _ _ => 0) (fun _ _ => 0) 0 0 = some (some (.int 1), M', P', 53, 7835)
theorem fj_arr {args : Array Value} {s : State} {ty : FieldType} (h : (Cond.arrayClass ty).before args s = true) : ∃ cA, ArrOfT s cA ty ∧ s.vm.findClass ("[" ++ ty.toString) = some cA := by
  obtain ⟨cA, kA, comp, hfind, hk, hkind⟩ := Cond.arrayClass_spec h
  exact ⟨cA, fun n z => ⟨fun k h => (by cases h), kA, hk, comp, hkind⟩, hfind⟩
set_option maxHeartbeats 4000000 in
set_option maxRecDepth 100000 in
theorem fj_start {p : Program} {e : Env} {s : State} {m : MethodId} {below : List Frame} {meth : Method} {c : Code} (l : Launch) {b L : Nat} {xs : Nat → Int32} (hrun : fj_lawOk L xs) (C0 : lw_At p s m meth c b L xs) : W p l e room_1 s m #[Value.ref b] below meth c s.heap [] 0 0 (lw_Z below #[Value.ref b] s) (entryFrame m ([Value.ref b] : List Value).toArray 4) := by
  obtain ⟨n, M', P', hrun⟩ := hrun
  obtain ⟨hx, hb, hr, hml, hown, hts, hX, hbl, hlocks, hgv⟩ := id C0
  have htsT : ∀ w ∈ fj_T, w.before #[Value.ref b] s = true := fun w hw => hts w (List.mem_filter.mp hw).1
  obtain ⟨cI, hI1, hI2⟩ := fj_arr (htsT (.arrayClass .int) (fj_wd_ok (i := fj_ap.getD 0 0) (by decide +kernel)))
  obtain ⟨cZ, hZ1, hZ2⟩ := fj_arr (htsT (.arrayClass .boolean) (fj_wd_ok (i := fj_ap.getD 1 0) (by decide +kernel)))
  have hkn : ∀ ci : Nat, ∃ (dC : ClassId) (dI : Nat → Nat), ∀ q : vw_C, fj_cl[ci]? = some q → u_Kn s q.1 q.2.1 q.2.2 dC dI := by
    intro ci
    cases hq : fj_cl[ci]? with
    | none => exact ⟨0, fun _ => 0, fun q h => by cases h⟩
    | some q =>
      obtain ⟨h1, h2, h3⟩ := fj_cls hq
      have hinst : Cond.instantiable q.1 q.2.2 ∈ fj_T := by
        match ci, hq with
        | 0, hq => cases hq; exact fj_inst0
        | 1, hq => cases hq; exact fj_inst1
        | 2, hq => cases hq; exact fj_inst2
        | 3, hq => cases hq; exact fj_inst3
        | 4, hq => cases hq; exact fj_inst4
        | 5, hq => cases hq; exact fj_inst5
        | 6, hq => cases hq; exact fj_inst6
        | 7, hq => cases hq; exact fj_inst7
        | n + 8, hq => exact absurd hq (by simp [fj_cl])
      obtain ⟨dC, dI, hk⟩ := u_known (n := q.2.2) htsT h2 (htsT _ hinst)
      exact ⟨dC, dI, fun q' h => by cases h; exact hk⟩
  let D : va_G := (fun ci => Classical.choose (hkn ci), fun ci => Classical.choose (Classical.choose_spec (hkn ci)))
  have hK : va_K D fj_cl [(cI, .int), (cZ, .boolean)] s := by
    refine ⟨fun ci q hq => Classical.choose_spec (Classical.choose_spec (hkn ci)) q hq, fun k q hq => ?_⟩
    match k, hq with
    | 0, hq => cases hq; exact ⟨hI1, hI2⟩
    | 1, hq => cases hq; exact ⟨hZ1, hZ2⟩
    | k + 2, hq => simp at hq
  have hN : ∀ w ∈ fj_N, va_Nw w s := by
    intro w hw
    have key : (fj_N.zip fj_np).all (fun q => decide (lw_tbl[q.2]? = some q.1)) = true := by decide +kernel
    obtain ⟨i, hi⟩ := List.getElem?_of_mem hw
    have hl : i < fj_N.length := (List.getElem?_eq_some_iff.mp hi).1
    have hl2 : fj_N.length = fj_np.length := rfl
    have hz : (fj_N.zip fj_np)[i]? = some (w, fj_np[i]'(by omega)) := by
      rw [List.getElem?_zip_eq_some]
      exact ⟨hi, List.getElem?_eq_getElem (by omega)⟩
    have hm : w ∈ lw_tbl := List.mem_of_getElem? (of_decide_eq_true (List.all_eq_true.mp key _ (List.mem_of_getElem? hz)))
    have h1 := hts w hm
    unfold fj_N at hw
    simp only [List.mem_cons, List.not_mem_nil, or_false] at hw
    rcases hw with rfl | rfl | rfl | rfl | rfl | rfl <;> exact va_Nw.of rfl h1
  have hbA : ¬ s.heap.size ≤ b := Nat.not_le.mpr hbl
  have hl := lv_entry ([.ref b]) (n := 4) (Nat.le_of_ble_eq_true rfl)
  rw [lg_entry_eq]
  refine fj_snd n 164 (some (L, xs)) 0 [.float 0, .null, .null, .null] [] _ _ 0 0 _ M' P' 53 7835 hrun p l e room_1 s m #[Value.ref b] below meth c _ D cI cZ (fun q => s.heap.size ≤ q) s.heap b [] 0 0 ⟨hx, hb, hml, hown, htsT, fun h => absurd h (by decide), by decide, by decide, hN⟩ ⟨hX, hbl, hbA⟩ (by decide) (by decide) ?_ [] s.heap [] _ 0 0 rfl rfl (List.prefix_refl _) rfl ⟨rfl, fun k q h => by simp [fj_wl] at h, hK, ⟨fun i j p q h => by simp [fj_wl] at h, fun k q h => by simp [fj_wl] at h⟩, va_S.rf, fun _ h => h, fun _ _ => Nat.zero_le _⟩ ⟨_, hl, fun i v hv => ?_⟩
  · intro pcR lsR stR ai hai hst ad' H locs lsA cells slots hcc hzz had hnl hW hLo
    obtain ⟨hadl', hP', hK', hD', hS', hA', hPc'⟩ := hW
    have ok := fj_okI_of hai
    obtain ⟨ins, len, a, bb, k, ixs⟩ := ai
    by_cases e1 : ins = .ireturn
    · subst e1
      simp only [fj_okI, Bool.and_eq_true, decide_eq_true_eq, beq_iff_eq, Bool.or_eq_true] at ok
      obtain ⟨hdg, rfl, hrt⟩ := ok
      dsimp only [fj_stp] at hst
      split at hst
      · rename_i x
        have hx1 : x = 1 := by
          split at hst
          · have := (fj_if_some hst).2
            cases this
            rfl
          · cases hst
            rfl
        subst hx1
        refine va_forget hS'.2.2 (W.widen (k := 53) (n := 7835) (by omega) (by omega) ?_)
        exact lw_ret hx hb hr hlocks hdg
      · cases hst
    · by_cases e2 : ins = .lreturn
      · subst e2
        simp only [fj_okI, Bool.and_eq_true, decide_eq_true_eq, beq_iff_eq] at ok
        exact absurd ok.2.2 (by decide)
      · by_cases e3 : ins = .return_
        · subst e3
          simp only [fj_okI, Bool.and_eq_true, decide_eq_true_eq, beq_iff_eq] at ok
          exact absurd ok.2.2 (by decide)
        · exact absurd hst (fj_no_ret e1 e2 e3)
  · match i, hv with
    | 0, hv => simp [fj_lv] at hv; subst hv; exact List.mem_cons_self
    | 1, hv => simp [fj_lv] at hv
    | 2, hv => simp [fj_lv] at hv
    | 3, hv => simp [fj_lv] at hv
    | i + 4, hv => simp [fj_lv] at hv
end
section
theorem fj_law_all (L : Nat) (xs : Nat → Int32) (hL : L ≤ 3072) : fj_lawOk L xs := sorry
/-- THE LAW, from its entry -/
theorem whole_start {p : Program} {e : Env} {s : State} {m : MethodId} {below : List Frame} {meth : Method} {c : Code} (l : Launch) (hflags : l.flags = flags0) {b L : Nat} {xs : Nat → Int32} (hL : L ≤ 3072) (C0 : lw_At p s m meth c b L xs) : W p l e room_1 s m #[Value.ref b] below meth c s.heap [] 0 0 (lw_Z below #[Value.ref b] s) (entryFrame m ([Value.ref b] : List Value).toArray 4) := fj_start l (fj_law_all L xs hL) C0
set_option maxHeartbeats 4000000 in
theorem lw_walk (l : Launch) (hflags : l.flags = flags0) (b : Addr) (xs : List Int32) : MetFree l x (headSpec (Jvm.Cond.code x code maxLocals ret :: tables_1) room_1) (lw_P b xs) (fun _ _ _ _ _ => True) lw_Q := by
  refine MetFree.of_bodyS (code := code) (maxLocals := maxLocals) (ret := ret) (by decide) ?_ ?_
  · intro args s m h hn
    obtain ⟨meth, c, h1, h2, h3, h4, h5, h6, -, -⟩ := Cond.code_spec hn (atoms_spec (ws := Jvm.Cond.code x code maxLocals ret :: tables_1) h _ List.mem_cons_self)
    exact ⟨meth, c, h1, h2, h3, h4, h5, h6⟩
  · intro p e s m args below meth c s₁ B hml0 hP _
    obtain ⟨rfl, hx, hbd, hgv⟩ := hP
    obtain ⟨scr, harrAt, hlist, hof, hsmall⟩ := hx
    obtain ⟨hcb, hkn, -, -⟩ := State.arrayAt?_spec harrAt
    have hown : s.vm.findClass R_law = some m.cls := findClass_of_methodNamed B.named
    have hts0 : ∀ c ∈ (Jvm.Cond.code x code maxLocals ret :: tables_1), c.before #[Value.ref b] s = true := atoms_spec (ws := Jvm.Cond.code x code maxLocals ret :: tables_1) B.pre
    have hts : ∀ w ∈ lw_tbl, w.before #[Value.ref b] s = true := k2_hts_sels lw_privs (fun w hw => hts0 w (List.mem_cons_of_mem _ hw)) lw_privs_ok
    have hml : c.maxLocals = 4 := B.maxLocals_eq (hts0 _ List.mem_cons_self)
    have X₀ : Stand p l e room_1 s m #[Value.ref b] below meth c s₁ [] 0 0 := Stand.of_body B
    have hh0 : s₁.heap = s.heap := by rw [B.state]; rfl
    have hsz : scr.slots.size = xs.length := by rw [← Array.length_toList, hlist, List.length_map]
    have hval : ∀ j : Nat, j < xs.length → scr.slots[j]? = some (.int (xs.getD j 0)) := fun j hj => by
      rw [← Array.getElem?_toList, hlist]
      simp [hj]
    have hbl : b < s.heap.size := (Array.getElem?_eq_some_iff.mp hcb).1
    have hX : va_X b xs.length (fun j => xs.getD j 0) s s.heap := ⟨scr, hcb, hof, hkn, hsz, hval⟩
    have K : W p l e room_1 s m #[Value.ref b] below meth c s₁.heap [] 0 0 (lw_Z below #[Value.ref b] s) (entryFrame m ([Value.ref b] : List Value).toArray 4) := by
      rw [hh0]
      exact whole_start l hflags hbd ⟨B.exec, B.bytes, B.returns, hml, hown, hts, hX, hbl, B.notSynchronized, hgv⟩
    obtain ⟨t, a1, o, b1, b2, b3⟩ := K s₁ rfl X₀
    exact ⟨t, o, a1, b1, b2, b3⟩
theorem lw_pre_spec {args : Array Value} {s : State} (h : (Jvm.Cond.and given_1 narrow_1).before args s = true) (hr : rest_1_c.before args s = true) : ∃ (b : Addr) (xs : List Int32), lw_P b xs args s := by
  have hs := flat_of_before _ h
  have hq := flat_of_before _ hr
  have hc : (Cond.count 1).before args s = true := hs _ (by decide +kernel)
  have harr : (Cond.arrayOf (.arg 0) .int).before args s = true := hs _ (by decide +kernel)
  have hle : (Cond.le (.length (.arg 0)) (.int 3072)).before args s = true := hs _ (by decide +kernel)
  have hlen : (Cond.isInt (.length (.arg 0))).before args s = true := hq _ (by decide +kernel)
  have hall : (Cond.all (.arg 0) (.isInt (.elem (.arg 0) (.index 0)))).before args s = true := hq _ (by decide +kernel)
  obtain ⟨b, xs, hb, hx⟩ := State.ints_of_pre rfl harr hlen hall
  have hsm : xs.length < 2 ^ 31 := hx.choose_spec.2.2.2
  have hev : (Term.length (.arg 0)).eval args s none [] s = some (.int xs.length.toInt32) := hx.length_eval hb
  have hv := Cond.le_ints hev (show (Term.int 3072).eval args s none [] s = some (.int 3072) from rfl)
  have hd : xs.length.toInt32 ≤ 3072 := by
    simpa [Cond.before, Cond.holds, hv] using hle
  have hN : xs.length ≤ 3072 := (Int32.ofNat_le_ofNat hsm (by decide)).mp (show Int32.ofNat xs.length ≤ Int32.ofNat 3072 from hd)
  exact ⟨b, xs, Cond.one_arg hc (show args[0]? = some (.ref b) from hb), hx, hN, h⟩
theorem lw_comes (l : Launch) (hflags : l.flags = flags0) : Comes l x (Jvm.Cond.code x code maxLocals ret :: tables_1) room_1 (fun tb e args s => Calls_1 tb e args s ∧ rest_1 tb e args s ∧ Pre_1 tb e args s)
    (fun _ _ args s o t => lw_Q args s o t) := by
  intro p e ha hc hk s m args below hf hfit hheap happ hpre
  obtain ⟨b, xs, hP⟩ := lw_pre_spec hpre.2.2 hpre.2.1
  obtain ⟨k, o, h1, h2, h3, hQ⟩ := lw_walk l hflags b xs p e ha hc hk s m args below hf ((Spec.applies_iff_loose hf).mp happ).1 hP trivial
  exact ⟨k, o, h1, h2, h3, hQ⟩
theorem lw_frame {s t : State} {o : Outcome} {args : Array Value} (h : Framed s o t [] 53 7835) :
    Framed s o t (fieldLocs frame_1_writes args s ++ arrayLocs frame_1_arrays args s ++ staticLocs frame_1_statics s) 53 7835 := h
theorem lw_limb (L : Cond) (hL : ∀ (args : Array Value) (s t : State), L.after args s (.returned (some (.int 1))) t = true) :
    ArmFor flags0 classFile x code maxLocals ret World_1 tables_1 room_1 Calls_1 rest_1 Pre_1
      (fun tb e a s o t => postC L tb e a s o t ∧ Framed s o t (fieldLocs frame_1_writes a s ++ arrayLocs frame_1_arrays a s ++ staticLocs frame_1_statics s) 53 7835) := by
  intro l hflags _ _ p e ha hc hk s m args below hf hfit hheap happ hpre
  obtain ⟨k, o, h1, h2, h3, rfl, hF⟩ := lw_comes l hflags p e ha hc hk s m args below hf hfit hheap happ hpre
  exact ⟨k, _, h1, h2, h3, hL args s _, lw_frame hF⟩
theorem i_vc : Claimed_1_1 ∧ Claimed_1_2 := ⟨lw_limb limb_1_1 (fun args s t => by simp [limb_1_1, Cond.after, Cond.holds, Cond.value]), lw_limb limb_1_2 (fun args s t => Cond.after_iff.mpr (by
  first | (rw [show limb_1_2 = Cond.eq .result (.int 1) from rfl, Cond.eq_ints (x := 1) (y := 1) rfl rfl]; simp; done) | (simp [limb_1_2, Cond.value, Term.eval]; done)))⟩
end
