section
/-- a private method of a class that the tables say can be made, by its rows of tables_1 -/
def lw_okq (q : MethodName × Nat) : Prop := (q.1.cls ≠ "java/lang/invoke/MethodHandle" ∧ q.1.cls ≠ "java/lang/invoke/VarHandle") ∧ Cond.instantiable q.1.cls q.2 ∈ tables_1 ∧ Cond.privateMethod q.1 ∈ tables_1 ∧ Cond.instanceMethod q.1 ∈ tables_1
theorem lw_p0 : lw_okq (⟨"BeadDesk$Way", "startAnew", "(LBeadDesk$Chart;)V"⟩, 19) := ⟨⟨by decide +kernel, by decide +kernel⟩, List.mem_of_getElem? (i := 66) (by decide +kernel), List.mem_of_getElem? (i := 249) (by decide +kernel), List.mem_of_getElem? (i := 250) (by decide +kernel)⟩
theorem lw_p1 : lw_okq (⟨"BeadDesk$Way", "followRow", "(LBeadDesk$Chart;IIZI)V"⟩, 19) := ⟨⟨by decide +kernel, by decide +kernel⟩, List.mem_of_getElem? (i := 66) (by decide +kernel), List.mem_of_getElem? (i := 258) (by decide +kernel), List.mem_of_getElem? (i := 259) (by decide +kernel)⟩
theorem lw_p2 : lw_okq (⟨"BeadDesk$Way", "layOut", "(LBeadDesk$Chart;III)V"⟩, 19) := ⟨⟨by decide +kernel, by decide +kernel⟩, List.mem_of_getElem? (i := 66) (by decide +kernel), List.mem_of_getElem? (i := 263) (by decide +kernel), List.mem_of_getElem? (i := 264) (by decide +kernel)⟩
theorem lw_p3 : lw_okq (⟨"BeadDesk$Chart", "leftCatch", "(II)I"⟩, 8) := ⟨⟨by decide +kernel, by decide +kernel⟩, List.mem_of_getElem? (i := 18) (by decide +kernel), List.mem_of_getElem? (i := 271) (by decide +kernel), List.mem_of_getElem? (i := 272) (by decide +kernel)⟩
theorem lw_p4 : lw_okq (⟨"BeadDesk$Chart", "aroundTheRing", "(I)I"⟩, 8) := ⟨⟨by decide +kernel, by decide +kernel⟩, List.mem_of_getElem? (i := 18) (by decide +kernel), List.mem_of_getElem? (i := 275) (by decide +kernel), List.mem_of_getElem? (i := 276) (by decide +kernel)⟩
theorem lw_p5 : lw_okq (⟨"BeadDesk$Chart", "rightCatch", "(II)I"⟩, 8) := ⟨⟨by decide +kernel, by decide +kernel⟩, List.mem_of_getElem? (i := 18) (by decide +kernel), List.mem_of_getElem? (i := 279) (by decide +kernel), List.mem_of_getElem? (i := 280) (by decide +kernel)⟩
theorem lw_p6 : lw_okq (⟨"BeadDesk$Way", "gatherInFirstRow", "(ZI)V"⟩, 19) := ⟨⟨by decide +kernel, by decide +kernel⟩, List.mem_of_getElem? (i := 66) (by decide +kernel), List.mem_of_getElem? (i := 298) (by decide +kernel), List.mem_of_getElem? (i := 299) (by decide +kernel)⟩
theorem lw_p7 : lw_okq (⟨"BeadDesk$Way", "gatherInLaterRow", "(I)V"⟩, 19) := ⟨⟨by decide +kernel, by decide +kernel⟩, List.mem_of_getElem? (i := 66) (by decide +kernel), List.mem_of_getElem? (i := 310) (by decide +kernel), List.mem_of_getElem? (i := 311) (by decide +kernel)⟩
theorem lw_p8 : lw_okq (⟨"BeadDesk$Way", "doStep", "(LBeadDesk$Chart;Z)V"⟩, 19) := ⟨⟨by decide +kernel, by decide +kernel⟩, List.mem_of_getElem? (i := 66) (by decide +kernel), List.mem_of_getElem? (i := 314) (by decide +kernel), List.mem_of_getElem? (i := 315) (by decide +kernel)⟩
theorem lw_p9 : lw_okq (⟨"BeadDesk$Way", "faultAhead", "(LBeadDesk$Chart;IZ)I"⟩, 19) := ⟨⟨by decide +kernel, by decide +kernel⟩, List.mem_of_getElem? (i := 66) (by decide +kernel), List.mem_of_getElem? (i := 322) (by decide +kernel), List.mem_of_getElem? (i := 323) (by decide +kernel)⟩
theorem lw_p10 : lw_okq (⟨"BeadDesk$Way", "join", "(LBeadDesk$Chart;)Z"⟩, 19) := ⟨⟨by decide +kernel, by decide +kernel⟩, List.mem_of_getElem? (i := 66) (by decide +kernel), List.mem_of_getElem? (i := 330) (by decide +kernel), List.mem_of_getElem? (i := 331) (by decide +kernel)⟩
theorem lw_p11 : lw_okq (⟨"BeadDesk$Way", "weaveThrough", "(LBeadDesk$Chart;[II)I"⟩, 19) := ⟨⟨by decide +kernel, by decide +kernel⟩, List.mem_of_getElem? (i := 66) (by decide +kernel), List.mem_of_getElem? (i := 334) (by decide +kernel), List.mem_of_getElem? (i := 335) (by decide +kernel)⟩
theorem lw_p12 : lw_okq (⟨"BeadDesk$Way", "unweave", "([III)V"⟩, 19) := ⟨⟨by decide +kernel, by decide +kernel⟩, List.mem_of_getElem? (i := 66) (by decide +kernel), List.mem_of_getElem? (i := 338) (by decide +kernel), List.mem_of_getElem? (i := 339) (by decide +kernel)⟩
theorem lw_p13 : lw_okq (⟨"BeadDesk$Step", "passesUpTo", "(I)I"⟩, 2) := ⟨⟨by decide +kernel, by decide +kernel⟩, List.mem_of_getElem? (i := 72) (by decide +kernel), List.mem_of_getElem? (i := 346) (by decide +kernel), List.mem_of_getElem? (i := 347) (by decide +kernel)⟩
theorem lw_p14 : lw_okq (⟨"BeadDesk$Way", "pickUp", "(LBeadDesk$Chart;I)V"⟩, 19) := ⟨⟨by decide +kernel, by decide +kernel⟩, List.mem_of_getElem? (i := 66) (by decide +kernel), List.mem_of_getElem? (i := 350) (by decide +kernel), List.mem_of_getElem? (i := 351) (by decide +kernel)⟩
theorem lw_p15 : lw_okq (⟨"BeadDesk$Mend", "markOnly", "(I)V"⟩, 1) := ⟨⟨by decide +kernel, by decide +kernel⟩, List.mem_of_getElem? (i := 162) (by decide +kernel), List.mem_of_getElem? (i := 390) (by decide +kernel), List.mem_of_getElem? (i := 391) (by decide +kernel)⟩
def lw_privs_1 : List (MethodName × Nat) := [(⟨"BeadDesk$Way", "startAnew", "(LBeadDesk$Chart;)V"⟩, 19), (⟨"BeadDesk$Way", "followRow", "(LBeadDesk$Chart;IIZI)V"⟩, 19), (⟨"BeadDesk$Way", "layOut", "(LBeadDesk$Chart;III)V"⟩, 19), (⟨"BeadDesk$Chart", "leftCatch", "(II)I"⟩, 8), (⟨"BeadDesk$Chart", "aroundTheRing", "(I)I"⟩, 8), (⟨"BeadDesk$Chart", "rightCatch", "(II)I"⟩, 8), (⟨"BeadDesk$Way", "gatherInFirstRow", "(ZI)V"⟩, 19), (⟨"BeadDesk$Way", "gatherInLaterRow", "(I)V"⟩, 19), (⟨"BeadDesk$Way", "doStep", "(LBeadDesk$Chart;Z)V"⟩, 19), (⟨"BeadDesk$Way", "faultAhead", "(LBeadDesk$Chart;IZ)I"⟩, 19), (⟨"BeadDesk$Way", "join", "(LBeadDesk$Chart;)Z"⟩, 19), (⟨"BeadDesk$Way", "weaveThrough", "(LBeadDesk$Chart;[II)I"⟩, 19), (⟨"BeadDesk$Way", "unweave", "([III)V"⟩, 19), (⟨"BeadDesk$Step", "passesUpTo", "(I)I"⟩, 2), (⟨"BeadDesk$Way", "pickUp", "(LBeadDesk$Chart;I)V"⟩, 19), (⟨"BeadDesk$Mend", "markOnly", "(I)V"⟩, 1)]
theorem lw_r1 : ∀ q ∈ lw_privs_1, lw_okq q := List.forall_mem_cons.mpr ⟨lw_p0, List.forall_mem_cons.mpr ⟨lw_p1, List.forall_mem_cons.mpr ⟨lw_p2, List.forall_mem_cons.mpr ⟨lw_p3, List.forall_mem_cons.mpr ⟨lw_p4, List.forall_mem_cons.mpr ⟨lw_p5, List.forall_mem_cons.mpr ⟨lw_p6, List.forall_mem_cons.mpr ⟨lw_p7, List.forall_mem_cons.mpr ⟨lw_p8, List.forall_mem_cons.mpr ⟨lw_p9, List.forall_mem_cons.mpr ⟨lw_p10, List.forall_mem_cons.mpr ⟨lw_p11, List.forall_mem_cons.mpr ⟨lw_p12, List.forall_mem_cons.mpr ⟨lw_p13, List.forall_mem_cons.mpr ⟨lw_p14, List.forall_mem_cons.mpr ⟨lw_p15, fun _ h => absurd h List.not_mem_nil⟩⟩⟩⟩⟩⟩⟩⟩⟩⟩⟩⟩⟩⟩⟩⟩
theorem lw_p16 : lw_okq (⟨"BeadDesk$Mend", "isCaughtOnMarked", "(LBeadDesk$Way;I)Z"⟩, 1) := ⟨⟨by decide +kernel, by decide +kernel⟩, List.mem_of_getElem? (i := 162) (by decide +kernel), List.mem_of_getElem? (i := 395) (by decide +kernel), List.mem_of_getElem? (i := 396) (by decide +kernel)⟩
theorem lw_p17 : lw_okq (⟨"BeadDesk$Mend", "isMarked", "(I)Z"⟩, 1) := ⟨⟨by decide +kernel, by decide +kernel⟩, List.mem_of_getElem? (i := 162) (by decide +kernel), List.mem_of_getElem? (i := 399) (by decide +kernel), List.mem_of_getElem? (i := 400) (by decide +kernel)⟩
theorem lw_p18 : lw_okq (⟨"BeadDesk$Mend", "isBehindMarked", "(LBeadDesk$Way;I)Z"⟩, 1) := ⟨⟨by decide +kernel, by decide +kernel⟩, List.mem_of_getElem? (i := 162) (by decide +kernel), List.mem_of_getElem? (i := 411) (by decide +kernel), List.mem_of_getElem? (i := 412) (by decide +kernel)⟩
theorem lw_p19 : lw_okq (⟨"BeadDesk$Mend", "isWovenInMarked", "(LBeadDesk$Way;I)Z"⟩, 1) := ⟨⟨by decide +kernel, by decide +kernel⟩, List.mem_of_getElem? (i := 162) (by decide +kernel), List.mem_of_getElem? (i := 415) (by decide +kernel), List.mem_of_getElem? (i := 416) (by decide +kernel)⟩
theorem lw_p20 : lw_okq (⟨"BeadDesk", "tellTrial", "()V"⟩, 4) := ⟨⟨by decide +kernel, by decide +kernel⟩, List.mem_of_getElem? (i := 10) (by decide +kernel), List.mem_of_getElem? (i := 440) (by decide +kernel), List.mem_of_getElem? (i := 441) (by decide +kernel)⟩
theorem lw_p21 : lw_okq (⟨"BeadDesk$Chart", "cellsThatHold", "(I)I"⟩, 8) := ⟨⟨by decide +kernel, by decide +kernel⟩, List.mem_of_getElem? (i := 18) (by decide +kernel), List.mem_of_getElem? (i := 452) (by decide +kernel), List.mem_of_getElem? (i := 453) (by decide +kernel)⟩
theorem lw_p22 : lw_okq (⟨"BeadDeskModel", "columns", "()I"⟩, 48) := ⟨⟨by decide +kernel, by decide +kernel⟩, List.mem_of_getElem? (i := 469) (by decide +kernel), List.mem_of_getElem? (i := 628) (by decide +kernel), List.mem_of_getElem? (i := 629) (by decide +kernel)⟩
theorem lw_p23 : lw_okq (⟨"BeadDeskModel", "tries", "(I)V"⟩, 48) := ⟨⟨by decide +kernel, by decide +kernel⟩, List.mem_of_getElem? (i := 469) (by decide +kernel), List.mem_of_getElem? (i := 659) (by decide +kernel), List.mem_of_getElem? (i := 660) (by decide +kernel)⟩
theorem lw_p24 : lw_okq (⟨"BeadDeskModel", "lastColumn", "(IZ)I"⟩, 48) := ⟨⟨by decide +kernel, by decide +kernel⟩, List.mem_of_getElem? (i := 469) (by decide +kernel), List.mem_of_getElem? (i := 663) (by decide +kernel), List.mem_of_getElem? (i := 664) (by decide +kernel)⟩
theorem lw_p25 : lw_okq (⟨"BeadDeskModel", "worksRow", "(IIZ)Z"⟩, 48) := ⟨⟨by decide +kernel, by decide +kernel⟩, List.mem_of_getElem? (i := 469) (by decide +kernel), List.mem_of_getElem? (i := 667) (by decide +kernel), List.mem_of_getElem? (i := 668) (by decide +kernel)⟩
theorem lw_p26 : lw_okq (⟨"BeadDeskModel", "picks", "(IIIZ)Z"⟩, 48) := ⟨⟨by decide +kernel, by decide +kernel⟩, List.mem_of_getElem? (i := 469) (by decide +kernel), List.mem_of_getElem? (i := 671) (by decide +kernel), List.mem_of_getElem? (i := 672) (by decide +kernel)⟩
theorem lw_p27 : lw_okq (⟨"BeadDeskModel", "catches", "(III)V"⟩, 48) := ⟨⟨by decide +kernel, by decide +kernel⟩, List.mem_of_getElem? (i := 469) (by decide +kernel), List.mem_of_getElem? (i := 675) (by decide +kernel), List.mem_of_getElem? (i := 676) (by decide +kernel)⟩
theorem lw_p28 : lw_okq (⟨"BeadDeskModel", "pickedAt", "(II)I"⟩, 48) := ⟨⟨by decide +kernel, by decide +kernel⟩, List.mem_of_getElem? (i := 469) (by decide +kernel), List.mem_of_getElem? (i := 679) (by decide +kernel), List.mem_of_getElem? (i := 680) (by decide +kernel)⟩
theorem lw_p29 : lw_okq (⟨"BeadDeskModel", "columnOf", "(I)I"⟩, 48) := ⟨⟨by decide +kernel, by decide +kernel⟩, List.mem_of_getElem? (i := 469) (by decide +kernel), List.mem_of_getElem? (i := 683) (by decide +kernel), List.mem_of_getElem? (i := 684) (by decide +kernel)⟩
theorem lw_p30 : lw_okq (⟨"BeadDeskModel", "fails", "(II)Z"⟩, 48) := ⟨⟨by decide +kernel, by decide +kernel⟩, List.mem_of_getElem? (i := 469) (by decide +kernel), List.mem_of_getElem? (i := 687) (by decide +kernel), List.mem_of_getElem? (i := 688) (by decide +kernel)⟩
theorem lw_p31 : lw_okq (⟨"BeadDeskModel", "passesBy", "(I)V"⟩, 48) := ⟨⟨by decide +kernel, by decide +kernel⟩, List.mem_of_getElem? (i := 469) (by decide +kernel), List.mem_of_getElem? (i := 691) (by decide +kernel), List.mem_of_getElem? (i := 692) (by decide +kernel)⟩
def lw_privs_2 : List (MethodName × Nat) := [(⟨"BeadDesk$Mend", "isCaughtOnMarked", "(LBeadDesk$Way;I)Z"⟩, 1), (⟨"BeadDesk$Mend", "isMarked", "(I)Z"⟩, 1), (⟨"BeadDesk$Mend", "isBehindMarked", "(LBeadDesk$Way;I)Z"⟩, 1), (⟨"BeadDesk$Mend", "isWovenInMarked", "(LBeadDesk$Way;I)Z"⟩, 1), (⟨"BeadDesk", "tellTrial", "()V"⟩, 4), (⟨"BeadDesk$Chart", "cellsThatHold", "(I)I"⟩, 8), (⟨"BeadDeskModel", "columns", "()I"⟩, 48), (⟨"BeadDeskModel", "tries", "(I)V"⟩, 48), (⟨"BeadDeskModel", "lastColumn", "(IZ)I"⟩, 48), (⟨"BeadDeskModel", "worksRow", "(IIZ)Z"⟩, 48), (⟨"BeadDeskModel", "picks", "(IIIZ)Z"⟩, 48), (⟨"BeadDeskModel", "catches", "(III)V"⟩, 48), (⟨"BeadDeskModel", "pickedAt", "(II)I"⟩, 48), (⟨"BeadDeskModel", "columnOf", "(I)I"⟩, 48), (⟨"BeadDeskModel", "fails", "(II)Z"⟩, 48), (⟨"BeadDeskModel", "passesBy", "(I)V"⟩, 48)]
theorem lw_r2 : ∀ q ∈ lw_privs_2, lw_okq q := List.forall_mem_cons.mpr ⟨lw_p16, List.forall_mem_cons.mpr ⟨lw_p17, List.forall_mem_cons.mpr ⟨lw_p18, List.forall_mem_cons.mpr ⟨lw_p19, List.forall_mem_cons.mpr ⟨lw_p20, List.forall_mem_cons.mpr ⟨lw_p21, List.forall_mem_cons.mpr ⟨lw_p22, List.forall_mem_cons.mpr ⟨lw_p23, List.forall_mem_cons.mpr ⟨lw_p24, List.forall_mem_cons.mpr ⟨lw_p25, List.forall_mem_cons.mpr ⟨lw_p26, List.forall_mem_cons.mpr ⟨lw_p27, List.forall_mem_cons.mpr ⟨lw_p28, List.forall_mem_cons.mpr ⟨lw_p29, List.forall_mem_cons.mpr ⟨lw_p30, List.forall_mem_cons.mpr ⟨lw_p31, fun _ h => absurd h List.not_mem_nil⟩⟩⟩⟩⟩⟩⟩⟩⟩⟩⟩⟩⟩⟩⟩⟩
theorem lw_p32 : lw_okq (⟨"BeadDeskModel", "needs", "(I)I"⟩, 48) := ⟨⟨by decide +kernel, by decide +kernel⟩, List.mem_of_getElem? (i := 469) (by decide +kernel), List.mem_of_getElem? (i := 695) (by decide +kernel), List.mem_of_getElem? (i := 696) (by decide +kernel)⟩
theorem lw_p33 : lw_okq (⟨"BeadDeskModel", "colourAt", "(II)I"⟩, 48) := ⟨⟨by decide +kernel, by decide +kernel⟩, List.mem_of_getElem? (i := 469) (by decide +kernel), List.mem_of_getElem? (i := 699) (by decide +kernel), List.mem_of_getElem? (i := 700) (by decide +kernel)⟩
theorem lw_p34 : lw_okq (⟨"BeadDeskModel", "joins", "()Z"⟩, 48) := ⟨⟨by decide +kernel, by decide +kernel⟩, List.mem_of_getElem? (i := 469) (by decide +kernel), List.mem_of_getElem? (i := 703) (by decide +kernel), List.mem_of_getElem? (i := 704) (by decide +kernel)⟩
theorem lw_p35 : lw_okq (⟨"BeadDeskModel", "finds", "([IZ)Z"⟩, 48) := ⟨⟨by decide +kernel, by decide +kernel⟩, List.mem_of_getElem? (i := 469) (by decide +kernel), List.mem_of_getElem? (i := 707) (by decide +kernel), List.mem_of_getElem? (i := 708) (by decide +kernel)⟩
theorem lw_p36 : lw_okq (⟨"BeadDeskModel", "hasRoom", "(I)Z"⟩, 48) := ⟨⟨by decide +kernel, by decide +kernel⟩, List.mem_of_getElem? (i := 469) (by decide +kernel), List.mem_of_getElem? (i := 711) (by decide +kernel), List.mem_of_getElem? (i := 712) (by decide +kernel)⟩
theorem lw_p37 : lw_okq (⟨"BeadDeskModel", "keeps", "()V"⟩, 48) := ⟨⟨by decide +kernel, by decide +kernel⟩, List.mem_of_getElem? (i := 469) (by decide +kernel), List.mem_of_getElem? (i := 715) (by decide +kernel), List.mem_of_getElem? (i := 716) (by decide +kernel)⟩
theorem lw_p38 : lw_okq (⟨"BeadDeskModel", "isPicked", "(I)Z"⟩, 48) := ⟨⟨by decide +kernel, by decide +kernel⟩, List.mem_of_getElem? (i := 469) (by decide +kernel), List.mem_of_getElem? (i := 727) (by decide +kernel), List.mem_of_getElem? (i := 728) (by decide +kernel)⟩
theorem lw_p39 : lw_okq (⟨"BeadDeskModel", "isOn", "(II)Z"⟩, 48) := ⟨⟨by decide +kernel, by decide +kernel⟩, List.mem_of_getElem? (i := 469) (by decide +kernel), List.mem_of_getElem? (i := 739) (by decide +kernel), List.mem_of_getElem? (i := 740) (by decide +kernel)⟩
theorem lw_p40 : lw_okq (⟨"BeadDeskModel", "manyIn", "()I"⟩, 48) := ⟨⟨by decide +kernel, by decide +kernel⟩, List.mem_of_getElem? (i := 469) (by decide +kernel), List.mem_of_getElem? (i := 743) (by decide +kernel), List.mem_of_getElem? (i := 744) (by decide +kernel)⟩
theorem lw_p41 : lw_okq (⟨"BeadDeskModel", "pulls", "(I)V"⟩, 48) := ⟨⟨by decide +kernel, by decide +kernel⟩, List.mem_of_getElem? (i := 469) (by decide +kernel), List.mem_of_getElem? (i := 751) (by decide +kernel), List.mem_of_getElem? (i := 752) (by decide +kernel)⟩
theorem lw_p42 : lw_okq (⟨"BeadDeskModel", "drawsOut", "(II)Z"⟩, 48) := ⟨⟨by decide +kernel, by decide +kernel⟩, List.mem_of_getElem? (i := 469) (by decide +kernel), List.mem_of_getElem? (i := 755) (by decide +kernel), List.mem_of_getElem? (i := 756) (by decide +kernel)⟩
theorem lw_p43 : lw_okq (⟨"BeadDeskModel", "isWovenThrough", "(II)Z"⟩, 48) := ⟨⟨by decide +kernel, by decide +kernel⟩, List.mem_of_getElem? (i := 469) (by decide +kernel), List.mem_of_getElem? (i := 759) (by decide +kernel), List.mem_of_getElem? (i := 760) (by decide +kernel)⟩
theorem lw_p44 : lw_okq (⟨"BeadDeskModel", "beadsOf", "(I)I"⟩, 48) := ⟨⟨by decide +kernel, by decide +kernel⟩, List.mem_of_getElem? (i := 469) (by decide +kernel), List.mem_of_getElem? (i := 779) (by decide +kernel), List.mem_of_getElem? (i := 780) (by decide +kernel)⟩
def lw_privs_3 : List (MethodName × Nat) := [(⟨"BeadDeskModel", "needs", "(I)I"⟩, 48), (⟨"BeadDeskModel", "colourAt", "(II)I"⟩, 48), (⟨"BeadDeskModel", "joins", "()Z"⟩, 48), (⟨"BeadDeskModel", "finds", "([IZ)Z"⟩, 48), (⟨"BeadDeskModel", "hasRoom", "(I)Z"⟩, 48), (⟨"BeadDeskModel", "keeps", "()V"⟩, 48), (⟨"BeadDeskModel", "isPicked", "(I)Z"⟩, 48), (⟨"BeadDeskModel", "isOn", "(II)Z"⟩, 48), (⟨"BeadDeskModel", "manyIn", "()I"⟩, 48), (⟨"BeadDeskModel", "pulls", "(I)V"⟩, 48), (⟨"BeadDeskModel", "drawsOut", "(II)Z"⟩, 48), (⟨"BeadDeskModel", "isWovenThrough", "(II)Z"⟩, 48), (⟨"BeadDeskModel", "beadsOf", "(I)I"⟩, 48)]
theorem lw_r3 : ∀ q ∈ lw_privs_3, lw_okq q := List.forall_mem_cons.mpr ⟨lw_p32, List.forall_mem_cons.mpr ⟨lw_p33, List.forall_mem_cons.mpr ⟨lw_p34, List.forall_mem_cons.mpr ⟨lw_p35, List.forall_mem_cons.mpr ⟨lw_p36, List.forall_mem_cons.mpr ⟨lw_p37, List.forall_mem_cons.mpr ⟨lw_p38, List.forall_mem_cons.mpr ⟨lw_p39, List.forall_mem_cons.mpr ⟨lw_p40, List.forall_mem_cons.mpr ⟨lw_p41, List.forall_mem_cons.mpr ⟨lw_p42, List.forall_mem_cons.mpr ⟨lw_p43, List.forall_mem_cons.mpr ⟨lw_p44, fun _ h => absurd h List.not_mem_nil⟩⟩⟩⟩⟩⟩⟩⟩⟩⟩⟩⟩⟩
def lw_privs : List (MethodName × Nat) := lw_privs_1 ++ (lw_privs_2 ++ (lw_privs_3))
def lw_tbl : List Cond := k2_sels lw_privs ++ tables_1
theorem lw_privs_ok : ∀ q ∈ lw_privs, lw_okq q := by
  show ∀ q ∈ lw_privs_1 ++ (lw_privs_2 ++ (lw_privs_3)), lw_okq q
  exact List.forall_mem_append.mpr ⟨lw_r1, List.forall_mem_append.mpr ⟨lw_r2, lw_r3⟩⟩
theorem goodIn_r {big : List Cond} (ws : List Cond) (ps : List Nat) (hp : ws = ps.filterMap (fun i => big[i]?)) (h : ws.all goodWord = true) : GoodIn big ws := by
  intro w hw
  have h1 := List.all_eq_true.mp h w hw
  rw [hp] at hw
  obtain ⟨i, -, hi⟩ := List.mem_filterMap.mp hw
  have hm : w ∈ big := by first | exact List.mem_of_getElem? hi | exact List.getElem?_mem hi
  exact ⟨hm, good_of_word h1⟩
theorem goodIn_app {big a b : List Cond} (ha : GoodIn big a) (hb : GoodIn big b) : GoodIn big (a ++ b) := fun w h => (List.mem_append.mp h).elim (ha w) (hb w)
theorem goodIn_ca {big a b : List Cond} {c : Cond} (ha : GoodIn big (c :: a)) (hb : GoodIn big b) : GoodIn big (c :: (a ++ b)) := fun w h => (List.mem_cons.mp h).elim (fun e => ha w (List.mem_cons.mpr (Or.inl e))) (fun h => (List.mem_append.mp h).elim (fun h => ha w (List.mem_cons.mpr (Or.inr h))) (hb w))
theorem goodIn_sub {big ws : List Cond} (hm : ∀ w ∈ ws, w ∈ big) (h : ws.all goodWord = true) : GoodIn big ws := fun w hw => ⟨hm w hw, good_of_word (List.all_eq_true.mp h w hw)⟩

def RX0 : String := "BeadDesk$Chart"
def TX0 : u_T := fun k => match k with
  | 0 => ("BeadDesk$Chart", "cells", "[I", true)
  | 1 => ("BeadDesk$Chart", "hole", "[I", true)
  | 2 => ("BeadDesk$Chart", "step", "[I", true)
  | 3 => ("BeadDesk$Chart", "weight", "[I", true)
  | 4 => ("BeadDesk$Chart", "stitch", "I", false)
  | 5 => ("BeadDesk$Chart", "width", "I", false)
  | 6 => ("BeadDesk$Chart", "length", "I", false)
  | _ => ("BeadDesk$Chart", "weave", "I", false)
def tyX0 : Nat → FieldType := fun k => match k with
  | 0 => .array .int
  | 1 => .array .int
  | 2 => .array .int
  | 3 => .array .int
  | 4 => .int
  | 5 => .int
  | 6 => .int
  | _ => .int
abbrev wsX00 : List Cond := u_ws RX0 TX0 8
theorem nmX0 : ∀ a, a < 8 → ∀ b, b < 8 → a ≠ b → (TX0 a).2.1 ≠ (TX0 b).2.1 := by decide +kernel
theorem tyX0_ok : ∀ k, k < 8 → parseFieldDescriptor (TX0 k).2.2.1 = some (tyX0 k) := by decide +kernel
abbrev cX0_init : ByteArray := prog_2_method_1_code
def yX0_init : MethodName := ⟨RX0, "<init>", "()V"⟩
abbrev cX0_columnsInUse : ByteArray := prog_2_method_2_code
def yX0_columnsInUse : MethodName := ⟨RX0, "columnsInUse", "()I"⟩
abbrev cX0_holdsRun : ByteArray := prog_2_method_3_code
def yX0_holdsRun : MethodName := ⟨RX0, "holdsRun", "(III)Z"⟩
abbrev cX0_putRun : ByteArray := prog_2_method_4_code
def yX0_putRun : MethodName := ⟨RX0, "putRun", "(IIIJ)V"⟩
abbrev cX0_colourAt : ByteArray := prog_2_method_5_code
def yX0_colourAt : MethodName := ⟨RX0, "colourAt", "(II)I"⟩
abbrev cX0_hasBeadsFrom : ByteArray := prog_2_method_6_code
def yX0_hasBeadsFrom : MethodName := ⟨RX0, "hasBeadsFrom", "(I)Z"⟩
abbrev cX0_beadsInRow : ByteArray := prog_2_method_7_code
def yX0_beadsInRow : MethodName := ⟨RX0, "beadsInRow", "(I)I"⟩
abbrev cX0_rowsWithBeads : ByteArray := prog_2_method_8_code
def yX0_rowsWithBeads : MethodName := ⟨RX0, "rowsWithBeads", "()I"⟩
abbrev cX0_allBeads : ByteArray := prog_2_method_9_code
def yX0_allBeads : MethodName := ⟨RX0, "allBeads", "()I"⟩
abbrev cX0_beadsOfColour : ByteArray := prog_2_method_10_code
def yX0_beadsOfColour : MethodName := ⟨RX0, "beadsOfColour", "(I)I"⟩
abbrev cX0_cellsThatHold : ByteArray := prog_2_method_11_code
def yX0_cellsThatHold : MethodName := ⟨RX0, "cellsThatHold", "(I)I"⟩
abbrev cX0_lowerCatch : ByteArray := prog_2_method_12_code
def yX0_lowerCatch : MethodName := ⟨RX0, "lowerCatch", "(II)I"⟩
abbrev cX0_upperCatch : ByteArray := prog_2_method_13_code
def yX0_upperCatch : MethodName := ⟨RX0, "upperCatch", "(II)I"⟩
abbrev cX0_leftCatch : ByteArray := prog_2_method_14_code
def yX0_leftCatch : MethodName := ⟨RX0, "leftCatch", "(II)I"⟩
abbrev cX0_rightCatch : ByteArray := prog_2_method_15_code
def yX0_rightCatch : MethodName := ⟨RX0, "rightCatch", "(II)I"⟩
abbrev cX0_aroundTheRing : ByteArray := prog_2_method_16_code
def yX0_aroundTheRing : MethodName := ⟨RX0, "aroundTheRing", "(I)I"⟩
def RX1 : String := "BeadDesk$Mend"
def TX1 : u_T := fun k => match k with
  | _ => ("BeadDesk$Mend", "marks", "[I", true)
def tyX1 : Nat → FieldType := fun k => match k with
  | _ => .array .int
abbrev wsX10 : List Cond := u_ws RX1 TX1 1
theorem nmX1 : ∀ a, a < 1 → ∀ b, b < 1 → a ≠ b → (TX1 a).2.1 ≠ (TX1 b).2.1 := by decide +kernel
theorem tyX1_ok : ∀ k, k < 1 → parseFieldDescriptor (TX1 k).2.2.1 = some (tyX1 k) := by decide +kernel
abbrev cX1_init : ByteArray := prog_3_method_1_code
def yX1_init : MethodName := ⟨RX1, "<init>", "()V"⟩
abbrev cX1_markHanging : ByteArray := prog_3_method_2_code
def yX1_markHanging : MethodName := ⟨RX1, "markHanging", "(LBeadDesk$Way;I)I"⟩
abbrev cX1_markPulledOut : ByteArray := prog_3_method_3_code
def yX1_markPulledOut : MethodName := ⟨RX1, "markPulledOut", "(LBeadDesk$Way;I)I"⟩
abbrev cX1_markOnly : ByteArray := prog_3_method_4_code
def yX1_markOnly : MethodName := ⟨RX1, "markOnly", "(I)V"⟩
abbrev cX1_isMarked : ByteArray := prog_3_method_5_code
def yX1_isMarked : MethodName := ⟨RX1, "isMarked", "(I)Z"⟩
abbrev cX1_isCaughtOnMarked : ByteArray := prog_3_method_6_code
def yX1_isCaughtOnMarked : MethodName := ⟨RX1, "isCaughtOnMarked", "(LBeadDesk$Way;I)Z"⟩
abbrev cX1_isBehindMarked : ByteArray := prog_3_method_7_code
def yX1_isBehindMarked : MethodName := ⟨RX1, "isBehindMarked", "(LBeadDesk$Way;I)Z"⟩
abbrev cX1_isWovenInMarked : ByteArray := prog_3_method_8_code
def yX1_isWovenInMarked : MethodName := ⟨RX1, "isWovenInMarked", "(LBeadDesk$Way;I)Z"⟩
def RX2 : String := "BeadDesk$Step"
def TX2 : u_T := fun k => match k with
  | 0 => ("BeadDesk$Step", "beads", "[I", true)
  | _ => ("BeadDesk$Step", "size", "I", false)
def tyX2 : Nat → FieldType := fun k => match k with
  | 0 => .array .int
  | _ => .int
abbrev wsX20 : List Cond := u_ws RX2 TX2 2
theorem nmX2 : ∀ a, a < 2 → ∀ b, b < 2 → a ≠ b → (TX2 a).2.1 ≠ (TX2 b).2.1 := by decide +kernel
theorem tyX2_ok : ∀ k, k < 2 → parseFieldDescriptor (TX2 k).2.2.1 = some (tyX2 k) := by decide +kernel
abbrev cX2_init : ByteArray := prog_4_method_1_code
def yX2_init : MethodName := ⟨RX2, "<init>", "()V"⟩
abbrev cX2_empty : ByteArray := prog_4_method_2_code
def yX2_empty : MethodName := ⟨RX2, "empty", "()V"⟩
abbrev cX2_pass : ByteArray := prog_4_method_3_code
def yX2_pass : MethodName := ⟨RX2, "pass", "(I)V"⟩
abbrev cX2_threadNeeded : ByteArray := prog_4_method_4_code
def yX2_threadNeeded : MethodName := ⟨RX2, "threadNeeded", "(LBeadDesk$Chart;[I)I"⟩
abbrev cX2_fits : ByteArray := prog_4_method_5_code
def yX2_fits : MethodName := ⟨RX2, "fits", "(LBeadDesk$Chart;[I[I)Z"⟩
abbrev cX2_passesUpTo : ByteArray := prog_4_method_6_code
def yX2_passesUpTo : MethodName := ⟨RX2, "passesUpTo", "(I)I"⟩
abbrev cX2_countInto : ByteArray := prog_4_method_7_code
def yX2_countInto : MethodName := ⟨RX2, "countInto", "([I)V"⟩
def RX3 : String := "BeadDesk$Way"
def TX3 : u_T := fun k => match k with
  | 0 => ("BeadDesk$Way", "cellOf", "[I", true)
  | 1 => ("BeadDesk$Way", "colourOf", "[I", true)
  | 2 => ("BeadDesk$Way", "pieceOf", "[I", true)
  | 3 => ("BeadDesk$Way", "passesOf", "[I", true)
  | 4 => ("BeadDesk$Way", "lowerOf", "[I", true)
  | 5 => ("BeadDesk$Way", "upperOf", "[I", true)
  | 6 => ("BeadDesk$Way", "pickOf", "[I", true)
  | 7 => ("BeadDesk$Way", "wovenThrough", "[I", true)
  | 8 => ("BeadDesk$Way", "wovenOff", "[I", true)
  | 9 => ("BeadDesk$Way", "step", "LBeadDesk$Step;", true)
  | 10 => ("BeadDesk$Way", "followed", "Z", false)
  | 11 => ("BeadDesk$Way", "pickedCount", "I", false)
  | 12 => ("BeadDesk$Way", "fault", "I", false)
  | 13 => ("BeadDesk$Way", "faultCell", "I", false)
  | 14 => ("BeadDesk$Way", "pieces", "I", false)
  | 15 => ("BeadDesk$Way", "used", "I", false)
  | 16 => ("BeadDesk$Way", "left", "I", false)
  | 17 => ("BeadDesk$Way", "passes", "I", false)
  | _ => ("BeadDesk$Way", "weave", "I", false)
def tyX3 : Nat → FieldType := fun k => match k with
  | 0 => .array .int
  | 1 => .array .int
  | 2 => .array .int
  | 3 => .array .int
  | 4 => .array .int
  | 5 => .array .int
  | 6 => .array .int
  | 7 => .array .int
  | 8 => .array .int
  | 9 => .object "BeadDesk$Step"
  | 10 => .boolean
  | 11 => .int
  | 12 => .int
  | 13 => .int
  | 14 => .int
  | 15 => .int
  | 16 => .int
  | 17 => .int
  | _ => .int
abbrev wsX30 : List Cond := u_ws RX3 TX3 19
theorem nmX3 : ∀ a, a < 19 → ∀ b, b < 19 → a ≠ b → (TX3 a).2.1 ≠ (TX3 b).2.1 := by decide +kernel
theorem tyX3_ok : ∀ k, k < 19 → parseFieldDescriptor (TX3 k).2.2.1 = some (tyX3 k) := by decide +kernel
abbrev cX3_init : ByteArray := prog_5_method_1_code
def yX3_init : MethodName := ⟨RX3, "<init>", "()V"⟩
abbrev cX3_has : ByteArray := prog_5_method_2_code
def yX3_has : MethodName := ⟨RX3, "has", "(I)Z"⟩
abbrev cX3_isCheaperThan : ByteArray := prog_5_method_3_code
def yX3_isCheaperThan : MethodName := ⟨RX3, "isCheaperThan", "(LBeadDesk$Way;)Z"⟩
abbrev cX3_pickAt : ByteArray := prog_5_method_4_code
def yX3_pickAt : MethodName := ⟨RX3, "pickAt", "(II)I"⟩
abbrev cX3_caughtCount : ByteArray := prog_5_method_5_code
def yX3_caughtCount : MethodName := ⟨RX3, "caughtCount", "(I)I"⟩
abbrev cX3_wovenIn : ByteArray := prog_5_method_6_code
def yX3_wovenIn : MethodName := ⟨RX3, "wovenIn", "(II)I"⟩
abbrev cX3_follow : ByteArray := prog_5_method_7_code
def yX3_follow : MethodName := ⟨RX3, "follow", "(LBeadDesk$Chart;I)V"⟩
abbrev cX3_startAnew : ByteArray := prog_5_method_8_code
def yX3_startAnew : MethodName := ⟨RX3, "startAnew", "(LBeadDesk$Chart;)V"⟩
abbrev cX3_followRow : ByteArray := prog_5_method_9_code
def yX3_followRow : MethodName := ⟨RX3, "followRow", "(LBeadDesk$Chart;IIZI)V"⟩
abbrev cX3_layOut : ByteArray := prog_5_method_10_code
def yX3_layOut : MethodName := ⟨RX3, "layOut", "(LBeadDesk$Chart;III)V"⟩
abbrev cX3_gatherInFirstRow : ByteArray := prog_5_method_11_code
def yX3_gatherInFirstRow : MethodName := ⟨RX3, "gatherInFirstRow", "(ZI)V"⟩
abbrev cX3_gatherInLaterRow : ByteArray := prog_5_method_12_code
def yX3_gatherInLaterRow : MethodName := ⟨RX3, "gatherInLaterRow", "(I)V"⟩
abbrev cX3_doStep : ByteArray := prog_5_method_13_code
def yX3_doStep : MethodName := ⟨RX3, "doStep", "(LBeadDesk$Chart;Z)V"⟩
abbrev cX3_faultAhead : ByteArray := prog_5_method_14_code
def yX3_faultAhead : MethodName := ⟨RX3, "faultAhead", "(LBeadDesk$Chart;IZ)I"⟩
abbrev cX3_pickUp : ByteArray := prog_5_method_15_code
def yX3_pickUp : MethodName := ⟨RX3, "pickUp", "(LBeadDesk$Chart;I)V"⟩
abbrev cX3_join : ByteArray := prog_5_method_16_code
def yX3_join : MethodName := ⟨RX3, "join", "(LBeadDesk$Chart;)Z"⟩
abbrev cX3_weaveThrough : ByteArray := prog_5_method_17_code
def yX3_weaveThrough : MethodName := ⟨RX3, "weaveThrough", "(LBeadDesk$Chart;[II)I"⟩
abbrev cX3_unweave : ByteArray := prog_5_method_18_code
def yX3_unweave : MethodName := ⟨RX3, "unweave", "([III)V"⟩
def RX4 : String := "BeadDesk"
def TX4 : u_T := fun k => match k with
  | 0 => ("BeadDesk", "chart", "LBeadDesk$Chart;", true)
  | 1 => ("BeadDesk", "mend", "LBeadDesk$Mend;", true)
  | 2 => ("BeadDesk", "told", "LBeadDesk$Way;", false)
  | _ => ("BeadDesk", "trial", "LBeadDesk$Way;", false)
def tyX4 : Nat → FieldType := fun k => match k with
  | 0 => .object "BeadDesk$Chart"
  | 1 => .object "BeadDesk$Mend"
  | 2 => .object "BeadDesk$Way"
  | _ => .object "BeadDesk$Way"
abbrev wsX40 : List Cond := u_ws RX4 TX4 4
theorem nmX4 : ∀ a, a < 4 → ∀ b, b < 4 → a ≠ b → (TX4 a).2.1 ≠ (TX4 b).2.1 := by decide +kernel
theorem tyX4_ok : ∀ k, k < 4 → parseFieldDescriptor (TX4 k).2.2.1 = some (tyX4 k) := by decide +kernel
abbrev cX4_init : ByteArray := prog_1_method_1_code
def yX4_init : MethodName := ⟨RX4, "<init>", "()V"⟩
abbrev cX4_beads : ByteArray := prog_1_method_2_code
def yX4_beads : MethodName := ⟨RX4, "beads", "(IIIJ)Z"⟩
abbrev cX4_stitch : ByteArray := prog_1_method_3_code
def yX4_stitch : MethodName := ⟨RX4, "stitch", "(I)I"⟩
abbrev cX4_ring : ByteArray := prog_1_method_4_code
def yX4_ring : MethodName := ⟨RX4, "ring", "(I)Z"⟩
abbrev cX4_colour : ByteArray := prog_1_method_5_code
def yX4_colour : MethodName := ⟨RX4, "colour", "(IIII)Z"⟩
abbrev cX4_thread : ByteArray := prog_1_method_6_code
def yX4_thread : MethodName := ⟨RX4, "thread", "(II)Z"⟩
abbrev cX4_cell : ByteArray := prog_1_method_7_code
def yX4_cell : MethodName := ⟨RX4, "cell", "(II)I"⟩
abbrev cX4_work : ByteArray := prog_1_method_8_code
def yX4_work : MethodName := ⟨RX4, "work", "(I)I"⟩
abbrev cX4_worked : ByteArray := prog_1_method_9_code
def yX4_worked : MethodName := ⟨RX4, "worked", "(I)I"⟩
abbrev cX4_picked : ByteArray := prog_1_method_10_code
def yX4_picked : MethodName := ⟨RX4, "picked", "(II)I"⟩
abbrev cX4_order : ByteArray := prog_1_method_11_code
def yX4_order : MethodName := ⟨RX4, "order", "(II)I"⟩
abbrev cX4_hang : ByteArray := prog_1_method_12_code
def yX4_hang : MethodName := ⟨RX4, "hang", "(I)I"⟩
abbrev cX4_pull : ByteArray := prog_1_method_13_code
def yX4_pull : MethodName := ⟨RX4, "pull", "(I)I"⟩
abbrev cX4_pulled : ByteArray := prog_1_method_14_code
def yX4_pulled : MethodName := ⟨RX4, "pulled", "(II)I"⟩
abbrev cX4_woven : ByteArray := prog_1_method_15_code
def yX4_woven : MethodName := ⟨RX4, "woven", "(II)I"⟩
abbrev cX4_best : ByteArray := prog_1_method_16_code
def yX4_best : MethodName := ⟨RX4, "best", "()I"⟩
abbrev cX4_tellTrial : ByteArray := prog_1_method_17_code
def yX4_tellTrial : MethodName := ⟨RX4, "tellTrial", "()V"⟩
abbrev cX4_bought : ByteArray := prog_1_method_18_code
def yX4_bought : MethodName := ⟨RX4, "bought", "(II)I"⟩
abbrev cX4_count : ByteArray := prog_1_method_19_code
def yX4_count : MethodName := ⟨RX4, "count", "(I)I"⟩
abbrev cX4_isWithin : ByteArray := prog_1_method_20_code
def yX4_isWithin : MethodName := ⟨RX4, "isWithin", "(III)Z"⟩
abbrev cX4_isColour : ByteArray := prog_1_method_21_code
def yX4_isColour : MethodName := ⟨RX4, "isColour", "(I)Z"⟩
abbrev cX4_isCell : ByteArray := prog_1_method_22_code
def yX4_isCell : MethodName := ⟨RX4, "isCell", "(II)Z"⟩
abbrev cX4_rowOf : ByteArray := prog_1_method_23_code
def yX4_rowOf : MethodName := ⟨RX4, "rowOf", "(I)I"⟩
abbrev cX4_columnOf : ByteArray := prog_1_method_24_code
def yX4_columnOf : MethodName := ⟨RX4, "columnOf", "(I)I"⟩
def RX5 : String := "BeadDeskModel"
def TX5 : u_T := fun k => match k with
  | 0 => ("BeadDeskModel", "chart", "[I", true)
  | 1 => ("BeadDeskModel", "stitch", "I", false)
  | 2 => ("BeadDeskModel", "ringOf", "I", false)
  | 3 => ("BeadDeskModel", "hole", "[I", true)
  | 4 => ("BeadDeskModel", "step", "[I", true)
  | 5 => ("BeadDeskModel", "weight", "[I", true)
  | 6 => ("BeadDeskModel", "length", "I", false)
  | 7 => ("BeadDeskModel", "weave", "I", false)
  | 8 => ("BeadDeskModel", "many", "I", false)
  | 9 => ("BeadDeskModel", "cellOf", "[I", true)
  | 10 => ("BeadDeskModel", "pieceOf", "[I", true)
  | 11 => ("BeadDeskModel", "passes", "[I", true)
  | 12 => ("BeadDeskModel", "caughtFirst", "[I", true)
  | 13 => ("BeadDeskModel", "caughtSecond", "[I", true)
  | 14 => ("BeadDeskModel", "colourOf", "[I", true)
  | 15 => ("BeadDeskModel", "placeOf", "[I", true)
  | 16 => ("BeadDeskModel", "fault", "I", false)
  | 17 => ("BeadDeskModel", "faultCell", "I", false)
  | 18 => ("BeadDeskModel", "pieces", "I", false)
  | 19 => ("BeadDeskModel", "used", "I", false)
  | 20 => ("BeadDeskModel", "left", "I", false)
  | 21 => ("BeadDeskModel", "wovenMany", "[I", true)
  | 22 => ("BeadDeskModel", "woven", "[I", true)
  | 23 => ("BeadDeskModel", "rowFirst", "I", false)
  | 24 => ("BeadDeskModel", "rowFirstAhead", "I", false)
  | 25 => ("BeadDeskModel", "rowMany", "I", false)
  | 26 => ("BeadDeskModel", "isFirstRow", "Z", false)
  | 27 => ("BeadDeskModel", "stepMany", "I", false)
  | 28 => ("BeadDeskModel", "stepOf", "[I", true)
  | 29 => ("BeadDeskModel", "off", "[I", true)
  | 30 => ("BeadDeskModel", "on", "[I", true)
  | 31 => ("BeadDeskModel", "hasWorked", "Z", false)
  | 32 => ("BeadDeskModel", "doneMany", "I", false)
  | 33 => ("BeadDeskModel", "doneFault", "I", false)
  | 34 => ("BeadDeskModel", "doneCell", "I", false)
  | 35 => ("BeadDeskModel", "donePieces", "I", false)
  | 36 => ("BeadDeskModel", "doneUsed", "I", false)
  | 37 => ("BeadDeskModel", "doneLeft", "I", false)
  | 38 => ("BeadDeskModel", "doneCellOf", "[I", true)
  | 39 => ("BeadDeskModel", "donePieceOf", "[I", true)
  | 40 => ("BeadDeskModel", "donePasses", "[I", true)
  | 41 => ("BeadDeskModel", "doneFirst", "[I", true)
  | 42 => ("BeadDeskModel", "doneSecond", "[I", true)
  | 43 => ("BeadDeskModel", "doneColour", "[I", true)
  | 44 => ("BeadDeskModel", "order", "[I", true)
  | 45 => ("BeadDeskModel", "doneWovenMany", "[I", true)
  | 46 => ("BeadDeskModel", "doneWoven", "[I", true)
  | _ => ("BeadDeskModel", "isIn", "[Z", true)
def tyX5 : Nat → FieldType := fun k => match k with
  | 0 => .array .int
  | 1 => .int
  | 2 => .int
  | 3 => .array .int
  | 4 => .array .int
  | 5 => .array .int
  | 6 => .int
  | 7 => .int
  | 8 => .int
  | 9 => .array .int
  | 10 => .array .int
  | 11 => .array .int
  | 12 => .array .int
  | 13 => .array .int
  | 14 => .array .int
  | 15 => .array .int
  | 16 => .int
  | 17 => .int
  | 18 => .int
  | 19 => .int
  | 20 => .int
  | 21 => .array .int
  | 22 => .array .int
  | 23 => .int
  | 24 => .int
  | 25 => .int
  | 26 => .boolean
  | 27 => .int
  | 28 => .array .int
  | 29 => .array .int
  | 30 => .array .int
  | 31 => .boolean
  | 32 => .int
  | 33 => .int
  | 34 => .int
  | 35 => .int
  | 36 => .int
  | 37 => .int
  | 38 => .array .int
  | 39 => .array .int
  | 40 => .array .int
  | 41 => .array .int
  | 42 => .array .int
  | 43 => .array .int
  | 44 => .array .int
  | 45 => .array .int
  | 46 => .array .int
  | _ => .array .boolean
abbrev wsX50 : List Cond := u_ws RX5 TX5 48
theorem nmX5 : ∀ a, a < 48 → ∀ b, b < 48 → a ≠ b → (TX5 a).2.1 ≠ (TX5 b).2.1 := by decide +kernel
theorem tyX5_ok : ∀ k, k < 48 → parseFieldDescriptor (TX5 k).2.2.1 = some (tyX5 k) := by decide +kernel
abbrev cX5_init : ByteArray := prog_7_method_1_code
def yX5_init : MethodName := ⟨RX5, "<init>", "()V"⟩
abbrev cX5_in : ByteArray := prog_7_method_2_code
def yX5_in : MethodName := ⟨RX5, "in", "(III)Z"⟩
abbrev cX5_columns : ByteArray := prog_7_method_3_code
def yX5_columns : MethodName := ⟨RX5, "columns", "()I"⟩
abbrev cX5_beads : ByteArray := prog_7_method_4_code
def yX5_beads : MethodName := ⟨RX5, "beads", "(IIIJ)Z"⟩
abbrev cX5_stitch : ByteArray := prog_7_method_5_code
def yX5_stitch : MethodName := ⟨RX5, "stitch", "(I)I"⟩
abbrev cX5_ring : ByteArray := prog_7_method_6_code
def yX5_ring : MethodName := ⟨RX5, "ring", "(I)Z"⟩
abbrev cX5_isColour : ByteArray := prog_7_method_7_code
def yX5_isColour : MethodName := ⟨RX5, "isColour", "(I)Z"⟩
abbrev cX5_colour : ByteArray := prog_7_method_8_code
def yX5_colour : MethodName := ⟨RX5, "colour", "(IIII)Z"⟩
abbrev cX5_thread : ByteArray := prog_7_method_9_code
def yX5_thread : MethodName := ⟨RX5, "thread", "(II)Z"⟩
abbrev cX5_cell : ByteArray := prog_7_method_10_code
def yX5_cell : MethodName := ⟨RX5, "cell", "(II)I"⟩
abbrev cX5_columnOf : ByteArray := prog_7_method_11_code
def yX5_columnOf : MethodName := ⟨RX5, "columnOf", "(I)I"⟩
abbrev cX5_pickedAt : ByteArray := prog_7_method_12_code
def yX5_pickedAt : MethodName := ⟨RX5, "pickedAt", "(II)I"⟩
abbrev cX5_catches : ByteArray := prog_7_method_13_code
def yX5_catches : MethodName := ⟨RX5, "catches", "(III)V"⟩
abbrev cX5_passesBy : ByteArray := prog_7_method_14_code
def yX5_passesBy : MethodName := ⟨RX5, "passesBy", "(I)V"⟩
abbrev cX5_colourAt : ByteArray := prog_7_method_15_code
def yX5_colourAt : MethodName := ⟨RX5, "colourAt", "(II)I"⟩
abbrev cX5_needs : ByteArray := prog_7_method_16_code
def yX5_needs : MethodName := ⟨RX5, "needs", "(I)I"⟩
abbrev cX5_finds : ByteArray := prog_7_method_17_code
def yX5_finds : MethodName := ⟨RX5, "finds", "([IZ)Z"⟩
abbrev cX5_joins : ByteArray := prog_7_method_18_code
def yX5_joins : MethodName := ⟨RX5, "joins", "()Z"⟩
abbrev cX5_hasRoom : ByteArray := prog_7_method_19_code
def yX5_hasRoom : MethodName := ⟨RX5, "hasRoom", "(I)Z"⟩
abbrev cX5_fails : ByteArray := prog_7_method_20_code
def yX5_fails : MethodName := ⟨RX5, "fails", "(II)Z"⟩
abbrev cX5_picks : ByteArray := prog_7_method_21_code
def yX5_picks : MethodName := ⟨RX5, "picks", "(IIIZ)Z"⟩
abbrev cX5_lastColumn : ByteArray := prog_7_method_22_code
def yX5_lastColumn : MethodName := ⟨RX5, "lastColumn", "(IZ)I"⟩
abbrev cX5_worksRow : ByteArray := prog_7_method_23_code
def yX5_worksRow : MethodName := ⟨RX5, "worksRow", "(IIZ)Z"⟩
abbrev cX5_tries : ByteArray := prog_7_method_24_code
def yX5_tries : MethodName := ⟨RX5, "tries", "(I)V"⟩
abbrev cX5_keeps : ByteArray := prog_7_method_25_code
def yX5_keeps : MethodName := ⟨RX5, "keeps", "()V"⟩
abbrev cX5_work : ByteArray := prog_7_method_26_code
def yX5_work : MethodName := ⟨RX5, "work", "(I)I"⟩
abbrev cX5_worked : ByteArray := prog_7_method_27_code
def yX5_worked : MethodName := ⟨RX5, "worked", "(I)I"⟩
abbrev cX5_isPicked : ByteArray := prog_7_method_28_code
def yX5_isPicked : MethodName := ⟨RX5, "isPicked", "(I)Z"⟩
abbrev cX5_picked : ByteArray := prog_7_method_29_code
def yX5_picked : MethodName := ⟨RX5, "picked", "(II)I"⟩
abbrev cX5_order : ByteArray := prog_7_method_30_code
def yX5_order : MethodName := ⟨RX5, "order", "(II)I"⟩
abbrev cX5_isOn : ByteArray := prog_7_method_31_code
def yX5_isOn : MethodName := ⟨RX5, "isOn", "(II)Z"⟩
abbrev cX5_manyIn : ByteArray := prog_7_method_32_code
def yX5_manyIn : MethodName := ⟨RX5, "manyIn", "()I"⟩
abbrev cX5_hang : ByteArray := prog_7_method_33_code
def yX5_hang : MethodName := ⟨RX5, "hang", "(I)I"⟩
abbrev cX5_isWovenThrough : ByteArray := prog_7_method_34_code
def yX5_isWovenThrough : MethodName := ⟨RX5, "isWovenThrough", "(II)Z"⟩
abbrev cX5_drawsOut : ByteArray := prog_7_method_35_code
def yX5_drawsOut : MethodName := ⟨RX5, "drawsOut", "(II)Z"⟩
abbrev cX5_pulls : ByteArray := prog_7_method_36_code
def yX5_pulls : MethodName := ⟨RX5, "pulls", "(I)V"⟩
abbrev cX5_pull : ByteArray := prog_7_method_37_code
def yX5_pull : MethodName := ⟨RX5, "pull", "(I)I"⟩
abbrev cX5_pulled : ByteArray := prog_7_method_38_code
def yX5_pulled : MethodName := ⟨RX5, "pulled", "(II)I"⟩
abbrev cX5_woven : ByteArray := prog_7_method_39_code
def yX5_woven : MethodName := ⟨RX5, "woven", "(II)I"⟩
abbrev cX5_best : ByteArray := prog_7_method_40_code
def yX5_best : MethodName := ⟨RX5, "best", "()I"⟩
abbrev cX5_beadsOf : ByteArray := prog_7_method_41_code
def yX5_beadsOf : MethodName := ⟨RX5, "beadsOf", "(I)I"⟩
abbrev cX5_bought : ByteArray := prog_7_method_42_code
def yX5_bought : MethodName := ⟨RX5, "bought", "(II)I"⟩
abbrev cX5_count : ByteArray := prog_7_method_43_code
def yX5_count : MethodName := ⟨RX5, "count", "(I)I"⟩
def RJ9 : String := "java/lang/Math"
def TJ9 : u_T := fun k => match k with
  | _ => ("", "", "", false)
def tyJ9 : Nat → FieldType := fun k => match k with
  | _ => .int
abbrev wsJ90 : List Cond := u_ws RJ9 TJ9 0
theorem nmJ9 : ∀ a, a < 0 → ∀ b, b < 0 → a ≠ b → (TJ9 a).2.1 ≠ (TJ9 b).2.1 := by decide +kernel
theorem tyJ9_ok : ∀ k, k < 0 → parseFieldDescriptor (TJ9 k).2.2.1 = some (tyJ9 k) := by decide +kernel
abbrev cJ9_max_7cf53 : ByteArray := prog_8_method_65_code
def yJ9_max_7cf53 : MethodName := ⟨RJ9, "max", "(II)I"⟩
abbrev cJ9_min_7cf53 : ByteArray := prog_8_method_69_code
def yJ9_min_7cf53 : MethodName := ⟨RJ9, "min", "(II)I"⟩
def RJ7 : String := "java/util/Arrays"
def TJ7 : u_T := fun k => match k with
  | _ => ("", "", "", false)
def tyJ7 : Nat → FieldType := fun k => match k with
  | _ => .int
abbrev wsJ70 : List Cond := u_ws RJ7 TJ7 0
theorem nmJ7 : ∀ a, a < 0 → ∀ b, b < 0 → a ≠ b → (TJ7 a).2.1 ≠ (TJ7 b).2.1 := by decide +kernel
theorem tyJ7_ok : ∀ k, k < 0 → parseFieldDescriptor (TJ7 k).2.2.1 = some (tyJ7 k) := by decide +kernel
abbrev cJ7_fill_53178 : ByteArray := prog_9_method_103_code
def yJ7_fill_53178 : MethodName := ⟨RJ7, "fill", "([II)V"⟩
def RL : String := "BeadDeskLaw"
abbrev cL_law : ByteArray := code
def yL_law : MethodName := ⟨RL, "law", "([I)Z"⟩
def wsJ7_fill_53178 : List Cond := .code yJ7_fill_53178 cJ7_fill_53178 4 none :: ([])
def wsX0_init : List Cond := .code yX0_init cX0_init 1 none :: ([.methodLink RX0 3 objectInit, .instanceMethod objectInit, .code objectInit ⟨#[0xb1]⟩ 1 none, .arrayClass .int, .fieldLink RX0 9 "BeadDesk$Chart" "cells" "[I", .fieldLink RX0 15 "BeadDesk$Chart" "hole" "[I", .fieldLink RX0 18 "BeadDesk$Chart" "step" "[I", .fieldLink RX0 21 "BeadDesk$Chart" "weight" "[I", .fieldLink RX0 24 "BeadDesk$Chart" "stitch" "I", .fieldLink RX0 28 "BeadDesk$Chart" "width" "I", .fieldLink RX0 31 "BeadDesk$Chart" "length" "I", .fieldLink RX0 34 "BeadDesk$Chart" "weave" "I", .methodLink RX0 37 yJ7_fill_53178, .static yJ7_fill_53178, .initialized RJ7, .code yJ7_fill_53178 cJ7_fill_53178 4 none] ++ wsX00)
def wsX0_columnsInUse : List Cond := .code yX0_columnsInUse cX0_columnsInUse 1 (some .int) :: ([.fieldLink RX0 28 "BeadDesk$Chart" "width" "I"] ++ wsX00)
def wsX4_isWithin : List Cond := .code yX4_isWithin cX4_isWithin 3 (some .boolean) :: ([])
def wsX4_isCell : List Cond := .code yX4_isCell cX4_isCell 2 (some .boolean) :: ([.methodLink RX4 45 yX4_isWithin, .static yX4_isWithin, .initialized RX4, .code yX4_isWithin cX4_isWithin 3 (some .boolean)])
def wsX0_holdsRun : List Cond := .code yX0_holdsRun cX0_holdsRun 4 (some .boolean) :: ([.static yX4_isCell, .initialized RX4, .code yX4_isCell cX4_isCell 2 (some .boolean), .methodLink RX4 45 yX4_isWithin, .static yX4_isWithin, .code yX4_isWithin cX4_isWithin 3 (some .boolean), .methodLink RX0 51 yX0_columnsInUse, .instanceMethod yX0_columnsInUse, .selects RX0 yX0_columnsInUse yX0_columnsInUse, .initialized RX0, .code yX0_columnsInUse cX0_columnsInUse 1 (some .int), .fieldLink RX0 28 "BeadDesk$Chart" "width" "I"] ++ wsX00)
def wsX0_putRun : List Cond := .code yX0_putRun cX0_putRun 8 none :: ([.constantLong RX0 55 (7), .fieldLink RX0 9 "BeadDesk$Chart" "cells" "[I"] ++ wsX00)
def wsX0_colourAt : List Cond := .code yX0_colourAt cX0_colourAt 3 (some .int) :: ([.fieldLink RX0 9 "BeadDesk$Chart" "cells" "[I", .static yX4_isCell, .initialized RX4, .code yX4_isCell cX4_isCell 2 (some .boolean), .methodLink RX4 45 yX4_isWithin, .static yX4_isWithin, .code yX4_isWithin cX4_isWithin 3 (some .boolean)] ++ wsX00)
def wsX0_hasBeadsFrom : List Cond := .code yX0_hasBeadsFrom cX0_hasBeadsFrom 3 (some .boolean) :: ([.fieldLink RX0 9 "BeadDesk$Chart" "cells" "[I"] ++ wsX00)
def wsX0_beadsInRow : List Cond := .code yX0_beadsInRow cX0_beadsInRow 4 (some .int) :: ([.methodLink RX0 57 yX0_colourAt, .instanceMethod yX0_colourAt, .selects RX0 yX0_colourAt yX0_colourAt, .initialized RX0, .code yX0_colourAt cX0_colourAt 3 (some .int), .fieldLink RX0 9 "BeadDesk$Chart" "cells" "[I", .static yX4_isCell, .initialized RX4, .code yX4_isCell cX4_isCell 2 (some .boolean), .methodLink RX4 45 yX4_isWithin, .static yX4_isWithin, .code yX4_isWithin cX4_isWithin 3 (some .boolean)] ++ wsX00)
def wsX0_rowsWithBeads : List Cond := .code yX0_rowsWithBeads cX0_rowsWithBeads 3 (some .int) :: ([.methodLink RX0 61 yX0_beadsInRow, .instanceMethod yX0_beadsInRow, .selects RX0 yX0_beadsInRow yX0_beadsInRow, .initialized RX0, .code yX0_beadsInRow cX0_beadsInRow 4 (some .int), .methodLink RX0 57 yX0_colourAt, .instanceMethod yX0_colourAt, .selects RX0 yX0_colourAt yX0_colourAt, .code yX0_colourAt cX0_colourAt 3 (some .int), .fieldLink RX0 9 "BeadDesk$Chart" "cells" "[I", .static yX4_isCell, .initialized RX4, .code yX4_isCell cX4_isCell 2 (some .boolean), .methodLink RX4 45 yX4_isWithin, .static yX4_isWithin, .code yX4_isWithin cX4_isWithin 3 (some .boolean)] ++ wsX00)
def wsX0_cellsThatHold : List Cond := .code yX0_cellsThatHold cX0_cellsThatHold 4 (some .int) :: ([.fieldLink RX0 9 "BeadDesk$Chart" "cells" "[I"] ++ wsX00)
def wsX0_allBeads : List Cond := .code yX0_allBeads cX0_allBeads 1 (some .int) :: ([.methodLink RX0 65 yX0_cellsThatHold, .instanceMethod yX0_cellsThatHold, .selects RX0 yX0_cellsThatHold yX0_cellsThatHold, .initialized RX0, .code yX0_cellsThatHold cX0_cellsThatHold 4 (some .int), .fieldLink RX0 9 "BeadDesk$Chart" "cells" "[I"] ++ wsX00)
def wsX0_beadsOfColour : List Cond := .code yX0_beadsOfColour cX0_beadsOfColour 2 (some .int) :: ([.methodLink RX0 65 yX0_cellsThatHold, .instanceMethod yX0_cellsThatHold, .selects RX0 yX0_cellsThatHold yX0_cellsThatHold, .initialized RX0, .code yX0_cellsThatHold cX0_cellsThatHold 4 (some .int), .fieldLink RX0 9 "BeadDesk$Chart" "cells" "[I"] ++ wsX00)
def wsX0_aroundTheRing : List Cond := .code yX0_aroundTheRing cX0_aroundTheRing 2 (some .int) :: ([.fieldLink RX0 28 "BeadDesk$Chart" "width" "I"] ++ wsX00)
def wsX0_leftCatch : List Cond := .code yX0_leftCatch cX0_leftCatch 3 (some .int) :: ([.methodLink RX0 82 yX0_aroundTheRing, .instanceMethod yX0_aroundTheRing, .selects RX0 yX0_aroundTheRing yX0_aroundTheRing, .initialized RX0, .code yX0_aroundTheRing cX0_aroundTheRing 2 (some .int), .fieldLink RX0 28 "BeadDesk$Chart" "width" "I"] ++ wsX00)
def wsX0_rightCatch : List Cond := .code yX0_rightCatch cX0_rightCatch 3 (some .int) :: ([.methodLink RX0 82 yX0_aroundTheRing, .instanceMethod yX0_aroundTheRing, .selects RX0 yX0_aroundTheRing yX0_aroundTheRing, .initialized RX0, .code yX0_aroundTheRing cX0_aroundTheRing 2 (some .int), .fieldLink RX0 28 "BeadDesk$Chart" "width" "I"] ++ wsX00)
def wsX0_lowerCatch : List Cond := .code yX0_lowerCatch cX0_lowerCatch 3 (some .int) :: ([.fieldLink RX0 24 "BeadDesk$Chart" "stitch" "I", .methodLink RX0 74 Lib.Math.min.name, .static Lib.Math.min.name, .initialized "java/lang/Math", .code Lib.Math.min.name Lib.Math.min.code 2 (some .int), .methodLink RX0 68 yX0_leftCatch, .instanceMethod yX0_leftCatch, .selects RX0 yX0_leftCatch yX0_leftCatch, .initialized RX0, .code yX0_leftCatch cX0_leftCatch 3 (some .int), .methodLink RX0 82 yX0_aroundTheRing, .instanceMethod yX0_aroundTheRing, .selects RX0 yX0_aroundTheRing yX0_aroundTheRing, .code yX0_aroundTheRing cX0_aroundTheRing 2 (some .int), .fieldLink RX0 28 "BeadDesk$Chart" "width" "I", .methodLink RX0 71 yX0_rightCatch, .instanceMethod yX0_rightCatch, .selects RX0 yX0_rightCatch yX0_rightCatch, .code yX0_rightCatch cX0_rightCatch 3 (some .int)] ++ wsX00)
def wsX0_upperCatch : List Cond := .code yX0_upperCatch cX0_upperCatch 3 (some .int) :: ([.fieldLink RX0 24 "BeadDesk$Chart" "stitch" "I", .methodLink RX0 79 Lib.Math.max.name, .static Lib.Math.max.name, .initialized "java/lang/Math", .code Lib.Math.max.name Lib.Math.max.code 2 (some .int), .methodLink RX0 68 yX0_leftCatch, .instanceMethod yX0_leftCatch, .selects RX0 yX0_leftCatch yX0_leftCatch, .initialized RX0, .code yX0_leftCatch cX0_leftCatch 3 (some .int), .methodLink RX0 82 yX0_aroundTheRing, .instanceMethod yX0_aroundTheRing, .selects RX0 yX0_aroundTheRing yX0_aroundTheRing, .code yX0_aroundTheRing cX0_aroundTheRing 2 (some .int), .fieldLink RX0 28 "BeadDesk$Chart" "width" "I", .methodLink RX0 71 yX0_rightCatch, .instanceMethod yX0_rightCatch, .selects RX0 yX0_rightCatch yX0_rightCatch, .code yX0_rightCatch cX0_rightCatch 3 (some .int)] ++ wsX00)
def wsX1_init : List Cond := .code yX1_init cX1_init 1 none :: ([.methodLink RX1 3 objectInit, .instanceMethod objectInit, .code objectInit ⟨#[0xb1]⟩ 1 none, .arrayClass .int, .fieldLink RX1 9 "BeadDesk$Mend" "marks" "[I"] ++ wsX10)
def wsX1_markOnly : List Cond := .code yX1_markOnly cX1_markOnly 2 none :: ([.fieldLink RX1 9 "BeadDesk$Mend" "marks" "[I", .methodLink RX1 35 yJ7_fill_53178, .static yJ7_fill_53178, .initialized RJ7, .code yJ7_fill_53178 cJ7_fill_53178 4 none] ++ wsX10)
def wsX1_isMarked : List Cond := .code yX1_isMarked cX1_isMarked 2 (some .boolean) :: ([.fieldLink RX1 9 "BeadDesk$Mend" "marks" "[I"] ++ wsX10)
def wsX1_isCaughtOnMarked : List Cond := .code yX1_isCaughtOnMarked cX1_isCaughtOnMarked 3 (some .boolean) :: ([.fieldLink RX1 41 "BeadDesk$Way" "lowerOf" "[I", .fieldLink RX1 48 "BeadDesk$Way" "upperOf" "[I", .methodLink RX1 44 yX1_isMarked, .instanceMethod yX1_isMarked, .selects RX1 yX1_isMarked yX1_isMarked, .initialized RX1, .code yX1_isMarked cX1_isMarked 2 (some .boolean), .fieldLink RX1 9 "BeadDesk$Mend" "marks" "[I"] ++ wsX30 ++ wsX10)
def wsX1_markHanging : List Cond := .code yX1_markHanging cX1_markHanging 5 (some .int) :: ([.fieldLink RX1 19 "BeadDesk$Way" "pickedCount" "I", .fieldLink RX1 9 "BeadDesk$Mend" "marks" "[I", .methodLink RX1 15 yX1_markOnly, .instanceMethod yX1_markOnly, .selects RX1 yX1_markOnly yX1_markOnly, .initialized RX1, .code yX1_markOnly cX1_markOnly 2 none, .methodLink RX1 35 yJ7_fill_53178, .static yJ7_fill_53178, .initialized RJ7, .code yJ7_fill_53178 cJ7_fill_53178 4 none, .methodLink RX1 25 yX1_isCaughtOnMarked, .instanceMethod yX1_isCaughtOnMarked, .selects RX1 yX1_isCaughtOnMarked yX1_isCaughtOnMarked, .code yX1_isCaughtOnMarked cX1_isCaughtOnMarked 3 (some .boolean), .fieldLink RX1 41 "BeadDesk$Way" "lowerOf" "[I", .fieldLink RX1 48 "BeadDesk$Way" "upperOf" "[I", .methodLink RX1 44 yX1_isMarked, .instanceMethod yX1_isMarked, .selects RX1 yX1_isMarked yX1_isMarked, .code yX1_isMarked cX1_isMarked 2 (some .boolean)] ++ wsX30 ++ wsX10)
def wsX1_isBehindMarked : List Cond := .code yX1_isBehindMarked cX1_isBehindMarked 3 (some .boolean) :: ([.fieldLink RX1 51 "BeadDesk$Way" "pieceOf" "[I", .methodLink RX1 44 yX1_isMarked, .instanceMethod yX1_isMarked, .selects RX1 yX1_isMarked yX1_isMarked, .initialized RX1, .code yX1_isMarked cX1_isMarked 2 (some .boolean), .fieldLink RX1 9 "BeadDesk$Mend" "marks" "[I"] ++ wsX30 ++ wsX10)
def wsX3_wovenIn : List Cond := .code yX3_wovenIn cX3_wovenIn 3 (some .int) :: ([.fieldLink RX3 60 "BeadDesk$Way" "pieces" "I", .fieldLink RX3 72 "BeadDesk$Way" "weave" "I", .fieldLink RX3 33 "BeadDesk$Way" "wovenThrough" "[I"] ++ wsX30)
def wsX1_isWovenInMarked : List Cond := .code yX1_isWovenInMarked cX1_isWovenInMarked 4 (some .boolean) :: ([.fieldLink RX1 54 "BeadDesk$Way" "weave" "I", .fieldLink RX1 51 "BeadDesk$Way" "pieceOf" "[I", .methodLink RX1 57 yX3_wovenIn, .instanceMethod yX3_wovenIn, .selects RX3 yX3_wovenIn yX3_wovenIn, .initialized RX3, .code yX3_wovenIn cX3_wovenIn 3 (some .int), .fieldLink RX3 60 "BeadDesk$Way" "pieces" "I", .fieldLink RX3 72 "BeadDesk$Way" "weave" "I", .fieldLink RX3 33 "BeadDesk$Way" "wovenThrough" "[I", .methodLink RX1 44 yX1_isMarked, .instanceMethod yX1_isMarked, .selects RX1 yX1_isMarked yX1_isMarked, .initialized RX1, .code yX1_isMarked cX1_isMarked 2 (some .boolean), .fieldLink RX1 9 "BeadDesk$Mend" "marks" "[I"] ++ wsX30 ++ wsX10)
def wsX1_markPulledOut_r1 : List Cond := [Cond.fieldLink RX1 19 "BeadDesk$Way" "pickedCount" "I", Cond.fieldLink RX1 9 "BeadDesk$Mend" "marks" "[I", Cond.methodLink RX1 15 yX1_markOnly, Cond.instanceMethod yX1_markOnly, Cond.selects RX1 yX1_markOnly yX1_markOnly, Cond.initialized RX1, Cond.code yX1_markOnly cX1_markOnly 2 none, Cond.methodLink RX1 35 yJ7_fill_53178, Cond.static yJ7_fill_53178, Cond.initialized RJ7, Cond.code yJ7_fill_53178 cJ7_fill_53178 4 none, Cond.methodLink RX1 29 yX1_isBehindMarked, Cond.instanceMethod yX1_isBehindMarked, Cond.selects RX1 yX1_isBehindMarked yX1_isBehindMarked, Cond.code yX1_isBehindMarked cX1_isBehindMarked 3 (some .boolean), Cond.fieldLink RX1 51 "BeadDesk$Way" "pieceOf" "[I", Cond.methodLink RX1 44 yX1_isMarked, Cond.instanceMethod yX1_isMarked, Cond.selects RX1 yX1_isMarked yX1_isMarked, Cond.code yX1_isMarked cX1_isMarked 2 (some .boolean), Cond.methodLink RX1 25 yX1_isCaughtOnMarked, Cond.instanceMethod yX1_isCaughtOnMarked, Cond.selects RX1 yX1_isCaughtOnMarked yX1_isCaughtOnMarked, Cond.code yX1_isCaughtOnMarked cX1_isCaughtOnMarked 3 (some .boolean)]
def wsX1_markPulledOut_r2 : List Cond := [Cond.fieldLink RX1 41 "BeadDesk$Way" "lowerOf" "[I", Cond.fieldLink RX1 48 "BeadDesk$Way" "upperOf" "[I", Cond.methodLink RX1 32 yX1_isWovenInMarked, Cond.instanceMethod yX1_isWovenInMarked, Cond.selects RX1 yX1_isWovenInMarked yX1_isWovenInMarked, Cond.code yX1_isWovenInMarked cX1_isWovenInMarked 4 (some .boolean), Cond.fieldLink RX1 54 "BeadDesk$Way" "weave" "I", Cond.methodLink RX1 57 yX3_wovenIn, Cond.instanceMethod yX3_wovenIn, Cond.selects RX3 yX3_wovenIn yX3_wovenIn, Cond.initialized RX3, Cond.code yX3_wovenIn cX3_wovenIn 3 (some .int), Cond.fieldLink RX3 60 "BeadDesk$Way" "pieces" "I", Cond.fieldLink RX3 72 "BeadDesk$Way" "weave" "I", Cond.fieldLink RX3 33 "BeadDesk$Way" "wovenThrough" "[I"]
def wsX1_markPulledOut : List Cond := .code yX1_markPulledOut cX1_markPulledOut 5 (some .int) :: ((wsX1_markPulledOut_r1 ++ wsX1_markPulledOut_r2) ++ wsX30 ++ wsX10)
def wsX2_init : List Cond := .code yX2_init cX2_init 1 none :: ([.methodLink RX2 3 objectInit, .instanceMethod objectInit, .code objectInit ⟨#[0xb1]⟩ 1 none, .arrayClass .int, .fieldLink RX2 9 "BeadDesk$Step" "beads" "[I", .fieldLink RX2 15 "BeadDesk$Step" "size" "I"] ++ wsX20)
def wsX2_empty : List Cond := .code yX2_empty cX2_empty 1 none :: ([.fieldLink RX2 15 "BeadDesk$Step" "size" "I"] ++ wsX20)
def wsX2_pass : List Cond := .code yX2_pass cX2_pass 2 none :: ([.fieldLink RX2 15 "BeadDesk$Step" "size" "I", .fieldLink RX2 9 "BeadDesk$Step" "beads" "[I"] ++ wsX20)
def wsX2_threadNeeded : List Cond := .code yX2_threadNeeded cX2_threadNeeded 5 (some .int) :: ([.fieldLink RX2 15 "BeadDesk$Step" "size" "I", .fieldLink RX2 19 "BeadDesk$Chart" "step" "[I", .fieldLink RX2 9 "BeadDesk$Step" "beads" "[I"] ++ wsX20 ++ wsX00)
def wsX2_passesUpTo : List Cond := .code yX2_passesUpTo cX2_passesUpTo 4 (some .int) :: ([.fieldLink RX2 9 "BeadDesk$Step" "beads" "[I"] ++ wsX20)
def wsX2_fits : List Cond := .code yX2_fits cX2_fits 6 (some .boolean) :: ([.fieldLink RX2 15 "BeadDesk$Step" "size" "I", .fieldLink RX2 9 "BeadDesk$Step" "beads" "[I", .fieldLink RX2 28 "BeadDesk$Chart" "hole" "[I", .methodLink RX2 24 yX2_passesUpTo, .instanceMethod yX2_passesUpTo, .selects RX2 yX2_passesUpTo yX2_passesUpTo, .initialized RX2, .code yX2_passesUpTo cX2_passesUpTo 4 (some .int)] ++ wsX20 ++ wsX00)
def wsX2_countInto : List Cond := .code yX2_countInto cX2_countInto 3 none :: ([.fieldLink RX2 15 "BeadDesk$Step" "size" "I", .fieldLink RX2 9 "BeadDesk$Step" "beads" "[I"] ++ wsX20)
def wsX3_init_r1 : List Cond := [Cond.methodLink RX3 3 objectInit, Cond.instanceMethod objectInit, Cond.code objectInit ⟨#[0xb1]⟩ 1 none, Cond.arrayClass .int, Cond.fieldLink RX3 9 "BeadDesk$Way" "cellOf" "[I", Cond.fieldLink RX3 15 "BeadDesk$Way" "colourOf" "[I", Cond.fieldLink RX3 18 "BeadDesk$Way" "pieceOf" "[I", Cond.fieldLink RX3 21 "BeadDesk$Way" "passesOf" "[I", Cond.fieldLink RX3 24 "BeadDesk$Way" "lowerOf" "[I", Cond.fieldLink RX3 27 "BeadDesk$Way" "upperOf" "[I", Cond.fieldLink RX3 30 "BeadDesk$Way" "pickOf" "[I", Cond.fieldLink RX3 33 "BeadDesk$Way" "wovenThrough" "[I", Cond.fieldLink RX3 36 "BeadDesk$Way" "wovenOff" "[I", Cond.classLink RX3 39 RX2, Cond.instantiable RX2 2, Cond.initialized RX2, Cond.fieldLink RX3 42 "BeadDesk$Way" "step" "LBeadDesk$Step;", Cond.fieldLink RX3 46 "BeadDesk$Way" "followed" "Z", Cond.fieldLink RX3 50 "BeadDesk$Way" "pickedCount" "I", Cond.fieldLink RX3 54 "BeadDesk$Way" "fault" "I", Cond.fieldLink RX3 57 "BeadDesk$Way" "faultCell" "I", Cond.fieldLink RX3 60 "BeadDesk$Way" "pieces" "I", Cond.fieldLink RX3 63 "BeadDesk$Way" "used" "I", Cond.fieldLink RX3 66 "BeadDesk$Way" "left" "I"]
def wsX3_init_r2 : List Cond := [Cond.fieldLink RX3 69 "BeadDesk$Way" "passes" "I", Cond.fieldLink RX3 72 "BeadDesk$Way" "weave" "I", Cond.instanceMethod yX2_init, Cond.code yX2_init cX2_init 1 none, Cond.methodLink RX2 3 objectInit, Cond.fieldLink RX2 9 "BeadDesk$Step" "beads" "[I", Cond.fieldLink RX2 15 "BeadDesk$Step" "size" "I", Cond.methodLink RX3 75 yJ7_fill_53178, Cond.static yJ7_fill_53178, Cond.initialized RJ7, Cond.code yJ7_fill_53178 cJ7_fill_53178 4 none]
def wsX3_init : List Cond := .code yX3_init cX3_init 1 none :: ((wsX3_init_r1 ++ wsX3_init_r2) ++ wsX30 ++ wsX20)
def wsX3_has : List Cond := .code yX3_has cX3_has 2 (some .boolean) :: ([.fieldLink RX3 50 "BeadDesk$Way" "pickedCount" "I"] ++ wsX30)
def wsX3_isCheaperThan : List Cond := .code yX3_isCheaperThan cX3_isCheaperThan 2 (some .boolean) :: ([.fieldLink RX3 60 "BeadDesk$Way" "pieces" "I", .fieldLink RX3 63 "BeadDesk$Way" "used" "I"] ++ wsX30)
def wsX3_pickAt : List Cond := .code yX3_pickAt cX3_pickAt 3 (some .int) :: ([.fieldLink RX3 30 "BeadDesk$Way" "pickOf" "[I", .static yX4_isCell, .initialized RX4, .code yX4_isCell cX4_isCell 2 (some .boolean), .methodLink RX4 45 yX4_isWithin, .static yX4_isWithin, .code yX4_isWithin cX4_isWithin 3 (some .boolean)] ++ wsX30)
def wsX3_caughtCount : List Cond := .code yX3_caughtCount cX3_caughtCount 2 (some .int) :: ([.fieldLink RX3 24 "BeadDesk$Way" "lowerOf" "[I", .fieldLink RX3 27 "BeadDesk$Way" "upperOf" "[I"] ++ wsX30)
def wsX3_startAnew : List Cond := .code yX3_startAnew cX3_startAnew 2 none :: ([.fieldLink RX3 30 "BeadDesk$Way" "pickOf" "[I", .fieldLink RX3 46 "BeadDesk$Way" "followed" "Z", .fieldLink RX3 50 "BeadDesk$Way" "pickedCount" "I", .fieldLink RX3 54 "BeadDesk$Way" "fault" "I", .fieldLink RX3 57 "BeadDesk$Way" "faultCell" "I", .fieldLink RX3 60 "BeadDesk$Way" "pieces" "I", .fieldLink RX3 63 "BeadDesk$Way" "used" "I", .fieldLink RX3 66 "BeadDesk$Way" "left" "I", .fieldLink RX3 69 "BeadDesk$Way" "passes" "I", .fieldLink RX3 102 "BeadDesk$Chart" "weave" "I", .fieldLink RX3 72 "BeadDesk$Way" "weave" "I", .methodLink RX3 75 yJ7_fill_53178, .static yJ7_fill_53178, .initialized RJ7, .code yJ7_fill_53178 cJ7_fill_53178 4 none] ++ wsX30 ++ wsX00)
def wsX3_layOut_r1 : List Cond := [Cond.fieldLink RX3 50 "BeadDesk$Way" "pickedCount" "I", Cond.fieldLink RX3 9 "BeadDesk$Way" "cellOf" "[I", Cond.fieldLink RX3 15 "BeadDesk$Way" "colourOf" "[I", Cond.fieldLink RX3 21 "BeadDesk$Way" "passesOf" "[I", Cond.fieldLink RX3 24 "BeadDesk$Way" "lowerOf" "[I", Cond.fieldLink RX3 27 "BeadDesk$Way" "upperOf" "[I", Cond.methodLink RX3 103 yX0_colourAt, Cond.instanceMethod yX0_colourAt, Cond.selects RX0 yX0_colourAt yX0_colourAt, Cond.initialized RX0, Cond.code yX0_colourAt cX0_colourAt 3 (some .int), Cond.fieldLink RX0 9 "BeadDesk$Chart" "cells" "[I", Cond.static yX4_isCell, Cond.initialized RX4, Cond.code yX4_isCell cX4_isCell 2 (some .boolean), Cond.methodLink RX4 45 yX4_isWithin, Cond.static yX4_isWithin, Cond.code yX4_isWithin cX4_isWithin 3 (some .boolean), Cond.methodLink RX3 123 yX0_lowerCatch, Cond.instanceMethod yX0_lowerCatch, Cond.selects RX0 yX0_lowerCatch yX0_lowerCatch, Cond.code yX0_lowerCatch cX0_lowerCatch 3 (some .int), Cond.fieldLink RX0 24 "BeadDesk$Chart" "stitch" "I", Cond.methodLink RX0 74 Lib.Math.min.name]
def wsX3_layOut_r2 : List Cond := [Cond.static Lib.Math.min.name, Cond.initialized "java/lang/Math", Cond.code Lib.Math.min.name Lib.Math.min.code 2 (some .int), Cond.methodLink RX0 68 yX0_leftCatch, Cond.instanceMethod yX0_leftCatch, Cond.selects RX0 yX0_leftCatch yX0_leftCatch, Cond.code yX0_leftCatch cX0_leftCatch 3 (some .int), Cond.methodLink RX0 82 yX0_aroundTheRing, Cond.instanceMethod yX0_aroundTheRing, Cond.selects RX0 yX0_aroundTheRing yX0_aroundTheRing, Cond.code yX0_aroundTheRing cX0_aroundTheRing 2 (some .int), Cond.fieldLink RX0 28 "BeadDesk$Chart" "width" "I", Cond.methodLink RX0 71 yX0_rightCatch, Cond.instanceMethod yX0_rightCatch, Cond.selects RX0 yX0_rightCatch yX0_rightCatch, Cond.code yX0_rightCatch cX0_rightCatch 3 (some .int), Cond.methodLink RX3 126 yX3_pickAt, Cond.instanceMethod yX3_pickAt, Cond.selects RX3 yX3_pickAt yX3_pickAt, Cond.initialized RX3, Cond.code yX3_pickAt cX3_pickAt 3 (some .int), Cond.fieldLink RX3 30 "BeadDesk$Way" "pickOf" "[I", Cond.methodLink RX3 129 yX0_upperCatch, Cond.instanceMethod yX0_upperCatch]
def wsX3_layOut_r3 : List Cond := [Cond.selects RX0 yX0_upperCatch yX0_upperCatch, Cond.code yX0_upperCatch cX0_upperCatch 3 (some .int), Cond.methodLink RX0 79 Lib.Math.max.name, Cond.static Lib.Math.max.name, Cond.code Lib.Math.max.name Lib.Math.max.code 2 (some .int)]
def wsX3_layOut : List Cond := .code yX3_layOut cX3_layOut 6 none :: ((wsX3_layOut_r1 ++ (wsX3_layOut_r2 ++ wsX3_layOut_r3)) ++ wsX30 ++ wsX00)
def wsX3_gatherInFirstRow : List Cond := .code yX3_gatherInFirstRow cX3_gatherInFirstRow 4 none :: ([.fieldLink RX3 50 "BeadDesk$Way" "pickedCount" "I", .fieldLink RX3 42 "BeadDesk$Way" "step" "LBeadDesk$Step;", .methodLink RX3 132 yX2_empty, .instanceMethod yX2_empty, .selects RX2 yX2_empty yX2_empty, .initialized RX2, .code yX2_empty cX2_empty 1 none, .fieldLink RX2 15 "BeadDesk$Step" "size" "I", .methodLink RX3 135 yX2_pass, .instanceMethod yX2_pass, .selects RX2 yX2_pass yX2_pass, .code yX2_pass cX2_pass 2 none, .fieldLink RX2 9 "BeadDesk$Step" "beads" "[I"] ++ wsX30 ++ wsX20)
def wsX3_gatherInLaterRow : List Cond := .code yX3_gatherInLaterRow cX3_gatherInLaterRow 3 none :: ([.fieldLink RX3 50 "BeadDesk$Way" "pickedCount" "I", .fieldLink RX3 42 "BeadDesk$Way" "step" "LBeadDesk$Step;", .fieldLink RX3 24 "BeadDesk$Way" "lowerOf" "[I", .fieldLink RX3 27 "BeadDesk$Way" "upperOf" "[I", .methodLink RX3 132 yX2_empty, .instanceMethod yX2_empty, .selects RX2 yX2_empty yX2_empty, .initialized RX2, .code yX2_empty cX2_empty 1 none, .fieldLink RX2 15 "BeadDesk$Step" "size" "I", .methodLink RX3 135 yX2_pass, .instanceMethod yX2_pass, .selects RX2 yX2_pass yX2_pass, .code yX2_pass cX2_pass 2 none, .fieldLink RX2 9 "BeadDesk$Step" "beads" "[I"] ++ wsX30 ++ wsX20)
def wsX3_weaveThrough : List Cond := .code yX3_weaveThrough cX3_weaveThrough 6 (some .int) :: ([.fieldLink RX3 50 "BeadDesk$Way" "pickedCount" "I", .fieldLink RX3 72 "BeadDesk$Way" "weave" "I", .fieldLink RX3 21 "BeadDesk$Way" "passesOf" "[I", .fieldLink RX3 179 "BeadDesk$Chart" "hole" "[I", .fieldLink RX3 15 "BeadDesk$Way" "colourOf" "[I"] ++ wsX30 ++ wsX00)
def wsX3_unweave : List Cond := .code yX3_unweave cX3_unweave 5 none :: ([.fieldLink RX3 21 "BeadDesk$Way" "passesOf" "[I"] ++ wsX30)
def wsX3_join : List Cond := .code yX3_join cX3_join 5 (some .boolean) :: ([.fieldLink RX3 36 "BeadDesk$Way" "wovenOff" "[I", .fieldLink RX3 72 "BeadDesk$Way" "weave" "I", .fieldLink RX3 60 "BeadDesk$Way" "pieces" "I", .fieldLink RX3 33 "BeadDesk$Way" "wovenThrough" "[I", .fieldLink RX3 69 "BeadDesk$Way" "passes" "I", .fieldLink RX3 153 "BeadDesk$Chart" "length" "I", .fieldLink RX3 66 "BeadDesk$Way" "left" "I", .methodLink RX3 171 yX3_weaveThrough, .instanceMethod yX3_weaveThrough, .selects RX3 yX3_weaveThrough yX3_weaveThrough, .initialized RX3, .code yX3_weaveThrough cX3_weaveThrough 6 (some .int), .fieldLink RX3 50 "BeadDesk$Way" "pickedCount" "I", .fieldLink RX3 21 "BeadDesk$Way" "passesOf" "[I", .fieldLink RX3 179 "BeadDesk$Chart" "hole" "[I", .fieldLink RX3 15 "BeadDesk$Way" "colourOf" "[I", .methodLink RX3 175 yX3_unweave, .instanceMethod yX3_unweave, .selects RX3 yX3_unweave yX3_unweave, .code yX3_unweave cX3_unweave 5 none] ++ wsX30 ++ wsX00)
def wsX3_faultAhead_r1 : List Cond := [Cond.fieldLink RX3 50 "BeadDesk$Way" "pickedCount" "I", Cond.fieldLink RX3 153 "BeadDesk$Chart" "length" "I", Cond.fieldLink RX3 60 "BeadDesk$Way" "pieces" "I", Cond.fieldLink RX3 66 "BeadDesk$Way" "left" "I", Cond.fieldLink RX3 42 "BeadDesk$Way" "step" "LBeadDesk$Step;", Cond.fieldLink RX3 15 "BeadDesk$Way" "colourOf" "[I", Cond.fieldLink RX3 21 "BeadDesk$Way" "passesOf" "[I", Cond.methodLink RX3 150 yX3_caughtCount, Cond.instanceMethod yX3_caughtCount, Cond.selects RX3 yX3_caughtCount yX3_caughtCount, Cond.initialized RX3, Cond.code yX3_caughtCount cX3_caughtCount 2 (some .int), Cond.fieldLink RX3 24 "BeadDesk$Way" "lowerOf" "[I", Cond.fieldLink RX3 27 "BeadDesk$Way" "upperOf" "[I", Cond.methodLink RX3 156 yX3_join, Cond.instanceMethod yX3_join, Cond.selects RX3 yX3_join yX3_join, Cond.code yX3_join cX3_join 5 (some .boolean), Cond.fieldLink RX3 36 "BeadDesk$Way" "wovenOff" "[I", Cond.fieldLink RX3 72 "BeadDesk$Way" "weave" "I", Cond.fieldLink RX3 33 "BeadDesk$Way" "wovenThrough" "[I", Cond.fieldLink RX3 69 "BeadDesk$Way" "passes" "I", Cond.methodLink RX3 171 yX3_weaveThrough, Cond.instanceMethod yX3_weaveThrough]
def wsX3_faultAhead_r2 : List Cond := [Cond.selects RX3 yX3_weaveThrough yX3_weaveThrough, Cond.code yX3_weaveThrough cX3_weaveThrough 6 (some .int), Cond.fieldLink RX3 179 "BeadDesk$Chart" "hole" "[I", Cond.methodLink RX3 175 yX3_unweave, Cond.instanceMethod yX3_unweave, Cond.selects RX3 yX3_unweave yX3_unweave, Cond.code yX3_unweave cX3_unweave 5 none, Cond.methodLink RX3 160 yX2_fits, Cond.instanceMethod yX2_fits, Cond.selects RX2 yX2_fits yX2_fits, Cond.initialized RX2, Cond.code yX2_fits cX2_fits 6 (some .boolean), Cond.fieldLink RX2 15 "BeadDesk$Step" "size" "I", Cond.fieldLink RX2 9 "BeadDesk$Step" "beads" "[I", Cond.fieldLink RX2 28 "BeadDesk$Chart" "hole" "[I", Cond.methodLink RX2 24 yX2_passesUpTo, Cond.instanceMethod yX2_passesUpTo, Cond.selects RX2 yX2_passesUpTo yX2_passesUpTo, Cond.code yX2_passesUpTo cX2_passesUpTo 4 (some .int)]
def wsX3_faultAhead : List Cond := .code yX3_faultAhead cX3_faultAhead 4 (some .int) :: ((wsX3_faultAhead_r1 ++ wsX3_faultAhead_r2) ++ wsX30 ++ wsX00 ++ wsX20)
def wsX3_pickUp : List Cond := .code yX3_pickUp cX3_pickUp 3 none :: ([.fieldLink RX3 60 "BeadDesk$Way" "pieces" "I", .fieldLink RX3 153 "BeadDesk$Chart" "length" "I", .fieldLink RX3 66 "BeadDesk$Way" "left" "I", .fieldLink RX3 18 "BeadDesk$Way" "pieceOf" "[I", .fieldLink RX3 50 "BeadDesk$Way" "pickedCount" "I", .fieldLink RX3 30 "BeadDesk$Way" "pickOf" "[I", .fieldLink RX3 9 "BeadDesk$Way" "cellOf" "[I", .fieldLink RX3 42 "BeadDesk$Way" "step" "LBeadDesk$Step;", .fieldLink RX3 21 "BeadDesk$Way" "passesOf" "[I", .fieldLink RX3 69 "BeadDesk$Way" "passes" "I", .fieldLink RX3 168 "BeadDesk$Step" "size" "I", .fieldLink RX3 63 "BeadDesk$Way" "used" "I", .methodLink RX3 164 yX2_countInto, .instanceMethod yX2_countInto, .selects RX2 yX2_countInto yX2_countInto, .initialized RX2, .code yX2_countInto cX2_countInto 3 none, .fieldLink RX2 15 "BeadDesk$Step" "size" "I", .fieldLink RX2 9 "BeadDesk$Step" "beads" "[I"] ++ wsX30 ++ wsX00 ++ wsX20)
def wsX3_doStep_r1 : List Cond := [Cond.fieldLink RX3 42 "BeadDesk$Way" "step" "LBeadDesk$Step;", Cond.fieldLink RX3 15 "BeadDesk$Way" "colourOf" "[I", Cond.fieldLink RX3 54 "BeadDesk$Way" "fault" "I", Cond.fieldLink RX3 9 "BeadDesk$Way" "cellOf" "[I", Cond.fieldLink RX3 50 "BeadDesk$Way" "pickedCount" "I", Cond.fieldLink RX3 57 "BeadDesk$Way" "faultCell" "I", Cond.methodLink RX3 138 yX2_threadNeeded, Cond.instanceMethod yX2_threadNeeded, Cond.selects RX2 yX2_threadNeeded yX2_threadNeeded, Cond.initialized RX2, Cond.code yX2_threadNeeded cX2_threadNeeded 5 (some .int), Cond.fieldLink RX2 15 "BeadDesk$Step" "size" "I", Cond.fieldLink RX2 19 "BeadDesk$Chart" "step" "[I", Cond.fieldLink RX2 9 "BeadDesk$Step" "beads" "[I", Cond.methodLink RX3 142 yX3_faultAhead, Cond.instanceMethod yX3_faultAhead, Cond.selects RX3 yX3_faultAhead yX3_faultAhead, Cond.initialized RX3, Cond.code yX3_faultAhead cX3_faultAhead 4 (some .int), Cond.fieldLink RX3 153 "BeadDesk$Chart" "length" "I", Cond.fieldLink RX3 60 "BeadDesk$Way" "pieces" "I", Cond.fieldLink RX3 66 "BeadDesk$Way" "left" "I", Cond.fieldLink RX3 21 "BeadDesk$Way" "passesOf" "[I", Cond.methodLink RX3 150 yX3_caughtCount]
def wsX3_doStep_r2 : List Cond := [Cond.instanceMethod yX3_caughtCount, Cond.selects RX3 yX3_caughtCount yX3_caughtCount, Cond.code yX3_caughtCount cX3_caughtCount 2 (some .int), Cond.fieldLink RX3 24 "BeadDesk$Way" "lowerOf" "[I", Cond.fieldLink RX3 27 "BeadDesk$Way" "upperOf" "[I", Cond.methodLink RX3 156 yX3_join, Cond.instanceMethod yX3_join, Cond.selects RX3 yX3_join yX3_join, Cond.code yX3_join cX3_join 5 (some .boolean), Cond.fieldLink RX3 36 "BeadDesk$Way" "wovenOff" "[I", Cond.fieldLink RX3 72 "BeadDesk$Way" "weave" "I", Cond.fieldLink RX3 33 "BeadDesk$Way" "wovenThrough" "[I", Cond.fieldLink RX3 69 "BeadDesk$Way" "passes" "I", Cond.methodLink RX3 171 yX3_weaveThrough, Cond.instanceMethod yX3_weaveThrough, Cond.selects RX3 yX3_weaveThrough yX3_weaveThrough, Cond.code yX3_weaveThrough cX3_weaveThrough 6 (some .int), Cond.fieldLink RX3 179 "BeadDesk$Chart" "hole" "[I", Cond.methodLink RX3 175 yX3_unweave, Cond.instanceMethod yX3_unweave, Cond.selects RX3 yX3_unweave yX3_unweave, Cond.code yX3_unweave cX3_unweave 5 none, Cond.methodLink RX3 160 yX2_fits, Cond.instanceMethod yX2_fits]
def wsX3_doStep_r3 : List Cond := [Cond.selects RX2 yX2_fits yX2_fits, Cond.code yX2_fits cX2_fits 6 (some .boolean), Cond.fieldLink RX2 28 "BeadDesk$Chart" "hole" "[I", Cond.methodLink RX2 24 yX2_passesUpTo, Cond.instanceMethod yX2_passesUpTo, Cond.selects RX2 yX2_passesUpTo yX2_passesUpTo, Cond.code yX2_passesUpTo cX2_passesUpTo 4 (some .int), Cond.methodLink RX3 146 yX3_pickUp, Cond.instanceMethod yX3_pickUp, Cond.selects RX3 yX3_pickUp yX3_pickUp, Cond.code yX3_pickUp cX3_pickUp 3 none, Cond.fieldLink RX3 18 "BeadDesk$Way" "pieceOf" "[I", Cond.fieldLink RX3 30 "BeadDesk$Way" "pickOf" "[I", Cond.fieldLink RX3 168 "BeadDesk$Step" "size" "I", Cond.fieldLink RX3 63 "BeadDesk$Way" "used" "I", Cond.methodLink RX3 164 yX2_countInto, Cond.instanceMethod yX2_countInto, Cond.selects RX2 yX2_countInto yX2_countInto, Cond.code yX2_countInto cX2_countInto 3 none]
def wsX3_doStep : List Cond := .code yX3_doStep cX3_doStep 4 none :: ((wsX3_doStep_r1 ++ (wsX3_doStep_r2 ++ wsX3_doStep_r3)) ++ wsX30 ++ wsX20 ++ wsX00)
def wsX3_followRow_r1 : List Cond := [Cond.fieldLink RX3 50 "BeadDesk$Way" "pickedCount" "I", Cond.fieldLink RX3 54 "BeadDesk$Way" "fault" "I", Cond.fieldLink RX3 99 "BeadDesk$Chart" "width" "I", Cond.methodLink RX3 89 yX0_beadsInRow, Cond.instanceMethod yX0_beadsInRow, Cond.selects RX0 yX0_beadsInRow yX0_beadsInRow, Cond.initialized RX0, Cond.code yX0_beadsInRow cX0_beadsInRow 4 (some .int), Cond.methodLink RX0 57 yX0_colourAt, Cond.instanceMethod yX0_colourAt, Cond.selects RX0 yX0_colourAt yX0_colourAt, Cond.code yX0_colourAt cX0_colourAt 3 (some .int), Cond.fieldLink RX0 9 "BeadDesk$Chart" "cells" "[I", Cond.static yX4_isCell, Cond.initialized RX4, Cond.code yX4_isCell cX4_isCell 2 (some .boolean), Cond.methodLink RX4 45 yX4_isWithin, Cond.static yX4_isWithin, Cond.code yX4_isWithin cX4_isWithin 3 (some .boolean), Cond.methodLink RX3 103 yX0_colourAt, Cond.methodLink RX3 107 yX3_layOut, Cond.instanceMethod yX3_layOut, Cond.selects RX3 yX3_layOut yX3_layOut, Cond.initialized RX3]
def wsX3_followRow_r2 : List Cond := [Cond.code yX3_layOut cX3_layOut 6 none, Cond.fieldLink RX3 9 "BeadDesk$Way" "cellOf" "[I", Cond.fieldLink RX3 15 "BeadDesk$Way" "colourOf" "[I", Cond.fieldLink RX3 21 "BeadDesk$Way" "passesOf" "[I", Cond.fieldLink RX3 24 "BeadDesk$Way" "lowerOf" "[I", Cond.fieldLink RX3 27 "BeadDesk$Way" "upperOf" "[I", Cond.methodLink RX3 123 yX0_lowerCatch, Cond.instanceMethod yX0_lowerCatch, Cond.selects RX0 yX0_lowerCatch yX0_lowerCatch, Cond.code yX0_lowerCatch cX0_lowerCatch 3 (some .int), Cond.fieldLink RX0 24 "BeadDesk$Chart" "stitch" "I", Cond.methodLink RX0 74 Lib.Math.min.name, Cond.static Lib.Math.min.name, Cond.initialized "java/lang/Math", Cond.code Lib.Math.min.name Lib.Math.min.code 2 (some .int), Cond.methodLink RX0 68 yX0_leftCatch, Cond.instanceMethod yX0_leftCatch, Cond.selects RX0 yX0_leftCatch yX0_leftCatch, Cond.code yX0_leftCatch cX0_leftCatch 3 (some .int), Cond.methodLink RX0 82 yX0_aroundTheRing, Cond.instanceMethod yX0_aroundTheRing, Cond.selects RX0 yX0_aroundTheRing yX0_aroundTheRing, Cond.code yX0_aroundTheRing cX0_aroundTheRing 2 (some .int), Cond.fieldLink RX0 28 "BeadDesk$Chart" "width" "I"]
def wsX3_followRow_r3 : List Cond := [Cond.methodLink RX0 71 yX0_rightCatch, Cond.instanceMethod yX0_rightCatch, Cond.selects RX0 yX0_rightCatch yX0_rightCatch, Cond.code yX0_rightCatch cX0_rightCatch 3 (some .int), Cond.methodLink RX3 126 yX3_pickAt, Cond.instanceMethod yX3_pickAt, Cond.selects RX3 yX3_pickAt yX3_pickAt, Cond.code yX3_pickAt cX3_pickAt 3 (some .int), Cond.fieldLink RX3 30 "BeadDesk$Way" "pickOf" "[I", Cond.methodLink RX3 129 yX0_upperCatch, Cond.instanceMethod yX0_upperCatch, Cond.selects RX0 yX0_upperCatch yX0_upperCatch, Cond.code yX0_upperCatch cX0_upperCatch 3 (some .int), Cond.methodLink RX0 79 Lib.Math.max.name, Cond.static Lib.Math.max.name, Cond.code Lib.Math.max.name Lib.Math.max.code 2 (some .int), Cond.methodLink RX3 111 yX3_gatherInFirstRow, Cond.instanceMethod yX3_gatherInFirstRow, Cond.selects RX3 yX3_gatherInFirstRow yX3_gatherInFirstRow, Cond.code yX3_gatherInFirstRow cX3_gatherInFirstRow 4 none, Cond.fieldLink RX3 42 "BeadDesk$Way" "step" "LBeadDesk$Step;", Cond.methodLink RX3 132 yX2_empty, Cond.instanceMethod yX2_empty, Cond.selects RX2 yX2_empty yX2_empty]
def wsX3_followRow_r4 : List Cond := [Cond.initialized RX2, Cond.code yX2_empty cX2_empty 1 none, Cond.fieldLink RX2 15 "BeadDesk$Step" "size" "I", Cond.methodLink RX3 135 yX2_pass, Cond.instanceMethod yX2_pass, Cond.selects RX2 yX2_pass yX2_pass, Cond.code yX2_pass cX2_pass 2 none, Cond.fieldLink RX2 9 "BeadDesk$Step" "beads" "[I", Cond.methodLink RX3 115 yX3_gatherInLaterRow, Cond.instanceMethod yX3_gatherInLaterRow, Cond.selects RX3 yX3_gatherInLaterRow yX3_gatherInLaterRow, Cond.code yX3_gatherInLaterRow cX3_gatherInLaterRow 3 none, Cond.methodLink RX3 119 yX3_doStep, Cond.instanceMethod yX3_doStep, Cond.selects RX3 yX3_doStep yX3_doStep, Cond.code yX3_doStep cX3_doStep 4 none, Cond.fieldLink RX3 57 "BeadDesk$Way" "faultCell" "I", Cond.methodLink RX3 138 yX2_threadNeeded, Cond.instanceMethod yX2_threadNeeded, Cond.selects RX2 yX2_threadNeeded yX2_threadNeeded, Cond.code yX2_threadNeeded cX2_threadNeeded 5 (some .int), Cond.fieldLink RX2 19 "BeadDesk$Chart" "step" "[I", Cond.methodLink RX3 142 yX3_faultAhead, Cond.instanceMethod yX3_faultAhead]
def wsX3_followRow_r5 : List Cond := [Cond.selects RX3 yX3_faultAhead yX3_faultAhead, Cond.code yX3_faultAhead cX3_faultAhead 4 (some .int), Cond.fieldLink RX3 153 "BeadDesk$Chart" "length" "I", Cond.fieldLink RX3 60 "BeadDesk$Way" "pieces" "I", Cond.fieldLink RX3 66 "BeadDesk$Way" "left" "I", Cond.methodLink RX3 150 yX3_caughtCount, Cond.instanceMethod yX3_caughtCount, Cond.selects RX3 yX3_caughtCount yX3_caughtCount, Cond.code yX3_caughtCount cX3_caughtCount 2 (some .int), Cond.methodLink RX3 156 yX3_join, Cond.instanceMethod yX3_join, Cond.selects RX3 yX3_join yX3_join, Cond.code yX3_join cX3_join 5 (some .boolean), Cond.fieldLink RX3 36 "BeadDesk$Way" "wovenOff" "[I", Cond.fieldLink RX3 72 "BeadDesk$Way" "weave" "I", Cond.fieldLink RX3 33 "BeadDesk$Way" "wovenThrough" "[I", Cond.fieldLink RX3 69 "BeadDesk$Way" "passes" "I", Cond.methodLink RX3 171 yX3_weaveThrough, Cond.instanceMethod yX3_weaveThrough, Cond.selects RX3 yX3_weaveThrough yX3_weaveThrough, Cond.code yX3_weaveThrough cX3_weaveThrough 6 (some .int), Cond.fieldLink RX3 179 "BeadDesk$Chart" "hole" "[I", Cond.methodLink RX3 175 yX3_unweave, Cond.instanceMethod yX3_unweave]
def wsX3_followRow_r6 : List Cond := [Cond.selects RX3 yX3_unweave yX3_unweave, Cond.code yX3_unweave cX3_unweave 5 none, Cond.methodLink RX3 160 yX2_fits, Cond.instanceMethod yX2_fits, Cond.selects RX2 yX2_fits yX2_fits, Cond.code yX2_fits cX2_fits 6 (some .boolean), Cond.fieldLink RX2 28 "BeadDesk$Chart" "hole" "[I", Cond.methodLink RX2 24 yX2_passesUpTo, Cond.instanceMethod yX2_passesUpTo, Cond.selects RX2 yX2_passesUpTo yX2_passesUpTo, Cond.code yX2_passesUpTo cX2_passesUpTo 4 (some .int), Cond.methodLink RX3 146 yX3_pickUp, Cond.instanceMethod yX3_pickUp, Cond.selects RX3 yX3_pickUp yX3_pickUp, Cond.code yX3_pickUp cX3_pickUp 3 none, Cond.fieldLink RX3 18 "BeadDesk$Way" "pieceOf" "[I", Cond.fieldLink RX3 168 "BeadDesk$Step" "size" "I", Cond.fieldLink RX3 63 "BeadDesk$Way" "used" "I", Cond.methodLink RX3 164 yX2_countInto, Cond.instanceMethod yX2_countInto, Cond.selects RX2 yX2_countInto yX2_countInto, Cond.code yX2_countInto cX2_countInto 3 none]
def wsX3_followRow : List Cond := .code yX3_followRow cX3_followRow 13 none :: ((wsX3_followRow_r1 ++ (wsX3_followRow_r2 ++ (wsX3_followRow_r3 ++ (wsX3_followRow_r4 ++ (wsX3_followRow_r5 ++ wsX3_followRow_r6))))) ++ wsX30 ++ wsX00 ++ wsX20)
def wsX3_follow_r1 : List Cond := [Cond.fieldLink RX3 54 "BeadDesk$Way" "fault" "I", Cond.fieldLink RX3 50 "BeadDesk$Way" "pickedCount" "I", Cond.fieldLink RX3 99 "BeadDesk$Chart" "width" "I", Cond.methodLink RX3 85 yX3_startAnew, Cond.instanceMethod yX3_startAnew, Cond.selects RX3 yX3_startAnew yX3_startAnew, Cond.initialized RX3, Cond.code yX3_startAnew cX3_startAnew 2 none, Cond.fieldLink RX3 30 "BeadDesk$Way" "pickOf" "[I", Cond.fieldLink RX3 46 "BeadDesk$Way" "followed" "Z", Cond.fieldLink RX3 57 "BeadDesk$Way" "faultCell" "I", Cond.fieldLink RX3 60 "BeadDesk$Way" "pieces" "I", Cond.fieldLink RX3 63 "BeadDesk$Way" "used" "I", Cond.fieldLink RX3 66 "BeadDesk$Way" "left" "I", Cond.fieldLink RX3 69 "BeadDesk$Way" "passes" "I", Cond.fieldLink RX3 102 "BeadDesk$Chart" "weave" "I", Cond.fieldLink RX3 72 "BeadDesk$Way" "weave" "I", Cond.methodLink RX3 75 yJ7_fill_53178, Cond.static yJ7_fill_53178, Cond.initialized RJ7, Cond.code yJ7_fill_53178 cJ7_fill_53178 4 none, Cond.methodLink RX3 89 yX0_beadsInRow, Cond.instanceMethod yX0_beadsInRow, Cond.selects RX0 yX0_beadsInRow yX0_beadsInRow]
def wsX3_follow_r2 : List Cond := [Cond.initialized RX0, Cond.code yX0_beadsInRow cX0_beadsInRow 4 (some .int), Cond.methodLink RX0 57 yX0_colourAt, Cond.instanceMethod yX0_colourAt, Cond.selects RX0 yX0_colourAt yX0_colourAt, Cond.code yX0_colourAt cX0_colourAt 3 (some .int), Cond.fieldLink RX0 9 "BeadDesk$Chart" "cells" "[I", Cond.static yX4_isCell, Cond.initialized RX4, Cond.code yX4_isCell cX4_isCell 2 (some .boolean), Cond.methodLink RX4 45 yX4_isWithin, Cond.static yX4_isWithin, Cond.code yX4_isWithin cX4_isWithin 3 (some .boolean), Cond.methodLink RX3 95 yX3_followRow, Cond.instanceMethod yX3_followRow, Cond.selects RX3 yX3_followRow yX3_followRow, Cond.code yX3_followRow cX3_followRow 13 none, Cond.methodLink RX3 103 yX0_colourAt, Cond.methodLink RX3 107 yX3_layOut, Cond.instanceMethod yX3_layOut, Cond.selects RX3 yX3_layOut yX3_layOut, Cond.code yX3_layOut cX3_layOut 6 none, Cond.fieldLink RX3 9 "BeadDesk$Way" "cellOf" "[I", Cond.fieldLink RX3 15 "BeadDesk$Way" "colourOf" "[I"]
def wsX3_follow_r3 : List Cond := [Cond.fieldLink RX3 21 "BeadDesk$Way" "passesOf" "[I", Cond.fieldLink RX3 24 "BeadDesk$Way" "lowerOf" "[I", Cond.fieldLink RX3 27 "BeadDesk$Way" "upperOf" "[I", Cond.methodLink RX3 123 yX0_lowerCatch, Cond.instanceMethod yX0_lowerCatch, Cond.selects RX0 yX0_lowerCatch yX0_lowerCatch, Cond.code yX0_lowerCatch cX0_lowerCatch 3 (some .int), Cond.fieldLink RX0 24 "BeadDesk$Chart" "stitch" "I", Cond.methodLink RX0 74 Lib.Math.min.name, Cond.static Lib.Math.min.name, Cond.initialized "java/lang/Math", Cond.code Lib.Math.min.name Lib.Math.min.code 2 (some .int), Cond.methodLink RX0 68 yX0_leftCatch, Cond.instanceMethod yX0_leftCatch, Cond.selects RX0 yX0_leftCatch yX0_leftCatch, Cond.code yX0_leftCatch cX0_leftCatch 3 (some .int), Cond.methodLink RX0 82 yX0_aroundTheRing, Cond.instanceMethod yX0_aroundTheRing, Cond.selects RX0 yX0_aroundTheRing yX0_aroundTheRing, Cond.code yX0_aroundTheRing cX0_aroundTheRing 2 (some .int), Cond.fieldLink RX0 28 "BeadDesk$Chart" "width" "I", Cond.methodLink RX0 71 yX0_rightCatch, Cond.instanceMethod yX0_rightCatch, Cond.selects RX0 yX0_rightCatch yX0_rightCatch]
def wsX3_follow_r4 : List Cond := [Cond.code yX0_rightCatch cX0_rightCatch 3 (some .int), Cond.methodLink RX3 126 yX3_pickAt, Cond.instanceMethod yX3_pickAt, Cond.selects RX3 yX3_pickAt yX3_pickAt, Cond.code yX3_pickAt cX3_pickAt 3 (some .int), Cond.methodLink RX3 129 yX0_upperCatch, Cond.instanceMethod yX0_upperCatch, Cond.selects RX0 yX0_upperCatch yX0_upperCatch, Cond.code yX0_upperCatch cX0_upperCatch 3 (some .int), Cond.methodLink RX0 79 Lib.Math.max.name, Cond.static Lib.Math.max.name, Cond.code Lib.Math.max.name Lib.Math.max.code 2 (some .int), Cond.methodLink RX3 111 yX3_gatherInFirstRow, Cond.instanceMethod yX3_gatherInFirstRow, Cond.selects RX3 yX3_gatherInFirstRow yX3_gatherInFirstRow, Cond.code yX3_gatherInFirstRow cX3_gatherInFirstRow 4 none, Cond.fieldLink RX3 42 "BeadDesk$Way" "step" "LBeadDesk$Step;", Cond.methodLink RX3 132 yX2_empty, Cond.instanceMethod yX2_empty, Cond.selects RX2 yX2_empty yX2_empty, Cond.initialized RX2, Cond.code yX2_empty cX2_empty 1 none, Cond.fieldLink RX2 15 "BeadDesk$Step" "size" "I", Cond.methodLink RX3 135 yX2_pass]
def wsX3_follow_r5 : List Cond := [Cond.instanceMethod yX2_pass, Cond.selects RX2 yX2_pass yX2_pass, Cond.code yX2_pass cX2_pass 2 none, Cond.fieldLink RX2 9 "BeadDesk$Step" "beads" "[I", Cond.methodLink RX3 115 yX3_gatherInLaterRow, Cond.instanceMethod yX3_gatherInLaterRow, Cond.selects RX3 yX3_gatherInLaterRow yX3_gatherInLaterRow, Cond.code yX3_gatherInLaterRow cX3_gatherInLaterRow 3 none, Cond.methodLink RX3 119 yX3_doStep, Cond.instanceMethod yX3_doStep, Cond.selects RX3 yX3_doStep yX3_doStep, Cond.code yX3_doStep cX3_doStep 4 none, Cond.methodLink RX3 138 yX2_threadNeeded, Cond.instanceMethod yX2_threadNeeded, Cond.selects RX2 yX2_threadNeeded yX2_threadNeeded, Cond.code yX2_threadNeeded cX2_threadNeeded 5 (some .int), Cond.fieldLink RX2 19 "BeadDesk$Chart" "step" "[I", Cond.methodLink RX3 142 yX3_faultAhead, Cond.instanceMethod yX3_faultAhead, Cond.selects RX3 yX3_faultAhead yX3_faultAhead, Cond.code yX3_faultAhead cX3_faultAhead 4 (some .int), Cond.fieldLink RX3 153 "BeadDesk$Chart" "length" "I", Cond.methodLink RX3 150 yX3_caughtCount, Cond.instanceMethod yX3_caughtCount]
def wsX3_follow_r6 : List Cond := [Cond.selects RX3 yX3_caughtCount yX3_caughtCount, Cond.code yX3_caughtCount cX3_caughtCount 2 (some .int), Cond.methodLink RX3 156 yX3_join, Cond.instanceMethod yX3_join, Cond.selects RX3 yX3_join yX3_join, Cond.code yX3_join cX3_join 5 (some .boolean), Cond.fieldLink RX3 36 "BeadDesk$Way" "wovenOff" "[I", Cond.fieldLink RX3 33 "BeadDesk$Way" "wovenThrough" "[I", Cond.methodLink RX3 171 yX3_weaveThrough, Cond.instanceMethod yX3_weaveThrough, Cond.selects RX3 yX3_weaveThrough yX3_weaveThrough, Cond.code yX3_weaveThrough cX3_weaveThrough 6 (some .int), Cond.fieldLink RX3 179 "BeadDesk$Chart" "hole" "[I", Cond.methodLink RX3 175 yX3_unweave, Cond.instanceMethod yX3_unweave, Cond.selects RX3 yX3_unweave yX3_unweave, Cond.code yX3_unweave cX3_unweave 5 none, Cond.methodLink RX3 160 yX2_fits, Cond.instanceMethod yX2_fits, Cond.selects RX2 yX2_fits yX2_fits, Cond.code yX2_fits cX2_fits 6 (some .boolean), Cond.fieldLink RX2 28 "BeadDesk$Chart" "hole" "[I", Cond.methodLink RX2 24 yX2_passesUpTo, Cond.instanceMethod yX2_passesUpTo]
def wsX3_follow_r7 : List Cond := [Cond.selects RX2 yX2_passesUpTo yX2_passesUpTo, Cond.code yX2_passesUpTo cX2_passesUpTo 4 (some .int), Cond.methodLink RX3 146 yX3_pickUp, Cond.instanceMethod yX3_pickUp, Cond.selects RX3 yX3_pickUp yX3_pickUp, Cond.code yX3_pickUp cX3_pickUp 3 none, Cond.fieldLink RX3 18 "BeadDesk$Way" "pieceOf" "[I", Cond.fieldLink RX3 168 "BeadDesk$Step" "size" "I", Cond.methodLink RX3 164 yX2_countInto, Cond.instanceMethod yX2_countInto, Cond.selects RX2 yX2_countInto yX2_countInto, Cond.code yX2_countInto cX2_countInto 3 none]
def wsX3_follow : List Cond := .code yX3_follow cX3_follow 9 none :: ((wsX3_follow_r1 ++ (wsX3_follow_r2 ++ (wsX3_follow_r3 ++ (wsX3_follow_r4 ++ (wsX3_follow_r5 ++ (wsX3_follow_r6 ++ wsX3_follow_r7)))))) ++ wsX30 ++ wsX00 ++ wsX20)
def wsX4_init_r1 : List Cond := [Cond.methodLink RX4 3 objectInit, Cond.instanceMethod objectInit, Cond.code objectInit ⟨#[0xb1]⟩ 1 none, Cond.classLink RX4 9 RX0, Cond.instantiable RX0 8, Cond.initialized RX0, Cond.fieldLink RX4 12 "BeadDesk" "chart" "LBeadDesk$Chart;", Cond.classLink RX4 16 RX3, Cond.instantiable RX3 19, Cond.initialized RX3, Cond.fieldLink RX4 19 "BeadDesk" "told" "LBeadDesk$Way;", Cond.fieldLink RX4 23 "BeadDesk" "trial" "LBeadDesk$Way;", Cond.classLink RX4 26 RX1, Cond.instantiable RX1 1, Cond.initialized RX1, Cond.fieldLink RX4 29 "BeadDesk" "mend" "LBeadDesk$Mend;", Cond.methodLink RX4 11 yX0_init, Cond.instanceMethod yX0_init, Cond.code yX0_init cX0_init 1 none, Cond.methodLink RX0 3 objectInit, Cond.arrayClass .int, Cond.fieldLink RX0 9 "BeadDesk$Chart" "cells" "[I", Cond.fieldLink RX0 15 "BeadDesk$Chart" "hole" "[I", Cond.fieldLink RX0 18 "BeadDesk$Chart" "step" "[I"]
def wsX4_init_r2 : List Cond := [Cond.fieldLink RX0 21 "BeadDesk$Chart" "weight" "[I", Cond.fieldLink RX0 24 "BeadDesk$Chart" "stitch" "I", Cond.fieldLink RX0 28 "BeadDesk$Chart" "width" "I", Cond.fieldLink RX0 31 "BeadDesk$Chart" "length" "I", Cond.fieldLink RX0 34 "BeadDesk$Chart" "weave" "I", Cond.methodLink RX0 37 yJ7_fill_53178, Cond.static yJ7_fill_53178, Cond.initialized RJ7, Cond.code yJ7_fill_53178 cJ7_fill_53178 4 none, Cond.methodLink RX4 18 yX3_init, Cond.instanceMethod yX3_init, Cond.code yX3_init cX3_init 1 none, Cond.methodLink RX3 3 objectInit, Cond.fieldLink RX3 9 "BeadDesk$Way" "cellOf" "[I", Cond.fieldLink RX3 15 "BeadDesk$Way" "colourOf" "[I", Cond.fieldLink RX3 18 "BeadDesk$Way" "pieceOf" "[I", Cond.fieldLink RX3 21 "BeadDesk$Way" "passesOf" "[I", Cond.fieldLink RX3 24 "BeadDesk$Way" "lowerOf" "[I", Cond.fieldLink RX3 27 "BeadDesk$Way" "upperOf" "[I", Cond.fieldLink RX3 30 "BeadDesk$Way" "pickOf" "[I", Cond.fieldLink RX3 33 "BeadDesk$Way" "wovenThrough" "[I", Cond.fieldLink RX3 36 "BeadDesk$Way" "wovenOff" "[I", Cond.classLink RX3 39 RX2, Cond.instantiable RX2 2]
def wsX4_init_r3 : List Cond := [Cond.initialized RX2, Cond.fieldLink RX3 42 "BeadDesk$Way" "step" "LBeadDesk$Step;", Cond.fieldLink RX3 46 "BeadDesk$Way" "followed" "Z", Cond.fieldLink RX3 50 "BeadDesk$Way" "pickedCount" "I", Cond.fieldLink RX3 54 "BeadDesk$Way" "fault" "I", Cond.fieldLink RX3 57 "BeadDesk$Way" "faultCell" "I", Cond.fieldLink RX3 60 "BeadDesk$Way" "pieces" "I", Cond.fieldLink RX3 63 "BeadDesk$Way" "used" "I", Cond.fieldLink RX3 66 "BeadDesk$Way" "left" "I", Cond.fieldLink RX3 69 "BeadDesk$Way" "passes" "I", Cond.fieldLink RX3 72 "BeadDesk$Way" "weave" "I", Cond.instanceMethod yX2_init, Cond.code yX2_init cX2_init 1 none, Cond.methodLink RX2 3 objectInit, Cond.fieldLink RX2 9 "BeadDesk$Step" "beads" "[I", Cond.fieldLink RX2 15 "BeadDesk$Step" "size" "I", Cond.methodLink RX3 75 yJ7_fill_53178, Cond.instanceMethod yX1_init, Cond.code yX1_init cX1_init 1 none, Cond.methodLink RX1 3 objectInit, Cond.fieldLink RX1 9 "BeadDesk$Mend" "marks" "[I"]
def wsX4_init : List Cond := .code yX4_init cX4_init 1 none :: ((wsX4_init_r1 ++ (wsX4_init_r2 ++ wsX4_init_r3)) ++ wsX00 ++ wsX40 ++ wsX30 ++ wsX10 ++ wsX20)
def wsX4_beads : List Cond := .code yX4_beads cX4_beads 6 (some .boolean) :: ([.fieldLink RX4 12 "BeadDesk" "chart" "LBeadDesk$Chart;", .methodLink RX4 33 yX0_holdsRun, .instanceMethod yX0_holdsRun, .selects RX0 yX0_holdsRun yX0_holdsRun, .initialized RX0, .code yX0_holdsRun cX0_holdsRun 4 (some .boolean), .static yX4_isCell, .initialized RX4, .code yX4_isCell cX4_isCell 2 (some .boolean), .methodLink RX4 45 yX4_isWithin, .static yX4_isWithin, .code yX4_isWithin cX4_isWithin 3 (some .boolean), .methodLink RX0 51 yX0_columnsInUse, .instanceMethod yX0_columnsInUse, .selects RX0 yX0_columnsInUse yX0_columnsInUse, .code yX0_columnsInUse cX0_columnsInUse 1 (some .int), .fieldLink RX0 28 "BeadDesk$Chart" "width" "I", .methodLink RX4 37 yX0_putRun, .instanceMethod yX0_putRun, .selects RX0 yX0_putRun yX0_putRun, .code yX0_putRun cX0_putRun 8 none, .constantLong RX0 55 (7), .fieldLink RX0 9 "BeadDesk$Chart" "cells" "[I"] ++ wsX40 ++ wsX00)
def wsX4_stitch : List Cond := .code yX4_stitch cX4_stitch 3 (some .int) :: ([.fieldLink RX4 12 "BeadDesk" "chart" "LBeadDesk$Chart;", .fieldLink RX4 41 "BeadDesk$Chart" "stitch" "I"] ++ wsX40 ++ wsX00)
def wsX4_ring : List Cond := .code yX4_ring cX4_ring 2 (some .boolean) :: ([.fieldLink RX4 12 "BeadDesk" "chart" "LBeadDesk$Chart;", .fieldLink RX4 52 "BeadDesk$Chart" "width" "I", .methodLink RX4 45 yX4_isWithin, .static yX4_isWithin, .initialized RX4, .code yX4_isWithin cX4_isWithin 3 (some .boolean), .methodLink RX4 48 yX0_hasBeadsFrom, .instanceMethod yX0_hasBeadsFrom, .selects RX0 yX0_hasBeadsFrom yX0_hasBeadsFrom, .initialized RX0, .code yX0_hasBeadsFrom cX0_hasBeadsFrom 3 (some .boolean), .fieldLink RX0 9 "BeadDesk$Chart" "cells" "[I"] ++ wsX40 ++ wsX00)
def wsX4_isColour : List Cond := .code yX4_isColour cX4_isColour 1 (some .boolean) :: ([.methodLink RX4 45 yX4_isWithin, .static yX4_isWithin, .initialized RX4, .code yX4_isWithin cX4_isWithin 3 (some .boolean)])
def wsX4_colour : List Cond := .code yX4_colour cX4_colour 5 (some .boolean) :: ([.fieldLink RX4 12 "BeadDesk" "chart" "LBeadDesk$Chart;", .fieldLink RX4 58 "BeadDesk$Chart" "hole" "[I", .fieldLink RX4 62 "BeadDesk$Chart" "step" "[I", .fieldLink RX4 65 "BeadDesk$Chart" "weight" "[I", .methodLink RX4 55 yX4_isColour, .static yX4_isColour, .initialized RX4, .code yX4_isColour cX4_isColour 1 (some .boolean), .methodLink RX4 45 yX4_isWithin, .static yX4_isWithin, .code yX4_isWithin cX4_isWithin 3 (some .boolean)] ++ wsX40 ++ wsX00)
def wsX4_thread : List Cond := .code yX4_thread cX4_thread 3 (some .boolean) :: ([.fieldLink RX4 12 "BeadDesk" "chart" "LBeadDesk$Chart;", .fieldLink RX4 68 "BeadDesk$Chart" "length" "I", .fieldLink RX4 71 "BeadDesk$Chart" "weave" "I", .methodLink RX4 45 yX4_isWithin, .static yX4_isWithin, .initialized RX4, .code yX4_isWithin cX4_isWithin 3 (some .boolean)] ++ wsX40 ++ wsX00)
def wsX4_cell : List Cond := .code yX4_cell cX4_cell 3 (some .int) :: ([.fieldLink RX4 12 "BeadDesk" "chart" "LBeadDesk$Chart;", .methodLink RX4 74 yX0_colourAt, .instanceMethod yX0_colourAt, .selects RX0 yX0_colourAt yX0_colourAt, .initialized RX0, .code yX0_colourAt cX0_colourAt 3 (some .int), .fieldLink RX0 9 "BeadDesk$Chart" "cells" "[I", .static yX4_isCell, .initialized RX4, .code yX4_isCell cX4_isCell 2 (some .boolean), .methodLink RX4 45 yX4_isWithin, .static yX4_isWithin, .code yX4_isWithin cX4_isWithin 3 (some .boolean)] ++ wsX40 ++ wsX00)
def wsX4_work_r1 : List Cond := [Cond.fieldLink RX4 19 "BeadDesk" "told" "LBeadDesk$Way;", Cond.fieldLink RX4 12 "BeadDesk" "chart" "LBeadDesk$Chart;", Cond.fieldLink RX4 82 "BeadDesk$Way" "pickedCount" "I", Cond.methodLink RX4 45 yX4_isWithin, Cond.static yX4_isWithin, Cond.initialized RX4, Cond.code yX4_isWithin cX4_isWithin 3 (some .boolean), Cond.methodLink RX4 78 yX3_follow, Cond.instanceMethod yX3_follow, Cond.selects RX3 yX3_follow yX3_follow, Cond.initialized RX3, Cond.code yX3_follow cX3_follow 9 none, Cond.fieldLink RX3 54 "BeadDesk$Way" "fault" "I", Cond.fieldLink RX3 50 "BeadDesk$Way" "pickedCount" "I", Cond.fieldLink RX3 99 "BeadDesk$Chart" "width" "I", Cond.methodLink RX3 85 yX3_startAnew, Cond.instanceMethod yX3_startAnew, Cond.selects RX3 yX3_startAnew yX3_startAnew, Cond.code yX3_startAnew cX3_startAnew 2 none, Cond.fieldLink RX3 30 "BeadDesk$Way" "pickOf" "[I", Cond.fieldLink RX3 46 "BeadDesk$Way" "followed" "Z", Cond.fieldLink RX3 57 "BeadDesk$Way" "faultCell" "I", Cond.fieldLink RX3 60 "BeadDesk$Way" "pieces" "I", Cond.fieldLink RX3 63 "BeadDesk$Way" "used" "I"]
def wsX4_work_r2 : List Cond := [Cond.fieldLink RX3 66 "BeadDesk$Way" "left" "I", Cond.fieldLink RX3 69 "BeadDesk$Way" "passes" "I", Cond.fieldLink RX3 102 "BeadDesk$Chart" "weave" "I", Cond.fieldLink RX3 72 "BeadDesk$Way" "weave" "I", Cond.methodLink RX3 75 yJ7_fill_53178, Cond.static yJ7_fill_53178, Cond.initialized RJ7, Cond.code yJ7_fill_53178 cJ7_fill_53178 4 none, Cond.methodLink RX3 89 yX0_beadsInRow, Cond.instanceMethod yX0_beadsInRow, Cond.selects RX0 yX0_beadsInRow yX0_beadsInRow, Cond.initialized RX0, Cond.code yX0_beadsInRow cX0_beadsInRow 4 (some .int), Cond.methodLink RX0 57 yX0_colourAt, Cond.instanceMethod yX0_colourAt, Cond.selects RX0 yX0_colourAt yX0_colourAt, Cond.code yX0_colourAt cX0_colourAt 3 (some .int), Cond.fieldLink RX0 9 "BeadDesk$Chart" "cells" "[I", Cond.static yX4_isCell, Cond.code yX4_isCell cX4_isCell 2 (some .boolean), Cond.methodLink RX3 95 yX3_followRow, Cond.instanceMethod yX3_followRow, Cond.selects RX3 yX3_followRow yX3_followRow, Cond.code yX3_followRow cX3_followRow 13 none]
def wsX4_work_r3 : List Cond := [Cond.methodLink RX3 103 yX0_colourAt, Cond.methodLink RX3 107 yX3_layOut, Cond.instanceMethod yX3_layOut, Cond.selects RX3 yX3_layOut yX3_layOut, Cond.code yX3_layOut cX3_layOut 6 none, Cond.fieldLink RX3 9 "BeadDesk$Way" "cellOf" "[I", Cond.fieldLink RX3 15 "BeadDesk$Way" "colourOf" "[I", Cond.fieldLink RX3 21 "BeadDesk$Way" "passesOf" "[I", Cond.fieldLink RX3 24 "BeadDesk$Way" "lowerOf" "[I", Cond.fieldLink RX3 27 "BeadDesk$Way" "upperOf" "[I", Cond.methodLink RX3 123 yX0_lowerCatch, Cond.instanceMethod yX0_lowerCatch, Cond.selects RX0 yX0_lowerCatch yX0_lowerCatch, Cond.code yX0_lowerCatch cX0_lowerCatch 3 (some .int), Cond.fieldLink RX0 24 "BeadDesk$Chart" "stitch" "I", Cond.methodLink RX0 74 Lib.Math.min.name, Cond.static Lib.Math.min.name, Cond.initialized "java/lang/Math", Cond.code Lib.Math.min.name Lib.Math.min.code 2 (some .int), Cond.methodLink RX0 68 yX0_leftCatch, Cond.instanceMethod yX0_leftCatch, Cond.selects RX0 yX0_leftCatch yX0_leftCatch, Cond.code yX0_leftCatch cX0_leftCatch 3 (some .int), Cond.methodLink RX0 82 yX0_aroundTheRing]
def wsX4_work_r4 : List Cond := [Cond.instanceMethod yX0_aroundTheRing, Cond.selects RX0 yX0_aroundTheRing yX0_aroundTheRing, Cond.code yX0_aroundTheRing cX0_aroundTheRing 2 (some .int), Cond.fieldLink RX0 28 "BeadDesk$Chart" "width" "I", Cond.methodLink RX0 71 yX0_rightCatch, Cond.instanceMethod yX0_rightCatch, Cond.selects RX0 yX0_rightCatch yX0_rightCatch, Cond.code yX0_rightCatch cX0_rightCatch 3 (some .int), Cond.methodLink RX3 126 yX3_pickAt, Cond.instanceMethod yX3_pickAt, Cond.selects RX3 yX3_pickAt yX3_pickAt, Cond.code yX3_pickAt cX3_pickAt 3 (some .int), Cond.methodLink RX3 129 yX0_upperCatch, Cond.instanceMethod yX0_upperCatch, Cond.selects RX0 yX0_upperCatch yX0_upperCatch, Cond.code yX0_upperCatch cX0_upperCatch 3 (some .int), Cond.methodLink RX0 79 Lib.Math.max.name, Cond.static Lib.Math.max.name, Cond.code Lib.Math.max.name Lib.Math.max.code 2 (some .int), Cond.methodLink RX3 111 yX3_gatherInFirstRow, Cond.instanceMethod yX3_gatherInFirstRow, Cond.selects RX3 yX3_gatherInFirstRow yX3_gatherInFirstRow, Cond.code yX3_gatherInFirstRow cX3_gatherInFirstRow 4 none, Cond.fieldLink RX3 42 "BeadDesk$Way" "step" "LBeadDesk$Step;"]
def wsX4_work_r5 : List Cond := [Cond.methodLink RX3 132 yX2_empty, Cond.instanceMethod yX2_empty, Cond.selects RX2 yX2_empty yX2_empty, Cond.initialized RX2, Cond.code yX2_empty cX2_empty 1 none, Cond.fieldLink RX2 15 "BeadDesk$Step" "size" "I", Cond.methodLink RX3 135 yX2_pass, Cond.instanceMethod yX2_pass, Cond.selects RX2 yX2_pass yX2_pass, Cond.code yX2_pass cX2_pass 2 none, Cond.fieldLink RX2 9 "BeadDesk$Step" "beads" "[I", Cond.methodLink RX3 115 yX3_gatherInLaterRow, Cond.instanceMethod yX3_gatherInLaterRow, Cond.selects RX3 yX3_gatherInLaterRow yX3_gatherInLaterRow, Cond.code yX3_gatherInLaterRow cX3_gatherInLaterRow 3 none, Cond.methodLink RX3 119 yX3_doStep, Cond.instanceMethod yX3_doStep, Cond.selects RX3 yX3_doStep yX3_doStep, Cond.code yX3_doStep cX3_doStep 4 none, Cond.methodLink RX3 138 yX2_threadNeeded, Cond.instanceMethod yX2_threadNeeded, Cond.selects RX2 yX2_threadNeeded yX2_threadNeeded, Cond.code yX2_threadNeeded cX2_threadNeeded 5 (some .int), Cond.fieldLink RX2 19 "BeadDesk$Chart" "step" "[I"]
def wsX4_work_r6 : List Cond := [Cond.methodLink RX3 142 yX3_faultAhead, Cond.instanceMethod yX3_faultAhead, Cond.selects RX3 yX3_faultAhead yX3_faultAhead, Cond.code yX3_faultAhead cX3_faultAhead 4 (some .int), Cond.fieldLink RX3 153 "BeadDesk$Chart" "length" "I", Cond.methodLink RX3 150 yX3_caughtCount, Cond.instanceMethod yX3_caughtCount, Cond.selects RX3 yX3_caughtCount yX3_caughtCount, Cond.code yX3_caughtCount cX3_caughtCount 2 (some .int), Cond.methodLink RX3 156 yX3_join, Cond.instanceMethod yX3_join, Cond.selects RX3 yX3_join yX3_join, Cond.code yX3_join cX3_join 5 (some .boolean), Cond.fieldLink RX3 36 "BeadDesk$Way" "wovenOff" "[I", Cond.fieldLink RX3 33 "BeadDesk$Way" "wovenThrough" "[I", Cond.methodLink RX3 171 yX3_weaveThrough, Cond.instanceMethod yX3_weaveThrough, Cond.selects RX3 yX3_weaveThrough yX3_weaveThrough, Cond.code yX3_weaveThrough cX3_weaveThrough 6 (some .int), Cond.fieldLink RX3 179 "BeadDesk$Chart" "hole" "[I", Cond.methodLink RX3 175 yX3_unweave, Cond.instanceMethod yX3_unweave, Cond.selects RX3 yX3_unweave yX3_unweave, Cond.code yX3_unweave cX3_unweave 5 none]
def wsX4_work_r7 : List Cond := [Cond.methodLink RX3 160 yX2_fits, Cond.instanceMethod yX2_fits, Cond.selects RX2 yX2_fits yX2_fits, Cond.code yX2_fits cX2_fits 6 (some .boolean), Cond.fieldLink RX2 28 "BeadDesk$Chart" "hole" "[I", Cond.methodLink RX2 24 yX2_passesUpTo, Cond.instanceMethod yX2_passesUpTo, Cond.selects RX2 yX2_passesUpTo yX2_passesUpTo, Cond.code yX2_passesUpTo cX2_passesUpTo 4 (some .int), Cond.methodLink RX3 146 yX3_pickUp, Cond.instanceMethod yX3_pickUp, Cond.selects RX3 yX3_pickUp yX3_pickUp, Cond.code yX3_pickUp cX3_pickUp 3 none, Cond.fieldLink RX3 18 "BeadDesk$Way" "pieceOf" "[I", Cond.fieldLink RX3 168 "BeadDesk$Step" "size" "I", Cond.methodLink RX3 164 yX2_countInto, Cond.instanceMethod yX2_countInto, Cond.selects RX2 yX2_countInto yX2_countInto, Cond.code yX2_countInto cX2_countInto 3 none]
def wsX4_work : List Cond := .code yX4_work cX4_work 2 (some .int) :: ((wsX4_work_r1 ++ (wsX4_work_r2 ++ (wsX4_work_r3 ++ (wsX4_work_r4 ++ (wsX4_work_r5 ++ (wsX4_work_r6 ++ wsX4_work_r7)))))) ++ wsX40 ++ wsX30 ++ wsX00 ++ wsX20)
def wsX4_rowOf : List Cond := .code yX4_rowOf cX4_rowOf 1 (some .int) :: ([])
def wsX4_columnOf : List Cond := .code yX4_columnOf cX4_columnOf 1 (some .int) :: ([])
def wsX4_worked : List Cond := .code yX4_worked cX4_worked 2 (some .int) :: ([.fieldLink RX4 19 "BeadDesk" "told" "LBeadDesk$Way;", .fieldLink RX4 85 "BeadDesk$Way" "followed" "Z", .fieldLink RX4 89 "BeadDesk$Way" "fault" "I", .fieldLink RX4 92 "BeadDesk$Way" "faultCell" "I", .fieldLink RX4 102 "BeadDesk$Way" "pieces" "I", .fieldLink RX4 105 "BeadDesk$Way" "used" "I", .fieldLink RX4 108 "BeadDesk$Way" "left" "I", .fieldLink RX4 111 "BeadDesk$Way" "passes" "I", .methodLink RX4 95 yX4_rowOf, .static yX4_rowOf, .initialized RX4, .code yX4_rowOf cX4_rowOf 1 (some .int), .methodLink RX4 99 yX4_columnOf, .static yX4_columnOf, .code yX4_columnOf cX4_columnOf 1 (some .int)] ++ wsX40 ++ wsX30)
def wsX4_picked : List Cond := .code yX4_picked cX4_picked 3 (some .int) :: ([.fieldLink RX4 19 "BeadDesk" "told" "LBeadDesk$Way;", .fieldLink RX4 117 "BeadDesk$Way" "cellOf" "[I", .fieldLink RX4 120 "BeadDesk$Way" "pieceOf" "[I", .fieldLink RX4 123 "BeadDesk$Way" "passesOf" "[I", .fieldLink RX4 129 "BeadDesk$Way" "colourOf" "[I", .methodLink RX4 114 yX3_has, .instanceMethod yX3_has, .selects RX3 yX3_has yX3_has, .initialized RX3, .code yX3_has cX3_has 2 (some .boolean), .fieldLink RX3 50 "BeadDesk$Way" "pickedCount" "I", .methodLink RX4 95 yX4_rowOf, .static yX4_rowOf, .initialized RX4, .code yX4_rowOf cX4_rowOf 1 (some .int), .methodLink RX4 99 yX4_columnOf, .static yX4_columnOf, .code yX4_columnOf cX4_columnOf 1 (some .int), .methodLink RX4 126 yX3_caughtCount, .instanceMethod yX3_caughtCount, .selects RX3 yX3_caughtCount yX3_caughtCount, .code yX3_caughtCount cX3_caughtCount 2 (some .int), .fieldLink RX3 24 "BeadDesk$Way" "lowerOf" "[I", .fieldLink RX3 27 "BeadDesk$Way" "upperOf" "[I"] ++ wsX40 ++ wsX30)
def wsX4_order : List Cond := .code yX4_order cX4_order 3 (some .int) :: ([.fieldLink RX4 19 "BeadDesk" "told" "LBeadDesk$Way;", .methodLink RX4 132 yX3_pickAt, .instanceMethod yX3_pickAt, .selects RX3 yX3_pickAt yX3_pickAt, .initialized RX3, .code yX3_pickAt cX3_pickAt 3 (some .int), .fieldLink RX3 30 "BeadDesk$Way" "pickOf" "[I", .static yX4_isCell, .initialized RX4, .code yX4_isCell cX4_isCell 2 (some .boolean), .methodLink RX4 45 yX4_isWithin, .static yX4_isWithin, .code yX4_isWithin cX4_isWithin 3 (some .boolean)] ++ wsX40 ++ wsX30)
def wsX4_hang_r1 : List Cond := [Cond.fieldLink RX4 19 "BeadDesk" "told" "LBeadDesk$Way;", Cond.fieldLink RX4 29 "BeadDesk" "mend" "LBeadDesk$Mend;", Cond.methodLink RX4 114 yX3_has, Cond.instanceMethod yX3_has, Cond.selects RX3 yX3_has yX3_has, Cond.initialized RX3, Cond.code yX3_has cX3_has 2 (some .boolean), Cond.fieldLink RX3 50 "BeadDesk$Way" "pickedCount" "I", Cond.methodLink RX4 135 yX1_markHanging, Cond.instanceMethod yX1_markHanging, Cond.selects RX1 yX1_markHanging yX1_markHanging, Cond.initialized RX1, Cond.code yX1_markHanging cX1_markHanging 5 (some .int), Cond.fieldLink RX1 19 "BeadDesk$Way" "pickedCount" "I", Cond.fieldLink RX1 9 "BeadDesk$Mend" "marks" "[I", Cond.methodLink RX1 15 yX1_markOnly, Cond.instanceMethod yX1_markOnly, Cond.selects RX1 yX1_markOnly yX1_markOnly, Cond.code yX1_markOnly cX1_markOnly 2 none, Cond.methodLink RX1 35 yJ7_fill_53178, Cond.static yJ7_fill_53178, Cond.initialized RJ7, Cond.code yJ7_fill_53178 cJ7_fill_53178 4 none, Cond.methodLink RX1 25 yX1_isCaughtOnMarked]
def wsX4_hang_r2 : List Cond := [Cond.instanceMethod yX1_isCaughtOnMarked, Cond.selects RX1 yX1_isCaughtOnMarked yX1_isCaughtOnMarked, Cond.code yX1_isCaughtOnMarked cX1_isCaughtOnMarked 3 (some .boolean), Cond.fieldLink RX1 41 "BeadDesk$Way" "lowerOf" "[I", Cond.fieldLink RX1 48 "BeadDesk$Way" "upperOf" "[I", Cond.methodLink RX1 44 yX1_isMarked, Cond.instanceMethod yX1_isMarked, Cond.selects RX1 yX1_isMarked yX1_isMarked, Cond.code yX1_isMarked cX1_isMarked 2 (some .boolean)]
def wsX4_hang : List Cond := .code yX4_hang cX4_hang 2 (some .int) :: ((wsX4_hang_r1 ++ wsX4_hang_r2) ++ wsX40 ++ wsX30 ++ wsX10)
def wsX4_pull_r1 : List Cond := [Cond.fieldLink RX4 19 "BeadDesk" "told" "LBeadDesk$Way;", Cond.fieldLink RX4 29 "BeadDesk" "mend" "LBeadDesk$Mend;", Cond.methodLink RX4 114 yX3_has, Cond.instanceMethod yX3_has, Cond.selects RX3 yX3_has yX3_has, Cond.initialized RX3, Cond.code yX3_has cX3_has 2 (some .boolean), Cond.fieldLink RX3 50 "BeadDesk$Way" "pickedCount" "I", Cond.methodLink RX4 139 yX1_markPulledOut, Cond.instanceMethod yX1_markPulledOut, Cond.selects RX1 yX1_markPulledOut yX1_markPulledOut, Cond.initialized RX1, Cond.code yX1_markPulledOut cX1_markPulledOut 5 (some .int), Cond.fieldLink RX1 19 "BeadDesk$Way" "pickedCount" "I", Cond.fieldLink RX1 9 "BeadDesk$Mend" "marks" "[I", Cond.methodLink RX1 15 yX1_markOnly, Cond.instanceMethod yX1_markOnly, Cond.selects RX1 yX1_markOnly yX1_markOnly, Cond.code yX1_markOnly cX1_markOnly 2 none, Cond.methodLink RX1 35 yJ7_fill_53178, Cond.static yJ7_fill_53178, Cond.initialized RJ7, Cond.code yJ7_fill_53178 cJ7_fill_53178 4 none, Cond.methodLink RX1 29 yX1_isBehindMarked]
def wsX4_pull_r2 : List Cond := [Cond.instanceMethod yX1_isBehindMarked, Cond.selects RX1 yX1_isBehindMarked yX1_isBehindMarked, Cond.code yX1_isBehindMarked cX1_isBehindMarked 3 (some .boolean), Cond.fieldLink RX1 51 "BeadDesk$Way" "pieceOf" "[I", Cond.methodLink RX1 44 yX1_isMarked, Cond.instanceMethod yX1_isMarked, Cond.selects RX1 yX1_isMarked yX1_isMarked, Cond.code yX1_isMarked cX1_isMarked 2 (some .boolean), Cond.methodLink RX1 25 yX1_isCaughtOnMarked, Cond.instanceMethod yX1_isCaughtOnMarked, Cond.selects RX1 yX1_isCaughtOnMarked yX1_isCaughtOnMarked, Cond.code yX1_isCaughtOnMarked cX1_isCaughtOnMarked 3 (some .boolean), Cond.fieldLink RX1 41 "BeadDesk$Way" "lowerOf" "[I", Cond.fieldLink RX1 48 "BeadDesk$Way" "upperOf" "[I", Cond.methodLink RX1 32 yX1_isWovenInMarked, Cond.instanceMethod yX1_isWovenInMarked, Cond.selects RX1 yX1_isWovenInMarked yX1_isWovenInMarked, Cond.code yX1_isWovenInMarked cX1_isWovenInMarked 4 (some .boolean), Cond.fieldLink RX1 54 "BeadDesk$Way" "weave" "I", Cond.methodLink RX1 57 yX3_wovenIn, Cond.instanceMethod yX3_wovenIn, Cond.selects RX3 yX3_wovenIn yX3_wovenIn, Cond.code yX3_wovenIn cX3_wovenIn 3 (some .int), Cond.fieldLink RX3 60 "BeadDesk$Way" "pieces" "I"]
def wsX4_pull_r3 : List Cond := [Cond.fieldLink RX3 72 "BeadDesk$Way" "weave" "I", Cond.fieldLink RX3 33 "BeadDesk$Way" "wovenThrough" "[I"]
def wsX4_pull : List Cond := .code yX4_pull cX4_pull 2 (some .int) :: ((wsX4_pull_r1 ++ (wsX4_pull_r2 ++ wsX4_pull_r3)) ++ wsX40 ++ wsX30 ++ wsX10)
def wsX4_pulled_r1 : List Cond := [Cond.fieldLink RX4 19 "BeadDesk" "told" "LBeadDesk$Way;", Cond.fieldLink RX4 29 "BeadDesk" "mend" "LBeadDesk$Mend;", Cond.fieldLink RX4 142 "BeadDesk$Mend" "marks" "[I", Cond.methodLink RX4 114 yX3_has, Cond.instanceMethod yX3_has, Cond.selects RX3 yX3_has yX3_has, Cond.initialized RX3, Cond.code yX3_has cX3_has 2 (some .boolean), Cond.fieldLink RX3 50 "BeadDesk$Way" "pickedCount" "I", Cond.methodLink RX4 139 yX1_markPulledOut, Cond.instanceMethod yX1_markPulledOut, Cond.selects RX1 yX1_markPulledOut yX1_markPulledOut, Cond.initialized RX1, Cond.code yX1_markPulledOut cX1_markPulledOut 5 (some .int), Cond.fieldLink RX1 19 "BeadDesk$Way" "pickedCount" "I", Cond.fieldLink RX1 9 "BeadDesk$Mend" "marks" "[I", Cond.methodLink RX1 15 yX1_markOnly, Cond.instanceMethod yX1_markOnly, Cond.selects RX1 yX1_markOnly yX1_markOnly, Cond.code yX1_markOnly cX1_markOnly 2 none, Cond.methodLink RX1 35 yJ7_fill_53178, Cond.static yJ7_fill_53178, Cond.initialized RJ7, Cond.code yJ7_fill_53178 cJ7_fill_53178 4 none]
def wsX4_pulled_r2 : List Cond := [Cond.methodLink RX1 29 yX1_isBehindMarked, Cond.instanceMethod yX1_isBehindMarked, Cond.selects RX1 yX1_isBehindMarked yX1_isBehindMarked, Cond.code yX1_isBehindMarked cX1_isBehindMarked 3 (some .boolean), Cond.fieldLink RX1 51 "BeadDesk$Way" "pieceOf" "[I", Cond.methodLink RX1 44 yX1_isMarked, Cond.instanceMethod yX1_isMarked, Cond.selects RX1 yX1_isMarked yX1_isMarked, Cond.code yX1_isMarked cX1_isMarked 2 (some .boolean), Cond.methodLink RX1 25 yX1_isCaughtOnMarked, Cond.instanceMethod yX1_isCaughtOnMarked, Cond.selects RX1 yX1_isCaughtOnMarked yX1_isCaughtOnMarked, Cond.code yX1_isCaughtOnMarked cX1_isCaughtOnMarked 3 (some .boolean), Cond.fieldLink RX1 41 "BeadDesk$Way" "lowerOf" "[I", Cond.fieldLink RX1 48 "BeadDesk$Way" "upperOf" "[I", Cond.methodLink RX1 32 yX1_isWovenInMarked, Cond.instanceMethod yX1_isWovenInMarked, Cond.selects RX1 yX1_isWovenInMarked yX1_isWovenInMarked, Cond.code yX1_isWovenInMarked cX1_isWovenInMarked 4 (some .boolean), Cond.fieldLink RX1 54 "BeadDesk$Way" "weave" "I", Cond.methodLink RX1 57 yX3_wovenIn, Cond.instanceMethod yX3_wovenIn, Cond.selects RX3 yX3_wovenIn yX3_wovenIn, Cond.code yX3_wovenIn cX3_wovenIn 3 (some .int)]
def wsX4_pulled_r3 : List Cond := [Cond.fieldLink RX3 60 "BeadDesk$Way" "pieces" "I", Cond.fieldLink RX3 72 "BeadDesk$Way" "weave" "I", Cond.fieldLink RX3 33 "BeadDesk$Way" "wovenThrough" "[I"]
def wsX4_pulled : List Cond := .code yX4_pulled cX4_pulled 3 (some .int) :: ((wsX4_pulled_r1 ++ (wsX4_pulled_r2 ++ wsX4_pulled_r3)) ++ wsX40 ++ wsX10 ++ wsX30)
def wsX4_woven : List Cond := .code yX4_woven cX4_woven 3 (some .int) :: ([.fieldLink RX4 19 "BeadDesk" "told" "LBeadDesk$Way;", .methodLink RX4 145 yX3_wovenIn, .instanceMethod yX3_wovenIn, .selects RX3 yX3_wovenIn yX3_wovenIn, .initialized RX3, .code yX3_wovenIn cX3_wovenIn 3 (some .int), .fieldLink RX3 60 "BeadDesk$Way" "pieces" "I", .fieldLink RX3 72 "BeadDesk$Way" "weave" "I", .fieldLink RX3 33 "BeadDesk$Way" "wovenThrough" "[I"] ++ wsX40 ++ wsX30)
def wsX4_tellTrial : List Cond := .code yX4_tellTrial cX4_tellTrial 2 none :: ([.fieldLink RX4 19 "BeadDesk" "told" "LBeadDesk$Way;", .fieldLink RX4 23 "BeadDesk" "trial" "LBeadDesk$Way;"] ++ wsX40)
def wsX4_best_r1 : List Cond := [Cond.fieldLink RX4 23 "BeadDesk" "trial" "LBeadDesk$Way;", Cond.fieldLink RX4 12 "BeadDesk" "chart" "LBeadDesk$Chart;", Cond.fieldLink RX4 89 "BeadDesk$Way" "fault" "I", Cond.fieldLink RX4 19 "BeadDesk" "told" "LBeadDesk$Way;", Cond.methodLink RX4 78 yX3_follow, Cond.instanceMethod yX3_follow, Cond.selects RX3 yX3_follow yX3_follow, Cond.initialized RX3, Cond.code yX3_follow cX3_follow 9 none, Cond.fieldLink RX3 54 "BeadDesk$Way" "fault" "I", Cond.fieldLink RX3 50 "BeadDesk$Way" "pickedCount" "I", Cond.fieldLink RX3 99 "BeadDesk$Chart" "width" "I", Cond.methodLink RX3 85 yX3_startAnew, Cond.instanceMethod yX3_startAnew, Cond.selects RX3 yX3_startAnew yX3_startAnew, Cond.code yX3_startAnew cX3_startAnew 2 none, Cond.fieldLink RX3 30 "BeadDesk$Way" "pickOf" "[I", Cond.fieldLink RX3 46 "BeadDesk$Way" "followed" "Z", Cond.fieldLink RX3 57 "BeadDesk$Way" "faultCell" "I", Cond.fieldLink RX3 60 "BeadDesk$Way" "pieces" "I", Cond.fieldLink RX3 63 "BeadDesk$Way" "used" "I", Cond.fieldLink RX3 66 "BeadDesk$Way" "left" "I", Cond.fieldLink RX3 69 "BeadDesk$Way" "passes" "I", Cond.fieldLink RX3 102 "BeadDesk$Chart" "weave" "I"]
def wsX4_best_r2 : List Cond := [Cond.fieldLink RX3 72 "BeadDesk$Way" "weave" "I", Cond.methodLink RX3 75 yJ7_fill_53178, Cond.static yJ7_fill_53178, Cond.initialized RJ7, Cond.code yJ7_fill_53178 cJ7_fill_53178 4 none, Cond.methodLink RX3 89 yX0_beadsInRow, Cond.instanceMethod yX0_beadsInRow, Cond.selects RX0 yX0_beadsInRow yX0_beadsInRow, Cond.initialized RX0, Cond.code yX0_beadsInRow cX0_beadsInRow 4 (some .int), Cond.methodLink RX0 57 yX0_colourAt, Cond.instanceMethod yX0_colourAt, Cond.selects RX0 yX0_colourAt yX0_colourAt, Cond.code yX0_colourAt cX0_colourAt 3 (some .int), Cond.fieldLink RX0 9 "BeadDesk$Chart" "cells" "[I", Cond.static yX4_isCell, Cond.initialized RX4, Cond.code yX4_isCell cX4_isCell 2 (some .boolean), Cond.methodLink RX4 45 yX4_isWithin, Cond.static yX4_isWithin, Cond.code yX4_isWithin cX4_isWithin 3 (some .boolean), Cond.methodLink RX3 95 yX3_followRow, Cond.instanceMethod yX3_followRow, Cond.selects RX3 yX3_followRow yX3_followRow]
def wsX4_best_r3 : List Cond := [Cond.code yX3_followRow cX3_followRow 13 none, Cond.methodLink RX3 103 yX0_colourAt, Cond.methodLink RX3 107 yX3_layOut, Cond.instanceMethod yX3_layOut, Cond.selects RX3 yX3_layOut yX3_layOut, Cond.code yX3_layOut cX3_layOut 6 none, Cond.fieldLink RX3 9 "BeadDesk$Way" "cellOf" "[I", Cond.fieldLink RX3 15 "BeadDesk$Way" "colourOf" "[I", Cond.fieldLink RX3 21 "BeadDesk$Way" "passesOf" "[I", Cond.fieldLink RX3 24 "BeadDesk$Way" "lowerOf" "[I", Cond.fieldLink RX3 27 "BeadDesk$Way" "upperOf" "[I", Cond.methodLink RX3 123 yX0_lowerCatch, Cond.instanceMethod yX0_lowerCatch, Cond.selects RX0 yX0_lowerCatch yX0_lowerCatch, Cond.code yX0_lowerCatch cX0_lowerCatch 3 (some .int), Cond.fieldLink RX0 24 "BeadDesk$Chart" "stitch" "I", Cond.methodLink RX0 74 Lib.Math.min.name, Cond.static Lib.Math.min.name, Cond.initialized "java/lang/Math", Cond.code Lib.Math.min.name Lib.Math.min.code 2 (some .int), Cond.methodLink RX0 68 yX0_leftCatch, Cond.instanceMethod yX0_leftCatch, Cond.selects RX0 yX0_leftCatch yX0_leftCatch, Cond.code yX0_leftCatch cX0_leftCatch 3 (some .int)]
def wsX4_best_r4 : List Cond := [Cond.methodLink RX0 82 yX0_aroundTheRing, Cond.instanceMethod yX0_aroundTheRing, Cond.selects RX0 yX0_aroundTheRing yX0_aroundTheRing, Cond.code yX0_aroundTheRing cX0_aroundTheRing 2 (some .int), Cond.fieldLink RX0 28 "BeadDesk$Chart" "width" "I", Cond.methodLink RX0 71 yX0_rightCatch, Cond.instanceMethod yX0_rightCatch, Cond.selects RX0 yX0_rightCatch yX0_rightCatch, Cond.code yX0_rightCatch cX0_rightCatch 3 (some .int), Cond.methodLink RX3 126 yX3_pickAt, Cond.instanceMethod yX3_pickAt, Cond.selects RX3 yX3_pickAt yX3_pickAt, Cond.code yX3_pickAt cX3_pickAt 3 (some .int), Cond.methodLink RX3 129 yX0_upperCatch, Cond.instanceMethod yX0_upperCatch, Cond.selects RX0 yX0_upperCatch yX0_upperCatch, Cond.code yX0_upperCatch cX0_upperCatch 3 (some .int), Cond.methodLink RX0 79 Lib.Math.max.name, Cond.static Lib.Math.max.name, Cond.code Lib.Math.max.name Lib.Math.max.code 2 (some .int), Cond.methodLink RX3 111 yX3_gatherInFirstRow, Cond.instanceMethod yX3_gatherInFirstRow, Cond.selects RX3 yX3_gatherInFirstRow yX3_gatherInFirstRow, Cond.code yX3_gatherInFirstRow cX3_gatherInFirstRow 4 none]
def wsX4_best_r5 : List Cond := [Cond.fieldLink RX3 42 "BeadDesk$Way" "step" "LBeadDesk$Step;", Cond.methodLink RX3 132 yX2_empty, Cond.instanceMethod yX2_empty, Cond.selects RX2 yX2_empty yX2_empty, Cond.initialized RX2, Cond.code yX2_empty cX2_empty 1 none, Cond.fieldLink RX2 15 "BeadDesk$Step" "size" "I", Cond.methodLink RX3 135 yX2_pass, Cond.instanceMethod yX2_pass, Cond.selects RX2 yX2_pass yX2_pass, Cond.code yX2_pass cX2_pass 2 none, Cond.fieldLink RX2 9 "BeadDesk$Step" "beads" "[I", Cond.methodLink RX3 115 yX3_gatherInLaterRow, Cond.instanceMethod yX3_gatherInLaterRow, Cond.selects RX3 yX3_gatherInLaterRow yX3_gatherInLaterRow, Cond.code yX3_gatherInLaterRow cX3_gatherInLaterRow 3 none, Cond.methodLink RX3 119 yX3_doStep, Cond.instanceMethod yX3_doStep, Cond.selects RX3 yX3_doStep yX3_doStep, Cond.code yX3_doStep cX3_doStep 4 none, Cond.methodLink RX3 138 yX2_threadNeeded, Cond.instanceMethod yX2_threadNeeded, Cond.selects RX2 yX2_threadNeeded yX2_threadNeeded, Cond.code yX2_threadNeeded cX2_threadNeeded 5 (some .int)]
def wsX4_best_r6 : List Cond := [Cond.fieldLink RX2 19 "BeadDesk$Chart" "step" "[I", Cond.methodLink RX3 142 yX3_faultAhead, Cond.instanceMethod yX3_faultAhead, Cond.selects RX3 yX3_faultAhead yX3_faultAhead, Cond.code yX3_faultAhead cX3_faultAhead 4 (some .int), Cond.fieldLink RX3 153 "BeadDesk$Chart" "length" "I", Cond.methodLink RX3 150 yX3_caughtCount, Cond.instanceMethod yX3_caughtCount, Cond.selects RX3 yX3_caughtCount yX3_caughtCount, Cond.code yX3_caughtCount cX3_caughtCount 2 (some .int), Cond.methodLink RX3 156 yX3_join, Cond.instanceMethod yX3_join, Cond.selects RX3 yX3_join yX3_join, Cond.code yX3_join cX3_join 5 (some .boolean), Cond.fieldLink RX3 36 "BeadDesk$Way" "wovenOff" "[I", Cond.fieldLink RX3 33 "BeadDesk$Way" "wovenThrough" "[I", Cond.methodLink RX3 171 yX3_weaveThrough, Cond.instanceMethod yX3_weaveThrough, Cond.selects RX3 yX3_weaveThrough yX3_weaveThrough, Cond.code yX3_weaveThrough cX3_weaveThrough 6 (some .int), Cond.fieldLink RX3 179 "BeadDesk$Chart" "hole" "[I", Cond.methodLink RX3 175 yX3_unweave, Cond.instanceMethod yX3_unweave, Cond.selects RX3 yX3_unweave yX3_unweave]
def wsX4_best_r7 : List Cond := [Cond.code yX3_unweave cX3_unweave 5 none, Cond.methodLink RX3 160 yX2_fits, Cond.instanceMethod yX2_fits, Cond.selects RX2 yX2_fits yX2_fits, Cond.code yX2_fits cX2_fits 6 (some .boolean), Cond.fieldLink RX2 28 "BeadDesk$Chart" "hole" "[I", Cond.methodLink RX2 24 yX2_passesUpTo, Cond.instanceMethod yX2_passesUpTo, Cond.selects RX2 yX2_passesUpTo yX2_passesUpTo, Cond.code yX2_passesUpTo cX2_passesUpTo 4 (some .int), Cond.methodLink RX3 146 yX3_pickUp, Cond.instanceMethod yX3_pickUp, Cond.selects RX3 yX3_pickUp yX3_pickUp, Cond.code yX3_pickUp cX3_pickUp 3 none, Cond.fieldLink RX3 18 "BeadDesk$Way" "pieceOf" "[I", Cond.fieldLink RX3 168 "BeadDesk$Step" "size" "I", Cond.methodLink RX3 164 yX2_countInto, Cond.instanceMethod yX2_countInto, Cond.selects RX2 yX2_countInto yX2_countInto, Cond.code yX2_countInto cX2_countInto 3 none, Cond.methodLink RX4 148 yX3_isCheaperThan, Cond.instanceMethod yX3_isCheaperThan, Cond.selects RX3 yX3_isCheaperThan yX3_isCheaperThan, Cond.code yX3_isCheaperThan cX3_isCheaperThan 2 (some .boolean)]
def wsX4_best_r8 : List Cond := [Cond.methodLink RX4 152 yX4_tellTrial, Cond.instanceMethod yX4_tellTrial, Cond.selects RX4 yX4_tellTrial yX4_tellTrial, Cond.code yX4_tellTrial cX4_tellTrial 2 none]
def wsX4_best : List Cond := .code yX4_best cX4_best 3 (some .int) :: ((wsX4_best_r1 ++ (wsX4_best_r2 ++ (wsX4_best_r3 ++ (wsX4_best_r4 ++ (wsX4_best_r5 ++ (wsX4_best_r6 ++ (wsX4_best_r7 ++ wsX4_best_r8))))))) ++ wsX40 ++ wsX30 ++ wsX00 ++ wsX20)
def wsX4_bought : List Cond := .code yX4_bought cX4_bought 5 (some .int) :: ([.fieldLink RX4 12 "BeadDesk" "chart" "LBeadDesk$Chart;", .fieldLink RX4 65 "BeadDesk$Chart" "weight" "[I", .methodLink RX4 55 yX4_isColour, .static yX4_isColour, .initialized RX4, .code yX4_isColour cX4_isColour 1 (some .boolean), .methodLink RX4 45 yX4_isWithin, .static yX4_isWithin, .code yX4_isWithin cX4_isWithin 3 (some .boolean), .methodLink RX4 155 yX0_beadsOfColour, .instanceMethod yX0_beadsOfColour, .selects RX0 yX0_beadsOfColour yX0_beadsOfColour, .initialized RX0, .code yX0_beadsOfColour cX0_beadsOfColour 2 (some .int), .methodLink RX0 65 yX0_cellsThatHold, .instanceMethod yX0_cellsThatHold, .selects RX0 yX0_cellsThatHold yX0_cellsThatHold, .code yX0_cellsThatHold cX0_cellsThatHold 4 (some .int), .fieldLink RX0 9 "BeadDesk$Chart" "cells" "[I"] ++ wsX40 ++ wsX00)
def wsX4_count_r1 : List Cond := [Cond.fieldLink RX4 12 "BeadDesk" "chart" "LBeadDesk$Chart;", Cond.fieldLink RX4 58 "BeadDesk$Chart" "hole" "[I", Cond.fieldLink RX4 41 "BeadDesk$Chart" "stitch" "I", Cond.fieldLink RX4 52 "BeadDesk$Chart" "width" "I", Cond.fieldLink RX4 68 "BeadDesk$Chart" "length" "I", Cond.fieldLink RX4 71 "BeadDesk$Chart" "weave" "I", Cond.fieldLink RX4 19 "BeadDesk" "told" "LBeadDesk$Way;", Cond.fieldLink RX4 82 "BeadDesk$Way" "pickedCount" "I", Cond.methodLink RX4 55 yX4_isColour, Cond.static yX4_isColour, Cond.initialized RX4, Cond.code yX4_isColour cX4_isColour 1 (some .boolean), Cond.methodLink RX4 45 yX4_isWithin, Cond.static yX4_isWithin, Cond.code yX4_isWithin cX4_isWithin 3 (some .boolean), Cond.methodLink RX4 155 yX0_beadsOfColour, Cond.instanceMethod yX0_beadsOfColour, Cond.selects RX0 yX0_beadsOfColour yX0_beadsOfColour, Cond.initialized RX0, Cond.code yX0_beadsOfColour cX0_beadsOfColour 2 (some .int), Cond.methodLink RX0 65 yX0_cellsThatHold, Cond.instanceMethod yX0_cellsThatHold, Cond.selects RX0 yX0_cellsThatHold yX0_cellsThatHold, Cond.code yX0_cellsThatHold cX0_cellsThatHold 4 (some .int)]
def wsX4_count_r2 : List Cond := [Cond.fieldLink RX0 9 "BeadDesk$Chart" "cells" "[I", Cond.methodLink RX4 158 yX0_allBeads, Cond.instanceMethod yX0_allBeads, Cond.selects RX0 yX0_allBeads yX0_allBeads, Cond.code yX0_allBeads cX0_allBeads 1 (some .int), Cond.methodLink RX4 162 yX0_rowsWithBeads, Cond.instanceMethod yX0_rowsWithBeads, Cond.selects RX0 yX0_rowsWithBeads yX0_rowsWithBeads, Cond.code yX0_rowsWithBeads cX0_rowsWithBeads 3 (some .int), Cond.methodLink RX0 61 yX0_beadsInRow, Cond.instanceMethod yX0_beadsInRow, Cond.selects RX0 yX0_beadsInRow yX0_beadsInRow, Cond.code yX0_beadsInRow cX0_beadsInRow 4 (some .int), Cond.methodLink RX0 57 yX0_colourAt, Cond.instanceMethod yX0_colourAt, Cond.selects RX0 yX0_colourAt yX0_colourAt, Cond.code yX0_colourAt cX0_colourAt 3 (some .int), Cond.static yX4_isCell, Cond.code yX4_isCell cX4_isCell 2 (some .boolean)]
def wsX4_count : List Cond := .code yX4_count cX4_count 2 (some .int) :: ((wsX4_count_r1 ++ wsX4_count_r2) ++ wsX40 ++ wsX00 ++ wsX30)
def wsX5_init_r1 : List Cond := [Cond.methodLink RX5 1 objectInit, Cond.instanceMethod objectInit, Cond.code objectInit ⟨#[0xb1]⟩ 1 none, Cond.arrayClass .int, Cond.fieldLink RX5 7 "BeadDeskModel" "chart" "[I", Cond.fieldLink RX5 13 "BeadDeskModel" "hole" "[I", Cond.fieldLink RX5 16 "BeadDeskModel" "step" "[I", Cond.fieldLink RX5 19 "BeadDeskModel" "weight" "[I", Cond.fieldLink RX5 22 "BeadDeskModel" "length" "I", Cond.fieldLink RX5 26 "BeadDeskModel" "weave" "I", Cond.fieldLink RX5 29 "BeadDeskModel" "cellOf" "[I", Cond.fieldLink RX5 32 "BeadDeskModel" "pieceOf" "[I", Cond.fieldLink RX5 35 "BeadDeskModel" "passes" "[I", Cond.fieldLink RX5 38 "BeadDeskModel" "caughtFirst" "[I", Cond.fieldLink RX5 41 "BeadDeskModel" "caughtSecond" "[I", Cond.fieldLink RX5 44 "BeadDeskModel" "colourOf" "[I", Cond.fieldLink RX5 47 "BeadDeskModel" "placeOf" "[I", Cond.fieldLink RX5 50 "BeadDeskModel" "wovenMany" "[I", Cond.fieldLink RX5 53 "BeadDeskModel" "woven" "[I", Cond.fieldLink RX5 56 "BeadDeskModel" "stepOf" "[I", Cond.fieldLink RX5 59 "BeadDeskModel" "off" "[I", Cond.fieldLink RX5 62 "BeadDeskModel" "on" "[I", Cond.fieldLink RX5 65 "BeadDeskModel" "doneCellOf" "[I", Cond.fieldLink RX5 68 "BeadDeskModel" "donePieceOf" "[I"]
def wsX5_init_r2 : List Cond := [Cond.fieldLink RX5 71 "BeadDeskModel" "donePasses" "[I", Cond.fieldLink RX5 74 "BeadDeskModel" "doneFirst" "[I", Cond.fieldLink RX5 77 "BeadDeskModel" "doneSecond" "[I", Cond.fieldLink RX5 80 "BeadDeskModel" "doneColour" "[I", Cond.fieldLink RX5 83 "BeadDeskModel" "order" "[I", Cond.fieldLink RX5 86 "BeadDeskModel" "doneWovenMany" "[I", Cond.fieldLink RX5 89 "BeadDeskModel" "doneWoven" "[I", Cond.arrayClass .boolean, Cond.fieldLink RX5 92 "BeadDeskModel" "isIn" "[Z"]
def wsX5_init : List Cond := .code yX5_init cX5_init 2 none :: ((wsX5_init_r1 ++ wsX5_init_r2) ++ wsX50)
def wsX5_in : List Cond := .code yX5_in cX5_in 3 (some .boolean) :: ([])
def wsX5_columns : List Cond := .code yX5_columns cX5_columns 1 (some .int) :: ([.fieldLink RX5 96 "BeadDeskModel" "ringOf" "I"] ++ wsX50)
def wsX5_beads : List Cond := .code yX5_beads cX5_beads 8 (some .boolean) :: ([.fieldLink RX5 7 "BeadDeskModel" "chart" "[I", .methodLink RX5 99 yX5_in, .static yX5_in, .initialized RX5, .code yX5_in cX5_in 3 (some .boolean), .methodLink RX5 103 yX5_columns, .instanceMethod yX5_columns, .selects RX5 yX5_columns yX5_columns, .code yX5_columns cX5_columns 1 (some .int), .fieldLink RX5 96 "BeadDeskModel" "ringOf" "I"] ++ wsX50)
def wsX5_stitch : List Cond := .code yX5_stitch cX5_stitch 3 (some .int) :: ([.fieldLink RX5 107 "BeadDeskModel" "stitch" "I", .methodLink RX5 99 yX5_in, .static yX5_in, .initialized RX5, .code yX5_in cX5_in 3 (some .boolean)] ++ wsX50)
def wsX5_ring : List Cond := .code yX5_ring cX5_ring 4 (some .boolean) :: ([.fieldLink RX5 7 "BeadDeskModel" "chart" "[I", .fieldLink RX5 96 "BeadDeskModel" "ringOf" "I", .methodLink RX5 99 yX5_in, .static yX5_in, .initialized RX5, .code yX5_in cX5_in 3 (some .boolean)] ++ wsX50)
def wsX5_isColour : List Cond := .code yX5_isColour cX5_isColour 1 (some .boolean) :: ([.methodLink RX5 99 yX5_in, .static yX5_in, .initialized RX5, .code yX5_in cX5_in 3 (some .boolean)])
def wsX5_colour : List Cond := .code yX5_colour cX5_colour 5 (some .boolean) :: ([.fieldLink RX5 13 "BeadDeskModel" "hole" "[I", .fieldLink RX5 16 "BeadDeskModel" "step" "[I", .fieldLink RX5 19 "BeadDeskModel" "weight" "[I", .methodLink RX5 110 yX5_isColour, .static yX5_isColour, .initialized RX5, .code yX5_isColour cX5_isColour 1 (some .boolean), .methodLink RX5 99 yX5_in, .static yX5_in, .code yX5_in cX5_in 3 (some .boolean)] ++ wsX50)
def wsX5_thread : List Cond := .code yX5_thread cX5_thread 3 (some .boolean) :: ([.fieldLink RX5 22 "BeadDeskModel" "length" "I", .fieldLink RX5 26 "BeadDeskModel" "weave" "I", .methodLink RX5 99 yX5_in, .static yX5_in, .initialized RX5, .code yX5_in cX5_in 3 (some .boolean)] ++ wsX50)
def wsX5_cell : List Cond := .code yX5_cell cX5_cell 3 (some .int) :: ([.fieldLink RX5 7 "BeadDeskModel" "chart" "[I", .methodLink RX5 99 yX5_in, .static yX5_in, .initialized RX5, .code yX5_in cX5_in 3 (some .boolean)] ++ wsX50)
def wsX5_columnOf : List Cond := .code yX5_columnOf cX5_columnOf 2 (some .int) :: ([.fieldLink RX5 96 "BeadDeskModel" "ringOf" "I"] ++ wsX50)
def wsX5_pickedAt : List Cond := .code yX5_pickedAt cX5_pickedAt 4 (some .int) :: ([.fieldLink RX5 47 "BeadDeskModel" "placeOf" "[I", .methodLink RX5 114 yX5_columnOf, .instanceMethod yX5_columnOf, .selects RX5 yX5_columnOf yX5_columnOf, .initialized RX5, .code yX5_columnOf cX5_columnOf 2 (some .int), .fieldLink RX5 96 "BeadDeskModel" "ringOf" "I", .methodLink RX5 99 yX5_in, .static yX5_in, .code yX5_in cX5_in 3 (some .boolean)] ++ wsX50)
def wsX5_catches : List Cond := .code yX5_catches cX5_catches 7 none :: ([.fieldLink RX5 107 "BeadDeskModel" "stitch" "I", .fieldLink RX5 29 "BeadDeskModel" "cellOf" "[I", .fieldLink RX5 38 "BeadDeskModel" "caughtFirst" "[I", .fieldLink RX5 122 "BeadDeskModel" "many" "I", .fieldLink RX5 41 "BeadDeskModel" "caughtSecond" "[I", .methodLink RX5 118 yX5_pickedAt, .instanceMethod yX5_pickedAt, .selects RX5 yX5_pickedAt yX5_pickedAt, .initialized RX5, .code yX5_pickedAt cX5_pickedAt 4 (some .int), .fieldLink RX5 47 "BeadDeskModel" "placeOf" "[I", .methodLink RX5 114 yX5_columnOf, .instanceMethod yX5_columnOf, .selects RX5 yX5_columnOf yX5_columnOf, .code yX5_columnOf cX5_columnOf 2 (some .int), .fieldLink RX5 96 "BeadDeskModel" "ringOf" "I", .methodLink RX5 99 yX5_in, .static yX5_in, .code yX5_in cX5_in 3 (some .boolean)] ++ wsX50)
def wsX5_passesBy : List Cond := .code yX5_passesBy cX5_passesBy 2 none :: ([.fieldLink RX5 56 "BeadDeskModel" "stepOf" "[I", .fieldLink RX5 125 "BeadDeskModel" "stepMany" "I"] ++ wsX50)
def wsX5_colourAt : List Cond := .code yX5_colourAt cX5_colourAt 3 (some .int) :: ([.fieldLink RX5 122 "BeadDeskModel" "many" "I", .fieldLink RX5 7 "BeadDeskModel" "chart" "[I", .fieldLink RX5 44 "BeadDeskModel" "colourOf" "[I"] ++ wsX50)
def wsX5_needs : List Cond := .code yX5_needs cX5_needs 4 (some .int) :: ([.fieldLink RX5 125 "BeadDeskModel" "stepMany" "I", .fieldLink RX5 16 "BeadDeskModel" "step" "[I", .fieldLink RX5 56 "BeadDeskModel" "stepOf" "[I", .methodLink RX5 128 yX5_colourAt, .instanceMethod yX5_colourAt, .selects RX5 yX5_colourAt yX5_colourAt, .initialized RX5, .code yX5_colourAt cX5_colourAt 3 (some .int), .fieldLink RX5 122 "BeadDeskModel" "many" "I", .fieldLink RX5 7 "BeadDeskModel" "chart" "[I", .fieldLink RX5 44 "BeadDeskModel" "colourOf" "[I"] ++ wsX50)
def wsX5_finds : List Cond := .code yX5_finds cX5_finds 7 (some .boolean) :: ([.fieldLink RX5 122 "BeadDeskModel" "many" "I", .fieldLink RX5 26 "BeadDeskModel" "weave" "I", .fieldLink RX5 35 "BeadDeskModel" "passes" "[I", .fieldLink RX5 59 "BeadDeskModel" "off" "[I", .fieldLink RX5 13 "BeadDeskModel" "hole" "[I", .fieldLink RX5 44 "BeadDeskModel" "colourOf" "[I"] ++ wsX50)
def wsX5_joins : List Cond := .code yX5_joins cX5_joins 2 (some .boolean) :: ([.fieldLink RX5 59 "BeadDeskModel" "off" "[I", .fieldLink RX5 62 "BeadDeskModel" "on" "[I", .fieldLink RX5 26 "BeadDeskModel" "weave" "I", .fieldLink RX5 35 "BeadDeskModel" "passes" "[I", .fieldLink RX5 53 "BeadDeskModel" "woven" "[I", .fieldLink RX5 135 "BeadDeskModel" "pieces" "I", .fieldLink RX5 50 "BeadDeskModel" "wovenMany" "[I", .fieldLink RX5 22 "BeadDeskModel" "length" "I", .fieldLink RX5 138 "BeadDeskModel" "left" "I", .methodLink RX5 131 yX5_finds, .instanceMethod yX5_finds, .selects RX5 yX5_finds yX5_finds, .initialized RX5, .code yX5_finds cX5_finds 7 (some .boolean), .fieldLink RX5 122 "BeadDeskModel" "many" "I", .fieldLink RX5 13 "BeadDeskModel" "hole" "[I", .fieldLink RX5 44 "BeadDeskModel" "colourOf" "[I"] ++ wsX50)
def wsX5_hasRoom : List Cond := .code yX5_hasRoom cX5_hasRoom 6 (some .boolean) :: ([.fieldLink RX5 125 "BeadDeskModel" "stepMany" "I", .fieldLink RX5 56 "BeadDeskModel" "stepOf" "[I", .fieldLink RX5 122 "BeadDeskModel" "many" "I", .fieldLink RX5 35 "BeadDeskModel" "passes" "[I", .fieldLink RX5 13 "BeadDeskModel" "hole" "[I", .methodLink RX5 128 yX5_colourAt, .instanceMethod yX5_colourAt, .selects RX5 yX5_colourAt yX5_colourAt, .initialized RX5, .code yX5_colourAt cX5_colourAt 3 (some .int), .fieldLink RX5 7 "BeadDeskModel" "chart" "[I", .fieldLink RX5 44 "BeadDeskModel" "colourOf" "[I"] ++ wsX50)
def wsX5_fails : List Cond := .code yX5_fails cX5_fails 3 (some .boolean) :: ([.fieldLink RX5 141 "BeadDeskModel" "fault" "I", .fieldLink RX5 144 "BeadDeskModel" "faultCell" "I"] ++ wsX50)
def wsX5_picks_r1 : List Cond := [Cond.fieldLink RX5 125 "BeadDeskModel" "stepMany" "I", Cond.fieldLink RX5 38 "BeadDeskModel" "caughtFirst" "[I", Cond.fieldLink RX5 122 "BeadDeskModel" "many" "I", Cond.fieldLink RX5 41 "BeadDeskModel" "caughtSecond" "[I", Cond.fieldLink RX5 147 "BeadDeskModel" "isFirstRow" "Z", Cond.fieldLink RX5 159 "BeadDeskModel" "rowMany" "I", Cond.fieldLink RX5 96 "BeadDeskModel" "ringOf" "I", Cond.fieldLink RX5 162 "BeadDeskModel" "rowFirstAhead" "I", Cond.fieldLink RX5 22 "BeadDeskModel" "length" "I", Cond.fieldLink RX5 135 "BeadDeskModel" "pieces" "I", Cond.fieldLink RX5 138 "BeadDeskModel" "left" "I", Cond.fieldLink RX5 50 "BeadDeskModel" "wovenMany" "[I", Cond.fieldLink RX5 35 "BeadDeskModel" "passes" "[I", Cond.fieldLink RX5 44 "BeadDeskModel" "colourOf" "[I", Cond.fieldLink RX5 7 "BeadDeskModel" "chart" "[I", Cond.fieldLink RX5 29 "BeadDeskModel" "cellOf" "[I", Cond.fieldLink RX5 32 "BeadDeskModel" "pieceOf" "[I", Cond.fieldLink RX5 56 "BeadDeskModel" "stepOf" "[I", Cond.fieldLink RX5 47 "BeadDeskModel" "placeOf" "[I", Cond.fieldLink RX5 179 "BeadDeskModel" "rowFirst" "I", Cond.fieldLink RX5 182 "BeadDeskModel" "used" "I", Cond.methodLink RX5 151 yX5_catches, Cond.instanceMethod yX5_catches, Cond.selects RX5 yX5_catches yX5_catches]
def wsX5_picks_r2 : List Cond := [Cond.initialized RX5, Cond.code yX5_catches cX5_catches 7 none, Cond.fieldLink RX5 107 "BeadDeskModel" "stitch" "I", Cond.methodLink RX5 118 yX5_pickedAt, Cond.instanceMethod yX5_pickedAt, Cond.selects RX5 yX5_pickedAt yX5_pickedAt, Cond.code yX5_pickedAt cX5_pickedAt 4 (some .int), Cond.methodLink RX5 114 yX5_columnOf, Cond.instanceMethod yX5_columnOf, Cond.selects RX5 yX5_columnOf yX5_columnOf, Cond.code yX5_columnOf cX5_columnOf 2 (some .int), Cond.methodLink RX5 99 yX5_in, Cond.static yX5_in, Cond.code yX5_in cX5_in 3 (some .boolean), Cond.methodLink RX5 155 yX5_fails, Cond.instanceMethod yX5_fails, Cond.selects RX5 yX5_fails yX5_fails, Cond.code yX5_fails cX5_fails 3 (some .boolean), Cond.fieldLink RX5 141 "BeadDeskModel" "fault" "I", Cond.fieldLink RX5 144 "BeadDeskModel" "faultCell" "I", Cond.methodLink RX5 165 yX5_passesBy, Cond.instanceMethod yX5_passesBy, Cond.selects RX5 yX5_passesBy yX5_passesBy, Cond.code yX5_passesBy cX5_passesBy 2 none]
def wsX5_picks_r3 : List Cond := [Cond.methodLink RX5 169 yX5_needs, Cond.instanceMethod yX5_needs, Cond.selects RX5 yX5_needs yX5_needs, Cond.code yX5_needs cX5_needs 4 (some .int), Cond.fieldLink RX5 16 "BeadDeskModel" "step" "[I", Cond.methodLink RX5 128 yX5_colourAt, Cond.instanceMethod yX5_colourAt, Cond.selects RX5 yX5_colourAt yX5_colourAt, Cond.code yX5_colourAt cX5_colourAt 3 (some .int), Cond.methodLink RX5 172 yX5_joins, Cond.instanceMethod yX5_joins, Cond.selects RX5 yX5_joins yX5_joins, Cond.code yX5_joins cX5_joins 2 (some .boolean), Cond.fieldLink RX5 59 "BeadDeskModel" "off" "[I", Cond.fieldLink RX5 62 "BeadDeskModel" "on" "[I", Cond.fieldLink RX5 26 "BeadDeskModel" "weave" "I", Cond.fieldLink RX5 53 "BeadDeskModel" "woven" "[I", Cond.methodLink RX5 131 yX5_finds, Cond.instanceMethod yX5_finds, Cond.selects RX5 yX5_finds yX5_finds, Cond.code yX5_finds cX5_finds 7 (some .boolean), Cond.fieldLink RX5 13 "BeadDeskModel" "hole" "[I", Cond.methodLink RX5 176 yX5_hasRoom, Cond.instanceMethod yX5_hasRoom]
def wsX5_picks_r4 : List Cond := [Cond.selects RX5 yX5_hasRoom yX5_hasRoom, Cond.code yX5_hasRoom cX5_hasRoom 6 (some .boolean)]
def wsX5_picks : List Cond := .code yX5_picks cX5_picks 8 (some .boolean) :: ((wsX5_picks_r1 ++ (wsX5_picks_r2 ++ (wsX5_picks_r3 ++ wsX5_picks_r4))) ++ wsX50)
def wsX5_lastColumn : List Cond := .code yX5_lastColumn cX5_lastColumn 6 (some .int) :: ([.fieldLink RX5 7 "BeadDeskModel" "chart" "[I", .methodLink RX5 103 yX5_columns, .instanceMethod yX5_columns, .selects RX5 yX5_columns yX5_columns, .initialized RX5, .code yX5_columns cX5_columns 1 (some .int), .fieldLink RX5 96 "BeadDeskModel" "ringOf" "I"] ++ wsX50)
def wsX5_worksRow_r1 : List Cond := [Cond.fieldLink RX5 159 "BeadDeskModel" "rowMany" "I", Cond.fieldLink RX5 7 "BeadDeskModel" "chart" "[I", Cond.methodLink RX5 185 yX5_lastColumn, Cond.instanceMethod yX5_lastColumn, Cond.selects RX5 yX5_lastColumn yX5_lastColumn, Cond.initialized RX5, Cond.code yX5_lastColumn cX5_lastColumn 6 (some .int), Cond.methodLink RX5 103 yX5_columns, Cond.instanceMethod yX5_columns, Cond.selects RX5 yX5_columns yX5_columns, Cond.code yX5_columns cX5_columns 1 (some .int), Cond.fieldLink RX5 96 "BeadDeskModel" "ringOf" "I", Cond.methodLink RX5 189 yX5_picks, Cond.instanceMethod yX5_picks, Cond.selects RX5 yX5_picks yX5_picks, Cond.code yX5_picks cX5_picks 8 (some .boolean), Cond.fieldLink RX5 125 "BeadDeskModel" "stepMany" "I", Cond.fieldLink RX5 38 "BeadDeskModel" "caughtFirst" "[I", Cond.fieldLink RX5 122 "BeadDeskModel" "many" "I", Cond.fieldLink RX5 41 "BeadDeskModel" "caughtSecond" "[I", Cond.fieldLink RX5 147 "BeadDeskModel" "isFirstRow" "Z", Cond.fieldLink RX5 162 "BeadDeskModel" "rowFirstAhead" "I", Cond.fieldLink RX5 22 "BeadDeskModel" "length" "I", Cond.fieldLink RX5 135 "BeadDeskModel" "pieces" "I"]
def wsX5_worksRow_r2 : List Cond := [Cond.fieldLink RX5 138 "BeadDeskModel" "left" "I", Cond.fieldLink RX5 50 "BeadDeskModel" "wovenMany" "[I", Cond.fieldLink RX5 35 "BeadDeskModel" "passes" "[I", Cond.fieldLink RX5 44 "BeadDeskModel" "colourOf" "[I", Cond.fieldLink RX5 29 "BeadDeskModel" "cellOf" "[I", Cond.fieldLink RX5 32 "BeadDeskModel" "pieceOf" "[I", Cond.fieldLink RX5 56 "BeadDeskModel" "stepOf" "[I", Cond.fieldLink RX5 47 "BeadDeskModel" "placeOf" "[I", Cond.fieldLink RX5 179 "BeadDeskModel" "rowFirst" "I", Cond.fieldLink RX5 182 "BeadDeskModel" "used" "I", Cond.methodLink RX5 151 yX5_catches, Cond.instanceMethod yX5_catches, Cond.selects RX5 yX5_catches yX5_catches, Cond.code yX5_catches cX5_catches 7 none, Cond.fieldLink RX5 107 "BeadDeskModel" "stitch" "I", Cond.methodLink RX5 118 yX5_pickedAt, Cond.instanceMethod yX5_pickedAt, Cond.selects RX5 yX5_pickedAt yX5_pickedAt, Cond.code yX5_pickedAt cX5_pickedAt 4 (some .int), Cond.methodLink RX5 114 yX5_columnOf, Cond.instanceMethod yX5_columnOf, Cond.selects RX5 yX5_columnOf yX5_columnOf, Cond.code yX5_columnOf cX5_columnOf 2 (some .int), Cond.methodLink RX5 99 yX5_in]
def wsX5_worksRow_r3 : List Cond := [Cond.static yX5_in, Cond.code yX5_in cX5_in 3 (some .boolean), Cond.methodLink RX5 155 yX5_fails, Cond.instanceMethod yX5_fails, Cond.selects RX5 yX5_fails yX5_fails, Cond.code yX5_fails cX5_fails 3 (some .boolean), Cond.fieldLink RX5 141 "BeadDeskModel" "fault" "I", Cond.fieldLink RX5 144 "BeadDeskModel" "faultCell" "I", Cond.methodLink RX5 165 yX5_passesBy, Cond.instanceMethod yX5_passesBy, Cond.selects RX5 yX5_passesBy yX5_passesBy, Cond.code yX5_passesBy cX5_passesBy 2 none, Cond.methodLink RX5 169 yX5_needs, Cond.instanceMethod yX5_needs, Cond.selects RX5 yX5_needs yX5_needs, Cond.code yX5_needs cX5_needs 4 (some .int), Cond.fieldLink RX5 16 "BeadDeskModel" "step" "[I", Cond.methodLink RX5 128 yX5_colourAt, Cond.instanceMethod yX5_colourAt, Cond.selects RX5 yX5_colourAt yX5_colourAt, Cond.code yX5_colourAt cX5_colourAt 3 (some .int), Cond.methodLink RX5 172 yX5_joins, Cond.instanceMethod yX5_joins, Cond.selects RX5 yX5_joins yX5_joins]
def wsX5_worksRow_r4 : List Cond := [Cond.code yX5_joins cX5_joins 2 (some .boolean), Cond.fieldLink RX5 59 "BeadDeskModel" "off" "[I", Cond.fieldLink RX5 62 "BeadDeskModel" "on" "[I", Cond.fieldLink RX5 26 "BeadDeskModel" "weave" "I", Cond.fieldLink RX5 53 "BeadDeskModel" "woven" "[I", Cond.methodLink RX5 131 yX5_finds, Cond.instanceMethod yX5_finds, Cond.selects RX5 yX5_finds yX5_finds, Cond.code yX5_finds cX5_finds 7 (some .boolean), Cond.fieldLink RX5 13 "BeadDeskModel" "hole" "[I", Cond.methodLink RX5 176 yX5_hasRoom, Cond.instanceMethod yX5_hasRoom, Cond.selects RX5 yX5_hasRoom yX5_hasRoom, Cond.code yX5_hasRoom cX5_hasRoom 6 (some .boolean)]
def wsX5_worksRow : List Cond := .code yX5_worksRow cX5_worksRow 7 (some .boolean) :: ((wsX5_worksRow_r1 ++ (wsX5_worksRow_r2 ++ (wsX5_worksRow_r3 ++ wsX5_worksRow_r4))) ++ wsX50)
def wsX5_tries_r1 : List Cond := [Cond.fieldLink RX5 122 "BeadDeskModel" "many" "I", Cond.fieldLink RX5 141 "BeadDeskModel" "fault" "I", Cond.fieldLink RX5 144 "BeadDeskModel" "faultCell" "I", Cond.fieldLink RX5 135 "BeadDeskModel" "pieces" "I", Cond.fieldLink RX5 182 "BeadDeskModel" "used" "I", Cond.fieldLink RX5 138 "BeadDeskModel" "left" "I", Cond.fieldLink RX5 47 "BeadDeskModel" "placeOf" "[I", Cond.fieldLink RX5 147 "BeadDeskModel" "isFirstRow" "Z", Cond.fieldLink RX5 179 "BeadDeskModel" "rowFirst" "I", Cond.fieldLink RX5 162 "BeadDeskModel" "rowFirstAhead" "I", Cond.fieldLink RX5 96 "BeadDeskModel" "ringOf" "I", Cond.methodLink RX5 185 yX5_lastColumn, Cond.instanceMethod yX5_lastColumn, Cond.selects RX5 yX5_lastColumn yX5_lastColumn, Cond.initialized RX5, Cond.code yX5_lastColumn cX5_lastColumn 6 (some .int), Cond.fieldLink RX5 7 "BeadDeskModel" "chart" "[I", Cond.methodLink RX5 103 yX5_columns, Cond.instanceMethod yX5_columns, Cond.selects RX5 yX5_columns yX5_columns, Cond.code yX5_columns cX5_columns 1 (some .int), Cond.methodLink RX5 193 yX5_worksRow, Cond.instanceMethod yX5_worksRow, Cond.selects RX5 yX5_worksRow yX5_worksRow]
def wsX5_tries_r2 : List Cond := [Cond.code yX5_worksRow cX5_worksRow 7 (some .boolean), Cond.fieldLink RX5 159 "BeadDeskModel" "rowMany" "I", Cond.methodLink RX5 189 yX5_picks, Cond.instanceMethod yX5_picks, Cond.selects RX5 yX5_picks yX5_picks, Cond.code yX5_picks cX5_picks 8 (some .boolean), Cond.fieldLink RX5 125 "BeadDeskModel" "stepMany" "I", Cond.fieldLink RX5 38 "BeadDeskModel" "caughtFirst" "[I", Cond.fieldLink RX5 41 "BeadDeskModel" "caughtSecond" "[I", Cond.fieldLink RX5 22 "BeadDeskModel" "length" "I", Cond.fieldLink RX5 50 "BeadDeskModel" "wovenMany" "[I", Cond.fieldLink RX5 35 "BeadDeskModel" "passes" "[I", Cond.fieldLink RX5 44 "BeadDeskModel" "colourOf" "[I", Cond.fieldLink RX5 29 "BeadDeskModel" "cellOf" "[I", Cond.fieldLink RX5 32 "BeadDeskModel" "pieceOf" "[I", Cond.fieldLink RX5 56 "BeadDeskModel" "stepOf" "[I", Cond.methodLink RX5 151 yX5_catches, Cond.instanceMethod yX5_catches, Cond.selects RX5 yX5_catches yX5_catches, Cond.code yX5_catches cX5_catches 7 none, Cond.fieldLink RX5 107 "BeadDeskModel" "stitch" "I", Cond.methodLink RX5 118 yX5_pickedAt, Cond.instanceMethod yX5_pickedAt, Cond.selects RX5 yX5_pickedAt yX5_pickedAt]
def wsX5_tries_r3 : List Cond := [Cond.code yX5_pickedAt cX5_pickedAt 4 (some .int), Cond.methodLink RX5 114 yX5_columnOf, Cond.instanceMethod yX5_columnOf, Cond.selects RX5 yX5_columnOf yX5_columnOf, Cond.code yX5_columnOf cX5_columnOf 2 (some .int), Cond.methodLink RX5 99 yX5_in, Cond.static yX5_in, Cond.code yX5_in cX5_in 3 (some .boolean), Cond.methodLink RX5 155 yX5_fails, Cond.instanceMethod yX5_fails, Cond.selects RX5 yX5_fails yX5_fails, Cond.code yX5_fails cX5_fails 3 (some .boolean), Cond.methodLink RX5 165 yX5_passesBy, Cond.instanceMethod yX5_passesBy, Cond.selects RX5 yX5_passesBy yX5_passesBy, Cond.code yX5_passesBy cX5_passesBy 2 none, Cond.methodLink RX5 169 yX5_needs, Cond.instanceMethod yX5_needs, Cond.selects RX5 yX5_needs yX5_needs, Cond.code yX5_needs cX5_needs 4 (some .int), Cond.fieldLink RX5 16 "BeadDeskModel" "step" "[I", Cond.methodLink RX5 128 yX5_colourAt, Cond.instanceMethod yX5_colourAt, Cond.selects RX5 yX5_colourAt yX5_colourAt]
def wsX5_tries_r4 : List Cond := [Cond.code yX5_colourAt cX5_colourAt 3 (some .int), Cond.methodLink RX5 172 yX5_joins, Cond.instanceMethod yX5_joins, Cond.selects RX5 yX5_joins yX5_joins, Cond.code yX5_joins cX5_joins 2 (some .boolean), Cond.fieldLink RX5 59 "BeadDeskModel" "off" "[I", Cond.fieldLink RX5 62 "BeadDeskModel" "on" "[I", Cond.fieldLink RX5 26 "BeadDeskModel" "weave" "I", Cond.fieldLink RX5 53 "BeadDeskModel" "woven" "[I", Cond.methodLink RX5 131 yX5_finds, Cond.instanceMethod yX5_finds, Cond.selects RX5 yX5_finds yX5_finds, Cond.code yX5_finds cX5_finds 7 (some .boolean), Cond.fieldLink RX5 13 "BeadDeskModel" "hole" "[I", Cond.methodLink RX5 176 yX5_hasRoom, Cond.instanceMethod yX5_hasRoom, Cond.selects RX5 yX5_hasRoom yX5_hasRoom, Cond.code yX5_hasRoom cX5_hasRoom 6 (some .boolean)]
def wsX5_tries : List Cond := .code yX5_tries cX5_tries 7 none :: ((wsX5_tries_r1 ++ (wsX5_tries_r2 ++ (wsX5_tries_r3 ++ wsX5_tries_r4))) ++ wsX50)
def wsX5_keeps_r1 : List Cond := [Cond.fieldLink RX5 197 "BeadDeskModel" "hasWorked" "Z", Cond.fieldLink RX5 122 "BeadDeskModel" "many" "I", Cond.fieldLink RX5 200 "BeadDeskModel" "doneMany" "I", Cond.fieldLink RX5 141 "BeadDeskModel" "fault" "I", Cond.fieldLink RX5 203 "BeadDeskModel" "doneFault" "I", Cond.fieldLink RX5 144 "BeadDeskModel" "faultCell" "I", Cond.fieldLink RX5 206 "BeadDeskModel" "doneCell" "I", Cond.fieldLink RX5 135 "BeadDeskModel" "pieces" "I", Cond.fieldLink RX5 209 "BeadDeskModel" "donePieces" "I", Cond.fieldLink RX5 182 "BeadDeskModel" "used" "I", Cond.fieldLink RX5 212 "BeadDeskModel" "doneUsed" "I", Cond.fieldLink RX5 138 "BeadDeskModel" "left" "I", Cond.fieldLink RX5 215 "BeadDeskModel" "doneLeft" "I", Cond.fieldLink RX5 83 "BeadDeskModel" "order" "[I", Cond.fieldLink RX5 47 "BeadDeskModel" "placeOf" "[I", Cond.fieldLink RX5 65 "BeadDeskModel" "doneCellOf" "[I", Cond.fieldLink RX5 29 "BeadDeskModel" "cellOf" "[I", Cond.fieldLink RX5 68 "BeadDeskModel" "donePieceOf" "[I", Cond.fieldLink RX5 32 "BeadDeskModel" "pieceOf" "[I", Cond.fieldLink RX5 71 "BeadDeskModel" "donePasses" "[I", Cond.fieldLink RX5 35 "BeadDeskModel" "passes" "[I", Cond.fieldLink RX5 74 "BeadDeskModel" "doneFirst" "[I", Cond.fieldLink RX5 38 "BeadDeskModel" "caughtFirst" "[I", Cond.fieldLink RX5 77 "BeadDeskModel" "doneSecond" "[I"]
def wsX5_keeps_r2 : List Cond := [Cond.fieldLink RX5 41 "BeadDeskModel" "caughtSecond" "[I", Cond.fieldLink RX5 80 "BeadDeskModel" "doneColour" "[I", Cond.fieldLink RX5 44 "BeadDeskModel" "colourOf" "[I", Cond.fieldLink RX5 86 "BeadDeskModel" "doneWovenMany" "[I", Cond.fieldLink RX5 50 "BeadDeskModel" "wovenMany" "[I", Cond.fieldLink RX5 89 "BeadDeskModel" "doneWoven" "[I", Cond.fieldLink RX5 53 "BeadDeskModel" "woven" "[I"]
def wsX5_keeps : List Cond := .code yX5_keeps cX5_keeps 2 none :: ((wsX5_keeps_r1 ++ wsX5_keeps_r2) ++ wsX50)
def wsX5_work_r1 : List Cond := [Cond.fieldLink RX5 200 "BeadDeskModel" "doneMany" "I", Cond.methodLink RX5 99 yX5_in, Cond.static yX5_in, Cond.initialized RX5, Cond.code yX5_in cX5_in 3 (some .boolean), Cond.methodLink RX5 218 yX5_tries, Cond.instanceMethod yX5_tries, Cond.selects RX5 yX5_tries yX5_tries, Cond.code yX5_tries cX5_tries 7 none, Cond.fieldLink RX5 122 "BeadDeskModel" "many" "I", Cond.fieldLink RX5 141 "BeadDeskModel" "fault" "I", Cond.fieldLink RX5 144 "BeadDeskModel" "faultCell" "I", Cond.fieldLink RX5 135 "BeadDeskModel" "pieces" "I", Cond.fieldLink RX5 182 "BeadDeskModel" "used" "I", Cond.fieldLink RX5 138 "BeadDeskModel" "left" "I", Cond.fieldLink RX5 47 "BeadDeskModel" "placeOf" "[I", Cond.fieldLink RX5 147 "BeadDeskModel" "isFirstRow" "Z", Cond.fieldLink RX5 179 "BeadDeskModel" "rowFirst" "I", Cond.fieldLink RX5 162 "BeadDeskModel" "rowFirstAhead" "I", Cond.fieldLink RX5 96 "BeadDeskModel" "ringOf" "I", Cond.methodLink RX5 185 yX5_lastColumn, Cond.instanceMethod yX5_lastColumn, Cond.selects RX5 yX5_lastColumn yX5_lastColumn, Cond.code yX5_lastColumn cX5_lastColumn 6 (some .int)]
def wsX5_work_r2 : List Cond := [Cond.fieldLink RX5 7 "BeadDeskModel" "chart" "[I", Cond.methodLink RX5 103 yX5_columns, Cond.instanceMethod yX5_columns, Cond.selects RX5 yX5_columns yX5_columns, Cond.code yX5_columns cX5_columns 1 (some .int), Cond.methodLink RX5 193 yX5_worksRow, Cond.instanceMethod yX5_worksRow, Cond.selects RX5 yX5_worksRow yX5_worksRow, Cond.code yX5_worksRow cX5_worksRow 7 (some .boolean), Cond.fieldLink RX5 159 "BeadDeskModel" "rowMany" "I", Cond.methodLink RX5 189 yX5_picks, Cond.instanceMethod yX5_picks, Cond.selects RX5 yX5_picks yX5_picks, Cond.code yX5_picks cX5_picks 8 (some .boolean), Cond.fieldLink RX5 125 "BeadDeskModel" "stepMany" "I", Cond.fieldLink RX5 38 "BeadDeskModel" "caughtFirst" "[I", Cond.fieldLink RX5 41 "BeadDeskModel" "caughtSecond" "[I", Cond.fieldLink RX5 22 "BeadDeskModel" "length" "I", Cond.fieldLink RX5 50 "BeadDeskModel" "wovenMany" "[I", Cond.fieldLink RX5 35 "BeadDeskModel" "passes" "[I", Cond.fieldLink RX5 44 "BeadDeskModel" "colourOf" "[I", Cond.fieldLink RX5 29 "BeadDeskModel" "cellOf" "[I", Cond.fieldLink RX5 32 "BeadDeskModel" "pieceOf" "[I", Cond.fieldLink RX5 56 "BeadDeskModel" "stepOf" "[I"]
def wsX5_work_r3 : List Cond := [Cond.methodLink RX5 151 yX5_catches, Cond.instanceMethod yX5_catches, Cond.selects RX5 yX5_catches yX5_catches, Cond.code yX5_catches cX5_catches 7 none, Cond.fieldLink RX5 107 "BeadDeskModel" "stitch" "I", Cond.methodLink RX5 118 yX5_pickedAt, Cond.instanceMethod yX5_pickedAt, Cond.selects RX5 yX5_pickedAt yX5_pickedAt, Cond.code yX5_pickedAt cX5_pickedAt 4 (some .int), Cond.methodLink RX5 114 yX5_columnOf, Cond.instanceMethod yX5_columnOf, Cond.selects RX5 yX5_columnOf yX5_columnOf, Cond.code yX5_columnOf cX5_columnOf 2 (some .int), Cond.methodLink RX5 155 yX5_fails, Cond.instanceMethod yX5_fails, Cond.selects RX5 yX5_fails yX5_fails, Cond.code yX5_fails cX5_fails 3 (some .boolean), Cond.methodLink RX5 165 yX5_passesBy, Cond.instanceMethod yX5_passesBy, Cond.selects RX5 yX5_passesBy yX5_passesBy, Cond.code yX5_passesBy cX5_passesBy 2 none, Cond.methodLink RX5 169 yX5_needs, Cond.instanceMethod yX5_needs, Cond.selects RX5 yX5_needs yX5_needs]
def wsX5_work_r4 : List Cond := [Cond.code yX5_needs cX5_needs 4 (some .int), Cond.fieldLink RX5 16 "BeadDeskModel" "step" "[I", Cond.methodLink RX5 128 yX5_colourAt, Cond.instanceMethod yX5_colourAt, Cond.selects RX5 yX5_colourAt yX5_colourAt, Cond.code yX5_colourAt cX5_colourAt 3 (some .int), Cond.methodLink RX5 172 yX5_joins, Cond.instanceMethod yX5_joins, Cond.selects RX5 yX5_joins yX5_joins, Cond.code yX5_joins cX5_joins 2 (some .boolean), Cond.fieldLink RX5 59 "BeadDeskModel" "off" "[I", Cond.fieldLink RX5 62 "BeadDeskModel" "on" "[I", Cond.fieldLink RX5 26 "BeadDeskModel" "weave" "I", Cond.fieldLink RX5 53 "BeadDeskModel" "woven" "[I", Cond.methodLink RX5 131 yX5_finds, Cond.instanceMethod yX5_finds, Cond.selects RX5 yX5_finds yX5_finds, Cond.code yX5_finds cX5_finds 7 (some .boolean), Cond.fieldLink RX5 13 "BeadDeskModel" "hole" "[I", Cond.methodLink RX5 176 yX5_hasRoom, Cond.instanceMethod yX5_hasRoom, Cond.selects RX5 yX5_hasRoom yX5_hasRoom, Cond.code yX5_hasRoom cX5_hasRoom 6 (some .boolean), Cond.methodLink RX5 221 yX5_keeps]
def wsX5_work_r5 : List Cond := [Cond.instanceMethod yX5_keeps, Cond.selects RX5 yX5_keeps yX5_keeps, Cond.code yX5_keeps cX5_keeps 2 none, Cond.fieldLink RX5 197 "BeadDeskModel" "hasWorked" "Z", Cond.fieldLink RX5 203 "BeadDeskModel" "doneFault" "I", Cond.fieldLink RX5 206 "BeadDeskModel" "doneCell" "I", Cond.fieldLink RX5 209 "BeadDeskModel" "donePieces" "I", Cond.fieldLink RX5 212 "BeadDeskModel" "doneUsed" "I", Cond.fieldLink RX5 215 "BeadDeskModel" "doneLeft" "I", Cond.fieldLink RX5 83 "BeadDeskModel" "order" "[I", Cond.fieldLink RX5 65 "BeadDeskModel" "doneCellOf" "[I", Cond.fieldLink RX5 68 "BeadDeskModel" "donePieceOf" "[I", Cond.fieldLink RX5 71 "BeadDeskModel" "donePasses" "[I", Cond.fieldLink RX5 74 "BeadDeskModel" "doneFirst" "[I", Cond.fieldLink RX5 77 "BeadDeskModel" "doneSecond" "[I", Cond.fieldLink RX5 80 "BeadDeskModel" "doneColour" "[I", Cond.fieldLink RX5 86 "BeadDeskModel" "doneWovenMany" "[I", Cond.fieldLink RX5 89 "BeadDeskModel" "doneWoven" "[I"]
def wsX5_work : List Cond := .code yX5_work cX5_work 2 (some .int) :: ((wsX5_work_r1 ++ (wsX5_work_r2 ++ (wsX5_work_r3 ++ (wsX5_work_r4 ++ wsX5_work_r5)))) ++ wsX50)
def wsX5_worked : List Cond := .code yX5_worked cX5_worked 4 (some .int) :: ([.fieldLink RX5 197 "BeadDeskModel" "hasWorked" "Z", .fieldLink RX5 203 "BeadDeskModel" "doneFault" "I", .fieldLink RX5 206 "BeadDeskModel" "doneCell" "I", .fieldLink RX5 209 "BeadDeskModel" "donePieces" "I", .fieldLink RX5 212 "BeadDeskModel" "doneUsed" "I", .fieldLink RX5 215 "BeadDeskModel" "doneLeft" "I", .fieldLink RX5 200 "BeadDeskModel" "doneMany" "I", .fieldLink RX5 71 "BeadDeskModel" "donePasses" "[I"] ++ wsX50)
def wsX5_isPicked : List Cond := .code yX5_isPicked cX5_isPicked 2 (some .boolean) :: ([.fieldLink RX5 200 "BeadDeskModel" "doneMany" "I", .methodLink RX5 99 yX5_in, .static yX5_in, .initialized RX5, .code yX5_in cX5_in 3 (some .boolean)] ++ wsX50)
def wsX5_picked : List Cond := .code yX5_picked cX5_picked 3 (some .int) :: ([.fieldLink RX5 65 "BeadDeskModel" "doneCellOf" "[I", .fieldLink RX5 68 "BeadDeskModel" "donePieceOf" "[I", .fieldLink RX5 71 "BeadDeskModel" "donePasses" "[I", .fieldLink RX5 74 "BeadDeskModel" "doneFirst" "[I", .fieldLink RX5 77 "BeadDeskModel" "doneSecond" "[I", .fieldLink RX5 80 "BeadDeskModel" "doneColour" "[I", .methodLink RX5 224 yX5_isPicked, .instanceMethod yX5_isPicked, .selects RX5 yX5_isPicked yX5_isPicked, .initialized RX5, .code yX5_isPicked cX5_isPicked 2 (some .boolean), .fieldLink RX5 200 "BeadDeskModel" "doneMany" "I", .methodLink RX5 99 yX5_in, .static yX5_in, .code yX5_in cX5_in 3 (some .boolean)] ++ wsX50)
def wsX5_order : List Cond := .code yX5_order cX5_order 3 (some .int) :: ([.fieldLink RX5 83 "BeadDeskModel" "order" "[I", .methodLink RX5 99 yX5_in, .static yX5_in, .initialized RX5, .code yX5_in cX5_in 3 (some .boolean)] ++ wsX50)
def wsX5_isOn : List Cond := .code yX5_isOn cX5_isOn 3 (some .boolean) :: ([.fieldLink RX5 74 "BeadDeskModel" "doneFirst" "[I", .fieldLink RX5 77 "BeadDeskModel" "doneSecond" "[I"] ++ wsX50)
def wsX5_manyIn : List Cond := .code yX5_manyIn cX5_manyIn 3 (some .int) :: ([.fieldLink RX5 200 "BeadDeskModel" "doneMany" "I", .fieldLink RX5 92 "BeadDeskModel" "isIn" "[Z"] ++ wsX50)
def wsX5_hang : List Cond := .code yX5_hang cX5_hang 5 (some .int) :: ([.fieldLink RX5 92 "BeadDeskModel" "isIn" "[Z", .fieldLink RX5 200 "BeadDeskModel" "doneMany" "I", .fieldLink RX5 74 "BeadDeskModel" "doneFirst" "[I", .fieldLink RX5 77 "BeadDeskModel" "doneSecond" "[I", .methodLink RX5 224 yX5_isPicked, .instanceMethod yX5_isPicked, .selects RX5 yX5_isPicked yX5_isPicked, .initialized RX5, .code yX5_isPicked cX5_isPicked 2 (some .boolean), .methodLink RX5 99 yX5_in, .static yX5_in, .code yX5_in cX5_in 3 (some .boolean), .methodLink RX5 227 yX5_isOn, .instanceMethod yX5_isOn, .selects RX5 yX5_isOn yX5_isOn, .code yX5_isOn cX5_isOn 3 (some .boolean), .methodLink RX5 230 yX5_manyIn, .instanceMethod yX5_manyIn, .selects RX5 yX5_manyIn yX5_manyIn, .code yX5_manyIn cX5_manyIn 3 (some .int)] ++ wsX50)
def wsX5_isWovenThrough : List Cond := .code yX5_isWovenThrough cX5_isWovenThrough 4 (some .boolean) :: ([.fieldLink RX5 86 "BeadDeskModel" "doneWovenMany" "[I", .fieldLink RX5 89 "BeadDeskModel" "doneWoven" "[I"] ++ wsX50)
def wsX5_drawsOut : List Cond := .code yX5_drawsOut cX5_drawsOut 3 (some .boolean) :: ([.fieldLink RX5 68 "BeadDeskModel" "donePieceOf" "[I", .methodLink RX5 227 yX5_isOn, .instanceMethod yX5_isOn, .selects RX5 yX5_isOn yX5_isOn, .initialized RX5, .code yX5_isOn cX5_isOn 3 (some .boolean), .fieldLink RX5 74 "BeadDeskModel" "doneFirst" "[I", .fieldLink RX5 77 "BeadDeskModel" "doneSecond" "[I", .methodLink RX5 233 yX5_isWovenThrough, .instanceMethod yX5_isWovenThrough, .selects RX5 yX5_isWovenThrough yX5_isWovenThrough, .code yX5_isWovenThrough cX5_isWovenThrough 4 (some .boolean), .fieldLink RX5 86 "BeadDeskModel" "doneWovenMany" "[I", .fieldLink RX5 89 "BeadDeskModel" "doneWoven" "[I"] ++ wsX50)
def wsX5_pulls : List Cond := .code yX5_pulls cX5_pulls 5 none :: ([.fieldLink RX5 92 "BeadDeskModel" "isIn" "[Z", .fieldLink RX5 200 "BeadDeskModel" "doneMany" "I", .methodLink RX5 236 yX5_drawsOut, .instanceMethod yX5_drawsOut, .selects RX5 yX5_drawsOut yX5_drawsOut, .initialized RX5, .code yX5_drawsOut cX5_drawsOut 3 (some .boolean), .fieldLink RX5 68 "BeadDeskModel" "donePieceOf" "[I", .methodLink RX5 227 yX5_isOn, .instanceMethod yX5_isOn, .selects RX5 yX5_isOn yX5_isOn, .code yX5_isOn cX5_isOn 3 (some .boolean), .fieldLink RX5 74 "BeadDeskModel" "doneFirst" "[I", .fieldLink RX5 77 "BeadDeskModel" "doneSecond" "[I", .methodLink RX5 233 yX5_isWovenThrough, .instanceMethod yX5_isWovenThrough, .selects RX5 yX5_isWovenThrough yX5_isWovenThrough, .code yX5_isWovenThrough cX5_isWovenThrough 4 (some .boolean), .fieldLink RX5 86 "BeadDeskModel" "doneWovenMany" "[I", .fieldLink RX5 89 "BeadDeskModel" "doneWoven" "[I"] ++ wsX50)
def wsX5_pull_r1 : List Cond := [Cond.methodLink RX5 224 yX5_isPicked, Cond.instanceMethod yX5_isPicked, Cond.selects RX5 yX5_isPicked yX5_isPicked, Cond.initialized RX5, Cond.code yX5_isPicked cX5_isPicked 2 (some .boolean), Cond.fieldLink RX5 200 "BeadDeskModel" "doneMany" "I", Cond.methodLink RX5 99 yX5_in, Cond.static yX5_in, Cond.code yX5_in cX5_in 3 (some .boolean), Cond.methodLink RX5 239 yX5_pulls, Cond.instanceMethod yX5_pulls, Cond.selects RX5 yX5_pulls yX5_pulls, Cond.code yX5_pulls cX5_pulls 5 none, Cond.fieldLink RX5 92 "BeadDeskModel" "isIn" "[Z", Cond.methodLink RX5 236 yX5_drawsOut, Cond.instanceMethod yX5_drawsOut, Cond.selects RX5 yX5_drawsOut yX5_drawsOut, Cond.code yX5_drawsOut cX5_drawsOut 3 (some .boolean), Cond.fieldLink RX5 68 "BeadDeskModel" "donePieceOf" "[I", Cond.methodLink RX5 227 yX5_isOn, Cond.instanceMethod yX5_isOn, Cond.selects RX5 yX5_isOn yX5_isOn, Cond.code yX5_isOn cX5_isOn 3 (some .boolean), Cond.fieldLink RX5 74 "BeadDeskModel" "doneFirst" "[I"]
def wsX5_pull_r2 : List Cond := [Cond.fieldLink RX5 77 "BeadDeskModel" "doneSecond" "[I", Cond.methodLink RX5 233 yX5_isWovenThrough, Cond.instanceMethod yX5_isWovenThrough, Cond.selects RX5 yX5_isWovenThrough yX5_isWovenThrough, Cond.code yX5_isWovenThrough cX5_isWovenThrough 4 (some .boolean), Cond.fieldLink RX5 86 "BeadDeskModel" "doneWovenMany" "[I", Cond.fieldLink RX5 89 "BeadDeskModel" "doneWoven" "[I", Cond.methodLink RX5 230 yX5_manyIn, Cond.instanceMethod yX5_manyIn, Cond.selects RX5 yX5_manyIn yX5_manyIn, Cond.code yX5_manyIn cX5_manyIn 3 (some .int)]
def wsX5_pull : List Cond := .code yX5_pull cX5_pull 2 (some .int) :: ((wsX5_pull_r1 ++ wsX5_pull_r2) ++ wsX50)
def wsX5_pulled_r1 : List Cond := [Cond.fieldLink RX5 92 "BeadDeskModel" "isIn" "[Z", Cond.methodLink RX5 224 yX5_isPicked, Cond.instanceMethod yX5_isPicked, Cond.selects RX5 yX5_isPicked yX5_isPicked, Cond.initialized RX5, Cond.code yX5_isPicked cX5_isPicked 2 (some .boolean), Cond.fieldLink RX5 200 "BeadDeskModel" "doneMany" "I", Cond.methodLink RX5 99 yX5_in, Cond.static yX5_in, Cond.code yX5_in cX5_in 3 (some .boolean), Cond.methodLink RX5 239 yX5_pulls, Cond.instanceMethod yX5_pulls, Cond.selects RX5 yX5_pulls yX5_pulls, Cond.code yX5_pulls cX5_pulls 5 none, Cond.methodLink RX5 236 yX5_drawsOut, Cond.instanceMethod yX5_drawsOut, Cond.selects RX5 yX5_drawsOut yX5_drawsOut, Cond.code yX5_drawsOut cX5_drawsOut 3 (some .boolean), Cond.fieldLink RX5 68 "BeadDeskModel" "donePieceOf" "[I", Cond.methodLink RX5 227 yX5_isOn, Cond.instanceMethod yX5_isOn, Cond.selects RX5 yX5_isOn yX5_isOn, Cond.code yX5_isOn cX5_isOn 3 (some .boolean), Cond.fieldLink RX5 74 "BeadDeskModel" "doneFirst" "[I"]
def wsX5_pulled_r2 : List Cond := [Cond.fieldLink RX5 77 "BeadDeskModel" "doneSecond" "[I", Cond.methodLink RX5 233 yX5_isWovenThrough, Cond.instanceMethod yX5_isWovenThrough, Cond.selects RX5 yX5_isWovenThrough yX5_isWovenThrough, Cond.code yX5_isWovenThrough cX5_isWovenThrough 4 (some .boolean), Cond.fieldLink RX5 86 "BeadDeskModel" "doneWovenMany" "[I", Cond.fieldLink RX5 89 "BeadDeskModel" "doneWoven" "[I"]
def wsX5_pulled : List Cond := .code yX5_pulled cX5_pulled 3 (some .int) :: ((wsX5_pulled_r1 ++ wsX5_pulled_r2) ++ wsX50)
def wsX5_woven : List Cond := .code yX5_woven cX5_woven 3 (some .int) :: ([.fieldLink RX5 197 "BeadDeskModel" "hasWorked" "Z", .fieldLink RX5 209 "BeadDeskModel" "donePieces" "I", .fieldLink RX5 86 "BeadDeskModel" "doneWovenMany" "[I", .fieldLink RX5 89 "BeadDeskModel" "doneWoven" "[I", .methodLink RX5 99 yX5_in, .static yX5_in, .initialized RX5, .code yX5_in cX5_in 3 (some .boolean)] ++ wsX50)
def wsX5_best_r1 : List Cond := [Cond.fieldLink RX5 141 "BeadDeskModel" "fault" "I", Cond.fieldLink RX5 135 "BeadDeskModel" "pieces" "I", Cond.fieldLink RX5 182 "BeadDeskModel" "used" "I", Cond.methodLink RX5 218 yX5_tries, Cond.instanceMethod yX5_tries, Cond.selects RX5 yX5_tries yX5_tries, Cond.initialized RX5, Cond.code yX5_tries cX5_tries 7 none, Cond.fieldLink RX5 122 "BeadDeskModel" "many" "I", Cond.fieldLink RX5 144 "BeadDeskModel" "faultCell" "I", Cond.fieldLink RX5 138 "BeadDeskModel" "left" "I", Cond.fieldLink RX5 47 "BeadDeskModel" "placeOf" "[I", Cond.fieldLink RX5 147 "BeadDeskModel" "isFirstRow" "Z", Cond.fieldLink RX5 179 "BeadDeskModel" "rowFirst" "I", Cond.fieldLink RX5 162 "BeadDeskModel" "rowFirstAhead" "I", Cond.fieldLink RX5 96 "BeadDeskModel" "ringOf" "I", Cond.methodLink RX5 185 yX5_lastColumn, Cond.instanceMethod yX5_lastColumn, Cond.selects RX5 yX5_lastColumn yX5_lastColumn, Cond.code yX5_lastColumn cX5_lastColumn 6 (some .int), Cond.fieldLink RX5 7 "BeadDeskModel" "chart" "[I", Cond.methodLink RX5 103 yX5_columns, Cond.instanceMethod yX5_columns, Cond.selects RX5 yX5_columns yX5_columns]
def wsX5_best_r2 : List Cond := [Cond.code yX5_columns cX5_columns 1 (some .int), Cond.methodLink RX5 193 yX5_worksRow, Cond.instanceMethod yX5_worksRow, Cond.selects RX5 yX5_worksRow yX5_worksRow, Cond.code yX5_worksRow cX5_worksRow 7 (some .boolean), Cond.fieldLink RX5 159 "BeadDeskModel" "rowMany" "I", Cond.methodLink RX5 189 yX5_picks, Cond.instanceMethod yX5_picks, Cond.selects RX5 yX5_picks yX5_picks, Cond.code yX5_picks cX5_picks 8 (some .boolean), Cond.fieldLink RX5 125 "BeadDeskModel" "stepMany" "I", Cond.fieldLink RX5 38 "BeadDeskModel" "caughtFirst" "[I", Cond.fieldLink RX5 41 "BeadDeskModel" "caughtSecond" "[I", Cond.fieldLink RX5 22 "BeadDeskModel" "length" "I", Cond.fieldLink RX5 50 "BeadDeskModel" "wovenMany" "[I", Cond.fieldLink RX5 35 "BeadDeskModel" "passes" "[I", Cond.fieldLink RX5 44 "BeadDeskModel" "colourOf" "[I", Cond.fieldLink RX5 29 "BeadDeskModel" "cellOf" "[I", Cond.fieldLink RX5 32 "BeadDeskModel" "pieceOf" "[I", Cond.fieldLink RX5 56 "BeadDeskModel" "stepOf" "[I", Cond.methodLink RX5 151 yX5_catches, Cond.instanceMethod yX5_catches, Cond.selects RX5 yX5_catches yX5_catches, Cond.code yX5_catches cX5_catches 7 none]
def wsX5_best_r3 : List Cond := [Cond.fieldLink RX5 107 "BeadDeskModel" "stitch" "I", Cond.methodLink RX5 118 yX5_pickedAt, Cond.instanceMethod yX5_pickedAt, Cond.selects RX5 yX5_pickedAt yX5_pickedAt, Cond.code yX5_pickedAt cX5_pickedAt 4 (some .int), Cond.methodLink RX5 114 yX5_columnOf, Cond.instanceMethod yX5_columnOf, Cond.selects RX5 yX5_columnOf yX5_columnOf, Cond.code yX5_columnOf cX5_columnOf 2 (some .int), Cond.methodLink RX5 99 yX5_in, Cond.static yX5_in, Cond.code yX5_in cX5_in 3 (some .boolean), Cond.methodLink RX5 155 yX5_fails, Cond.instanceMethod yX5_fails, Cond.selects RX5 yX5_fails yX5_fails, Cond.code yX5_fails cX5_fails 3 (some .boolean), Cond.methodLink RX5 165 yX5_passesBy, Cond.instanceMethod yX5_passesBy, Cond.selects RX5 yX5_passesBy yX5_passesBy, Cond.code yX5_passesBy cX5_passesBy 2 none, Cond.methodLink RX5 169 yX5_needs, Cond.instanceMethod yX5_needs, Cond.selects RX5 yX5_needs yX5_needs, Cond.code yX5_needs cX5_needs 4 (some .int)]
def wsX5_best_r4 : List Cond := [Cond.fieldLink RX5 16 "BeadDeskModel" "step" "[I", Cond.methodLink RX5 128 yX5_colourAt, Cond.instanceMethod yX5_colourAt, Cond.selects RX5 yX5_colourAt yX5_colourAt, Cond.code yX5_colourAt cX5_colourAt 3 (some .int), Cond.methodLink RX5 172 yX5_joins, Cond.instanceMethod yX5_joins, Cond.selects RX5 yX5_joins yX5_joins, Cond.code yX5_joins cX5_joins 2 (some .boolean), Cond.fieldLink RX5 59 "BeadDeskModel" "off" "[I", Cond.fieldLink RX5 62 "BeadDeskModel" "on" "[I", Cond.fieldLink RX5 26 "BeadDeskModel" "weave" "I", Cond.fieldLink RX5 53 "BeadDeskModel" "woven" "[I", Cond.methodLink RX5 131 yX5_finds, Cond.instanceMethod yX5_finds, Cond.selects RX5 yX5_finds yX5_finds, Cond.code yX5_finds cX5_finds 7 (some .boolean), Cond.fieldLink RX5 13 "BeadDeskModel" "hole" "[I", Cond.methodLink RX5 176 yX5_hasRoom, Cond.instanceMethod yX5_hasRoom, Cond.selects RX5 yX5_hasRoom yX5_hasRoom, Cond.code yX5_hasRoom cX5_hasRoom 6 (some .boolean), Cond.methodLink RX5 221 yX5_keeps, Cond.instanceMethod yX5_keeps]
def wsX5_best_r5 : List Cond := [Cond.selects RX5 yX5_keeps yX5_keeps, Cond.code yX5_keeps cX5_keeps 2 none, Cond.fieldLink RX5 197 "BeadDeskModel" "hasWorked" "Z", Cond.fieldLink RX5 200 "BeadDeskModel" "doneMany" "I", Cond.fieldLink RX5 203 "BeadDeskModel" "doneFault" "I", Cond.fieldLink RX5 206 "BeadDeskModel" "doneCell" "I", Cond.fieldLink RX5 209 "BeadDeskModel" "donePieces" "I", Cond.fieldLink RX5 212 "BeadDeskModel" "doneUsed" "I", Cond.fieldLink RX5 215 "BeadDeskModel" "doneLeft" "I", Cond.fieldLink RX5 83 "BeadDeskModel" "order" "[I", Cond.fieldLink RX5 65 "BeadDeskModel" "doneCellOf" "[I", Cond.fieldLink RX5 68 "BeadDeskModel" "donePieceOf" "[I", Cond.fieldLink RX5 71 "BeadDeskModel" "donePasses" "[I", Cond.fieldLink RX5 74 "BeadDeskModel" "doneFirst" "[I", Cond.fieldLink RX5 77 "BeadDeskModel" "doneSecond" "[I", Cond.fieldLink RX5 80 "BeadDeskModel" "doneColour" "[I", Cond.fieldLink RX5 86 "BeadDeskModel" "doneWovenMany" "[I", Cond.fieldLink RX5 89 "BeadDeskModel" "doneWoven" "[I"]
def wsX5_best : List Cond := .code yX5_best cX5_best 5 (some .int) :: ((wsX5_best_r1 ++ (wsX5_best_r2 ++ (wsX5_best_r3 ++ (wsX5_best_r4 ++ wsX5_best_r5)))) ++ wsX50)
def wsX5_beadsOf : List Cond := .code yX5_beadsOf cX5_beadsOf 4 (some .int) :: ([.fieldLink RX5 7 "BeadDeskModel" "chart" "[I"] ++ wsX50)
def wsX5_bought : List Cond := .code yX5_bought cX5_bought 3 (some .int) :: ([.fieldLink RX5 19 "BeadDeskModel" "weight" "[I", .methodLink RX5 110 yX5_isColour, .static yX5_isColour, .initialized RX5, .code yX5_isColour cX5_isColour 1 (some .boolean), .methodLink RX5 99 yX5_in, .static yX5_in, .code yX5_in cX5_in 3 (some .boolean), .methodLink RX5 242 yX5_beadsOf, .instanceMethod yX5_beadsOf, .selects RX5 yX5_beadsOf yX5_beadsOf, .code yX5_beadsOf cX5_beadsOf 4 (some .int), .fieldLink RX5 7 "BeadDeskModel" "chart" "[I"] ++ wsX50)
def wsX5_count : List Cond := .code yX5_count cX5_count 4 (some .int) :: ([.fieldLink RX5 107 "BeadDeskModel" "stitch" "I", .fieldLink RX5 96 "BeadDeskModel" "ringOf" "I", .fieldLink RX5 22 "BeadDeskModel" "length" "I", .fieldLink RX5 26 "BeadDeskModel" "weave" "I", .fieldLink RX5 200 "BeadDeskModel" "doneMany" "I", .fieldLink RX5 13 "BeadDeskModel" "hole" "[I", .methodLink RX5 242 yX5_beadsOf, .instanceMethod yX5_beadsOf, .selects RX5 yX5_beadsOf yX5_beadsOf, .initialized RX5, .code yX5_beadsOf cX5_beadsOf 4 (some .int), .fieldLink RX5 7 "BeadDeskModel" "chart" "[I", .methodLink RX5 185 yX5_lastColumn, .instanceMethod yX5_lastColumn, .selects RX5 yX5_lastColumn yX5_lastColumn, .code yX5_lastColumn cX5_lastColumn 6 (some .int), .methodLink RX5 103 yX5_columns, .instanceMethod yX5_columns, .selects RX5 yX5_columns yX5_columns, .code yX5_columns cX5_columns 1 (some .int), .methodLink RX5 99 yX5_in, .static yX5_in, .code yX5_in cX5_in 3 (some .boolean)] ++ wsX50)
def wsJ9_max_7cf53 : List Cond := .code yJ9_max_7cf53 cJ9_max_7cf53 2 (some .int) :: ([])
def wsJ9_min_7cf53 : List Cond := .code yJ9_min_7cf53 cJ9_min_7cf53 2 (some .int) :: ([])
def wsL_law_r1 : List Cond := [Cond.classLink RL 7 RX4, Cond.instantiable RX4 4, Cond.initialized RX4, Cond.classLink RL 10 RX5, Cond.instantiable RX5 48, Cond.initialized RX5, Cond.constantLong RL 13 (4294967295), Cond.methodLink RL 9 yX4_init, Cond.instanceMethod yX4_init, Cond.code yX4_init cX4_init 1 none, Cond.methodLink RX4 3 objectInit, Cond.instanceMethod objectInit, Cond.code objectInit ⟨#[0xb1]⟩ 1 none, Cond.classLink RX4 9 RX0, Cond.instantiable RX0 8, Cond.initialized RX0, Cond.fieldLink RX4 12 "BeadDesk" "chart" "LBeadDesk$Chart;", Cond.classLink RX4 16 RX3, Cond.instantiable RX3 19, Cond.initialized RX3, Cond.fieldLink RX4 19 "BeadDesk" "told" "LBeadDesk$Way;", Cond.fieldLink RX4 23 "BeadDesk" "trial" "LBeadDesk$Way;", Cond.classLink RX4 26 RX1, Cond.instantiable RX1 1]
def wsL_law_r2 : List Cond := [Cond.initialized RX1, Cond.fieldLink RX4 29 "BeadDesk" "mend" "LBeadDesk$Mend;", Cond.methodLink RX4 11 yX0_init, Cond.instanceMethod yX0_init, Cond.code yX0_init cX0_init 1 none, Cond.methodLink RX0 3 objectInit, Cond.arrayClass .int, Cond.fieldLink RX0 9 "BeadDesk$Chart" "cells" "[I", Cond.fieldLink RX0 15 "BeadDesk$Chart" "hole" "[I", Cond.fieldLink RX0 18 "BeadDesk$Chart" "step" "[I", Cond.fieldLink RX0 21 "BeadDesk$Chart" "weight" "[I", Cond.fieldLink RX0 24 "BeadDesk$Chart" "stitch" "I", Cond.fieldLink RX0 28 "BeadDesk$Chart" "width" "I", Cond.fieldLink RX0 31 "BeadDesk$Chart" "length" "I", Cond.fieldLink RX0 34 "BeadDesk$Chart" "weave" "I", Cond.methodLink RX0 37 yJ7_fill_53178, Cond.static yJ7_fill_53178, Cond.initialized RJ7, Cond.code yJ7_fill_53178 cJ7_fill_53178 4 none, Cond.methodLink RX4 18 yX3_init, Cond.instanceMethod yX3_init, Cond.code yX3_init cX3_init 1 none, Cond.methodLink RX3 3 objectInit, Cond.fieldLink RX3 9 "BeadDesk$Way" "cellOf" "[I"]
def wsL_law_r3 : List Cond := [Cond.fieldLink RX3 15 "BeadDesk$Way" "colourOf" "[I", Cond.fieldLink RX3 18 "BeadDesk$Way" "pieceOf" "[I", Cond.fieldLink RX3 21 "BeadDesk$Way" "passesOf" "[I", Cond.fieldLink RX3 24 "BeadDesk$Way" "lowerOf" "[I", Cond.fieldLink RX3 27 "BeadDesk$Way" "upperOf" "[I", Cond.fieldLink RX3 30 "BeadDesk$Way" "pickOf" "[I", Cond.fieldLink RX3 33 "BeadDesk$Way" "wovenThrough" "[I", Cond.fieldLink RX3 36 "BeadDesk$Way" "wovenOff" "[I", Cond.classLink RX3 39 RX2, Cond.instantiable RX2 2, Cond.initialized RX2, Cond.fieldLink RX3 42 "BeadDesk$Way" "step" "LBeadDesk$Step;", Cond.fieldLink RX3 46 "BeadDesk$Way" "followed" "Z", Cond.fieldLink RX3 50 "BeadDesk$Way" "pickedCount" "I", Cond.fieldLink RX3 54 "BeadDesk$Way" "fault" "I", Cond.fieldLink RX3 57 "BeadDesk$Way" "faultCell" "I", Cond.fieldLink RX3 60 "BeadDesk$Way" "pieces" "I", Cond.fieldLink RX3 63 "BeadDesk$Way" "used" "I", Cond.fieldLink RX3 66 "BeadDesk$Way" "left" "I", Cond.fieldLink RX3 69 "BeadDesk$Way" "passes" "I", Cond.fieldLink RX3 72 "BeadDesk$Way" "weave" "I", Cond.instanceMethod yX2_init, Cond.code yX2_init cX2_init 1 none, Cond.methodLink RX2 3 objectInit]
def wsL_law_r4 : List Cond := [Cond.fieldLink RX2 9 "BeadDesk$Step" "beads" "[I", Cond.fieldLink RX2 15 "BeadDesk$Step" "size" "I", Cond.methodLink RX3 75 yJ7_fill_53178, Cond.instanceMethod yX1_init, Cond.code yX1_init cX1_init 1 none, Cond.methodLink RX1 3 objectInit, Cond.fieldLink RX1 9 "BeadDesk$Mend" "marks" "[I", Cond.methodLink RL 12 yX5_init, Cond.instanceMethod yX5_init, Cond.code yX5_init cX5_init 2 none, Cond.methodLink RX5 1 objectInit, Cond.fieldLink RX5 7 "BeadDeskModel" "chart" "[I", Cond.fieldLink RX5 13 "BeadDeskModel" "hole" "[I", Cond.fieldLink RX5 16 "BeadDeskModel" "step" "[I", Cond.fieldLink RX5 19 "BeadDeskModel" "weight" "[I", Cond.fieldLink RX5 22 "BeadDeskModel" "length" "I", Cond.fieldLink RX5 26 "BeadDeskModel" "weave" "I", Cond.fieldLink RX5 29 "BeadDeskModel" "cellOf" "[I", Cond.fieldLink RX5 32 "BeadDeskModel" "pieceOf" "[I", Cond.fieldLink RX5 35 "BeadDeskModel" "passes" "[I", Cond.fieldLink RX5 38 "BeadDeskModel" "caughtFirst" "[I", Cond.fieldLink RX5 41 "BeadDeskModel" "caughtSecond" "[I", Cond.fieldLink RX5 44 "BeadDeskModel" "colourOf" "[I", Cond.fieldLink RX5 47 "BeadDeskModel" "placeOf" "[I"]
def wsL_law_r5 : List Cond := [Cond.fieldLink RX5 50 "BeadDeskModel" "wovenMany" "[I", Cond.fieldLink RX5 53 "BeadDeskModel" "woven" "[I", Cond.fieldLink RX5 56 "BeadDeskModel" "stepOf" "[I", Cond.fieldLink RX5 59 "BeadDeskModel" "off" "[I", Cond.fieldLink RX5 62 "BeadDeskModel" "on" "[I", Cond.fieldLink RX5 65 "BeadDeskModel" "doneCellOf" "[I", Cond.fieldLink RX5 68 "BeadDeskModel" "donePieceOf" "[I", Cond.fieldLink RX5 71 "BeadDeskModel" "donePasses" "[I", Cond.fieldLink RX5 74 "BeadDeskModel" "doneFirst" "[I", Cond.fieldLink RX5 77 "BeadDeskModel" "doneSecond" "[I", Cond.fieldLink RX5 80 "BeadDeskModel" "doneColour" "[I", Cond.fieldLink RX5 83 "BeadDeskModel" "order" "[I", Cond.fieldLink RX5 86 "BeadDeskModel" "doneWovenMany" "[I", Cond.fieldLink RX5 89 "BeadDeskModel" "doneWoven" "[I", Cond.arrayClass .boolean, Cond.fieldLink RX5 92 "BeadDeskModel" "isIn" "[Z", Cond.methodLink RL 15 yX4_beads, Cond.instanceMethod yX4_beads, Cond.selects RX4 yX4_beads yX4_beads, Cond.code yX4_beads cX4_beads 6 (some .boolean), Cond.methodLink RX4 33 yX0_holdsRun, Cond.instanceMethod yX0_holdsRun, Cond.selects RX0 yX0_holdsRun yX0_holdsRun, Cond.code yX0_holdsRun cX0_holdsRun 4 (some .boolean)]
def wsL_law_r6 : List Cond := [Cond.static yX4_isCell, Cond.code yX4_isCell cX4_isCell 2 (some .boolean), Cond.methodLink RX4 45 yX4_isWithin, Cond.static yX4_isWithin, Cond.code yX4_isWithin cX4_isWithin 3 (some .boolean), Cond.methodLink RX0 51 yX0_columnsInUse, Cond.instanceMethod yX0_columnsInUse, Cond.selects RX0 yX0_columnsInUse yX0_columnsInUse, Cond.code yX0_columnsInUse cX0_columnsInUse 1 (some .int), Cond.methodLink RX4 37 yX0_putRun, Cond.instanceMethod yX0_putRun, Cond.selects RX0 yX0_putRun yX0_putRun, Cond.code yX0_putRun cX0_putRun 8 none, Cond.constantLong RX0 55 (7), Cond.methodLink RL 19 yX5_beads, Cond.instanceMethod yX5_beads, Cond.selects RX5 yX5_beads yX5_beads, Cond.code yX5_beads cX5_beads 8 (some .boolean), Cond.methodLink RX5 99 yX5_in, Cond.static yX5_in, Cond.code yX5_in cX5_in 3 (some .boolean), Cond.methodLink RX5 103 yX5_columns, Cond.instanceMethod yX5_columns, Cond.selects RX5 yX5_columns yX5_columns]
def wsL_law_r7 : List Cond := [Cond.code yX5_columns cX5_columns 1 (some .int), Cond.fieldLink RX5 96 "BeadDeskModel" "ringOf" "I", Cond.methodLink RL 20 yX4_stitch, Cond.instanceMethod yX4_stitch, Cond.selects RX4 yX4_stitch yX4_stitch, Cond.code yX4_stitch cX4_stitch 3 (some .int), Cond.fieldLink RX4 41 "BeadDesk$Chart" "stitch" "I", Cond.methodLink RL 24 yX5_stitch, Cond.instanceMethod yX5_stitch, Cond.selects RX5 yX5_stitch yX5_stitch, Cond.code yX5_stitch cX5_stitch 3 (some .int), Cond.fieldLink RX5 107 "BeadDeskModel" "stitch" "I", Cond.methodLink RL 25 yX4_ring, Cond.instanceMethod yX4_ring, Cond.selects RX4 yX4_ring yX4_ring, Cond.code yX4_ring cX4_ring 2 (some .boolean), Cond.fieldLink RX4 52 "BeadDesk$Chart" "width" "I", Cond.methodLink RX4 48 yX0_hasBeadsFrom, Cond.instanceMethod yX0_hasBeadsFrom, Cond.selects RX0 yX0_hasBeadsFrom yX0_hasBeadsFrom, Cond.code yX0_hasBeadsFrom cX0_hasBeadsFrom 3 (some .boolean), Cond.methodLink RL 29 yX5_ring, Cond.instanceMethod yX5_ring, Cond.selects RX5 yX5_ring yX5_ring]
def wsL_law_r8 : List Cond := [Cond.code yX5_ring cX5_ring 4 (some .boolean), Cond.methodLink RL 30 yX4_colour, Cond.instanceMethod yX4_colour, Cond.selects RX4 yX4_colour yX4_colour, Cond.code yX4_colour cX4_colour 5 (some .boolean), Cond.fieldLink RX4 58 "BeadDesk$Chart" "hole" "[I", Cond.fieldLink RX4 62 "BeadDesk$Chart" "step" "[I", Cond.fieldLink RX4 65 "BeadDesk$Chart" "weight" "[I", Cond.methodLink RX4 55 yX4_isColour, Cond.static yX4_isColour, Cond.code yX4_isColour cX4_isColour 1 (some .boolean), Cond.methodLink RL 34 yX5_colour, Cond.instanceMethod yX5_colour, Cond.selects RX5 yX5_colour yX5_colour, Cond.code yX5_colour cX5_colour 5 (some .boolean), Cond.methodLink RX5 110 yX5_isColour, Cond.static yX5_isColour, Cond.code yX5_isColour cX5_isColour 1 (some .boolean), Cond.methodLink RL 35 yX4_thread, Cond.instanceMethod yX4_thread, Cond.selects RX4 yX4_thread yX4_thread, Cond.code yX4_thread cX4_thread 3 (some .boolean), Cond.fieldLink RX4 68 "BeadDesk$Chart" "length" "I", Cond.fieldLink RX4 71 "BeadDesk$Chart" "weave" "I"]
def wsL_law_r9 : List Cond := [Cond.methodLink RL 39 yX5_thread, Cond.instanceMethod yX5_thread, Cond.selects RX5 yX5_thread yX5_thread, Cond.code yX5_thread cX5_thread 3 (some .boolean), Cond.methodLink RL 40 yX4_cell, Cond.instanceMethod yX4_cell, Cond.selects RX4 yX4_cell yX4_cell, Cond.code yX4_cell cX4_cell 3 (some .int), Cond.methodLink RX4 74 yX0_colourAt, Cond.instanceMethod yX0_colourAt, Cond.selects RX0 yX0_colourAt yX0_colourAt, Cond.code yX0_colourAt cX0_colourAt 3 (some .int), Cond.methodLink RL 44 yX5_cell, Cond.instanceMethod yX5_cell, Cond.selects RX5 yX5_cell yX5_cell, Cond.code yX5_cell cX5_cell 3 (some .int), Cond.methodLink RL 45 yX4_work, Cond.instanceMethod yX4_work, Cond.selects RX4 yX4_work yX4_work, Cond.code yX4_work cX4_work 2 (some .int), Cond.fieldLink RX4 82 "BeadDesk$Way" "pickedCount" "I", Cond.methodLink RX4 78 yX3_follow, Cond.instanceMethod yX3_follow, Cond.selects RX3 yX3_follow yX3_follow]
def wsL_law_r10 : List Cond := [Cond.code yX3_follow cX3_follow 9 none, Cond.fieldLink RX3 99 "BeadDesk$Chart" "width" "I", Cond.methodLink RX3 85 yX3_startAnew, Cond.instanceMethod yX3_startAnew, Cond.selects RX3 yX3_startAnew yX3_startAnew, Cond.code yX3_startAnew cX3_startAnew 2 none, Cond.fieldLink RX3 102 "BeadDesk$Chart" "weave" "I", Cond.methodLink RX3 89 yX0_beadsInRow, Cond.instanceMethod yX0_beadsInRow, Cond.selects RX0 yX0_beadsInRow yX0_beadsInRow, Cond.code yX0_beadsInRow cX0_beadsInRow 4 (some .int), Cond.methodLink RX0 57 yX0_colourAt, Cond.methodLink RX3 95 yX3_followRow, Cond.instanceMethod yX3_followRow, Cond.selects RX3 yX3_followRow yX3_followRow, Cond.code yX3_followRow cX3_followRow 13 none, Cond.methodLink RX3 103 yX0_colourAt, Cond.methodLink RX3 107 yX3_layOut, Cond.instanceMethod yX3_layOut, Cond.selects RX3 yX3_layOut yX3_layOut, Cond.code yX3_layOut cX3_layOut 6 none, Cond.methodLink RX3 123 yX0_lowerCatch, Cond.instanceMethod yX0_lowerCatch, Cond.selects RX0 yX0_lowerCatch yX0_lowerCatch]
def wsL_law_r11 : List Cond := [Cond.code yX0_lowerCatch cX0_lowerCatch 3 (some .int), Cond.methodLink RX0 74 Lib.Math.min.name, Cond.static Lib.Math.min.name, Cond.initialized "java/lang/Math", Cond.code Lib.Math.min.name Lib.Math.min.code 2 (some .int), Cond.methodLink RX0 68 yX0_leftCatch, Cond.instanceMethod yX0_leftCatch, Cond.selects RX0 yX0_leftCatch yX0_leftCatch, Cond.code yX0_leftCatch cX0_leftCatch 3 (some .int), Cond.methodLink RX0 82 yX0_aroundTheRing, Cond.instanceMethod yX0_aroundTheRing, Cond.selects RX0 yX0_aroundTheRing yX0_aroundTheRing, Cond.code yX0_aroundTheRing cX0_aroundTheRing 2 (some .int), Cond.methodLink RX0 71 yX0_rightCatch, Cond.instanceMethod yX0_rightCatch, Cond.selects RX0 yX0_rightCatch yX0_rightCatch, Cond.code yX0_rightCatch cX0_rightCatch 3 (some .int), Cond.methodLink RX3 126 yX3_pickAt, Cond.instanceMethod yX3_pickAt, Cond.selects RX3 yX3_pickAt yX3_pickAt, Cond.code yX3_pickAt cX3_pickAt 3 (some .int), Cond.methodLink RX3 129 yX0_upperCatch, Cond.instanceMethod yX0_upperCatch, Cond.selects RX0 yX0_upperCatch yX0_upperCatch]
def wsL_law_r12 : List Cond := [Cond.code yX0_upperCatch cX0_upperCatch 3 (some .int), Cond.methodLink RX0 79 Lib.Math.max.name, Cond.static Lib.Math.max.name, Cond.code Lib.Math.max.name Lib.Math.max.code 2 (some .int), Cond.methodLink RX3 111 yX3_gatherInFirstRow, Cond.instanceMethod yX3_gatherInFirstRow, Cond.selects RX3 yX3_gatherInFirstRow yX3_gatherInFirstRow, Cond.code yX3_gatherInFirstRow cX3_gatherInFirstRow 4 none, Cond.methodLink RX3 132 yX2_empty, Cond.instanceMethod yX2_empty, Cond.selects RX2 yX2_empty yX2_empty, Cond.code yX2_empty cX2_empty 1 none, Cond.methodLink RX3 135 yX2_pass, Cond.instanceMethod yX2_pass, Cond.selects RX2 yX2_pass yX2_pass, Cond.code yX2_pass cX2_pass 2 none, Cond.methodLink RX3 115 yX3_gatherInLaterRow, Cond.instanceMethod yX3_gatherInLaterRow, Cond.selects RX3 yX3_gatherInLaterRow yX3_gatherInLaterRow, Cond.code yX3_gatherInLaterRow cX3_gatherInLaterRow 3 none, Cond.methodLink RX3 119 yX3_doStep, Cond.instanceMethod yX3_doStep, Cond.selects RX3 yX3_doStep yX3_doStep, Cond.code yX3_doStep cX3_doStep 4 none]
def wsL_law_r13 : List Cond := [Cond.methodLink RX3 138 yX2_threadNeeded, Cond.instanceMethod yX2_threadNeeded, Cond.selects RX2 yX2_threadNeeded yX2_threadNeeded, Cond.code yX2_threadNeeded cX2_threadNeeded 5 (some .int), Cond.fieldLink RX2 19 "BeadDesk$Chart" "step" "[I", Cond.methodLink RX3 142 yX3_faultAhead, Cond.instanceMethod yX3_faultAhead, Cond.selects RX3 yX3_faultAhead yX3_faultAhead, Cond.code yX3_faultAhead cX3_faultAhead 4 (some .int), Cond.fieldLink RX3 153 "BeadDesk$Chart" "length" "I", Cond.methodLink RX3 150 yX3_caughtCount, Cond.instanceMethod yX3_caughtCount, Cond.selects RX3 yX3_caughtCount yX3_caughtCount, Cond.code yX3_caughtCount cX3_caughtCount 2 (some .int), Cond.methodLink RX3 156 yX3_join, Cond.instanceMethod yX3_join, Cond.selects RX3 yX3_join yX3_join, Cond.code yX3_join cX3_join 5 (some .boolean), Cond.methodLink RX3 171 yX3_weaveThrough, Cond.instanceMethod yX3_weaveThrough, Cond.selects RX3 yX3_weaveThrough yX3_weaveThrough, Cond.code yX3_weaveThrough cX3_weaveThrough 6 (some .int), Cond.fieldLink RX3 179 "BeadDesk$Chart" "hole" "[I", Cond.methodLink RX3 175 yX3_unweave]
def wsL_law_r14 : List Cond := [Cond.instanceMethod yX3_unweave, Cond.selects RX3 yX3_unweave yX3_unweave, Cond.code yX3_unweave cX3_unweave 5 none, Cond.methodLink RX3 160 yX2_fits, Cond.instanceMethod yX2_fits, Cond.selects RX2 yX2_fits yX2_fits, Cond.code yX2_fits cX2_fits 6 (some .boolean), Cond.fieldLink RX2 28 "BeadDesk$Chart" "hole" "[I", Cond.methodLink RX2 24 yX2_passesUpTo, Cond.instanceMethod yX2_passesUpTo, Cond.selects RX2 yX2_passesUpTo yX2_passesUpTo, Cond.code yX2_passesUpTo cX2_passesUpTo 4 (some .int), Cond.methodLink RX3 146 yX3_pickUp, Cond.instanceMethod yX3_pickUp, Cond.selects RX3 yX3_pickUp yX3_pickUp, Cond.code yX3_pickUp cX3_pickUp 3 none, Cond.fieldLink RX3 168 "BeadDesk$Step" "size" "I", Cond.methodLink RX3 164 yX2_countInto, Cond.instanceMethod yX2_countInto, Cond.selects RX2 yX2_countInto yX2_countInto, Cond.code yX2_countInto cX2_countInto 3 none, Cond.methodLink RL 48 yX5_work, Cond.instanceMethod yX5_work, Cond.selects RX5 yX5_work yX5_work]
def wsL_law_r15 : List Cond := [Cond.code yX5_work cX5_work 2 (some .int), Cond.fieldLink RX5 200 "BeadDeskModel" "doneMany" "I", Cond.methodLink RX5 218 yX5_tries, Cond.instanceMethod yX5_tries, Cond.selects RX5 yX5_tries yX5_tries, Cond.code yX5_tries cX5_tries 7 none, Cond.fieldLink RX5 122 "BeadDeskModel" "many" "I", Cond.fieldLink RX5 141 "BeadDeskModel" "fault" "I", Cond.fieldLink RX5 144 "BeadDeskModel" "faultCell" "I", Cond.fieldLink RX5 135 "BeadDeskModel" "pieces" "I", Cond.fieldLink RX5 182 "BeadDeskModel" "used" "I", Cond.fieldLink RX5 138 "BeadDeskModel" "left" "I", Cond.fieldLink RX5 147 "BeadDeskModel" "isFirstRow" "Z", Cond.fieldLink RX5 179 "BeadDeskModel" "rowFirst" "I", Cond.fieldLink RX5 162 "BeadDeskModel" "rowFirstAhead" "I", Cond.methodLink RX5 185 yX5_lastColumn, Cond.instanceMethod yX5_lastColumn, Cond.selects RX5 yX5_lastColumn yX5_lastColumn, Cond.code yX5_lastColumn cX5_lastColumn 6 (some .int), Cond.methodLink RX5 193 yX5_worksRow, Cond.instanceMethod yX5_worksRow, Cond.selects RX5 yX5_worksRow yX5_worksRow, Cond.code yX5_worksRow cX5_worksRow 7 (some .boolean), Cond.fieldLink RX5 159 "BeadDeskModel" "rowMany" "I"]
def wsL_law_r16 : List Cond := [Cond.methodLink RX5 189 yX5_picks, Cond.instanceMethod yX5_picks, Cond.selects RX5 yX5_picks yX5_picks, Cond.code yX5_picks cX5_picks 8 (some .boolean), Cond.fieldLink RX5 125 "BeadDeskModel" "stepMany" "I", Cond.methodLink RX5 151 yX5_catches, Cond.instanceMethod yX5_catches, Cond.selects RX5 yX5_catches yX5_catches, Cond.code yX5_catches cX5_catches 7 none, Cond.methodLink RX5 118 yX5_pickedAt, Cond.instanceMethod yX5_pickedAt, Cond.selects RX5 yX5_pickedAt yX5_pickedAt, Cond.code yX5_pickedAt cX5_pickedAt 4 (some .int), Cond.methodLink RX5 114 yX5_columnOf, Cond.instanceMethod yX5_columnOf, Cond.selects RX5 yX5_columnOf yX5_columnOf, Cond.code yX5_columnOf cX5_columnOf 2 (some .int), Cond.methodLink RX5 155 yX5_fails, Cond.instanceMethod yX5_fails, Cond.selects RX5 yX5_fails yX5_fails, Cond.code yX5_fails cX5_fails 3 (some .boolean), Cond.methodLink RX5 165 yX5_passesBy, Cond.instanceMethod yX5_passesBy, Cond.selects RX5 yX5_passesBy yX5_passesBy]
def wsL_law_r17 : List Cond := [Cond.code yX5_passesBy cX5_passesBy 2 none, Cond.methodLink RX5 169 yX5_needs, Cond.instanceMethod yX5_needs, Cond.selects RX5 yX5_needs yX5_needs, Cond.code yX5_needs cX5_needs 4 (some .int), Cond.methodLink RX5 128 yX5_colourAt, Cond.instanceMethod yX5_colourAt, Cond.selects RX5 yX5_colourAt yX5_colourAt, Cond.code yX5_colourAt cX5_colourAt 3 (some .int), Cond.methodLink RX5 172 yX5_joins, Cond.instanceMethod yX5_joins, Cond.selects RX5 yX5_joins yX5_joins, Cond.code yX5_joins cX5_joins 2 (some .boolean), Cond.methodLink RX5 131 yX5_finds, Cond.instanceMethod yX5_finds, Cond.selects RX5 yX5_finds yX5_finds, Cond.code yX5_finds cX5_finds 7 (some .boolean), Cond.methodLink RX5 176 yX5_hasRoom, Cond.instanceMethod yX5_hasRoom, Cond.selects RX5 yX5_hasRoom yX5_hasRoom, Cond.code yX5_hasRoom cX5_hasRoom 6 (some .boolean), Cond.methodLink RX5 221 yX5_keeps, Cond.instanceMethod yX5_keeps, Cond.selects RX5 yX5_keeps yX5_keeps]
def wsL_law_r18 : List Cond := [Cond.code yX5_keeps cX5_keeps 2 none, Cond.fieldLink RX5 197 "BeadDeskModel" "hasWorked" "Z", Cond.fieldLink RX5 203 "BeadDeskModel" "doneFault" "I", Cond.fieldLink RX5 206 "BeadDeskModel" "doneCell" "I", Cond.fieldLink RX5 209 "BeadDeskModel" "donePieces" "I", Cond.fieldLink RX5 212 "BeadDeskModel" "doneUsed" "I", Cond.fieldLink RX5 215 "BeadDeskModel" "doneLeft" "I", Cond.methodLink RL 49 yX4_worked, Cond.instanceMethod yX4_worked, Cond.selects RX4 yX4_worked yX4_worked, Cond.code yX4_worked cX4_worked 2 (some .int), Cond.fieldLink RX4 85 "BeadDesk$Way" "followed" "Z", Cond.fieldLink RX4 89 "BeadDesk$Way" "fault" "I", Cond.fieldLink RX4 92 "BeadDesk$Way" "faultCell" "I", Cond.fieldLink RX4 102 "BeadDesk$Way" "pieces" "I", Cond.fieldLink RX4 105 "BeadDesk$Way" "used" "I", Cond.fieldLink RX4 108 "BeadDesk$Way" "left" "I", Cond.fieldLink RX4 111 "BeadDesk$Way" "passes" "I", Cond.methodLink RX4 95 yX4_rowOf, Cond.static yX4_rowOf, Cond.code yX4_rowOf cX4_rowOf 1 (some .int), Cond.methodLink RX4 99 yX4_columnOf, Cond.static yX4_columnOf, Cond.code yX4_columnOf cX4_columnOf 1 (some .int)]
def wsL_law_r19 : List Cond := [Cond.methodLink RL 52 yX5_worked, Cond.instanceMethod yX5_worked, Cond.selects RX5 yX5_worked yX5_worked, Cond.code yX5_worked cX5_worked 4 (some .int), Cond.methodLink RL 53 yX4_picked, Cond.instanceMethod yX4_picked, Cond.selects RX4 yX4_picked yX4_picked, Cond.code yX4_picked cX4_picked 3 (some .int), Cond.fieldLink RX4 117 "BeadDesk$Way" "cellOf" "[I", Cond.fieldLink RX4 120 "BeadDesk$Way" "pieceOf" "[I", Cond.fieldLink RX4 123 "BeadDesk$Way" "passesOf" "[I", Cond.fieldLink RX4 129 "BeadDesk$Way" "colourOf" "[I", Cond.methodLink RX4 114 yX3_has, Cond.instanceMethod yX3_has, Cond.selects RX3 yX3_has yX3_has, Cond.code yX3_has cX3_has 2 (some .boolean), Cond.methodLink RX4 126 yX3_caughtCount, Cond.methodLink RL 56 yX5_picked, Cond.instanceMethod yX5_picked, Cond.selects RX5 yX5_picked yX5_picked, Cond.code yX5_picked cX5_picked 3 (some .int), Cond.methodLink RX5 224 yX5_isPicked, Cond.instanceMethod yX5_isPicked, Cond.selects RX5 yX5_isPicked yX5_isPicked]
def wsL_law_r20 : List Cond := [Cond.code yX5_isPicked cX5_isPicked 2 (some .boolean), Cond.methodLink RL 57 yX4_order, Cond.instanceMethod yX4_order, Cond.selects RX4 yX4_order yX4_order, Cond.code yX4_order cX4_order 3 (some .int), Cond.methodLink RX4 132 yX3_pickAt, Cond.methodLink RL 60 yX5_order, Cond.instanceMethod yX5_order, Cond.selects RX5 yX5_order yX5_order, Cond.code yX5_order cX5_order 3 (some .int), Cond.methodLink RL 61 yX4_hang, Cond.instanceMethod yX4_hang, Cond.selects RX4 yX4_hang yX4_hang, Cond.code yX4_hang cX4_hang 2 (some .int), Cond.methodLink RX4 135 yX1_markHanging, Cond.instanceMethod yX1_markHanging, Cond.selects RX1 yX1_markHanging yX1_markHanging, Cond.code yX1_markHanging cX1_markHanging 5 (some .int), Cond.fieldLink RX1 19 "BeadDesk$Way" "pickedCount" "I", Cond.methodLink RX1 15 yX1_markOnly, Cond.instanceMethod yX1_markOnly, Cond.selects RX1 yX1_markOnly yX1_markOnly, Cond.code yX1_markOnly cX1_markOnly 2 none, Cond.methodLink RX1 35 yJ7_fill_53178]
def wsL_law_r21 : List Cond := [Cond.methodLink RX1 25 yX1_isCaughtOnMarked, Cond.instanceMethod yX1_isCaughtOnMarked, Cond.selects RX1 yX1_isCaughtOnMarked yX1_isCaughtOnMarked, Cond.code yX1_isCaughtOnMarked cX1_isCaughtOnMarked 3 (some .boolean), Cond.fieldLink RX1 41 "BeadDesk$Way" "lowerOf" "[I", Cond.fieldLink RX1 48 "BeadDesk$Way" "upperOf" "[I", Cond.methodLink RX1 44 yX1_isMarked, Cond.instanceMethod yX1_isMarked, Cond.selects RX1 yX1_isMarked yX1_isMarked, Cond.code yX1_isMarked cX1_isMarked 2 (some .boolean), Cond.methodLink RL 64 yX5_hang, Cond.instanceMethod yX5_hang, Cond.selects RX5 yX5_hang yX5_hang, Cond.code yX5_hang cX5_hang 5 (some .int), Cond.methodLink RX5 227 yX5_isOn, Cond.instanceMethod yX5_isOn, Cond.selects RX5 yX5_isOn yX5_isOn, Cond.code yX5_isOn cX5_isOn 3 (some .boolean), Cond.methodLink RX5 230 yX5_manyIn, Cond.instanceMethod yX5_manyIn, Cond.selects RX5 yX5_manyIn yX5_manyIn, Cond.code yX5_manyIn cX5_manyIn 3 (some .int), Cond.methodLink RL 65 yX4_pull, Cond.instanceMethod yX4_pull]
def wsL_law_r22 : List Cond := [Cond.selects RX4 yX4_pull yX4_pull, Cond.code yX4_pull cX4_pull 2 (some .int), Cond.methodLink RX4 139 yX1_markPulledOut, Cond.instanceMethod yX1_markPulledOut, Cond.selects RX1 yX1_markPulledOut yX1_markPulledOut, Cond.code yX1_markPulledOut cX1_markPulledOut 5 (some .int), Cond.methodLink RX1 29 yX1_isBehindMarked, Cond.instanceMethod yX1_isBehindMarked, Cond.selects RX1 yX1_isBehindMarked yX1_isBehindMarked, Cond.code yX1_isBehindMarked cX1_isBehindMarked 3 (some .boolean), Cond.fieldLink RX1 51 "BeadDesk$Way" "pieceOf" "[I", Cond.methodLink RX1 32 yX1_isWovenInMarked, Cond.instanceMethod yX1_isWovenInMarked, Cond.selects RX1 yX1_isWovenInMarked yX1_isWovenInMarked, Cond.code yX1_isWovenInMarked cX1_isWovenInMarked 4 (some .boolean), Cond.fieldLink RX1 54 "BeadDesk$Way" "weave" "I", Cond.methodLink RX1 57 yX3_wovenIn, Cond.instanceMethod yX3_wovenIn, Cond.selects RX3 yX3_wovenIn yX3_wovenIn, Cond.code yX3_wovenIn cX3_wovenIn 3 (some .int), Cond.methodLink RL 68 yX5_pull, Cond.instanceMethod yX5_pull, Cond.selects RX5 yX5_pull yX5_pull, Cond.code yX5_pull cX5_pull 2 (some .int)]
def wsL_law_r23 : List Cond := [Cond.methodLink RX5 239 yX5_pulls, Cond.instanceMethod yX5_pulls, Cond.selects RX5 yX5_pulls yX5_pulls, Cond.code yX5_pulls cX5_pulls 5 none, Cond.methodLink RX5 236 yX5_drawsOut, Cond.instanceMethod yX5_drawsOut, Cond.selects RX5 yX5_drawsOut yX5_drawsOut, Cond.code yX5_drawsOut cX5_drawsOut 3 (some .boolean), Cond.methodLink RX5 233 yX5_isWovenThrough, Cond.instanceMethod yX5_isWovenThrough, Cond.selects RX5 yX5_isWovenThrough yX5_isWovenThrough, Cond.code yX5_isWovenThrough cX5_isWovenThrough 4 (some .boolean), Cond.methodLink RL 69 yX4_pulled, Cond.instanceMethod yX4_pulled, Cond.selects RX4 yX4_pulled yX4_pulled, Cond.code yX4_pulled cX4_pulled 3 (some .int), Cond.fieldLink RX4 142 "BeadDesk$Mend" "marks" "[I", Cond.methodLink RL 72 yX5_pulled, Cond.instanceMethod yX5_pulled, Cond.selects RX5 yX5_pulled yX5_pulled, Cond.code yX5_pulled cX5_pulled 3 (some .int), Cond.methodLink RL 73 yX4_woven, Cond.instanceMethod yX4_woven, Cond.selects RX4 yX4_woven yX4_woven]
def wsL_law_r24 : List Cond := [Cond.code yX4_woven cX4_woven 3 (some .int), Cond.methodLink RX4 145 yX3_wovenIn, Cond.methodLink RL 76 yX5_woven, Cond.instanceMethod yX5_woven, Cond.selects RX5 yX5_woven yX5_woven, Cond.code yX5_woven cX5_woven 3 (some .int), Cond.methodLink RL 77 yX4_best, Cond.instanceMethod yX4_best, Cond.selects RX4 yX4_best yX4_best, Cond.code yX4_best cX4_best 3 (some .int), Cond.methodLink RX4 148 yX3_isCheaperThan, Cond.instanceMethod yX3_isCheaperThan, Cond.selects RX3 yX3_isCheaperThan yX3_isCheaperThan, Cond.code yX3_isCheaperThan cX3_isCheaperThan 2 (some .boolean), Cond.methodLink RX4 152 yX4_tellTrial, Cond.instanceMethod yX4_tellTrial, Cond.selects RX4 yX4_tellTrial yX4_tellTrial, Cond.code yX4_tellTrial cX4_tellTrial 2 none, Cond.methodLink RL 81 yX5_best, Cond.instanceMethod yX5_best, Cond.selects RX5 yX5_best yX5_best, Cond.code yX5_best cX5_best 5 (some .int), Cond.methodLink RL 82 yX4_bought, Cond.instanceMethod yX4_bought]
def wsL_law_r25 : List Cond := [Cond.selects RX4 yX4_bought yX4_bought, Cond.code yX4_bought cX4_bought 5 (some .int), Cond.methodLink RX4 155 yX0_beadsOfColour, Cond.instanceMethod yX0_beadsOfColour, Cond.selects RX0 yX0_beadsOfColour yX0_beadsOfColour, Cond.code yX0_beadsOfColour cX0_beadsOfColour 2 (some .int), Cond.methodLink RX0 65 yX0_cellsThatHold, Cond.instanceMethod yX0_cellsThatHold, Cond.selects RX0 yX0_cellsThatHold yX0_cellsThatHold, Cond.code yX0_cellsThatHold cX0_cellsThatHold 4 (some .int), Cond.methodLink RL 85 yX5_bought, Cond.instanceMethod yX5_bought, Cond.selects RX5 yX5_bought yX5_bought, Cond.code yX5_bought cX5_bought 3 (some .int), Cond.methodLink RX5 242 yX5_beadsOf, Cond.instanceMethod yX5_beadsOf, Cond.selects RX5 yX5_beadsOf yX5_beadsOf, Cond.code yX5_beadsOf cX5_beadsOf 4 (some .int), Cond.methodLink RL 86 yX4_count, Cond.instanceMethod yX4_count, Cond.selects RX4 yX4_count yX4_count, Cond.code yX4_count cX4_count 2 (some .int), Cond.methodLink RX4 158 yX0_allBeads, Cond.instanceMethod yX0_allBeads]
def wsL_law_r26 : List Cond := [Cond.selects RX0 yX0_allBeads yX0_allBeads, Cond.code yX0_allBeads cX0_allBeads 1 (some .int), Cond.methodLink RX4 162 yX0_rowsWithBeads, Cond.instanceMethod yX0_rowsWithBeads, Cond.selects RX0 yX0_rowsWithBeads yX0_rowsWithBeads, Cond.code yX0_rowsWithBeads cX0_rowsWithBeads 3 (some .int), Cond.methodLink RX0 61 yX0_beadsInRow, Cond.methodLink RL 89 yX5_count, Cond.instanceMethod yX5_count, Cond.selects RX5 yX5_count yX5_count, Cond.code yX5_count cX5_count 4 (some .int)]
def wsL_law : List Cond := (wsL_law_r1 ++ (wsL_law_r2 ++ (wsL_law_r3 ++ (wsL_law_r4 ++ (wsL_law_r5 ++ (wsL_law_r6 ++ (wsL_law_r7 ++ (wsL_law_r8 ++ (wsL_law_r9 ++ (wsL_law_r10 ++ (wsL_law_r11 ++ (wsL_law_r12 ++ (wsL_law_r13 ++ (wsL_law_r14 ++ (wsL_law_r15 ++ (wsL_law_r16 ++ (wsL_law_r17 ++ (wsL_law_r18 ++ (wsL_law_r19 ++ (wsL_law_r20 ++ (wsL_law_r21 ++ (wsL_law_r22 ++ (wsL_law_r23 ++ (wsL_law_r24 ++ (wsL_law_r25 ++ wsL_law_r26))))))))))))))))))))))))) ++ wsX40 ++ wsX50 ++ wsX00 ++ wsX30 ++ wsX10 ++ wsX20 ++ ([] : List Cond)
abbrev vwCl : List vw_C := [(RX0, TX0, 8), (RX1, TX1, 1), (RX2, TX2, 2), (RX3, TX3, 19), (RX4, TX4, 4), (RX5, TX5, 48)]
end
section
set_option maxRecDepth 20000 in
theorem ggX0_init_J7_fill_53178 : GoodIn wsX0_init wsJ7_fill_53178 := goodIn_r _ [16] (by decide +kernel) (by decide +kernel)
set_option maxRecDepth 20000 in
theorem gX0_init_J7_fill_53178 : GoodIn wsX0_init (va_wsS RX0 37 yJ7_fill_53178 wsJ7_fill_53178) := goodIn_app (goodIn_of _ (by decide +kernel)) ggX0_init_J7_fill_53178
theorem dX0_init_0 : decode cX0_init 0 = .ok (.aload_n 0, 1) := by decide +kernel
theorem dX0_init_1 : decode cX0_init 1 = .ok (.invokespecial 3, 3) := by decide +kernel
theorem dX0_init_4 : decode cX0_init 4 = .ok (.aload_n 0, 1) := by decide +kernel
theorem dX0_init_5 : decode cX0_init 5 = .ok (.sipush 144, 3) := by decide +kernel
theorem dX0_init_8 : decode cX0_init 8 = .ok (.newarray .int, 2) := by decide +kernel
theorem dX0_init_10 : decode cX0_init 10 = .ok (.putfield 9, 3) := by decide +kernel
theorem dX0_init_13 : decode cX0_init 13 = .ok (.aload_n 0, 1) := by decide +kernel
theorem dX0_init_14 : decode cX0_init 14 = .ok (.bipush 6, 2) := by decide +kernel
theorem dX0_init_16 : decode cX0_init 16 = .ok (.newarray .int, 2) := by decide +kernel
theorem dX0_init_18 : decode cX0_init 18 = .ok (.putfield 15, 3) := by decide +kernel
theorem dX0_init_21 : decode cX0_init 21 = .ok (.aload_n 0, 1) := by decide +kernel
theorem dX0_init_22 : decode cX0_init 22 = .ok (.bipush 6, 2) := by decide +kernel
theorem dX0_init_24 : decode cX0_init 24 = .ok (.newarray .int, 2) := by decide +kernel
theorem dX0_init_26 : decode cX0_init 26 = .ok (.putfield 18, 3) := by decide +kernel
theorem dX0_init_29 : decode cX0_init 29 = .ok (.aload_n 0, 1) := by decide +kernel
theorem dX0_init_30 : decode cX0_init 30 = .ok (.bipush 6, 2) := by decide +kernel
theorem dX0_init_32 : decode cX0_init 32 = .ok (.newarray .int, 2) := by decide +kernel
theorem dX0_init_34 : decode cX0_init 34 = .ok (.putfield 21, 3) := by decide +kernel
theorem dX0_init_37 : decode cX0_init 37 = .ok (.aload_n 0, 1) := by decide +kernel
theorem dX0_init_38 : decode cX0_init 38 = .ok (.iconst 0, 1) := by decide +kernel
theorem dX0_init_39 : decode cX0_init 39 = .ok (.putfield 24, 3) := by decide +kernel
theorem dX0_init_42 : decode cX0_init 42 = .ok (.aload_n 0, 1) := by decide +kernel
theorem dX0_init_43 : decode cX0_init 43 = .ok (.iconst 0, 1) := by decide +kernel
theorem dX0_init_44 : decode cX0_init 44 = .ok (.putfield 28, 3) := by decide +kernel
theorem dX0_init_47 : decode cX0_init 47 = .ok (.aload_n 0, 1) := by decide +kernel
theorem dX0_init_48 : decode cX0_init 48 = .ok (.sipush 1000, 3) := by decide +kernel
theorem dX0_init_51 : decode cX0_init 51 = .ok (.putfield 31, 3) := by decide +kernel
theorem dX0_init_54 : decode cX0_init 54 = .ok (.aload_n 0, 1) := by decide +kernel
theorem dX0_init_55 : decode cX0_init 55 = .ok (.iconst 2, 1) := by decide +kernel
theorem dX0_init_56 : decode cX0_init 56 = .ok (.putfield 34, 3) := by decide +kernel
theorem dX0_init_59 : decode cX0_init 59 = .ok (.aload_n 0, 1) := by decide +kernel
theorem dX0_init_60 : decode cX0_init 60 = .ok (.getfield 9, 3) := by decide +kernel
theorem dX0_init_63 : decode cX0_init 63 = .ok (.iconst (-1), 1) := by decide +kernel
theorem dX0_init_64 : decode cX0_init 64 = .ok (.invokestatic 37, 3) := by decide +kernel
theorem dX0_init_67 : decode cX0_init 67 = .ok (.aload_n 0, 1) := by decide +kernel
theorem dX0_init_68 : decode cX0_init 68 = .ok (.getfield 15, 3) := by decide +kernel
theorem dX0_init_71 : decode cX0_init 71 = .ok (.iconst 3, 1) := by decide +kernel
theorem dX0_init_72 : decode cX0_init 72 = .ok (.invokestatic 37, 3) := by decide +kernel
theorem dX0_init_75 : decode cX0_init 75 = .ok (.aload_n 0, 1) := by decide +kernel
theorem dX0_init_76 : decode cX0_init 76 = .ok (.getfield 18, 3) := by decide +kernel
theorem dX0_init_79 : decode cX0_init 79 = .ok (.iconst 1, 1) := by decide +kernel
theorem dX0_init_80 : decode cX0_init 80 = .ok (.invokestatic 37, 3) := by decide +kernel
theorem dX0_init_83 : decode cX0_init 83 = .ok (.aload_n 0, 1) := by decide +kernel
theorem dX0_init_84 : decode cX0_init 84 = .ok (.getfield 21, 3) := by decide +kernel
theorem dX0_init_87 : decode cX0_init 87 = .ok (.iconst 5, 1) := by decide +kernel
theorem dX0_init_88 : decode cX0_init 88 = .ok (.invokestatic 37, 3) := by decide +kernel
theorem dX0_init_91 : decode cX0_init 91 = .ok (.return_, 1) := by decide +kernel
theorem dX0_columnsInUse_0 : decode cX0_columnsInUse 0 = .ok (.aload_n 0, 1) := by decide +kernel
theorem dX0_columnsInUse_1 : decode cX0_columnsInUse 1 = .ok (.getfield 28, 3) := by decide +kernel
theorem dX0_columnsInUse_4 : decode cX0_columnsInUse 4 = .ok (.ifCond .ne 8, 3) := by decide +kernel
theorem dX0_columnsInUse_7 : decode cX0_columnsInUse 7 = .ok (.bipush 12, 2) := by decide +kernel
theorem dX0_columnsInUse_9 : decode cX0_columnsInUse 9 = .ok (.goto 7, 3) := by decide +kernel
theorem dX0_columnsInUse_12 : decode cX0_columnsInUse 12 = .ok (.aload_n 0, 1) := by decide +kernel
theorem dX0_columnsInUse_13 : decode cX0_columnsInUse 13 = .ok (.getfield 28, 3) := by decide +kernel
theorem dX0_columnsInUse_16 : decode cX0_columnsInUse 16 = .ok (.ireturn, 1) := by decide +kernel
set_option maxRecDepth 20000 in
theorem ggX0_holdsRun_X4_isCell : GoodIn wsX0_holdsRun wsX4_isCell := goodIn_r _ [3, 4, 5, 2, 6] (by decide +kernel) (by decide +kernel)
set_option maxRecDepth 20000 in
theorem gX0_holdsRun_X4_isCell_n43 : GoodIn wsX0_holdsRun (wsX4_isCell) := ggX0_holdsRun_X4_isCell
set_option maxRecDepth 20000 in
theorem ggX0_holdsRun_X4_isWithin : GoodIn wsX0_holdsRun wsX4_isWithin := goodIn_r _ [6] (by decide +kernel) (by decide +kernel)
set_option maxRecDepth 20000 in
theorem gX0_holdsRun_X4_isWithin_n47 : GoodIn wsX0_holdsRun (wsX4_isWithin) := ggX0_holdsRun_X4_isWithin
set_option maxRecDepth 20000 in
theorem ggX0_holdsRun_X0_columnsInUse : GoodIn wsX0_holdsRun wsX0_columnsInUse := goodIn_r _ [11, 12, 13, 14, 15, 16, 17, 18, 19, 20] (by decide +kernel) (by decide +kernel)
set_option maxRecDepth 20000 in
theorem gX0_holdsRun_X0_columnsInUse : GoodIn wsX0_holdsRun (wsV RX0 51 RX0 yX0_columnsInUse wsX0_columnsInUse) := goodIn_app (goodIn_of _ (by decide +kernel)) ggX0_holdsRun_X0_columnsInUse
theorem dX0_holdsRun_0 : decode cX0_holdsRun 0 = .ok (.iload_n 1, 1) := by decide +kernel
theorem dX0_holdsRun_1 : decode cX0_holdsRun 1 = .ok (.iload_n 2, 1) := by decide +kernel
theorem dX0_holdsRun_2 : decode cX0_holdsRun 2 = .ok (.invokestatic 43, 3) := by decide +kernel
theorem dX0_holdsRun_5 : decode cX0_holdsRun 5 = .ok (.ifCond .eq 27, 3) := by decide +kernel
theorem dX0_holdsRun_8 : decode cX0_holdsRun 8 = .ok (.iload_n 3, 1) := by decide +kernel
theorem dX0_holdsRun_9 : decode cX0_holdsRun 9 = .ok (.iconst 1, 1) := by decide +kernel
theorem dX0_holdsRun_10 : decode cX0_holdsRun 10 = .ok (.bipush 12, 2) := by decide +kernel
theorem dX0_holdsRun_12 : decode cX0_holdsRun 12 = .ok (.invokestatic 47, 3) := by decide +kernel
theorem dX0_holdsRun_15 : decode cX0_holdsRun 15 = .ok (.ifCond .eq 17, 3) := by decide +kernel
theorem dX0_holdsRun_18 : decode cX0_holdsRun 18 = .ok (.iload_n 2, 1) := by decide +kernel
theorem dX0_holdsRun_19 : decode cX0_holdsRun 19 = .ok (.iload_n 3, 1) := by decide +kernel
theorem dX0_holdsRun_20 : decode cX0_holdsRun 20 = .ok (.iadd, 1) := by decide +kernel
theorem dX0_holdsRun_21 : decode cX0_holdsRun 21 = .ok (.aload_n 0, 1) := by decide +kernel
theorem dX0_holdsRun_22 : decode cX0_holdsRun 22 = .ok (.invokevirtual 51, 3) := by decide +kernel
theorem dX0_holdsRun_25 : decode cX0_holdsRun 25 = .ok (.if_icmp .gt 7, 3) := by decide +kernel
theorem dX0_holdsRun_28 : decode cX0_holdsRun 28 = .ok (.iconst 1, 1) := by decide +kernel
theorem dX0_holdsRun_29 : decode cX0_holdsRun 29 = .ok (.goto 4, 3) := by decide +kernel
theorem dX0_holdsRun_32 : decode cX0_holdsRun 32 = .ok (.iconst 0, 1) := by decide +kernel
theorem dX0_holdsRun_33 : decode cX0_holdsRun 33 = .ok (.ireturn, 1) := by decide +kernel
theorem dX0_putRun_0 : decode cX0_putRun 0 = .ok (.iconst 0, 1) := by decide +kernel
theorem dX0_putRun_1 : decode cX0_putRun 1 = .ok (.istore 6, 2) := by decide +kernel
theorem dX0_putRun_3 : decode cX0_putRun 3 = .ok (.iload 6, 2) := by decide +kernel
theorem dX0_putRun_5 : decode cX0_putRun 5 = .ok (.iload_n 3, 1) := by decide +kernel
theorem dX0_putRun_6 : decode cX0_putRun 6 = .ok (.if_icmp .ge 57, 3) := by decide +kernel
theorem dX0_putRun_9 : decode cX0_putRun 9 = .ok (.lload 4, 2) := by decide +kernel
theorem dX0_putRun_11 : decode cX0_putRun 11 = .ok (.iconst 3, 1) := by decide +kernel
theorem dX0_putRun_12 : decode cX0_putRun 12 = .ok (.iload 6, 2) := by decide +kernel
theorem dX0_putRun_14 : decode cX0_putRun 14 = .ok (.imul, 1) := by decide +kernel
theorem dX0_putRun_15 : decode cX0_putRun 15 = .ok (.lushr, 1) := by decide +kernel
theorem dX0_putRun_16 : decode cX0_putRun 16 = .ok (.ldc2_w 55, 3) := by decide +kernel
theorem dX0_putRun_19 : decode cX0_putRun 19 = .ok (.land, 1) := by decide +kernel
theorem dX0_putRun_20 : decode cX0_putRun 20 = .ok (.l2i, 1) := by decide +kernel
theorem dX0_putRun_21 : decode cX0_putRun 21 = .ok (.istore 7, 2) := by decide +kernel
theorem dX0_putRun_23 : decode cX0_putRun 23 = .ok (.iload 7, 2) := by decide +kernel
theorem dX0_putRun_25 : decode cX0_putRun 25 = .ok (.bipush 7, 2) := by decide +kernel
theorem dX0_putRun_27 : decode cX0_putRun 27 = .ok (.if_icmp .eq 30, 3) := by decide +kernel
theorem dX0_putRun_30 : decode cX0_putRun 30 = .ok (.aload_n 0, 1) := by decide +kernel
theorem dX0_putRun_31 : decode cX0_putRun 31 = .ok (.getfield 9, 3) := by decide +kernel
theorem dX0_putRun_34 : decode cX0_putRun 34 = .ok (.iload_n 1, 1) := by decide +kernel
theorem dX0_putRun_35 : decode cX0_putRun 35 = .ok (.bipush 12, 2) := by decide +kernel
theorem dX0_putRun_37 : decode cX0_putRun 37 = .ok (.imul, 1) := by decide +kernel
theorem dX0_putRun_38 : decode cX0_putRun 38 = .ok (.iload_n 2, 1) := by decide +kernel
theorem dX0_putRun_39 : decode cX0_putRun 39 = .ok (.iadd, 1) := by decide +kernel
theorem dX0_putRun_40 : decode cX0_putRun 40 = .ok (.iload 6, 2) := by decide +kernel
theorem dX0_putRun_42 : decode cX0_putRun 42 = .ok (.iadd, 1) := by decide +kernel
theorem dX0_putRun_43 : decode cX0_putRun 43 = .ok (.iload 7, 2) := by decide +kernel
theorem dX0_putRun_45 : decode cX0_putRun 45 = .ok (.bipush 6, 2) := by decide +kernel
theorem dX0_putRun_47 : decode cX0_putRun 47 = .ok (.if_icmp .ne 7, 3) := by decide +kernel
theorem dX0_putRun_50 : decode cX0_putRun 50 = .ok (.iconst (-1), 1) := by decide +kernel
theorem dX0_putRun_51 : decode cX0_putRun 51 = .ok (.goto 5, 3) := by decide +kernel
theorem dX0_putRun_54 : decode cX0_putRun 54 = .ok (.iload 7, 2) := by decide +kernel
theorem dX0_putRun_56 : decode cX0_putRun 56 = .ok (.iastore, 1) := by decide +kernel
theorem dX0_putRun_57 : decode cX0_putRun 57 = .ok (.iinc 6 1, 3) := by decide +kernel
theorem dX0_putRun_60 : decode cX0_putRun 60 = .ok (.goto (-57), 3) := by decide +kernel
theorem dX0_putRun_63 : decode cX0_putRun 63 = .ok (.return_, 1) := by decide +kernel
set_option maxRecDepth 20000 in
theorem ggX0_colourAt_X4_isCell : GoodIn wsX0_colourAt wsX4_isCell := goodIn_r _ [4, 5, 6, 3, 7] (by decide +kernel) (by decide +kernel)
set_option maxRecDepth 20000 in
theorem gX0_colourAt_X4_isCell_n43 : GoodIn wsX0_colourAt (wsX4_isCell) := ggX0_colourAt_X4_isCell
theorem dX0_colourAt_0 : decode cX0_colourAt 0 = .ok (.iload_n 1, 1) := by decide +kernel
theorem dX0_colourAt_1 : decode cX0_colourAt 1 = .ok (.iload_n 2, 1) := by decide +kernel
theorem dX0_colourAt_2 : decode cX0_colourAt 2 = .ok (.invokestatic 43, 3) := by decide +kernel
theorem dX0_colourAt_5 : decode cX0_colourAt 5 = .ok (.ifCond .eq 17, 3) := by decide +kernel
theorem dX0_colourAt_8 : decode cX0_colourAt 8 = .ok (.aload_n 0, 1) := by decide +kernel
theorem dX0_colourAt_9 : decode cX0_colourAt 9 = .ok (.getfield 9, 3) := by decide +kernel
theorem dX0_colourAt_12 : decode cX0_colourAt 12 = .ok (.iload_n 1, 1) := by decide +kernel
theorem dX0_colourAt_13 : decode cX0_colourAt 13 = .ok (.bipush 12, 2) := by decide +kernel
theorem dX0_colourAt_15 : decode cX0_colourAt 15 = .ok (.imul, 1) := by decide +kernel
theorem dX0_colourAt_16 : decode cX0_colourAt 16 = .ok (.iload_n 2, 1) := by decide +kernel
theorem dX0_colourAt_17 : decode cX0_colourAt 17 = .ok (.iadd, 1) := by decide +kernel
theorem dX0_colourAt_18 : decode cX0_colourAt 18 = .ok (.iaload, 1) := by decide +kernel
theorem dX0_colourAt_19 : decode cX0_colourAt 19 = .ok (.goto 4, 3) := by decide +kernel
theorem dX0_colourAt_22 : decode cX0_colourAt 22 = .ok (.iconst (-1), 1) := by decide +kernel
theorem dX0_colourAt_23 : decode cX0_colourAt 23 = .ok (.ireturn, 1) := by decide +kernel
theorem dX0_hasBeadsFrom_0 : decode cX0_hasBeadsFrom 0 = .ok (.iconst 0, 1) := by decide +kernel
theorem dX0_hasBeadsFrom_1 : decode cX0_hasBeadsFrom 1 = .ok (.istore_n 2, 1) := by decide +kernel
theorem dX0_hasBeadsFrom_2 : decode cX0_hasBeadsFrom 2 = .ok (.iload_n 2, 1) := by decide +kernel
theorem dX0_hasBeadsFrom_3 : decode cX0_hasBeadsFrom 3 = .ok (.sipush 144, 3) := by decide +kernel
theorem dX0_hasBeadsFrom_6 : decode cX0_hasBeadsFrom 6 = .ok (.if_icmp .ge 29, 3) := by decide +kernel
theorem dX0_hasBeadsFrom_9 : decode cX0_hasBeadsFrom 9 = .ok (.iload_n 2, 1) := by decide +kernel
theorem dX0_hasBeadsFrom_10 : decode cX0_hasBeadsFrom 10 = .ok (.bipush 12, 2) := by decide +kernel
theorem dX0_hasBeadsFrom_12 : decode cX0_hasBeadsFrom 12 = .ok (.irem, 1) := by decide +kernel
theorem dX0_hasBeadsFrom_13 : decode cX0_hasBeadsFrom 13 = .ok (.iload_n 1, 1) := by decide +kernel
theorem dX0_hasBeadsFrom_14 : decode cX0_hasBeadsFrom 14 = .ok (.if_icmp .lt 15, 3) := by decide +kernel
theorem dX0_hasBeadsFrom_17 : decode cX0_hasBeadsFrom 17 = .ok (.aload_n 0, 1) := by decide +kernel
theorem dX0_hasBeadsFrom_18 : decode cX0_hasBeadsFrom 18 = .ok (.getfield 9, 3) := by decide +kernel
theorem dX0_hasBeadsFrom_21 : decode cX0_hasBeadsFrom 21 = .ok (.iload_n 2, 1) := by decide +kernel
theorem dX0_hasBeadsFrom_22 : decode cX0_hasBeadsFrom 22 = .ok (.iaload, 1) := by decide +kernel
theorem dX0_hasBeadsFrom_23 : decode cX0_hasBeadsFrom 23 = .ok (.iconst (-1), 1) := by decide +kernel
theorem dX0_hasBeadsFrom_24 : decode cX0_hasBeadsFrom 24 = .ok (.if_icmp .eq 5, 3) := by decide +kernel
theorem dX0_hasBeadsFrom_27 : decode cX0_hasBeadsFrom 27 = .ok (.iconst 1, 1) := by decide +kernel
theorem dX0_hasBeadsFrom_28 : decode cX0_hasBeadsFrom 28 = .ok (.ireturn, 1) := by decide +kernel
theorem dX0_hasBeadsFrom_29 : decode cX0_hasBeadsFrom 29 = .ok (.iinc 2 1, 3) := by decide +kernel
theorem dX0_hasBeadsFrom_32 : decode cX0_hasBeadsFrom 32 = .ok (.goto (-30), 3) := by decide +kernel
theorem dX0_hasBeadsFrom_35 : decode cX0_hasBeadsFrom 35 = .ok (.iconst 0, 1) := by decide +kernel
theorem dX0_hasBeadsFrom_36 : decode cX0_hasBeadsFrom 36 = .ok (.ireturn, 1) := by decide +kernel
set_option maxRecDepth 20000 in
theorem ggX0_beadsInRow_X0_colourAt : GoodIn wsX0_beadsInRow wsX0_colourAt := goodIn_r _ [5, 6, 7, 8, 9, 10, 11, 12, 13, 14, 15, 16, 17, 18, 19, 20] (by decide +kernel) (by decide +kernel)
set_option maxRecDepth 20000 in
theorem gX0_beadsInRow_X0_colourAt : GoodIn wsX0_beadsInRow (wsV RX0 57 RX0 yX0_colourAt wsX0_colourAt) := goodIn_app (goodIn_of _ (by decide +kernel)) ggX0_beadsInRow_X0_colourAt
theorem dX0_beadsInRow_0 : decode cX0_beadsInRow 0 = .ok (.iconst 0, 1) := by decide +kernel
theorem dX0_beadsInRow_1 : decode cX0_beadsInRow 1 = .ok (.istore_n 2, 1) := by decide +kernel
theorem dX0_beadsInRow_2 : decode cX0_beadsInRow 2 = .ok (.iconst 0, 1) := by decide +kernel
theorem dX0_beadsInRow_3 : decode cX0_beadsInRow 3 = .ok (.istore_n 3, 1) := by decide +kernel
theorem dX0_beadsInRow_4 : decode cX0_beadsInRow 4 = .ok (.iload_n 3, 1) := by decide +kernel
theorem dX0_beadsInRow_5 : decode cX0_beadsInRow 5 = .ok (.bipush 12, 2) := by decide +kernel
theorem dX0_beadsInRow_7 : decode cX0_beadsInRow 7 = .ok (.if_icmp .ge 22, 3) := by decide +kernel
theorem dX0_beadsInRow_10 : decode cX0_beadsInRow 10 = .ok (.aload_n 0, 1) := by decide +kernel
theorem dX0_beadsInRow_11 : decode cX0_beadsInRow 11 = .ok (.iload_n 1, 1) := by decide +kernel
theorem dX0_beadsInRow_12 : decode cX0_beadsInRow 12 = .ok (.iload_n 3, 1) := by decide +kernel
theorem dX0_beadsInRow_13 : decode cX0_beadsInRow 13 = .ok (.invokevirtual 57, 3) := by decide +kernel
theorem dX0_beadsInRow_16 : decode cX0_beadsInRow 16 = .ok (.iconst (-1), 1) := by decide +kernel
theorem dX0_beadsInRow_17 : decode cX0_beadsInRow 17 = .ok (.if_icmp .eq 6, 3) := by decide +kernel
theorem dX0_beadsInRow_20 : decode cX0_beadsInRow 20 = .ok (.iinc 2 1, 3) := by decide +kernel
theorem dX0_beadsInRow_23 : decode cX0_beadsInRow 23 = .ok (.iinc 3 1, 3) := by decide +kernel
theorem dX0_beadsInRow_26 : decode cX0_beadsInRow 26 = .ok (.goto (-22), 3) := by decide +kernel
theorem dX0_beadsInRow_29 : decode cX0_beadsInRow 29 = .ok (.iload_n 2, 1) := by decide +kernel
theorem dX0_beadsInRow_30 : decode cX0_beadsInRow 30 = .ok (.ireturn, 1) := by decide +kernel
set_option maxRecDepth 20000 in
theorem ggX0_rowsWithBeads_X0_beadsInRow : GoodIn wsX0_rowsWithBeads wsX0_beadsInRow := goodIn_r _ [5, 6, 7, 8, 4, 9, 10, 11, 12, 13, 14, 15, 16, 17, 18, 19, 20, 21, 22, 23, 24] (by decide +kernel) (by decide +kernel)
set_option maxRecDepth 20000 in
theorem gX0_rowsWithBeads_X0_beadsInRow : GoodIn wsX0_rowsWithBeads (wsV RX0 61 RX0 yX0_beadsInRow wsX0_beadsInRow) := goodIn_app (goodIn_of _ (by decide +kernel)) ggX0_rowsWithBeads_X0_beadsInRow
theorem dX0_rowsWithBeads_0 : decode cX0_rowsWithBeads 0 = .ok (.iconst 0, 1) := by decide +kernel
theorem dX0_rowsWithBeads_1 : decode cX0_rowsWithBeads 1 = .ok (.istore_n 1, 1) := by decide +kernel
theorem dX0_rowsWithBeads_2 : decode cX0_rowsWithBeads 2 = .ok (.iconst 0, 1) := by decide +kernel
theorem dX0_rowsWithBeads_3 : decode cX0_rowsWithBeads 3 = .ok (.istore_n 2, 1) := by decide +kernel
theorem dX0_rowsWithBeads_4 : decode cX0_rowsWithBeads 4 = .ok (.iload_n 2, 1) := by decide +kernel
theorem dX0_rowsWithBeads_5 : decode cX0_rowsWithBeads 5 = .ok (.bipush 12, 2) := by decide +kernel
theorem dX0_rowsWithBeads_7 : decode cX0_rowsWithBeads 7 = .ok (.if_icmp .ge 20, 3) := by decide +kernel
theorem dX0_rowsWithBeads_10 : decode cX0_rowsWithBeads 10 = .ok (.aload_n 0, 1) := by decide +kernel
theorem dX0_rowsWithBeads_11 : decode cX0_rowsWithBeads 11 = .ok (.iload_n 2, 1) := by decide +kernel
theorem dX0_rowsWithBeads_12 : decode cX0_rowsWithBeads 12 = .ok (.invokevirtual 61, 3) := by decide +kernel
theorem dX0_rowsWithBeads_15 : decode cX0_rowsWithBeads 15 = .ok (.ifCond .le 6, 3) := by decide +kernel
theorem dX0_rowsWithBeads_18 : decode cX0_rowsWithBeads 18 = .ok (.iinc 1 1, 3) := by decide +kernel
theorem dX0_rowsWithBeads_21 : decode cX0_rowsWithBeads 21 = .ok (.iinc 2 1, 3) := by decide +kernel
theorem dX0_rowsWithBeads_24 : decode cX0_rowsWithBeads 24 = .ok (.goto (-20), 3) := by decide +kernel
theorem dX0_rowsWithBeads_27 : decode cX0_rowsWithBeads 27 = .ok (.iload_n 1, 1) := by decide +kernel
theorem dX0_rowsWithBeads_28 : decode cX0_rowsWithBeads 28 = .ok (.ireturn, 1) := by decide +kernel
set_option maxRecDepth 20000 in
theorem ggX0_allBeads_X0_cellsThatHold : GoodIn wsX0_allBeads wsX0_cellsThatHold := goodIn_r _ [5, 6, 7, 8, 9, 10, 11, 12, 13, 14] (by decide +kernel) (by decide +kernel)
set_option maxRecDepth 20000 in
theorem gX0_allBeads_X0_cellsThatHold : GoodIn wsX0_allBeads (wsV RX0 65 RX0 yX0_cellsThatHold wsX0_cellsThatHold) := goodIn_app (goodIn_of _ (by decide +kernel)) ggX0_allBeads_X0_cellsThatHold
theorem dX0_allBeads_0 : decode cX0_allBeads 0 = .ok (.sipush 144, 3) := by decide +kernel
theorem dX0_allBeads_3 : decode cX0_allBeads 3 = .ok (.aload_n 0, 1) := by decide +kernel
theorem dX0_allBeads_4 : decode cX0_allBeads 4 = .ok (.iconst (-1), 1) := by decide +kernel
theorem dX0_allBeads_5 : decode cX0_allBeads 5 = .ok (.invokevirtual 65, 3) := by decide +kernel
theorem dX0_allBeads_8 : decode cX0_allBeads 8 = .ok (.isub, 1) := by decide +kernel
theorem dX0_allBeads_9 : decode cX0_allBeads 9 = .ok (.ireturn, 1) := by decide +kernel
set_option maxRecDepth 20000 in
theorem ggX0_beadsOfColour_X0_cellsThatHold : GoodIn wsX0_beadsOfColour wsX0_cellsThatHold := goodIn_r _ [5, 6, 7, 8, 9, 10, 11, 12, 13, 14] (by decide +kernel) (by decide +kernel)
set_option maxRecDepth 20000 in
theorem gX0_beadsOfColour_X0_cellsThatHold : GoodIn wsX0_beadsOfColour (wsV RX0 65 RX0 yX0_cellsThatHold wsX0_cellsThatHold) := goodIn_app (goodIn_of _ (by decide +kernel)) ggX0_beadsOfColour_X0_cellsThatHold
theorem dX0_beadsOfColour_0 : decode cX0_beadsOfColour 0 = .ok (.aload_n 0, 1) := by decide +kernel
theorem dX0_beadsOfColour_1 : decode cX0_beadsOfColour 1 = .ok (.iload_n 1, 1) := by decide +kernel
theorem dX0_beadsOfColour_2 : decode cX0_beadsOfColour 2 = .ok (.invokevirtual 65, 3) := by decide +kernel
theorem dX0_beadsOfColour_5 : decode cX0_beadsOfColour 5 = .ok (.ireturn, 1) := by decide +kernel
theorem dX0_cellsThatHold_0 : decode cX0_cellsThatHold 0 = .ok (.iconst 0, 1) := by decide +kernel
theorem dX0_cellsThatHold_1 : decode cX0_cellsThatHold 1 = .ok (.istore_n 2, 1) := by decide +kernel
theorem dX0_cellsThatHold_2 : decode cX0_cellsThatHold 2 = .ok (.iconst 0, 1) := by decide +kernel
theorem dX0_cellsThatHold_3 : decode cX0_cellsThatHold 3 = .ok (.istore_n 3, 1) := by decide +kernel
theorem dX0_cellsThatHold_4 : decode cX0_cellsThatHold 4 = .ok (.iload_n 3, 1) := by decide +kernel
theorem dX0_cellsThatHold_5 : decode cX0_cellsThatHold 5 = .ok (.sipush 144, 3) := by decide +kernel
theorem dX0_cellsThatHold_8 : decode cX0_cellsThatHold 8 = .ok (.if_icmp .ge 22, 3) := by decide +kernel
theorem dX0_cellsThatHold_11 : decode cX0_cellsThatHold 11 = .ok (.aload_n 0, 1) := by decide +kernel
theorem dX0_cellsThatHold_12 : decode cX0_cellsThatHold 12 = .ok (.getfield 9, 3) := by decide +kernel
theorem dX0_cellsThatHold_15 : decode cX0_cellsThatHold 15 = .ok (.iload_n 3, 1) := by decide +kernel
theorem dX0_cellsThatHold_16 : decode cX0_cellsThatHold 16 = .ok (.iaload, 1) := by decide +kernel
theorem dX0_cellsThatHold_17 : decode cX0_cellsThatHold 17 = .ok (.iload_n 1, 1) := by decide +kernel
theorem dX0_cellsThatHold_18 : decode cX0_cellsThatHold 18 = .ok (.if_icmp .ne 6, 3) := by decide +kernel
theorem dX0_cellsThatHold_21 : decode cX0_cellsThatHold 21 = .ok (.iinc 2 1, 3) := by decide +kernel
theorem dX0_cellsThatHold_24 : decode cX0_cellsThatHold 24 = .ok (.iinc 3 1, 3) := by decide +kernel
theorem dX0_cellsThatHold_27 : decode cX0_cellsThatHold 27 = .ok (.goto (-23), 3) := by decide +kernel
theorem dX0_cellsThatHold_30 : decode cX0_cellsThatHold 30 = .ok (.iload_n 2, 1) := by decide +kernel
theorem dX0_cellsThatHold_31 : decode cX0_cellsThatHold 31 = .ok (.ireturn, 1) := by decide +kernel
set_option maxRecDepth 20000 in
theorem ggX0_lowerCatch_X0_leftCatch : GoodIn wsX0_lowerCatch wsX0_leftCatch := goodIn_r _ [10, 11, 12, 13, 9, 14, 15, 20, 21, 22, 23, 24, 25, 26, 27] (by decide +kernel) (by decide +kernel)
set_option maxRecDepth 20000 in
theorem gX0_lowerCatch_X0_leftCatch : GoodIn wsX0_lowerCatch (wsV RX0 68 RX0 yX0_leftCatch wsX0_leftCatch) := goodIn_app (goodIn_of _ (by decide +kernel)) ggX0_lowerCatch_X0_leftCatch
set_option maxRecDepth 20000 in
theorem ggX0_lowerCatch_X0_rightCatch : GoodIn wsX0_lowerCatch wsX0_rightCatch := goodIn_r _ [19, 11, 12, 13, 9, 14, 15, 20, 21, 22, 23, 24, 25, 26, 27] (by decide +kernel) (by decide +kernel)
set_option maxRecDepth 20000 in
theorem gX0_lowerCatch_X0_rightCatch : GoodIn wsX0_lowerCatch (wsV RX0 71 RX0 yX0_rightCatch wsX0_rightCatch) := goodIn_app (goodIn_of _ (by decide +kernel)) ggX0_lowerCatch_X0_rightCatch
theorem dX0_lowerCatch_0 : decode cX0_lowerCatch 0 = .ok (.aload_n 0, 1) := by decide +kernel
theorem dX0_lowerCatch_1 : decode cX0_lowerCatch 1 = .ok (.getfield 24, 3) := by decide +kernel
theorem dX0_lowerCatch_4 : decode cX0_lowerCatch 4 = .ok (.ifCond .ne 5, 3) := by decide +kernel
theorem dX0_lowerCatch_7 : decode cX0_lowerCatch 7 = .ok (.iload_n 2, 1) := by decide +kernel
theorem dX0_lowerCatch_8 : decode cX0_lowerCatch 8 = .ok (.ireturn, 1) := by decide +kernel
theorem dX0_lowerCatch_9 : decode cX0_lowerCatch 9 = .ok (.aload_n 0, 1) := by decide +kernel
theorem dX0_lowerCatch_10 : decode cX0_lowerCatch 10 = .ok (.iload_n 1, 1) := by decide +kernel
theorem dX0_lowerCatch_11 : decode cX0_lowerCatch 11 = .ok (.iload_n 2, 1) := by decide +kernel
theorem dX0_lowerCatch_12 : decode cX0_lowerCatch 12 = .ok (.invokevirtual 68, 3) := by decide +kernel
theorem dX0_lowerCatch_15 : decode cX0_lowerCatch 15 = .ok (.aload_n 0, 1) := by decide +kernel
theorem dX0_lowerCatch_16 : decode cX0_lowerCatch 16 = .ok (.iload_n 1, 1) := by decide +kernel
theorem dX0_lowerCatch_17 : decode cX0_lowerCatch 17 = .ok (.iload_n 2, 1) := by decide +kernel
theorem dX0_lowerCatch_18 : decode cX0_lowerCatch 18 = .ok (.invokevirtual 71, 3) := by decide +kernel
theorem dX0_lowerCatch_21 : decode cX0_lowerCatch 21 = .ok (.invokestatic 74, 3) := by decide +kernel
theorem dX0_lowerCatch_24 : decode cX0_lowerCatch 24 = .ok (.ireturn, 1) := by decide +kernel
set_option maxRecDepth 20000 in
theorem ggX0_upperCatch_X0_leftCatch : GoodIn wsX0_upperCatch wsX0_leftCatch := goodIn_r _ [10, 11, 12, 13, 9, 14, 15, 20, 21, 22, 23, 24, 25, 26, 27] (by decide +kernel) (by decide +kernel)
set_option maxRecDepth 20000 in
theorem gX0_upperCatch_X0_leftCatch : GoodIn wsX0_upperCatch (wsV RX0 68 RX0 yX0_leftCatch wsX0_leftCatch) := goodIn_app (goodIn_of _ (by decide +kernel)) ggX0_upperCatch_X0_leftCatch
set_option maxRecDepth 20000 in
theorem ggX0_upperCatch_X0_rightCatch : GoodIn wsX0_upperCatch wsX0_rightCatch := goodIn_r _ [19, 11, 12, 13, 9, 14, 15, 20, 21, 22, 23, 24, 25, 26, 27] (by decide +kernel) (by decide +kernel)
set_option maxRecDepth 20000 in
theorem gX0_upperCatch_X0_rightCatch : GoodIn wsX0_upperCatch (wsV RX0 71 RX0 yX0_rightCatch wsX0_rightCatch) := goodIn_app (goodIn_of _ (by decide +kernel)) ggX0_upperCatch_X0_rightCatch
theorem dX0_upperCatch_0 : decode cX0_upperCatch 0 = .ok (.aload_n 0, 1) := by decide +kernel
theorem dX0_upperCatch_1 : decode cX0_upperCatch 1 = .ok (.getfield 24, 3) := by decide +kernel
theorem dX0_upperCatch_4 : decode cX0_upperCatch 4 = .ok (.ifCond .ne 5, 3) := by decide +kernel
theorem dX0_upperCatch_7 : decode cX0_upperCatch 7 = .ok (.iconst (-1), 1) := by decide +kernel
theorem dX0_upperCatch_8 : decode cX0_upperCatch 8 = .ok (.ireturn, 1) := by decide +kernel
theorem dX0_upperCatch_9 : decode cX0_upperCatch 9 = .ok (.aload_n 0, 1) := by decide +kernel
theorem dX0_upperCatch_10 : decode cX0_upperCatch 10 = .ok (.iload_n 1, 1) := by decide +kernel
theorem dX0_upperCatch_11 : decode cX0_upperCatch 11 = .ok (.iload_n 2, 1) := by decide +kernel
theorem dX0_upperCatch_12 : decode cX0_upperCatch 12 = .ok (.invokevirtual 68, 3) := by decide +kernel
theorem dX0_upperCatch_15 : decode cX0_upperCatch 15 = .ok (.aload_n 0, 1) := by decide +kernel
theorem dX0_upperCatch_16 : decode cX0_upperCatch 16 = .ok (.iload_n 1, 1) := by decide +kernel
theorem dX0_upperCatch_17 : decode cX0_upperCatch 17 = .ok (.iload_n 2, 1) := by decide +kernel
theorem dX0_upperCatch_18 : decode cX0_upperCatch 18 = .ok (.invokevirtual 71, 3) := by decide +kernel
theorem dX0_upperCatch_21 : decode cX0_upperCatch 21 = .ok (.invokestatic 79, 3) := by decide +kernel
theorem dX0_upperCatch_24 : decode cX0_upperCatch 24 = .ok (.ireturn, 1) := by decide +kernel
set_option maxRecDepth 20000 in
theorem ggX0_leftCatch_X0_aroundTheRing : GoodIn wsX0_leftCatch wsX0_aroundTheRing := goodIn_r _ [5, 6, 7, 8, 9, 10, 11, 12, 13, 14] (by decide +kernel) (by decide +kernel)
set_option maxRecDepth 20000 in
theorem gX0_leftCatch_X0_aroundTheRing : GoodIn wsX0_leftCatch (wsV RX0 82 RX0 yX0_aroundTheRing wsX0_aroundTheRing) := goodIn_app (goodIn_of _ (by decide +kernel)) ggX0_leftCatch_X0_aroundTheRing
theorem dX0_leftCatch_0 : decode cX0_leftCatch 0 = .ok (.aload_n 0, 1) := by decide +kernel
theorem dX0_leftCatch_1 : decode cX0_leftCatch 1 = .ok (.iload_n 2, 1) := by decide +kernel
theorem dX0_leftCatch_2 : decode cX0_leftCatch 2 = .ok (.iconst 1, 1) := by decide +kernel
theorem dX0_leftCatch_3 : decode cX0_leftCatch 3 = .ok (.isub, 1) := by decide +kernel
theorem dX0_leftCatch_4 : decode cX0_leftCatch 4 = .ok (.iload_n 1, 1) := by decide +kernel
theorem dX0_leftCatch_5 : decode cX0_leftCatch 5 = .ok (.iconst 2, 1) := by decide +kernel
theorem dX0_leftCatch_6 : decode cX0_leftCatch 6 = .ok (.irem, 1) := by decide +kernel
theorem dX0_leftCatch_7 : decode cX0_leftCatch 7 = .ok (.iadd, 1) := by decide +kernel
theorem dX0_leftCatch_8 : decode cX0_leftCatch 8 = .ok (.invokevirtual 82, 3) := by decide +kernel
theorem dX0_leftCatch_11 : decode cX0_leftCatch 11 = .ok (.ireturn, 1) := by decide +kernel
set_option maxRecDepth 20000 in
theorem ggX0_rightCatch_X0_aroundTheRing : GoodIn wsX0_rightCatch wsX0_aroundTheRing := goodIn_r _ [5, 6, 7, 8, 9, 10, 11, 12, 13, 14] (by decide +kernel) (by decide +kernel)
set_option maxRecDepth 20000 in
theorem gX0_rightCatch_X0_aroundTheRing : GoodIn wsX0_rightCatch (wsV RX0 82 RX0 yX0_aroundTheRing wsX0_aroundTheRing) := goodIn_app (goodIn_of _ (by decide +kernel)) ggX0_rightCatch_X0_aroundTheRing
theorem dX0_rightCatch_0 : decode cX0_rightCatch 0 = .ok (.aload_n 0, 1) := by decide +kernel
theorem dX0_rightCatch_1 : decode cX0_rightCatch 1 = .ok (.iload_n 2, 1) := by decide +kernel
theorem dX0_rightCatch_2 : decode cX0_rightCatch 2 = .ok (.iload_n 1, 1) := by decide +kernel
theorem dX0_rightCatch_3 : decode cX0_rightCatch 3 = .ok (.iconst 2, 1) := by decide +kernel
theorem dX0_rightCatch_4 : decode cX0_rightCatch 4 = .ok (.irem, 1) := by decide +kernel
theorem dX0_rightCatch_5 : decode cX0_rightCatch 5 = .ok (.iadd, 1) := by decide +kernel
theorem dX0_rightCatch_6 : decode cX0_rightCatch 6 = .ok (.invokevirtual 82, 3) := by decide +kernel
theorem dX0_rightCatch_9 : decode cX0_rightCatch 9 = .ok (.ireturn, 1) := by decide +kernel
theorem dX0_aroundTheRing_0 : decode cX0_aroundTheRing 0 = .ok (.aload_n 0, 1) := by decide +kernel
theorem dX0_aroundTheRing_1 : decode cX0_aroundTheRing 1 = .ok (.getfield 28, 3) := by decide +kernel
theorem dX0_aroundTheRing_4 : decode cX0_aroundTheRing 4 = .ok (.ifCond .ne 7, 3) := by decide +kernel
theorem dX0_aroundTheRing_7 : decode cX0_aroundTheRing 7 = .ok (.iload_n 1, 1) := by decide +kernel
theorem dX0_aroundTheRing_8 : decode cX0_aroundTheRing 8 = .ok (.goto 14, 3) := by decide +kernel
theorem dX0_aroundTheRing_11 : decode cX0_aroundTheRing 11 = .ok (.iload_n 1, 1) := by decide +kernel
theorem dX0_aroundTheRing_12 : decode cX0_aroundTheRing 12 = .ok (.aload_n 0, 1) := by decide +kernel
theorem dX0_aroundTheRing_13 : decode cX0_aroundTheRing 13 = .ok (.getfield 28, 3) := by decide +kernel
theorem dX0_aroundTheRing_16 : decode cX0_aroundTheRing 16 = .ok (.iadd, 1) := by decide +kernel
theorem dX0_aroundTheRing_17 : decode cX0_aroundTheRing 17 = .ok (.aload_n 0, 1) := by decide +kernel
theorem dX0_aroundTheRing_18 : decode cX0_aroundTheRing 18 = .ok (.getfield 28, 3) := by decide +kernel
theorem dX0_aroundTheRing_21 : decode cX0_aroundTheRing 21 = .ok (.irem, 1) := by decide +kernel
theorem dX0_aroundTheRing_22 : decode cX0_aroundTheRing 22 = .ok (.ireturn, 1) := by decide +kernel
theorem dX1_init_0 : decode cX1_init 0 = .ok (.aload_n 0, 1) := by decide +kernel
theorem dX1_init_1 : decode cX1_init 1 = .ok (.invokespecial 3, 3) := by decide +kernel
theorem dX1_init_4 : decode cX1_init 4 = .ok (.aload_n 0, 1) := by decide +kernel
theorem dX1_init_5 : decode cX1_init 5 = .ok (.sipush 144, 3) := by decide +kernel
theorem dX1_init_8 : decode cX1_init 8 = .ok (.newarray .int, 2) := by decide +kernel
theorem dX1_init_10 : decode cX1_init 10 = .ok (.putfield 9, 3) := by decide +kernel
theorem dX1_init_13 : decode cX1_init 13 = .ok (.return_, 1) := by decide +kernel
set_option maxRecDepth 20000 in
theorem ggX1_markHanging_X1_markOnly : GoodIn wsX1_markHanging wsX1_markOnly := goodIn_r _ [7, 2, 8, 9, 10, 11, 41] (by decide +kernel) (by decide +kernel)
set_option maxRecDepth 20000 in
theorem gX1_markHanging_X1_markOnly : GoodIn wsX1_markHanging (wsV RX1 15 RX1 yX1_markOnly wsX1_markOnly) := goodIn_app (goodIn_of _ (by decide +kernel)) ggX1_markHanging_X1_markOnly
set_option maxRecDepth 20000 in
theorem ggX1_markHanging_X1_isCaughtOnMarked : GoodIn wsX1_markHanging wsX1_isCaughtOnMarked := goodIn_r _ [15, 16, 17, 18, 19, 20, 6, 21, 2, 22, 23, 24, 25, 26, 27, 28, 29, 30, 31, 32, 33, 34, 35, 36, 37, 38, 39, 40, 41] (by decide +kernel) (by decide +kernel)
set_option maxRecDepth 20000 in
theorem gX1_markHanging_X1_isCaughtOnMarked : GoodIn wsX1_markHanging (wsV RX1 25 RX1 yX1_isCaughtOnMarked wsX1_isCaughtOnMarked) := goodIn_app (goodIn_of _ (by decide +kernel)) ggX1_markHanging_X1_isCaughtOnMarked
theorem dX1_markHanging_0 : decode cX1_markHanging 0 = .ok (.iconst 0, 1) := by decide +kernel
theorem dX1_markHanging_1 : decode cX1_markHanging 1 = .ok (.istore_n 3, 1) := by decide +kernel
theorem dX1_markHanging_2 : decode cX1_markHanging 2 = .ok (.aload_n 0, 1) := by decide +kernel
theorem dX1_markHanging_3 : decode cX1_markHanging 3 = .ok (.iload_n 2, 1) := by decide +kernel
theorem dX1_markHanging_4 : decode cX1_markHanging 4 = .ok (.invokevirtual 15, 3) := by decide +kernel
theorem dX1_markHanging_7 : decode cX1_markHanging 7 = .ok (.iload_n 2, 1) := by decide +kernel
theorem dX1_markHanging_8 : decode cX1_markHanging 8 = .ok (.iconst 1, 1) := by decide +kernel
theorem dX1_markHanging_9 : decode cX1_markHanging 9 = .ok (.iadd, 1) := by decide +kernel
theorem dX1_markHanging_10 : decode cX1_markHanging 10 = .ok (.istore 4, 2) := by decide +kernel
theorem dX1_markHanging_12 : decode cX1_markHanging 12 = .ok (.iload 4, 2) := by decide +kernel
theorem dX1_markHanging_14 : decode cX1_markHanging 14 = .ok (.aload_n 1, 1) := by decide +kernel
theorem dX1_markHanging_15 : decode cX1_markHanging 15 = .ok (.getfield 19, 3) := by decide +kernel
theorem dX1_markHanging_18 : decode cX1_markHanging 18 = .ok (.if_icmp .ge 30, 3) := by decide +kernel
theorem dX1_markHanging_21 : decode cX1_markHanging 21 = .ok (.aload_n 0, 1) := by decide +kernel
theorem dX1_markHanging_22 : decode cX1_markHanging 22 = .ok (.aload_n 1, 1) := by decide +kernel
theorem dX1_markHanging_23 : decode cX1_markHanging 23 = .ok (.iload 4, 2) := by decide +kernel
theorem dX1_markHanging_25 : decode cX1_markHanging 25 = .ok (.invokevirtual 25, 3) := by decide +kernel
theorem dX1_markHanging_28 : decode cX1_markHanging 28 = .ok (.ifCond .eq 14, 3) := by decide +kernel
theorem dX1_markHanging_31 : decode cX1_markHanging 31 = .ok (.aload_n 0, 1) := by decide +kernel
theorem dX1_markHanging_32 : decode cX1_markHanging 32 = .ok (.getfield 9, 3) := by decide +kernel
theorem dX1_markHanging_35 : decode cX1_markHanging 35 = .ok (.iload 4, 2) := by decide +kernel
theorem dX1_markHanging_37 : decode cX1_markHanging 37 = .ok (.iconst 1, 1) := by decide +kernel
theorem dX1_markHanging_38 : decode cX1_markHanging 38 = .ok (.iastore, 1) := by decide +kernel
theorem dX1_markHanging_39 : decode cX1_markHanging 39 = .ok (.iinc 3 1, 3) := by decide +kernel
theorem dX1_markHanging_42 : decode cX1_markHanging 42 = .ok (.iinc 4 1, 3) := by decide +kernel
theorem dX1_markHanging_45 : decode cX1_markHanging 45 = .ok (.goto (-33), 3) := by decide +kernel
theorem dX1_markHanging_48 : decode cX1_markHanging 48 = .ok (.iload_n 3, 1) := by decide +kernel
theorem dX1_markHanging_49 : decode cX1_markHanging 49 = .ok (.ireturn, 1) := by decide +kernel
set_option maxRecDepth 20000 in
theorem ggX1_markPulledOut_X1_markOnly : GoodIn wsX1_markPulledOut wsX1_markOnly := goodIn_r _ [7, 2, 8, 9, 10, 11, 59] (by decide +kernel) (by decide +kernel)
set_option maxRecDepth 20000 in
theorem gX1_markPulledOut_X1_markOnly : GoodIn wsX1_markPulledOut (wsV RX1 15 RX1 yX1_markOnly wsX1_markOnly) := goodIn_app (goodIn_of _ (by decide +kernel)) ggX1_markPulledOut_X1_markOnly
set_option maxRecDepth 20000 in
theorem ggX1_markPulledOut_X1_isBehindMarked : GoodIn wsX1_markPulledOut wsX1_isBehindMarked := goodIn_r _ [15, 16, 17, 18, 19, 6, 20, 2, 40, 41, 42, 43, 44, 45, 46, 47, 48, 49, 50, 51, 52, 53, 54, 55, 56, 57, 58, 59] (by decide +kernel) (by decide +kernel)
set_option maxRecDepth 20000 in
theorem gX1_markPulledOut_X1_isBehindMarked : GoodIn wsX1_markPulledOut (wsV RX1 29 RX1 yX1_isBehindMarked wsX1_isBehindMarked) := goodIn_app (goodIn_of _ (by decide +kernel)) ggX1_markPulledOut_X1_isBehindMarked
set_option maxRecDepth 20000 in
theorem ggX1_markPulledOut_X1_isCaughtOnMarked : GoodIn wsX1_markPulledOut wsX1_isCaughtOnMarked := goodIn_r _ [24, 25, 26, 17, 18, 19, 6, 20, 2, 40, 41, 42, 43, 44, 45, 46, 47, 48, 49, 50, 51, 52, 53, 54, 55, 56, 57, 58, 59] (by decide +kernel) (by decide +kernel)
set_option maxRecDepth 20000 in
theorem gX1_markPulledOut_X1_isCaughtOnMarked : GoodIn wsX1_markPulledOut (wsV RX1 25 RX1 yX1_isCaughtOnMarked wsX1_isCaughtOnMarked) := goodIn_app (goodIn_of _ (by decide +kernel)) ggX1_markPulledOut_X1_isCaughtOnMarked
set_option maxRecDepth 20000 in
theorem ggX1_markPulledOut_X1_isWovenInMarked : GoodIn wsX1_markPulledOut wsX1_isWovenInMarked := goodIn_r _ [30, 31, 16, 32, 33, 34, 35, 36, 37, 38, 39, 17, 18, 19, 6, 20, 2, 40, 41, 42, 43, 44, 45, 46, 47, 48, 49, 50, 51, 52, 53, 54, 55, 56, 57, 58, 59] (by decide +kernel) (by decide +kernel)
set_option maxRecDepth 20000 in
theorem gX1_markPulledOut_X1_isWovenInMarked : GoodIn wsX1_markPulledOut (wsV RX1 32 RX1 yX1_isWovenInMarked wsX1_isWovenInMarked) := goodIn_app (goodIn_of _ (by decide +kernel)) ggX1_markPulledOut_X1_isWovenInMarked
theorem dX1_markPulledOut_0 : decode cX1_markPulledOut 0 = .ok (.iconst 1, 1) := by decide +kernel
theorem dX1_markPulledOut_1 : decode cX1_markPulledOut 1 = .ok (.istore_n 3, 1) := by decide +kernel
theorem dX1_markPulledOut_2 : decode cX1_markPulledOut 2 = .ok (.aload_n 0, 1) := by decide +kernel
theorem dX1_markPulledOut_3 : decode cX1_markPulledOut 3 = .ok (.iload_n 2, 1) := by decide +kernel
theorem dX1_markPulledOut_4 : decode cX1_markPulledOut 4 = .ok (.invokevirtual 15, 3) := by decide +kernel
theorem dX1_markPulledOut_7 : decode cX1_markPulledOut 7 = .ok (.iload_n 2, 1) := by decide +kernel
theorem dX1_markPulledOut_8 : decode cX1_markPulledOut 8 = .ok (.iconst 1, 1) := by decide +kernel
theorem dX1_markPulledOut_9 : decode cX1_markPulledOut 9 = .ok (.iadd, 1) := by decide +kernel
theorem dX1_markPulledOut_10 : decode cX1_markPulledOut 10 = .ok (.istore 4, 2) := by decide +kernel
theorem dX1_markPulledOut_12 : decode cX1_markPulledOut 12 = .ok (.iload 4, 2) := by decide +kernel
theorem dX1_markPulledOut_14 : decode cX1_markPulledOut 14 = .ok (.aload_n 1, 1) := by decide +kernel
theorem dX1_markPulledOut_15 : decode cX1_markPulledOut 15 = .ok (.getfield 19, 3) := by decide +kernel
theorem dX1_markPulledOut_18 : decode cX1_markPulledOut 18 = .ok (.if_icmp .ge 50, 3) := by decide +kernel
theorem dX1_markPulledOut_21 : decode cX1_markPulledOut 21 = .ok (.aload_n 0, 1) := by decide +kernel
theorem dX1_markPulledOut_22 : decode cX1_markPulledOut 22 = .ok (.aload_n 1, 1) := by decide +kernel
theorem dX1_markPulledOut_23 : decode cX1_markPulledOut 23 = .ok (.iload 4, 2) := by decide +kernel
theorem dX1_markPulledOut_25 : decode cX1_markPulledOut 25 = .ok (.invokevirtual 29, 3) := by decide +kernel
theorem dX1_markPulledOut_28 : decode cX1_markPulledOut 28 = .ok (.ifCond .ne 23, 3) := by decide +kernel
theorem dX1_markPulledOut_31 : decode cX1_markPulledOut 31 = .ok (.aload_n 0, 1) := by decide +kernel
theorem dX1_markPulledOut_32 : decode cX1_markPulledOut 32 = .ok (.aload_n 1, 1) := by decide +kernel
theorem dX1_markPulledOut_33 : decode cX1_markPulledOut 33 = .ok (.iload 4, 2) := by decide +kernel
theorem dX1_markPulledOut_35 : decode cX1_markPulledOut 35 = .ok (.invokevirtual 25, 3) := by decide +kernel
theorem dX1_markPulledOut_38 : decode cX1_markPulledOut 38 = .ok (.ifCond .ne 13, 3) := by decide +kernel
theorem dX1_markPulledOut_41 : decode cX1_markPulledOut 41 = .ok (.aload_n 0, 1) := by decide +kernel
theorem dX1_markPulledOut_42 : decode cX1_markPulledOut 42 = .ok (.aload_n 1, 1) := by decide +kernel
theorem dX1_markPulledOut_43 : decode cX1_markPulledOut 43 = .ok (.iload 4, 2) := by decide +kernel
theorem dX1_markPulledOut_45 : decode cX1_markPulledOut 45 = .ok (.invokevirtual 32, 3) := by decide +kernel
theorem dX1_markPulledOut_48 : decode cX1_markPulledOut 48 = .ok (.ifCond .eq 14, 3) := by decide +kernel
theorem dX1_markPulledOut_51 : decode cX1_markPulledOut 51 = .ok (.aload_n 0, 1) := by decide +kernel
theorem dX1_markPulledOut_52 : decode cX1_markPulledOut 52 = .ok (.getfield 9, 3) := by decide +kernel
theorem dX1_markPulledOut_55 : decode cX1_markPulledOut 55 = .ok (.iload 4, 2) := by decide +kernel
theorem dX1_markPulledOut_57 : decode cX1_markPulledOut 57 = .ok (.iconst 1, 1) := by decide +kernel
theorem dX1_markPulledOut_58 : decode cX1_markPulledOut 58 = .ok (.iastore, 1) := by decide +kernel
theorem dX1_markPulledOut_59 : decode cX1_markPulledOut 59 = .ok (.iinc 3 1, 3) := by decide +kernel
theorem dX1_markPulledOut_62 : decode cX1_markPulledOut 62 = .ok (.iinc 4 1, 3) := by decide +kernel
theorem dX1_markPulledOut_65 : decode cX1_markPulledOut 65 = .ok (.goto (-53), 3) := by decide +kernel
theorem dX1_markPulledOut_68 : decode cX1_markPulledOut 68 = .ok (.iload_n 3, 1) := by decide +kernel
theorem dX1_markPulledOut_69 : decode cX1_markPulledOut 69 = .ok (.ireturn, 1) := by decide +kernel
set_option maxRecDepth 20000 in
theorem ggX1_markOnly_J7_fill_53178 : GoodIn wsX1_markOnly wsJ7_fill_53178 := goodIn_r _ [5] (by decide +kernel) (by decide +kernel)
set_option maxRecDepth 20000 in
theorem gX1_markOnly_J7_fill_53178 : GoodIn wsX1_markOnly (va_wsS RX1 35 yJ7_fill_53178 wsJ7_fill_53178) := goodIn_app (goodIn_of _ (by decide +kernel)) ggX1_markOnly_J7_fill_53178
theorem dX1_markOnly_0 : decode cX1_markOnly 0 = .ok (.aload_n 0, 1) := by decide +kernel
theorem dX1_markOnly_1 : decode cX1_markOnly 1 = .ok (.getfield 9, 3) := by decide +kernel
theorem dX1_markOnly_4 : decode cX1_markOnly 4 = .ok (.iconst 0, 1) := by decide +kernel
theorem dX1_markOnly_5 : decode cX1_markOnly 5 = .ok (.invokestatic 35, 3) := by decide +kernel
theorem dX1_markOnly_8 : decode cX1_markOnly 8 = .ok (.aload_n 0, 1) := by decide +kernel
theorem dX1_markOnly_9 : decode cX1_markOnly 9 = .ok (.getfield 9, 3) := by decide +kernel
theorem dX1_markOnly_12 : decode cX1_markOnly 12 = .ok (.iload_n 1, 1) := by decide +kernel
theorem dX1_markOnly_13 : decode cX1_markOnly 13 = .ok (.iconst 1, 1) := by decide +kernel
theorem dX1_markOnly_14 : decode cX1_markOnly 14 = .ok (.iastore, 1) := by decide +kernel
theorem dX1_markOnly_15 : decode cX1_markOnly 15 = .ok (.return_, 1) := by decide +kernel
theorem dX1_isMarked_0 : decode cX1_isMarked 0 = .ok (.iload_n 1, 1) := by decide +kernel
theorem dX1_isMarked_1 : decode cX1_isMarked 1 = .ok (.iconst (-1), 1) := by decide +kernel
theorem dX1_isMarked_2 : decode cX1_isMarked 2 = .ok (.if_icmp .eq 17, 3) := by decide +kernel
theorem dX1_isMarked_5 : decode cX1_isMarked 5 = .ok (.aload_n 0, 1) := by decide +kernel
theorem dX1_isMarked_6 : decode cX1_isMarked 6 = .ok (.getfield 9, 3) := by decide +kernel
theorem dX1_isMarked_9 : decode cX1_isMarked 9 = .ok (.iload_n 1, 1) := by decide +kernel
theorem dX1_isMarked_10 : decode cX1_isMarked 10 = .ok (.iaload, 1) := by decide +kernel
theorem dX1_isMarked_11 : decode cX1_isMarked 11 = .ok (.iconst 1, 1) := by decide +kernel
theorem dX1_isMarked_12 : decode cX1_isMarked 12 = .ok (.if_icmp .ne 7, 3) := by decide +kernel
theorem dX1_isMarked_15 : decode cX1_isMarked 15 = .ok (.iconst 1, 1) := by decide +kernel
theorem dX1_isMarked_16 : decode cX1_isMarked 16 = .ok (.goto 4, 3) := by decide +kernel
theorem dX1_isMarked_19 : decode cX1_isMarked 19 = .ok (.iconst 0, 1) := by decide +kernel
theorem dX1_isMarked_20 : decode cX1_isMarked 20 = .ok (.ireturn, 1) := by decide +kernel
set_option maxRecDepth 20000 in
theorem ggX1_isCaughtOnMarked_X1_isMarked : GoodIn wsX1_isCaughtOnMarked wsX1_isMarked := goodIn_r _ [7, 8, 28] (by decide +kernel) (by decide +kernel)
set_option maxRecDepth 20000 in
theorem gX1_isCaughtOnMarked_X1_isMarked : GoodIn wsX1_isCaughtOnMarked (wsV RX1 44 RX1 yX1_isMarked wsX1_isMarked) := goodIn_app (goodIn_of _ (by decide +kernel)) ggX1_isCaughtOnMarked_X1_isMarked
theorem dX1_isCaughtOnMarked_0 : decode cX1_isCaughtOnMarked 0 = .ok (.aload_n 0, 1) := by decide +kernel
theorem dX1_isCaughtOnMarked_1 : decode cX1_isCaughtOnMarked 1 = .ok (.aload_n 1, 1) := by decide +kernel
theorem dX1_isCaughtOnMarked_2 : decode cX1_isCaughtOnMarked 2 = .ok (.getfield 41, 3) := by decide +kernel
theorem dX1_isCaughtOnMarked_5 : decode cX1_isCaughtOnMarked 5 = .ok (.iload_n 2, 1) := by decide +kernel
theorem dX1_isCaughtOnMarked_6 : decode cX1_isCaughtOnMarked 6 = .ok (.iaload, 1) := by decide +kernel
theorem dX1_isCaughtOnMarked_7 : decode cX1_isCaughtOnMarked 7 = .ok (.invokevirtual 44, 3) := by decide +kernel
theorem dX1_isCaughtOnMarked_10 : decode cX1_isCaughtOnMarked 10 = .ok (.ifCond .ne 16, 3) := by decide +kernel
theorem dX1_isCaughtOnMarked_13 : decode cX1_isCaughtOnMarked 13 = .ok (.aload_n 0, 1) := by decide +kernel
theorem dX1_isCaughtOnMarked_14 : decode cX1_isCaughtOnMarked 14 = .ok (.aload_n 1, 1) := by decide +kernel
theorem dX1_isCaughtOnMarked_15 : decode cX1_isCaughtOnMarked 15 = .ok (.getfield 48, 3) := by decide +kernel
theorem dX1_isCaughtOnMarked_18 : decode cX1_isCaughtOnMarked 18 = .ok (.iload_n 2, 1) := by decide +kernel
theorem dX1_isCaughtOnMarked_19 : decode cX1_isCaughtOnMarked 19 = .ok (.iaload, 1) := by decide +kernel
theorem dX1_isCaughtOnMarked_20 : decode cX1_isCaughtOnMarked 20 = .ok (.invokevirtual 44, 3) := by decide +kernel
theorem dX1_isCaughtOnMarked_23 : decode cX1_isCaughtOnMarked 23 = .ok (.ifCond .eq 7, 3) := by decide +kernel
theorem dX1_isCaughtOnMarked_26 : decode cX1_isCaughtOnMarked 26 = .ok (.iconst 1, 1) := by decide +kernel
theorem dX1_isCaughtOnMarked_27 : decode cX1_isCaughtOnMarked 27 = .ok (.goto 4, 3) := by decide +kernel
theorem dX1_isCaughtOnMarked_30 : decode cX1_isCaughtOnMarked 30 = .ok (.iconst 0, 1) := by decide +kernel
theorem dX1_isCaughtOnMarked_31 : decode cX1_isCaughtOnMarked 31 = .ok (.ireturn, 1) := by decide +kernel
set_option maxRecDepth 20000 in
theorem ggX1_isBehindMarked_X1_isMarked : GoodIn wsX1_isBehindMarked wsX1_isMarked := goodIn_r _ [6, 7, 27] (by decide +kernel) (by decide +kernel)
set_option maxRecDepth 20000 in
theorem gX1_isBehindMarked_X1_isMarked : GoodIn wsX1_isBehindMarked (wsV RX1 44 RX1 yX1_isMarked wsX1_isMarked) := goodIn_app (goodIn_of _ (by decide +kernel)) ggX1_isBehindMarked_X1_isMarked
theorem dX1_isBehindMarked_0 : decode cX1_isBehindMarked 0 = .ok (.aload_n 1, 1) := by decide +kernel
theorem dX1_isBehindMarked_1 : decode cX1_isBehindMarked 1 = .ok (.getfield 51, 3) := by decide +kernel
theorem dX1_isBehindMarked_4 : decode cX1_isBehindMarked 4 = .ok (.iload_n 2, 1) := by decide +kernel
theorem dX1_isBehindMarked_5 : decode cX1_isBehindMarked 5 = .ok (.iconst 1, 1) := by decide +kernel
theorem dX1_isBehindMarked_6 : decode cX1_isBehindMarked 6 = .ok (.isub, 1) := by decide +kernel
theorem dX1_isBehindMarked_7 : decode cX1_isBehindMarked 7 = .ok (.iaload, 1) := by decide +kernel
theorem dX1_isBehindMarked_8 : decode cX1_isBehindMarked 8 = .ok (.aload_n 1, 1) := by decide +kernel
theorem dX1_isBehindMarked_9 : decode cX1_isBehindMarked 9 = .ok (.getfield 51, 3) := by decide +kernel
theorem dX1_isBehindMarked_12 : decode cX1_isBehindMarked 12 = .ok (.iload_n 2, 1) := by decide +kernel
theorem dX1_isBehindMarked_13 : decode cX1_isBehindMarked 13 = .ok (.iaload, 1) := by decide +kernel
theorem dX1_isBehindMarked_14 : decode cX1_isBehindMarked 14 = .ok (.if_icmp .ne 17, 3) := by decide +kernel
theorem dX1_isBehindMarked_17 : decode cX1_isBehindMarked 17 = .ok (.aload_n 0, 1) := by decide +kernel
theorem dX1_isBehindMarked_18 : decode cX1_isBehindMarked 18 = .ok (.iload_n 2, 1) := by decide +kernel
theorem dX1_isBehindMarked_19 : decode cX1_isBehindMarked 19 = .ok (.iconst 1, 1) := by decide +kernel
theorem dX1_isBehindMarked_20 : decode cX1_isBehindMarked 20 = .ok (.isub, 1) := by decide +kernel
theorem dX1_isBehindMarked_21 : decode cX1_isBehindMarked 21 = .ok (.invokevirtual 44, 3) := by decide +kernel
theorem dX1_isBehindMarked_24 : decode cX1_isBehindMarked 24 = .ok (.ifCond .eq 7, 3) := by decide +kernel
theorem dX1_isBehindMarked_27 : decode cX1_isBehindMarked 27 = .ok (.iconst 1, 1) := by decide +kernel
theorem dX1_isBehindMarked_28 : decode cX1_isBehindMarked 28 = .ok (.goto 4, 3) := by decide +kernel
theorem dX1_isBehindMarked_31 : decode cX1_isBehindMarked 31 = .ok (.iconst 0, 1) := by decide +kernel
theorem dX1_isBehindMarked_32 : decode cX1_isBehindMarked 32 = .ok (.ireturn, 1) := by decide +kernel
set_option maxRecDepth 20000 in
theorem ggX1_isWovenInMarked_X3_wovenIn : GoodIn wsX1_isWovenInMarked wsX3_wovenIn := goodIn_r _ [7, 8, 9, 10, 17, 18, 19, 20, 21, 22, 23, 24, 25, 26, 27, 28, 29, 30, 31, 32, 33, 34, 35] (by decide +kernel) (by decide +kernel)
set_option maxRecDepth 20000 in
theorem gX1_isWovenInMarked_X3_wovenIn : GoodIn wsX1_isWovenInMarked (wsV RX1 57 RX3 yX3_wovenIn wsX3_wovenIn) := goodIn_app (goodIn_of _ (by decide +kernel)) ggX1_isWovenInMarked_X3_wovenIn
set_option maxRecDepth 20000 in
theorem ggX1_isWovenInMarked_X1_isMarked : GoodIn wsX1_isWovenInMarked wsX1_isMarked := goodIn_r _ [15, 16, 36] (by decide +kernel) (by decide +kernel)
set_option maxRecDepth 20000 in
theorem gX1_isWovenInMarked_X1_isMarked : GoodIn wsX1_isWovenInMarked (wsV RX1 44 RX1 yX1_isMarked wsX1_isMarked) := goodIn_app (goodIn_of _ (by decide +kernel)) ggX1_isWovenInMarked_X1_isMarked
theorem dX1_isWovenInMarked_0 : decode cX1_isWovenInMarked 0 = .ok (.iconst 0, 1) := by decide +kernel
theorem dX1_isWovenInMarked_1 : decode cX1_isWovenInMarked 1 = .ok (.istore_n 3, 1) := by decide +kernel
theorem dX1_isWovenInMarked_2 : decode cX1_isWovenInMarked 2 = .ok (.iload_n 3, 1) := by decide +kernel
theorem dX1_isWovenInMarked_3 : decode cX1_isWovenInMarked 3 = .ok (.aload_n 1, 1) := by decide +kernel
theorem dX1_isWovenInMarked_4 : decode cX1_isWovenInMarked 4 = .ok (.getfield 54, 3) := by decide +kernel
theorem dX1_isWovenInMarked_7 : decode cX1_isWovenInMarked 7 = .ok (.if_icmp .ge 29, 3) := by decide +kernel
theorem dX1_isWovenInMarked_10 : decode cX1_isWovenInMarked 10 = .ok (.aload_n 0, 1) := by decide +kernel
theorem dX1_isWovenInMarked_11 : decode cX1_isWovenInMarked 11 = .ok (.aload_n 1, 1) := by decide +kernel
theorem dX1_isWovenInMarked_12 : decode cX1_isWovenInMarked 12 = .ok (.aload_n 1, 1) := by decide +kernel
theorem dX1_isWovenInMarked_13 : decode cX1_isWovenInMarked 13 = .ok (.getfield 51, 3) := by decide +kernel
theorem dX1_isWovenInMarked_16 : decode cX1_isWovenInMarked 16 = .ok (.iload_n 2, 1) := by decide +kernel
theorem dX1_isWovenInMarked_17 : decode cX1_isWovenInMarked 17 = .ok (.iaload, 1) := by decide +kernel
theorem dX1_isWovenInMarked_18 : decode cX1_isWovenInMarked 18 = .ok (.iload_n 3, 1) := by decide +kernel
theorem dX1_isWovenInMarked_19 : decode cX1_isWovenInMarked 19 = .ok (.invokevirtual 57, 3) := by decide +kernel
theorem dX1_isWovenInMarked_22 : decode cX1_isWovenInMarked 22 = .ok (.invokevirtual 44, 3) := by decide +kernel
theorem dX1_isWovenInMarked_25 : decode cX1_isWovenInMarked 25 = .ok (.ifCond .eq 5, 3) := by decide +kernel
theorem dX1_isWovenInMarked_28 : decode cX1_isWovenInMarked 28 = .ok (.iconst 1, 1) := by decide +kernel
theorem dX1_isWovenInMarked_29 : decode cX1_isWovenInMarked 29 = .ok (.ireturn, 1) := by decide +kernel
theorem dX1_isWovenInMarked_30 : decode cX1_isWovenInMarked 30 = .ok (.iinc 3 1, 3) := by decide +kernel
theorem dX1_isWovenInMarked_33 : decode cX1_isWovenInMarked 33 = .ok (.goto (-31), 3) := by decide +kernel
theorem dX1_isWovenInMarked_36 : decode cX1_isWovenInMarked 36 = .ok (.iconst 0, 1) := by decide +kernel
theorem dX1_isWovenInMarked_37 : decode cX1_isWovenInMarked 37 = .ok (.ireturn, 1) := by decide +kernel
theorem dX2_init_0 : decode cX2_init 0 = .ok (.aload_n 0, 1) := by decide +kernel
theorem dX2_init_1 : decode cX2_init 1 = .ok (.invokespecial 3, 3) := by decide +kernel
theorem dX2_init_4 : decode cX2_init 4 = .ok (.aload_n 0, 1) := by decide +kernel
theorem dX2_init_5 : decode cX2_init 5 = .ok (.iconst 4, 1) := by decide +kernel
theorem dX2_init_6 : decode cX2_init 6 = .ok (.newarray .int, 2) := by decide +kernel
theorem dX2_init_8 : decode cX2_init 8 = .ok (.putfield 9, 3) := by decide +kernel
theorem dX2_init_11 : decode cX2_init 11 = .ok (.aload_n 0, 1) := by decide +kernel
theorem dX2_init_12 : decode cX2_init 12 = .ok (.iconst 0, 1) := by decide +kernel
theorem dX2_init_13 : decode cX2_init 13 = .ok (.putfield 15, 3) := by decide +kernel
theorem dX2_init_16 : decode cX2_init 16 = .ok (.return_, 1) := by decide +kernel
theorem dX2_empty_0 : decode cX2_empty 0 = .ok (.aload_n 0, 1) := by decide +kernel
theorem dX2_empty_1 : decode cX2_empty 1 = .ok (.iconst 0, 1) := by decide +kernel
theorem dX2_empty_2 : decode cX2_empty 2 = .ok (.putfield 15, 3) := by decide +kernel
theorem dX2_empty_5 : decode cX2_empty 5 = .ok (.return_, 1) := by decide +kernel
theorem dX2_pass_0 : decode cX2_pass 0 = .ok (.iload_n 1, 1) := by decide +kernel
theorem dX2_pass_1 : decode cX2_pass 1 = .ok (.iconst (-1), 1) := by decide +kernel
theorem dX2_pass_2 : decode cX2_pass 2 = .ok (.if_icmp .eq 31, 3) := by decide +kernel
theorem dX2_pass_5 : decode cX2_pass 5 = .ok (.aload_n 0, 1) := by decide +kernel
theorem dX2_pass_6 : decode cX2_pass 6 = .ok (.getfield 15, 3) := by decide +kernel
theorem dX2_pass_9 : decode cX2_pass 9 = .ok (.iconst 4, 1) := by decide +kernel
theorem dX2_pass_10 : decode cX2_pass 10 = .ok (.if_icmp .ge 23, 3) := by decide +kernel
theorem dX2_pass_13 : decode cX2_pass 13 = .ok (.aload_n 0, 1) := by decide +kernel
theorem dX2_pass_14 : decode cX2_pass 14 = .ok (.getfield 9, 3) := by decide +kernel
theorem dX2_pass_17 : decode cX2_pass 17 = .ok (.aload_n 0, 1) := by decide +kernel
theorem dX2_pass_18 : decode cX2_pass 18 = .ok (.getfield 15, 3) := by decide +kernel
theorem dX2_pass_21 : decode cX2_pass 21 = .ok (.iload_n 1, 1) := by decide +kernel
theorem dX2_pass_22 : decode cX2_pass 22 = .ok (.iastore, 1) := by decide +kernel
theorem dX2_pass_23 : decode cX2_pass 23 = .ok (.aload_n 0, 1) := by decide +kernel
theorem dX2_pass_24 : decode cX2_pass 24 = .ok (.dup, 1) := by decide +kernel
end
section
theorem dX2_pass_25 : decode cX2_pass 25 = .ok (.getfield 15, 3) := by decide +kernel
theorem dX2_pass_28 : decode cX2_pass 28 = .ok (.iconst 1, 1) := by decide +kernel
theorem dX2_pass_29 : decode cX2_pass 29 = .ok (.iadd, 1) := by decide +kernel
theorem dX2_pass_30 : decode cX2_pass 30 = .ok (.putfield 15, 3) := by decide +kernel
theorem dX2_pass_33 : decode cX2_pass 33 = .ok (.return_, 1) := by decide +kernel
theorem dX2_threadNeeded_0 : decode cX2_threadNeeded 0 = .ok (.iconst 0, 1) := by decide +kernel
theorem dX2_threadNeeded_1 : decode cX2_threadNeeded 1 = .ok (.istore_n 3, 1) := by decide +kernel
theorem dX2_threadNeeded_2 : decode cX2_threadNeeded 2 = .ok (.iconst 0, 1) := by decide +kernel
theorem dX2_threadNeeded_3 : decode cX2_threadNeeded 3 = .ok (.istore 4, 2) := by decide +kernel
theorem dX2_threadNeeded_5 : decode cX2_threadNeeded 5 = .ok (.iload 4, 2) := by decide +kernel
theorem dX2_threadNeeded_7 : decode cX2_threadNeeded 7 = .ok (.aload_n 0, 1) := by decide +kernel
theorem dX2_threadNeeded_8 : decode cX2_threadNeeded 8 = .ok (.getfield 15, 3) := by decide +kernel
theorem dX2_threadNeeded_11 : decode cX2_threadNeeded 11 = .ok (.if_icmp .ge 26, 3) := by decide +kernel
theorem dX2_threadNeeded_14 : decode cX2_threadNeeded 14 = .ok (.iload_n 3, 1) := by decide +kernel
theorem dX2_threadNeeded_15 : decode cX2_threadNeeded 15 = .ok (.aload_n 1, 1) := by decide +kernel
theorem dX2_threadNeeded_16 : decode cX2_threadNeeded 16 = .ok (.getfield 19, 3) := by decide +kernel
theorem dX2_threadNeeded_19 : decode cX2_threadNeeded 19 = .ok (.aload_n 2, 1) := by decide +kernel
theorem dX2_threadNeeded_20 : decode cX2_threadNeeded 20 = .ok (.aload_n 0, 1) := by decide +kernel
theorem dX2_threadNeeded_21 : decode cX2_threadNeeded 21 = .ok (.getfield 9, 3) := by decide +kernel
theorem dX2_threadNeeded_24 : decode cX2_threadNeeded 24 = .ok (.iload 4, 2) := by decide +kernel
theorem dX2_threadNeeded_26 : decode cX2_threadNeeded 26 = .ok (.iaload, 1) := by decide +kernel
theorem dX2_threadNeeded_27 : decode cX2_threadNeeded 27 = .ok (.iaload, 1) := by decide +kernel
theorem dX2_threadNeeded_28 : decode cX2_threadNeeded 28 = .ok (.iaload, 1) := by decide +kernel
theorem dX2_threadNeeded_29 : decode cX2_threadNeeded 29 = .ok (.iadd, 1) := by decide +kernel
theorem dX2_threadNeeded_30 : decode cX2_threadNeeded 30 = .ok (.istore_n 3, 1) := by decide +kernel
theorem dX2_threadNeeded_31 : decode cX2_threadNeeded 31 = .ok (.iinc 4 1, 3) := by decide +kernel
theorem dX2_threadNeeded_34 : decode cX2_threadNeeded 34 = .ok (.goto (-29), 3) := by decide +kernel
theorem dX2_threadNeeded_37 : decode cX2_threadNeeded 37 = .ok (.iload_n 3, 1) := by decide +kernel
theorem dX2_threadNeeded_38 : decode cX2_threadNeeded 38 = .ok (.ireturn, 1) := by decide +kernel
set_option maxRecDepth 20000 in
theorem ggX2_fits_X2_passesUpTo : GoodIn wsX2_fits wsX2_passesUpTo := goodIn_r _ [8, 2, 9, 10] (by decide +kernel) (by decide +kernel)
set_option maxRecDepth 20000 in
theorem gX2_fits_X2_passesUpTo : GoodIn wsX2_fits (wsV RX2 24 RX2 yX2_passesUpTo wsX2_passesUpTo) := goodIn_app (goodIn_of _ (by decide +kernel)) ggX2_fits_X2_passesUpTo
theorem dX2_fits_0 : decode cX2_fits 0 = .ok (.iconst 0, 1) := by decide +kernel
theorem dX2_fits_1 : decode cX2_fits 1 = .ok (.istore 4, 2) := by decide +kernel
theorem dX2_fits_3 : decode cX2_fits 3 = .ok (.iload 4, 2) := by decide +kernel
theorem dX2_fits_5 : decode cX2_fits 5 = .ok (.aload_n 0, 1) := by decide +kernel
theorem dX2_fits_6 : decode cX2_fits 6 = .ok (.getfield 15, 3) := by decide +kernel
theorem dX2_fits_9 : decode cX2_fits 9 = .ok (.if_icmp .ge 43, 3) := by decide +kernel
theorem dX2_fits_12 : decode cX2_fits 12 = .ok (.aload_n 0, 1) := by decide +kernel
theorem dX2_fits_13 : decode cX2_fits 13 = .ok (.getfield 9, 3) := by decide +kernel
theorem dX2_fits_16 : decode cX2_fits 16 = .ok (.iload 4, 2) := by decide +kernel
theorem dX2_fits_18 : decode cX2_fits 18 = .ok (.iaload, 1) := by decide +kernel
theorem dX2_fits_19 : decode cX2_fits 19 = .ok (.istore 5, 2) := by decide +kernel
theorem dX2_fits_21 : decode cX2_fits 21 = .ok (.aload_n 3, 1) := by decide +kernel
theorem dX2_fits_22 : decode cX2_fits 22 = .ok (.iload 5, 2) := by decide +kernel
theorem dX2_fits_24 : decode cX2_fits 24 = .ok (.iaload, 1) := by decide +kernel
theorem dX2_fits_25 : decode cX2_fits 25 = .ok (.aload_n 0, 1) := by decide +kernel
theorem dX2_fits_26 : decode cX2_fits 26 = .ok (.iload 4, 2) := by decide +kernel
theorem dX2_fits_28 : decode cX2_fits 28 = .ok (.invokevirtual 24, 3) := by decide +kernel
theorem dX2_fits_31 : decode cX2_fits 31 = .ok (.iadd, 1) := by decide +kernel
theorem dX2_fits_32 : decode cX2_fits 32 = .ok (.aload_n 1, 1) := by decide +kernel
theorem dX2_fits_33 : decode cX2_fits 33 = .ok (.getfield 28, 3) := by decide +kernel
theorem dX2_fits_36 : decode cX2_fits 36 = .ok (.aload_n 2, 1) := by decide +kernel
theorem dX2_fits_37 : decode cX2_fits 37 = .ok (.iload 5, 2) := by decide +kernel
theorem dX2_fits_39 : decode cX2_fits 39 = .ok (.iaload, 1) := by decide +kernel
theorem dX2_fits_40 : decode cX2_fits 40 = .ok (.iaload, 1) := by decide +kernel
theorem dX2_fits_41 : decode cX2_fits 41 = .ok (.if_icmp .le 5, 3) := by decide +kernel
theorem dX2_fits_44 : decode cX2_fits 44 = .ok (.iconst 0, 1) := by decide +kernel
theorem dX2_fits_45 : decode cX2_fits 45 = .ok (.ireturn, 1) := by decide +kernel
theorem dX2_fits_46 : decode cX2_fits 46 = .ok (.iinc 4 1, 3) := by decide +kernel
theorem dX2_fits_49 : decode cX2_fits 49 = .ok (.goto (-46), 3) := by decide +kernel
theorem dX2_fits_52 : decode cX2_fits 52 = .ok (.iconst 1, 1) := by decide +kernel
theorem dX2_fits_53 : decode cX2_fits 53 = .ok (.ireturn, 1) := by decide +kernel
theorem dX2_passesUpTo_0 : decode cX2_passesUpTo 0 = .ok (.iconst 0, 1) := by decide +kernel
theorem dX2_passesUpTo_1 : decode cX2_passesUpTo 1 = .ok (.istore_n 2, 1) := by decide +kernel
theorem dX2_passesUpTo_2 : decode cX2_passesUpTo 2 = .ok (.iconst 0, 1) := by decide +kernel
theorem dX2_passesUpTo_3 : decode cX2_passesUpTo 3 = .ok (.istore_n 3, 1) := by decide +kernel
theorem dX2_passesUpTo_4 : decode cX2_passesUpTo 4 = .ok (.iload_n 3, 1) := by decide +kernel
theorem dX2_passesUpTo_5 : decode cX2_passesUpTo 5 = .ok (.iload_n 1, 1) := by decide +kernel
theorem dX2_passesUpTo_6 : decode cX2_passesUpTo 6 = .ok (.if_icmp .gt 27, 3) := by decide +kernel
theorem dX2_passesUpTo_9 : decode cX2_passesUpTo 9 = .ok (.aload_n 0, 1) := by decide +kernel
theorem dX2_passesUpTo_10 : decode cX2_passesUpTo 10 = .ok (.getfield 9, 3) := by decide +kernel
theorem dX2_passesUpTo_13 : decode cX2_passesUpTo 13 = .ok (.iload_n 3, 1) := by decide +kernel
theorem dX2_passesUpTo_14 : decode cX2_passesUpTo 14 = .ok (.iaload, 1) := by decide +kernel
theorem dX2_passesUpTo_15 : decode cX2_passesUpTo 15 = .ok (.aload_n 0, 1) := by decide +kernel
theorem dX2_passesUpTo_16 : decode cX2_passesUpTo 16 = .ok (.getfield 9, 3) := by decide +kernel
theorem dX2_passesUpTo_19 : decode cX2_passesUpTo 19 = .ok (.iload_n 1, 1) := by decide +kernel
theorem dX2_passesUpTo_20 : decode cX2_passesUpTo 20 = .ok (.iaload, 1) := by decide +kernel
theorem dX2_passesUpTo_21 : decode cX2_passesUpTo 21 = .ok (.if_icmp .ne 6, 3) := by decide +kernel
theorem dX2_passesUpTo_24 : decode cX2_passesUpTo 24 = .ok (.iinc 2 1, 3) := by decide +kernel
theorem dX2_passesUpTo_27 : decode cX2_passesUpTo 27 = .ok (.iinc 3 1, 3) := by decide +kernel
theorem dX2_passesUpTo_30 : decode cX2_passesUpTo 30 = .ok (.goto (-26), 3) := by decide +kernel
theorem dX2_passesUpTo_33 : decode cX2_passesUpTo 33 = .ok (.iload_n 2, 1) := by decide +kernel
theorem dX2_passesUpTo_34 : decode cX2_passesUpTo 34 = .ok (.ireturn, 1) := by decide +kernel
theorem dX2_countInto_0 : decode cX2_countInto 0 = .ok (.iconst 0, 1) := by decide +kernel
theorem dX2_countInto_1 : decode cX2_countInto 1 = .ok (.istore_n 2, 1) := by decide +kernel
theorem dX2_countInto_2 : decode cX2_countInto 2 = .ok (.iload_n 2, 1) := by decide +kernel
theorem dX2_countInto_3 : decode cX2_countInto 3 = .ok (.aload_n 0, 1) := by decide +kernel
theorem dX2_countInto_4 : decode cX2_countInto 4 = .ok (.getfield 15, 3) := by decide +kernel
theorem dX2_countInto_7 : decode cX2_countInto 7 = .ok (.if_icmp .ge 21, 3) := by decide +kernel
theorem dX2_countInto_10 : decode cX2_countInto 10 = .ok (.aload_n 1, 1) := by decide +kernel
theorem dX2_countInto_11 : decode cX2_countInto 11 = .ok (.aload_n 0, 1) := by decide +kernel
theorem dX2_countInto_12 : decode cX2_countInto 12 = .ok (.getfield 9, 3) := by decide +kernel
theorem dX2_countInto_15 : decode cX2_countInto 15 = .ok (.iload_n 2, 1) := by decide +kernel
theorem dX2_countInto_16 : decode cX2_countInto 16 = .ok (.iaload, 1) := by decide +kernel
theorem dX2_countInto_17 : decode cX2_countInto 17 = .ok (.dup2, 1) := by decide +kernel
theorem dX2_countInto_18 : decode cX2_countInto 18 = .ok (.iaload, 1) := by decide +kernel
theorem dX2_countInto_19 : decode cX2_countInto 19 = .ok (.iconst 1, 1) := by decide +kernel
theorem dX2_countInto_20 : decode cX2_countInto 20 = .ok (.iadd, 1) := by decide +kernel
theorem dX2_countInto_21 : decode cX2_countInto 21 = .ok (.iastore, 1) := by decide +kernel
theorem dX2_countInto_22 : decode cX2_countInto 22 = .ok (.iinc 2 1, 3) := by decide +kernel
theorem dX2_countInto_25 : decode cX2_countInto 25 = .ok (.goto (-23), 3) := by decide +kernel
theorem dX2_countInto_28 : decode cX2_countInto 28 = .ok (.return_, 1) := by decide +kernel
set_option maxRecDepth 20000 in
theorem ggX3_init_X2_init : GoodIn wsX3_init wsX2_init := goodIn_r _ [28, 29, 2, 3, 4, 30, 31, 55, 56] (by decide +kernel) (by decide +kernel)
set_option maxRecDepth 20000 in
theorem gX3_init_X2_init_n41 : GoodIn wsX3_init (wsX2_init) := ggX3_init_X2_init
set_option maxRecDepth 20000 in
theorem ggX3_init_J7_fill_53178 : GoodIn wsX3_init wsJ7_fill_53178 := goodIn_r _ [35] (by decide +kernel) (by decide +kernel)
set_option maxRecDepth 20000 in
theorem gX3_init_J7_fill_53178 : GoodIn wsX3_init (va_wsS RX3 75 yJ7_fill_53178 wsJ7_fill_53178) := goodIn_app (goodIn_of _ (by decide +kernel)) ggX3_init_J7_fill_53178
theorem dX3_init_0 : decode cX3_init 0 = .ok (.aload_n 0, 1) := by decide +kernel
theorem dX3_init_1 : decode cX3_init 1 = .ok (.invokespecial 3, 3) := by decide +kernel
theorem dX3_init_4 : decode cX3_init 4 = .ok (.aload_n 0, 1) := by decide +kernel
theorem dX3_init_5 : decode cX3_init 5 = .ok (.sipush 144, 3) := by decide +kernel
theorem dX3_init_8 : decode cX3_init 8 = .ok (.newarray .int, 2) := by decide +kernel
theorem dX3_init_10 : decode cX3_init 10 = .ok (.putfield 9, 3) := by decide +kernel
theorem dX3_init_13 : decode cX3_init 13 = .ok (.aload_n 0, 1) := by decide +kernel
theorem dX3_init_14 : decode cX3_init 14 = .ok (.sipush 144, 3) := by decide +kernel
theorem dX3_init_17 : decode cX3_init 17 = .ok (.newarray .int, 2) := by decide +kernel
theorem dX3_init_19 : decode cX3_init 19 = .ok (.putfield 15, 3) := by decide +kernel
theorem dX3_init_22 : decode cX3_init 22 = .ok (.aload_n 0, 1) := by decide +kernel
theorem dX3_init_23 : decode cX3_init 23 = .ok (.sipush 144, 3) := by decide +kernel
theorem dX3_init_26 : decode cX3_init 26 = .ok (.newarray .int, 2) := by decide +kernel
theorem dX3_init_28 : decode cX3_init 28 = .ok (.putfield 18, 3) := by decide +kernel
theorem dX3_init_31 : decode cX3_init 31 = .ok (.aload_n 0, 1) := by decide +kernel
theorem dX3_init_32 : decode cX3_init 32 = .ok (.sipush 144, 3) := by decide +kernel
theorem dX3_init_35 : decode cX3_init 35 = .ok (.newarray .int, 2) := by decide +kernel
theorem dX3_init_37 : decode cX3_init 37 = .ok (.putfield 21, 3) := by decide +kernel
theorem dX3_init_40 : decode cX3_init 40 = .ok (.aload_n 0, 1) := by decide +kernel
theorem dX3_init_41 : decode cX3_init 41 = .ok (.sipush 144, 3) := by decide +kernel
theorem dX3_init_44 : decode cX3_init 44 = .ok (.newarray .int, 2) := by decide +kernel
theorem dX3_init_46 : decode cX3_init 46 = .ok (.putfield 24, 3) := by decide +kernel
theorem dX3_init_49 : decode cX3_init 49 = .ok (.aload_n 0, 1) := by decide +kernel
theorem dX3_init_50 : decode cX3_init 50 = .ok (.sipush 144, 3) := by decide +kernel
theorem dX3_init_53 : decode cX3_init 53 = .ok (.newarray .int, 2) := by decide +kernel
theorem dX3_init_55 : decode cX3_init 55 = .ok (.putfield 27, 3) := by decide +kernel
theorem dX3_init_58 : decode cX3_init 58 = .ok (.aload_n 0, 1) := by decide +kernel
theorem dX3_init_59 : decode cX3_init 59 = .ok (.sipush 144, 3) := by decide +kernel
theorem dX3_init_62 : decode cX3_init 62 = .ok (.newarray .int, 2) := by decide +kernel
theorem dX3_init_64 : decode cX3_init 64 = .ok (.putfield 30, 3) := by decide +kernel
theorem dX3_init_67 : decode cX3_init 67 = .ok (.aload_n 0, 1) := by decide +kernel
theorem dX3_init_68 : decode cX3_init 68 = .ok (.sipush 864, 3) := by decide +kernel
theorem dX3_init_71 : decode cX3_init 71 = .ok (.newarray .int, 2) := by decide +kernel
theorem dX3_init_73 : decode cX3_init 73 = .ok (.putfield 33, 3) := by decide +kernel
theorem dX3_init_76 : decode cX3_init 76 = .ok (.aload_n 0, 1) := by decide +kernel
theorem dX3_init_77 : decode cX3_init 77 = .ok (.bipush 6, 2) := by decide +kernel
theorem dX3_init_79 : decode cX3_init 79 = .ok (.newarray .int, 2) := by decide +kernel
theorem dX3_init_81 : decode cX3_init 81 = .ok (.putfield 36, 3) := by decide +kernel
theorem dX3_init_84 : decode cX3_init 84 = .ok (.aload_n 0, 1) := by decide +kernel
theorem dX3_init_85 : decode cX3_init 85 = .ok (.new 39, 3) := by decide +kernel
theorem dX3_init_88 : decode cX3_init 88 = .ok (.dup, 1) := by decide +kernel
theorem dX3_init_89 : decode cX3_init 89 = .ok (.invokespecial 41, 3) := by decide +kernel
theorem dX3_init_92 : decode cX3_init 92 = .ok (.putfield 42, 3) := by decide +kernel
theorem dX3_init_95 : decode cX3_init 95 = .ok (.aload_n 0, 1) := by decide +kernel
theorem dX3_init_96 : decode cX3_init 96 = .ok (.iconst 0, 1) := by decide +kernel
theorem dX3_init_97 : decode cX3_init 97 = .ok (.putfield 46, 3) := by decide +kernel
theorem dX3_init_100 : decode cX3_init 100 = .ok (.aload_n 0, 1) := by decide +kernel
theorem dX3_init_101 : decode cX3_init 101 = .ok (.iconst 0, 1) := by decide +kernel
theorem dX3_init_102 : decode cX3_init 102 = .ok (.putfield 50, 3) := by decide +kernel
theorem dX3_init_105 : decode cX3_init 105 = .ok (.aload_n 0, 1) := by decide +kernel
theorem dX3_init_106 : decode cX3_init 106 = .ok (.iconst 0, 1) := by decide +kernel
theorem dX3_init_107 : decode cX3_init 107 = .ok (.putfield 54, 3) := by decide +kernel
theorem dX3_init_110 : decode cX3_init 110 = .ok (.aload_n 0, 1) := by decide +kernel
theorem dX3_init_111 : decode cX3_init 111 = .ok (.iconst (-1), 1) := by decide +kernel
theorem dX3_init_112 : decode cX3_init 112 = .ok (.putfield 57, 3) := by decide +kernel
theorem dX3_init_115 : decode cX3_init 115 = .ok (.aload_n 0, 1) := by decide +kernel
theorem dX3_init_116 : decode cX3_init 116 = .ok (.iconst 0, 1) := by decide +kernel
theorem dX3_init_117 : decode cX3_init 117 = .ok (.putfield 60, 3) := by decide +kernel
theorem dX3_init_120 : decode cX3_init 120 = .ok (.aload_n 0, 1) := by decide +kernel
theorem dX3_init_121 : decode cX3_init 121 = .ok (.iconst 0, 1) := by decide +kernel
theorem dX3_init_122 : decode cX3_init 122 = .ok (.putfield 63, 3) := by decide +kernel
theorem dX3_init_125 : decode cX3_init 125 = .ok (.aload_n 0, 1) := by decide +kernel
theorem dX3_init_126 : decode cX3_init 126 = .ok (.iconst 0, 1) := by decide +kernel
theorem dX3_init_127 : decode cX3_init 127 = .ok (.putfield 66, 3) := by decide +kernel
theorem dX3_init_130 : decode cX3_init 130 = .ok (.aload_n 0, 1) := by decide +kernel
theorem dX3_init_131 : decode cX3_init 131 = .ok (.iconst 0, 1) := by decide +kernel
theorem dX3_init_132 : decode cX3_init 132 = .ok (.putfield 69, 3) := by decide +kernel
theorem dX3_init_135 : decode cX3_init 135 = .ok (.aload_n 0, 1) := by decide +kernel
theorem dX3_init_136 : decode cX3_init 136 = .ok (.iconst 0, 1) := by decide +kernel
theorem dX3_init_137 : decode cX3_init 137 = .ok (.putfield 72, 3) := by decide +kernel
theorem dX3_init_140 : decode cX3_init 140 = .ok (.aload_n 0, 1) := by decide +kernel
theorem dX3_init_141 : decode cX3_init 141 = .ok (.getfield 30, 3) := by decide +kernel
theorem dX3_init_144 : decode cX3_init 144 = .ok (.iconst (-1), 1) := by decide +kernel
theorem dX3_init_145 : decode cX3_init 145 = .ok (.invokestatic 75, 3) := by decide +kernel
theorem dX3_init_148 : decode cX3_init 148 = .ok (.return_, 1) := by decide +kernel
theorem dX3_has_0 : decode cX3_has 0 = .ok (.iload_n 1, 1) := by decide +kernel
theorem dX3_has_1 : decode cX3_has 1 = .ok (.ifCond .lt 15, 3) := by decide +kernel
theorem dX3_has_4 : decode cX3_has 4 = .ok (.iload_n 1, 1) := by decide +kernel
theorem dX3_has_5 : decode cX3_has 5 = .ok (.aload_n 0, 1) := by decide +kernel
theorem dX3_has_6 : decode cX3_has 6 = .ok (.getfield 50, 3) := by decide +kernel
theorem dX3_has_9 : decode cX3_has 9 = .ok (.if_icmp .ge 7, 3) := by decide +kernel
theorem dX3_has_12 : decode cX3_has 12 = .ok (.iconst 1, 1) := by decide +kernel
theorem dX3_has_13 : decode cX3_has 13 = .ok (.goto 4, 3) := by decide +kernel
theorem dX3_has_16 : decode cX3_has 16 = .ok (.iconst 0, 1) := by decide +kernel
theorem dX3_has_17 : decode cX3_has 17 = .ok (.ireturn, 1) := by decide +kernel
theorem dX3_isCheaperThan_0 : decode cX3_isCheaperThan 0 = .ok (.aload_n 0, 1) := by decide +kernel
theorem dX3_isCheaperThan_1 : decode cX3_isCheaperThan 1 = .ok (.getfield 60, 3) := by decide +kernel
theorem dX3_isCheaperThan_4 : decode cX3_isCheaperThan 4 = .ok (.aload_n 1, 1) := by decide +kernel
theorem dX3_isCheaperThan_5 : decode cX3_isCheaperThan 5 = .ok (.getfield 60, 3) := by decide +kernel
theorem dX3_isCheaperThan_8 : decode cX3_isCheaperThan 8 = .ok (.if_icmp .lt 25, 3) := by decide +kernel
theorem dX3_isCheaperThan_11 : decode cX3_isCheaperThan 11 = .ok (.aload_n 0, 1) := by decide +kernel
theorem dX3_isCheaperThan_12 : decode cX3_isCheaperThan 12 = .ok (.getfield 60, 3) := by decide +kernel
theorem dX3_isCheaperThan_15 : decode cX3_isCheaperThan 15 = .ok (.aload_n 1, 1) := by decide +kernel
theorem dX3_isCheaperThan_16 : decode cX3_isCheaperThan 16 = .ok (.getfield 60, 3) := by decide +kernel
theorem dX3_isCheaperThan_19 : decode cX3_isCheaperThan 19 = .ok (.if_icmp .ne 18, 3) := by decide +kernel
theorem dX3_isCheaperThan_22 : decode cX3_isCheaperThan 22 = .ok (.aload_n 0, 1) := by decide +kernel
theorem dX3_isCheaperThan_23 : decode cX3_isCheaperThan 23 = .ok (.getfield 63, 3) := by decide +kernel
theorem dX3_isCheaperThan_26 : decode cX3_isCheaperThan 26 = .ok (.aload_n 1, 1) := by decide +kernel
theorem dX3_isCheaperThan_27 : decode cX3_isCheaperThan 27 = .ok (.getfield 63, 3) := by decide +kernel
theorem dX3_isCheaperThan_30 : decode cX3_isCheaperThan 30 = .ok (.if_icmp .ge 7, 3) := by decide +kernel
theorem dX3_isCheaperThan_33 : decode cX3_isCheaperThan 33 = .ok (.iconst 1, 1) := by decide +kernel
theorem dX3_isCheaperThan_34 : decode cX3_isCheaperThan 34 = .ok (.goto 4, 3) := by decide +kernel
theorem dX3_isCheaperThan_37 : decode cX3_isCheaperThan 37 = .ok (.iconst 0, 1) := by decide +kernel
theorem dX3_isCheaperThan_38 : decode cX3_isCheaperThan 38 = .ok (.ireturn, 1) := by decide +kernel
set_option maxRecDepth 20000 in
theorem ggX3_pickAt_X4_isCell : GoodIn wsX3_pickAt wsX4_isCell := goodIn_r _ [4, 5, 6, 3, 7] (by decide +kernel) (by decide +kernel)
set_option maxRecDepth 20000 in
theorem gX3_pickAt_X4_isCell_n81 : GoodIn wsX3_pickAt (wsX4_isCell) := ggX3_pickAt_X4_isCell
theorem dX3_pickAt_0 : decode cX3_pickAt 0 = .ok (.iload_n 1, 1) := by decide +kernel
theorem dX3_pickAt_1 : decode cX3_pickAt 1 = .ok (.iload_n 2, 1) := by decide +kernel
theorem dX3_pickAt_2 : decode cX3_pickAt 2 = .ok (.invokestatic 81, 3) := by decide +kernel
theorem dX3_pickAt_5 : decode cX3_pickAt 5 = .ok (.ifCond .eq 17, 3) := by decide +kernel
theorem dX3_pickAt_8 : decode cX3_pickAt 8 = .ok (.aload_n 0, 1) := by decide +kernel
theorem dX3_pickAt_9 : decode cX3_pickAt 9 = .ok (.getfield 30, 3) := by decide +kernel
theorem dX3_pickAt_12 : decode cX3_pickAt 12 = .ok (.iload_n 1, 1) := by decide +kernel
theorem dX3_pickAt_13 : decode cX3_pickAt 13 = .ok (.bipush 12, 2) := by decide +kernel
theorem dX3_pickAt_15 : decode cX3_pickAt 15 = .ok (.imul, 1) := by decide +kernel
theorem dX3_pickAt_16 : decode cX3_pickAt 16 = .ok (.iload_n 2, 1) := by decide +kernel
theorem dX3_pickAt_17 : decode cX3_pickAt 17 = .ok (.iadd, 1) := by decide +kernel
theorem dX3_pickAt_18 : decode cX3_pickAt 18 = .ok (.iaload, 1) := by decide +kernel
theorem dX3_pickAt_19 : decode cX3_pickAt 19 = .ok (.goto 4, 3) := by decide +kernel
theorem dX3_pickAt_22 : decode cX3_pickAt 22 = .ok (.iconst (-1), 1) := by decide +kernel
theorem dX3_pickAt_23 : decode cX3_pickAt 23 = .ok (.ireturn, 1) := by decide +kernel
theorem dX3_caughtCount_0 : decode cX3_caughtCount 0 = .ok (.aload_n 0, 1) := by decide +kernel
theorem dX3_caughtCount_1 : decode cX3_caughtCount 1 = .ok (.getfield 24, 3) := by decide +kernel
theorem dX3_caughtCount_4 : decode cX3_caughtCount 4 = .ok (.iload_n 1, 1) := by decide +kernel
theorem dX3_caughtCount_5 : decode cX3_caughtCount 5 = .ok (.iaload, 1) := by decide +kernel
theorem dX3_caughtCount_6 : decode cX3_caughtCount 6 = .ok (.iconst (-1), 1) := by decide +kernel
theorem dX3_caughtCount_7 : decode cX3_caughtCount 7 = .ok (.if_icmp .ne 7, 3) := by decide +kernel
theorem dX3_caughtCount_10 : decode cX3_caughtCount 10 = .ok (.iconst 0, 1) := by decide +kernel
theorem dX3_caughtCount_11 : decode cX3_caughtCount 11 = .ok (.goto 4, 3) := by decide +kernel
theorem dX3_caughtCount_14 : decode cX3_caughtCount 14 = .ok (.iconst 1, 1) := by decide +kernel
theorem dX3_caughtCount_15 : decode cX3_caughtCount 15 = .ok (.aload_n 0, 1) := by decide +kernel
theorem dX3_caughtCount_16 : decode cX3_caughtCount 16 = .ok (.getfield 27, 3) := by decide +kernel
theorem dX3_caughtCount_19 : decode cX3_caughtCount 19 = .ok (.iload_n 1, 1) := by decide +kernel
theorem dX3_caughtCount_20 : decode cX3_caughtCount 20 = .ok (.iaload, 1) := by decide +kernel
theorem dX3_caughtCount_21 : decode cX3_caughtCount 21 = .ok (.iconst (-1), 1) := by decide +kernel
theorem dX3_caughtCount_22 : decode cX3_caughtCount 22 = .ok (.if_icmp .ne 7, 3) := by decide +kernel
theorem dX3_caughtCount_25 : decode cX3_caughtCount 25 = .ok (.iconst 0, 1) := by decide +kernel
theorem dX3_caughtCount_26 : decode cX3_caughtCount 26 = .ok (.goto 4, 3) := by decide +kernel
theorem dX3_caughtCount_29 : decode cX3_caughtCount 29 = .ok (.iconst 1, 1) := by decide +kernel
theorem dX3_caughtCount_30 : decode cX3_caughtCount 30 = .ok (.iadd, 1) := by decide +kernel
theorem dX3_caughtCount_31 : decode cX3_caughtCount 31 = .ok (.ireturn, 1) := by decide +kernel
theorem dX3_wovenIn_0 : decode cX3_wovenIn 0 = .ok (.iload_n 1, 1) := by decide +kernel
theorem dX3_wovenIn_1 : decode cX3_wovenIn 1 = .ok (.iconst 1, 1) := by decide +kernel
theorem dX3_wovenIn_2 : decode cX3_wovenIn 2 = .ok (.if_icmp .lt 23, 3) := by decide +kernel
theorem dX3_wovenIn_5 : decode cX3_wovenIn 5 = .ok (.iload_n 1, 1) := by decide +kernel
theorem dX3_wovenIn_6 : decode cX3_wovenIn 6 = .ok (.aload_n 0, 1) := by decide +kernel
theorem dX3_wovenIn_7 : decode cX3_wovenIn 7 = .ok (.getfield 60, 3) := by decide +kernel
theorem dX3_wovenIn_10 : decode cX3_wovenIn 10 = .ok (.if_icmp .ge 15, 3) := by decide +kernel
theorem dX3_wovenIn_13 : decode cX3_wovenIn 13 = .ok (.iload_n 2, 1) := by decide +kernel
theorem dX3_wovenIn_14 : decode cX3_wovenIn 14 = .ok (.ifCond .lt 11, 3) := by decide +kernel
theorem dX3_wovenIn_17 : decode cX3_wovenIn 17 = .ok (.iload_n 2, 1) := by decide +kernel
theorem dX3_wovenIn_18 : decode cX3_wovenIn 18 = .ok (.aload_n 0, 1) := by decide +kernel
theorem dX3_wovenIn_19 : decode cX3_wovenIn 19 = .ok (.getfield 72, 3) := by decide +kernel
theorem dX3_wovenIn_22 : decode cX3_wovenIn 22 = .ok (.if_icmp .lt 5, 3) := by decide +kernel
theorem dX3_wovenIn_25 : decode cX3_wovenIn 25 = .ok (.iconst (-1), 1) := by decide +kernel
theorem dX3_wovenIn_26 : decode cX3_wovenIn 26 = .ok (.ireturn, 1) := by decide +kernel
theorem dX3_wovenIn_27 : decode cX3_wovenIn 27 = .ok (.aload_n 0, 1) := by decide +kernel
theorem dX3_wovenIn_28 : decode cX3_wovenIn 28 = .ok (.getfield 33, 3) := by decide +kernel
theorem dX3_wovenIn_31 : decode cX3_wovenIn 31 = .ok (.iload_n 1, 1) := by decide +kernel
theorem dX3_wovenIn_32 : decode cX3_wovenIn 32 = .ok (.bipush 6, 2) := by decide +kernel
theorem dX3_wovenIn_34 : decode cX3_wovenIn 34 = .ok (.imul, 1) := by decide +kernel
theorem dX3_wovenIn_35 : decode cX3_wovenIn 35 = .ok (.iload_n 2, 1) := by decide +kernel
theorem dX3_wovenIn_36 : decode cX3_wovenIn 36 = .ok (.iadd, 1) := by decide +kernel
theorem dX3_wovenIn_37 : decode cX3_wovenIn 37 = .ok (.iaload, 1) := by decide +kernel
theorem dX3_wovenIn_38 : decode cX3_wovenIn 38 = .ok (.ireturn, 1) := by decide +kernel
set_option maxRecDepth 20000 in
theorem ggX3_follow_X3_startAnew : GoodIn wsX3_follow wsX3_startAnew := goodIn_r _ [8, 9, 10, 2, 1, 11, 12, 13, 14, 15, 16, 17, 18, 19, 20, 21, 157, 158, 159, 160, 161, 162, 163, 164, 165, 166, 167, 168, 169, 170, 171, 172, 173, 174, 175, 176, 177, 178, 179, 180, 181, 182, 183] (by decide +kernel) (by decide +kernel)
set_option maxRecDepth 20000 in
theorem gX3_follow_X3_startAnew : GoodIn wsX3_follow (wsV RX3 85 RX3 yX3_startAnew wsX3_startAnew) := goodIn_app (goodIn_of _ (by decide +kernel)) ggX3_follow_X3_startAnew
set_option maxRecDepth 20000 in
theorem ggX3_follow_X0_beadsInRow : GoodIn wsX3_follow wsX0_beadsInRow := goodIn_r _ [26, 27, 28, 29, 25, 30, 31, 32, 33, 34, 35, 36, 37, 176, 177, 178, 179, 180, 181, 182, 183] (by decide +kernel) (by decide +kernel)
set_option maxRecDepth 20000 in
theorem gX3_follow_X0_beadsInRow : GoodIn wsX3_follow (wsV RX3 89 RX0 yX0_beadsInRow wsX0_beadsInRow) := goodIn_app (goodIn_of _ (by decide +kernel)) ggX3_follow_X0_beadsInRow
set_option maxRecDepth 20000 in
theorem ggX3_follow_X3_followRow : GoodIn wsX3_follow wsX3_followRow := goodIn_r _ [41, 2, 1, 3, 22, 23, 24, 25, 26, 27, 28, 29, 30, 31, 32, 33, 34, 35, 36, 37, 42, 43, 44, 45, 7, 46, 47, 48, 49, 50, 51, 52, 53, 54, 55, 56, 57, 58, 59, 60, 61, 62, 63, 64, 65, 66, 67, 68, 69, 70, 71, 72, 73, 74, 75, 76, 77, 9, 78, 79, 80, 81, 82, 83, 84, 85, 86, 87, 88, 89, 90, 91, 92, 93, 94, 95, 96, 97, 98, 99, 100, 101, 102, 103, 104, 105, 106, 107, 108, 11, 109, 110, 111, 112, 113, 114, 115, 116, 117, 118, 12, 14, 119, 120, 121, 122, 123, 124, 125, 126, 127, 17, 128, 15, 129, 130, 131, 132, 133, 134, 135, 136, 137, 138, 139, 140, 141, 142, 143, 144, 145, 146, 147, 148, 149, 150, 151, 152, 13, 153, 154, 155, 156, 157, 158, 159, 160, 161, 162, 163, 164, 165, 166, 167, 168, 169, 170, 171, 172, 173, 174, 175, 176, 177, 178, 179, 180, 181, 182, 183, 184, 185] (by decide +kernel) (by decide +kernel)
set_option maxRecDepth 20000 in
theorem gX3_follow_X3_followRow : GoodIn wsX3_follow (wsV RX3 95 RX3 yX3_followRow wsX3_followRow) := goodIn_app (goodIn_of _ (by decide +kernel)) ggX3_follow_X3_followRow
theorem dX3_follow_0 : decode cX3_follow 0 = .ok (.aload_n 0, 1) := by decide +kernel
theorem dX3_follow_1 : decode cX3_follow 1 = .ok (.aload_n 1, 1) := by decide +kernel
theorem dX3_follow_2 : decode cX3_follow 2 = .ok (.invokevirtual 85, 3) := by decide +kernel
theorem dX3_follow_5 : decode cX3_follow 5 = .ok (.iload_n 2, 1) := by decide +kernel
theorem dX3_follow_6 : decode cX3_follow 6 = .ok (.iconst 2, 1) := by decide +kernel
theorem dX3_follow_7 : decode cX3_follow 7 = .ok (.if_icmp .ge 7, 3) := by decide +kernel
theorem dX3_follow_10 : decode cX3_follow 10 = .ok (.iconst 1, 1) := by decide +kernel
theorem dX3_follow_11 : decode cX3_follow 11 = .ok (.goto 4, 3) := by decide +kernel
theorem dX3_follow_14 : decode cX3_follow 14 = .ok (.iconst 0, 1) := by decide +kernel
theorem dX3_follow_15 : decode cX3_follow 15 = .ok (.istore_n 3, 1) := by decide +kernel
theorem dX3_follow_16 : decode cX3_follow 16 = .ok (.iload_n 2, 1) := by decide +kernel
theorem dX3_follow_17 : decode cX3_follow 17 = .ok (.iconst 2, 1) := by decide +kernel
theorem dX3_follow_18 : decode cX3_follow 18 = .ok (.irem, 1) := by decide +kernel
theorem dX3_follow_19 : decode cX3_follow 19 = .ok (.ifCond .ne 7, 3) := by decide +kernel
theorem dX3_follow_22 : decode cX3_follow 22 = .ok (.iconst 1, 1) := by decide +kernel
theorem dX3_follow_23 : decode cX3_follow 23 = .ok (.goto 4, 3) := by decide +kernel
theorem dX3_follow_26 : decode cX3_follow 26 = .ok (.iconst 0, 1) := by decide +kernel
theorem dX3_follow_27 : decode cX3_follow 27 = .ok (.istore 4, 2) := by decide +kernel
theorem dX3_follow_29 : decode cX3_follow 29 = .ok (.iconst (-1), 1) := by decide +kernel
theorem dX3_follow_30 : decode cX3_follow 30 = .ok (.istore 5, 2) := by decide +kernel
theorem dX3_follow_32 : decode cX3_follow 32 = .ok (.iconst 0, 1) := by decide +kernel
theorem dX3_follow_33 : decode cX3_follow 33 = .ok (.istore 6, 2) := by decide +kernel
theorem dX3_follow_35 : decode cX3_follow 35 = .ok (.iload 6, 2) := by decide +kernel
theorem dX3_follow_37 : decode cX3_follow 37 = .ok (.bipush 12, 2) := by decide +kernel
theorem dX3_follow_39 : decode cX3_follow 39 = .ok (.if_icmp .ge 101, 3) := by decide +kernel
theorem dX3_follow_42 : decode cX3_follow 42 = .ok (.aload_n 0, 1) := by decide +kernel
theorem dX3_follow_43 : decode cX3_follow 43 = .ok (.getfield 54, 3) := by decide +kernel
theorem dX3_follow_46 : decode cX3_follow 46 = .ok (.ifCond .ne 94, 3) := by decide +kernel
theorem dX3_follow_49 : decode cX3_follow 49 = .ok (.iload_n 3, 1) := by decide +kernel
theorem dX3_follow_50 : decode cX3_follow 50 = .ok (.ifCond .eq 8, 3) := by decide +kernel
theorem dX3_follow_53 : decode cX3_follow 53 = .ok (.iload 6, 2) := by decide +kernel
theorem dX3_follow_55 : decode cX3_follow 55 = .ok (.goto 8, 3) := by decide +kernel
theorem dX3_follow_58 : decode cX3_follow 58 = .ok (.bipush 11, 2) := by decide +kernel
theorem dX3_follow_60 : decode cX3_follow 60 = .ok (.iload 6, 2) := by decide +kernel
theorem dX3_follow_62 : decode cX3_follow 62 = .ok (.isub, 1) := by decide +kernel
theorem dX3_follow_63 : decode cX3_follow 63 = .ok (.istore 7, 2) := by decide +kernel
theorem dX3_follow_65 : decode cX3_follow 65 = .ok (.aload_n 1, 1) := by decide +kernel
theorem dX3_follow_66 : decode cX3_follow 66 = .ok (.iload 7, 2) := by decide +kernel
theorem dX3_follow_68 : decode cX3_follow 68 = .ok (.invokevirtual 89, 3) := by decide +kernel
theorem dX3_follow_71 : decode cX3_follow 71 = .ok (.ifCond .le 63, 3) := by decide +kernel
theorem dX3_follow_74 : decode cX3_follow 74 = .ok (.aload_n 0, 1) := by decide +kernel
theorem dX3_follow_75 : decode cX3_follow 75 = .ok (.getfield 50, 3) := by decide +kernel
theorem dX3_follow_78 : decode cX3_follow 78 = .ok (.istore 8, 2) := by decide +kernel
theorem dX3_follow_80 : decode cX3_follow 80 = .ok (.aload_n 0, 1) := by decide +kernel
theorem dX3_follow_81 : decode cX3_follow 81 = .ok (.aload_n 1, 1) := by decide +kernel
theorem dX3_follow_82 : decode cX3_follow 82 = .ok (.iload 7, 2) := by decide +kernel
theorem dX3_follow_84 : decode cX3_follow 84 = .ok (.iload_n 3, 1) := by decide +kernel
theorem dX3_follow_85 : decode cX3_follow 85 = .ok (.ifCond .eq 10, 3) := by decide +kernel
theorem dX3_follow_88 : decode cX3_follow 88 = .ok (.iload 7, 2) := by decide +kernel
theorem dX3_follow_90 : decode cX3_follow 90 = .ok (.iconst 1, 1) := by decide +kernel
theorem dX3_follow_91 : decode cX3_follow 91 = .ok (.isub, 1) := by decide +kernel
theorem dX3_follow_92 : decode cX3_follow 92 = .ok (.goto 7, 3) := by decide +kernel
theorem dX3_follow_95 : decode cX3_follow 95 = .ok (.iload 7, 2) := by decide +kernel
theorem dX3_follow_97 : decode cX3_follow 97 = .ok (.iconst 1, 1) := by decide +kernel
theorem dX3_follow_98 : decode cX3_follow 98 = .ok (.iadd, 1) := by decide +kernel
theorem dX3_follow_99 : decode cX3_follow 99 = .ok (.iload 4, 2) := by decide +kernel
theorem dX3_follow_101 : decode cX3_follow 101 = .ok (.iload 5, 2) := by decide +kernel
theorem dX3_follow_103 : decode cX3_follow 103 = .ok (.invokevirtual 95, 3) := by decide +kernel
theorem dX3_follow_106 : decode cX3_follow 106 = .ok (.iload 8, 2) := by decide +kernel
theorem dX3_follow_108 : decode cX3_follow 108 = .ok (.istore 5, 2) := by decide +kernel
theorem dX3_follow_110 : decode cX3_follow 110 = .ok (.aload_n 1, 1) := by decide +kernel
theorem dX3_follow_111 : decode cX3_follow 111 = .ok (.getfield 99, 3) := by decide +kernel
theorem dX3_follow_114 : decode cX3_follow 114 = .ok (.ifCond .ne 16, 3) := by decide +kernel
theorem dX3_follow_117 : decode cX3_follow 117 = .ok (.iload 4, 2) := by decide +kernel
theorem dX3_follow_119 : decode cX3_follow 119 = .ok (.ifCond .ne 7, 3) := by decide +kernel
theorem dX3_follow_122 : decode cX3_follow 122 = .ok (.iconst 1, 1) := by decide +kernel
theorem dX3_follow_123 : decode cX3_follow 123 = .ok (.goto 9, 3) := by decide +kernel
theorem dX3_follow_126 : decode cX3_follow 126 = .ok (.iconst 0, 1) := by decide +kernel
theorem dX3_follow_127 : decode cX3_follow 127 = .ok (.goto 5, 3) := by decide +kernel
theorem dX3_follow_130 : decode cX3_follow 130 = .ok (.iload 4, 2) := by decide +kernel
theorem dX3_follow_132 : decode cX3_follow 132 = .ok (.istore 4, 2) := by decide +kernel
theorem dX3_follow_134 : decode cX3_follow 134 = .ok (.iinc 6 1, 3) := by decide +kernel
theorem dX3_follow_137 : decode cX3_follow 137 = .ok (.goto (-102), 3) := by decide +kernel
theorem dX3_follow_140 : decode cX3_follow 140 = .ok (.return_, 1) := by decide +kernel
set_option maxRecDepth 20000 in
theorem ggX3_startAnew_J7_fill_53178 : GoodIn wsX3_startAnew wsJ7_fill_53178 := goodIn_r _ [15] (by decide +kernel) (by decide +kernel)
set_option maxRecDepth 20000 in
theorem gX3_startAnew_J7_fill_53178 : GoodIn wsX3_startAnew (va_wsS RX3 75 yJ7_fill_53178 wsJ7_fill_53178) := goodIn_app (goodIn_of _ (by decide +kernel)) ggX3_startAnew_J7_fill_53178
theorem dX3_startAnew_0 : decode cX3_startAnew 0 = .ok (.aload_n 0, 1) := by decide +kernel
theorem dX3_startAnew_1 : decode cX3_startAnew 1 = .ok (.getfield 30, 3) := by decide +kernel
theorem dX3_startAnew_4 : decode cX3_startAnew 4 = .ok (.iconst (-1), 1) := by decide +kernel
theorem dX3_startAnew_5 : decode cX3_startAnew 5 = .ok (.invokestatic 75, 3) := by decide +kernel
theorem dX3_startAnew_8 : decode cX3_startAnew 8 = .ok (.aload_n 0, 1) := by decide +kernel
theorem dX3_startAnew_9 : decode cX3_startAnew 9 = .ok (.iconst 1, 1) := by decide +kernel
theorem dX3_startAnew_10 : decode cX3_startAnew 10 = .ok (.putfield 46, 3) := by decide +kernel
theorem dX3_startAnew_13 : decode cX3_startAnew 13 = .ok (.aload_n 0, 1) := by decide +kernel
theorem dX3_startAnew_14 : decode cX3_startAnew 14 = .ok (.iconst 0, 1) := by decide +kernel
theorem dX3_startAnew_15 : decode cX3_startAnew 15 = .ok (.putfield 50, 3) := by decide +kernel
theorem dX3_startAnew_18 : decode cX3_startAnew 18 = .ok (.aload_n 0, 1) := by decide +kernel
theorem dX3_startAnew_19 : decode cX3_startAnew 19 = .ok (.iconst 0, 1) := by decide +kernel
theorem dX3_startAnew_20 : decode cX3_startAnew 20 = .ok (.putfield 54, 3) := by decide +kernel
theorem dX3_startAnew_23 : decode cX3_startAnew 23 = .ok (.aload_n 0, 1) := by decide +kernel
theorem dX3_startAnew_24 : decode cX3_startAnew 24 = .ok (.iconst (-1), 1) := by decide +kernel
theorem dX3_startAnew_25 : decode cX3_startAnew 25 = .ok (.putfield 57, 3) := by decide +kernel
theorem dX3_startAnew_28 : decode cX3_startAnew 28 = .ok (.aload_n 0, 1) := by decide +kernel
theorem dX3_startAnew_29 : decode cX3_startAnew 29 = .ok (.iconst 0, 1) := by decide +kernel
theorem dX3_startAnew_30 : decode cX3_startAnew 30 = .ok (.putfield 60, 3) := by decide +kernel
theorem dX3_startAnew_33 : decode cX3_startAnew 33 = .ok (.aload_n 0, 1) := by decide +kernel
theorem dX3_startAnew_34 : decode cX3_startAnew 34 = .ok (.iconst 0, 1) := by decide +kernel
theorem dX3_startAnew_35 : decode cX3_startAnew 35 = .ok (.putfield 63, 3) := by decide +kernel
theorem dX3_startAnew_38 : decode cX3_startAnew 38 = .ok (.aload_n 0, 1) := by decide +kernel
theorem dX3_startAnew_39 : decode cX3_startAnew 39 = .ok (.iconst 0, 1) := by decide +kernel
theorem dX3_startAnew_40 : decode cX3_startAnew 40 = .ok (.putfield 66, 3) := by decide +kernel
theorem dX3_startAnew_43 : decode cX3_startAnew 43 = .ok (.aload_n 0, 1) := by decide +kernel
theorem dX3_startAnew_44 : decode cX3_startAnew 44 = .ok (.iconst 0, 1) := by decide +kernel
theorem dX3_startAnew_45 : decode cX3_startAnew 45 = .ok (.putfield 69, 3) := by decide +kernel
theorem dX3_startAnew_48 : decode cX3_startAnew 48 = .ok (.aload_n 0, 1) := by decide +kernel
theorem dX3_startAnew_49 : decode cX3_startAnew 49 = .ok (.aload_n 1, 1) := by decide +kernel
theorem dX3_startAnew_50 : decode cX3_startAnew 50 = .ok (.getfield 102, 3) := by decide +kernel
theorem dX3_startAnew_53 : decode cX3_startAnew 53 = .ok (.putfield 72, 3) := by decide +kernel
theorem dX3_startAnew_56 : decode cX3_startAnew 56 = .ok (.return_, 1) := by decide +kernel
set_option maxRecDepth 20000 in
theorem ggX3_followRow_X0_beadsInRow : GoodIn wsX3_followRow wsX0_beadsInRow := goodIn_r _ [8, 9, 10, 11, 7, 12, 13, 14, 15, 16, 17, 18, 19, 162, 163, 164, 165, 166, 167, 168, 169] (by decide +kernel) (by decide +kernel)
set_option maxRecDepth 20000 in
theorem gX3_followRow_X0_beadsInRow : GoodIn wsX3_followRow (wsV RX3 89 RX0 yX0_beadsInRow wsX0_beadsInRow) := goodIn_app (goodIn_of _ (by decide +kernel)) ggX3_followRow_X0_beadsInRow
set_option maxRecDepth 20000 in
theorem ggX3_followRow_X0_colourAt : GoodIn wsX3_followRow wsX0_colourAt := goodIn_r _ [12, 13, 14, 15, 16, 17, 18, 19, 162, 163, 164, 165, 166, 167, 168, 169] (by decide +kernel) (by decide +kernel)
set_option maxRecDepth 20000 in
theorem gX3_followRow_X0_colourAt : GoodIn wsX3_followRow (wsV RX3 103 RX0 yX0_colourAt wsX0_colourAt) := goodIn_app (goodIn_of _ (by decide +kernel)) ggX3_followRow_X0_colourAt
set_option maxRecDepth 20000 in
theorem ggX3_followRow_X3_layOut : GoodIn wsX3_followRow wsX3_layOut := goodIn_r _ [25, 1, 26, 27, 28, 29, 30, 20, 10, 11, 7, 12, 13, 14, 15, 16, 17, 18, 19, 31, 32, 33, 34, 35, 36, 37, 38, 39, 40, 41, 42, 43, 44, 45, 46, 47, 48, 49, 50, 51, 52, 53, 54, 55, 24, 56, 57, 58, 59, 60, 61, 62, 63, 64, 143, 144, 145, 146, 147, 148, 149, 150, 151, 152, 153, 154, 155, 156, 157, 158, 159, 160, 161, 162, 163, 164, 165, 166, 167, 168, 169] (by decide +kernel) (by decide +kernel)
set_option maxRecDepth 20000 in
theorem gX3_followRow_X3_layOut : GoodIn wsX3_followRow (wsV RX3 107 RX3 yX3_layOut wsX3_layOut) := goodIn_app (goodIn_of _ (by decide +kernel)) ggX3_followRow_X3_layOut
set_option maxRecDepth 20000 in
theorem ggX3_followRow_X3_gatherInFirstRow : GoodIn wsX3_followRow wsX3_gatherInFirstRow := goodIn_r _ [68, 1, 69, 70, 71, 72, 73, 74, 75, 76, 77, 78, 79, 80, 143, 144, 145, 146, 147, 148, 149, 150, 151, 152, 153, 154, 155, 156, 157, 158, 159, 160, 161, 170, 171] (by decide +kernel) (by decide +kernel)
set_option maxRecDepth 20000 in
theorem gX3_followRow_X3_gatherInFirstRow : GoodIn wsX3_followRow (wsV RX3 111 RX3 yX3_gatherInFirstRow wsX3_gatherInFirstRow) := goodIn_app (goodIn_of _ (by decide +kernel)) ggX3_followRow_X3_gatherInFirstRow
set_option maxRecDepth 20000 in
theorem ggX3_followRow_X3_gatherInLaterRow : GoodIn wsX3_followRow wsX3_gatherInLaterRow := goodIn_r _ [84, 1, 69, 29, 30, 70, 71, 72, 73, 74, 75, 76, 77, 78, 79, 80, 143, 144, 145, 146, 147, 148, 149, 150, 151, 152, 153, 154, 155, 156, 157, 158, 159, 160, 161, 170, 171] (by decide +kernel) (by decide +kernel)
set_option maxRecDepth 20000 in
theorem gX3_followRow_X3_gatherInLaterRow : GoodIn wsX3_followRow (wsV RX3 115 RX3 yX3_gatherInLaterRow wsX3_gatherInLaterRow) := goodIn_app (goodIn_of _ (by decide +kernel)) ggX3_followRow_X3_gatherInLaterRow
set_option maxRecDepth 20000 in
theorem ggX3_followRow_X3_doStep : GoodIn wsX3_followRow wsX3_doStep := goodIn_r _ [88, 69, 27, 2, 26, 1, 89, 90, 91, 92, 73, 93, 75, 94, 80, 95, 96, 97, 24, 98, 99, 100, 101, 28, 102, 103, 104, 105, 29, 30, 106, 107, 108, 109, 110, 111, 112, 113, 114, 115, 116, 117, 118, 119, 120, 121, 122, 123, 124, 125, 126, 127, 128, 129, 130, 131, 132, 133, 134, 135, 136, 57, 137, 138, 139, 140, 141, 142, 143, 144, 145, 146, 147, 148, 149, 150, 151, 152, 153, 154, 155, 156, 157, 158, 159, 160, 161, 170, 171, 162, 163, 164, 165, 166, 167, 168, 169] (by decide +kernel) (by decide +kernel)
set_option maxRecDepth 20000 in
theorem gX3_followRow_X3_doStep : GoodIn wsX3_followRow (wsV RX3 119 RX3 yX3_doStep wsX3_doStep) := goodIn_app (goodIn_of _ (by decide +kernel)) ggX3_followRow_X3_doStep
theorem dX3_followRow_0 : decode cX3_followRow 0 = .ok (.aload_n 0, 1) := by decide +kernel
theorem dX3_followRow_1 : decode cX3_followRow 1 = .ok (.getfield 50, 3) := by decide +kernel
theorem dX3_followRow_4 : decode cX3_followRow 4 = .ok (.istore 6, 2) := by decide +kernel
theorem dX3_followRow_6 : decode cX3_followRow 6 = .ok (.iload 6, 2) := by decide +kernel
theorem dX3_followRow_8 : decode cX3_followRow 8 = .ok (.aload_n 1, 1) := by decide +kernel
theorem dX3_followRow_9 : decode cX3_followRow 9 = .ok (.iload_n 2, 1) := by decide +kernel
theorem dX3_followRow_10 : decode cX3_followRow 10 = .ok (.invokevirtual 89, 3) := by decide +kernel
theorem dX3_followRow_13 : decode cX3_followRow 13 = .ok (.iadd, 1) := by decide +kernel
theorem dX3_followRow_14 : decode cX3_followRow 14 = .ok (.iconst 1, 1) := by decide +kernel
theorem dX3_followRow_15 : decode cX3_followRow 15 = .ok (.isub, 1) := by decide +kernel
theorem dX3_followRow_16 : decode cX3_followRow 16 = .ok (.istore 7, 2) := by decide +kernel
theorem dX3_followRow_18 : decode cX3_followRow 18 = .ok (.iload 5, 2) := by decide +kernel
theorem dX3_followRow_20 : decode cX3_followRow 20 = .ok (.iconst (-1), 1) := by decide +kernel
theorem dX3_followRow_21 : decode cX3_followRow 21 = .ok (.if_icmp .ne 7, 3) := by decide +kernel
theorem dX3_followRow_24 : decode cX3_followRow 24 = .ok (.iconst 1, 1) := by decide +kernel
theorem dX3_followRow_25 : decode cX3_followRow 25 = .ok (.goto 4, 3) := by decide +kernel
theorem dX3_followRow_28 : decode cX3_followRow 28 = .ok (.iconst 0, 1) := by decide +kernel
theorem dX3_followRow_29 : decode cX3_followRow 29 = .ok (.istore 8, 2) := by decide +kernel
theorem dX3_followRow_31 : decode cX3_followRow 31 = .ok (.iconst 0, 1) := by decide +kernel
theorem dX3_followRow_32 : decode cX3_followRow 32 = .ok (.istore 9, 2) := by decide +kernel
theorem dX3_followRow_34 : decode cX3_followRow 34 = .ok (.iload 9, 2) := by decide +kernel
theorem dX3_followRow_36 : decode cX3_followRow 36 = .ok (.bipush 12, 2) := by decide +kernel
theorem dX3_followRow_38 : decode cX3_followRow 38 = .ok (.if_icmp .ge 147, 3) := by decide +kernel
theorem dX3_followRow_41 : decode cX3_followRow 41 = .ok (.aload_n 0, 1) := by decide +kernel
theorem dX3_followRow_42 : decode cX3_followRow 42 = .ok (.getfield 54, 3) := by decide +kernel
theorem dX3_followRow_45 : decode cX3_followRow 45 = .ok (.ifCond .ne 140, 3) := by decide +kernel
theorem dX3_followRow_48 : decode cX3_followRow 48 = .ok (.aload_n 0, 1) := by decide +kernel
theorem dX3_followRow_49 : decode cX3_followRow 49 = .ok (.getfield 50, 3) := by decide +kernel
theorem dX3_followRow_52 : decode cX3_followRow 52 = .ok (.sipush 144, 3) := by decide +kernel
theorem dX3_followRow_55 : decode cX3_followRow 55 = .ok (.if_icmp .ge 130, 3) := by decide +kernel
theorem dX3_followRow_58 : decode cX3_followRow 58 = .ok (.iload 4, 2) := by decide +kernel
theorem dX3_followRow_60 : decode cX3_followRow 60 = .ok (.ifCond .eq 8, 3) := by decide +kernel
theorem dX3_followRow_63 : decode cX3_followRow 63 = .ok (.iload 9, 2) := by decide +kernel
theorem dX3_followRow_65 : decode cX3_followRow 65 = .ok (.goto 8, 3) := by decide +kernel
theorem dX3_followRow_68 : decode cX3_followRow 68 = .ok (.bipush 11, 2) := by decide +kernel
theorem dX3_followRow_70 : decode cX3_followRow 70 = .ok (.iload 9, 2) := by decide +kernel
theorem dX3_followRow_72 : decode cX3_followRow 72 = .ok (.isub, 1) := by decide +kernel
theorem dX3_followRow_73 : decode cX3_followRow 73 = .ok (.istore 10, 2) := by decide +kernel
theorem dX3_followRow_75 : decode cX3_followRow 75 = .ok (.aload_n 1, 1) := by decide +kernel
theorem dX3_followRow_76 : decode cX3_followRow 76 = .ok (.iload_n 2, 1) := by decide +kernel
theorem dX3_followRow_77 : decode cX3_followRow 77 = .ok (.iload 10, 2) := by decide +kernel
theorem dX3_followRow_79 : decode cX3_followRow 79 = .ok (.invokevirtual 103, 3) := by decide +kernel
theorem dX3_followRow_82 : decode cX3_followRow 82 = .ok (.iconst (-1), 1) := by decide +kernel
theorem dX3_followRow_83 : decode cX3_followRow 83 = .ok (.if_icmp .eq 96, 3) := by decide +kernel
theorem dX3_followRow_86 : decode cX3_followRow 86 = .ok (.aload_n 0, 1) := by decide +kernel
theorem dX3_followRow_87 : decode cX3_followRow 87 = .ok (.aload_n 1, 1) := by decide +kernel
theorem dX3_followRow_88 : decode cX3_followRow 88 = .ok (.iload_n 2, 1) := by decide +kernel
theorem dX3_followRow_89 : decode cX3_followRow 89 = .ok (.iload 10, 2) := by decide +kernel
theorem dX3_followRow_91 : decode cX3_followRow 91 = .ok (.iload_n 3, 1) := by decide +kernel
theorem dX3_followRow_92 : decode cX3_followRow 92 = .ok (.invokevirtual 107, 3) := by decide +kernel
theorem dX3_followRow_95 : decode cX3_followRow 95 = .ok (.iload 8, 2) := by decide +kernel
theorem dX3_followRow_97 : decode cX3_followRow 97 = .ok (.ifCond .eq 24, 3) := by decide +kernel
theorem dX3_followRow_100 : decode cX3_followRow 100 = .ok (.aload_n 0, 1) := by decide +kernel
theorem dX3_followRow_101 : decode cX3_followRow 101 = .ok (.aload_n 1, 1) := by decide +kernel
theorem dX3_followRow_102 : decode cX3_followRow 102 = .ok (.getfield 99, 3) := by decide +kernel
theorem dX3_followRow_105 : decode cX3_followRow 105 = .ok (.ifCond .eq 7, 3) := by decide +kernel
theorem dX3_followRow_108 : decode cX3_followRow 108 = .ok (.iconst 1, 1) := by decide +kernel
theorem dX3_followRow_109 : decode cX3_followRow 109 = .ok (.goto 4, 3) := by decide +kernel
theorem dX3_followRow_112 : decode cX3_followRow 112 = .ok (.iconst 0, 1) := by decide +kernel
theorem dX3_followRow_113 : decode cX3_followRow 113 = .ok (.iload 7, 2) := by decide +kernel
theorem dX3_followRow_115 : decode cX3_followRow 115 = .ok (.invokevirtual 111, 3) := by decide +kernel
theorem dX3_followRow_118 : decode cX3_followRow 118 = .ok (.goto 54, 3) := by decide +kernel
theorem dX3_followRow_121 : decode cX3_followRow 121 = .ok (.aload_n 0, 1) := by decide +kernel
theorem dX3_followRow_122 : decode cX3_followRow 122 = .ok (.getfield 50, 3) := by decide +kernel
theorem dX3_followRow_125 : decode cX3_followRow 125 = .ok (.iload 6, 2) := by decide +kernel
theorem dX3_followRow_127 : decode cX3_followRow 127 = .ok (.if_icmp .ne 7, 3) := by decide +kernel
theorem dX3_followRow_130 : decode cX3_followRow 130 = .ok (.iconst 1, 1) := by decide +kernel
theorem dX3_followRow_131 : decode cX3_followRow 131 = .ok (.goto 4, 3) := by decide +kernel
theorem dX3_followRow_134 : decode cX3_followRow 134 = .ok (.iconst 0, 1) := by decide +kernel
theorem dX3_followRow_135 : decode cX3_followRow 135 = .ok (.istore 11, 2) := by decide +kernel
theorem dX3_followRow_137 : decode cX3_followRow 137 = .ok (.aload_n 1, 1) := by decide +kernel
theorem dX3_followRow_138 : decode cX3_followRow 138 = .ok (.getfield 99, 3) := by decide +kernel
theorem dX3_followRow_141 : decode cX3_followRow 141 = .ok (.ifCond .ne 12, 3) := by decide +kernel
theorem dX3_followRow_144 : decode cX3_followRow 144 = .ok (.aload_n 0, 1) := by decide +kernel
theorem dX3_followRow_145 : decode cX3_followRow 145 = .ok (.getfield 50, 3) := by decide +kernel
theorem dX3_followRow_148 : decode cX3_followRow 148 = .ok (.iconst 1, 1) := by decide +kernel
theorem dX3_followRow_149 : decode cX3_followRow 149 = .ok (.isub, 1) := by decide +kernel
theorem dX3_followRow_150 : decode cX3_followRow 150 = .ok (.goto 5, 3) := by decide +kernel
theorem dX3_followRow_153 : decode cX3_followRow 153 = .ok (.iload 5, 2) := by decide +kernel
theorem dX3_followRow_155 : decode cX3_followRow 155 = .ok (.istore 12, 2) := by decide +kernel
theorem dX3_followRow_157 : decode cX3_followRow 157 = .ok (.aload_n 0, 1) := by decide +kernel
theorem dX3_followRow_158 : decode cX3_followRow 158 = .ok (.iload 11, 2) := by decide +kernel
theorem dX3_followRow_160 : decode cX3_followRow 160 = .ok (.ifCond .eq 8, 3) := by decide +kernel
theorem dX3_followRow_163 : decode cX3_followRow 163 = .ok (.iload 12, 2) := by decide +kernel
theorem dX3_followRow_165 : decode cX3_followRow 165 = .ok (.goto 4, 3) := by decide +kernel
theorem dX3_followRow_168 : decode cX3_followRow 168 = .ok (.iconst (-1), 1) := by decide +kernel
theorem dX3_followRow_169 : decode cX3_followRow 169 = .ok (.invokevirtual 115, 3) := by decide +kernel
theorem dX3_followRow_172 : decode cX3_followRow 172 = .ok (.aload_n 0, 1) := by decide +kernel
theorem dX3_followRow_173 : decode cX3_followRow 173 = .ok (.aload_n 1, 1) := by decide +kernel
theorem dX3_followRow_174 : decode cX3_followRow 174 = .ok (.iload 8, 2) := by decide +kernel
theorem dX3_followRow_176 : decode cX3_followRow 176 = .ok (.invokevirtual 119, 3) := by decide +kernel
theorem dX3_followRow_179 : decode cX3_followRow 179 = .ok (.iinc 9 1, 3) := by decide +kernel
theorem dX3_followRow_182 : decode cX3_followRow 182 = .ok (.goto (-148), 3) := by decide +kernel
theorem dX3_followRow_185 : decode cX3_followRow 185 = .ok (.return_, 1) := by decide +kernel
set_option maxRecDepth 20000 in
theorem ggX3_layOut_X0_colourAt : GoodIn wsX3_layOut wsX0_colourAt := goodIn_r _ [11, 12, 13, 14, 15, 16, 17, 18, 73, 74, 75, 76, 77, 78, 79, 80] (by decide +kernel) (by decide +kernel)
set_option maxRecDepth 20000 in
theorem gX3_layOut_X0_colourAt : GoodIn wsX3_layOut (wsV RX3 103 RX0 yX0_colourAt wsX0_colourAt) := goodIn_app (goodIn_of _ (by decide +kernel)) ggX3_layOut_X0_colourAt
set_option maxRecDepth 20000 in
theorem ggX3_layOut_X0_lowerCatch : GoodIn wsX3_layOut wsX0_lowerCatch := goodIn_r _ [22, 23, 24, 25, 26, 27, 28, 29, 30, 10, 31, 32, 33, 34, 35, 36, 37, 38, 39, 40, 73, 74, 75, 76, 77, 78, 79, 80] (by decide +kernel) (by decide +kernel)
set_option maxRecDepth 20000 in
theorem gX3_layOut_X0_lowerCatch : GoodIn wsX3_layOut (wsV RX3 123 RX0 yX0_lowerCatch wsX0_lowerCatch) := goodIn_app (goodIn_of _ (by decide +kernel)) ggX3_layOut_X0_lowerCatch
set_option maxRecDepth 20000 in
theorem ggX3_layOut_X3_pickAt : GoodIn wsX3_layOut wsX3_pickAt := goodIn_r _ [45, 46, 13, 14, 15, 16, 17, 18, 54, 55, 56, 57, 58, 59, 60, 61, 62, 63, 64, 65, 66, 67, 68, 69, 70, 71, 72] (by decide +kernel) (by decide +kernel)
set_option maxRecDepth 20000 in
theorem gX3_layOut_X3_pickAt : GoodIn wsX3_layOut (wsV RX3 126 RX3 yX3_pickAt wsX3_pickAt) := goodIn_app (goodIn_of _ (by decide +kernel)) ggX3_layOut_X3_pickAt
set_option maxRecDepth 20000 in
theorem ggX3_layOut_X0_upperCatch : GoodIn wsX3_layOut wsX0_upperCatch := goodIn_r _ [50, 23, 51, 52, 26, 53, 28, 29, 30, 10, 31, 32, 33, 34, 35, 36, 37, 38, 39, 40, 73, 74, 75, 76, 77, 78, 79, 80] (by decide +kernel) (by decide +kernel)
set_option maxRecDepth 20000 in
theorem gX3_layOut_X0_upperCatch : GoodIn wsX3_layOut (wsV RX3 129 RX0 yX0_upperCatch wsX0_upperCatch) := goodIn_app (goodIn_of _ (by decide +kernel)) ggX3_layOut_X0_upperCatch
theorem dX3_layOut_0 : decode cX3_layOut 0 = .ok (.aload_n 0, 1) := by decide +kernel
theorem dX3_layOut_1 : decode cX3_layOut 1 = .ok (.getfield 50, 3) := by decide +kernel
theorem dX3_layOut_4 : decode cX3_layOut 4 = .ok (.istore 5, 2) := by decide +kernel
theorem dX3_layOut_6 : decode cX3_layOut 6 = .ok (.aload_n 0, 1) := by decide +kernel
theorem dX3_layOut_7 : decode cX3_layOut 7 = .ok (.getfield 9, 3) := by decide +kernel
theorem dX3_layOut_10 : decode cX3_layOut 10 = .ok (.iload 5, 2) := by decide +kernel
theorem dX3_layOut_12 : decode cX3_layOut 12 = .ok (.iload_n 2, 1) := by decide +kernel
theorem dX3_layOut_13 : decode cX3_layOut 13 = .ok (.bipush 12, 2) := by decide +kernel
theorem dX3_layOut_15 : decode cX3_layOut 15 = .ok (.imul, 1) := by decide +kernel
theorem dX3_layOut_16 : decode cX3_layOut 16 = .ok (.iload_n 3, 1) := by decide +kernel
theorem dX3_layOut_17 : decode cX3_layOut 17 = .ok (.iadd, 1) := by decide +kernel
theorem dX3_layOut_18 : decode cX3_layOut 18 = .ok (.iastore, 1) := by decide +kernel
theorem dX3_layOut_19 : decode cX3_layOut 19 = .ok (.aload_n 0, 1) := by decide +kernel
theorem dX3_layOut_20 : decode cX3_layOut 20 = .ok (.getfield 15, 3) := by decide +kernel
theorem dX3_layOut_23 : decode cX3_layOut 23 = .ok (.iload 5, 2) := by decide +kernel
theorem dX3_layOut_25 : decode cX3_layOut 25 = .ok (.aload_n 1, 1) := by decide +kernel
theorem dX3_layOut_26 : decode cX3_layOut 26 = .ok (.iload_n 2, 1) := by decide +kernel
theorem dX3_layOut_27 : decode cX3_layOut 27 = .ok (.iload_n 3, 1) := by decide +kernel
theorem dX3_layOut_28 : decode cX3_layOut 28 = .ok (.invokevirtual 103, 3) := by decide +kernel
theorem dX3_layOut_31 : decode cX3_layOut 31 = .ok (.iastore, 1) := by decide +kernel
theorem dX3_layOut_32 : decode cX3_layOut 32 = .ok (.aload_n 0, 1) := by decide +kernel
theorem dX3_layOut_33 : decode cX3_layOut 33 = .ok (.getfield 21, 3) := by decide +kernel
theorem dX3_layOut_36 : decode cX3_layOut 36 = .ok (.iload 5, 2) := by decide +kernel
theorem dX3_layOut_38 : decode cX3_layOut 38 = .ok (.iconst 0, 1) := by decide +kernel
end
section
theorem dX3_layOut_39 : decode cX3_layOut 39 = .ok (.iastore, 1) := by decide +kernel
theorem dX3_layOut_40 : decode cX3_layOut 40 = .ok (.aload_n 0, 1) := by decide +kernel
theorem dX3_layOut_41 : decode cX3_layOut 41 = .ok (.getfield 24, 3) := by decide +kernel
theorem dX3_layOut_44 : decode cX3_layOut 44 = .ok (.iload 5, 2) := by decide +kernel
theorem dX3_layOut_46 : decode cX3_layOut 46 = .ok (.aload_n 0, 1) := by decide +kernel
theorem dX3_layOut_47 : decode cX3_layOut 47 = .ok (.iload 4, 2) := by decide +kernel
theorem dX3_layOut_49 : decode cX3_layOut 49 = .ok (.aload_n 1, 1) := by decide +kernel
theorem dX3_layOut_50 : decode cX3_layOut 50 = .ok (.iload_n 2, 1) := by decide +kernel
theorem dX3_layOut_51 : decode cX3_layOut 51 = .ok (.iload_n 3, 1) := by decide +kernel
theorem dX3_layOut_52 : decode cX3_layOut 52 = .ok (.invokevirtual 123, 3) := by decide +kernel
theorem dX3_layOut_55 : decode cX3_layOut 55 = .ok (.invokevirtual 126, 3) := by decide +kernel
theorem dX3_layOut_58 : decode cX3_layOut 58 = .ok (.iastore, 1) := by decide +kernel
theorem dX3_layOut_59 : decode cX3_layOut 59 = .ok (.aload_n 0, 1) := by decide +kernel
theorem dX3_layOut_60 : decode cX3_layOut 60 = .ok (.getfield 27, 3) := by decide +kernel
theorem dX3_layOut_63 : decode cX3_layOut 63 = .ok (.iload 5, 2) := by decide +kernel
theorem dX3_layOut_65 : decode cX3_layOut 65 = .ok (.aload_n 0, 1) := by decide +kernel
theorem dX3_layOut_66 : decode cX3_layOut 66 = .ok (.iload 4, 2) := by decide +kernel
theorem dX3_layOut_68 : decode cX3_layOut 68 = .ok (.aload_n 1, 1) := by decide +kernel
theorem dX3_layOut_69 : decode cX3_layOut 69 = .ok (.iload_n 2, 1) := by decide +kernel
theorem dX3_layOut_70 : decode cX3_layOut 70 = .ok (.iload_n 3, 1) := by decide +kernel
theorem dX3_layOut_71 : decode cX3_layOut 71 = .ok (.invokevirtual 129, 3) := by decide +kernel
theorem dX3_layOut_74 : decode cX3_layOut 74 = .ok (.invokevirtual 126, 3) := by decide +kernel
theorem dX3_layOut_77 : decode cX3_layOut 77 = .ok (.iastore, 1) := by decide +kernel
theorem dX3_layOut_78 : decode cX3_layOut 78 = .ok (.return_, 1) := by decide +kernel
set_option maxRecDepth 20000 in
theorem ggX3_gatherInFirstRow_X2_empty : GoodIn wsX3_gatherInFirstRow wsX2_empty := goodIn_r _ [7, 8, 33, 34] (by decide +kernel) (by decide +kernel)
set_option maxRecDepth 20000 in
theorem gX3_gatherInFirstRow_X2_empty : GoodIn wsX3_gatherInFirstRow (wsV RX3 132 RX2 yX2_empty wsX2_empty) := goodIn_app (goodIn_of _ (by decide +kernel)) ggX3_gatherInFirstRow_X2_empty
set_option maxRecDepth 20000 in
theorem ggX3_gatherInFirstRow_X2_pass : GoodIn wsX3_gatherInFirstRow wsX2_pass := goodIn_r _ [12, 8, 13, 33, 34] (by decide +kernel) (by decide +kernel)
set_option maxRecDepth 20000 in
theorem gX3_gatherInFirstRow_X2_pass : GoodIn wsX3_gatherInFirstRow (wsV RX3 135 RX2 yX2_pass wsX2_pass) := goodIn_app (goodIn_of _ (by decide +kernel)) ggX3_gatherInFirstRow_X2_pass
theorem dX3_gatherInFirstRow_0 : decode cX3_gatherInFirstRow 0 = .ok (.aload_n 0, 1) := by decide +kernel
theorem dX3_gatherInFirstRow_1 : decode cX3_gatherInFirstRow 1 = .ok (.getfield 50, 3) := by decide +kernel
theorem dX3_gatherInFirstRow_4 : decode cX3_gatherInFirstRow 4 = .ok (.istore_n 3, 1) := by decide +kernel
theorem dX3_gatherInFirstRow_5 : decode cX3_gatherInFirstRow 5 = .ok (.aload_n 0, 1) := by decide +kernel
theorem dX3_gatherInFirstRow_6 : decode cX3_gatherInFirstRow 6 = .ok (.getfield 42, 3) := by decide +kernel
theorem dX3_gatherInFirstRow_9 : decode cX3_gatherInFirstRow 9 = .ok (.invokevirtual 132, 3) := by decide +kernel
theorem dX3_gatherInFirstRow_12 : decode cX3_gatherInFirstRow 12 = .ok (.aload_n 0, 1) := by decide +kernel
theorem dX3_gatherInFirstRow_13 : decode cX3_gatherInFirstRow 13 = .ok (.getfield 42, 3) := by decide +kernel
theorem dX3_gatherInFirstRow_16 : decode cX3_gatherInFirstRow 16 = .ok (.iload_n 3, 1) := by decide +kernel
theorem dX3_gatherInFirstRow_17 : decode cX3_gatherInFirstRow 17 = .ok (.invokevirtual 135, 3) := by decide +kernel
theorem dX3_gatherInFirstRow_20 : decode cX3_gatherInFirstRow 20 = .ok (.aload_n 0, 1) := by decide +kernel
theorem dX3_gatherInFirstRow_21 : decode cX3_gatherInFirstRow 21 = .ok (.getfield 42, 3) := by decide +kernel
theorem dX3_gatherInFirstRow_24 : decode cX3_gatherInFirstRow 24 = .ok (.iload_n 3, 1) := by decide +kernel
theorem dX3_gatherInFirstRow_25 : decode cX3_gatherInFirstRow 25 = .ok (.iconst 1, 1) := by decide +kernel
theorem dX3_gatherInFirstRow_26 : decode cX3_gatherInFirstRow 26 = .ok (.isub, 1) := by decide +kernel
theorem dX3_gatherInFirstRow_27 : decode cX3_gatherInFirstRow 27 = .ok (.invokevirtual 135, 3) := by decide +kernel
theorem dX3_gatherInFirstRow_30 : decode cX3_gatherInFirstRow 30 = .ok (.iload_n 1, 1) := by decide +kernel
theorem dX3_gatherInFirstRow_31 : decode cX3_gatherInFirstRow 31 = .ok (.ifCond .eq 21, 3) := by decide +kernel
theorem dX3_gatherInFirstRow_34 : decode cX3_gatherInFirstRow 34 = .ok (.iload_n 3, 1) := by decide +kernel
theorem dX3_gatherInFirstRow_35 : decode cX3_gatherInFirstRow 35 = .ok (.iload_n 2, 1) := by decide +kernel
theorem dX3_gatherInFirstRow_36 : decode cX3_gatherInFirstRow 36 = .ok (.if_icmp .ne 16, 3) := by decide +kernel
theorem dX3_gatherInFirstRow_39 : decode cX3_gatherInFirstRow 39 = .ok (.iload_n 2, 1) := by decide +kernel
theorem dX3_gatherInFirstRow_40 : decode cX3_gatherInFirstRow 40 = .ok (.iconst 2, 1) := by decide +kernel
theorem dX3_gatherInFirstRow_41 : decode cX3_gatherInFirstRow 41 = .ok (.if_icmp .lt 11, 3) := by decide +kernel
theorem dX3_gatherInFirstRow_44 : decode cX3_gatherInFirstRow 44 = .ok (.aload_n 0, 1) := by decide +kernel
theorem dX3_gatherInFirstRow_45 : decode cX3_gatherInFirstRow 45 = .ok (.getfield 42, 3) := by decide +kernel
theorem dX3_gatherInFirstRow_48 : decode cX3_gatherInFirstRow 48 = .ok (.iconst 0, 1) := by decide +kernel
theorem dX3_gatherInFirstRow_49 : decode cX3_gatherInFirstRow 49 = .ok (.invokevirtual 135, 3) := by decide +kernel
theorem dX3_gatherInFirstRow_52 : decode cX3_gatherInFirstRow 52 = .ok (.return_, 1) := by decide +kernel
set_option maxRecDepth 20000 in
theorem ggX3_gatherInLaterRow_X2_empty : GoodIn wsX3_gatherInLaterRow wsX2_empty := goodIn_r _ [9, 10, 35, 36] (by decide +kernel) (by decide +kernel)
set_option maxRecDepth 20000 in
theorem gX3_gatherInLaterRow_X2_empty : GoodIn wsX3_gatherInLaterRow (wsV RX3 132 RX2 yX2_empty wsX2_empty) := goodIn_app (goodIn_of _ (by decide +kernel)) ggX3_gatherInLaterRow_X2_empty
set_option maxRecDepth 20000 in
theorem ggX3_gatherInLaterRow_X2_pass : GoodIn wsX3_gatherInLaterRow wsX2_pass := goodIn_r _ [14, 10, 15, 35, 36] (by decide +kernel) (by decide +kernel)
set_option maxRecDepth 20000 in
theorem gX3_gatherInLaterRow_X2_pass : GoodIn wsX3_gatherInLaterRow (wsV RX3 135 RX2 yX2_pass wsX2_pass) := goodIn_app (goodIn_of _ (by decide +kernel)) ggX3_gatherInLaterRow_X2_pass
theorem dX3_gatherInLaterRow_0 : decode cX3_gatherInLaterRow 0 = .ok (.aload_n 0, 1) := by decide +kernel
theorem dX3_gatherInLaterRow_1 : decode cX3_gatherInLaterRow 1 = .ok (.getfield 50, 3) := by decide +kernel
theorem dX3_gatherInLaterRow_4 : decode cX3_gatherInLaterRow 4 = .ok (.istore_n 2, 1) := by decide +kernel
theorem dX3_gatherInLaterRow_5 : decode cX3_gatherInLaterRow 5 = .ok (.aload_n 0, 1) := by decide +kernel
theorem dX3_gatherInLaterRow_6 : decode cX3_gatherInLaterRow 6 = .ok (.getfield 42, 3) := by decide +kernel
theorem dX3_gatherInLaterRow_9 : decode cX3_gatherInLaterRow 9 = .ok (.invokevirtual 132, 3) := by decide +kernel
theorem dX3_gatherInLaterRow_12 : decode cX3_gatherInLaterRow 12 = .ok (.aload_n 0, 1) := by decide +kernel
theorem dX3_gatherInLaterRow_13 : decode cX3_gatherInLaterRow 13 = .ok (.getfield 42, 3) := by decide +kernel
theorem dX3_gatherInLaterRow_16 : decode cX3_gatherInLaterRow 16 = .ok (.iload_n 1, 1) := by decide +kernel
theorem dX3_gatherInLaterRow_17 : decode cX3_gatherInLaterRow 17 = .ok (.invokevirtual 135, 3) := by decide +kernel
theorem dX3_gatherInLaterRow_20 : decode cX3_gatherInLaterRow 20 = .ok (.aload_n 0, 1) := by decide +kernel
theorem dX3_gatherInLaterRow_21 : decode cX3_gatherInLaterRow 21 = .ok (.getfield 42, 3) := by decide +kernel
theorem dX3_gatherInLaterRow_24 : decode cX3_gatherInLaterRow 24 = .ok (.iload_n 2, 1) := by decide +kernel
theorem dX3_gatherInLaterRow_25 : decode cX3_gatherInLaterRow 25 = .ok (.invokevirtual 135, 3) := by decide +kernel
theorem dX3_gatherInLaterRow_28 : decode cX3_gatherInLaterRow 28 = .ok (.aload_n 0, 1) := by decide +kernel
theorem dX3_gatherInLaterRow_29 : decode cX3_gatherInLaterRow 29 = .ok (.getfield 42, 3) := by decide +kernel
theorem dX3_gatherInLaterRow_32 : decode cX3_gatherInLaterRow 32 = .ok (.aload_n 0, 1) := by decide +kernel
theorem dX3_gatherInLaterRow_33 : decode cX3_gatherInLaterRow 33 = .ok (.getfield 24, 3) := by decide +kernel
theorem dX3_gatherInLaterRow_36 : decode cX3_gatherInLaterRow 36 = .ok (.iload_n 2, 1) := by decide +kernel
theorem dX3_gatherInLaterRow_37 : decode cX3_gatherInLaterRow 37 = .ok (.iaload, 1) := by decide +kernel
theorem dX3_gatherInLaterRow_38 : decode cX3_gatherInLaterRow 38 = .ok (.invokevirtual 135, 3) := by decide +kernel
theorem dX3_gatherInLaterRow_41 : decode cX3_gatherInLaterRow 41 = .ok (.aload_n 0, 1) := by decide +kernel
theorem dX3_gatherInLaterRow_42 : decode cX3_gatherInLaterRow 42 = .ok (.getfield 42, 3) := by decide +kernel
theorem dX3_gatherInLaterRow_45 : decode cX3_gatherInLaterRow 45 = .ok (.aload_n 0, 1) := by decide +kernel
theorem dX3_gatherInLaterRow_46 : decode cX3_gatherInLaterRow 46 = .ok (.getfield 27, 3) := by decide +kernel
theorem dX3_gatherInLaterRow_49 : decode cX3_gatherInLaterRow 49 = .ok (.iload_n 2, 1) := by decide +kernel
theorem dX3_gatherInLaterRow_50 : decode cX3_gatherInLaterRow 50 = .ok (.iaload, 1) := by decide +kernel
theorem dX3_gatherInLaterRow_51 : decode cX3_gatherInLaterRow 51 = .ok (.invokevirtual 135, 3) := by decide +kernel
theorem dX3_gatherInLaterRow_54 : decode cX3_gatherInLaterRow 54 = .ok (.return_, 1) := by decide +kernel
set_option maxRecDepth 20000 in
theorem ggX3_doStep_X2_threadNeeded : GoodIn wsX3_doStep wsX2_threadNeeded := goodIn_r _ [11, 12, 13, 14, 87, 88, 89, 90, 91, 92, 93, 94, 95, 96] (by decide +kernel) (by decide +kernel)
set_option maxRecDepth 20000 in
theorem gX3_doStep_X2_threadNeeded : GoodIn wsX3_doStep (wsV RX3 138 RX2 yX2_threadNeeded wsX2_threadNeeded) := goodIn_app (goodIn_of _ (by decide +kernel)) ggX3_doStep_X2_threadNeeded
set_option maxRecDepth 20000 in
theorem ggX3_doStep_X3_faultAhead : GoodIn wsX3_doStep wsX3_faultAhead := goodIn_r _ [19, 5, 20, 21, 22, 1, 2, 23, 24, 25, 26, 18, 27, 28, 29, 30, 31, 32, 33, 34, 35, 36, 37, 38, 39, 40, 41, 42, 43, 44, 45, 46, 47, 48, 49, 10, 50, 12, 14, 51, 52, 53, 54, 55, 68, 69, 70, 71, 72, 73, 74, 75, 76, 77, 78, 79, 80, 81, 82, 83, 84, 85, 86, 89, 90, 91, 92, 93, 94, 95, 96, 87, 88] (by decide +kernel) (by decide +kernel)
set_option maxRecDepth 20000 in
theorem gX3_doStep_X3_faultAhead : GoodIn wsX3_doStep (wsV RX3 142 RX3 yX3_faultAhead wsX3_faultAhead) := goodIn_app (goodIn_of _ (by decide +kernel)) ggX3_doStep_X3_faultAhead
set_option maxRecDepth 20000 in
theorem ggX3_doStep_X3_pickUp : GoodIn wsX3_doStep wsX3_pickUp := goodIn_r _ [59, 21, 20, 22, 60, 5, 61, 4, 1, 23, 37, 62, 63, 64, 65, 66, 10, 67, 12, 14, 68, 69, 70, 71, 72, 73, 74, 75, 76, 77, 78, 79, 80, 81, 82, 83, 84, 85, 86, 89, 90, 91, 92, 93, 94, 95, 96, 87, 88] (by decide +kernel) (by decide +kernel)
set_option maxRecDepth 20000 in
theorem gX3_doStep_X3_pickUp : GoodIn wsX3_doStep (wsV RX3 146 RX3 yX3_pickUp wsX3_pickUp) := goodIn_app (goodIn_of _ (by decide +kernel)) ggX3_doStep_X3_pickUp
theorem dX3_doStep_0 : decode cX3_doStep 0 = .ok (.aload_n 0, 1) := by decide +kernel
theorem dX3_doStep_1 : decode cX3_doStep 1 = .ok (.getfield 42, 3) := by decide +kernel
theorem dX3_doStep_4 : decode cX3_doStep 4 = .ok (.aload_n 1, 1) := by decide +kernel
theorem dX3_doStep_5 : decode cX3_doStep 5 = .ok (.aload_n 0, 1) := by decide +kernel
theorem dX3_doStep_6 : decode cX3_doStep 6 = .ok (.getfield 15, 3) := by decide +kernel
theorem dX3_doStep_9 : decode cX3_doStep 9 = .ok (.invokevirtual 138, 3) := by decide +kernel
theorem dX3_doStep_12 : decode cX3_doStep 12 = .ok (.istore_n 3, 1) := by decide +kernel
theorem dX3_doStep_13 : decode cX3_doStep 13 = .ok (.aload_n 0, 1) := by decide +kernel
theorem dX3_doStep_14 : decode cX3_doStep 14 = .ok (.aload_n 0, 1) := by decide +kernel
theorem dX3_doStep_15 : decode cX3_doStep 15 = .ok (.aload_n 1, 1) := by decide +kernel
theorem dX3_doStep_16 : decode cX3_doStep 16 = .ok (.iload_n 3, 1) := by decide +kernel
theorem dX3_doStep_17 : decode cX3_doStep 17 = .ok (.iload_n 2, 1) := by decide +kernel
theorem dX3_doStep_18 : decode cX3_doStep 18 = .ok (.invokevirtual 142, 3) := by decide +kernel
theorem dX3_doStep_21 : decode cX3_doStep 21 = .ok (.putfield 54, 3) := by decide +kernel
theorem dX3_doStep_24 : decode cX3_doStep 24 = .ok (.aload_n 0, 1) := by decide +kernel
theorem dX3_doStep_25 : decode cX3_doStep 25 = .ok (.getfield 54, 3) := by decide +kernel
theorem dX3_doStep_28 : decode cX3_doStep 28 = .ok (.ifCond .ne 12, 3) := by decide +kernel
theorem dX3_doStep_31 : decode cX3_doStep 31 = .ok (.aload_n 0, 1) := by decide +kernel
theorem dX3_doStep_32 : decode cX3_doStep 32 = .ok (.aload_n 1, 1) := by decide +kernel
theorem dX3_doStep_33 : decode cX3_doStep 33 = .ok (.iload_n 3, 1) := by decide +kernel
theorem dX3_doStep_34 : decode cX3_doStep 34 = .ok (.invokevirtual 146, 3) := by decide +kernel
theorem dX3_doStep_37 : decode cX3_doStep 37 = .ok (.goto 16, 3) := by decide +kernel
theorem dX3_doStep_40 : decode cX3_doStep 40 = .ok (.aload_n 0, 1) := by decide +kernel
theorem dX3_doStep_41 : decode cX3_doStep 41 = .ok (.aload_n 0, 1) := by decide +kernel
theorem dX3_doStep_42 : decode cX3_doStep 42 = .ok (.getfield 9, 3) := by decide +kernel
theorem dX3_doStep_45 : decode cX3_doStep 45 = .ok (.aload_n 0, 1) := by decide +kernel
theorem dX3_doStep_46 : decode cX3_doStep 46 = .ok (.getfield 50, 3) := by decide +kernel
theorem dX3_doStep_49 : decode cX3_doStep 49 = .ok (.iaload, 1) := by decide +kernel
theorem dX3_doStep_50 : decode cX3_doStep 50 = .ok (.putfield 57, 3) := by decide +kernel
theorem dX3_doStep_53 : decode cX3_doStep 53 = .ok (.return_, 1) := by decide +kernel
set_option maxRecDepth 20000 in
theorem ggX3_faultAhead_X3_caughtCount : GoodIn wsX3_faultAhead wsX3_caughtCount := goodIn_r _ [12, 13, 14, 44, 45, 46, 47, 48, 49, 50, 51, 52, 53, 54, 55, 56, 57, 58, 59, 60, 61, 62] (by decide +kernel) (by decide +kernel)
set_option maxRecDepth 20000 in
theorem gX3_faultAhead_X3_caughtCount : GoodIn wsX3_faultAhead (wsV RX3 150 RX3 yX3_caughtCount wsX3_caughtCount) := goodIn_app (goodIn_of _ (by decide +kernel)) ggX3_faultAhead_X3_caughtCount
set_option maxRecDepth 20000 in
theorem ggX3_faultAhead_X3_join : GoodIn wsX3_faultAhead wsX3_join := goodIn_r _ [18, 19, 20, 3, 21, 22, 2, 4, 23, 24, 25, 11, 26, 1, 7, 27, 6, 28, 29, 30, 31, 44, 45, 46, 47, 48, 49, 50, 51, 52, 53, 54, 55, 56, 57, 58, 59, 60, 61, 62, 63, 64, 65, 66, 67, 68, 69, 70] (by decide +kernel) (by decide +kernel)
set_option maxRecDepth 20000 in
theorem gX3_faultAhead_X3_join : GoodIn wsX3_faultAhead (wsV RX3 156 RX3 yX3_join wsX3_join) := goodIn_app (goodIn_of _ (by decide +kernel)) ggX3_faultAhead_X3_join
set_option maxRecDepth 20000 in
theorem ggX3_faultAhead_X2_fits : GoodIn wsX3_faultAhead wsX2_fits := goodIn_r _ [36, 37, 38, 39, 40, 41, 42, 35, 43, 71, 72, 63, 64, 65, 66, 67, 68, 69, 70] (by decide +kernel) (by decide +kernel)
set_option maxRecDepth 20000 in
theorem gX3_faultAhead_X2_fits : GoodIn wsX3_faultAhead (wsV RX3 160 RX2 yX2_fits wsX2_fits) := goodIn_app (goodIn_of _ (by decide +kernel)) ggX3_faultAhead_X2_fits
theorem dX3_faultAhead_0 : decode cX3_faultAhead 0 = .ok (.iload_n 3, 1) := by decide +kernel
theorem dX3_faultAhead_1 : decode cX3_faultAhead 1 = .ok (.ifCond .ne 16, 3) := by decide +kernel
theorem dX3_faultAhead_4 : decode cX3_faultAhead 4 = .ok (.aload_n 0, 1) := by decide +kernel
theorem dX3_faultAhead_5 : decode cX3_faultAhead 5 = .ok (.aload_n 0, 1) := by decide +kernel
theorem dX3_faultAhead_6 : decode cX3_faultAhead 6 = .ok (.getfield 50, 3) := by decide +kernel
theorem dX3_faultAhead_9 : decode cX3_faultAhead 9 = .ok (.invokevirtual 150, 3) := by decide +kernel
theorem dX3_faultAhead_12 : decode cX3_faultAhead 12 = .ok (.ifCond .ne 5, 3) := by decide +kernel
theorem dX3_faultAhead_15 : decode cX3_faultAhead 15 = .ok (.iconst 1, 1) := by decide +kernel
theorem dX3_faultAhead_16 : decode cX3_faultAhead 16 = .ok (.ireturn, 1) := by decide +kernel
theorem dX3_faultAhead_17 : decode cX3_faultAhead 17 = .ok (.iload_n 2, 1) := by decide +kernel
theorem dX3_faultAhead_18 : decode cX3_faultAhead 18 = .ok (.aload_n 1, 1) := by decide +kernel
theorem dX3_faultAhead_19 : decode cX3_faultAhead 19 = .ok (.getfield 153, 3) := by decide +kernel
theorem dX3_faultAhead_22 : decode cX3_faultAhead 22 = .ok (.if_icmp .le 5, 3) := by decide +kernel
theorem dX3_faultAhead_25 : decode cX3_faultAhead 25 = .ok (.iconst 3, 1) := by decide +kernel
theorem dX3_faultAhead_26 : decode cX3_faultAhead 26 = .ok (.ireturn, 1) := by decide +kernel
theorem dX3_faultAhead_27 : decode cX3_faultAhead 27 = .ok (.aload_n 0, 1) := by decide +kernel
theorem dX3_faultAhead_28 : decode cX3_faultAhead 28 = .ok (.getfield 60, 3) := by decide +kernel
theorem dX3_faultAhead_31 : decode cX3_faultAhead 31 = .ok (.ifCond .le 21, 3) := by decide +kernel
theorem dX3_faultAhead_34 : decode cX3_faultAhead 34 = .ok (.aload_n 0, 1) := by decide +kernel
theorem dX3_faultAhead_35 : decode cX3_faultAhead 35 = .ok (.getfield 66, 3) := by decide +kernel
theorem dX3_faultAhead_38 : decode cX3_faultAhead 38 = .ok (.iload_n 2, 1) := by decide +kernel
theorem dX3_faultAhead_39 : decode cX3_faultAhead 39 = .ok (.if_icmp .ge 13, 3) := by decide +kernel
theorem dX3_faultAhead_42 : decode cX3_faultAhead 42 = .ok (.aload_n 0, 1) := by decide +kernel
theorem dX3_faultAhead_43 : decode cX3_faultAhead 43 = .ok (.aload_n 1, 1) := by decide +kernel
theorem dX3_faultAhead_44 : decode cX3_faultAhead 44 = .ok (.invokevirtual 156, 3) := by decide +kernel
theorem dX3_faultAhead_47 : decode cX3_faultAhead 47 = .ok (.ifCond .ne 5, 3) := by decide +kernel
theorem dX3_faultAhead_50 : decode cX3_faultAhead 50 = .ok (.iconst 4, 1) := by decide +kernel
theorem dX3_faultAhead_51 : decode cX3_faultAhead 51 = .ok (.ireturn, 1) := by decide +kernel
theorem dX3_faultAhead_52 : decode cX3_faultAhead 52 = .ok (.aload_n 0, 1) := by decide +kernel
theorem dX3_faultAhead_53 : decode cX3_faultAhead 53 = .ok (.getfield 42, 3) := by decide +kernel
theorem dX3_faultAhead_56 : decode cX3_faultAhead 56 = .ok (.aload_n 1, 1) := by decide +kernel
theorem dX3_faultAhead_57 : decode cX3_faultAhead 57 = .ok (.aload_n 0, 1) := by decide +kernel
theorem dX3_faultAhead_58 : decode cX3_faultAhead 58 = .ok (.getfield 15, 3) := by decide +kernel
theorem dX3_faultAhead_61 : decode cX3_faultAhead 61 = .ok (.aload_n 0, 1) := by decide +kernel
theorem dX3_faultAhead_62 : decode cX3_faultAhead 62 = .ok (.getfield 21, 3) := by decide +kernel
theorem dX3_faultAhead_65 : decode cX3_faultAhead 65 = .ok (.invokevirtual 160, 3) := by decide +kernel
theorem dX3_faultAhead_68 : decode cX3_faultAhead 68 = .ok (.ifCond .eq 7, 3) := by decide +kernel
theorem dX3_faultAhead_71 : decode cX3_faultAhead 71 = .ok (.iconst 0, 1) := by decide +kernel
theorem dX3_faultAhead_72 : decode cX3_faultAhead 72 = .ok (.goto 4, 3) := by decide +kernel
theorem dX3_faultAhead_75 : decode cX3_faultAhead 75 = .ok (.iconst 2, 1) := by decide +kernel
theorem dX3_faultAhead_76 : decode cX3_faultAhead 76 = .ok (.ireturn, 1) := by decide +kernel
set_option maxRecDepth 20000 in
theorem ggX3_pickUp_X2_countInto : GoodIn wsX3_pickUp wsX2_countInto := goodIn_r _ [17, 18, 19, 47, 48] (by decide +kernel) (by decide +kernel)
set_option maxRecDepth 20000 in
theorem gX3_pickUp_X2_countInto : GoodIn wsX3_pickUp (wsV RX3 164 RX2 yX2_countInto wsX2_countInto) := goodIn_app (goodIn_of _ (by decide +kernel)) ggX3_pickUp_X2_countInto
theorem dX3_pickUp_0 : decode cX3_pickUp 0 = .ok (.aload_n 0, 1) := by decide +kernel
theorem dX3_pickUp_1 : decode cX3_pickUp 1 = .ok (.getfield 60, 3) := by decide +kernel
theorem dX3_pickUp_4 : decode cX3_pickUp 4 = .ok (.ifCond .ne 16, 3) := by decide +kernel
theorem dX3_pickUp_7 : decode cX3_pickUp 7 = .ok (.aload_n 0, 1) := by decide +kernel
theorem dX3_pickUp_8 : decode cX3_pickUp 8 = .ok (.iconst 1, 1) := by decide +kernel
theorem dX3_pickUp_9 : decode cX3_pickUp 9 = .ok (.putfield 60, 3) := by decide +kernel
theorem dX3_pickUp_12 : decode cX3_pickUp 12 = .ok (.aload_n 0, 1) := by decide +kernel
theorem dX3_pickUp_13 : decode cX3_pickUp 13 = .ok (.aload_n 1, 1) := by decide +kernel
theorem dX3_pickUp_14 : decode cX3_pickUp 14 = .ok (.getfield 153, 3) := by decide +kernel
theorem dX3_pickUp_17 : decode cX3_pickUp 17 = .ok (.putfield 66, 3) := by decide +kernel
theorem dX3_pickUp_20 : decode cX3_pickUp 20 = .ok (.aload_n 0, 1) := by decide +kernel
theorem dX3_pickUp_21 : decode cX3_pickUp 21 = .ok (.getfield 18, 3) := by decide +kernel
theorem dX3_pickUp_24 : decode cX3_pickUp 24 = .ok (.aload_n 0, 1) := by decide +kernel
theorem dX3_pickUp_25 : decode cX3_pickUp 25 = .ok (.getfield 50, 3) := by decide +kernel
theorem dX3_pickUp_28 : decode cX3_pickUp 28 = .ok (.aload_n 0, 1) := by decide +kernel
theorem dX3_pickUp_29 : decode cX3_pickUp 29 = .ok (.getfield 60, 3) := by decide +kernel
theorem dX3_pickUp_32 : decode cX3_pickUp 32 = .ok (.iconst 1, 1) := by decide +kernel
theorem dX3_pickUp_33 : decode cX3_pickUp 33 = .ok (.isub, 1) := by decide +kernel
theorem dX3_pickUp_34 : decode cX3_pickUp 34 = .ok (.iastore, 1) := by decide +kernel
theorem dX3_pickUp_35 : decode cX3_pickUp 35 = .ok (.aload_n 0, 1) := by decide +kernel
theorem dX3_pickUp_36 : decode cX3_pickUp 36 = .ok (.getfield 30, 3) := by decide +kernel
theorem dX3_pickUp_39 : decode cX3_pickUp 39 = .ok (.aload_n 0, 1) := by decide +kernel
theorem dX3_pickUp_40 : decode cX3_pickUp 40 = .ok (.getfield 9, 3) := by decide +kernel
theorem dX3_pickUp_43 : decode cX3_pickUp 43 = .ok (.aload_n 0, 1) := by decide +kernel
theorem dX3_pickUp_44 : decode cX3_pickUp 44 = .ok (.getfield 50, 3) := by decide +kernel
theorem dX3_pickUp_47 : decode cX3_pickUp 47 = .ok (.iaload, 1) := by decide +kernel
theorem dX3_pickUp_48 : decode cX3_pickUp 48 = .ok (.aload_n 0, 1) := by decide +kernel
theorem dX3_pickUp_49 : decode cX3_pickUp 49 = .ok (.getfield 50, 3) := by decide +kernel
theorem dX3_pickUp_52 : decode cX3_pickUp 52 = .ok (.iastore, 1) := by decide +kernel
theorem dX3_pickUp_53 : decode cX3_pickUp 53 = .ok (.aload_n 0, 1) := by decide +kernel
theorem dX3_pickUp_54 : decode cX3_pickUp 54 = .ok (.getfield 42, 3) := by decide +kernel
theorem dX3_pickUp_57 : decode cX3_pickUp 57 = .ok (.aload_n 0, 1) := by decide +kernel
theorem dX3_pickUp_58 : decode cX3_pickUp 58 = .ok (.getfield 21, 3) := by decide +kernel
theorem dX3_pickUp_61 : decode cX3_pickUp 61 = .ok (.invokevirtual 164, 3) := by decide +kernel
theorem dX3_pickUp_64 : decode cX3_pickUp 64 = .ok (.aload_n 0, 1) := by decide +kernel
theorem dX3_pickUp_65 : decode cX3_pickUp 65 = .ok (.dup, 1) := by decide +kernel
theorem dX3_pickUp_66 : decode cX3_pickUp 66 = .ok (.getfield 69, 3) := by decide +kernel
theorem dX3_pickUp_69 : decode cX3_pickUp 69 = .ok (.aload_n 0, 1) := by decide +kernel
theorem dX3_pickUp_70 : decode cX3_pickUp 70 = .ok (.getfield 42, 3) := by decide +kernel
theorem dX3_pickUp_73 : decode cX3_pickUp 73 = .ok (.getfield 168, 3) := by decide +kernel
theorem dX3_pickUp_76 : decode cX3_pickUp 76 = .ok (.iadd, 1) := by decide +kernel
theorem dX3_pickUp_77 : decode cX3_pickUp 77 = .ok (.putfield 69, 3) := by decide +kernel
theorem dX3_pickUp_80 : decode cX3_pickUp 80 = .ok (.aload_n 0, 1) := by decide +kernel
theorem dX3_pickUp_81 : decode cX3_pickUp 81 = .ok (.dup, 1) := by decide +kernel
theorem dX3_pickUp_82 : decode cX3_pickUp 82 = .ok (.getfield 66, 3) := by decide +kernel
theorem dX3_pickUp_85 : decode cX3_pickUp 85 = .ok (.iload_n 2, 1) := by decide +kernel
theorem dX3_pickUp_86 : decode cX3_pickUp 86 = .ok (.isub, 1) := by decide +kernel
theorem dX3_pickUp_87 : decode cX3_pickUp 87 = .ok (.putfield 66, 3) := by decide +kernel
theorem dX3_pickUp_90 : decode cX3_pickUp 90 = .ok (.aload_n 0, 1) := by decide +kernel
theorem dX3_pickUp_91 : decode cX3_pickUp 91 = .ok (.dup, 1) := by decide +kernel
theorem dX3_pickUp_92 : decode cX3_pickUp 92 = .ok (.getfield 63, 3) := by decide +kernel
theorem dX3_pickUp_95 : decode cX3_pickUp 95 = .ok (.iload_n 2, 1) := by decide +kernel
theorem dX3_pickUp_96 : decode cX3_pickUp 96 = .ok (.iadd, 1) := by decide +kernel
theorem dX3_pickUp_97 : decode cX3_pickUp 97 = .ok (.putfield 63, 3) := by decide +kernel
theorem dX3_pickUp_100 : decode cX3_pickUp 100 = .ok (.aload_n 0, 1) := by decide +kernel
theorem dX3_pickUp_101 : decode cX3_pickUp 101 = .ok (.dup, 1) := by decide +kernel
theorem dX3_pickUp_102 : decode cX3_pickUp 102 = .ok (.getfield 50, 3) := by decide +kernel
theorem dX3_pickUp_105 : decode cX3_pickUp 105 = .ok (.iconst 1, 1) := by decide +kernel
theorem dX3_pickUp_106 : decode cX3_pickUp 106 = .ok (.iadd, 1) := by decide +kernel
theorem dX3_pickUp_107 : decode cX3_pickUp 107 = .ok (.putfield 50, 3) := by decide +kernel
theorem dX3_pickUp_110 : decode cX3_pickUp 110 = .ok (.return_, 1) := by decide +kernel
set_option maxRecDepth 20000 in
theorem ggX3_join_X3_weaveThrough : GoodIn wsX3_join wsX3_weaveThrough := goodIn_r _ [12, 13, 2, 14, 15, 16, 21, 22, 23, 24, 25, 26, 27, 28, 29, 30, 31, 32, 33, 34, 35, 36, 37, 38, 39, 40, 41, 42, 43, 44, 45, 46, 47] (by decide +kernel) (by decide +kernel)
set_option maxRecDepth 20000 in
theorem gX3_join_X3_weaveThrough : GoodIn wsX3_join (wsV RX3 171 RX3 yX3_weaveThrough wsX3_weaveThrough) := goodIn_app (goodIn_of _ (by decide +kernel)) ggX3_join_X3_weaveThrough
set_option maxRecDepth 20000 in
theorem ggX3_join_X3_unweave : GoodIn wsX3_join wsX3_unweave := goodIn_r _ [20, 14, 21, 22, 23, 24, 25, 26, 27, 28, 29, 30, 31, 32, 33, 34, 35, 36, 37, 38, 39] (by decide +kernel) (by decide +kernel)
set_option maxRecDepth 20000 in
theorem gX3_join_X3_unweave : GoodIn wsX3_join (wsV RX3 175 RX3 yX3_unweave wsX3_unweave) := goodIn_app (goodIn_of _ (by decide +kernel)) ggX3_join_X3_unweave
theorem dX3_join_0 : decode cX3_join 0 = .ok (.aload_n 0, 1) := by decide +kernel
theorem dX3_join_1 : decode cX3_join 1 = .ok (.aload_n 1, 1) := by decide +kernel
theorem dX3_join_2 : decode cX3_join 2 = .ok (.aload_n 0, 1) := by decide +kernel
theorem dX3_join_3 : decode cX3_join 3 = .ok (.getfield 36, 3) := by decide +kernel
theorem dX3_join_6 : decode cX3_join 6 = .ok (.iconst 0, 1) := by decide +kernel
theorem dX3_join_7 : decode cX3_join 7 = .ok (.invokevirtual 171, 3) := by decide +kernel
theorem dX3_join_10 : decode cX3_join 10 = .ok (.istore_n 2, 1) := by decide +kernel
theorem dX3_join_11 : decode cX3_join 11 = .ok (.iload_n 2, 1) := by decide +kernel
theorem dX3_join_12 : decode cX3_join 12 = .ok (.aload_n 0, 1) := by decide +kernel
theorem dX3_join_13 : decode cX3_join 13 = .ok (.getfield 72, 3) := by decide +kernel
theorem dX3_join_16 : decode cX3_join 16 = .ok (.if_icmp .lt 13, 3) := by decide +kernel
theorem dX3_join_19 : decode cX3_join 19 = .ok (.aload_n 0, 1) := by decide +kernel
theorem dX3_join_20 : decode cX3_join 20 = .ok (.getfield 60, 3) := by decide +kernel
theorem dX3_join_23 : decode cX3_join 23 = .ok (.sipush 144, 3) := by decide +kernel
theorem dX3_join_26 : decode cX3_join 26 = .ok (.if_icmp .lt 15, 3) := by decide +kernel
theorem dX3_join_29 : decode cX3_join 29 = .ok (.aload_n 0, 1) := by decide +kernel
theorem dX3_join_30 : decode cX3_join 30 = .ok (.aload_n 0, 1) := by decide +kernel
theorem dX3_join_31 : decode cX3_join 31 = .ok (.getfield 36, 3) := by decide +kernel
theorem dX3_join_34 : decode cX3_join 34 = .ok (.iconst 0, 1) := by decide +kernel
theorem dX3_join_35 : decode cX3_join 35 = .ok (.iload_n 2, 1) := by decide +kernel
theorem dX3_join_36 : decode cX3_join 36 = .ok (.invokevirtual 175, 3) := by decide +kernel
theorem dX3_join_39 : decode cX3_join 39 = .ok (.iconst 0, 1) := by decide +kernel
theorem dX3_join_40 : decode cX3_join 40 = .ok (.ireturn, 1) := by decide +kernel
theorem dX3_join_41 : decode cX3_join 41 = .ok (.aload_n 0, 1) := by decide +kernel
theorem dX3_join_42 : decode cX3_join 42 = .ok (.getfield 60, 3) := by decide +kernel
theorem dX3_join_45 : decode cX3_join 45 = .ok (.bipush 6, 2) := by decide +kernel
theorem dX3_join_47 : decode cX3_join 47 = .ok (.imul, 1) := by decide +kernel
theorem dX3_join_48 : decode cX3_join 48 = .ok (.istore_n 3, 1) := by decide +kernel
theorem dX3_join_49 : decode cX3_join 49 = .ok (.aload_n 0, 1) := by decide +kernel
theorem dX3_join_50 : decode cX3_join 50 = .ok (.aload_n 1, 1) := by decide +kernel
theorem dX3_join_51 : decode cX3_join 51 = .ok (.aload_n 0, 1) := by decide +kernel
theorem dX3_join_52 : decode cX3_join 52 = .ok (.getfield 33, 3) := by decide +kernel
theorem dX3_join_55 : decode cX3_join 55 = .ok (.iload_n 3, 1) := by decide +kernel
theorem dX3_join_56 : decode cX3_join 56 = .ok (.invokevirtual 171, 3) := by decide +kernel
theorem dX3_join_59 : decode cX3_join 59 = .ok (.istore 4, 2) := by decide +kernel
theorem dX3_join_61 : decode cX3_join 61 = .ok (.iload 4, 2) := by decide +kernel
theorem dX3_join_63 : decode cX3_join 63 = .ok (.aload_n 0, 1) := by decide +kernel
theorem dX3_join_64 : decode cX3_join 64 = .ok (.getfield 72, 3) := by decide +kernel
theorem dX3_join_67 : decode cX3_join 67 = .ok (.if_icmp .ge 26, 3) := by decide +kernel
theorem dX3_join_70 : decode cX3_join 70 = .ok (.aload_n 0, 1) := by decide +kernel
theorem dX3_join_71 : decode cX3_join 71 = .ok (.aload_n 0, 1) := by decide +kernel
theorem dX3_join_72 : decode cX3_join 72 = .ok (.getfield 33, 3) := by decide +kernel
theorem dX3_join_75 : decode cX3_join 75 = .ok (.iload_n 3, 1) := by decide +kernel
theorem dX3_join_76 : decode cX3_join 76 = .ok (.iload 4, 2) := by decide +kernel
theorem dX3_join_78 : decode cX3_join 78 = .ok (.invokevirtual 175, 3) := by decide +kernel
theorem dX3_join_81 : decode cX3_join 81 = .ok (.aload_n 0, 1) := by decide +kernel
theorem dX3_join_82 : decode cX3_join 82 = .ok (.aload_n 0, 1) := by decide +kernel
theorem dX3_join_83 : decode cX3_join 83 = .ok (.getfield 36, 3) := by decide +kernel
theorem dX3_join_86 : decode cX3_join 86 = .ok (.iconst 0, 1) := by decide +kernel
theorem dX3_join_87 : decode cX3_join 87 = .ok (.iload_n 2, 1) := by decide +kernel
theorem dX3_join_88 : decode cX3_join 88 = .ok (.invokevirtual 175, 3) := by decide +kernel
theorem dX3_join_91 : decode cX3_join 91 = .ok (.iconst 0, 1) := by decide +kernel
theorem dX3_join_92 : decode cX3_join 92 = .ok (.ireturn, 1) := by decide +kernel
theorem dX3_join_93 : decode cX3_join 93 = .ok (.aload_n 0, 1) := by decide +kernel
theorem dX3_join_94 : decode cX3_join 94 = .ok (.dup, 1) := by decide +kernel
theorem dX3_join_95 : decode cX3_join 95 = .ok (.getfield 69, 3) := by decide +kernel
theorem dX3_join_98 : decode cX3_join 98 = .ok (.iload_n 2, 1) := by decide +kernel
theorem dX3_join_99 : decode cX3_join 99 = .ok (.iload 4, 2) := by decide +kernel
theorem dX3_join_101 : decode cX3_join 101 = .ok (.iadd, 1) := by decide +kernel
theorem dX3_join_102 : decode cX3_join 102 = .ok (.iadd, 1) := by decide +kernel
theorem dX3_join_103 : decode cX3_join 103 = .ok (.putfield 69, 3) := by decide +kernel
theorem dX3_join_106 : decode cX3_join 106 = .ok (.aload_n 0, 1) := by decide +kernel
theorem dX3_join_107 : decode cX3_join 107 = .ok (.dup, 1) := by decide +kernel
theorem dX3_join_108 : decode cX3_join 108 = .ok (.getfield 60, 3) := by decide +kernel
theorem dX3_join_111 : decode cX3_join 111 = .ok (.iconst 1, 1) := by decide +kernel
theorem dX3_join_112 : decode cX3_join 112 = .ok (.iadd, 1) := by decide +kernel
theorem dX3_join_113 : decode cX3_join 113 = .ok (.putfield 60, 3) := by decide +kernel
theorem dX3_join_116 : decode cX3_join 116 = .ok (.aload_n 0, 1) := by decide +kernel
theorem dX3_join_117 : decode cX3_join 117 = .ok (.aload_n 1, 1) := by decide +kernel
theorem dX3_join_118 : decode cX3_join 118 = .ok (.getfield 153, 3) := by decide +kernel
theorem dX3_join_121 : decode cX3_join 121 = .ok (.putfield 66, 3) := by decide +kernel
theorem dX3_join_124 : decode cX3_join 124 = .ok (.iconst 1, 1) := by decide +kernel
theorem dX3_join_125 : decode cX3_join 125 = .ok (.ireturn, 1) := by decide +kernel
theorem dX3_weaveThrough_0 : decode cX3_weaveThrough 0 = .ok (.iconst 0, 1) := by decide +kernel
theorem dX3_weaveThrough_1 : decode cX3_weaveThrough 1 = .ok (.istore 4, 2) := by decide +kernel
theorem dX3_weaveThrough_3 : decode cX3_weaveThrough 3 = .ok (.aload_n 0, 1) := by decide +kernel
theorem dX3_weaveThrough_4 : decode cX3_weaveThrough 4 = .ok (.getfield 50, 3) := by decide +kernel
theorem dX3_weaveThrough_7 : decode cX3_weaveThrough 7 = .ok (.iconst 1, 1) := by decide +kernel
theorem dX3_weaveThrough_8 : decode cX3_weaveThrough 8 = .ok (.isub, 1) := by decide +kernel
theorem dX3_weaveThrough_9 : decode cX3_weaveThrough 9 = .ok (.istore 5, 2) := by decide +kernel
theorem dX3_weaveThrough_11 : decode cX3_weaveThrough 11 = .ok (.iload 5, 2) := by decide +kernel
theorem dX3_weaveThrough_13 : decode cX3_weaveThrough 13 = .ok (.ifCond .lt 62, 3) := by decide +kernel
theorem dX3_weaveThrough_16 : decode cX3_weaveThrough 16 = .ok (.iload 4, 2) := by decide +kernel
theorem dX3_weaveThrough_18 : decode cX3_weaveThrough 18 = .ok (.aload_n 0, 1) := by decide +kernel
theorem dX3_weaveThrough_19 : decode cX3_weaveThrough 19 = .ok (.getfield 72, 3) := by decide +kernel
theorem dX3_weaveThrough_22 : decode cX3_weaveThrough 22 = .ok (.if_icmp .ge 53, 3) := by decide +kernel
theorem dX3_weaveThrough_25 : decode cX3_weaveThrough 25 = .ok (.aload_n 0, 1) := by decide +kernel
theorem dX3_weaveThrough_26 : decode cX3_weaveThrough 26 = .ok (.getfield 21, 3) := by decide +kernel
theorem dX3_weaveThrough_29 : decode cX3_weaveThrough 29 = .ok (.iload 5, 2) := by decide +kernel
theorem dX3_weaveThrough_31 : decode cX3_weaveThrough 31 = .ok (.iaload, 1) := by decide +kernel
theorem dX3_weaveThrough_32 : decode cX3_weaveThrough 32 = .ok (.aload_n 1, 1) := by decide +kernel
theorem dX3_weaveThrough_33 : decode cX3_weaveThrough 33 = .ok (.getfield 179, 3) := by decide +kernel
theorem dX3_weaveThrough_36 : decode cX3_weaveThrough 36 = .ok (.aload_n 0, 1) := by decide +kernel
theorem dX3_weaveThrough_37 : decode cX3_weaveThrough 37 = .ok (.getfield 15, 3) := by decide +kernel
theorem dX3_weaveThrough_40 : decode cX3_weaveThrough 40 = .ok (.iload 5, 2) := by decide +kernel
theorem dX3_weaveThrough_42 : decode cX3_weaveThrough 42 = .ok (.iaload, 1) := by decide +kernel
theorem dX3_weaveThrough_43 : decode cX3_weaveThrough 43 = .ok (.iaload, 1) := by decide +kernel
theorem dX3_weaveThrough_44 : decode cX3_weaveThrough 44 = .ok (.if_icmp .ge 25, 3) := by decide +kernel
theorem dX3_weaveThrough_47 : decode cX3_weaveThrough 47 = .ok (.aload_n 0, 1) := by decide +kernel
theorem dX3_weaveThrough_48 : decode cX3_weaveThrough 48 = .ok (.getfield 21, 3) := by decide +kernel
theorem dX3_weaveThrough_51 : decode cX3_weaveThrough 51 = .ok (.iload 5, 2) := by decide +kernel
theorem dX3_weaveThrough_53 : decode cX3_weaveThrough 53 = .ok (.dup2, 1) := by decide +kernel
theorem dX3_weaveThrough_54 : decode cX3_weaveThrough 54 = .ok (.iaload, 1) := by decide +kernel
theorem dX3_weaveThrough_55 : decode cX3_weaveThrough 55 = .ok (.iconst 1, 1) := by decide +kernel
theorem dX3_weaveThrough_56 : decode cX3_weaveThrough 56 = .ok (.iadd, 1) := by decide +kernel
theorem dX3_weaveThrough_57 : decode cX3_weaveThrough 57 = .ok (.iastore, 1) := by decide +kernel
theorem dX3_weaveThrough_58 : decode cX3_weaveThrough 58 = .ok (.aload_n 2, 1) := by decide +kernel
theorem dX3_weaveThrough_59 : decode cX3_weaveThrough 59 = .ok (.iload_n 3, 1) := by decide +kernel
theorem dX3_weaveThrough_60 : decode cX3_weaveThrough 60 = .ok (.iload 4, 2) := by decide +kernel
theorem dX3_weaveThrough_62 : decode cX3_weaveThrough 62 = .ok (.iadd, 1) := by decide +kernel
theorem dX3_weaveThrough_63 : decode cX3_weaveThrough 63 = .ok (.iload 5, 2) := by decide +kernel
theorem dX3_weaveThrough_65 : decode cX3_weaveThrough 65 = .ok (.iastore, 1) := by decide +kernel
theorem dX3_weaveThrough_66 : decode cX3_weaveThrough 66 = .ok (.iinc 4 1, 3) := by decide +kernel
theorem dX3_weaveThrough_69 : decode cX3_weaveThrough 69 = .ok (.iinc 5 (-1), 3) := by decide +kernel
theorem dX3_weaveThrough_72 : decode cX3_weaveThrough 72 = .ok (.goto (-61), 3) := by decide +kernel
theorem dX3_weaveThrough_75 : decode cX3_weaveThrough 75 = .ok (.iload 4, 2) := by decide +kernel
theorem dX3_weaveThrough_77 : decode cX3_weaveThrough 77 = .ok (.ireturn, 1) := by decide +kernel
theorem dX3_unweave_0 : decode cX3_unweave 0 = .ok (.iconst 0, 1) := by decide +kernel
theorem dX3_unweave_1 : decode cX3_unweave 1 = .ok (.istore 4, 2) := by decide +kernel
theorem dX3_unweave_3 : decode cX3_unweave 3 = .ok (.iload 4, 2) := by decide +kernel
theorem dX3_unweave_5 : decode cX3_unweave 5 = .ok (.iload_n 3, 1) := by decide +kernel
theorem dX3_unweave_6 : decode cX3_unweave 6 = .ok (.if_icmp .ge 24, 3) := by decide +kernel
theorem dX3_unweave_9 : decode cX3_unweave 9 = .ok (.aload_n 0, 1) := by decide +kernel
theorem dX3_unweave_10 : decode cX3_unweave 10 = .ok (.getfield 21, 3) := by decide +kernel
theorem dX3_unweave_13 : decode cX3_unweave 13 = .ok (.aload_n 1, 1) := by decide +kernel
theorem dX3_unweave_14 : decode cX3_unweave 14 = .ok (.iload_n 2, 1) := by decide +kernel
theorem dX3_unweave_15 : decode cX3_unweave 15 = .ok (.iload 4, 2) := by decide +kernel
theorem dX3_unweave_17 : decode cX3_unweave 17 = .ok (.iadd, 1) := by decide +kernel
theorem dX3_unweave_18 : decode cX3_unweave 18 = .ok (.iaload, 1) := by decide +kernel
theorem dX3_unweave_19 : decode cX3_unweave 19 = .ok (.dup2, 1) := by decide +kernel
theorem dX3_unweave_20 : decode cX3_unweave 20 = .ok (.iaload, 1) := by decide +kernel
theorem dX3_unweave_21 : decode cX3_unweave 21 = .ok (.iconst 1, 1) := by decide +kernel
theorem dX3_unweave_22 : decode cX3_unweave 22 = .ok (.isub, 1) := by decide +kernel
theorem dX3_unweave_23 : decode cX3_unweave 23 = .ok (.iastore, 1) := by decide +kernel
theorem dX3_unweave_24 : decode cX3_unweave 24 = .ok (.iinc 4 1, 3) := by decide +kernel
theorem dX3_unweave_27 : decode cX3_unweave 27 = .ok (.goto (-24), 3) := by decide +kernel
theorem dX3_unweave_30 : decode cX3_unweave 30 = .ok (.return_, 1) := by decide +kernel
set_option maxRecDepth 20000 in
theorem ggX4_init_X0_init : GoodIn wsX4_init wsX0_init := goodIn_r _ [19, 20, 2, 3, 21, 22, 23, 24, 25, 26, 27, 28, 29, 30, 31, 32, 33, 70, 71, 72, 73, 74, 75, 76, 77] (by decide +kernel) (by decide +kernel)
set_option maxRecDepth 20000 in
theorem gX4_init_X0_init : GoodIn wsX4_init (wsX0_init) := ggX4_init_X0_init
set_option maxRecDepth 20000 in
theorem ggX4_init_X3_init : GoodIn wsX4_init wsX3_init := goodIn_r _ [36, 37, 2, 3, 21, 38, 39, 40, 41, 42, 43, 44, 45, 46, 47, 48, 49, 50, 51, 52, 53, 54, 55, 56, 57, 58, 59, 60, 61, 62, 63, 64, 65, 31, 32, 33, 82, 83, 84, 85, 86, 87, 88, 89, 90, 91, 92, 93, 94, 95, 96, 97, 98, 99, 100, 102, 103] (by decide +kernel) (by decide +kernel)
set_option maxRecDepth 20000 in
theorem gX4_init_X3_init : GoodIn wsX4_init (wsX3_init) := ggX4_init_X3_init
set_option maxRecDepth 20000 in
theorem ggX4_init_X1_init : GoodIn wsX4_init wsX1_init := goodIn_r _ [67, 68, 2, 3, 21, 69, 101] (by decide +kernel) (by decide +kernel)
set_option maxRecDepth 20000 in
theorem gX4_init_X1_init_n28 : GoodIn wsX4_init (wsX1_init) := ggX4_init_X1_init
theorem dX4_init_0 : decode cX4_init 0 = .ok (.aload_n 0, 1) := by decide +kernel
theorem dX4_init_1 : decode cX4_init 1 = .ok (.invokespecial 3, 3) := by decide +kernel
theorem dX4_init_4 : decode cX4_init 4 = .ok (.aload_n 0, 1) := by decide +kernel
theorem dX4_init_5 : decode cX4_init 5 = .ok (.new 9, 3) := by decide +kernel
theorem dX4_init_8 : decode cX4_init 8 = .ok (.dup, 1) := by decide +kernel
theorem dX4_init_9 : decode cX4_init 9 = .ok (.invokespecial 11, 3) := by decide +kernel
theorem dX4_init_12 : decode cX4_init 12 = .ok (.putfield 12, 3) := by decide +kernel
theorem dX4_init_15 : decode cX4_init 15 = .ok (.aload_n 0, 1) := by decide +kernel
theorem dX4_init_16 : decode cX4_init 16 = .ok (.new 16, 3) := by decide +kernel
theorem dX4_init_19 : decode cX4_init 19 = .ok (.dup, 1) := by decide +kernel
theorem dX4_init_20 : decode cX4_init 20 = .ok (.invokespecial 18, 3) := by decide +kernel
theorem dX4_init_23 : decode cX4_init 23 = .ok (.putfield 19, 3) := by decide +kernel
theorem dX4_init_26 : decode cX4_init 26 = .ok (.aload_n 0, 1) := by decide +kernel
theorem dX4_init_27 : decode cX4_init 27 = .ok (.new 16, 3) := by decide +kernel
theorem dX4_init_30 : decode cX4_init 30 = .ok (.dup, 1) := by decide +kernel
theorem dX4_init_31 : decode cX4_init 31 = .ok (.invokespecial 18, 3) := by decide +kernel
theorem dX4_init_34 : decode cX4_init 34 = .ok (.putfield 23, 3) := by decide +kernel
theorem dX4_init_37 : decode cX4_init 37 = .ok (.aload_n 0, 1) := by decide +kernel
theorem dX4_init_38 : decode cX4_init 38 = .ok (.new 26, 3) := by decide +kernel
theorem dX4_init_41 : decode cX4_init 41 = .ok (.dup, 1) := by decide +kernel
theorem dX4_init_42 : decode cX4_init 42 = .ok (.invokespecial 28, 3) := by decide +kernel
theorem dX4_init_45 : decode cX4_init 45 = .ok (.putfield 29, 3) := by decide +kernel
theorem dX4_init_48 : decode cX4_init 48 = .ok (.return_, 1) := by decide +kernel
set_option maxRecDepth 20000 in
theorem ggX4_beads_X0_holdsRun : GoodIn wsX4_beads wsX0_holdsRun := goodIn_r _ [6, 7, 8, 9, 10, 11, 12, 13, 14, 15, 5, 16, 17, 28, 29, 30, 31, 32, 33, 34, 35] (by decide +kernel) (by decide +kernel)
set_option maxRecDepth 20000 in
theorem gX4_beads_X0_holdsRun : GoodIn wsX4_beads (wsV RX4 33 RX0 yX0_holdsRun wsX0_holdsRun) := goodIn_app (goodIn_of _ (by decide +kernel)) ggX4_beads_X0_holdsRun
set_option maxRecDepth 20000 in
theorem ggX4_beads_X0_putRun : GoodIn wsX4_beads wsX0_putRun := goodIn_r _ [21, 22, 23, 28, 29, 30, 31, 32, 33, 34, 35] (by decide +kernel) (by decide +kernel)
set_option maxRecDepth 20000 in
theorem gX4_beads_X0_putRun : GoodIn wsX4_beads (wsV RX4 37 RX0 yX0_putRun wsX0_putRun) := goodIn_app (goodIn_of _ (by decide +kernel)) ggX4_beads_X0_putRun
theorem dX4_beads_0 : decode cX4_beads 0 = .ok (.aload_n 0, 1) := by decide +kernel
theorem dX4_beads_1 : decode cX4_beads 1 = .ok (.getfield 12, 3) := by decide +kernel
theorem dX4_beads_4 : decode cX4_beads 4 = .ok (.iload_n 1, 1) := by decide +kernel
theorem dX4_beads_5 : decode cX4_beads 5 = .ok (.iload_n 2, 1) := by decide +kernel
theorem dX4_beads_6 : decode cX4_beads 6 = .ok (.iload_n 3, 1) := by decide +kernel
theorem dX4_beads_7 : decode cX4_beads 7 = .ok (.invokevirtual 33, 3) := by decide +kernel
theorem dX4_beads_10 : decode cX4_beads 10 = .ok (.ifCond .ne 5, 3) := by decide +kernel
theorem dX4_beads_13 : decode cX4_beads 13 = .ok (.iconst 0, 1) := by decide +kernel
theorem dX4_beads_14 : decode cX4_beads 14 = .ok (.ireturn, 1) := by decide +kernel
theorem dX4_beads_15 : decode cX4_beads 15 = .ok (.aload_n 0, 1) := by decide +kernel
theorem dX4_beads_16 : decode cX4_beads 16 = .ok (.getfield 12, 3) := by decide +kernel
theorem dX4_beads_19 : decode cX4_beads 19 = .ok (.iload_n 1, 1) := by decide +kernel
theorem dX4_beads_20 : decode cX4_beads 20 = .ok (.iload_n 2, 1) := by decide +kernel
theorem dX4_beads_21 : decode cX4_beads 21 = .ok (.iload_n 3, 1) := by decide +kernel
theorem dX4_beads_22 : decode cX4_beads 22 = .ok (.lload 4, 2) := by decide +kernel
theorem dX4_beads_24 : decode cX4_beads 24 = .ok (.invokevirtual 37, 3) := by decide +kernel
theorem dX4_beads_27 : decode cX4_beads 27 = .ok (.iconst 1, 1) := by decide +kernel
theorem dX4_beads_28 : decode cX4_beads 28 = .ok (.ireturn, 1) := by decide +kernel
theorem dX4_stitch_0 : decode cX4_stitch 0 = .ok (.iload_n 1, 1) := by decide +kernel
theorem dX4_stitch_1 : decode cX4_stitch 1 = .ok (.ifCond .eq 10, 3) := by decide +kernel
theorem dX4_stitch_4 : decode cX4_stitch 4 = .ok (.iload_n 1, 1) := by decide +kernel
theorem dX4_stitch_5 : decode cX4_stitch 5 = .ok (.iconst 1, 1) := by decide +kernel
theorem dX4_stitch_6 : decode cX4_stitch 6 = .ok (.if_icmp .eq 5, 3) := by decide +kernel
theorem dX4_stitch_9 : decode cX4_stitch 9 = .ok (.iconst (-1), 1) := by decide +kernel
theorem dX4_stitch_10 : decode cX4_stitch 10 = .ok (.ireturn, 1) := by decide +kernel
theorem dX4_stitch_11 : decode cX4_stitch 11 = .ok (.aload_n 0, 1) := by decide +kernel
theorem dX4_stitch_12 : decode cX4_stitch 12 = .ok (.getfield 12, 3) := by decide +kernel
theorem dX4_stitch_15 : decode cX4_stitch 15 = .ok (.getfield 41, 3) := by decide +kernel
theorem dX4_stitch_18 : decode cX4_stitch 18 = .ok (.istore_n 2, 1) := by decide +kernel
theorem dX4_stitch_19 : decode cX4_stitch 19 = .ok (.aload_n 0, 1) := by decide +kernel
theorem dX4_stitch_20 : decode cX4_stitch 20 = .ok (.getfield 12, 3) := by decide +kernel
theorem dX4_stitch_23 : decode cX4_stitch 23 = .ok (.iload_n 1, 1) := by decide +kernel
theorem dX4_stitch_24 : decode cX4_stitch 24 = .ok (.putfield 41, 3) := by decide +kernel
theorem dX4_stitch_27 : decode cX4_stitch 27 = .ok (.iload_n 2, 1) := by decide +kernel
theorem dX4_stitch_28 : decode cX4_stitch 28 = .ok (.ireturn, 1) := by decide +kernel
set_option maxRecDepth 20000 in
theorem ggX4_ring_X4_isWithin : GoodIn wsX4_ring wsX4_isWithin := goodIn_r _ [6] (by decide +kernel) (by decide +kernel)
set_option maxRecDepth 20000 in
theorem gX4_ring_X4_isWithin : GoodIn wsX4_ring (va_wsS RX4 45 yX4_isWithin wsX4_isWithin) := goodIn_app (goodIn_of _ (by decide +kernel)) ggX4_ring_X4_isWithin
set_option maxRecDepth 20000 in
theorem ggX4_ring_X0_hasBeadsFrom : GoodIn wsX4_ring wsX0_hasBeadsFrom := goodIn_r _ [11, 12, 17, 18, 19, 20, 21, 22, 23, 24] (by decide +kernel) (by decide +kernel)
set_option maxRecDepth 20000 in
theorem gX4_ring_X0_hasBeadsFrom : GoodIn wsX4_ring (wsV RX4 48 RX0 yX0_hasBeadsFrom wsX0_hasBeadsFrom) := goodIn_app (goodIn_of _ (by decide +kernel)) ggX4_ring_X0_hasBeadsFrom
theorem dX4_ring_0 : decode cX4_ring 0 = .ok (.iload_n 1, 1) := by decide +kernel
theorem dX4_ring_1 : decode cX4_ring 1 = .ok (.ifCond .eq 26, 3) := by decide +kernel
theorem dX4_ring_4 : decode cX4_ring 4 = .ok (.iload_n 1, 1) := by decide +kernel
theorem dX4_ring_5 : decode cX4_ring 5 = .ok (.iconst 3, 1) := by decide +kernel
theorem dX4_ring_6 : decode cX4_ring 6 = .ok (.bipush 12, 2) := by decide +kernel
theorem dX4_ring_8 : decode cX4_ring 8 = .ok (.invokestatic 45, 3) := by decide +kernel
theorem dX4_ring_11 : decode cX4_ring 11 = .ok (.ifCond .eq 14, 3) := by decide +kernel
theorem dX4_ring_14 : decode cX4_ring 14 = .ok (.aload_n 0, 1) := by decide +kernel
theorem dX4_ring_15 : decode cX4_ring 15 = .ok (.getfield 12, 3) := by decide +kernel
theorem dX4_ring_18 : decode cX4_ring 18 = .ok (.iload_n 1, 1) := by decide +kernel
theorem dX4_ring_19 : decode cX4_ring 19 = .ok (.invokevirtual 48, 3) := by decide +kernel
theorem dX4_ring_22 : decode cX4_ring 22 = .ok (.ifCond .eq 5, 3) := by decide +kernel
theorem dX4_ring_25 : decode cX4_ring 25 = .ok (.iconst 0, 1) := by decide +kernel
theorem dX4_ring_26 : decode cX4_ring 26 = .ok (.ireturn, 1) := by decide +kernel
theorem dX4_ring_27 : decode cX4_ring 27 = .ok (.aload_n 0, 1) := by decide +kernel
theorem dX4_ring_28 : decode cX4_ring 28 = .ok (.getfield 12, 3) := by decide +kernel
theorem dX4_ring_31 : decode cX4_ring 31 = .ok (.iload_n 1, 1) := by decide +kernel
theorem dX4_ring_32 : decode cX4_ring 32 = .ok (.putfield 52, 3) := by decide +kernel
theorem dX4_ring_35 : decode cX4_ring 35 = .ok (.iconst 1, 1) := by decide +kernel
theorem dX4_ring_36 : decode cX4_ring 36 = .ok (.ireturn, 1) := by decide +kernel
set_option maxRecDepth 20000 in
theorem ggX4_colour_X4_isColour : GoodIn wsX4_colour wsX4_isColour := goodIn_r _ [8, 9, 10, 7, 11] (by decide +kernel) (by decide +kernel)
set_option maxRecDepth 20000 in
theorem gX4_colour_X4_isColour : GoodIn wsX4_colour (va_wsS RX4 55 yX4_isColour wsX4_isColour) := goodIn_app (goodIn_of _ (by decide +kernel)) ggX4_colour_X4_isColour
set_option maxRecDepth 20000 in
theorem ggX4_colour_X4_isWithin : GoodIn wsX4_colour wsX4_isWithin := goodIn_r _ [11] (by decide +kernel) (by decide +kernel)
set_option maxRecDepth 20000 in
theorem gX4_colour_X4_isWithin : GoodIn wsX4_colour (va_wsS RX4 45 yX4_isWithin wsX4_isWithin) := goodIn_app (goodIn_of _ (by decide +kernel)) ggX4_colour_X4_isWithin
theorem dX4_colour_0 : decode cX4_colour 0 = .ok (.iload_n 1, 1) := by decide +kernel
theorem dX4_colour_1 : decode cX4_colour 1 = .ok (.invokestatic 55, 3) := by decide +kernel
theorem dX4_colour_4 : decode cX4_colour 4 = .ok (.ifCond .eq 34, 3) := by decide +kernel
theorem dX4_colour_7 : decode cX4_colour 7 = .ok (.iload_n 2, 1) := by decide +kernel
theorem dX4_colour_8 : decode cX4_colour 8 = .ok (.iconst 1, 1) := by decide +kernel
theorem dX4_colour_9 : decode cX4_colour 9 = .ok (.bipush 9, 2) := by decide +kernel
theorem dX4_colour_11 : decode cX4_colour 11 = .ok (.invokestatic 45, 3) := by decide +kernel
theorem dX4_colour_14 : decode cX4_colour 14 = .ok (.ifCond .eq 24, 3) := by decide +kernel
theorem dX4_colour_17 : decode cX4_colour 17 = .ok (.iload_n 3, 1) := by decide +kernel
theorem dX4_colour_18 : decode cX4_colour 18 = .ok (.iconst 1, 1) := by decide +kernel
theorem dX4_colour_19 : decode cX4_colour 19 = .ok (.bipush 20, 2) := by decide +kernel
theorem dX4_colour_21 : decode cX4_colour 21 = .ok (.invokestatic 45, 3) := by decide +kernel
theorem dX4_colour_24 : decode cX4_colour 24 = .ok (.ifCond .eq 14, 3) := by decide +kernel
theorem dX4_colour_27 : decode cX4_colour 27 = .ok (.iload 4, 2) := by decide +kernel
theorem dX4_colour_29 : decode cX4_colour 29 = .ok (.iconst 1, 1) := by decide +kernel
theorem dX4_colour_30 : decode cX4_colour 30 = .ok (.bipush 100, 2) := by decide +kernel
theorem dX4_colour_32 : decode cX4_colour 32 = .ok (.invokestatic 45, 3) := by decide +kernel
theorem dX4_colour_35 : decode cX4_colour 35 = .ok (.ifCond .ne 5, 3) := by decide +kernel
theorem dX4_colour_38 : decode cX4_colour 38 = .ok (.iconst 0, 1) := by decide +kernel
theorem dX4_colour_39 : decode cX4_colour 39 = .ok (.ireturn, 1) := by decide +kernel
theorem dX4_colour_40 : decode cX4_colour 40 = .ok (.aload_n 0, 1) := by decide +kernel
theorem dX4_colour_41 : decode cX4_colour 41 = .ok (.getfield 12, 3) := by decide +kernel
theorem dX4_colour_44 : decode cX4_colour 44 = .ok (.getfield 58, 3) := by decide +kernel
theorem dX4_colour_47 : decode cX4_colour 47 = .ok (.iload_n 1, 1) := by decide +kernel
theorem dX4_colour_48 : decode cX4_colour 48 = .ok (.iload_n 2, 1) := by decide +kernel
theorem dX4_colour_49 : decode cX4_colour 49 = .ok (.iastore, 1) := by decide +kernel
theorem dX4_colour_50 : decode cX4_colour 50 = .ok (.aload_n 0, 1) := by decide +kernel
theorem dX4_colour_51 : decode cX4_colour 51 = .ok (.getfield 12, 3) := by decide +kernel
theorem dX4_colour_54 : decode cX4_colour 54 = .ok (.getfield 62, 3) := by decide +kernel
theorem dX4_colour_57 : decode cX4_colour 57 = .ok (.iload_n 1, 1) := by decide +kernel
theorem dX4_colour_58 : decode cX4_colour 58 = .ok (.iload_n 3, 1) := by decide +kernel
theorem dX4_colour_59 : decode cX4_colour 59 = .ok (.iastore, 1) := by decide +kernel
theorem dX4_colour_60 : decode cX4_colour 60 = .ok (.aload_n 0, 1) := by decide +kernel
theorem dX4_colour_61 : decode cX4_colour 61 = .ok (.getfield 12, 3) := by decide +kernel
theorem dX4_colour_64 : decode cX4_colour 64 = .ok (.getfield 65, 3) := by decide +kernel
theorem dX4_colour_67 : decode cX4_colour 67 = .ok (.iload_n 1, 1) := by decide +kernel
theorem dX4_colour_68 : decode cX4_colour 68 = .ok (.iload 4, 2) := by decide +kernel
theorem dX4_colour_70 : decode cX4_colour 70 = .ok (.iastore, 1) := by decide +kernel
theorem dX4_colour_71 : decode cX4_colour 71 = .ok (.iconst 1, 1) := by decide +kernel
theorem dX4_colour_72 : decode cX4_colour 72 = .ok (.ireturn, 1) := by decide +kernel
set_option maxRecDepth 20000 in
theorem ggX4_thread_X4_isWithin : GoodIn wsX4_thread wsX4_isWithin := goodIn_r _ [7] (by decide +kernel) (by decide +kernel)
set_option maxRecDepth 20000 in
theorem gX4_thread_X4_isWithin : GoodIn wsX4_thread (va_wsS RX4 45 yX4_isWithin wsX4_isWithin) := goodIn_app (goodIn_of _ (by decide +kernel)) ggX4_thread_X4_isWithin
end
section
theorem dX4_thread_0 : decode cX4_thread 0 = .ok (.iload_n 1, 1) := by decide +kernel
theorem dX4_thread_1 : decode cX4_thread 1 = .ok (.iconst 1, 1) := by decide +kernel
theorem dX4_thread_2 : decode cX4_thread 2 = .ok (.sipush 9999, 3) := by decide +kernel
theorem dX4_thread_5 : decode cX4_thread 5 = .ok (.invokestatic 45, 3) := by decide +kernel
theorem dX4_thread_8 : decode cX4_thread 8 = .ok (.ifCond .eq 13, 3) := by decide +kernel
theorem dX4_thread_11 : decode cX4_thread 11 = .ok (.iload_n 2, 1) := by decide +kernel
theorem dX4_thread_12 : decode cX4_thread 12 = .ok (.iconst 0, 1) := by decide +kernel
theorem dX4_thread_13 : decode cX4_thread 13 = .ok (.bipush 6, 2) := by decide +kernel
theorem dX4_thread_15 : decode cX4_thread 15 = .ok (.invokestatic 45, 3) := by decide +kernel
theorem dX4_thread_18 : decode cX4_thread 18 = .ok (.ifCond .ne 5, 3) := by decide +kernel
theorem dX4_thread_21 : decode cX4_thread 21 = .ok (.iconst 0, 1) := by decide +kernel
theorem dX4_thread_22 : decode cX4_thread 22 = .ok (.ireturn, 1) := by decide +kernel
theorem dX4_thread_23 : decode cX4_thread 23 = .ok (.aload_n 0, 1) := by decide +kernel
theorem dX4_thread_24 : decode cX4_thread 24 = .ok (.getfield 12, 3) := by decide +kernel
theorem dX4_thread_27 : decode cX4_thread 27 = .ok (.iload_n 1, 1) := by decide +kernel
theorem dX4_thread_28 : decode cX4_thread 28 = .ok (.putfield 68, 3) := by decide +kernel
theorem dX4_thread_31 : decode cX4_thread 31 = .ok (.aload_n 0, 1) := by decide +kernel
theorem dX4_thread_32 : decode cX4_thread 32 = .ok (.getfield 12, 3) := by decide +kernel
theorem dX4_thread_35 : decode cX4_thread 35 = .ok (.iload_n 2, 1) := by decide +kernel
theorem dX4_thread_36 : decode cX4_thread 36 = .ok (.putfield 71, 3) := by decide +kernel
theorem dX4_thread_39 : decode cX4_thread 39 = .ok (.iconst 1, 1) := by decide +kernel
theorem dX4_thread_40 : decode cX4_thread 40 = .ok (.ireturn, 1) := by decide +kernel
set_option maxRecDepth 20000 in
theorem ggX4_cell_X0_colourAt : GoodIn wsX4_cell wsX0_colourAt := goodIn_r _ [6, 7, 8, 9, 10, 11, 12, 13, 18, 19, 20, 21, 22, 23, 24, 25] (by decide +kernel) (by decide +kernel)
set_option maxRecDepth 20000 in
theorem gX4_cell_X0_colourAt : GoodIn wsX4_cell (wsV RX4 74 RX0 yX0_colourAt wsX0_colourAt) := goodIn_app (goodIn_of _ (by decide +kernel)) ggX4_cell_X0_colourAt
theorem dX4_cell_0 : decode cX4_cell 0 = .ok (.aload_n 0, 1) := by decide +kernel
theorem dX4_cell_1 : decode cX4_cell 1 = .ok (.getfield 12, 3) := by decide +kernel
theorem dX4_cell_4 : decode cX4_cell 4 = .ok (.iload_n 1, 1) := by decide +kernel
theorem dX4_cell_5 : decode cX4_cell 5 = .ok (.iload_n 2, 1) := by decide +kernel
theorem dX4_cell_6 : decode cX4_cell 6 = .ok (.invokevirtual 74, 3) := by decide +kernel
theorem dX4_cell_9 : decode cX4_cell 9 = .ok (.ireturn, 1) := by decide +kernel
set_option maxRecDepth 20000 in
theorem ggX4_work_X4_isWithin : GoodIn wsX4_work wsX4_isWithin := goodIn_r _ [7] (by decide +kernel) (by decide +kernel)
set_option maxRecDepth 20000 in
theorem gX4_work_X4_isWithin : GoodIn wsX4_work (va_wsS RX4 45 yX4_isWithin wsX4_isWithin) := goodIn_app (goodIn_of _ (by decide +kernel)) ggX4_work_X4_isWithin
set_option maxRecDepth 20000 in
theorem ggX4_work_X3_follow : GoodIn wsX4_work wsX3_follow := goodIn_r _ [12, 13, 14, 15, 16, 17, 18, 11, 19, 20, 21, 22, 23, 24, 25, 26, 27, 28, 29, 30, 31, 32, 33, 34, 35, 36, 37, 38, 39, 40, 41, 42, 43, 6, 44, 4, 5, 7, 45, 46, 47, 48, 49, 50, 51, 52, 53, 54, 55, 56, 57, 58, 59, 60, 61, 62, 63, 64, 65, 66, 67, 68, 69, 70, 71, 72, 73, 74, 75, 76, 77, 78, 79, 80, 81, 82, 83, 84, 85, 86, 87, 88, 89, 90, 91, 92, 93, 94, 95, 96, 97, 98, 99, 100, 101, 102, 103, 104, 105, 106, 107, 108, 109, 110, 111, 112, 113, 114, 115, 116, 117, 118, 119, 120, 121, 122, 123, 124, 125, 126, 127, 128, 129, 130, 131, 132, 133, 134, 135, 136, 137, 138, 139, 140, 141, 142, 143, 144, 145, 146, 147, 148, 149, 150, 151, 152, 153, 154, 155, 156, 157, 158, 159, 160, 161, 162, 163, 168, 169, 170, 171, 172, 173, 174, 175, 176, 177, 178, 179, 180, 181, 182, 183, 184, 185, 186, 187, 188, 189, 190, 191, 192, 193, 194, 195, 196] (by decide +kernel) (by decide +kernel)
set_option maxRecDepth 20000 in
theorem gX4_work_X3_follow : GoodIn wsX4_work (wsV RX4 78 RX3 yX3_follow wsX3_follow) := goodIn_app (goodIn_of _ (by decide +kernel)) ggX4_work_X3_follow
theorem dX4_work_0 : decode cX4_work 0 = .ok (.iload_n 1, 1) := by decide +kernel
theorem dX4_work_1 : decode cX4_work 1 = .ok (.iconst 0, 1) := by decide +kernel
theorem dX4_work_2 : decode cX4_work 2 = .ok (.iconst 3, 1) := by decide +kernel
theorem dX4_work_3 : decode cX4_work 3 = .ok (.invokestatic 45, 3) := by decide +kernel
theorem dX4_work_6 : decode cX4_work 6 = .ok (.ifCond .ne 5, 3) := by decide +kernel
theorem dX4_work_9 : decode cX4_work 9 = .ok (.iconst (-1), 1) := by decide +kernel
theorem dX4_work_10 : decode cX4_work 10 = .ok (.ireturn, 1) := by decide +kernel
theorem dX4_work_11 : decode cX4_work 11 = .ok (.aload_n 0, 1) := by decide +kernel
theorem dX4_work_12 : decode cX4_work 12 = .ok (.getfield 19, 3) := by decide +kernel
theorem dX4_work_15 : decode cX4_work 15 = .ok (.aload_n 0, 1) := by decide +kernel
theorem dX4_work_16 : decode cX4_work 16 = .ok (.getfield 12, 3) := by decide +kernel
theorem dX4_work_19 : decode cX4_work 19 = .ok (.iload_n 1, 1) := by decide +kernel
theorem dX4_work_20 : decode cX4_work 20 = .ok (.invokevirtual 78, 3) := by decide +kernel
theorem dX4_work_23 : decode cX4_work 23 = .ok (.aload_n 0, 1) := by decide +kernel
theorem dX4_work_24 : decode cX4_work 24 = .ok (.getfield 19, 3) := by decide +kernel
theorem dX4_work_27 : decode cX4_work 27 = .ok (.getfield 82, 3) := by decide +kernel
theorem dX4_work_30 : decode cX4_work 30 = .ok (.ireturn, 1) := by decide +kernel
set_option maxRecDepth 20000 in
theorem ggX4_worked_X4_rowOf : GoodIn wsX4_worked wsX4_rowOf := goodIn_r _ [12] (by decide +kernel) (by decide +kernel)
set_option maxRecDepth 20000 in
theorem gX4_worked_X4_rowOf : GoodIn wsX4_worked (va_wsS RX4 95 yX4_rowOf wsX4_rowOf) := goodIn_app (goodIn_of _ (by decide +kernel)) ggX4_worked_X4_rowOf
set_option maxRecDepth 20000 in
theorem ggX4_worked_X4_columnOf : GoodIn wsX4_worked wsX4_columnOf := goodIn_r _ [15] (by decide +kernel) (by decide +kernel)
set_option maxRecDepth 20000 in
theorem gX4_worked_X4_columnOf : GoodIn wsX4_worked (va_wsS RX4 99 yX4_columnOf wsX4_columnOf) := goodIn_app (goodIn_of _ (by decide +kernel)) ggX4_worked_X4_columnOf
theorem dX4_worked_0 : decode cX4_worked 0 = .ok (.aload_n 0, 1) := by decide +kernel
theorem dX4_worked_1 : decode cX4_worked 1 = .ok (.getfield 19, 3) := by decide +kernel
theorem dX4_worked_4 : decode cX4_worked 4 = .ok (.getfield 85, 3) := by decide +kernel
theorem dX4_worked_7 : decode cX4_worked 7 = .ok (.ifCond .ne 5, 3) := by decide +kernel
theorem dX4_worked_10 : decode cX4_worked 10 = .ok (.iconst (-1), 1) := by decide +kernel
theorem dX4_worked_11 : decode cX4_worked 11 = .ok (.ireturn, 1) := by decide +kernel
theorem dX4_worked_12 : decode cX4_worked 12 = .ok (.iload_n 1, 1) := by decide +kernel
theorem dX4_worked_13 : decode cX4_worked 13 = .ok (.tableswitch 105 0 6 #[43, 51, 62, 73, 81, 89, 97], 43) := by decide +kernel
theorem dX4_worked_56 : decode cX4_worked 56 = .ok (.aload_n 0, 1) := by decide +kernel
theorem dX4_worked_57 : decode cX4_worked 57 = .ok (.getfield 19, 3) := by decide +kernel
theorem dX4_worked_60 : decode cX4_worked 60 = .ok (.getfield 89, 3) := by decide +kernel
theorem dX4_worked_63 : decode cX4_worked 63 = .ok (.ireturn, 1) := by decide +kernel
theorem dX4_worked_64 : decode cX4_worked 64 = .ok (.aload_n 0, 1) := by decide +kernel
theorem dX4_worked_65 : decode cX4_worked 65 = .ok (.getfield 19, 3) := by decide +kernel
theorem dX4_worked_68 : decode cX4_worked 68 = .ok (.getfield 92, 3) := by decide +kernel
theorem dX4_worked_71 : decode cX4_worked 71 = .ok (.invokestatic 95, 3) := by decide +kernel
theorem dX4_worked_74 : decode cX4_worked 74 = .ok (.ireturn, 1) := by decide +kernel
theorem dX4_worked_75 : decode cX4_worked 75 = .ok (.aload_n 0, 1) := by decide +kernel
theorem dX4_worked_76 : decode cX4_worked 76 = .ok (.getfield 19, 3) := by decide +kernel
theorem dX4_worked_79 : decode cX4_worked 79 = .ok (.getfield 92, 3) := by decide +kernel
theorem dX4_worked_82 : decode cX4_worked 82 = .ok (.invokestatic 99, 3) := by decide +kernel
theorem dX4_worked_85 : decode cX4_worked 85 = .ok (.ireturn, 1) := by decide +kernel
theorem dX4_worked_86 : decode cX4_worked 86 = .ok (.aload_n 0, 1) := by decide +kernel
theorem dX4_worked_87 : decode cX4_worked 87 = .ok (.getfield 19, 3) := by decide +kernel
theorem dX4_worked_90 : decode cX4_worked 90 = .ok (.getfield 102, 3) := by decide +kernel
theorem dX4_worked_93 : decode cX4_worked 93 = .ok (.ireturn, 1) := by decide +kernel
theorem dX4_worked_94 : decode cX4_worked 94 = .ok (.aload_n 0, 1) := by decide +kernel
theorem dX4_worked_95 : decode cX4_worked 95 = .ok (.getfield 19, 3) := by decide +kernel
theorem dX4_worked_98 : decode cX4_worked 98 = .ok (.getfield 105, 3) := by decide +kernel
theorem dX4_worked_101 : decode cX4_worked 101 = .ok (.ireturn, 1) := by decide +kernel
theorem dX4_worked_102 : decode cX4_worked 102 = .ok (.aload_n 0, 1) := by decide +kernel
theorem dX4_worked_103 : decode cX4_worked 103 = .ok (.getfield 19, 3) := by decide +kernel
theorem dX4_worked_106 : decode cX4_worked 106 = .ok (.getfield 108, 3) := by decide +kernel
theorem dX4_worked_109 : decode cX4_worked 109 = .ok (.ireturn, 1) := by decide +kernel
theorem dX4_worked_110 : decode cX4_worked 110 = .ok (.aload_n 0, 1) := by decide +kernel
theorem dX4_worked_111 : decode cX4_worked 111 = .ok (.getfield 19, 3) := by decide +kernel
theorem dX4_worked_114 : decode cX4_worked 114 = .ok (.getfield 111, 3) := by decide +kernel
theorem dX4_worked_117 : decode cX4_worked 117 = .ok (.ireturn, 1) := by decide +kernel
theorem dX4_worked_118 : decode cX4_worked 118 = .ok (.iconst (-1), 1) := by decide +kernel
theorem dX4_worked_119 : decode cX4_worked 119 = .ok (.ireturn, 1) := by decide +kernel
set_option maxRecDepth 20000 in
theorem ggX4_picked_X3_has : GoodIn wsX4_picked wsX3_has := goodIn_r _ [10, 11, 29, 30, 31, 32, 33, 34, 35, 36, 37, 38, 39, 40, 41, 42, 43, 44, 45, 46, 47] (by decide +kernel) (by decide +kernel)
set_option maxRecDepth 20000 in
theorem gX4_picked_X3_has : GoodIn wsX4_picked (wsV RX4 114 RX3 yX3_has wsX3_has) := goodIn_app (goodIn_of _ (by decide +kernel)) ggX4_picked_X3_has
set_option maxRecDepth 20000 in
theorem ggX4_picked_X4_rowOf : GoodIn wsX4_picked wsX4_rowOf := goodIn_r _ [15] (by decide +kernel) (by decide +kernel)
set_option maxRecDepth 20000 in
theorem gX4_picked_X4_rowOf : GoodIn wsX4_picked (va_wsS RX4 95 yX4_rowOf wsX4_rowOf) := goodIn_app (goodIn_of _ (by decide +kernel)) ggX4_picked_X4_rowOf
set_option maxRecDepth 20000 in
theorem ggX4_picked_X4_columnOf : GoodIn wsX4_picked wsX4_columnOf := goodIn_r _ [18] (by decide +kernel) (by decide +kernel)
set_option maxRecDepth 20000 in
theorem gX4_picked_X4_columnOf : GoodIn wsX4_picked (va_wsS RX4 99 yX4_columnOf wsX4_columnOf) := goodIn_app (goodIn_of _ (by decide +kernel)) ggX4_picked_X4_columnOf
set_option maxRecDepth 20000 in
theorem ggX4_picked_X3_caughtCount : GoodIn wsX4_picked wsX3_caughtCount := goodIn_r _ [22, 23, 24, 29, 30, 31, 32, 33, 34, 35, 36, 37, 38, 39, 40, 41, 42, 43, 44, 45, 46, 47] (by decide +kernel) (by decide +kernel)
set_option maxRecDepth 20000 in
theorem gX4_picked_X3_caughtCount : GoodIn wsX4_picked (wsV RX4 126 RX3 yX3_caughtCount wsX3_caughtCount) := goodIn_app (goodIn_of _ (by decide +kernel)) ggX4_picked_X3_caughtCount
theorem dX4_picked_0 : decode cX4_picked 0 = .ok (.aload_n 0, 1) := by decide +kernel
theorem dX4_picked_1 : decode cX4_picked 1 = .ok (.getfield 19, 3) := by decide +kernel
theorem dX4_picked_4 : decode cX4_picked 4 = .ok (.iload_n 1, 1) := by decide +kernel
theorem dX4_picked_5 : decode cX4_picked 5 = .ok (.invokevirtual 114, 3) := by decide +kernel
theorem dX4_picked_8 : decode cX4_picked 8 = .ok (.ifCond .ne 5, 3) := by decide +kernel
theorem dX4_picked_11 : decode cX4_picked 11 = .ok (.iconst (-1), 1) := by decide +kernel
theorem dX4_picked_12 : decode cX4_picked 12 = .ok (.ireturn, 1) := by decide +kernel
theorem dX4_picked_13 : decode cX4_picked 13 = .ok (.iload_n 2, 1) := by decide +kernel
theorem dX4_picked_14 : decode cX4_picked 14 = .ok (.tableswitch 103 0 5 #[38, 51, 64, 74, 84, 93], 38) := by decide +kernel
theorem dX4_picked_52 : decode cX4_picked 52 = .ok (.aload_n 0, 1) := by decide +kernel
theorem dX4_picked_53 : decode cX4_picked 53 = .ok (.getfield 19, 3) := by decide +kernel
theorem dX4_picked_56 : decode cX4_picked 56 = .ok (.getfield 117, 3) := by decide +kernel
theorem dX4_picked_59 : decode cX4_picked 59 = .ok (.iload_n 1, 1) := by decide +kernel
theorem dX4_picked_60 : decode cX4_picked 60 = .ok (.iaload, 1) := by decide +kernel
theorem dX4_picked_61 : decode cX4_picked 61 = .ok (.invokestatic 95, 3) := by decide +kernel
theorem dX4_picked_64 : decode cX4_picked 64 = .ok (.ireturn, 1) := by decide +kernel
theorem dX4_picked_65 : decode cX4_picked 65 = .ok (.aload_n 0, 1) := by decide +kernel
theorem dX4_picked_66 : decode cX4_picked 66 = .ok (.getfield 19, 3) := by decide +kernel
theorem dX4_picked_69 : decode cX4_picked 69 = .ok (.getfield 117, 3) := by decide +kernel
theorem dX4_picked_72 : decode cX4_picked 72 = .ok (.iload_n 1, 1) := by decide +kernel
theorem dX4_picked_73 : decode cX4_picked 73 = .ok (.iaload, 1) := by decide +kernel
theorem dX4_picked_74 : decode cX4_picked 74 = .ok (.invokestatic 99, 3) := by decide +kernel
theorem dX4_picked_77 : decode cX4_picked 77 = .ok (.ireturn, 1) := by decide +kernel
theorem dX4_picked_78 : decode cX4_picked 78 = .ok (.aload_n 0, 1) := by decide +kernel
theorem dX4_picked_79 : decode cX4_picked 79 = .ok (.getfield 19, 3) := by decide +kernel
theorem dX4_picked_82 : decode cX4_picked 82 = .ok (.getfield 120, 3) := by decide +kernel
theorem dX4_picked_85 : decode cX4_picked 85 = .ok (.iload_n 1, 1) := by decide +kernel
theorem dX4_picked_86 : decode cX4_picked 86 = .ok (.iaload, 1) := by decide +kernel
theorem dX4_picked_87 : decode cX4_picked 87 = .ok (.ireturn, 1) := by decide +kernel
theorem dX4_picked_88 : decode cX4_picked 88 = .ok (.aload_n 0, 1) := by decide +kernel
theorem dX4_picked_89 : decode cX4_picked 89 = .ok (.getfield 19, 3) := by decide +kernel
theorem dX4_picked_92 : decode cX4_picked 92 = .ok (.getfield 123, 3) := by decide +kernel
theorem dX4_picked_95 : decode cX4_picked 95 = .ok (.iload_n 1, 1) := by decide +kernel
theorem dX4_picked_96 : decode cX4_picked 96 = .ok (.iaload, 1) := by decide +kernel
theorem dX4_picked_97 : decode cX4_picked 97 = .ok (.ireturn, 1) := by decide +kernel
theorem dX4_picked_98 : decode cX4_picked 98 = .ok (.aload_n 0, 1) := by decide +kernel
theorem dX4_picked_99 : decode cX4_picked 99 = .ok (.getfield 19, 3) := by decide +kernel
theorem dX4_picked_102 : decode cX4_picked 102 = .ok (.iload_n 1, 1) := by decide +kernel
theorem dX4_picked_103 : decode cX4_picked 103 = .ok (.invokevirtual 126, 3) := by decide +kernel
theorem dX4_picked_106 : decode cX4_picked 106 = .ok (.ireturn, 1) := by decide +kernel
theorem dX4_picked_107 : decode cX4_picked 107 = .ok (.aload_n 0, 1) := by decide +kernel
theorem dX4_picked_108 : decode cX4_picked 108 = .ok (.getfield 19, 3) := by decide +kernel
theorem dX4_picked_111 : decode cX4_picked 111 = .ok (.getfield 129, 3) := by decide +kernel
theorem dX4_picked_114 : decode cX4_picked 114 = .ok (.iload_n 1, 1) := by decide +kernel
theorem dX4_picked_115 : decode cX4_picked 115 = .ok (.iaload, 1) := by decide +kernel
theorem dX4_picked_116 : decode cX4_picked 116 = .ok (.ireturn, 1) := by decide +kernel
theorem dX4_picked_117 : decode cX4_picked 117 = .ok (.iconst (-1), 1) := by decide +kernel
theorem dX4_picked_118 : decode cX4_picked 118 = .ok (.ireturn, 1) := by decide +kernel
set_option maxRecDepth 20000 in
theorem ggX4_order_X3_pickAt : GoodIn wsX4_order wsX3_pickAt := goodIn_r _ [6, 7, 8, 9, 10, 11, 12, 13, 18, 19, 20, 21, 22, 23, 24, 25, 26, 27, 28, 29, 30, 31, 32, 33, 34, 35, 36] (by decide +kernel) (by decide +kernel)
set_option maxRecDepth 20000 in
theorem gX4_order_X3_pickAt : GoodIn wsX4_order (wsV RX4 132 RX3 yX3_pickAt wsX3_pickAt) := goodIn_app (goodIn_of _ (by decide +kernel)) ggX4_order_X3_pickAt
theorem dX4_order_0 : decode cX4_order 0 = .ok (.aload_n 0, 1) := by decide +kernel
theorem dX4_order_1 : decode cX4_order 1 = .ok (.getfield 19, 3) := by decide +kernel
theorem dX4_order_4 : decode cX4_order 4 = .ok (.iload_n 1, 1) := by decide +kernel
theorem dX4_order_5 : decode cX4_order 5 = .ok (.iload_n 2, 1) := by decide +kernel
theorem dX4_order_6 : decode cX4_order 6 = .ok (.invokevirtual 132, 3) := by decide +kernel
theorem dX4_order_9 : decode cX4_order 9 = .ok (.ireturn, 1) := by decide +kernel
set_option maxRecDepth 20000 in
theorem ggX4_hang_X3_has : GoodIn wsX4_hang wsX3_has := goodIn_r _ [7, 8, 38, 39, 40, 41, 42, 43, 44, 45, 46, 47, 48, 49, 50, 51, 52, 53, 54, 55, 56] (by decide +kernel) (by decide +kernel)
set_option maxRecDepth 20000 in
theorem gX4_hang_X3_has : GoodIn wsX4_hang (wsV RX4 114 RX3 yX3_has wsX3_has) := goodIn_app (goodIn_of _ (by decide +kernel)) ggX4_hang_X3_has
set_option maxRecDepth 20000 in
theorem ggX4_hang_X1_markHanging : GoodIn wsX4_hang wsX1_markHanging := goodIn_r _ [13, 14, 15, 16, 17, 18, 12, 19, 20, 21, 22, 23, 24, 25, 26, 27, 28, 29, 30, 31, 32, 33, 38, 39, 40, 41, 42, 43, 44, 45, 46, 47, 48, 49, 50, 51, 52, 53, 54, 55, 56, 57] (by decide +kernel) (by decide +kernel)
set_option maxRecDepth 20000 in
theorem gX4_hang_X1_markHanging : GoodIn wsX4_hang (wsV RX4 135 RX1 yX1_markHanging wsX1_markHanging) := goodIn_app (goodIn_of _ (by decide +kernel)) ggX4_hang_X1_markHanging
theorem dX4_hang_0 : decode cX4_hang 0 = .ok (.aload_n 0, 1) := by decide +kernel
theorem dX4_hang_1 : decode cX4_hang 1 = .ok (.getfield 19, 3) := by decide +kernel
theorem dX4_hang_4 : decode cX4_hang 4 = .ok (.iload_n 1, 1) := by decide +kernel
theorem dX4_hang_5 : decode cX4_hang 5 = .ok (.invokevirtual 114, 3) := by decide +kernel
theorem dX4_hang_8 : decode cX4_hang 8 = .ok (.ifCond .eq 18, 3) := by decide +kernel
theorem dX4_hang_11 : decode cX4_hang 11 = .ok (.aload_n 0, 1) := by decide +kernel
theorem dX4_hang_12 : decode cX4_hang 12 = .ok (.getfield 29, 3) := by decide +kernel
theorem dX4_hang_15 : decode cX4_hang 15 = .ok (.aload_n 0, 1) := by decide +kernel
theorem dX4_hang_16 : decode cX4_hang 16 = .ok (.getfield 19, 3) := by decide +kernel
theorem dX4_hang_19 : decode cX4_hang 19 = .ok (.iload_n 1, 1) := by decide +kernel
theorem dX4_hang_20 : decode cX4_hang 20 = .ok (.invokevirtual 135, 3) := by decide +kernel
theorem dX4_hang_23 : decode cX4_hang 23 = .ok (.goto 4, 3) := by decide +kernel
theorem dX4_hang_26 : decode cX4_hang 26 = .ok (.iconst (-1), 1) := by decide +kernel
theorem dX4_hang_27 : decode cX4_hang 27 = .ok (.ireturn, 1) := by decide +kernel
set_option maxRecDepth 20000 in
theorem ggX4_pull_X3_has : GoodIn wsX4_pull wsX3_has := goodIn_r _ [7, 8, 55, 56, 57, 58, 59, 60, 61, 62, 63, 64, 65, 66, 67, 68, 69, 70, 71, 72, 73] (by decide +kernel) (by decide +kernel)
set_option maxRecDepth 20000 in
theorem gX4_pull_X3_has : GoodIn wsX4_pull (wsV RX4 114 RX3 yX3_has wsX3_has) := goodIn_app (goodIn_of _ (by decide +kernel)) ggX4_pull_X3_has
set_option maxRecDepth 20000 in
theorem ggX4_pull_X1_markPulledOut : GoodIn wsX4_pull wsX1_markPulledOut := goodIn_r _ [13, 14, 15, 16, 17, 18, 12, 19, 20, 21, 22, 23, 24, 25, 26, 27, 28, 29, 30, 31, 32, 33, 34, 35, 36, 37, 38, 39, 40, 41, 42, 43, 44, 45, 46, 6, 47, 48, 49, 50, 55, 56, 57, 58, 59, 60, 61, 62, 63, 64, 65, 66, 67, 68, 69, 70, 71, 72, 73, 74] (by decide +kernel) (by decide +kernel)
set_option maxRecDepth 20000 in
theorem gX4_pull_X1_markPulledOut : GoodIn wsX4_pull (wsV RX4 139 RX1 yX1_markPulledOut wsX1_markPulledOut) := goodIn_app (goodIn_of _ (by decide +kernel)) ggX4_pull_X1_markPulledOut
theorem dX4_pull_0 : decode cX4_pull 0 = .ok (.aload_n 0, 1) := by decide +kernel
theorem dX4_pull_1 : decode cX4_pull 1 = .ok (.getfield 19, 3) := by decide +kernel
theorem dX4_pull_4 : decode cX4_pull 4 = .ok (.iload_n 1, 1) := by decide +kernel
theorem dX4_pull_5 : decode cX4_pull 5 = .ok (.invokevirtual 114, 3) := by decide +kernel
theorem dX4_pull_8 : decode cX4_pull 8 = .ok (.ifCond .eq 18, 3) := by decide +kernel
theorem dX4_pull_11 : decode cX4_pull 11 = .ok (.aload_n 0, 1) := by decide +kernel
theorem dX4_pull_12 : decode cX4_pull 12 = .ok (.getfield 29, 3) := by decide +kernel
theorem dX4_pull_15 : decode cX4_pull 15 = .ok (.aload_n 0, 1) := by decide +kernel
theorem dX4_pull_16 : decode cX4_pull 16 = .ok (.getfield 19, 3) := by decide +kernel
theorem dX4_pull_19 : decode cX4_pull 19 = .ok (.iload_n 1, 1) := by decide +kernel
theorem dX4_pull_20 : decode cX4_pull 20 = .ok (.invokevirtual 139, 3) := by decide +kernel
theorem dX4_pull_23 : decode cX4_pull 23 = .ok (.goto 4, 3) := by decide +kernel
theorem dX4_pull_26 : decode cX4_pull 26 = .ok (.iconst (-1), 1) := by decide +kernel
theorem dX4_pull_27 : decode cX4_pull 27 = .ok (.ireturn, 1) := by decide +kernel
set_option maxRecDepth 20000 in
theorem ggX4_pulled_X3_has : GoodIn wsX4_pulled wsX3_has := goodIn_r _ [8, 9, 57, 58, 59, 60, 61, 62, 63, 64, 65, 66, 67, 68, 69, 70, 71, 72, 73, 74, 75] (by decide +kernel) (by decide +kernel)
set_option maxRecDepth 20000 in
theorem gX4_pulled_X3_has : GoodIn wsX4_pulled (wsV RX4 114 RX3 yX3_has wsX3_has) := goodIn_app (goodIn_of _ (by decide +kernel)) ggX4_pulled_X3_has
set_option maxRecDepth 20000 in
theorem ggX4_pulled_X1_markPulledOut : GoodIn wsX4_pulled wsX1_markPulledOut := goodIn_r _ [14, 15, 16, 17, 18, 19, 13, 20, 21, 22, 23, 24, 25, 26, 27, 28, 29, 30, 31, 32, 33, 34, 35, 36, 37, 38, 39, 40, 41, 42, 43, 44, 45, 46, 47, 7, 48, 49, 50, 51, 57, 58, 59, 60, 61, 62, 63, 64, 65, 66, 67, 68, 69, 70, 71, 72, 73, 74, 75, 56] (by decide +kernel) (by decide +kernel)
set_option maxRecDepth 20000 in
theorem gX4_pulled_X1_markPulledOut : GoodIn wsX4_pulled (wsV RX4 139 RX1 yX1_markPulledOut wsX1_markPulledOut) := goodIn_app (goodIn_of _ (by decide +kernel)) ggX4_pulled_X1_markPulledOut
theorem dX4_pulled_0 : decode cX4_pulled 0 = .ok (.aload_n 0, 1) := by decide +kernel
theorem dX4_pulled_1 : decode cX4_pulled 1 = .ok (.getfield 19, 3) := by decide +kernel
theorem dX4_pulled_4 : decode cX4_pulled 4 = .ok (.iload_n 1, 1) := by decide +kernel
theorem dX4_pulled_5 : decode cX4_pulled 5 = .ok (.invokevirtual 114, 3) := by decide +kernel
theorem dX4_pulled_8 : decode cX4_pulled 8 = .ok (.ifCond .eq 14, 3) := by decide +kernel
theorem dX4_pulled_11 : decode cX4_pulled 11 = .ok (.aload_n 0, 1) := by decide +kernel
theorem dX4_pulled_12 : decode cX4_pulled 12 = .ok (.getfield 19, 3) := by decide +kernel
theorem dX4_pulled_15 : decode cX4_pulled 15 = .ok (.iload_n 2, 1) := by decide +kernel
theorem dX4_pulled_16 : decode cX4_pulled 16 = .ok (.invokevirtual 114, 3) := by decide +kernel
theorem dX4_pulled_19 : decode cX4_pulled 19 = .ok (.ifCond .ne 5, 3) := by decide +kernel
theorem dX4_pulled_22 : decode cX4_pulled 22 = .ok (.iconst (-1), 1) := by decide +kernel
theorem dX4_pulled_23 : decode cX4_pulled 23 = .ok (.ireturn, 1) := by decide +kernel
theorem dX4_pulled_24 : decode cX4_pulled 24 = .ok (.aload_n 0, 1) := by decide +kernel
theorem dX4_pulled_25 : decode cX4_pulled 25 = .ok (.getfield 29, 3) := by decide +kernel
theorem dX4_pulled_28 : decode cX4_pulled 28 = .ok (.aload_n 0, 1) := by decide +kernel
theorem dX4_pulled_29 : decode cX4_pulled 29 = .ok (.getfield 19, 3) := by decide +kernel
theorem dX4_pulled_32 : decode cX4_pulled 32 = .ok (.iload_n 1, 1) := by decide +kernel
theorem dX4_pulled_33 : decode cX4_pulled 33 = .ok (.invokevirtual 139, 3) := by decide +kernel
theorem dX4_pulled_36 : decode cX4_pulled 36 = .ok (.pop, 1) := by decide +kernel
theorem dX4_pulled_37 : decode cX4_pulled 37 = .ok (.aload_n 0, 1) := by decide +kernel
theorem dX4_pulled_38 : decode cX4_pulled 38 = .ok (.getfield 29, 3) := by decide +kernel
theorem dX4_pulled_41 : decode cX4_pulled 41 = .ok (.getfield 142, 3) := by decide +kernel
theorem dX4_pulled_44 : decode cX4_pulled 44 = .ok (.iload_n 2, 1) := by decide +kernel
theorem dX4_pulled_45 : decode cX4_pulled 45 = .ok (.iaload, 1) := by decide +kernel
theorem dX4_pulled_46 : decode cX4_pulled 46 = .ok (.ireturn, 1) := by decide +kernel
set_option maxRecDepth 20000 in
theorem ggX4_woven_X3_wovenIn : GoodIn wsX4_woven wsX3_wovenIn := goodIn_r _ [6, 7, 8, 9, 14, 15, 16, 17, 18, 19, 20, 21, 22, 23, 24, 25, 26, 27, 28, 29, 30, 31, 32] (by decide +kernel) (by decide +kernel)
set_option maxRecDepth 20000 in
theorem gX4_woven_X3_wovenIn : GoodIn wsX4_woven (wsV RX4 145 RX3 yX3_wovenIn wsX3_wovenIn) := goodIn_app (goodIn_of _ (by decide +kernel)) ggX4_woven_X3_wovenIn
theorem dX4_woven_0 : decode cX4_woven 0 = .ok (.aload_n 0, 1) := by decide +kernel
theorem dX4_woven_1 : decode cX4_woven 1 = .ok (.getfield 19, 3) := by decide +kernel
theorem dX4_woven_4 : decode cX4_woven 4 = .ok (.iload_n 1, 1) := by decide +kernel
theorem dX4_woven_5 : decode cX4_woven 5 = .ok (.iload_n 2, 1) := by decide +kernel
theorem dX4_woven_6 : decode cX4_woven 6 = .ok (.invokevirtual 145, 3) := by decide +kernel
theorem dX4_woven_9 : decode cX4_woven 9 = .ok (.ireturn, 1) := by decide +kernel
set_option maxRecDepth 20000 in
theorem ggX4_best_X3_follow : GoodIn wsX4_best wsX3_follow := goodIn_r _ [9, 10, 11, 12, 13, 14, 15, 8, 16, 17, 18, 19, 20, 21, 22, 23, 24, 25, 26, 27, 28, 29, 30, 31, 32, 33, 34, 35, 36, 37, 38, 39, 40, 41, 42, 43, 44, 45, 46, 47, 48, 49, 50, 51, 52, 53, 54, 55, 56, 57, 58, 59, 60, 61, 62, 63, 64, 65, 66, 67, 68, 69, 70, 71, 72, 73, 74, 75, 76, 77, 78, 79, 80, 81, 82, 83, 84, 85, 86, 87, 88, 89, 90, 91, 92, 93, 94, 95, 96, 97, 98, 99, 100, 101, 102, 103, 104, 105, 106, 107, 108, 109, 110, 111, 112, 113, 114, 115, 116, 117, 118, 119, 120, 121, 122, 123, 124, 125, 126, 127, 128, 129, 130, 131, 132, 133, 134, 135, 136, 137, 138, 139, 140, 141, 142, 143, 144, 145, 146, 147, 148, 149, 150, 151, 152, 153, 154, 155, 156, 157, 158, 159, 160, 161, 162, 163, 164, 177, 178, 179, 180, 181, 182, 183, 184, 185, 186, 187, 188, 189, 190, 191, 192, 193, 194, 195, 196, 197, 198, 199, 200, 201, 202, 203, 204, 205] (by decide +kernel) (by decide +kernel)
set_option maxRecDepth 20000 in
theorem gX4_best_X3_follow : GoodIn wsX4_best (wsV RX4 78 RX3 yX3_follow wsX3_follow) := goodIn_app (goodIn_of _ (by decide +kernel)) ggX4_best_X3_follow
set_option maxRecDepth 20000 in
theorem ggX4_best_X3_isCheaperThan : GoodIn wsX4_best wsX3_isCheaperThan := goodIn_r _ [168, 20, 21, 177, 178, 179, 180, 181, 182, 183, 184, 185, 186, 187, 188, 189, 190, 191, 192, 193, 194, 195] (by decide +kernel) (by decide +kernel)
set_option maxRecDepth 20000 in
theorem gX4_best_X3_isCheaperThan : GoodIn wsX4_best (wsV RX4 148 RX3 yX3_isCheaperThan wsX3_isCheaperThan) := goodIn_app (goodIn_of _ (by decide +kernel)) ggX4_best_X3_isCheaperThan
set_option maxRecDepth 20000 in
theorem ggX4_best_X4_tellTrial : GoodIn wsX4_best wsX4_tellTrial := goodIn_r _ [172, 4, 1, 173, 174, 175, 176] (by decide +kernel) (by decide +kernel)
set_option maxRecDepth 20000 in
theorem gX4_best_X4_tellTrial : GoodIn wsX4_best (wsV RX4 152 RX4 yX4_tellTrial wsX4_tellTrial) := goodIn_app (goodIn_of _ (by decide +kernel)) ggX4_best_X4_tellTrial
theorem dX4_best_0 : decode cX4_best 0 = .ok (.iconst (-1), 1) := by decide +kernel
theorem dX4_best_1 : decode cX4_best 1 = .ok (.istore_n 1, 1) := by decide +kernel
theorem dX4_best_2 : decode cX4_best 2 = .ok (.iconst 0, 1) := by decide +kernel
theorem dX4_best_3 : decode cX4_best 3 = .ok (.istore_n 2, 1) := by decide +kernel
theorem dX4_best_4 : decode cX4_best 4 = .ok (.iload_n 2, 1) := by decide +kernel
theorem dX4_best_5 : decode cX4_best 5 = .ok (.iconst 4, 1) := by decide +kernel
theorem dX4_best_6 : decode cX4_best 6 = .ok (.if_icmp .ge 56, 3) := by decide +kernel
theorem dX4_best_9 : decode cX4_best 9 = .ok (.aload_n 0, 1) := by decide +kernel
theorem dX4_best_10 : decode cX4_best 10 = .ok (.getfield 23, 3) := by decide +kernel
theorem dX4_best_13 : decode cX4_best 13 = .ok (.aload_n 0, 1) := by decide +kernel
theorem dX4_best_14 : decode cX4_best 14 = .ok (.getfield 12, 3) := by decide +kernel
theorem dX4_best_17 : decode cX4_best 17 = .ok (.iload_n 2, 1) := by decide +kernel
theorem dX4_best_18 : decode cX4_best 18 = .ok (.invokevirtual 78, 3) := by decide +kernel
theorem dX4_best_21 : decode cX4_best 21 = .ok (.aload_n 0, 1) := by decide +kernel
theorem dX4_best_22 : decode cX4_best 22 = .ok (.getfield 23, 3) := by decide +kernel
theorem dX4_best_25 : decode cX4_best 25 = .ok (.getfield 89, 3) := by decide +kernel
theorem dX4_best_28 : decode cX4_best 28 = .ok (.ifCond .ne 28, 3) := by decide +kernel
theorem dX4_best_31 : decode cX4_best 31 = .ok (.iload_n 1, 1) := by decide +kernel
theorem dX4_best_32 : decode cX4_best 32 = .ok (.iconst (-1), 1) := by decide +kernel
theorem dX4_best_33 : decode cX4_best 33 = .ok (.if_icmp .eq 17, 3) := by decide +kernel
theorem dX4_best_36 : decode cX4_best 36 = .ok (.aload_n 0, 1) := by decide +kernel
theorem dX4_best_37 : decode cX4_best 37 = .ok (.getfield 23, 3) := by decide +kernel
theorem dX4_best_40 : decode cX4_best 40 = .ok (.aload_n 0, 1) := by decide +kernel
theorem dX4_best_41 : decode cX4_best 41 = .ok (.getfield 19, 3) := by decide +kernel
theorem dX4_best_44 : decode cX4_best 44 = .ok (.invokevirtual 148, 3) := by decide +kernel
theorem dX4_best_47 : decode cX4_best 47 = .ok (.ifCond .eq 9, 3) := by decide +kernel
theorem dX4_best_50 : decode cX4_best 50 = .ok (.iload_n 2, 1) := by decide +kernel
theorem dX4_best_51 : decode cX4_best 51 = .ok (.istore_n 1, 1) := by decide +kernel
theorem dX4_best_52 : decode cX4_best 52 = .ok (.aload_n 0, 1) := by decide +kernel
theorem dX4_best_53 : decode cX4_best 53 = .ok (.invokevirtual 152, 3) := by decide +kernel
theorem dX4_best_56 : decode cX4_best 56 = .ok (.iinc 2 1, 3) := by decide +kernel
theorem dX4_best_59 : decode cX4_best 59 = .ok (.goto (-55), 3) := by decide +kernel
theorem dX4_best_62 : decode cX4_best 62 = .ok (.iload_n 1, 1) := by decide +kernel
theorem dX4_best_63 : decode cX4_best 63 = .ok (.ireturn, 1) := by decide +kernel
theorem dX4_tellTrial_0 : decode cX4_tellTrial 0 = .ok (.aload_n 0, 1) := by decide +kernel
theorem dX4_tellTrial_1 : decode cX4_tellTrial 1 = .ok (.getfield 19, 3) := by decide +kernel
theorem dX4_tellTrial_4 : decode cX4_tellTrial 4 = .ok (.astore_n 1, 1) := by decide +kernel
theorem dX4_tellTrial_5 : decode cX4_tellTrial 5 = .ok (.aload_n 0, 1) := by decide +kernel
theorem dX4_tellTrial_6 : decode cX4_tellTrial 6 = .ok (.aload_n 0, 1) := by decide +kernel
theorem dX4_tellTrial_7 : decode cX4_tellTrial 7 = .ok (.getfield 23, 3) := by decide +kernel
theorem dX4_tellTrial_10 : decode cX4_tellTrial 10 = .ok (.putfield 19, 3) := by decide +kernel
theorem dX4_tellTrial_13 : decode cX4_tellTrial 13 = .ok (.aload_n 0, 1) := by decide +kernel
theorem dX4_tellTrial_14 : decode cX4_tellTrial 14 = .ok (.aload_n 1, 1) := by decide +kernel
theorem dX4_tellTrial_15 : decode cX4_tellTrial 15 = .ok (.putfield 23, 3) := by decide +kernel
theorem dX4_tellTrial_18 : decode cX4_tellTrial 18 = .ok (.return_, 1) := by decide +kernel
set_option maxRecDepth 20000 in
theorem ggX4_bought_X4_isColour : GoodIn wsX4_bought wsX4_isColour := goodIn_r _ [6, 7, 8, 5, 9] (by decide +kernel) (by decide +kernel)
set_option maxRecDepth 20000 in
theorem gX4_bought_X4_isColour : GoodIn wsX4_bought (va_wsS RX4 55 yX4_isColour wsX4_isColour) := goodIn_app (goodIn_of _ (by decide +kernel)) ggX4_bought_X4_isColour
set_option maxRecDepth 20000 in
theorem ggX4_bought_X4_isWithin : GoodIn wsX4_bought wsX4_isWithin := goodIn_r _ [9] (by decide +kernel) (by decide +kernel)
set_option maxRecDepth 20000 in
theorem gX4_bought_X4_isWithin : GoodIn wsX4_bought (va_wsS RX4 45 yX4_isWithin wsX4_isWithin) := goodIn_app (goodIn_of _ (by decide +kernel)) ggX4_bought_X4_isWithin
set_option maxRecDepth 20000 in
theorem ggX4_bought_X0_beadsOfColour : GoodIn wsX4_bought wsX0_beadsOfColour := goodIn_r _ [14, 15, 16, 17, 13, 18, 19, 24, 25, 26, 27, 28, 29, 30, 31] (by decide +kernel) (by decide +kernel)
set_option maxRecDepth 20000 in
theorem gX4_bought_X0_beadsOfColour : GoodIn wsX4_bought (wsV RX4 155 RX0 yX0_beadsOfColour wsX0_beadsOfColour) := goodIn_app (goodIn_of _ (by decide +kernel)) ggX4_bought_X0_beadsOfColour
theorem dX4_bought_0 : decode cX4_bought 0 = .ok (.iload_n 1, 1) := by decide +kernel
theorem dX4_bought_1 : decode cX4_bought 1 = .ok (.invokestatic 55, 3) := by decide +kernel
theorem dX4_bought_4 : decode cX4_bought 4 = .ok (.ifCond .eq 14, 3) := by decide +kernel
theorem dX4_bought_7 : decode cX4_bought 7 = .ok (.iload_n 2, 1) := by decide +kernel
theorem dX4_bought_8 : decode cX4_bought 8 = .ok (.iconst 1, 1) := by decide +kernel
theorem dX4_bought_9 : decode cX4_bought 9 = .ok (.sipush 1000, 3) := by decide +kernel
theorem dX4_bought_12 : decode cX4_bought 12 = .ok (.invokestatic 45, 3) := by decide +kernel
theorem dX4_bought_15 : decode cX4_bought 15 = .ok (.ifCond .ne 5, 3) := by decide +kernel
theorem dX4_bought_18 : decode cX4_bought 18 = .ok (.iconst (-1), 1) := by decide +kernel
theorem dX4_bought_19 : decode cX4_bought 19 = .ok (.ireturn, 1) := by decide +kernel
theorem dX4_bought_20 : decode cX4_bought 20 = .ok (.aload_n 0, 1) := by decide +kernel
theorem dX4_bought_21 : decode cX4_bought 21 = .ok (.getfield 12, 3) := by decide +kernel
theorem dX4_bought_24 : decode cX4_bought 24 = .ok (.iload_n 1, 1) := by decide +kernel
theorem dX4_bought_25 : decode cX4_bought 25 = .ok (.invokevirtual 155, 3) := by decide +kernel
theorem dX4_bought_28 : decode cX4_bought 28 = .ok (.aload_n 0, 1) := by decide +kernel
theorem dX4_bought_29 : decode cX4_bought 29 = .ok (.getfield 12, 3) := by decide +kernel
theorem dX4_bought_32 : decode cX4_bought 32 = .ok (.getfield 65, 3) := by decide +kernel
theorem dX4_bought_35 : decode cX4_bought 35 = .ok (.iload_n 1, 1) := by decide +kernel
theorem dX4_bought_36 : decode cX4_bought 36 = .ok (.iaload, 1) := by decide +kernel
theorem dX4_bought_37 : decode cX4_bought 37 = .ok (.imul, 1) := by decide +kernel
theorem dX4_bought_38 : decode cX4_bought 38 = .ok (.istore_n 3, 1) := by decide +kernel
theorem dX4_bought_39 : decode cX4_bought 39 = .ok (.iload_n 2, 1) := by decide +kernel
theorem dX4_bought_40 : decode cX4_bought 40 = .ok (.sipush 1000, 3) := by decide +kernel
theorem dX4_bought_43 : decode cX4_bought 43 = .ok (.imul, 1) := by decide +kernel
theorem dX4_bought_44 : decode cX4_bought 44 = .ok (.istore 4, 2) := by decide +kernel
theorem dX4_bought_46 : decode cX4_bought 46 = .ok (.iload_n 3, 1) := by decide +kernel
theorem dX4_bought_47 : decode cX4_bought 47 = .ok (.iload 4, 2) := by decide +kernel
theorem dX4_bought_49 : decode cX4_bought 49 = .ok (.iadd, 1) := by decide +kernel
theorem dX4_bought_50 : decode cX4_bought 50 = .ok (.iconst 1, 1) := by decide +kernel
theorem dX4_bought_51 : decode cX4_bought 51 = .ok (.isub, 1) := by decide +kernel
theorem dX4_bought_52 : decode cX4_bought 52 = .ok (.iload 4, 2) := by decide +kernel
theorem dX4_bought_54 : decode cX4_bought 54 = .ok (.idiv, 1) := by decide +kernel
theorem dX4_bought_55 : decode cX4_bought 55 = .ok (.ireturn, 1) := by decide +kernel
set_option maxRecDepth 20000 in
theorem ggX4_count_X4_isColour : GoodIn wsX4_count wsX4_isColour := goodIn_r _ [12, 13, 14, 11, 15] (by decide +kernel) (by decide +kernel)
set_option maxRecDepth 20000 in
theorem gX4_count_X4_isColour : GoodIn wsX4_count (va_wsS RX4 55 yX4_isColour wsX4_isColour) := goodIn_app (goodIn_of _ (by decide +kernel)) ggX4_count_X4_isColour
set_option maxRecDepth 20000 in
theorem ggX4_count_X0_beadsOfColour : GoodIn wsX4_count wsX0_beadsOfColour := goodIn_r _ [20, 21, 22, 23, 19, 24, 25, 48, 49, 50, 51, 52, 53, 54, 55] (by decide +kernel) (by decide +kernel)
set_option maxRecDepth 20000 in
theorem gX4_count_X0_beadsOfColour : GoodIn wsX4_count (wsV RX4 155 RX0 yX0_beadsOfColour wsX0_beadsOfColour) := goodIn_app (goodIn_of _ (by decide +kernel)) ggX4_count_X0_beadsOfColour
set_option maxRecDepth 20000 in
theorem ggX4_count_X0_allBeads : GoodIn wsX4_count wsX0_allBeads := goodIn_r _ [29, 21, 22, 23, 19, 24, 25, 48, 49, 50, 51, 52, 53, 54, 55] (by decide +kernel) (by decide +kernel)
set_option maxRecDepth 20000 in
theorem gX4_count_X0_allBeads : GoodIn wsX4_count (wsV RX4 158 RX0 yX0_allBeads wsX0_allBeads) := goodIn_app (goodIn_of _ (by decide +kernel)) ggX4_count_X0_allBeads
set_option maxRecDepth 20000 in
theorem ggX4_count_X0_rowsWithBeads : GoodIn wsX4_count wsX0_rowsWithBeads := goodIn_r _ [33, 34, 35, 36, 19, 37, 38, 39, 40, 41, 25, 42, 11, 43, 13, 14, 15, 48, 49, 50, 51, 52, 53, 54, 55] (by decide +kernel) (by decide +kernel)
set_option maxRecDepth 20000 in
theorem gX4_count_X0_rowsWithBeads : GoodIn wsX4_count (wsV RX4 162 RX0 yX0_rowsWithBeads wsX0_rowsWithBeads) := goodIn_app (goodIn_of _ (by decide +kernel)) ggX4_count_X0_rowsWithBeads
theorem dX4_count_0 : decode cX4_count 0 = .ok (.iload_n 1, 1) := by decide +kernel
theorem dX4_count_1 : decode cX4_count 1 = .ok (.bipush 10, 2) := by decide +kernel
theorem dX4_count_3 : decode cX4_count 3 = .ok (.isub, 1) := by decide +kernel
theorem dX4_count_4 : decode cX4_count 4 = .ok (.invokestatic 55, 3) := by decide +kernel
theorem dX4_count_7 : decode cX4_count 7 = .ok (.ifCond .eq 15, 3) := by decide +kernel
theorem dX4_count_10 : decode cX4_count 10 = .ok (.aload_n 0, 1) := by decide +kernel
theorem dX4_count_11 : decode cX4_count 11 = .ok (.getfield 12, 3) := by decide +kernel
theorem dX4_count_14 : decode cX4_count 14 = .ok (.iload_n 1, 1) := by decide +kernel
theorem dX4_count_15 : decode cX4_count 15 = .ok (.bipush 10, 2) := by decide +kernel
theorem dX4_count_17 : decode cX4_count 17 = .ok (.isub, 1) := by decide +kernel
theorem dX4_count_18 : decode cX4_count 18 = .ok (.invokevirtual 155, 3) := by decide +kernel
theorem dX4_count_21 : decode cX4_count 21 = .ok (.ireturn, 1) := by decide +kernel
theorem dX4_count_22 : decode cX4_count 22 = .ok (.iload_n 1, 1) := by decide +kernel
theorem dX4_count_23 : decode cX4_count 23 = .ok (.bipush 20, 2) := by decide +kernel
theorem dX4_count_25 : decode cX4_count 25 = .ok (.isub, 1) := by decide +kernel
theorem dX4_count_26 : decode cX4_count 26 = .ok (.invokestatic 55, 3) := by decide +kernel
theorem dX4_count_29 : decode cX4_count 29 = .ok (.ifCond .eq 16, 3) := by decide +kernel
theorem dX4_count_32 : decode cX4_count 32 = .ok (.aload_n 0, 1) := by decide +kernel
theorem dX4_count_33 : decode cX4_count 33 = .ok (.getfield 12, 3) := by decide +kernel
theorem dX4_count_36 : decode cX4_count 36 = .ok (.getfield 58, 3) := by decide +kernel
theorem dX4_count_39 : decode cX4_count 39 = .ok (.iload_n 1, 1) := by decide +kernel
theorem dX4_count_40 : decode cX4_count 40 = .ok (.bipush 20, 2) := by decide +kernel
theorem dX4_count_42 : decode cX4_count 42 = .ok (.isub, 1) := by decide +kernel
theorem dX4_count_43 : decode cX4_count 43 = .ok (.iaload, 1) := by decide +kernel
theorem dX4_count_44 : decode cX4_count 44 = .ok (.ireturn, 1) := by decide +kernel
theorem dX4_count_45 : decode cX4_count 45 = .ok (.iload_n 1, 1) := by decide +kernel
theorem dX4_count_46 : decode cX4_count 46 = .ok (.tableswitch 98 0 6 #[42, 50, 58, 66, 74, 82, 90], 42) := by decide +kernel
theorem dX4_count_88 : decode cX4_count 88 = .ok (.aload_n 0, 1) := by decide +kernel
theorem dX4_count_89 : decode cX4_count 89 = .ok (.getfield 12, 3) := by decide +kernel
theorem dX4_count_92 : decode cX4_count 92 = .ok (.invokevirtual 158, 3) := by decide +kernel
theorem dX4_count_95 : decode cX4_count 95 = .ok (.ireturn, 1) := by decide +kernel
theorem dX4_count_96 : decode cX4_count 96 = .ok (.aload_n 0, 1) := by decide +kernel
theorem dX4_count_97 : decode cX4_count 97 = .ok (.getfield 12, 3) := by decide +kernel
theorem dX4_count_100 : decode cX4_count 100 = .ok (.invokevirtual 162, 3) := by decide +kernel
theorem dX4_count_103 : decode cX4_count 103 = .ok (.ireturn, 1) := by decide +kernel
theorem dX4_count_104 : decode cX4_count 104 = .ok (.aload_n 0, 1) := by decide +kernel
theorem dX4_count_105 : decode cX4_count 105 = .ok (.getfield 12, 3) := by decide +kernel
theorem dX4_count_108 : decode cX4_count 108 = .ok (.getfield 41, 3) := by decide +kernel
theorem dX4_count_111 : decode cX4_count 111 = .ok (.ireturn, 1) := by decide +kernel
theorem dX4_count_112 : decode cX4_count 112 = .ok (.aload_n 0, 1) := by decide +kernel
theorem dX4_count_113 : decode cX4_count 113 = .ok (.getfield 12, 3) := by decide +kernel
theorem dX4_count_116 : decode cX4_count 116 = .ok (.getfield 52, 3) := by decide +kernel
theorem dX4_count_119 : decode cX4_count 119 = .ok (.ireturn, 1) := by decide +kernel
theorem dX4_count_120 : decode cX4_count 120 = .ok (.aload_n 0, 1) := by decide +kernel
theorem dX4_count_121 : decode cX4_count 121 = .ok (.getfield 12, 3) := by decide +kernel
theorem dX4_count_124 : decode cX4_count 124 = .ok (.getfield 68, 3) := by decide +kernel
theorem dX4_count_127 : decode cX4_count 127 = .ok (.ireturn, 1) := by decide +kernel
theorem dX4_count_128 : decode cX4_count 128 = .ok (.aload_n 0, 1) := by decide +kernel
theorem dX4_count_129 : decode cX4_count 129 = .ok (.getfield 12, 3) := by decide +kernel
theorem dX4_count_132 : decode cX4_count 132 = .ok (.getfield 71, 3) := by decide +kernel
theorem dX4_count_135 : decode cX4_count 135 = .ok (.ireturn, 1) := by decide +kernel
theorem dX4_count_136 : decode cX4_count 136 = .ok (.aload_n 0, 1) := by decide +kernel
theorem dX4_count_137 : decode cX4_count 137 = .ok (.getfield 19, 3) := by decide +kernel
theorem dX4_count_140 : decode cX4_count 140 = .ok (.getfield 82, 3) := by decide +kernel
theorem dX4_count_143 : decode cX4_count 143 = .ok (.ireturn, 1) := by decide +kernel
theorem dX4_count_144 : decode cX4_count 144 = .ok (.iconst (-1), 1) := by decide +kernel
theorem dX4_count_145 : decode cX4_count 145 = .ok (.ireturn, 1) := by decide +kernel
theorem dX4_isWithin_0 : decode cX4_isWithin 0 = .ok (.iload_n 0, 1) := by decide +kernel
theorem dX4_isWithin_1 : decode cX4_isWithin 1 = .ok (.iload_n 1, 1) := by decide +kernel
theorem dX4_isWithin_2 : decode cX4_isWithin 2 = .ok (.if_icmp .lt 12, 3) := by decide +kernel
theorem dX4_isWithin_5 : decode cX4_isWithin 5 = .ok (.iload_n 0, 1) := by decide +kernel
theorem dX4_isWithin_6 : decode cX4_isWithin 6 = .ok (.iload_n 2, 1) := by decide +kernel
theorem dX4_isWithin_7 : decode cX4_isWithin 7 = .ok (.if_icmp .gt 7, 3) := by decide +kernel
theorem dX4_isWithin_10 : decode cX4_isWithin 10 = .ok (.iconst 1, 1) := by decide +kernel
theorem dX4_isWithin_11 : decode cX4_isWithin 11 = .ok (.goto 4, 3) := by decide +kernel
theorem dX4_isWithin_14 : decode cX4_isWithin 14 = .ok (.iconst 0, 1) := by decide +kernel
theorem dX4_isWithin_15 : decode cX4_isWithin 15 = .ok (.ireturn, 1) := by decide +kernel
set_option maxRecDepth 20000 in
theorem ggX4_isColour_X4_isWithin : GoodIn wsX4_isColour wsX4_isWithin := goodIn_r _ [4] (by decide +kernel) (by decide +kernel)
set_option maxRecDepth 20000 in
theorem gX4_isColour_X4_isWithin : GoodIn wsX4_isColour (va_wsS RX4 45 yX4_isWithin wsX4_isWithin) := goodIn_app (goodIn_of _ (by decide +kernel)) ggX4_isColour_X4_isWithin
theorem dX4_isColour_0 : decode cX4_isColour 0 = .ok (.iload_n 0, 1) := by decide +kernel
theorem dX4_isColour_1 : decode cX4_isColour 1 = .ok (.iconst 0, 1) := by decide +kernel
theorem dX4_isColour_2 : decode cX4_isColour 2 = .ok (.iconst 5, 1) := by decide +kernel
theorem dX4_isColour_3 : decode cX4_isColour 3 = .ok (.invokestatic 45, 3) := by decide +kernel
theorem dX4_isColour_6 : decode cX4_isColour 6 = .ok (.ireturn, 1) := by decide +kernel
set_option maxRecDepth 20000 in
theorem ggX4_isCell_X4_isWithin : GoodIn wsX4_isCell wsX4_isWithin := goodIn_r _ [4] (by decide +kernel) (by decide +kernel)
set_option maxRecDepth 20000 in
theorem gX4_isCell_X4_isWithin : GoodIn wsX4_isCell (va_wsS RX4 45 yX4_isWithin wsX4_isWithin) := goodIn_app (goodIn_of _ (by decide +kernel)) ggX4_isCell_X4_isWithin
theorem dX4_isCell_0 : decode cX4_isCell 0 = .ok (.iload_n 0, 1) := by decide +kernel
theorem dX4_isCell_1 : decode cX4_isCell 1 = .ok (.iconst 0, 1) := by decide +kernel
theorem dX4_isCell_2 : decode cX4_isCell 2 = .ok (.bipush 11, 2) := by decide +kernel
theorem dX4_isCell_4 : decode cX4_isCell 4 = .ok (.invokestatic 45, 3) := by decide +kernel
theorem dX4_isCell_7 : decode cX4_isCell 7 = .ok (.ifCond .eq 17, 3) := by decide +kernel
theorem dX4_isCell_10 : decode cX4_isCell 10 = .ok (.iload_n 1, 1) := by decide +kernel
theorem dX4_isCell_11 : decode cX4_isCell 11 = .ok (.iconst 0, 1) := by decide +kernel
theorem dX4_isCell_12 : decode cX4_isCell 12 = .ok (.bipush 11, 2) := by decide +kernel
theorem dX4_isCell_14 : decode cX4_isCell 14 = .ok (.invokestatic 45, 3) := by decide +kernel
theorem dX4_isCell_17 : decode cX4_isCell 17 = .ok (.ifCond .eq 7, 3) := by decide +kernel
theorem dX4_isCell_20 : decode cX4_isCell 20 = .ok (.iconst 1, 1) := by decide +kernel
theorem dX4_isCell_21 : decode cX4_isCell 21 = .ok (.goto 4, 3) := by decide +kernel
theorem dX4_isCell_24 : decode cX4_isCell 24 = .ok (.iconst 0, 1) := by decide +kernel
theorem dX4_isCell_25 : decode cX4_isCell 25 = .ok (.ireturn, 1) := by decide +kernel
theorem dX4_rowOf_0 : decode cX4_rowOf 0 = .ok (.iload_n 0, 1) := by decide +kernel
theorem dX4_rowOf_1 : decode cX4_rowOf 1 = .ok (.iconst (-1), 1) := by decide +kernel
theorem dX4_rowOf_2 : decode cX4_rowOf 2 = .ok (.if_icmp .ne 7, 3) := by decide +kernel
theorem dX4_rowOf_5 : decode cX4_rowOf 5 = .ok (.iconst (-1), 1) := by decide +kernel
theorem dX4_rowOf_6 : decode cX4_rowOf 6 = .ok (.goto 7, 3) := by decide +kernel
theorem dX4_rowOf_9 : decode cX4_rowOf 9 = .ok (.iload_n 0, 1) := by decide +kernel
theorem dX4_rowOf_10 : decode cX4_rowOf 10 = .ok (.bipush 12, 2) := by decide +kernel
theorem dX4_rowOf_12 : decode cX4_rowOf 12 = .ok (.idiv, 1) := by decide +kernel
theorem dX4_rowOf_13 : decode cX4_rowOf 13 = .ok (.ireturn, 1) := by decide +kernel
theorem dX4_columnOf_0 : decode cX4_columnOf 0 = .ok (.iload_n 0, 1) := by decide +kernel
theorem dX4_columnOf_1 : decode cX4_columnOf 1 = .ok (.iconst (-1), 1) := by decide +kernel
theorem dX4_columnOf_2 : decode cX4_columnOf 2 = .ok (.if_icmp .ne 7, 3) := by decide +kernel
theorem dX4_columnOf_5 : decode cX4_columnOf 5 = .ok (.iconst (-1), 1) := by decide +kernel
theorem dX4_columnOf_6 : decode cX4_columnOf 6 = .ok (.goto 7, 3) := by decide +kernel
theorem dX4_columnOf_9 : decode cX4_columnOf 9 = .ok (.iload_n 0, 1) := by decide +kernel
theorem dX4_columnOf_10 : decode cX4_columnOf 10 = .ok (.bipush 12, 2) := by decide +kernel
theorem dX4_columnOf_12 : decode cX4_columnOf 12 = .ok (.irem, 1) := by decide +kernel
theorem dX4_columnOf_13 : decode cX4_columnOf 13 = .ok (.ireturn, 1) := by decide +kernel
theorem dX5_init_0 : decode cX5_init 0 = .ok (.aload_n 0, 1) := by decide +kernel
theorem dX5_init_1 : decode cX5_init 1 = .ok (.invokespecial 1, 3) := by decide +kernel
theorem dX5_init_4 : decode cX5_init 4 = .ok (.aload_n 0, 1) := by decide +kernel
theorem dX5_init_5 : decode cX5_init 5 = .ok (.sipush 144, 3) := by decide +kernel
theorem dX5_init_8 : decode cX5_init 8 = .ok (.newarray .int, 2) := by decide +kernel
theorem dX5_init_10 : decode cX5_init 10 = .ok (.putfield 7, 3) := by decide +kernel
theorem dX5_init_13 : decode cX5_init 13 = .ok (.aload_n 0, 1) := by decide +kernel
theorem dX5_init_14 : decode cX5_init 14 = .ok (.bipush 6, 2) := by decide +kernel
theorem dX5_init_16 : decode cX5_init 16 = .ok (.newarray .int, 2) := by decide +kernel
theorem dX5_init_18 : decode cX5_init 18 = .ok (.dup, 1) := by decide +kernel
theorem dX5_init_19 : decode cX5_init 19 = .ok (.iconst 0, 1) := by decide +kernel
theorem dX5_init_20 : decode cX5_init 20 = .ok (.iconst 3, 1) := by decide +kernel
theorem dX5_init_21 : decode cX5_init 21 = .ok (.iastore, 1) := by decide +kernel
theorem dX5_init_22 : decode cX5_init 22 = .ok (.dup, 1) := by decide +kernel
theorem dX5_init_23 : decode cX5_init 23 = .ok (.iconst 1, 1) := by decide +kernel
theorem dX5_init_24 : decode cX5_init 24 = .ok (.iconst 3, 1) := by decide +kernel
theorem dX5_init_25 : decode cX5_init 25 = .ok (.iastore, 1) := by decide +kernel
theorem dX5_init_26 : decode cX5_init 26 = .ok (.dup, 1) := by decide +kernel
theorem dX5_init_27 : decode cX5_init 27 = .ok (.iconst 2, 1) := by decide +kernel
theorem dX5_init_28 : decode cX5_init 28 = .ok (.iconst 3, 1) := by decide +kernel
theorem dX5_init_29 : decode cX5_init 29 = .ok (.iastore, 1) := by decide +kernel
theorem dX5_init_30 : decode cX5_init 30 = .ok (.dup, 1) := by decide +kernel
theorem dX5_init_31 : decode cX5_init 31 = .ok (.iconst 3, 1) := by decide +kernel
theorem dX5_init_32 : decode cX5_init 32 = .ok (.iconst 3, 1) := by decide +kernel
theorem dX5_init_33 : decode cX5_init 33 = .ok (.iastore, 1) := by decide +kernel
theorem dX5_init_34 : decode cX5_init 34 = .ok (.dup, 1) := by decide +kernel
theorem dX5_init_35 : decode cX5_init 35 = .ok (.iconst 4, 1) := by decide +kernel
theorem dX5_init_36 : decode cX5_init 36 = .ok (.iconst 3, 1) := by decide +kernel
theorem dX5_init_37 : decode cX5_init 37 = .ok (.iastore, 1) := by decide +kernel
theorem dX5_init_38 : decode cX5_init 38 = .ok (.dup, 1) := by decide +kernel
theorem dX5_init_39 : decode cX5_init 39 = .ok (.iconst 5, 1) := by decide +kernel
theorem dX5_init_40 : decode cX5_init 40 = .ok (.iconst 3, 1) := by decide +kernel
theorem dX5_init_41 : decode cX5_init 41 = .ok (.iastore, 1) := by decide +kernel
theorem dX5_init_42 : decode cX5_init 42 = .ok (.putfield 13, 3) := by decide +kernel
theorem dX5_init_45 : decode cX5_init 45 = .ok (.aload_n 0, 1) := by decide +kernel
theorem dX5_init_46 : decode cX5_init 46 = .ok (.bipush 6, 2) := by decide +kernel
theorem dX5_init_48 : decode cX5_init 48 = .ok (.newarray .int, 2) := by decide +kernel
theorem dX5_init_50 : decode cX5_init 50 = .ok (.dup, 1) := by decide +kernel
theorem dX5_init_51 : decode cX5_init 51 = .ok (.iconst 0, 1) := by decide +kernel
theorem dX5_init_52 : decode cX5_init 52 = .ok (.iconst 1, 1) := by decide +kernel
theorem dX5_init_53 : decode cX5_init 53 = .ok (.iastore, 1) := by decide +kernel
theorem dX5_init_54 : decode cX5_init 54 = .ok (.dup, 1) := by decide +kernel
theorem dX5_init_55 : decode cX5_init 55 = .ok (.iconst 1, 1) := by decide +kernel
theorem dX5_init_56 : decode cX5_init 56 = .ok (.iconst 1, 1) := by decide +kernel
theorem dX5_init_57 : decode cX5_init 57 = .ok (.iastore, 1) := by decide +kernel
theorem dX5_init_58 : decode cX5_init 58 = .ok (.dup, 1) := by decide +kernel
theorem dX5_init_59 : decode cX5_init 59 = .ok (.iconst 2, 1) := by decide +kernel
theorem dX5_init_60 : decode cX5_init 60 = .ok (.iconst 1, 1) := by decide +kernel
theorem dX5_init_61 : decode cX5_init 61 = .ok (.iastore, 1) := by decide +kernel
theorem dX5_init_62 : decode cX5_init 62 = .ok (.dup, 1) := by decide +kernel
theorem dX5_init_63 : decode cX5_init 63 = .ok (.iconst 3, 1) := by decide +kernel
theorem dX5_init_64 : decode cX5_init 64 = .ok (.iconst 1, 1) := by decide +kernel
theorem dX5_init_65 : decode cX5_init 65 = .ok (.iastore, 1) := by decide +kernel
theorem dX5_init_66 : decode cX5_init 66 = .ok (.dup, 1) := by decide +kernel
theorem dX5_init_67 : decode cX5_init 67 = .ok (.iconst 4, 1) := by decide +kernel
theorem dX5_init_68 : decode cX5_init 68 = .ok (.iconst 1, 1) := by decide +kernel
theorem dX5_init_69 : decode cX5_init 69 = .ok (.iastore, 1) := by decide +kernel
theorem dX5_init_70 : decode cX5_init 70 = .ok (.dup, 1) := by decide +kernel
theorem dX5_init_71 : decode cX5_init 71 = .ok (.iconst 5, 1) := by decide +kernel
theorem dX5_init_72 : decode cX5_init 72 = .ok (.iconst 1, 1) := by decide +kernel
theorem dX5_init_73 : decode cX5_init 73 = .ok (.iastore, 1) := by decide +kernel
theorem dX5_init_74 : decode cX5_init 74 = .ok (.putfield 16, 3) := by decide +kernel
theorem dX5_init_77 : decode cX5_init 77 = .ok (.aload_n 0, 1) := by decide +kernel
theorem dX5_init_78 : decode cX5_init 78 = .ok (.bipush 6, 2) := by decide +kernel
end
section
theorem dX5_init_80 : decode cX5_init 80 = .ok (.newarray .int, 2) := by decide +kernel
theorem dX5_init_82 : decode cX5_init 82 = .ok (.dup, 1) := by decide +kernel
theorem dX5_init_83 : decode cX5_init 83 = .ok (.iconst 0, 1) := by decide +kernel
theorem dX5_init_84 : decode cX5_init 84 = .ok (.iconst 5, 1) := by decide +kernel
theorem dX5_init_85 : decode cX5_init 85 = .ok (.iastore, 1) := by decide +kernel
theorem dX5_init_86 : decode cX5_init 86 = .ok (.dup, 1) := by decide +kernel
theorem dX5_init_87 : decode cX5_init 87 = .ok (.iconst 1, 1) := by decide +kernel
theorem dX5_init_88 : decode cX5_init 88 = .ok (.iconst 5, 1) := by decide +kernel
theorem dX5_init_89 : decode cX5_init 89 = .ok (.iastore, 1) := by decide +kernel
theorem dX5_init_90 : decode cX5_init 90 = .ok (.dup, 1) := by decide +kernel
theorem dX5_init_91 : decode cX5_init 91 = .ok (.iconst 2, 1) := by decide +kernel
theorem dX5_init_92 : decode cX5_init 92 = .ok (.iconst 5, 1) := by decide +kernel
theorem dX5_init_93 : decode cX5_init 93 = .ok (.iastore, 1) := by decide +kernel
theorem dX5_init_94 : decode cX5_init 94 = .ok (.dup, 1) := by decide +kernel
theorem dX5_init_95 : decode cX5_init 95 = .ok (.iconst 3, 1) := by decide +kernel
theorem dX5_init_96 : decode cX5_init 96 = .ok (.iconst 5, 1) := by decide +kernel
theorem dX5_init_97 : decode cX5_init 97 = .ok (.iastore, 1) := by decide +kernel
theorem dX5_init_98 : decode cX5_init 98 = .ok (.dup, 1) := by decide +kernel
theorem dX5_init_99 : decode cX5_init 99 = .ok (.iconst 4, 1) := by decide +kernel
theorem dX5_init_100 : decode cX5_init 100 = .ok (.iconst 5, 1) := by decide +kernel
theorem dX5_init_101 : decode cX5_init 101 = .ok (.iastore, 1) := by decide +kernel
theorem dX5_init_102 : decode cX5_init 102 = .ok (.dup, 1) := by decide +kernel
theorem dX5_init_103 : decode cX5_init 103 = .ok (.iconst 5, 1) := by decide +kernel
theorem dX5_init_104 : decode cX5_init 104 = .ok (.iconst 5, 1) := by decide +kernel
theorem dX5_init_105 : decode cX5_init 105 = .ok (.iastore, 1) := by decide +kernel
theorem dX5_init_106 : decode cX5_init 106 = .ok (.putfield 19, 3) := by decide +kernel
theorem dX5_init_109 : decode cX5_init 109 = .ok (.aload_n 0, 1) := by decide +kernel
theorem dX5_init_110 : decode cX5_init 110 = .ok (.sipush 1000, 3) := by decide +kernel
theorem dX5_init_113 : decode cX5_init 113 = .ok (.putfield 22, 3) := by decide +kernel
theorem dX5_init_116 : decode cX5_init 116 = .ok (.aload_n 0, 1) := by decide +kernel
theorem dX5_init_117 : decode cX5_init 117 = .ok (.iconst 2, 1) := by decide +kernel
theorem dX5_init_118 : decode cX5_init 118 = .ok (.putfield 26, 3) := by decide +kernel
theorem dX5_init_121 : decode cX5_init 121 = .ok (.aload_n 0, 1) := by decide +kernel
theorem dX5_init_122 : decode cX5_init 122 = .ok (.sipush 144, 3) := by decide +kernel
theorem dX5_init_125 : decode cX5_init 125 = .ok (.newarray .int, 2) := by decide +kernel
theorem dX5_init_127 : decode cX5_init 127 = .ok (.putfield 29, 3) := by decide +kernel
theorem dX5_init_130 : decode cX5_init 130 = .ok (.aload_n 0, 1) := by decide +kernel
theorem dX5_init_131 : decode cX5_init 131 = .ok (.sipush 144, 3) := by decide +kernel
theorem dX5_init_134 : decode cX5_init 134 = .ok (.newarray .int, 2) := by decide +kernel
theorem dX5_init_136 : decode cX5_init 136 = .ok (.putfield 32, 3) := by decide +kernel
theorem dX5_init_139 : decode cX5_init 139 = .ok (.aload_n 0, 1) := by decide +kernel
theorem dX5_init_140 : decode cX5_init 140 = .ok (.sipush 144, 3) := by decide +kernel
theorem dX5_init_143 : decode cX5_init 143 = .ok (.newarray .int, 2) := by decide +kernel
theorem dX5_init_145 : decode cX5_init 145 = .ok (.putfield 35, 3) := by decide +kernel
theorem dX5_init_148 : decode cX5_init 148 = .ok (.aload_n 0, 1) := by decide +kernel
theorem dX5_init_149 : decode cX5_init 149 = .ok (.sipush 144, 3) := by decide +kernel
theorem dX5_init_152 : decode cX5_init 152 = .ok (.newarray .int, 2) := by decide +kernel
theorem dX5_init_154 : decode cX5_init 154 = .ok (.putfield 38, 3) := by decide +kernel
theorem dX5_init_157 : decode cX5_init 157 = .ok (.aload_n 0, 1) := by decide +kernel
theorem dX5_init_158 : decode cX5_init 158 = .ok (.sipush 144, 3) := by decide +kernel
theorem dX5_init_161 : decode cX5_init 161 = .ok (.newarray .int, 2) := by decide +kernel
theorem dX5_init_163 : decode cX5_init 163 = .ok (.putfield 41, 3) := by decide +kernel
theorem dX5_init_166 : decode cX5_init 166 = .ok (.aload_n 0, 1) := by decide +kernel
theorem dX5_init_167 : decode cX5_init 167 = .ok (.sipush 144, 3) := by decide +kernel
theorem dX5_init_170 : decode cX5_init 170 = .ok (.newarray .int, 2) := by decide +kernel
theorem dX5_init_172 : decode cX5_init 172 = .ok (.putfield 44, 3) := by decide +kernel
theorem dX5_init_175 : decode cX5_init 175 = .ok (.aload_n 0, 1) := by decide +kernel
theorem dX5_init_176 : decode cX5_init 176 = .ok (.sipush 144, 3) := by decide +kernel
theorem dX5_init_179 : decode cX5_init 179 = .ok (.newarray .int, 2) := by decide +kernel
theorem dX5_init_181 : decode cX5_init 181 = .ok (.putfield 47, 3) := by decide +kernel
theorem dX5_init_184 : decode cX5_init 184 = .ok (.aload_n 0, 1) := by decide +kernel
theorem dX5_init_185 : decode cX5_init 185 = .ok (.sipush 150, 3) := by decide +kernel
theorem dX5_init_188 : decode cX5_init 188 = .ok (.newarray .int, 2) := by decide +kernel
theorem dX5_init_190 : decode cX5_init 190 = .ok (.putfield 50, 3) := by decide +kernel
theorem dX5_init_193 : decode cX5_init 193 = .ok (.aload_n 0, 1) := by decide +kernel
theorem dX5_init_194 : decode cX5_init 194 = .ok (.sipush 900, 3) := by decide +kernel
theorem dX5_init_197 : decode cX5_init 197 = .ok (.newarray .int, 2) := by decide +kernel
theorem dX5_init_199 : decode cX5_init 199 = .ok (.putfield 53, 3) := by decide +kernel
theorem dX5_init_202 : decode cX5_init 202 = .ok (.aload_n 0, 1) := by decide +kernel
theorem dX5_init_203 : decode cX5_init 203 = .ok (.bipush 8, 2) := by decide +kernel
theorem dX5_init_205 : decode cX5_init 205 = .ok (.newarray .int, 2) := by decide +kernel
theorem dX5_init_207 : decode cX5_init 207 = .ok (.putfield 56, 3) := by decide +kernel
theorem dX5_init_210 : decode cX5_init 210 = .ok (.aload_n 0, 1) := by decide +kernel
theorem dX5_init_211 : decode cX5_init 211 = .ok (.bipush 6, 2) := by decide +kernel
theorem dX5_init_213 : decode cX5_init 213 = .ok (.newarray .int, 2) := by decide +kernel
theorem dX5_init_215 : decode cX5_init 215 = .ok (.putfield 59, 3) := by decide +kernel
theorem dX5_init_218 : decode cX5_init 218 = .ok (.aload_n 0, 1) := by decide +kernel
theorem dX5_init_219 : decode cX5_init 219 = .ok (.bipush 6, 2) := by decide +kernel
theorem dX5_init_221 : decode cX5_init 221 = .ok (.newarray .int, 2) := by decide +kernel
theorem dX5_init_223 : decode cX5_init 223 = .ok (.putfield 62, 3) := by decide +kernel
theorem dX5_init_226 : decode cX5_init 226 = .ok (.aload_n 0, 1) := by decide +kernel
theorem dX5_init_227 : decode cX5_init 227 = .ok (.sipush 144, 3) := by decide +kernel
theorem dX5_init_230 : decode cX5_init 230 = .ok (.newarray .int, 2) := by decide +kernel
theorem dX5_init_232 : decode cX5_init 232 = .ok (.putfield 65, 3) := by decide +kernel
theorem dX5_init_235 : decode cX5_init 235 = .ok (.aload_n 0, 1) := by decide +kernel
theorem dX5_init_236 : decode cX5_init 236 = .ok (.sipush 144, 3) := by decide +kernel
theorem dX5_init_239 : decode cX5_init 239 = .ok (.newarray .int, 2) := by decide +kernel
theorem dX5_init_241 : decode cX5_init 241 = .ok (.putfield 68, 3) := by decide +kernel
theorem dX5_init_244 : decode cX5_init 244 = .ok (.aload_n 0, 1) := by decide +kernel
theorem dX5_init_245 : decode cX5_init 245 = .ok (.sipush 144, 3) := by decide +kernel
theorem dX5_init_248 : decode cX5_init 248 = .ok (.newarray .int, 2) := by decide +kernel
theorem dX5_init_250 : decode cX5_init 250 = .ok (.putfield 71, 3) := by decide +kernel
theorem dX5_init_253 : decode cX5_init 253 = .ok (.aload_n 0, 1) := by decide +kernel
theorem dX5_init_254 : decode cX5_init 254 = .ok (.sipush 144, 3) := by decide +kernel
theorem dX5_init_257 : decode cX5_init 257 = .ok (.newarray .int, 2) := by decide +kernel
theorem dX5_init_259 : decode cX5_init 259 = .ok (.putfield 74, 3) := by decide +kernel
theorem dX5_init_262 : decode cX5_init 262 = .ok (.aload_n 0, 1) := by decide +kernel
theorem dX5_init_263 : decode cX5_init 263 = .ok (.sipush 144, 3) := by decide +kernel
theorem dX5_init_266 : decode cX5_init 266 = .ok (.newarray .int, 2) := by decide +kernel
theorem dX5_init_268 : decode cX5_init 268 = .ok (.putfield 77, 3) := by decide +kernel
theorem dX5_init_271 : decode cX5_init 271 = .ok (.aload_n 0, 1) := by decide +kernel
theorem dX5_init_272 : decode cX5_init 272 = .ok (.sipush 144, 3) := by decide +kernel
theorem dX5_init_275 : decode cX5_init 275 = .ok (.newarray .int, 2) := by decide +kernel
theorem dX5_init_277 : decode cX5_init 277 = .ok (.putfield 80, 3) := by decide +kernel
theorem dX5_init_280 : decode cX5_init 280 = .ok (.aload_n 0, 1) := by decide +kernel
theorem dX5_init_281 : decode cX5_init 281 = .ok (.sipush 144, 3) := by decide +kernel
theorem dX5_init_284 : decode cX5_init 284 = .ok (.newarray .int, 2) := by decide +kernel
theorem dX5_init_286 : decode cX5_init 286 = .ok (.putfield 83, 3) := by decide +kernel
theorem dX5_init_289 : decode cX5_init 289 = .ok (.aload_n 0, 1) := by decide +kernel
theorem dX5_init_290 : decode cX5_init 290 = .ok (.sipush 150, 3) := by decide +kernel
theorem dX5_init_293 : decode cX5_init 293 = .ok (.newarray .int, 2) := by decide +kernel
theorem dX5_init_295 : decode cX5_init 295 = .ok (.putfield 86, 3) := by decide +kernel
theorem dX5_init_298 : decode cX5_init 298 = .ok (.aload_n 0, 1) := by decide +kernel
theorem dX5_init_299 : decode cX5_init 299 = .ok (.sipush 900, 3) := by decide +kernel
theorem dX5_init_302 : decode cX5_init 302 = .ok (.newarray .int, 2) := by decide +kernel
theorem dX5_init_304 : decode cX5_init 304 = .ok (.putfield 89, 3) := by decide +kernel
theorem dX5_init_307 : decode cX5_init 307 = .ok (.aload_n 0, 1) := by decide +kernel
theorem dX5_init_308 : decode cX5_init 308 = .ok (.sipush 144, 3) := by decide +kernel
theorem dX5_init_311 : decode cX5_init 311 = .ok (.newarray .boolean, 2) := by decide +kernel
theorem dX5_init_313 : decode cX5_init 313 = .ok (.putfield 92, 3) := by decide +kernel
theorem dX5_init_316 : decode cX5_init 316 = .ok (.iconst 0, 1) := by decide +kernel
theorem dX5_init_317 : decode cX5_init 317 = .ok (.istore_n 1, 1) := by decide +kernel
theorem dX5_init_318 : decode cX5_init 318 = .ok (.iload_n 1, 1) := by decide +kernel
theorem dX5_init_319 : decode cX5_init 319 = .ok (.sipush 144, 3) := by decide +kernel
theorem dX5_init_322 : decode cX5_init 322 = .ok (.if_icmp .ge 23, 3) := by decide +kernel
theorem dX5_init_325 : decode cX5_init 325 = .ok (.aload_n 0, 1) := by decide +kernel
theorem dX5_init_326 : decode cX5_init 326 = .ok (.getfield 7, 3) := by decide +kernel
theorem dX5_init_329 : decode cX5_init 329 = .ok (.iload_n 1, 1) := by decide +kernel
theorem dX5_init_330 : decode cX5_init 330 = .ok (.iconst (-1), 1) := by decide +kernel
theorem dX5_init_331 : decode cX5_init 331 = .ok (.iastore, 1) := by decide +kernel
theorem dX5_init_332 : decode cX5_init 332 = .ok (.aload_n 0, 1) := by decide +kernel
theorem dX5_init_333 : decode cX5_init 333 = .ok (.getfield 83, 3) := by decide +kernel
theorem dX5_init_336 : decode cX5_init 336 = .ok (.iload_n 1, 1) := by decide +kernel
theorem dX5_init_337 : decode cX5_init 337 = .ok (.iconst (-1), 1) := by decide +kernel
theorem dX5_init_338 : decode cX5_init 338 = .ok (.iastore, 1) := by decide +kernel
theorem dX5_init_339 : decode cX5_init 339 = .ok (.iinc 1 1, 3) := by decide +kernel
theorem dX5_init_342 : decode cX5_init 342 = .ok (.goto (-24), 3) := by decide +kernel
theorem dX5_init_345 : decode cX5_init 345 = .ok (.return_, 1) := by decide +kernel
theorem dX5_in_0 : decode cX5_in 0 = .ok (.iload_n 0, 1) := by decide +kernel
theorem dX5_in_1 : decode cX5_in 1 = .ok (.iload_n 1, 1) := by decide +kernel
theorem dX5_in_2 : decode cX5_in 2 = .ok (.if_icmp .lt 12, 3) := by decide +kernel
theorem dX5_in_5 : decode cX5_in 5 = .ok (.iload_n 0, 1) := by decide +kernel
theorem dX5_in_6 : decode cX5_in 6 = .ok (.iload_n 2, 1) := by decide +kernel
theorem dX5_in_7 : decode cX5_in 7 = .ok (.if_icmp .gt 7, 3) := by decide +kernel
theorem dX5_in_10 : decode cX5_in 10 = .ok (.iconst 1, 1) := by decide +kernel
theorem dX5_in_11 : decode cX5_in 11 = .ok (.goto 4, 3) := by decide +kernel
theorem dX5_in_14 : decode cX5_in 14 = .ok (.iconst 0, 1) := by decide +kernel
theorem dX5_in_15 : decode cX5_in 15 = .ok (.ireturn, 1) := by decide +kernel
theorem dX5_columns_0 : decode cX5_columns 0 = .ok (.aload_n 0, 1) := by decide +kernel
theorem dX5_columns_1 : decode cX5_columns 1 = .ok (.getfield 96, 3) := by decide +kernel
theorem dX5_columns_4 : decode cX5_columns 4 = .ok (.ifCond .ne 8, 3) := by decide +kernel
theorem dX5_columns_7 : decode cX5_columns 7 = .ok (.bipush 12, 2) := by decide +kernel
theorem dX5_columns_9 : decode cX5_columns 9 = .ok (.goto 7, 3) := by decide +kernel
theorem dX5_columns_12 : decode cX5_columns 12 = .ok (.aload_n 0, 1) := by decide +kernel
theorem dX5_columns_13 : decode cX5_columns 13 = .ok (.getfield 96, 3) := by decide +kernel
theorem dX5_columns_16 : decode cX5_columns 16 = .ok (.ireturn, 1) := by decide +kernel
set_option maxRecDepth 20000 in
theorem ggX5_beads_X5_in : GoodIn wsX5_beads wsX5_in := goodIn_r _ [5] (by decide +kernel) (by decide +kernel)
set_option maxRecDepth 20000 in
theorem gX5_beads_X5_in : GoodIn wsX5_beads (va_wsS RX5 99 yX5_in wsX5_in) := goodIn_app (goodIn_of _ (by decide +kernel)) ggX5_beads_X5_in
set_option maxRecDepth 20000 in
theorem ggX5_beads_X5_columns : GoodIn wsX5_beads wsX5_columns := goodIn_r _ [9, 10, 11, 12, 13, 14, 15, 16, 17, 18, 19, 20, 21, 22, 23, 24, 25, 26, 27, 28, 29, 30, 31, 32, 33, 34, 35, 36, 37, 38, 39, 40, 41, 42, 43, 44, 45, 46, 47, 48, 49, 50, 51, 52, 53, 54, 55, 56, 57, 58] (by decide +kernel) (by decide +kernel)
set_option maxRecDepth 20000 in
theorem gX5_beads_X5_columns : GoodIn wsX5_beads (wsV RX5 103 RX5 yX5_columns wsX5_columns) := goodIn_app (goodIn_of _ (by decide +kernel)) ggX5_beads_X5_columns
theorem dX5_beads_0 : decode cX5_beads 0 = .ok (.iload_n 1, 1) := by decide +kernel
theorem dX5_beads_1 : decode cX5_beads 1 = .ok (.iconst 0, 1) := by decide +kernel
theorem dX5_beads_2 : decode cX5_beads 2 = .ok (.bipush 11, 2) := by decide +kernel
theorem dX5_beads_4 : decode cX5_beads 4 = .ok (.invokestatic 99, 3) := by decide +kernel
theorem dX5_beads_7 : decode cX5_beads 7 = .ok (.ifCond .eq 33, 3) := by decide +kernel
theorem dX5_beads_10 : decode cX5_beads 10 = .ok (.iload_n 2, 1) := by decide +kernel
theorem dX5_beads_11 : decode cX5_beads 11 = .ok (.iconst 0, 1) := by decide +kernel
theorem dX5_beads_12 : decode cX5_beads 12 = .ok (.bipush 11, 2) := by decide +kernel
theorem dX5_beads_14 : decode cX5_beads 14 = .ok (.invokestatic 99, 3) := by decide +kernel
theorem dX5_beads_17 : decode cX5_beads 17 = .ok (.ifCond .eq 23, 3) := by decide +kernel
theorem dX5_beads_20 : decode cX5_beads 20 = .ok (.iload_n 3, 1) := by decide +kernel
theorem dX5_beads_21 : decode cX5_beads 21 = .ok (.iconst 1, 1) := by decide +kernel
theorem dX5_beads_22 : decode cX5_beads 22 = .ok (.bipush 12, 2) := by decide +kernel
theorem dX5_beads_24 : decode cX5_beads 24 = .ok (.invokestatic 99, 3) := by decide +kernel
theorem dX5_beads_27 : decode cX5_beads 27 = .ok (.ifCond .eq 13, 3) := by decide +kernel
theorem dX5_beads_30 : decode cX5_beads 30 = .ok (.iload_n 2, 1) := by decide +kernel
theorem dX5_beads_31 : decode cX5_beads 31 = .ok (.iload_n 3, 1) := by decide +kernel
theorem dX5_beads_32 : decode cX5_beads 32 = .ok (.iadd, 1) := by decide +kernel
theorem dX5_beads_33 : decode cX5_beads 33 = .ok (.aload_n 0, 1) := by decide +kernel
theorem dX5_beads_34 : decode cX5_beads 34 = .ok (.invokevirtual 103, 3) := by decide +kernel
theorem dX5_beads_37 : decode cX5_beads 37 = .ok (.if_icmp .le 5, 3) := by decide +kernel
theorem dX5_beads_40 : decode cX5_beads 40 = .ok (.iconst 0, 1) := by decide +kernel
theorem dX5_beads_41 : decode cX5_beads 41 = .ok (.ireturn, 1) := by decide +kernel
theorem dX5_beads_42 : decode cX5_beads 42 = .ok (.iconst 0, 1) := by decide +kernel
theorem dX5_beads_43 : decode cX5_beads 43 = .ok (.istore 6, 2) := by decide +kernel
theorem dX5_beads_45 : decode cX5_beads 45 = .ok (.iload 6, 2) := by decide +kernel
theorem dX5_beads_47 : decode cX5_beads 47 = .ok (.iload_n 3, 1) := by decide +kernel
theorem dX5_beads_48 : decode cX5_beads 48 = .ok (.if_icmp .ge 56, 3) := by decide +kernel
theorem dX5_beads_51 : decode cX5_beads 51 = .ok (.lload 4, 2) := by decide +kernel
theorem dX5_beads_53 : decode cX5_beads 53 = .ok (.iconst 3, 1) := by decide +kernel
theorem dX5_beads_54 : decode cX5_beads 54 = .ok (.iload 6, 2) := by decide +kernel
theorem dX5_beads_56 : decode cX5_beads 56 = .ok (.imul, 1) := by decide +kernel
theorem dX5_beads_57 : decode cX5_beads 57 = .ok (.lshr, 1) := by decide +kernel
theorem dX5_beads_58 : decode cX5_beads 58 = .ok (.l2i, 1) := by decide +kernel
theorem dX5_beads_59 : decode cX5_beads 59 = .ok (.bipush 7, 2) := by decide +kernel
theorem dX5_beads_61 : decode cX5_beads 61 = .ok (.iand, 1) := by decide +kernel
theorem dX5_beads_62 : decode cX5_beads 62 = .ok (.istore 7, 2) := by decide +kernel
theorem dX5_beads_64 : decode cX5_beads 64 = .ok (.iload 7, 2) := by decide +kernel
theorem dX5_beads_66 : decode cX5_beads 66 = .ok (.bipush 7, 2) := by decide +kernel
theorem dX5_beads_68 : decode cX5_beads 68 = .ok (.if_icmp .ge 30, 3) := by decide +kernel
theorem dX5_beads_71 : decode cX5_beads 71 = .ok (.aload_n 0, 1) := by decide +kernel
theorem dX5_beads_72 : decode cX5_beads 72 = .ok (.getfield 7, 3) := by decide +kernel
theorem dX5_beads_75 : decode cX5_beads 75 = .ok (.bipush 12, 2) := by decide +kernel
theorem dX5_beads_77 : decode cX5_beads 77 = .ok (.iload_n 1, 1) := by decide +kernel
theorem dX5_beads_78 : decode cX5_beads 78 = .ok (.imul, 1) := by decide +kernel
theorem dX5_beads_79 : decode cX5_beads 79 = .ok (.iload_n 2, 1) := by decide +kernel
theorem dX5_beads_80 : decode cX5_beads 80 = .ok (.iadd, 1) := by decide +kernel
theorem dX5_beads_81 : decode cX5_beads 81 = .ok (.iload 6, 2) := by decide +kernel
theorem dX5_beads_83 : decode cX5_beads 83 = .ok (.iadd, 1) := by decide +kernel
theorem dX5_beads_84 : decode cX5_beads 84 = .ok (.iload 7, 2) := by decide +kernel
theorem dX5_beads_86 : decode cX5_beads 86 = .ok (.bipush 6, 2) := by decide +kernel
theorem dX5_beads_88 : decode cX5_beads 88 = .ok (.if_icmp .ne 7, 3) := by decide +kernel
theorem dX5_beads_91 : decode cX5_beads 91 = .ok (.iconst (-1), 1) := by decide +kernel
theorem dX5_beads_92 : decode cX5_beads 92 = .ok (.goto 5, 3) := by decide +kernel
theorem dX5_beads_95 : decode cX5_beads 95 = .ok (.iload 7, 2) := by decide +kernel
theorem dX5_beads_97 : decode cX5_beads 97 = .ok (.iastore, 1) := by decide +kernel
theorem dX5_beads_98 : decode cX5_beads 98 = .ok (.iinc 6 1, 3) := by decide +kernel
theorem dX5_beads_101 : decode cX5_beads 101 = .ok (.goto (-56), 3) := by decide +kernel
theorem dX5_beads_104 : decode cX5_beads 104 = .ok (.iconst 1, 1) := by decide +kernel
theorem dX5_beads_105 : decode cX5_beads 105 = .ok (.ireturn, 1) := by decide +kernel
set_option maxRecDepth 20000 in
theorem ggX5_stitch_X5_in : GoodIn wsX5_stitch wsX5_in := goodIn_r _ [5] (by decide +kernel) (by decide +kernel)
set_option maxRecDepth 20000 in
theorem gX5_stitch_X5_in : GoodIn wsX5_stitch (va_wsS RX5 99 yX5_in wsX5_in) := goodIn_app (goodIn_of _ (by decide +kernel)) ggX5_stitch_X5_in
theorem dX5_stitch_0 : decode cX5_stitch 0 = .ok (.iload_n 1, 1) := by decide +kernel
theorem dX5_stitch_1 : decode cX5_stitch 1 = .ok (.iconst 0, 1) := by decide +kernel
theorem dX5_stitch_2 : decode cX5_stitch 2 = .ok (.iconst 1, 1) := by decide +kernel
theorem dX5_stitch_3 : decode cX5_stitch 3 = .ok (.invokestatic 99, 3) := by decide +kernel
theorem dX5_stitch_6 : decode cX5_stitch 6 = .ok (.ifCond .ne 5, 3) := by decide +kernel
theorem dX5_stitch_9 : decode cX5_stitch 9 = .ok (.iconst (-1), 1) := by decide +kernel
theorem dX5_stitch_10 : decode cX5_stitch 10 = .ok (.ireturn, 1) := by decide +kernel
theorem dX5_stitch_11 : decode cX5_stitch 11 = .ok (.aload_n 0, 1) := by decide +kernel
theorem dX5_stitch_12 : decode cX5_stitch 12 = .ok (.getfield 107, 3) := by decide +kernel
theorem dX5_stitch_15 : decode cX5_stitch 15 = .ok (.istore_n 2, 1) := by decide +kernel
theorem dX5_stitch_16 : decode cX5_stitch 16 = .ok (.aload_n 0, 1) := by decide +kernel
theorem dX5_stitch_17 : decode cX5_stitch 17 = .ok (.iload_n 1, 1) := by decide +kernel
theorem dX5_stitch_18 : decode cX5_stitch 18 = .ok (.putfield 107, 3) := by decide +kernel
theorem dX5_stitch_21 : decode cX5_stitch 21 = .ok (.iload_n 2, 1) := by decide +kernel
theorem dX5_stitch_22 : decode cX5_stitch 22 = .ok (.ireturn, 1) := by decide +kernel
set_option maxRecDepth 20000 in
theorem ggX5_ring_X5_in : GoodIn wsX5_ring wsX5_in := goodIn_r _ [6] (by decide +kernel) (by decide +kernel)
set_option maxRecDepth 20000 in
theorem gX5_ring_X5_in : GoodIn wsX5_ring (va_wsS RX5 99 yX5_in wsX5_in) := goodIn_app (goodIn_of _ (by decide +kernel)) ggX5_ring_X5_in
theorem dX5_ring_0 : decode cX5_ring 0 = .ok (.iload_n 1, 1) := by decide +kernel
theorem dX5_ring_1 : decode cX5_ring 1 = .ok (.ifCond .eq 15, 3) := by decide +kernel
theorem dX5_ring_4 : decode cX5_ring 4 = .ok (.iload_n 1, 1) := by decide +kernel
theorem dX5_ring_5 : decode cX5_ring 5 = .ok (.iconst 3, 1) := by decide +kernel
theorem dX5_ring_6 : decode cX5_ring 6 = .ok (.bipush 12, 2) := by decide +kernel
theorem dX5_ring_8 : decode cX5_ring 8 = .ok (.invokestatic 99, 3) := by decide +kernel
theorem dX5_ring_11 : decode cX5_ring 11 = .ok (.ifCond .ne 5, 3) := by decide +kernel
theorem dX5_ring_14 : decode cX5_ring 14 = .ok (.iconst 0, 1) := by decide +kernel
theorem dX5_ring_15 : decode cX5_ring 15 = .ok (.ireturn, 1) := by decide +kernel
theorem dX5_ring_16 : decode cX5_ring 16 = .ok (.iconst 0, 1) := by decide +kernel
theorem dX5_ring_17 : decode cX5_ring 17 = .ok (.istore_n 2, 1) := by decide +kernel
theorem dX5_ring_18 : decode cX5_ring 18 = .ok (.iload_n 2, 1) := by decide +kernel
theorem dX5_ring_19 : decode cX5_ring 19 = .ok (.bipush 12, 2) := by decide +kernel
theorem dX5_ring_21 : decode cX5_ring 21 = .ok (.if_icmp .ge 44, 3) := by decide +kernel
theorem dX5_ring_24 : decode cX5_ring 24 = .ok (.iload_n 1, 1) := by decide +kernel
theorem dX5_ring_25 : decode cX5_ring 25 = .ok (.ifCond .le 40, 3) := by decide +kernel
theorem dX5_ring_28 : decode cX5_ring 28 = .ok (.iload_n 1, 1) := by decide +kernel
theorem dX5_ring_29 : decode cX5_ring 29 = .ok (.istore_n 3, 1) := by decide +kernel
theorem dX5_ring_30 : decode cX5_ring 30 = .ok (.iload_n 3, 1) := by decide +kernel
theorem dX5_ring_31 : decode cX5_ring 31 = .ok (.bipush 12, 2) := by decide +kernel
theorem dX5_ring_33 : decode cX5_ring 33 = .ok (.if_icmp .ge 26, 3) := by decide +kernel
theorem dX5_ring_36 : decode cX5_ring 36 = .ok (.aload_n 0, 1) := by decide +kernel
theorem dX5_ring_37 : decode cX5_ring 37 = .ok (.getfield 7, 3) := by decide +kernel
theorem dX5_ring_40 : decode cX5_ring 40 = .ok (.bipush 12, 2) := by decide +kernel
theorem dX5_ring_42 : decode cX5_ring 42 = .ok (.iload_n 2, 1) := by decide +kernel
theorem dX5_ring_43 : decode cX5_ring 43 = .ok (.imul, 1) := by decide +kernel
theorem dX5_ring_44 : decode cX5_ring 44 = .ok (.iload_n 3, 1) := by decide +kernel
theorem dX5_ring_45 : decode cX5_ring 45 = .ok (.iadd, 1) := by decide +kernel
theorem dX5_ring_46 : decode cX5_ring 46 = .ok (.iaload, 1) := by decide +kernel
theorem dX5_ring_47 : decode cX5_ring 47 = .ok (.iconst (-1), 1) := by decide +kernel
theorem dX5_ring_48 : decode cX5_ring 48 = .ok (.if_icmp .eq 5, 3) := by decide +kernel
theorem dX5_ring_51 : decode cX5_ring 51 = .ok (.iconst 0, 1) := by decide +kernel
theorem dX5_ring_52 : decode cX5_ring 52 = .ok (.ireturn, 1) := by decide +kernel
theorem dX5_ring_53 : decode cX5_ring 53 = .ok (.iinc 3 1, 3) := by decide +kernel
theorem dX5_ring_56 : decode cX5_ring 56 = .ok (.goto (-26), 3) := by decide +kernel
theorem dX5_ring_59 : decode cX5_ring 59 = .ok (.iinc 2 1, 3) := by decide +kernel
theorem dX5_ring_62 : decode cX5_ring 62 = .ok (.goto (-44), 3) := by decide +kernel
theorem dX5_ring_65 : decode cX5_ring 65 = .ok (.aload_n 0, 1) := by decide +kernel
theorem dX5_ring_66 : decode cX5_ring 66 = .ok (.iload_n 1, 1) := by decide +kernel
theorem dX5_ring_67 : decode cX5_ring 67 = .ok (.putfield 96, 3) := by decide +kernel
theorem dX5_ring_70 : decode cX5_ring 70 = .ok (.iconst 1, 1) := by decide +kernel
theorem dX5_ring_71 : decode cX5_ring 71 = .ok (.ireturn, 1) := by decide +kernel
set_option maxRecDepth 20000 in
theorem ggX5_isColour_X5_in : GoodIn wsX5_isColour wsX5_in := goodIn_r _ [4] (by decide +kernel) (by decide +kernel)
set_option maxRecDepth 20000 in
theorem gX5_isColour_X5_in : GoodIn wsX5_isColour (va_wsS RX5 99 yX5_in wsX5_in) := goodIn_app (goodIn_of _ (by decide +kernel)) ggX5_isColour_X5_in
theorem dX5_isColour_0 : decode cX5_isColour 0 = .ok (.iload_n 0, 1) := by decide +kernel
theorem dX5_isColour_1 : decode cX5_isColour 1 = .ok (.iconst 0, 1) := by decide +kernel
theorem dX5_isColour_2 : decode cX5_isColour 2 = .ok (.iconst 5, 1) := by decide +kernel
theorem dX5_isColour_3 : decode cX5_isColour 3 = .ok (.invokestatic 99, 3) := by decide +kernel
theorem dX5_isColour_6 : decode cX5_isColour 6 = .ok (.ireturn, 1) := by decide +kernel
set_option maxRecDepth 20000 in
theorem ggX5_colour_X5_isColour : GoodIn wsX5_colour wsX5_isColour := goodIn_r _ [7, 8, 9, 6, 10] (by decide +kernel) (by decide +kernel)
set_option maxRecDepth 20000 in
theorem gX5_colour_X5_isColour : GoodIn wsX5_colour (va_wsS RX5 110 yX5_isColour wsX5_isColour) := goodIn_app (goodIn_of _ (by decide +kernel)) ggX5_colour_X5_isColour
set_option maxRecDepth 20000 in
theorem ggX5_colour_X5_in : GoodIn wsX5_colour wsX5_in := goodIn_r _ [10] (by decide +kernel) (by decide +kernel)
set_option maxRecDepth 20000 in
theorem gX5_colour_X5_in : GoodIn wsX5_colour (va_wsS RX5 99 yX5_in wsX5_in) := goodIn_app (goodIn_of _ (by decide +kernel)) ggX5_colour_X5_in
theorem dX5_colour_0 : decode cX5_colour 0 = .ok (.iload_n 1, 1) := by decide +kernel
theorem dX5_colour_1 : decode cX5_colour 1 = .ok (.invokestatic 110, 3) := by decide +kernel
theorem dX5_colour_4 : decode cX5_colour 4 = .ok (.ifCond .eq 34, 3) := by decide +kernel
theorem dX5_colour_7 : decode cX5_colour 7 = .ok (.iload_n 2, 1) := by decide +kernel
theorem dX5_colour_8 : decode cX5_colour 8 = .ok (.iconst 1, 1) := by decide +kernel
theorem dX5_colour_9 : decode cX5_colour 9 = .ok (.bipush 9, 2) := by decide +kernel
theorem dX5_colour_11 : decode cX5_colour 11 = .ok (.invokestatic 99, 3) := by decide +kernel
theorem dX5_colour_14 : decode cX5_colour 14 = .ok (.ifCond .eq 24, 3) := by decide +kernel
theorem dX5_colour_17 : decode cX5_colour 17 = .ok (.iload_n 3, 1) := by decide +kernel
theorem dX5_colour_18 : decode cX5_colour 18 = .ok (.iconst 1, 1) := by decide +kernel
theorem dX5_colour_19 : decode cX5_colour 19 = .ok (.bipush 20, 2) := by decide +kernel
theorem dX5_colour_21 : decode cX5_colour 21 = .ok (.invokestatic 99, 3) := by decide +kernel
theorem dX5_colour_24 : decode cX5_colour 24 = .ok (.ifCond .eq 14, 3) := by decide +kernel
theorem dX5_colour_27 : decode cX5_colour 27 = .ok (.iload 4, 2) := by decide +kernel
theorem dX5_colour_29 : decode cX5_colour 29 = .ok (.iconst 1, 1) := by decide +kernel
theorem dX5_colour_30 : decode cX5_colour 30 = .ok (.bipush 100, 2) := by decide +kernel
theorem dX5_colour_32 : decode cX5_colour 32 = .ok (.invokestatic 99, 3) := by decide +kernel
theorem dX5_colour_35 : decode cX5_colour 35 = .ok (.ifCond .ne 5, 3) := by decide +kernel
theorem dX5_colour_38 : decode cX5_colour 38 = .ok (.iconst 0, 1) := by decide +kernel
theorem dX5_colour_39 : decode cX5_colour 39 = .ok (.ireturn, 1) := by decide +kernel
theorem dX5_colour_40 : decode cX5_colour 40 = .ok (.aload_n 0, 1) := by decide +kernel
theorem dX5_colour_41 : decode cX5_colour 41 = .ok (.getfield 13, 3) := by decide +kernel
theorem dX5_colour_44 : decode cX5_colour 44 = .ok (.iload_n 1, 1) := by decide +kernel
theorem dX5_colour_45 : decode cX5_colour 45 = .ok (.iload_n 2, 1) := by decide +kernel
theorem dX5_colour_46 : decode cX5_colour 46 = .ok (.iastore, 1) := by decide +kernel
theorem dX5_colour_47 : decode cX5_colour 47 = .ok (.aload_n 0, 1) := by decide +kernel
theorem dX5_colour_48 : decode cX5_colour 48 = .ok (.getfield 16, 3) := by decide +kernel
theorem dX5_colour_51 : decode cX5_colour 51 = .ok (.iload_n 1, 1) := by decide +kernel
theorem dX5_colour_52 : decode cX5_colour 52 = .ok (.iload_n 3, 1) := by decide +kernel
theorem dX5_colour_53 : decode cX5_colour 53 = .ok (.iastore, 1) := by decide +kernel
theorem dX5_colour_54 : decode cX5_colour 54 = .ok (.aload_n 0, 1) := by decide +kernel
theorem dX5_colour_55 : decode cX5_colour 55 = .ok (.getfield 19, 3) := by decide +kernel
theorem dX5_colour_58 : decode cX5_colour 58 = .ok (.iload_n 1, 1) := by decide +kernel
theorem dX5_colour_59 : decode cX5_colour 59 = .ok (.iload 4, 2) := by decide +kernel
theorem dX5_colour_61 : decode cX5_colour 61 = .ok (.iastore, 1) := by decide +kernel
theorem dX5_colour_62 : decode cX5_colour 62 = .ok (.iconst 1, 1) := by decide +kernel
theorem dX5_colour_63 : decode cX5_colour 63 = .ok (.ireturn, 1) := by decide +kernel
set_option maxRecDepth 20000 in
theorem ggX5_thread_X5_in : GoodIn wsX5_thread wsX5_in := goodIn_r _ [6] (by decide +kernel) (by decide +kernel)
set_option maxRecDepth 20000 in
theorem gX5_thread_X5_in : GoodIn wsX5_thread (va_wsS RX5 99 yX5_in wsX5_in) := goodIn_app (goodIn_of _ (by decide +kernel)) ggX5_thread_X5_in
theorem dX5_thread_0 : decode cX5_thread 0 = .ok (.iload_n 1, 1) := by decide +kernel
theorem dX5_thread_1 : decode cX5_thread 1 = .ok (.iconst 1, 1) := by decide +kernel
theorem dX5_thread_2 : decode cX5_thread 2 = .ok (.sipush 9999, 3) := by decide +kernel
theorem dX5_thread_5 : decode cX5_thread 5 = .ok (.invokestatic 99, 3) := by decide +kernel
theorem dX5_thread_8 : decode cX5_thread 8 = .ok (.ifCond .eq 13, 3) := by decide +kernel
theorem dX5_thread_11 : decode cX5_thread 11 = .ok (.iload_n 2, 1) := by decide +kernel
theorem dX5_thread_12 : decode cX5_thread 12 = .ok (.iconst 0, 1) := by decide +kernel
theorem dX5_thread_13 : decode cX5_thread 13 = .ok (.bipush 6, 2) := by decide +kernel
theorem dX5_thread_15 : decode cX5_thread 15 = .ok (.invokestatic 99, 3) := by decide +kernel
theorem dX5_thread_18 : decode cX5_thread 18 = .ok (.ifCond .ne 5, 3) := by decide +kernel
theorem dX5_thread_21 : decode cX5_thread 21 = .ok (.iconst 0, 1) := by decide +kernel
theorem dX5_thread_22 : decode cX5_thread 22 = .ok (.ireturn, 1) := by decide +kernel
theorem dX5_thread_23 : decode cX5_thread 23 = .ok (.aload_n 0, 1) := by decide +kernel
theorem dX5_thread_24 : decode cX5_thread 24 = .ok (.iload_n 1, 1) := by decide +kernel
theorem dX5_thread_25 : decode cX5_thread 25 = .ok (.putfield 22, 3) := by decide +kernel
theorem dX5_thread_28 : decode cX5_thread 28 = .ok (.aload_n 0, 1) := by decide +kernel
theorem dX5_thread_29 : decode cX5_thread 29 = .ok (.iload_n 2, 1) := by decide +kernel
theorem dX5_thread_30 : decode cX5_thread 30 = .ok (.putfield 26, 3) := by decide +kernel
theorem dX5_thread_33 : decode cX5_thread 33 = .ok (.iconst 1, 1) := by decide +kernel
theorem dX5_thread_34 : decode cX5_thread 34 = .ok (.ireturn, 1) := by decide +kernel
set_option maxRecDepth 20000 in
theorem ggX5_cell_X5_in : GoodIn wsX5_cell wsX5_in := goodIn_r _ [5] (by decide +kernel) (by decide +kernel)
set_option maxRecDepth 20000 in
theorem gX5_cell_X5_in : GoodIn wsX5_cell (va_wsS RX5 99 yX5_in wsX5_in) := goodIn_app (goodIn_of _ (by decide +kernel)) ggX5_cell_X5_in
theorem dX5_cell_0 : decode cX5_cell 0 = .ok (.iload_n 1, 1) := by decide +kernel
theorem dX5_cell_1 : decode cX5_cell 1 = .ok (.iconst 0, 1) := by decide +kernel
theorem dX5_cell_2 : decode cX5_cell 2 = .ok (.bipush 11, 2) := by decide +kernel
theorem dX5_cell_4 : decode cX5_cell 4 = .ok (.invokestatic 99, 3) := by decide +kernel
theorem dX5_cell_7 : decode cX5_cell 7 = .ok (.ifCond .eq 27, 3) := by decide +kernel
theorem dX5_cell_10 : decode cX5_cell 10 = .ok (.iload_n 2, 1) := by decide +kernel
theorem dX5_cell_11 : decode cX5_cell 11 = .ok (.iconst 0, 1) := by decide +kernel
theorem dX5_cell_12 : decode cX5_cell 12 = .ok (.bipush 11, 2) := by decide +kernel
theorem dX5_cell_14 : decode cX5_cell 14 = .ok (.invokestatic 99, 3) := by decide +kernel
theorem dX5_cell_17 : decode cX5_cell 17 = .ok (.ifCond .eq 17, 3) := by decide +kernel
theorem dX5_cell_20 : decode cX5_cell 20 = .ok (.aload_n 0, 1) := by decide +kernel
theorem dX5_cell_21 : decode cX5_cell 21 = .ok (.getfield 7, 3) := by decide +kernel
theorem dX5_cell_24 : decode cX5_cell 24 = .ok (.bipush 12, 2) := by decide +kernel
theorem dX5_cell_26 : decode cX5_cell 26 = .ok (.iload_n 1, 1) := by decide +kernel
theorem dX5_cell_27 : decode cX5_cell 27 = .ok (.imul, 1) := by decide +kernel
theorem dX5_cell_28 : decode cX5_cell 28 = .ok (.iload_n 2, 1) := by decide +kernel
theorem dX5_cell_29 : decode cX5_cell 29 = .ok (.iadd, 1) := by decide +kernel
theorem dX5_cell_30 : decode cX5_cell 30 = .ok (.iaload, 1) := by decide +kernel
theorem dX5_cell_31 : decode cX5_cell 31 = .ok (.goto 4, 3) := by decide +kernel
theorem dX5_cell_34 : decode cX5_cell 34 = .ok (.iconst (-1), 1) := by decide +kernel
theorem dX5_cell_35 : decode cX5_cell 35 = .ok (.ireturn, 1) := by decide +kernel
theorem dX5_columnOf_0 : decode cX5_columnOf 0 = .ok (.aload_n 0, 1) := by decide +kernel
theorem dX5_columnOf_1 : decode cX5_columnOf 1 = .ok (.getfield 96, 3) := by decide +kernel
theorem dX5_columnOf_4 : decode cX5_columnOf 4 = .ok (.ifCond .ne 5, 3) := by decide +kernel
theorem dX5_columnOf_7 : decode cX5_columnOf 7 = .ok (.iload_n 1, 1) := by decide +kernel
theorem dX5_columnOf_8 : decode cX5_columnOf 8 = .ok (.ireturn, 1) := by decide +kernel
theorem dX5_columnOf_9 : decode cX5_columnOf 9 = .ok (.iload_n 1, 1) := by decide +kernel
theorem dX5_columnOf_10 : decode cX5_columnOf 10 = .ok (.aload_n 0, 1) := by decide +kernel
theorem dX5_columnOf_11 : decode cX5_columnOf 11 = .ok (.getfield 96, 3) := by decide +kernel
theorem dX5_columnOf_14 : decode cX5_columnOf 14 = .ok (.irem, 1) := by decide +kernel
theorem dX5_columnOf_15 : decode cX5_columnOf 15 = .ok (.aload_n 0, 1) := by decide +kernel
theorem dX5_columnOf_16 : decode cX5_columnOf 16 = .ok (.getfield 96, 3) := by decide +kernel
theorem dX5_columnOf_19 : decode cX5_columnOf 19 = .ok (.iadd, 1) := by decide +kernel
theorem dX5_columnOf_20 : decode cX5_columnOf 20 = .ok (.aload_n 0, 1) := by decide +kernel
theorem dX5_columnOf_21 : decode cX5_columnOf 21 = .ok (.getfield 96, 3) := by decide +kernel
theorem dX5_columnOf_24 : decode cX5_columnOf 24 = .ok (.irem, 1) := by decide +kernel
theorem dX5_columnOf_25 : decode cX5_columnOf 25 = .ok (.ireturn, 1) := by decide +kernel
set_option maxRecDepth 20000 in
theorem ggX5_pickedAt_X5_columnOf : GoodIn wsX5_pickedAt wsX5_columnOf := goodIn_r _ [6, 7, 11, 12, 13, 14, 15, 16, 17, 18, 19, 20, 21, 22, 23, 24, 25, 26, 27, 28, 29, 30, 31, 32, 33, 34, 35, 36, 37, 38, 39, 40, 41, 42, 43, 44, 45, 46, 47, 48, 49, 50, 51, 52, 53, 54, 55, 56, 57, 58] (by decide +kernel) (by decide +kernel)
set_option maxRecDepth 20000 in
theorem gX5_pickedAt_X5_columnOf : GoodIn wsX5_pickedAt (wsV RX5 114 RX5 yX5_columnOf wsX5_columnOf) := goodIn_app (goodIn_of _ (by decide +kernel)) ggX5_pickedAt_X5_columnOf
set_option maxRecDepth 20000 in
theorem ggX5_pickedAt_X5_in : GoodIn wsX5_pickedAt wsX5_in := goodIn_r _ [10] (by decide +kernel) (by decide +kernel)
set_option maxRecDepth 20000 in
theorem gX5_pickedAt_X5_in : GoodIn wsX5_pickedAt (va_wsS RX5 99 yX5_in wsX5_in) := goodIn_app (goodIn_of _ (by decide +kernel)) ggX5_pickedAt_X5_in
theorem dX5_pickedAt_0 : decode cX5_pickedAt 0 = .ok (.aload_n 0, 1) := by decide +kernel
theorem dX5_pickedAt_1 : decode cX5_pickedAt 1 = .ok (.iload_n 2, 1) := by decide +kernel
theorem dX5_pickedAt_2 : decode cX5_pickedAt 2 = .ok (.invokevirtual 114, 3) := by decide +kernel
theorem dX5_pickedAt_5 : decode cX5_pickedAt 5 = .ok (.istore_n 3, 1) := by decide +kernel
theorem dX5_pickedAt_6 : decode cX5_pickedAt 6 = .ok (.iload_n 1, 1) := by decide +kernel
theorem dX5_pickedAt_7 : decode cX5_pickedAt 7 = .ok (.iconst 0, 1) := by decide +kernel
theorem dX5_pickedAt_8 : decode cX5_pickedAt 8 = .ok (.bipush 11, 2) := by decide +kernel
theorem dX5_pickedAt_10 : decode cX5_pickedAt 10 = .ok (.invokestatic 99, 3) := by decide +kernel
theorem dX5_pickedAt_13 : decode cX5_pickedAt 13 = .ok (.ifCond .eq 13, 3) := by decide +kernel
theorem dX5_pickedAt_16 : decode cX5_pickedAt 16 = .ok (.iload_n 3, 1) := by decide +kernel
theorem dX5_pickedAt_17 : decode cX5_pickedAt 17 = .ok (.iconst 0, 1) := by decide +kernel
theorem dX5_pickedAt_18 : decode cX5_pickedAt 18 = .ok (.bipush 11, 2) := by decide +kernel
theorem dX5_pickedAt_20 : decode cX5_pickedAt 20 = .ok (.invokestatic 99, 3) := by decide +kernel
theorem dX5_pickedAt_23 : decode cX5_pickedAt 23 = .ok (.ifCond .ne 5, 3) := by decide +kernel
theorem dX5_pickedAt_26 : decode cX5_pickedAt 26 = .ok (.iconst (-1), 1) := by decide +kernel
theorem dX5_pickedAt_27 : decode cX5_pickedAt 27 = .ok (.ireturn, 1) := by decide +kernel
theorem dX5_pickedAt_28 : decode cX5_pickedAt 28 = .ok (.aload_n 0, 1) := by decide +kernel
theorem dX5_pickedAt_29 : decode cX5_pickedAt 29 = .ok (.getfield 47, 3) := by decide +kernel
theorem dX5_pickedAt_32 : decode cX5_pickedAt 32 = .ok (.bipush 12, 2) := by decide +kernel
theorem dX5_pickedAt_34 : decode cX5_pickedAt 34 = .ok (.iload_n 1, 1) := by decide +kernel
theorem dX5_pickedAt_35 : decode cX5_pickedAt 35 = .ok (.imul, 1) := by decide +kernel
theorem dX5_pickedAt_36 : decode cX5_pickedAt 36 = .ok (.iload_n 3, 1) := by decide +kernel
theorem dX5_pickedAt_37 : decode cX5_pickedAt 37 = .ok (.iadd, 1) := by decide +kernel
theorem dX5_pickedAt_38 : decode cX5_pickedAt 38 = .ok (.iaload, 1) := by decide +kernel
theorem dX5_pickedAt_39 : decode cX5_pickedAt 39 = .ok (.ireturn, 1) := by decide +kernel
set_option maxRecDepth 20000 in
theorem ggX5_catches_X5_pickedAt : GoodIn wsX5_catches wsX5_pickedAt := goodIn_r _ [10, 11, 12, 13, 14, 9, 15, 16, 17, 18, 19, 20, 21, 22, 23, 24, 25, 26, 27, 28, 29, 30, 31, 32, 33, 34, 35, 36, 37, 38, 39, 40, 41, 42, 43, 44, 45, 46, 47, 48, 49, 50, 51, 52, 53, 54, 55, 56, 57, 58, 59, 60, 61, 62, 63, 64, 65, 66, 67] (by decide +kernel) (by decide +kernel)
set_option maxRecDepth 20000 in
theorem gX5_catches_X5_pickedAt : GoodIn wsX5_catches (wsV RX5 118 RX5 yX5_pickedAt wsX5_pickedAt) := goodIn_app (goodIn_of _ (by decide +kernel)) ggX5_catches_X5_pickedAt
theorem dX5_catches_0 : decode cX5_catches 0 = .ok (.iconst (-1), 1) := by decide +kernel
theorem dX5_catches_1 : decode cX5_catches 1 = .ok (.istore 4, 2) := by decide +kernel
theorem dX5_catches_3 : decode cX5_catches 3 = .ok (.iconst (-1), 1) := by decide +kernel
theorem dX5_catches_4 : decode cX5_catches 4 = .ok (.istore 5, 2) := by decide +kernel
theorem dX5_catches_6 : decode cX5_catches 6 = .ok (.aload_n 0, 1) := by decide +kernel
theorem dX5_catches_7 : decode cX5_catches 7 = .ok (.getfield 107, 3) := by decide +kernel
theorem dX5_catches_10 : decode cX5_catches 10 = .ok (.iconst 1, 1) := by decide +kernel
theorem dX5_catches_11 : decode cX5_catches 11 = .ok (.if_icmp .ne 83, 3) := by decide +kernel
theorem dX5_catches_14 : decode cX5_catches 14 = .ok (.aload_n 0, 1) := by decide +kernel
theorem dX5_catches_15 : decode cX5_catches 15 = .ok (.iload_n 3, 1) := by decide +kernel
theorem dX5_catches_16 : decode cX5_catches 16 = .ok (.iload_n 2, 1) := by decide +kernel
theorem dX5_catches_17 : decode cX5_catches 17 = .ok (.iconst 1, 1) := by decide +kernel
theorem dX5_catches_18 : decode cX5_catches 18 = .ok (.isub, 1) := by decide +kernel
theorem dX5_catches_19 : decode cX5_catches 19 = .ok (.iload_n 1, 1) := by decide +kernel
theorem dX5_catches_20 : decode cX5_catches 20 = .ok (.iconst 2, 1) := by decide +kernel
theorem dX5_catches_21 : decode cX5_catches 21 = .ok (.irem, 1) := by decide +kernel
theorem dX5_catches_22 : decode cX5_catches 22 = .ok (.iadd, 1) := by decide +kernel
theorem dX5_catches_23 : decode cX5_catches 23 = .ok (.invokevirtual 118, 3) := by decide +kernel
theorem dX5_catches_26 : decode cX5_catches 26 = .ok (.istore 4, 2) := by decide +kernel
theorem dX5_catches_28 : decode cX5_catches 28 = .ok (.aload_n 0, 1) := by decide +kernel
theorem dX5_catches_29 : decode cX5_catches 29 = .ok (.iload_n 3, 1) := by decide +kernel
theorem dX5_catches_30 : decode cX5_catches 30 = .ok (.iload_n 2, 1) := by decide +kernel
theorem dX5_catches_31 : decode cX5_catches 31 = .ok (.iload_n 1, 1) := by decide +kernel
theorem dX5_catches_32 : decode cX5_catches 32 = .ok (.iconst 2, 1) := by decide +kernel
theorem dX5_catches_33 : decode cX5_catches 33 = .ok (.irem, 1) := by decide +kernel
theorem dX5_catches_34 : decode cX5_catches 34 = .ok (.iadd, 1) := by decide +kernel
theorem dX5_catches_35 : decode cX5_catches 35 = .ok (.invokevirtual 118, 3) := by decide +kernel
theorem dX5_catches_38 : decode cX5_catches 38 = .ok (.istore 5, 2) := by decide +kernel
theorem dX5_catches_40 : decode cX5_catches 40 = .ok (.iload 4, 2) := by decide +kernel
theorem dX5_catches_42 : decode cX5_catches 42 = .ok (.ifCond .lt 37, 3) := by decide +kernel
theorem dX5_catches_45 : decode cX5_catches 45 = .ok (.iload 5, 2) := by decide +kernel
theorem dX5_catches_47 : decode cX5_catches 47 = .ok (.ifCond .lt 32, 3) := by decide +kernel
theorem dX5_catches_50 : decode cX5_catches 50 = .ok (.aload_n 0, 1) := by decide +kernel
theorem dX5_catches_51 : decode cX5_catches 51 = .ok (.getfield 29, 3) := by decide +kernel
theorem dX5_catches_54 : decode cX5_catches 54 = .ok (.iload 4, 2) := by decide +kernel
theorem dX5_catches_56 : decode cX5_catches 56 = .ok (.iaload, 1) := by decide +kernel
theorem dX5_catches_57 : decode cX5_catches 57 = .ok (.aload_n 0, 1) := by decide +kernel
theorem dX5_catches_58 : decode cX5_catches 58 = .ok (.getfield 29, 3) := by decide +kernel
theorem dX5_catches_61 : decode cX5_catches 61 = .ok (.iload 5, 2) := by decide +kernel
theorem dX5_catches_63 : decode cX5_catches 63 = .ok (.iaload, 1) := by decide +kernel
theorem dX5_catches_64 : decode cX5_catches 64 = .ok (.if_icmp .le 15, 3) := by decide +kernel
theorem dX5_catches_67 : decode cX5_catches 67 = .ok (.iload 4, 2) := by decide +kernel
theorem dX5_catches_69 : decode cX5_catches 69 = .ok (.istore 6, 2) := by decide +kernel
theorem dX5_catches_71 : decode cX5_catches 71 = .ok (.iload 5, 2) := by decide +kernel
theorem dX5_catches_73 : decode cX5_catches 73 = .ok (.istore 4, 2) := by decide +kernel
theorem dX5_catches_75 : decode cX5_catches 75 = .ok (.iload 6, 2) := by decide +kernel
theorem dX5_catches_77 : decode cX5_catches 77 = .ok (.istore 5, 2) := by decide +kernel
theorem dX5_catches_79 : decode cX5_catches 79 = .ok (.iload 4, 2) := by decide +kernel
theorem dX5_catches_81 : decode cX5_catches 81 = .ok (.ifCond .ge 21, 3) := by decide +kernel
theorem dX5_catches_84 : decode cX5_catches 84 = .ok (.iload 5, 2) := by decide +kernel
theorem dX5_catches_86 : decode cX5_catches 86 = .ok (.istore 4, 2) := by decide +kernel
theorem dX5_catches_88 : decode cX5_catches 88 = .ok (.iconst (-1), 1) := by decide +kernel
theorem dX5_catches_89 : decode cX5_catches 89 = .ok (.istore 5, 2) := by decide +kernel
theorem dX5_catches_91 : decode cX5_catches 91 = .ok (.goto 11, 3) := by decide +kernel
theorem dX5_catches_94 : decode cX5_catches 94 = .ok (.aload_n 0, 1) := by decide +kernel
theorem dX5_catches_95 : decode cX5_catches 95 = .ok (.iload_n 3, 1) := by decide +kernel
theorem dX5_catches_96 : decode cX5_catches 96 = .ok (.iload_n 2, 1) := by decide +kernel
theorem dX5_catches_97 : decode cX5_catches 97 = .ok (.invokevirtual 118, 3) := by decide +kernel
theorem dX5_catches_100 : decode cX5_catches 100 = .ok (.istore 4, 2) := by decide +kernel
theorem dX5_catches_102 : decode cX5_catches 102 = .ok (.aload_n 0, 1) := by decide +kernel
theorem dX5_catches_103 : decode cX5_catches 103 = .ok (.getfield 38, 3) := by decide +kernel
theorem dX5_catches_106 : decode cX5_catches 106 = .ok (.aload_n 0, 1) := by decide +kernel
theorem dX5_catches_107 : decode cX5_catches 107 = .ok (.getfield 122, 3) := by decide +kernel
theorem dX5_catches_110 : decode cX5_catches 110 = .ok (.iload 4, 2) := by decide +kernel
theorem dX5_catches_112 : decode cX5_catches 112 = .ok (.iastore, 1) := by decide +kernel
theorem dX5_catches_113 : decode cX5_catches 113 = .ok (.aload_n 0, 1) := by decide +kernel
theorem dX5_catches_114 : decode cX5_catches 114 = .ok (.getfield 41, 3) := by decide +kernel
theorem dX5_catches_117 : decode cX5_catches 117 = .ok (.aload_n 0, 1) := by decide +kernel
theorem dX5_catches_118 : decode cX5_catches 118 = .ok (.getfield 122, 3) := by decide +kernel
theorem dX5_catches_121 : decode cX5_catches 121 = .ok (.iload 5, 2) := by decide +kernel
theorem dX5_catches_123 : decode cX5_catches 123 = .ok (.iastore, 1) := by decide +kernel
theorem dX5_catches_124 : decode cX5_catches 124 = .ok (.return_, 1) := by decide +kernel
theorem dX5_passesBy_0 : decode cX5_passesBy 0 = .ok (.aload_n 0, 1) := by decide +kernel
theorem dX5_passesBy_1 : decode cX5_passesBy 1 = .ok (.getfield 56, 3) := by decide +kernel
theorem dX5_passesBy_4 : decode cX5_passesBy 4 = .ok (.aload_n 0, 1) := by decide +kernel
theorem dX5_passesBy_5 : decode cX5_passesBy 5 = .ok (.getfield 125, 3) := by decide +kernel
theorem dX5_passesBy_8 : decode cX5_passesBy 8 = .ok (.iload_n 1, 1) := by decide +kernel
theorem dX5_passesBy_9 : decode cX5_passesBy 9 = .ok (.iastore, 1) := by decide +kernel
theorem dX5_passesBy_10 : decode cX5_passesBy 10 = .ok (.aload_n 0, 1) := by decide +kernel
theorem dX5_passesBy_11 : decode cX5_passesBy 11 = .ok (.dup, 1) := by decide +kernel
theorem dX5_passesBy_12 : decode cX5_passesBy 12 = .ok (.getfield 125, 3) := by decide +kernel
theorem dX5_passesBy_15 : decode cX5_passesBy 15 = .ok (.iconst 1, 1) := by decide +kernel
theorem dX5_passesBy_16 : decode cX5_passesBy 16 = .ok (.iadd, 1) := by decide +kernel
theorem dX5_passesBy_17 : decode cX5_passesBy 17 = .ok (.putfield 125, 3) := by decide +kernel
theorem dX5_passesBy_20 : decode cX5_passesBy 20 = .ok (.return_, 1) := by decide +kernel
theorem dX5_colourAt_0 : decode cX5_colourAt 0 = .ok (.iload_n 1, 1) := by decide +kernel
theorem dX5_colourAt_1 : decode cX5_colourAt 1 = .ok (.aload_n 0, 1) := by decide +kernel
theorem dX5_colourAt_2 : decode cX5_colourAt 2 = .ok (.getfield 122, 3) := by decide +kernel
theorem dX5_colourAt_5 : decode cX5_colourAt 5 = .ok (.if_icmp .ne 12, 3) := by decide +kernel
theorem dX5_colourAt_8 : decode cX5_colourAt 8 = .ok (.aload_n 0, 1) := by decide +kernel
theorem dX5_colourAt_9 : decode cX5_colourAt 9 = .ok (.getfield 7, 3) := by decide +kernel
theorem dX5_colourAt_12 : decode cX5_colourAt 12 = .ok (.iload_n 2, 1) := by decide +kernel
theorem dX5_colourAt_13 : decode cX5_colourAt 13 = .ok (.iaload, 1) := by decide +kernel
theorem dX5_colourAt_14 : decode cX5_colourAt 14 = .ok (.goto 9, 3) := by decide +kernel
theorem dX5_colourAt_17 : decode cX5_colourAt 17 = .ok (.aload_n 0, 1) := by decide +kernel
theorem dX5_colourAt_18 : decode cX5_colourAt 18 = .ok (.getfield 44, 3) := by decide +kernel
theorem dX5_colourAt_21 : decode cX5_colourAt 21 = .ok (.iload_n 1, 1) := by decide +kernel
theorem dX5_colourAt_22 : decode cX5_colourAt 22 = .ok (.iaload, 1) := by decide +kernel
theorem dX5_colourAt_23 : decode cX5_colourAt 23 = .ok (.ireturn, 1) := by decide +kernel
set_option maxRecDepth 20000 in
theorem ggX5_needs_X5_colourAt : GoodIn wsX5_needs wsX5_colourAt := goodIn_r _ [8, 9, 10, 11, 12, 13, 14, 15, 16, 17, 18, 19, 20, 21, 22, 23, 24, 25, 26, 27, 28, 29, 30, 31, 32, 33, 34, 35, 36, 37, 38, 39, 40, 41, 42, 43, 44, 45, 46, 47, 48, 49, 50, 51, 52, 53, 54, 55, 56, 57, 58, 59] (by decide +kernel) (by decide +kernel)
set_option maxRecDepth 20000 in
theorem gX5_needs_X5_colourAt : GoodIn wsX5_needs (wsV RX5 128 RX5 yX5_colourAt wsX5_colourAt) := goodIn_app (goodIn_of _ (by decide +kernel)) ggX5_needs_X5_colourAt
theorem dX5_needs_0 : decode cX5_needs 0 = .ok (.iconst 0, 1) := by decide +kernel
theorem dX5_needs_1 : decode cX5_needs 1 = .ok (.istore_n 2, 1) := by decide +kernel
theorem dX5_needs_2 : decode cX5_needs 2 = .ok (.iconst 0, 1) := by decide +kernel
theorem dX5_needs_3 : decode cX5_needs 3 = .ok (.istore_n 3, 1) := by decide +kernel
theorem dX5_needs_4 : decode cX5_needs 4 = .ok (.iload_n 3, 1) := by decide +kernel
theorem dX5_needs_5 : decode cX5_needs 5 = .ok (.aload_n 0, 1) := by decide +kernel
theorem dX5_needs_6 : decode cX5_needs 6 = .ok (.getfield 125, 3) := by decide +kernel
theorem dX5_needs_9 : decode cX5_needs 9 = .ok (.if_icmp .ge 28, 3) := by decide +kernel
theorem dX5_needs_12 : decode cX5_needs 12 = .ok (.iload_n 2, 1) := by decide +kernel
theorem dX5_needs_13 : decode cX5_needs 13 = .ok (.aload_n 0, 1) := by decide +kernel
theorem dX5_needs_14 : decode cX5_needs 14 = .ok (.getfield 16, 3) := by decide +kernel
theorem dX5_needs_17 : decode cX5_needs 17 = .ok (.aload_n 0, 1) := by decide +kernel
end
section
theorem dX5_needs_18 : decode cX5_needs 18 = .ok (.aload_n 0, 1) := by decide +kernel
theorem dX5_needs_19 : decode cX5_needs 19 = .ok (.getfield 56, 3) := by decide +kernel
theorem dX5_needs_22 : decode cX5_needs 22 = .ok (.iload_n 3, 1) := by decide +kernel
theorem dX5_needs_23 : decode cX5_needs 23 = .ok (.iaload, 1) := by decide +kernel
theorem dX5_needs_24 : decode cX5_needs 24 = .ok (.iload_n 1, 1) := by decide +kernel
theorem dX5_needs_25 : decode cX5_needs 25 = .ok (.invokevirtual 128, 3) := by decide +kernel
theorem dX5_needs_28 : decode cX5_needs 28 = .ok (.iaload, 1) := by decide +kernel
theorem dX5_needs_29 : decode cX5_needs 29 = .ok (.iadd, 1) := by decide +kernel
theorem dX5_needs_30 : decode cX5_needs 30 = .ok (.istore_n 2, 1) := by decide +kernel
theorem dX5_needs_31 : decode cX5_needs 31 = .ok (.iinc 3 1, 3) := by decide +kernel
theorem dX5_needs_34 : decode cX5_needs 34 = .ok (.goto (-30), 3) := by decide +kernel
theorem dX5_needs_37 : decode cX5_needs 37 = .ok (.iload_n 2, 1) := by decide +kernel
theorem dX5_needs_38 : decode cX5_needs 38 = .ok (.ireturn, 1) := by decide +kernel
theorem dX5_finds_0 : decode cX5_finds 0 = .ok (.iconst 0, 1) := by decide +kernel
theorem dX5_finds_1 : decode cX5_finds 1 = .ok (.istore_n 3, 1) := by decide +kernel
theorem dX5_finds_2 : decode cX5_finds 2 = .ok (.aload_n 0, 1) := by decide +kernel
theorem dX5_finds_3 : decode cX5_finds 3 = .ok (.getfield 122, 3) := by decide +kernel
theorem dX5_finds_6 : decode cX5_finds 6 = .ok (.iconst 1, 1) := by decide +kernel
theorem dX5_finds_7 : decode cX5_finds 7 = .ok (.isub, 1) := by decide +kernel
theorem dX5_finds_8 : decode cX5_finds 8 = .ok (.istore 4, 2) := by decide +kernel
theorem dX5_finds_10 : decode cX5_finds 10 = .ok (.iload 4, 2) := by decide +kernel
theorem dX5_finds_12 : decode cX5_finds 12 = .ok (.ifCond .lt 98, 3) := by decide +kernel
theorem dX5_finds_15 : decode cX5_finds 15 = .ok (.iload_n 3, 1) := by decide +kernel
theorem dX5_finds_16 : decode cX5_finds 16 = .ok (.aload_n 0, 1) := by decide +kernel
theorem dX5_finds_17 : decode cX5_finds 17 = .ok (.getfield 26, 3) := by decide +kernel
theorem dX5_finds_20 : decode cX5_finds 20 = .ok (.if_icmp .ge 90, 3) := by decide +kernel
theorem dX5_finds_23 : decode cX5_finds 23 = .ok (.aload_n 0, 1) := by decide +kernel
theorem dX5_finds_24 : decode cX5_finds 24 = .ok (.getfield 35, 3) := by decide +kernel
theorem dX5_finds_27 : decode cX5_finds 27 = .ok (.iload 4, 2) := by decide +kernel
theorem dX5_finds_29 : decode cX5_finds 29 = .ok (.iaload, 1) := by decide +kernel
theorem dX5_finds_30 : decode cX5_finds 30 = .ok (.istore 5, 2) := by decide +kernel
theorem dX5_finds_32 : decode cX5_finds 32 = .ok (.iconst 0, 1) := by decide +kernel
theorem dX5_finds_33 : decode cX5_finds 33 = .ok (.istore 6, 2) := by decide +kernel
theorem dX5_finds_35 : decode cX5_finds 35 = .ok (.iload_n 2, 1) := by decide +kernel
theorem dX5_finds_36 : decode cX5_finds 36 = .ok (.ifCond .eq 40, 3) := by decide +kernel
theorem dX5_finds_39 : decode cX5_finds 39 = .ok (.iload 6, 2) := by decide +kernel
theorem dX5_finds_41 : decode cX5_finds 41 = .ok (.aload_n 0, 1) := by decide +kernel
theorem dX5_finds_42 : decode cX5_finds 42 = .ok (.getfield 26, 3) := by decide +kernel
theorem dX5_finds_45 : decode cX5_finds 45 = .ok (.if_icmp .ge 31, 3) := by decide +kernel
theorem dX5_finds_48 : decode cX5_finds 48 = .ok (.iload 5, 2) := by decide +kernel
theorem dX5_finds_50 : decode cX5_finds 50 = .ok (.aload_n 0, 1) := by decide +kernel
theorem dX5_finds_51 : decode cX5_finds 51 = .ok (.getfield 59, 3) := by decide +kernel
theorem dX5_finds_54 : decode cX5_finds 54 = .ok (.iload 6, 2) := by decide +kernel
theorem dX5_finds_56 : decode cX5_finds 56 = .ok (.iaload, 1) := by decide +kernel
theorem dX5_finds_57 : decode cX5_finds 57 = .ok (.iload 4, 2) := by decide +kernel
theorem dX5_finds_59 : decode cX5_finds 59 = .ok (.if_icmp .ne 7, 3) := by decide +kernel
theorem dX5_finds_62 : decode cX5_finds 62 = .ok (.iconst 1, 1) := by decide +kernel
theorem dX5_finds_63 : decode cX5_finds 63 = .ok (.goto 4, 3) := by decide +kernel
theorem dX5_finds_66 : decode cX5_finds 66 = .ok (.iconst 0, 1) := by decide +kernel
theorem dX5_finds_67 : decode cX5_finds 67 = .ok (.iadd, 1) := by decide +kernel
theorem dX5_finds_68 : decode cX5_finds 68 = .ok (.istore 5, 2) := by decide +kernel
theorem dX5_finds_70 : decode cX5_finds 70 = .ok (.iinc 6 1, 3) := by decide +kernel
theorem dX5_finds_73 : decode cX5_finds 73 = .ok (.goto (-38), 3) := by decide +kernel
theorem dX5_finds_76 : decode cX5_finds 76 = .ok (.iload 5, 2) := by decide +kernel
theorem dX5_finds_78 : decode cX5_finds 78 = .ok (.aload_n 0, 1) := by decide +kernel
theorem dX5_finds_79 : decode cX5_finds 79 = .ok (.getfield 13, 3) := by decide +kernel
theorem dX5_finds_82 : decode cX5_finds 82 = .ok (.aload_n 0, 1) := by decide +kernel
theorem dX5_finds_83 : decode cX5_finds 83 = .ok (.getfield 44, 3) := by decide +kernel
theorem dX5_finds_86 : decode cX5_finds 86 = .ok (.iload 4, 2) := by decide +kernel
theorem dX5_finds_88 : decode cX5_finds 88 = .ok (.iaload, 1) := by decide +kernel
theorem dX5_finds_89 : decode cX5_finds 89 = .ok (.iaload, 1) := by decide +kernel
theorem dX5_finds_90 : decode cX5_finds 90 = .ok (.if_icmp .lt 6, 3) := by decide +kernel
theorem dX5_finds_93 : decode cX5_finds 93 = .ok (.goto 11, 3) := by decide +kernel
theorem dX5_finds_96 : decode cX5_finds 96 = .ok (.aload_n 1, 1) := by decide +kernel
theorem dX5_finds_97 : decode cX5_finds 97 = .ok (.iload_n 3, 1) := by decide +kernel
theorem dX5_finds_98 : decode cX5_finds 98 = .ok (.iload 4, 2) := by decide +kernel
theorem dX5_finds_100 : decode cX5_finds 100 = .ok (.iastore, 1) := by decide +kernel
theorem dX5_finds_101 : decode cX5_finds 101 = .ok (.iinc 3 1, 3) := by decide +kernel
theorem dX5_finds_104 : decode cX5_finds 104 = .ok (.iinc 4 (-1), 3) := by decide +kernel
theorem dX5_finds_107 : decode cX5_finds 107 = .ok (.goto (-97), 3) := by decide +kernel
theorem dX5_finds_110 : decode cX5_finds 110 = .ok (.iload_n 3, 1) := by decide +kernel
theorem dX5_finds_111 : decode cX5_finds 111 = .ok (.aload_n 0, 1) := by decide +kernel
theorem dX5_finds_112 : decode cX5_finds 112 = .ok (.getfield 26, 3) := by decide +kernel
theorem dX5_finds_115 : decode cX5_finds 115 = .ok (.if_icmp .ne 7, 3) := by decide +kernel
theorem dX5_finds_118 : decode cX5_finds 118 = .ok (.iconst 1, 1) := by decide +kernel
theorem dX5_finds_119 : decode cX5_finds 119 = .ok (.goto 4, 3) := by decide +kernel
theorem dX5_finds_122 : decode cX5_finds 122 = .ok (.iconst 0, 1) := by decide +kernel
theorem dX5_finds_123 : decode cX5_finds 123 = .ok (.ireturn, 1) := by decide +kernel
set_option maxRecDepth 20000 in
theorem ggX5_joins_X5_finds : GoodIn wsX5_joins wsX5_finds := goodIn_r _ [14, 15, 3, 4, 1, 16, 17, 18, 19, 20, 21, 22, 23, 24, 25, 26, 27, 28, 29, 30, 31, 32, 33, 34, 35, 36, 37, 38, 39, 40, 41, 42, 43, 44, 45, 46, 47, 48, 49, 50, 51, 52, 53, 54, 55, 56, 57, 58, 59, 60, 61, 62, 63, 64, 65] (by decide +kernel) (by decide +kernel)
set_option maxRecDepth 20000 in
theorem gX5_joins_X5_finds : GoodIn wsX5_joins (wsV RX5 131 RX5 yX5_finds wsX5_finds) := goodIn_app (goodIn_of _ (by decide +kernel)) ggX5_joins_X5_finds
theorem dX5_joins_0 : decode cX5_joins 0 = .ok (.aload_n 0, 1) := by decide +kernel
theorem dX5_joins_1 : decode cX5_joins 1 = .ok (.aload_n 0, 1) := by decide +kernel
theorem dX5_joins_2 : decode cX5_joins 2 = .ok (.getfield 59, 3) := by decide +kernel
theorem dX5_joins_5 : decode cX5_joins 5 = .ok (.iconst 0, 1) := by decide +kernel
theorem dX5_joins_6 : decode cX5_joins 6 = .ok (.invokevirtual 131, 3) := by decide +kernel
theorem dX5_joins_9 : decode cX5_joins 9 = .ok (.ifCond .eq 15, 3) := by decide +kernel
theorem dX5_joins_12 : decode cX5_joins 12 = .ok (.aload_n 0, 1) := by decide +kernel
theorem dX5_joins_13 : decode cX5_joins 13 = .ok (.aload_n 0, 1) := by decide +kernel
theorem dX5_joins_14 : decode cX5_joins 14 = .ok (.getfield 62, 3) := by decide +kernel
theorem dX5_joins_17 : decode cX5_joins 17 = .ok (.iconst 1, 1) := by decide +kernel
theorem dX5_joins_18 : decode cX5_joins 18 = .ok (.invokevirtual 131, 3) := by decide +kernel
theorem dX5_joins_21 : decode cX5_joins 21 = .ok (.ifCond .ne 5, 3) := by decide +kernel
theorem dX5_joins_24 : decode cX5_joins 24 = .ok (.iconst 0, 1) := by decide +kernel
theorem dX5_joins_25 : decode cX5_joins 25 = .ok (.ireturn, 1) := by decide +kernel
theorem dX5_joins_26 : decode cX5_joins 26 = .ok (.iconst 0, 1) := by decide +kernel
theorem dX5_joins_27 : decode cX5_joins 27 = .ok (.istore_n 1, 1) := by decide +kernel
theorem dX5_joins_28 : decode cX5_joins 28 = .ok (.iload_n 1, 1) := by decide +kernel
theorem dX5_joins_29 : decode cX5_joins 29 = .ok (.aload_n 0, 1) := by decide +kernel
theorem dX5_joins_30 : decode cX5_joins 30 = .ok (.getfield 26, 3) := by decide +kernel
theorem dX5_joins_33 : decode cX5_joins 33 = .ok (.if_icmp .ge 59, 3) := by decide +kernel
theorem dX5_joins_36 : decode cX5_joins 36 = .ok (.aload_n 0, 1) := by decide +kernel
theorem dX5_joins_37 : decode cX5_joins 37 = .ok (.getfield 35, 3) := by decide +kernel
theorem dX5_joins_40 : decode cX5_joins 40 = .ok (.aload_n 0, 1) := by decide +kernel
theorem dX5_joins_41 : decode cX5_joins 41 = .ok (.getfield 59, 3) := by decide +kernel
theorem dX5_joins_44 : decode cX5_joins 44 = .ok (.iload_n 1, 1) := by decide +kernel
theorem dX5_joins_45 : decode cX5_joins 45 = .ok (.iaload, 1) := by decide +kernel
theorem dX5_joins_46 : decode cX5_joins 46 = .ok (.dup2, 1) := by decide +kernel
theorem dX5_joins_47 : decode cX5_joins 47 = .ok (.iaload, 1) := by decide +kernel
theorem dX5_joins_48 : decode cX5_joins 48 = .ok (.iconst 1, 1) := by decide +kernel
theorem dX5_joins_49 : decode cX5_joins 49 = .ok (.iadd, 1) := by decide +kernel
theorem dX5_joins_50 : decode cX5_joins 50 = .ok (.iastore, 1) := by decide +kernel
theorem dX5_joins_51 : decode cX5_joins 51 = .ok (.aload_n 0, 1) := by decide +kernel
theorem dX5_joins_52 : decode cX5_joins 52 = .ok (.getfield 35, 3) := by decide +kernel
theorem dX5_joins_55 : decode cX5_joins 55 = .ok (.aload_n 0, 1) := by decide +kernel
theorem dX5_joins_56 : decode cX5_joins 56 = .ok (.getfield 62, 3) := by decide +kernel
theorem dX5_joins_59 : decode cX5_joins 59 = .ok (.iload_n 1, 1) := by decide +kernel
theorem dX5_joins_60 : decode cX5_joins 60 = .ok (.iaload, 1) := by decide +kernel
theorem dX5_joins_61 : decode cX5_joins 61 = .ok (.dup2, 1) := by decide +kernel
theorem dX5_joins_62 : decode cX5_joins 62 = .ok (.iaload, 1) := by decide +kernel
theorem dX5_joins_63 : decode cX5_joins 63 = .ok (.iconst 1, 1) := by decide +kernel
theorem dX5_joins_64 : decode cX5_joins 64 = .ok (.iadd, 1) := by decide +kernel
theorem dX5_joins_65 : decode cX5_joins 65 = .ok (.iastore, 1) := by decide +kernel
theorem dX5_joins_66 : decode cX5_joins 66 = .ok (.aload_n 0, 1) := by decide +kernel
theorem dX5_joins_67 : decode cX5_joins 67 = .ok (.getfield 53, 3) := by decide +kernel
theorem dX5_joins_70 : decode cX5_joins 70 = .ok (.bipush 6, 2) := by decide +kernel
theorem dX5_joins_72 : decode cX5_joins 72 = .ok (.aload_n 0, 1) := by decide +kernel
theorem dX5_joins_73 : decode cX5_joins 73 = .ok (.getfield 135, 3) := by decide +kernel
theorem dX5_joins_76 : decode cX5_joins 76 = .ok (.imul, 1) := by decide +kernel
theorem dX5_joins_77 : decode cX5_joins 77 = .ok (.iload_n 1, 1) := by decide +kernel
theorem dX5_joins_78 : decode cX5_joins 78 = .ok (.iadd, 1) := by decide +kernel
theorem dX5_joins_79 : decode cX5_joins 79 = .ok (.aload_n 0, 1) := by decide +kernel
theorem dX5_joins_80 : decode cX5_joins 80 = .ok (.getfield 62, 3) := by decide +kernel
theorem dX5_joins_83 : decode cX5_joins 83 = .ok (.iload_n 1, 1) := by decide +kernel
theorem dX5_joins_84 : decode cX5_joins 84 = .ok (.iaload, 1) := by decide +kernel
theorem dX5_joins_85 : decode cX5_joins 85 = .ok (.iastore, 1) := by decide +kernel
theorem dX5_joins_86 : decode cX5_joins 86 = .ok (.iinc 1 1, 3) := by decide +kernel
theorem dX5_joins_89 : decode cX5_joins 89 = .ok (.goto (-61), 3) := by decide +kernel
theorem dX5_joins_92 : decode cX5_joins 92 = .ok (.aload_n 0, 1) := by decide +kernel
theorem dX5_joins_93 : decode cX5_joins 93 = .ok (.getfield 50, 3) := by decide +kernel
theorem dX5_joins_96 : decode cX5_joins 96 = .ok (.aload_n 0, 1) := by decide +kernel
theorem dX5_joins_97 : decode cX5_joins 97 = .ok (.getfield 135, 3) := by decide +kernel
theorem dX5_joins_100 : decode cX5_joins 100 = .ok (.aload_n 0, 1) := by decide +kernel
theorem dX5_joins_101 : decode cX5_joins 101 = .ok (.getfield 26, 3) := by decide +kernel
theorem dX5_joins_104 : decode cX5_joins 104 = .ok (.iastore, 1) := by decide +kernel
theorem dX5_joins_105 : decode cX5_joins 105 = .ok (.aload_n 0, 1) := by decide +kernel
theorem dX5_joins_106 : decode cX5_joins 106 = .ok (.dup, 1) := by decide +kernel
theorem dX5_joins_107 : decode cX5_joins 107 = .ok (.getfield 135, 3) := by decide +kernel
theorem dX5_joins_110 : decode cX5_joins 110 = .ok (.iconst 1, 1) := by decide +kernel
theorem dX5_joins_111 : decode cX5_joins 111 = .ok (.iadd, 1) := by decide +kernel
theorem dX5_joins_112 : decode cX5_joins 112 = .ok (.putfield 135, 3) := by decide +kernel
theorem dX5_joins_115 : decode cX5_joins 115 = .ok (.aload_n 0, 1) := by decide +kernel
theorem dX5_joins_116 : decode cX5_joins 116 = .ok (.aload_n 0, 1) := by decide +kernel
theorem dX5_joins_117 : decode cX5_joins 117 = .ok (.getfield 22, 3) := by decide +kernel
theorem dX5_joins_120 : decode cX5_joins 120 = .ok (.putfield 138, 3) := by decide +kernel
theorem dX5_joins_123 : decode cX5_joins 123 = .ok (.iconst 1, 1) := by decide +kernel
theorem dX5_joins_124 : decode cX5_joins 124 = .ok (.ireturn, 1) := by decide +kernel
set_option maxRecDepth 20000 in
theorem ggX5_hasRoom_X5_colourAt : GoodIn wsX5_hasRoom wsX5_colourAt := goodIn_r _ [10, 3, 11, 12, 13, 14, 15, 16, 17, 18, 19, 20, 21, 22, 23, 24, 25, 26, 27, 28, 29, 30, 31, 32, 33, 34, 35, 36, 37, 38, 39, 40, 41, 42, 43, 44, 45, 46, 47, 48, 49, 50, 51, 52, 53, 54, 55, 56, 57, 58, 59, 60] (by decide +kernel) (by decide +kernel)
set_option maxRecDepth 20000 in
theorem gX5_hasRoom_X5_colourAt : GoodIn wsX5_hasRoom (wsV RX5 128 RX5 yX5_colourAt wsX5_colourAt) := goodIn_app (goodIn_of _ (by decide +kernel)) ggX5_hasRoom_X5_colourAt
theorem dX5_hasRoom_0 : decode cX5_hasRoom 0 = .ok (.iconst 0, 1) := by decide +kernel
theorem dX5_hasRoom_1 : decode cX5_hasRoom 1 = .ok (.istore_n 2, 1) := by decide +kernel
theorem dX5_hasRoom_2 : decode cX5_hasRoom 2 = .ok (.iload_n 2, 1) := by decide +kernel
theorem dX5_hasRoom_3 : decode cX5_hasRoom 3 = .ok (.aload_n 0, 1) := by decide +kernel
theorem dX5_hasRoom_4 : decode cX5_hasRoom 4 = .ok (.getfield 125, 3) := by decide +kernel
theorem dX5_hasRoom_7 : decode cX5_hasRoom 7 = .ok (.if_icmp .ge 90, 3) := by decide +kernel
theorem dX5_hasRoom_10 : decode cX5_hasRoom 10 = .ok (.aload_n 0, 1) := by decide +kernel
theorem dX5_hasRoom_11 : decode cX5_hasRoom 11 = .ok (.getfield 56, 3) := by decide +kernel
theorem dX5_hasRoom_14 : decode cX5_hasRoom 14 = .ok (.iload_n 2, 1) := by decide +kernel
theorem dX5_hasRoom_15 : decode cX5_hasRoom 15 = .ok (.iaload, 1) := by decide +kernel
theorem dX5_hasRoom_16 : decode cX5_hasRoom 16 = .ok (.istore_n 3, 1) := by decide +kernel
theorem dX5_hasRoom_17 : decode cX5_hasRoom 17 = .ok (.iload_n 3, 1) := by decide +kernel
theorem dX5_hasRoom_18 : decode cX5_hasRoom 18 = .ok (.aload_n 0, 1) := by decide +kernel
theorem dX5_hasRoom_19 : decode cX5_hasRoom 19 = .ok (.getfield 122, 3) := by decide +kernel
theorem dX5_hasRoom_22 : decode cX5_hasRoom 22 = .ok (.if_icmp .ne 7, 3) := by decide +kernel
theorem dX5_hasRoom_25 : decode cX5_hasRoom 25 = .ok (.iconst 0, 1) := by decide +kernel
theorem dX5_hasRoom_26 : decode cX5_hasRoom 26 = .ok (.goto 9, 3) := by decide +kernel
theorem dX5_hasRoom_29 : decode cX5_hasRoom 29 = .ok (.aload_n 0, 1) := by decide +kernel
theorem dX5_hasRoom_30 : decode cX5_hasRoom 30 = .ok (.getfield 35, 3) := by decide +kernel
theorem dX5_hasRoom_33 : decode cX5_hasRoom 33 = .ok (.iload_n 3, 1) := by decide +kernel
theorem dX5_hasRoom_34 : decode cX5_hasRoom 34 = .ok (.iaload, 1) := by decide +kernel
theorem dX5_hasRoom_35 : decode cX5_hasRoom 35 = .ok (.istore 4, 2) := by decide +kernel
theorem dX5_hasRoom_37 : decode cX5_hasRoom 37 = .ok (.iconst 0, 1) := by decide +kernel
theorem dX5_hasRoom_38 : decode cX5_hasRoom 38 = .ok (.istore 5, 2) := by decide +kernel
theorem dX5_hasRoom_40 : decode cX5_hasRoom 40 = .ok (.iload 5, 2) := by decide +kernel
theorem dX5_hasRoom_42 : decode cX5_hasRoom 42 = .ok (.iload_n 2, 1) := by decide +kernel
theorem dX5_hasRoom_43 : decode cX5_hasRoom 43 = .ok (.if_icmp .gt 30, 3) := by decide +kernel
theorem dX5_hasRoom_46 : decode cX5_hasRoom 46 = .ok (.iload 4, 2) := by decide +kernel
theorem dX5_hasRoom_48 : decode cX5_hasRoom 48 = .ok (.aload_n 0, 1) := by decide +kernel
theorem dX5_hasRoom_49 : decode cX5_hasRoom 49 = .ok (.getfield 56, 3) := by decide +kernel
theorem dX5_hasRoom_52 : decode cX5_hasRoom 52 = .ok (.iload 5, 2) := by decide +kernel
theorem dX5_hasRoom_54 : decode cX5_hasRoom 54 = .ok (.iaload, 1) := by decide +kernel
theorem dX5_hasRoom_55 : decode cX5_hasRoom 55 = .ok (.iload_n 3, 1) := by decide +kernel
theorem dX5_hasRoom_56 : decode cX5_hasRoom 56 = .ok (.if_icmp .ne 7, 3) := by decide +kernel
theorem dX5_hasRoom_59 : decode cX5_hasRoom 59 = .ok (.iconst 1, 1) := by decide +kernel
theorem dX5_hasRoom_60 : decode cX5_hasRoom 60 = .ok (.goto 4, 3) := by decide +kernel
theorem dX5_hasRoom_63 : decode cX5_hasRoom 63 = .ok (.iconst 0, 1) := by decide +kernel
theorem dX5_hasRoom_64 : decode cX5_hasRoom 64 = .ok (.iadd, 1) := by decide +kernel
theorem dX5_hasRoom_65 : decode cX5_hasRoom 65 = .ok (.istore 4, 2) := by decide +kernel
theorem dX5_hasRoom_67 : decode cX5_hasRoom 67 = .ok (.iinc 5 1, 3) := by decide +kernel
theorem dX5_hasRoom_70 : decode cX5_hasRoom 70 = .ok (.goto (-30), 3) := by decide +kernel
theorem dX5_hasRoom_73 : decode cX5_hasRoom 73 = .ok (.iload 4, 2) := by decide +kernel
theorem dX5_hasRoom_75 : decode cX5_hasRoom 75 = .ok (.aload_n 0, 1) := by decide +kernel
theorem dX5_hasRoom_76 : decode cX5_hasRoom 76 = .ok (.getfield 13, 3) := by decide +kernel
theorem dX5_hasRoom_79 : decode cX5_hasRoom 79 = .ok (.aload_n 0, 1) := by decide +kernel
theorem dX5_hasRoom_80 : decode cX5_hasRoom 80 = .ok (.iload_n 3, 1) := by decide +kernel
theorem dX5_hasRoom_81 : decode cX5_hasRoom 81 = .ok (.iload_n 1, 1) := by decide +kernel
theorem dX5_hasRoom_82 : decode cX5_hasRoom 82 = .ok (.invokevirtual 128, 3) := by decide +kernel
theorem dX5_hasRoom_85 : decode cX5_hasRoom 85 = .ok (.iaload, 1) := by decide +kernel
theorem dX5_hasRoom_86 : decode cX5_hasRoom 86 = .ok (.if_icmp .le 5, 3) := by decide +kernel
theorem dX5_hasRoom_89 : decode cX5_hasRoom 89 = .ok (.iconst 0, 1) := by decide +kernel
theorem dX5_hasRoom_90 : decode cX5_hasRoom 90 = .ok (.ireturn, 1) := by decide +kernel
theorem dX5_hasRoom_91 : decode cX5_hasRoom 91 = .ok (.iinc 2 1, 3) := by decide +kernel
theorem dX5_hasRoom_94 : decode cX5_hasRoom 94 = .ok (.goto (-92), 3) := by decide +kernel
theorem dX5_hasRoom_97 : decode cX5_hasRoom 97 = .ok (.iconst 1, 1) := by decide +kernel
theorem dX5_hasRoom_98 : decode cX5_hasRoom 98 = .ok (.ireturn, 1) := by decide +kernel
theorem dX5_fails_0 : decode cX5_fails 0 = .ok (.aload_n 0, 1) := by decide +kernel
theorem dX5_fails_1 : decode cX5_fails 1 = .ok (.iload_n 1, 1) := by decide +kernel
theorem dX5_fails_2 : decode cX5_fails 2 = .ok (.putfield 141, 3) := by decide +kernel
theorem dX5_fails_5 : decode cX5_fails 5 = .ok (.aload_n 0, 1) := by decide +kernel
theorem dX5_fails_6 : decode cX5_fails 6 = .ok (.iload_n 2, 1) := by decide +kernel
theorem dX5_fails_7 : decode cX5_fails 7 = .ok (.putfield 144, 3) := by decide +kernel
theorem dX5_fails_10 : decode cX5_fails 10 = .ok (.iconst 0, 1) := by decide +kernel
theorem dX5_fails_11 : decode cX5_fails 11 = .ok (.ireturn, 1) := by decide +kernel
set_option maxRecDepth 20000 in
theorem ggX5_picks_X5_catches : GoodIn wsX5_picks wsX5_catches := goodIn_r _ [26, 27, 16, 2, 3, 4, 28, 29, 30, 25, 31, 19, 32, 33, 34, 35, 7, 36, 37, 38, 75, 76, 77, 78, 79, 80, 81, 82, 83, 84, 85, 86, 87, 88, 89, 90, 91, 92, 93, 94, 95, 96, 97, 98, 99, 100, 101, 102, 103, 104, 105, 106, 107, 108, 109, 110, 111, 112, 113, 114, 115, 116, 117, 118, 119, 120, 121, 122] (by decide +kernel) (by decide +kernel)
set_option maxRecDepth 20000 in
theorem gX5_picks_X5_catches : GoodIn wsX5_picks (wsV RX5 151 RX5 yX5_catches wsX5_catches) := goodIn_app (goodIn_of _ (by decide +kernel)) ggX5_picks_X5_catches
set_option maxRecDepth 20000 in
theorem ggX5_picks_X5_fails : GoodIn wsX5_picks wsX5_fails := goodIn_r _ [42, 43, 44, 75, 76, 77, 78, 79, 80, 81, 82, 83, 84, 85, 86, 87, 88, 89, 90, 91, 92, 93, 94, 95, 96, 97, 98, 99, 100, 101, 102, 103, 104, 105, 106, 107, 108, 109, 110, 111, 112, 113, 114, 115, 116, 117, 118, 119, 120, 121, 122] (by decide +kernel) (by decide +kernel)
set_option maxRecDepth 20000 in
theorem gX5_picks_X5_fails : GoodIn wsX5_picks (wsV RX5 155 RX5 yX5_fails wsX5_fails) := goodIn_app (goodIn_of _ (by decide +kernel)) ggX5_picks_X5_fails
set_option maxRecDepth 20000 in
theorem ggX5_picks_X5_passesBy : GoodIn wsX5_picks wsX5_passesBy := goodIn_r _ [48, 18, 1, 75, 76, 77, 78, 79, 80, 81, 82, 83, 84, 85, 86, 87, 88, 89, 90, 91, 92, 93, 94, 95, 96, 97, 98, 99, 100, 101, 102, 103, 104, 105, 106, 107, 108, 109, 110, 111, 112, 113, 114, 115, 116, 117, 118, 119, 120, 121, 122] (by decide +kernel) (by decide +kernel)
set_option maxRecDepth 20000 in
theorem gX5_picks_X5_passesBy : GoodIn wsX5_picks (wsV RX5 165 RX5 yX5_passesBy wsX5_passesBy) := goodIn_app (goodIn_of _ (by decide +kernel)) ggX5_picks_X5_passesBy
set_option maxRecDepth 20000 in
theorem ggX5_picks_X5_needs : GoodIn wsX5_picks wsX5_needs := goodIn_r _ [52, 1, 53, 18, 54, 55, 56, 25, 57, 3, 15, 14, 75, 76, 77, 78, 79, 80, 81, 82, 83, 84, 85, 86, 87, 88, 89, 90, 91, 92, 93, 94, 95, 96, 97, 98, 99, 100, 101, 102, 103, 104, 105, 106, 107, 108, 109, 110, 111, 112, 113, 114, 115, 116, 117, 118, 119, 120, 121, 122] (by decide +kernel) (by decide +kernel)
set_option maxRecDepth 20000 in
theorem gX5_picks_X5_needs : GoodIn wsX5_picks (wsV RX5 169 RX5 yX5_needs wsX5_needs) := goodIn_app (goodIn_of _ (by decide +kernel)) ggX5_picks_X5_needs
set_option maxRecDepth 20000 in
theorem ggX5_picks_X5_joins : GoodIn wsX5_picks wsX5_joins := goodIn_r _ [61, 62, 63, 64, 13, 65, 10, 12, 9, 11, 66, 67, 68, 25, 69, 3, 70, 14, 75, 76, 77, 78, 79, 80, 81, 82, 83, 84, 85, 86, 87, 88, 89, 90, 91, 92, 93, 94, 95, 96, 97, 98, 99, 100, 101, 102, 103, 104, 105, 106, 107, 108, 109, 110, 111, 112, 113, 114, 115, 116, 117, 118, 119, 120, 121, 122] (by decide +kernel) (by decide +kernel)
set_option maxRecDepth 20000 in
theorem gX5_picks_X5_joins : GoodIn wsX5_picks (wsV RX5 172 RX5 yX5_joins wsX5_joins) := goodIn_app (goodIn_of _ (by decide +kernel)) ggX5_picks_X5_joins
set_option maxRecDepth 20000 in
theorem ggX5_picks_X5_hasRoom : GoodIn wsX5_picks wsX5_hasRoom := goodIn_r _ [74, 1, 18, 3, 13, 70, 54, 55, 56, 25, 57, 15, 14, 75, 76, 77, 78, 79, 80, 81, 82, 83, 84, 85, 86, 87, 88, 89, 90, 91, 92, 93, 94, 95, 96, 97, 98, 99, 100, 101, 102, 103, 104, 105, 106, 107, 108, 109, 110, 111, 112, 113, 114, 115, 116, 117, 118, 119, 120, 121, 122] (by decide +kernel) (by decide +kernel)
set_option maxRecDepth 20000 in
theorem gX5_picks_X5_hasRoom : GoodIn wsX5_picks (wsV RX5 176 RX5 yX5_hasRoom wsX5_hasRoom) := goodIn_app (goodIn_of _ (by decide +kernel)) ggX5_picks_X5_hasRoom
theorem dX5_picks_0 : decode cX5_picks 0 = .ok (.bipush 12, 2) := by decide +kernel
theorem dX5_picks_2 : decode cX5_picks 2 = .ok (.iload_n 1, 1) := by decide +kernel
theorem dX5_picks_3 : decode cX5_picks 3 = .ok (.imul, 1) := by decide +kernel
theorem dX5_picks_4 : decode cX5_picks 4 = .ok (.iload_n 2, 1) := by decide +kernel
theorem dX5_picks_5 : decode cX5_picks 5 = .ok (.iadd, 1) := by decide +kernel
theorem dX5_picks_6 : decode cX5_picks 6 = .ok (.istore 5, 2) := by decide +kernel
theorem dX5_picks_8 : decode cX5_picks 8 = .ok (.aload_n 0, 1) := by decide +kernel
theorem dX5_picks_9 : decode cX5_picks 9 = .ok (.iconst 0, 1) := by decide +kernel
theorem dX5_picks_10 : decode cX5_picks 10 = .ok (.putfield 125, 3) := by decide +kernel
theorem dX5_picks_13 : decode cX5_picks 13 = .ok (.aload_n 0, 1) := by decide +kernel
theorem dX5_picks_14 : decode cX5_picks 14 = .ok (.getfield 38, 3) := by decide +kernel
theorem dX5_picks_17 : decode cX5_picks 17 = .ok (.aload_n 0, 1) := by decide +kernel
theorem dX5_picks_18 : decode cX5_picks 18 = .ok (.getfield 122, 3) := by decide +kernel
theorem dX5_picks_21 : decode cX5_picks 21 = .ok (.iconst (-1), 1) := by decide +kernel
theorem dX5_picks_22 : decode cX5_picks 22 = .ok (.iastore, 1) := by decide +kernel
theorem dX5_picks_23 : decode cX5_picks 23 = .ok (.aload_n 0, 1) := by decide +kernel
theorem dX5_picks_24 : decode cX5_picks 24 = .ok (.getfield 41, 3) := by decide +kernel
theorem dX5_picks_27 : decode cX5_picks 27 = .ok (.aload_n 0, 1) := by decide +kernel
theorem dX5_picks_28 : decode cX5_picks 28 = .ok (.getfield 122, 3) := by decide +kernel
theorem dX5_picks_31 : decode cX5_picks 31 = .ok (.iconst (-1), 1) := by decide +kernel
theorem dX5_picks_32 : decode cX5_picks 32 = .ok (.iastore, 1) := by decide +kernel
theorem dX5_picks_33 : decode cX5_picks 33 = .ok (.aload_n 0, 1) := by decide +kernel
theorem dX5_picks_34 : decode cX5_picks 34 = .ok (.getfield 147, 3) := by decide +kernel
theorem dX5_picks_37 : decode cX5_picks 37 = .ok (.ifCond .ne 61, 3) := by decide +kernel
theorem dX5_picks_40 : decode cX5_picks 40 = .ok (.aload_n 0, 1) := by decide +kernel
theorem dX5_picks_41 : decode cX5_picks 41 = .ok (.iload_n 1, 1) := by decide +kernel
theorem dX5_picks_42 : decode cX5_picks 42 = .ok (.iload_n 2, 1) := by decide +kernel
theorem dX5_picks_43 : decode cX5_picks 43 = .ok (.iload_n 3, 1) := by decide +kernel
theorem dX5_picks_44 : decode cX5_picks 44 = .ok (.invokevirtual 151, 3) := by decide +kernel
theorem dX5_picks_47 : decode cX5_picks 47 = .ok (.aload_n 0, 1) := by decide +kernel
theorem dX5_picks_48 : decode cX5_picks 48 = .ok (.getfield 38, 3) := by decide +kernel
theorem dX5_picks_51 : decode cX5_picks 51 = .ok (.aload_n 0, 1) := by decide +kernel
theorem dX5_picks_52 : decode cX5_picks 52 = .ok (.getfield 122, 3) := by decide +kernel
theorem dX5_picks_55 : decode cX5_picks 55 = .ok (.iaload, 1) := by decide +kernel
theorem dX5_picks_56 : decode cX5_picks 56 = .ok (.ifCond .ge 11, 3) := by decide +kernel
theorem dX5_picks_59 : decode cX5_picks 59 = .ok (.aload_n 0, 1) := by decide +kernel
theorem dX5_picks_60 : decode cX5_picks 60 = .ok (.iconst 1, 1) := by decide +kernel
theorem dX5_picks_61 : decode cX5_picks 61 = .ok (.iload 5, 2) := by decide +kernel
theorem dX5_picks_63 : decode cX5_picks 63 = .ok (.invokevirtual 155, 3) := by decide +kernel
theorem dX5_picks_66 : decode cX5_picks 66 = .ok (.ireturn, 1) := by decide +kernel
theorem dX5_picks_67 : decode cX5_picks 67 = .ok (.aload_n 0, 1) := by decide +kernel
theorem dX5_picks_68 : decode cX5_picks 68 = .ok (.getfield 159, 3) := by decide +kernel
theorem dX5_picks_71 : decode cX5_picks 71 = .ok (.ifCond .ne 27, 3) := by decide +kernel
theorem dX5_picks_74 : decode cX5_picks 74 = .ok (.aload_n 0, 1) := by decide +kernel
theorem dX5_picks_75 : decode cX5_picks 75 = .ok (.aload_n 0, 1) := by decide +kernel
theorem dX5_picks_76 : decode cX5_picks 76 = .ok (.getfield 96, 3) := by decide +kernel
theorem dX5_picks_79 : decode cX5_picks 79 = .ok (.ifCond .ne 12, 3) := by decide +kernel
theorem dX5_picks_82 : decode cX5_picks 82 = .ok (.aload_n 0, 1) := by decide +kernel
theorem dX5_picks_83 : decode cX5_picks 83 = .ok (.getfield 122, 3) := by decide +kernel
theorem dX5_picks_86 : decode cX5_picks 86 = .ok (.iconst 1, 1) := by decide +kernel
theorem dX5_picks_87 : decode cX5_picks 87 = .ok (.isub, 1) := by decide +kernel
theorem dX5_picks_88 : decode cX5_picks 88 = .ok (.goto 7, 3) := by decide +kernel
theorem dX5_picks_91 : decode cX5_picks 91 = .ok (.aload_n 0, 1) := by decide +kernel
theorem dX5_picks_92 : decode cX5_picks 92 = .ok (.getfield 162, 3) := by decide +kernel
theorem dX5_picks_95 : decode cX5_picks 95 = .ok (.invokevirtual 165, 3) := by decide +kernel
theorem dX5_picks_98 : decode cX5_picks 98 = .ok (.aload_n 0, 1) := by decide +kernel
theorem dX5_picks_99 : decode cX5_picks 99 = .ok (.aload_n 0, 1) := by decide +kernel
theorem dX5_picks_100 : decode cX5_picks 100 = .ok (.getfield 122, 3) := by decide +kernel
theorem dX5_picks_103 : decode cX5_picks 103 = .ok (.invokevirtual 165, 3) := by decide +kernel
theorem dX5_picks_106 : decode cX5_picks 106 = .ok (.aload_n 0, 1) := by decide +kernel
theorem dX5_picks_107 : decode cX5_picks 107 = .ok (.getfield 147, 3) := by decide +kernel
theorem dX5_picks_110 : decode cX5_picks 110 = .ok (.ifCond .eq 20, 3) := by decide +kernel
theorem dX5_picks_113 : decode cX5_picks 113 = .ok (.aload_n 0, 1) := by decide +kernel
theorem dX5_picks_114 : decode cX5_picks 114 = .ok (.getfield 122, 3) := by decide +kernel
theorem dX5_picks_117 : decode cX5_picks 117 = .ok (.ifCond .le 13, 3) := by decide +kernel
theorem dX5_picks_120 : decode cX5_picks 120 = .ok (.aload_n 0, 1) := by decide +kernel
theorem dX5_picks_121 : decode cX5_picks 121 = .ok (.aload_n 0, 1) := by decide +kernel
theorem dX5_picks_122 : decode cX5_picks 122 = .ok (.getfield 122, 3) := by decide +kernel
theorem dX5_picks_125 : decode cX5_picks 125 = .ok (.iconst 1, 1) := by decide +kernel
theorem dX5_picks_126 : decode cX5_picks 126 = .ok (.isub, 1) := by decide +kernel
theorem dX5_picks_127 : decode cX5_picks 127 = .ok (.invokevirtual 165, 3) := by decide +kernel
theorem dX5_picks_130 : decode cX5_picks 130 = .ok (.aload_n 0, 1) := by decide +kernel
theorem dX5_picks_131 : decode cX5_picks 131 = .ok (.getfield 147, 3) := by decide +kernel
theorem dX5_picks_134 : decode cX5_picks 134 = .ok (.ifCond .ne 16, 3) := by decide +kernel
theorem dX5_picks_137 : decode cX5_picks 137 = .ok (.aload_n 0, 1) := by decide +kernel
theorem dX5_picks_138 : decode cX5_picks 138 = .ok (.aload_n 0, 1) := by decide +kernel
theorem dX5_picks_139 : decode cX5_picks 139 = .ok (.getfield 38, 3) := by decide +kernel
theorem dX5_picks_142 : decode cX5_picks 142 = .ok (.aload_n 0, 1) := by decide +kernel
theorem dX5_picks_143 : decode cX5_picks 143 = .ok (.getfield 122, 3) := by decide +kernel
theorem dX5_picks_146 : decode cX5_picks 146 = .ok (.iaload, 1) := by decide +kernel
theorem dX5_picks_147 : decode cX5_picks 147 = .ok (.invokevirtual 165, 3) := by decide +kernel
theorem dX5_picks_150 : decode cX5_picks 150 = .ok (.aload_n 0, 1) := by decide +kernel
theorem dX5_picks_151 : decode cX5_picks 151 = .ok (.getfield 147, 3) := by decide +kernel
theorem dX5_picks_154 : decode cX5_picks 154 = .ok (.ifCond .ne 28, 3) := by decide +kernel
theorem dX5_picks_157 : decode cX5_picks 157 = .ok (.aload_n 0, 1) := by decide +kernel
theorem dX5_picks_158 : decode cX5_picks 158 = .ok (.getfield 41, 3) := by decide +kernel
theorem dX5_picks_161 : decode cX5_picks 161 = .ok (.aload_n 0, 1) := by decide +kernel
theorem dX5_picks_162 : decode cX5_picks 162 = .ok (.getfield 122, 3) := by decide +kernel
theorem dX5_picks_165 : decode cX5_picks 165 = .ok (.iaload, 1) := by decide +kernel
theorem dX5_picks_166 : decode cX5_picks 166 = .ok (.ifCond .lt 16, 3) := by decide +kernel
theorem dX5_picks_169 : decode cX5_picks 169 = .ok (.aload_n 0, 1) := by decide +kernel
theorem dX5_picks_170 : decode cX5_picks 170 = .ok (.aload_n 0, 1) := by decide +kernel
theorem dX5_picks_171 : decode cX5_picks 171 = .ok (.getfield 41, 3) := by decide +kernel
theorem dX5_picks_174 : decode cX5_picks 174 = .ok (.aload_n 0, 1) := by decide +kernel
theorem dX5_picks_175 : decode cX5_picks 175 = .ok (.getfield 122, 3) := by decide +kernel
theorem dX5_picks_178 : decode cX5_picks 178 = .ok (.iaload, 1) := by decide +kernel
theorem dX5_picks_179 : decode cX5_picks 179 = .ok (.invokevirtual 165, 3) := by decide +kernel
theorem dX5_picks_182 : decode cX5_picks 182 = .ok (.aload_n 0, 1) := by decide +kernel
theorem dX5_picks_183 : decode cX5_picks 183 = .ok (.getfield 147, 3) := by decide +kernel
theorem dX5_picks_186 : decode cX5_picks 186 = .ok (.ifCond .eq 28, 3) := by decide +kernel
theorem dX5_picks_189 : decode cX5_picks 189 = .ok (.aload_n 0, 1) := by decide +kernel
theorem dX5_picks_190 : decode cX5_picks 190 = .ok (.getfield 96, 3) := by decide +kernel
theorem dX5_picks_193 : decode cX5_picks 193 = .ok (.ifCond .le 21, 3) := by decide +kernel
theorem dX5_picks_196 : decode cX5_picks 196 = .ok (.iload 4, 2) := by decide +kernel
theorem dX5_picks_198 : decode cX5_picks 198 = .ok (.ifCond .eq 16, 3) := by decide +kernel
theorem dX5_picks_201 : decode cX5_picks 201 = .ok (.aload_n 0, 1) := by decide +kernel
theorem dX5_picks_202 : decode cX5_picks 202 = .ok (.getfield 122, 3) := by decide +kernel
theorem dX5_picks_205 : decode cX5_picks 205 = .ok (.iconst 2, 1) := by decide +kernel
theorem dX5_picks_206 : decode cX5_picks 206 = .ok (.if_icmp .lt 8, 3) := by decide +kernel
theorem dX5_picks_209 : decode cX5_picks 209 = .ok (.aload_n 0, 1) := by decide +kernel
theorem dX5_picks_210 : decode cX5_picks 210 = .ok (.iconst 0, 1) := by decide +kernel
theorem dX5_picks_211 : decode cX5_picks 211 = .ok (.invokevirtual 165, 3) := by decide +kernel
theorem dX5_picks_214 : decode cX5_picks 214 = .ok (.aload_n 0, 1) := by decide +kernel
theorem dX5_picks_215 : decode cX5_picks 215 = .ok (.iload 5, 2) := by decide +kernel
theorem dX5_picks_217 : decode cX5_picks 217 = .ok (.invokevirtual 169, 3) := by decide +kernel
theorem dX5_picks_220 : decode cX5_picks 220 = .ok (.istore 6, 2) := by decide +kernel
theorem dX5_picks_222 : decode cX5_picks 222 = .ok (.iload 6, 2) := by decide +kernel
theorem dX5_picks_224 : decode cX5_picks 224 = .ok (.aload_n 0, 1) := by decide +kernel
theorem dX5_picks_225 : decode cX5_picks 225 = .ok (.getfield 22, 3) := by decide +kernel
theorem dX5_picks_228 : decode cX5_picks 228 = .ok (.if_icmp .le 11, 3) := by decide +kernel
theorem dX5_picks_231 : decode cX5_picks 231 = .ok (.aload_n 0, 1) := by decide +kernel
theorem dX5_picks_232 : decode cX5_picks 232 = .ok (.iconst 3, 1) := by decide +kernel
theorem dX5_picks_233 : decode cX5_picks 233 = .ok (.iload 5, 2) := by decide +kernel
theorem dX5_picks_235 : decode cX5_picks 235 = .ok (.invokevirtual 155, 3) := by decide +kernel
theorem dX5_picks_238 : decode cX5_picks 238 = .ok (.ireturn, 1) := by decide +kernel
theorem dX5_picks_239 : decode cX5_picks 239 = .ok (.aload_n 0, 1) := by decide +kernel
theorem dX5_picks_240 : decode cX5_picks 240 = .ok (.getfield 135, 3) := by decide +kernel
theorem dX5_picks_243 : decode cX5_picks 243 = .ok (.ifCond .ne 23, 3) := by decide +kernel
theorem dX5_picks_246 : decode cX5_picks 246 = .ok (.aload_n 0, 1) := by decide +kernel
theorem dX5_picks_247 : decode cX5_picks 247 = .ok (.aload_n 0, 1) := by decide +kernel
theorem dX5_picks_248 : decode cX5_picks 248 = .ok (.getfield 22, 3) := by decide +kernel
theorem dX5_picks_251 : decode cX5_picks 251 = .ok (.putfield 138, 3) := by decide +kernel
theorem dX5_picks_254 : decode cX5_picks 254 = .ok (.aload_n 0, 1) := by decide +kernel
theorem dX5_picks_255 : decode cX5_picks 255 = .ok (.iconst 1, 1) := by decide +kernel
theorem dX5_picks_256 : decode cX5_picks 256 = .ok (.putfield 135, 3) := by decide +kernel
theorem dX5_picks_259 : decode cX5_picks 259 = .ok (.aload_n 0, 1) := by decide +kernel
theorem dX5_picks_260 : decode cX5_picks 260 = .ok (.getfield 50, 3) := by decide +kernel
theorem dX5_picks_263 : decode cX5_picks 263 = .ok (.iconst 0, 1) := by decide +kernel
theorem dX5_picks_264 : decode cX5_picks 264 = .ok (.iconst 0, 1) := by decide +kernel
theorem dX5_picks_265 : decode cX5_picks 265 = .ok (.iastore, 1) := by decide +kernel
theorem dX5_picks_266 : decode cX5_picks 266 = .ok (.aload_n 0, 1) := by decide +kernel
theorem dX5_picks_267 : decode cX5_picks 267 = .ok (.getfield 138, 3) := by decide +kernel
theorem dX5_picks_270 : decode cX5_picks 270 = .ok (.iload 6, 2) := by decide +kernel
theorem dX5_picks_272 : decode cX5_picks 272 = .ok (.if_icmp .ge 18, 3) := by decide +kernel
theorem dX5_picks_275 : decode cX5_picks 275 = .ok (.aload_n 0, 1) := by decide +kernel
theorem dX5_picks_276 : decode cX5_picks 276 = .ok (.invokevirtual 172, 3) := by decide +kernel
theorem dX5_picks_279 : decode cX5_picks 279 = .ok (.ifCond .ne 11, 3) := by decide +kernel
theorem dX5_picks_282 : decode cX5_picks 282 = .ok (.aload_n 0, 1) := by decide +kernel
theorem dX5_picks_283 : decode cX5_picks 283 = .ok (.iconst 4, 1) := by decide +kernel
theorem dX5_picks_284 : decode cX5_picks 284 = .ok (.iload 5, 2) := by decide +kernel
theorem dX5_picks_286 : decode cX5_picks 286 = .ok (.invokevirtual 155, 3) := by decide +kernel
theorem dX5_picks_289 : decode cX5_picks 289 = .ok (.ireturn, 1) := by decide +kernel
theorem dX5_picks_290 : decode cX5_picks 290 = .ok (.aload_n 0, 1) := by decide +kernel
theorem dX5_picks_291 : decode cX5_picks 291 = .ok (.iload 5, 2) := by decide +kernel
theorem dX5_picks_293 : decode cX5_picks 293 = .ok (.invokevirtual 176, 3) := by decide +kernel
theorem dX5_picks_296 : decode cX5_picks 296 = .ok (.ifCond .ne 11, 3) := by decide +kernel
theorem dX5_picks_299 : decode cX5_picks 299 = .ok (.aload_n 0, 1) := by decide +kernel
theorem dX5_picks_300 : decode cX5_picks 300 = .ok (.iconst 2, 1) := by decide +kernel
theorem dX5_picks_301 : decode cX5_picks 301 = .ok (.iload 5, 2) := by decide +kernel
theorem dX5_picks_303 : decode cX5_picks 303 = .ok (.invokevirtual 155, 3) := by decide +kernel
theorem dX5_picks_306 : decode cX5_picks 306 = .ok (.ireturn, 1) := by decide +kernel
theorem dX5_picks_307 : decode cX5_picks 307 = .ok (.aload_n 0, 1) := by decide +kernel
theorem dX5_picks_308 : decode cX5_picks 308 = .ok (.getfield 35, 3) := by decide +kernel
theorem dX5_picks_311 : decode cX5_picks 311 = .ok (.aload_n 0, 1) := by decide +kernel
theorem dX5_picks_312 : decode cX5_picks 312 = .ok (.getfield 122, 3) := by decide +kernel
theorem dX5_picks_315 : decode cX5_picks 315 = .ok (.iconst 0, 1) := by decide +kernel
theorem dX5_picks_316 : decode cX5_picks 316 = .ok (.iastore, 1) := by decide +kernel
theorem dX5_picks_317 : decode cX5_picks 317 = .ok (.aload_n 0, 1) := by decide +kernel
theorem dX5_picks_318 : decode cX5_picks 318 = .ok (.getfield 44, 3) := by decide +kernel
theorem dX5_picks_321 : decode cX5_picks 321 = .ok (.aload_n 0, 1) := by decide +kernel
theorem dX5_picks_322 : decode cX5_picks 322 = .ok (.getfield 122, 3) := by decide +kernel
theorem dX5_picks_325 : decode cX5_picks 325 = .ok (.aload_n 0, 1) := by decide +kernel
theorem dX5_picks_326 : decode cX5_picks 326 = .ok (.getfield 7, 3) := by decide +kernel
theorem dX5_picks_329 : decode cX5_picks 329 = .ok (.iload 5, 2) := by decide +kernel
theorem dX5_picks_331 : decode cX5_picks 331 = .ok (.iaload, 1) := by decide +kernel
theorem dX5_picks_332 : decode cX5_picks 332 = .ok (.iastore, 1) := by decide +kernel
theorem dX5_picks_333 : decode cX5_picks 333 = .ok (.aload_n 0, 1) := by decide +kernel
theorem dX5_picks_334 : decode cX5_picks 334 = .ok (.getfield 29, 3) := by decide +kernel
theorem dX5_picks_337 : decode cX5_picks 337 = .ok (.aload_n 0, 1) := by decide +kernel
theorem dX5_picks_338 : decode cX5_picks 338 = .ok (.getfield 122, 3) := by decide +kernel
theorem dX5_picks_341 : decode cX5_picks 341 = .ok (.iload 5, 2) := by decide +kernel
theorem dX5_picks_343 : decode cX5_picks 343 = .ok (.iastore, 1) := by decide +kernel
theorem dX5_picks_344 : decode cX5_picks 344 = .ok (.aload_n 0, 1) := by decide +kernel
theorem dX5_picks_345 : decode cX5_picks 345 = .ok (.getfield 32, 3) := by decide +kernel
theorem dX5_picks_348 : decode cX5_picks 348 = .ok (.aload_n 0, 1) := by decide +kernel
theorem dX5_picks_349 : decode cX5_picks 349 = .ok (.getfield 122, 3) := by decide +kernel
theorem dX5_picks_352 : decode cX5_picks 352 = .ok (.aload_n 0, 1) := by decide +kernel
theorem dX5_picks_353 : decode cX5_picks 353 = .ok (.getfield 135, 3) := by decide +kernel
theorem dX5_picks_356 : decode cX5_picks 356 = .ok (.iconst 1, 1) := by decide +kernel
theorem dX5_picks_357 : decode cX5_picks 357 = .ok (.isub, 1) := by decide +kernel
theorem dX5_picks_358 : decode cX5_picks 358 = .ok (.iastore, 1) := by decide +kernel
theorem dX5_picks_359 : decode cX5_picks 359 = .ok (.iconst 0, 1) := by decide +kernel
theorem dX5_picks_360 : decode cX5_picks 360 = .ok (.istore 7, 2) := by decide +kernel
theorem dX5_picks_362 : decode cX5_picks 362 = .ok (.iload 7, 2) := by decide +kernel
theorem dX5_picks_364 : decode cX5_picks 364 = .ok (.aload_n 0, 1) := by decide +kernel
theorem dX5_picks_365 : decode cX5_picks 365 = .ok (.getfield 125, 3) := by decide +kernel
theorem dX5_picks_368 : decode cX5_picks 368 = .ok (.if_icmp .ge 25, 3) := by decide +kernel
theorem dX5_picks_371 : decode cX5_picks 371 = .ok (.aload_n 0, 1) := by decide +kernel
theorem dX5_picks_372 : decode cX5_picks 372 = .ok (.getfield 35, 3) := by decide +kernel
theorem dX5_picks_375 : decode cX5_picks 375 = .ok (.aload_n 0, 1) := by decide +kernel
theorem dX5_picks_376 : decode cX5_picks 376 = .ok (.getfield 56, 3) := by decide +kernel
theorem dX5_picks_379 : decode cX5_picks 379 = .ok (.iload 7, 2) := by decide +kernel
theorem dX5_picks_381 : decode cX5_picks 381 = .ok (.iaload, 1) := by decide +kernel
theorem dX5_picks_382 : decode cX5_picks 382 = .ok (.dup2, 1) := by decide +kernel
theorem dX5_picks_383 : decode cX5_picks 383 = .ok (.iaload, 1) := by decide +kernel
theorem dX5_picks_384 : decode cX5_picks 384 = .ok (.iconst 1, 1) := by decide +kernel
theorem dX5_picks_385 : decode cX5_picks 385 = .ok (.iadd, 1) := by decide +kernel
theorem dX5_picks_386 : decode cX5_picks 386 = .ok (.iastore, 1) := by decide +kernel
theorem dX5_picks_387 : decode cX5_picks 387 = .ok (.iinc 7 1, 3) := by decide +kernel
theorem dX5_picks_390 : decode cX5_picks 390 = .ok (.goto (-28), 3) := by decide +kernel
theorem dX5_picks_393 : decode cX5_picks 393 = .ok (.aload_n 0, 1) := by decide +kernel
theorem dX5_picks_394 : decode cX5_picks 394 = .ok (.getfield 47, 3) := by decide +kernel
theorem dX5_picks_397 : decode cX5_picks 397 = .ok (.iload 5, 2) := by decide +kernel
theorem dX5_picks_399 : decode cX5_picks 399 = .ok (.aload_n 0, 1) := by decide +kernel
theorem dX5_picks_400 : decode cX5_picks 400 = .ok (.getfield 122, 3) := by decide +kernel
theorem dX5_picks_403 : decode cX5_picks 403 = .ok (.iastore, 1) := by decide +kernel
theorem dX5_picks_404 : decode cX5_picks 404 = .ok (.aload_n 0, 1) := by decide +kernel
theorem dX5_picks_405 : decode cX5_picks 405 = .ok (.getfield 159, 3) := by decide +kernel
theorem dX5_picks_408 : decode cX5_picks 408 = .ok (.ifCond .ne 11, 3) := by decide +kernel
theorem dX5_picks_411 : decode cX5_picks 411 = .ok (.aload_n 0, 1) := by decide +kernel
theorem dX5_picks_412 : decode cX5_picks 412 = .ok (.aload_n 0, 1) := by decide +kernel
theorem dX5_picks_413 : decode cX5_picks 413 = .ok (.getfield 122, 3) := by decide +kernel
theorem dX5_picks_416 : decode cX5_picks 416 = .ok (.putfield 179, 3) := by decide +kernel
theorem dX5_picks_419 : decode cX5_picks 419 = .ok (.aload_n 0, 1) := by decide +kernel
theorem dX5_picks_420 : decode cX5_picks 420 = .ok (.dup, 1) := by decide +kernel
theorem dX5_picks_421 : decode cX5_picks 421 = .ok (.getfield 159, 3) := by decide +kernel
theorem dX5_picks_424 : decode cX5_picks 424 = .ok (.iconst 1, 1) := by decide +kernel
theorem dX5_picks_425 : decode cX5_picks 425 = .ok (.iadd, 1) := by decide +kernel
theorem dX5_picks_426 : decode cX5_picks 426 = .ok (.putfield 159, 3) := by decide +kernel
theorem dX5_picks_429 : decode cX5_picks 429 = .ok (.aload_n 0, 1) := by decide +kernel
theorem dX5_picks_430 : decode cX5_picks 430 = .ok (.dup, 1) := by decide +kernel
theorem dX5_picks_431 : decode cX5_picks 431 = .ok (.getfield 122, 3) := by decide +kernel
theorem dX5_picks_434 : decode cX5_picks 434 = .ok (.iconst 1, 1) := by decide +kernel
theorem dX5_picks_435 : decode cX5_picks 435 = .ok (.iadd, 1) := by decide +kernel
theorem dX5_picks_436 : decode cX5_picks 436 = .ok (.putfield 122, 3) := by decide +kernel
theorem dX5_picks_439 : decode cX5_picks 439 = .ok (.aload_n 0, 1) := by decide +kernel
theorem dX5_picks_440 : decode cX5_picks 440 = .ok (.dup, 1) := by decide +kernel
theorem dX5_picks_441 : decode cX5_picks 441 = .ok (.getfield 138, 3) := by decide +kernel
theorem dX5_picks_444 : decode cX5_picks 444 = .ok (.iload 6, 2) := by decide +kernel
theorem dX5_picks_446 : decode cX5_picks 446 = .ok (.isub, 1) := by decide +kernel
theorem dX5_picks_447 : decode cX5_picks 447 = .ok (.putfield 138, 3) := by decide +kernel
theorem dX5_picks_450 : decode cX5_picks 450 = .ok (.aload_n 0, 1) := by decide +kernel
theorem dX5_picks_451 : decode cX5_picks 451 = .ok (.dup, 1) := by decide +kernel
theorem dX5_picks_452 : decode cX5_picks 452 = .ok (.getfield 182, 3) := by decide +kernel
theorem dX5_picks_455 : decode cX5_picks 455 = .ok (.iload 6, 2) := by decide +kernel
theorem dX5_picks_457 : decode cX5_picks 457 = .ok (.iadd, 1) := by decide +kernel
theorem dX5_picks_458 : decode cX5_picks 458 = .ok (.putfield 182, 3) := by decide +kernel
theorem dX5_picks_461 : decode cX5_picks 461 = .ok (.iconst 1, 1) := by decide +kernel
theorem dX5_picks_462 : decode cX5_picks 462 = .ok (.ireturn, 1) := by decide +kernel
set_option maxRecDepth 20000 in
theorem ggX5_lastColumn_X5_columns : GoodIn wsX5_lastColumn wsX5_columns := goodIn_r _ [6, 7, 8, 9, 10, 11, 12, 13, 14, 15, 16, 17, 18, 19, 20, 21, 22, 23, 24, 25, 26, 27, 28, 29, 30, 31, 32, 33, 34, 35, 36, 37, 38, 39, 40, 41, 42, 43, 44, 45, 46, 47, 48, 49, 50, 51, 52, 53, 54, 55] (by decide +kernel) (by decide +kernel)
set_option maxRecDepth 20000 in
theorem gX5_lastColumn_X5_columns : GoodIn wsX5_lastColumn (wsV RX5 103 RX5 yX5_columns wsX5_columns) := goodIn_app (goodIn_of _ (by decide +kernel)) ggX5_lastColumn_X5_columns
theorem dX5_lastColumn_0 : decode cX5_lastColumn 0 = .ok (.iconst (-1), 1) := by decide +kernel
theorem dX5_lastColumn_1 : decode cX5_lastColumn 1 = .ok (.istore_n 3, 1) := by decide +kernel
theorem dX5_lastColumn_2 : decode cX5_lastColumn 2 = .ok (.iconst 0, 1) := by decide +kernel
theorem dX5_lastColumn_3 : decode cX5_lastColumn 3 = .ok (.istore 4, 2) := by decide +kernel
theorem dX5_lastColumn_5 : decode cX5_lastColumn 5 = .ok (.iload 4, 2) := by decide +kernel
theorem dX5_lastColumn_7 : decode cX5_lastColumn 7 = .ok (.aload_n 0, 1) := by decide +kernel
theorem dX5_lastColumn_8 : decode cX5_lastColumn 8 = .ok (.invokevirtual 103, 3) := by decide +kernel
theorem dX5_lastColumn_11 : decode cX5_lastColumn 11 = .ok (.if_icmp .ge 48, 3) := by decide +kernel
theorem dX5_lastColumn_14 : decode cX5_lastColumn 14 = .ok (.iload_n 2, 1) := by decide +kernel
theorem dX5_lastColumn_15 : decode cX5_lastColumn 15 = .ok (.ifCond .eq 8, 3) := by decide +kernel
theorem dX5_lastColumn_18 : decode cX5_lastColumn 18 = .ok (.iload 4, 2) := by decide +kernel
theorem dX5_lastColumn_20 : decode cX5_lastColumn 20 = .ok (.goto 12, 3) := by decide +kernel
theorem dX5_lastColumn_23 : decode cX5_lastColumn 23 = .ok (.aload_n 0, 1) := by decide +kernel
theorem dX5_lastColumn_24 : decode cX5_lastColumn 24 = .ok (.invokevirtual 103, 3) := by decide +kernel
theorem dX5_lastColumn_27 : decode cX5_lastColumn 27 = .ok (.iconst 1, 1) := by decide +kernel
theorem dX5_lastColumn_28 : decode cX5_lastColumn 28 = .ok (.isub, 1) := by decide +kernel
theorem dX5_lastColumn_29 : decode cX5_lastColumn 29 = .ok (.iload 4, 2) := by decide +kernel
theorem dX5_lastColumn_31 : decode cX5_lastColumn 31 = .ok (.isub, 1) := by decide +kernel
theorem dX5_lastColumn_32 : decode cX5_lastColumn 32 = .ok (.istore 5, 2) := by decide +kernel
theorem dX5_lastColumn_34 : decode cX5_lastColumn 34 = .ok (.aload_n 0, 1) := by decide +kernel
theorem dX5_lastColumn_35 : decode cX5_lastColumn 35 = .ok (.getfield 7, 3) := by decide +kernel
theorem dX5_lastColumn_38 : decode cX5_lastColumn 38 = .ok (.bipush 12, 2) := by decide +kernel
theorem dX5_lastColumn_40 : decode cX5_lastColumn 40 = .ok (.iload_n 1, 1) := by decide +kernel
theorem dX5_lastColumn_41 : decode cX5_lastColumn 41 = .ok (.imul, 1) := by decide +kernel
theorem dX5_lastColumn_42 : decode cX5_lastColumn 42 = .ok (.iload 5, 2) := by decide +kernel
theorem dX5_lastColumn_44 : decode cX5_lastColumn 44 = .ok (.iadd, 1) := by decide +kernel
theorem dX5_lastColumn_45 : decode cX5_lastColumn 45 = .ok (.iaload, 1) := by decide +kernel
theorem dX5_lastColumn_46 : decode cX5_lastColumn 46 = .ok (.iconst (-1), 1) := by decide +kernel
theorem dX5_lastColumn_47 : decode cX5_lastColumn 47 = .ok (.if_icmp .eq 6, 3) := by decide +kernel
theorem dX5_lastColumn_50 : decode cX5_lastColumn 50 = .ok (.iload 5, 2) := by decide +kernel
theorem dX5_lastColumn_52 : decode cX5_lastColumn 52 = .ok (.istore_n 3, 1) := by decide +kernel
theorem dX5_lastColumn_53 : decode cX5_lastColumn 53 = .ok (.iinc 4 1, 3) := by decide +kernel
theorem dX5_lastColumn_56 : decode cX5_lastColumn 56 = .ok (.goto (-51), 3) := by decide +kernel
theorem dX5_lastColumn_59 : decode cX5_lastColumn 59 = .ok (.iload_n 3, 1) := by decide +kernel
theorem dX5_lastColumn_60 : decode cX5_lastColumn 60 = .ok (.ireturn, 1) := by decide +kernel
set_option maxRecDepth 20000 in
theorem ggX5_worksRow_X5_lastColumn : GoodIn wsX5_worksRow wsX5_lastColumn := goodIn_r _ [7, 2, 8, 9, 10, 6, 11, 12, 87, 88, 89, 90, 91, 92, 93, 94, 95, 96, 97, 98, 99, 100, 101, 102, 103, 104, 105, 106, 107, 108, 109, 110, 111, 112, 113, 114, 115, 116, 117, 118, 119, 120, 121, 122, 123, 124, 125, 126, 127, 128, 129, 130, 131, 132, 133, 134] (by decide +kernel) (by decide +kernel)
set_option maxRecDepth 20000 in
theorem gX5_worksRow_X5_lastColumn : GoodIn wsX5_worksRow (wsV RX5 185 RX5 yX5_lastColumn wsX5_lastColumn) := goodIn_app (goodIn_of _ (by decide +kernel)) ggX5_worksRow_X5_lastColumn
set_option maxRecDepth 20000 in
theorem ggX5_worksRow_X5_columns : GoodIn wsX5_worksRow wsX5_columns := goodIn_r _ [11, 12, 87, 88, 89, 90, 91, 92, 93, 94, 95, 96, 97, 98, 99, 100, 101, 102, 103, 104, 105, 106, 107, 108, 109, 110, 111, 112, 113, 114, 115, 116, 117, 118, 119, 120, 121, 122, 123, 124, 125, 126, 127, 128, 129, 130, 131, 132, 133, 134] (by decide +kernel) (by decide +kernel)
set_option maxRecDepth 20000 in
theorem gX5_worksRow_X5_columns : GoodIn wsX5_worksRow (wsV RX5 103 RX5 yX5_columns wsX5_columns) := goodIn_app (goodIn_of _ (by decide +kernel)) ggX5_worksRow_X5_columns
set_option maxRecDepth 20000 in
theorem ggX5_worksRow_X5_picks : GoodIn wsX5_worksRow wsX5_picks := goodIn_r _ [16, 17, 18, 19, 20, 21, 1, 12, 22, 23, 24, 25, 26, 27, 28, 2, 29, 30, 31, 32, 33, 34, 35, 36, 37, 6, 38, 39, 40, 41, 42, 43, 44, 45, 46, 47, 48, 49, 50, 51, 52, 53, 54, 55, 56, 57, 58, 59, 60, 61, 62, 63, 64, 65, 66, 67, 68, 69, 70, 71, 72, 73, 74, 75, 76, 77, 78, 79, 80, 81, 82, 83, 84, 85, 86, 87, 88, 89, 90, 91, 92, 93, 94, 95, 96, 97, 98, 99, 100, 101, 102, 103, 104, 105, 106, 107, 108, 109, 110, 111, 112, 113, 114, 115, 116, 117, 118, 119, 120, 121, 122, 123, 124, 125, 126, 127, 128, 129, 130, 131, 132, 133, 134] (by decide +kernel) (by decide +kernel)
set_option maxRecDepth 20000 in
theorem gX5_worksRow_X5_picks : GoodIn wsX5_worksRow (wsV RX5 189 RX5 yX5_picks wsX5_picks) := goodIn_app (goodIn_of _ (by decide +kernel)) ggX5_worksRow_X5_picks
theorem dX5_worksRow_0 : decode cX5_worksRow 0 = .ok (.aload_n 0, 1) := by decide +kernel
theorem dX5_worksRow_1 : decode cX5_worksRow 1 = .ok (.iload_n 1, 1) := by decide +kernel
theorem dX5_worksRow_2 : decode cX5_worksRow 2 = .ok (.iload_n 3, 1) := by decide +kernel
theorem dX5_worksRow_3 : decode cX5_worksRow 3 = .ok (.invokevirtual 185, 3) := by decide +kernel
theorem dX5_worksRow_6 : decode cX5_worksRow 6 = .ok (.istore 4, 2) := by decide +kernel
theorem dX5_worksRow_8 : decode cX5_worksRow 8 = .ok (.aload_n 0, 1) := by decide +kernel
theorem dX5_worksRow_9 : decode cX5_worksRow 9 = .ok (.iconst 0, 1) := by decide +kernel
theorem dX5_worksRow_10 : decode cX5_worksRow 10 = .ok (.putfield 159, 3) := by decide +kernel
theorem dX5_worksRow_13 : decode cX5_worksRow 13 = .ok (.iconst 0, 1) := by decide +kernel
theorem dX5_worksRow_14 : decode cX5_worksRow 14 = .ok (.istore 5, 2) := by decide +kernel
end
section
theorem dX5_worksRow_16 : decode cX5_worksRow 16 = .ok (.iload 5, 2) := by decide +kernel
theorem dX5_worksRow_18 : decode cX5_worksRow 18 = .ok (.aload_n 0, 1) := by decide +kernel
theorem dX5_worksRow_19 : decode cX5_worksRow 19 = .ok (.invokevirtual 103, 3) := by decide +kernel
theorem dX5_worksRow_22 : decode cX5_worksRow 22 = .ok (.if_icmp .ge 70, 3) := by decide +kernel
theorem dX5_worksRow_25 : decode cX5_worksRow 25 = .ok (.iload_n 3, 1) := by decide +kernel
theorem dX5_worksRow_26 : decode cX5_worksRow 26 = .ok (.ifCond .eq 8, 3) := by decide +kernel
theorem dX5_worksRow_29 : decode cX5_worksRow 29 = .ok (.iload 5, 2) := by decide +kernel
theorem dX5_worksRow_31 : decode cX5_worksRow 31 = .ok (.goto 12, 3) := by decide +kernel
theorem dX5_worksRow_34 : decode cX5_worksRow 34 = .ok (.aload_n 0, 1) := by decide +kernel
theorem dX5_worksRow_35 : decode cX5_worksRow 35 = .ok (.invokevirtual 103, 3) := by decide +kernel
theorem dX5_worksRow_38 : decode cX5_worksRow 38 = .ok (.iconst 1, 1) := by decide +kernel
theorem dX5_worksRow_39 : decode cX5_worksRow 39 = .ok (.isub, 1) := by decide +kernel
theorem dX5_worksRow_40 : decode cX5_worksRow 40 = .ok (.iload 5, 2) := by decide +kernel
theorem dX5_worksRow_42 : decode cX5_worksRow 42 = .ok (.isub, 1) := by decide +kernel
theorem dX5_worksRow_43 : decode cX5_worksRow 43 = .ok (.istore 6, 2) := by decide +kernel
theorem dX5_worksRow_45 : decode cX5_worksRow 45 = .ok (.aload_n 0, 1) := by decide +kernel
theorem dX5_worksRow_46 : decode cX5_worksRow 46 = .ok (.getfield 7, 3) := by decide +kernel
theorem dX5_worksRow_49 : decode cX5_worksRow 49 = .ok (.bipush 12, 2) := by decide +kernel
theorem dX5_worksRow_51 : decode cX5_worksRow 51 = .ok (.iload_n 1, 1) := by decide +kernel
theorem dX5_worksRow_52 : decode cX5_worksRow 52 = .ok (.imul, 1) := by decide +kernel
theorem dX5_worksRow_53 : decode cX5_worksRow 53 = .ok (.iload 6, 2) := by decide +kernel
theorem dX5_worksRow_55 : decode cX5_worksRow 55 = .ok (.iadd, 1) := by decide +kernel
theorem dX5_worksRow_56 : decode cX5_worksRow 56 = .ok (.iaload, 1) := by decide +kernel
theorem dX5_worksRow_57 : decode cX5_worksRow 57 = .ok (.iconst (-1), 1) := by decide +kernel
theorem dX5_worksRow_58 : decode cX5_worksRow 58 = .ok (.if_icmp .eq 28, 3) := by decide +kernel
theorem dX5_worksRow_61 : decode cX5_worksRow 61 = .ok (.aload_n 0, 1) := by decide +kernel
theorem dX5_worksRow_62 : decode cX5_worksRow 62 = .ok (.iload_n 1, 1) := by decide +kernel
theorem dX5_worksRow_63 : decode cX5_worksRow 63 = .ok (.iload 6, 2) := by decide +kernel
theorem dX5_worksRow_65 : decode cX5_worksRow 65 = .ok (.iload_n 2, 1) := by decide +kernel
theorem dX5_worksRow_66 : decode cX5_worksRow 66 = .ok (.iload 6, 2) := by decide +kernel
theorem dX5_worksRow_68 : decode cX5_worksRow 68 = .ok (.iload 4, 2) := by decide +kernel
theorem dX5_worksRow_70 : decode cX5_worksRow 70 = .ok (.if_icmp .ne 7, 3) := by decide +kernel
theorem dX5_worksRow_73 : decode cX5_worksRow 73 = .ok (.iconst 1, 1) := by decide +kernel
theorem dX5_worksRow_74 : decode cX5_worksRow 74 = .ok (.goto 4, 3) := by decide +kernel
theorem dX5_worksRow_77 : decode cX5_worksRow 77 = .ok (.iconst 0, 1) := by decide +kernel
theorem dX5_worksRow_78 : decode cX5_worksRow 78 = .ok (.invokevirtual 189, 3) := by decide +kernel
theorem dX5_worksRow_81 : decode cX5_worksRow 81 = .ok (.ifCond .ne 5, 3) := by decide +kernel
theorem dX5_worksRow_84 : decode cX5_worksRow 84 = .ok (.iconst 0, 1) := by decide +kernel
theorem dX5_worksRow_85 : decode cX5_worksRow 85 = .ok (.ireturn, 1) := by decide +kernel
theorem dX5_worksRow_86 : decode cX5_worksRow 86 = .ok (.iinc 5 1, 3) := by decide +kernel
theorem dX5_worksRow_89 : decode cX5_worksRow 89 = .ok (.goto (-73), 3) := by decide +kernel
theorem dX5_worksRow_92 : decode cX5_worksRow 92 = .ok (.iconst 1, 1) := by decide +kernel
theorem dX5_worksRow_93 : decode cX5_worksRow 93 = .ok (.ireturn, 1) := by decide +kernel
set_option maxRecDepth 20000 in
theorem ggX5_tries_X5_lastColumn : GoodIn wsX5_tries wsX5_lastColumn := goodIn_r _ [16, 17, 18, 19, 20, 15, 21, 11, 91, 92, 93, 94, 95, 96, 97, 98, 99, 100, 101, 102, 103, 104, 105, 106, 107, 108, 109, 110, 111, 112, 113, 114, 115, 116, 117, 118, 119, 120, 121, 122, 123, 124, 125, 126, 127, 128, 129, 130, 131, 132, 133, 134, 135, 136, 137, 138] (by decide +kernel) (by decide +kernel)
set_option maxRecDepth 20000 in
theorem gX5_tries_X5_lastColumn : GoodIn wsX5_tries (wsV RX5 185 RX5 yX5_lastColumn wsX5_lastColumn) := goodIn_app (goodIn_of _ (by decide +kernel)) ggX5_tries_X5_lastColumn
set_option maxRecDepth 20000 in
theorem ggX5_tries_X5_worksRow : GoodIn wsX5_tries wsX5_worksRow := goodIn_r _ [25, 26, 17, 12, 13, 14, 15, 16, 18, 19, 20, 21, 11, 27, 28, 29, 30, 31, 32, 1, 33, 8, 10, 34, 4, 6, 35, 36, 37, 38, 39, 40, 7, 9, 5, 41, 42, 43, 44, 45, 46, 47, 48, 49, 50, 51, 52, 53, 54, 55, 56, 57, 58, 59, 60, 2, 3, 61, 62, 63, 64, 65, 66, 67, 68, 69, 70, 71, 72, 73, 74, 75, 76, 77, 78, 79, 80, 81, 82, 83, 84, 85, 86, 87, 88, 89, 90, 91, 92, 93, 94, 95, 96, 97, 98, 99, 100, 101, 102, 103, 104, 105, 106, 107, 108, 109, 110, 111, 112, 113, 114, 115, 116, 117, 118, 119, 120, 121, 122, 123, 124, 125, 126, 127, 128, 129, 130, 131, 132, 133, 134, 135, 136, 137, 138] (by decide +kernel) (by decide +kernel)
set_option maxRecDepth 20000 in
theorem gX5_tries_X5_worksRow : GoodIn wsX5_tries (wsV RX5 193 RX5 yX5_worksRow wsX5_worksRow) := goodIn_app (goodIn_of _ (by decide +kernel)) ggX5_tries_X5_worksRow
theorem dX5_tries_0 : decode cX5_tries 0 = .ok (.aload_n 0, 1) := by decide +kernel
theorem dX5_tries_1 : decode cX5_tries 1 = .ok (.iconst 0, 1) := by decide +kernel
theorem dX5_tries_2 : decode cX5_tries 2 = .ok (.putfield 122, 3) := by decide +kernel
theorem dX5_tries_5 : decode cX5_tries 5 = .ok (.aload_n 0, 1) := by decide +kernel
theorem dX5_tries_6 : decode cX5_tries 6 = .ok (.iconst 0, 1) := by decide +kernel
theorem dX5_tries_7 : decode cX5_tries 7 = .ok (.putfield 141, 3) := by decide +kernel
theorem dX5_tries_10 : decode cX5_tries 10 = .ok (.aload_n 0, 1) := by decide +kernel
theorem dX5_tries_11 : decode cX5_tries 11 = .ok (.iconst (-1), 1) := by decide +kernel
theorem dX5_tries_12 : decode cX5_tries 12 = .ok (.putfield 144, 3) := by decide +kernel
theorem dX5_tries_15 : decode cX5_tries 15 = .ok (.aload_n 0, 1) := by decide +kernel
theorem dX5_tries_16 : decode cX5_tries 16 = .ok (.iconst 0, 1) := by decide +kernel
theorem dX5_tries_17 : decode cX5_tries 17 = .ok (.putfield 135, 3) := by decide +kernel
theorem dX5_tries_20 : decode cX5_tries 20 = .ok (.aload_n 0, 1) := by decide +kernel
theorem dX5_tries_21 : decode cX5_tries 21 = .ok (.iconst 0, 1) := by decide +kernel
theorem dX5_tries_22 : decode cX5_tries 22 = .ok (.putfield 182, 3) := by decide +kernel
theorem dX5_tries_25 : decode cX5_tries 25 = .ok (.aload_n 0, 1) := by decide +kernel
theorem dX5_tries_26 : decode cX5_tries 26 = .ok (.iconst 0, 1) := by decide +kernel
theorem dX5_tries_27 : decode cX5_tries 27 = .ok (.putfield 138, 3) := by decide +kernel
theorem dX5_tries_30 : decode cX5_tries 30 = .ok (.iconst 0, 1) := by decide +kernel
theorem dX5_tries_31 : decode cX5_tries 31 = .ok (.istore_n 2, 1) := by decide +kernel
theorem dX5_tries_32 : decode cX5_tries 32 = .ok (.iload_n 2, 1) := by decide +kernel
theorem dX5_tries_33 : decode cX5_tries 33 = .ok (.sipush 144, 3) := by decide +kernel
theorem dX5_tries_36 : decode cX5_tries 36 = .ok (.if_icmp .ge 16, 3) := by decide +kernel
theorem dX5_tries_39 : decode cX5_tries 39 = .ok (.aload_n 0, 1) := by decide +kernel
theorem dX5_tries_40 : decode cX5_tries 40 = .ok (.getfield 47, 3) := by decide +kernel
theorem dX5_tries_43 : decode cX5_tries 43 = .ok (.iload_n 2, 1) := by decide +kernel
theorem dX5_tries_44 : decode cX5_tries 44 = .ok (.iconst (-1), 1) := by decide +kernel
theorem dX5_tries_45 : decode cX5_tries 45 = .ok (.iastore, 1) := by decide +kernel
theorem dX5_tries_46 : decode cX5_tries 46 = .ok (.iinc 2 1, 3) := by decide +kernel
theorem dX5_tries_49 : decode cX5_tries 49 = .ok (.goto (-17), 3) := by decide +kernel
theorem dX5_tries_52 : decode cX5_tries 52 = .ok (.iload_n 1, 1) := by decide +kernel
theorem dX5_tries_53 : decode cX5_tries 53 = .ok (.iconst 2, 1) := by decide +kernel
theorem dX5_tries_54 : decode cX5_tries 54 = .ok (.if_icmp .ge 7, 3) := by decide +kernel
theorem dX5_tries_57 : decode cX5_tries 57 = .ok (.iconst 1, 1) := by decide +kernel
theorem dX5_tries_58 : decode cX5_tries 58 = .ok (.goto 4, 3) := by decide +kernel
theorem dX5_tries_61 : decode cX5_tries 61 = .ok (.iconst 0, 1) := by decide +kernel
theorem dX5_tries_62 : decode cX5_tries 62 = .ok (.istore_n 2, 1) := by decide +kernel
theorem dX5_tries_63 : decode cX5_tries 63 = .ok (.iload_n 1, 1) := by decide +kernel
theorem dX5_tries_64 : decode cX5_tries 64 = .ok (.iconst 2, 1) := by decide +kernel
theorem dX5_tries_65 : decode cX5_tries 65 = .ok (.irem, 1) := by decide +kernel
theorem dX5_tries_66 : decode cX5_tries 66 = .ok (.ifCond .ne 7, 3) := by decide +kernel
theorem dX5_tries_69 : decode cX5_tries 69 = .ok (.iconst 1, 1) := by decide +kernel
theorem dX5_tries_70 : decode cX5_tries 70 = .ok (.goto 4, 3) := by decide +kernel
theorem dX5_tries_73 : decode cX5_tries 73 = .ok (.iconst 0, 1) := by decide +kernel
theorem dX5_tries_74 : decode cX5_tries 74 = .ok (.istore_n 3, 1) := by decide +kernel
theorem dX5_tries_75 : decode cX5_tries 75 = .ok (.aload_n 0, 1) := by decide +kernel
theorem dX5_tries_76 : decode cX5_tries 76 = .ok (.iconst 1, 1) := by decide +kernel
theorem dX5_tries_77 : decode cX5_tries 77 = .ok (.putfield 147, 3) := by decide +kernel
theorem dX5_tries_80 : decode cX5_tries 80 = .ok (.iconst 1, 1) := by decide +kernel
theorem dX5_tries_81 : decode cX5_tries 81 = .ok (.istore 4, 2) := by decide +kernel
theorem dX5_tries_83 : decode cX5_tries 83 = .ok (.iconst 0, 1) := by decide +kernel
theorem dX5_tries_84 : decode cX5_tries 84 = .ok (.istore 5, 2) := by decide +kernel
theorem dX5_tries_86 : decode cX5_tries 86 = .ok (.iload 5, 2) := by decide +kernel
theorem dX5_tries_88 : decode cX5_tries 88 = .ok (.bipush 12, 2) := by decide +kernel
theorem dX5_tries_90 : decode cX5_tries 90 = .ok (.if_icmp .ge 98, 3) := by decide +kernel
theorem dX5_tries_93 : decode cX5_tries 93 = .ok (.iload 4, 2) := by decide +kernel
theorem dX5_tries_95 : decode cX5_tries 95 = .ok (.ifCond .eq 93, 3) := by decide +kernel
theorem dX5_tries_98 : decode cX5_tries 98 = .ok (.iload_n 2, 1) := by decide +kernel
theorem dX5_tries_99 : decode cX5_tries 99 = .ok (.ifCond .eq 8, 3) := by decide +kernel
theorem dX5_tries_102 : decode cX5_tries 102 = .ok (.iload 5, 2) := by decide +kernel
theorem dX5_tries_104 : decode cX5_tries 104 = .ok (.goto 8, 3) := by decide +kernel
theorem dX5_tries_107 : decode cX5_tries 107 = .ok (.bipush 11, 2) := by decide +kernel
theorem dX5_tries_109 : decode cX5_tries 109 = .ok (.iload 5, 2) := by decide +kernel
theorem dX5_tries_111 : decode cX5_tries 111 = .ok (.isub, 1) := by decide +kernel
theorem dX5_tries_112 : decode cX5_tries 112 = .ok (.istore 6, 2) := by decide +kernel
theorem dX5_tries_114 : decode cX5_tries 114 = .ok (.aload_n 0, 1) := by decide +kernel
theorem dX5_tries_115 : decode cX5_tries 115 = .ok (.iload 6, 2) := by decide +kernel
theorem dX5_tries_117 : decode cX5_tries 117 = .ok (.iconst 1, 1) := by decide +kernel
theorem dX5_tries_118 : decode cX5_tries 118 = .ok (.invokevirtual 185, 3) := by decide +kernel
theorem dX5_tries_121 : decode cX5_tries 121 = .ok (.iconst (-1), 1) := by decide +kernel
theorem dX5_tries_122 : decode cX5_tries 122 = .ok (.if_icmp .ne 6, 3) := by decide +kernel
theorem dX5_tries_125 : decode cX5_tries 125 = .ok (.goto 57, 3) := by decide +kernel
theorem dX5_tries_128 : decode cX5_tries 128 = .ok (.aload_n 0, 1) := by decide +kernel
theorem dX5_tries_129 : decode cX5_tries 129 = .ok (.iload 6, 2) := by decide +kernel
theorem dX5_tries_131 : decode cX5_tries 131 = .ok (.iload_n 2, 1) := by decide +kernel
theorem dX5_tries_132 : decode cX5_tries 132 = .ok (.ifCond .eq 10, 3) := by decide +kernel
theorem dX5_tries_135 : decode cX5_tries 135 = .ok (.iload 6, 2) := by decide +kernel
theorem dX5_tries_137 : decode cX5_tries 137 = .ok (.iconst 1, 1) := by decide +kernel
theorem dX5_tries_138 : decode cX5_tries 138 = .ok (.isub, 1) := by decide +kernel
theorem dX5_tries_139 : decode cX5_tries 139 = .ok (.goto 7, 3) := by decide +kernel
theorem dX5_tries_142 : decode cX5_tries 142 = .ok (.iload 6, 2) := by decide +kernel
theorem dX5_tries_144 : decode cX5_tries 144 = .ok (.iconst 1, 1) := by decide +kernel
theorem dX5_tries_145 : decode cX5_tries 145 = .ok (.iadd, 1) := by decide +kernel
theorem dX5_tries_146 : decode cX5_tries 146 = .ok (.iload_n 3, 1) := by decide +kernel
theorem dX5_tries_147 : decode cX5_tries 147 = .ok (.invokevirtual 193, 3) := by decide +kernel
theorem dX5_tries_150 : decode cX5_tries 150 = .ok (.istore 4, 2) := by decide +kernel
theorem dX5_tries_152 : decode cX5_tries 152 = .ok (.aload_n 0, 1) := by decide +kernel
theorem dX5_tries_153 : decode cX5_tries 153 = .ok (.aload_n 0, 1) := by decide +kernel
theorem dX5_tries_154 : decode cX5_tries 154 = .ok (.getfield 179, 3) := by decide +kernel
theorem dX5_tries_157 : decode cX5_tries 157 = .ok (.putfield 162, 3) := by decide +kernel
theorem dX5_tries_160 : decode cX5_tries 160 = .ok (.aload_n 0, 1) := by decide +kernel
theorem dX5_tries_161 : decode cX5_tries 161 = .ok (.iconst 0, 1) := by decide +kernel
theorem dX5_tries_162 : decode cX5_tries 162 = .ok (.putfield 147, 3) := by decide +kernel
theorem dX5_tries_165 : decode cX5_tries 165 = .ok (.aload_n 0, 1) := by decide +kernel
theorem dX5_tries_166 : decode cX5_tries 166 = .ok (.getfield 96, 3) := by decide +kernel
theorem dX5_tries_169 : decode cX5_tries 169 = .ok (.ifCond .ne 13, 3) := by decide +kernel
theorem dX5_tries_172 : decode cX5_tries 172 = .ok (.iload_n 3, 1) := by decide +kernel
theorem dX5_tries_173 : decode cX5_tries 173 = .ok (.ifCond .ne 7, 3) := by decide +kernel
theorem dX5_tries_176 : decode cX5_tries 176 = .ok (.iconst 1, 1) := by decide +kernel
theorem dX5_tries_177 : decode cX5_tries 177 = .ok (.goto 4, 3) := by decide +kernel
theorem dX5_tries_180 : decode cX5_tries 180 = .ok (.iconst 0, 1) := by decide +kernel
theorem dX5_tries_181 : decode cX5_tries 181 = .ok (.istore_n 3, 1) := by decide +kernel
theorem dX5_tries_182 : decode cX5_tries 182 = .ok (.iinc 5 1, 3) := by decide +kernel
theorem dX5_tries_185 : decode cX5_tries 185 = .ok (.goto (-99), 3) := by decide +kernel
theorem dX5_tries_188 : decode cX5_tries 188 = .ok (.return_, 1) := by decide +kernel
theorem dX5_keeps_0 : decode cX5_keeps 0 = .ok (.aload_n 0, 1) := by decide +kernel
theorem dX5_keeps_1 : decode cX5_keeps 1 = .ok (.iconst 1, 1) := by decide +kernel
theorem dX5_keeps_2 : decode cX5_keeps 2 = .ok (.putfield 197, 3) := by decide +kernel
theorem dX5_keeps_5 : decode cX5_keeps 5 = .ok (.aload_n 0, 1) := by decide +kernel
theorem dX5_keeps_6 : decode cX5_keeps 6 = .ok (.aload_n 0, 1) := by decide +kernel
theorem dX5_keeps_7 : decode cX5_keeps 7 = .ok (.getfield 122, 3) := by decide +kernel
theorem dX5_keeps_10 : decode cX5_keeps 10 = .ok (.putfield 200, 3) := by decide +kernel
theorem dX5_keeps_13 : decode cX5_keeps 13 = .ok (.aload_n 0, 1) := by decide +kernel
theorem dX5_keeps_14 : decode cX5_keeps 14 = .ok (.aload_n 0, 1) := by decide +kernel
theorem dX5_keeps_15 : decode cX5_keeps 15 = .ok (.getfield 141, 3) := by decide +kernel
theorem dX5_keeps_18 : decode cX5_keeps 18 = .ok (.putfield 203, 3) := by decide +kernel
theorem dX5_keeps_21 : decode cX5_keeps 21 = .ok (.aload_n 0, 1) := by decide +kernel
theorem dX5_keeps_22 : decode cX5_keeps 22 = .ok (.aload_n 0, 1) := by decide +kernel
theorem dX5_keeps_23 : decode cX5_keeps 23 = .ok (.getfield 144, 3) := by decide +kernel
theorem dX5_keeps_26 : decode cX5_keeps 26 = .ok (.putfield 206, 3) := by decide +kernel
theorem dX5_keeps_29 : decode cX5_keeps 29 = .ok (.aload_n 0, 1) := by decide +kernel
theorem dX5_keeps_30 : decode cX5_keeps 30 = .ok (.aload_n 0, 1) := by decide +kernel
theorem dX5_keeps_31 : decode cX5_keeps 31 = .ok (.getfield 135, 3) := by decide +kernel
theorem dX5_keeps_34 : decode cX5_keeps 34 = .ok (.putfield 209, 3) := by decide +kernel
theorem dX5_keeps_37 : decode cX5_keeps 37 = .ok (.aload_n 0, 1) := by decide +kernel
theorem dX5_keeps_38 : decode cX5_keeps 38 = .ok (.aload_n 0, 1) := by decide +kernel
theorem dX5_keeps_39 : decode cX5_keeps 39 = .ok (.getfield 182, 3) := by decide +kernel
theorem dX5_keeps_42 : decode cX5_keeps 42 = .ok (.putfield 212, 3) := by decide +kernel
theorem dX5_keeps_45 : decode cX5_keeps 45 = .ok (.aload_n 0, 1) := by decide +kernel
theorem dX5_keeps_46 : decode cX5_keeps 46 = .ok (.aload_n 0, 1) := by decide +kernel
theorem dX5_keeps_47 : decode cX5_keeps 47 = .ok (.getfield 138, 3) := by decide +kernel
theorem dX5_keeps_50 : decode cX5_keeps 50 = .ok (.putfield 215, 3) := by decide +kernel
theorem dX5_keeps_53 : decode cX5_keeps 53 = .ok (.iconst 0, 1) := by decide +kernel
theorem dX5_keeps_54 : decode cX5_keeps 54 = .ok (.istore_n 1, 1) := by decide +kernel
theorem dX5_keeps_55 : decode cX5_keeps 55 = .ok (.iload_n 1, 1) := by decide +kernel
theorem dX5_keeps_56 : decode cX5_keeps 56 = .ok (.sipush 144, 3) := by decide +kernel
theorem dX5_keeps_59 : decode cX5_keeps 59 = .ok (.if_icmp .ge 93, 3) := by decide +kernel
theorem dX5_keeps_62 : decode cX5_keeps 62 = .ok (.aload_n 0, 1) := by decide +kernel
theorem dX5_keeps_63 : decode cX5_keeps 63 = .ok (.getfield 83, 3) := by decide +kernel
theorem dX5_keeps_66 : decode cX5_keeps 66 = .ok (.iload_n 1, 1) := by decide +kernel
theorem dX5_keeps_67 : decode cX5_keeps 67 = .ok (.aload_n 0, 1) := by decide +kernel
theorem dX5_keeps_68 : decode cX5_keeps 68 = .ok (.getfield 47, 3) := by decide +kernel
theorem dX5_keeps_71 : decode cX5_keeps 71 = .ok (.iload_n 1, 1) := by decide +kernel
theorem dX5_keeps_72 : decode cX5_keeps 72 = .ok (.iaload, 1) := by decide +kernel
theorem dX5_keeps_73 : decode cX5_keeps 73 = .ok (.iastore, 1) := by decide +kernel
theorem dX5_keeps_74 : decode cX5_keeps 74 = .ok (.aload_n 0, 1) := by decide +kernel
theorem dX5_keeps_75 : decode cX5_keeps 75 = .ok (.getfield 65, 3) := by decide +kernel
theorem dX5_keeps_78 : decode cX5_keeps 78 = .ok (.iload_n 1, 1) := by decide +kernel
theorem dX5_keeps_79 : decode cX5_keeps 79 = .ok (.aload_n 0, 1) := by decide +kernel
theorem dX5_keeps_80 : decode cX5_keeps 80 = .ok (.getfield 29, 3) := by decide +kernel
theorem dX5_keeps_83 : decode cX5_keeps 83 = .ok (.iload_n 1, 1) := by decide +kernel
theorem dX5_keeps_84 : decode cX5_keeps 84 = .ok (.iaload, 1) := by decide +kernel
theorem dX5_keeps_85 : decode cX5_keeps 85 = .ok (.iastore, 1) := by decide +kernel
theorem dX5_keeps_86 : decode cX5_keeps 86 = .ok (.aload_n 0, 1) := by decide +kernel
theorem dX5_keeps_87 : decode cX5_keeps 87 = .ok (.getfield 68, 3) := by decide +kernel
theorem dX5_keeps_90 : decode cX5_keeps 90 = .ok (.iload_n 1, 1) := by decide +kernel
theorem dX5_keeps_91 : decode cX5_keeps 91 = .ok (.aload_n 0, 1) := by decide +kernel
theorem dX5_keeps_92 : decode cX5_keeps 92 = .ok (.getfield 32, 3) := by decide +kernel
theorem dX5_keeps_95 : decode cX5_keeps 95 = .ok (.iload_n 1, 1) := by decide +kernel
theorem dX5_keeps_96 : decode cX5_keeps 96 = .ok (.iaload, 1) := by decide +kernel
theorem dX5_keeps_97 : decode cX5_keeps 97 = .ok (.iastore, 1) := by decide +kernel
theorem dX5_keeps_98 : decode cX5_keeps 98 = .ok (.aload_n 0, 1) := by decide +kernel
theorem dX5_keeps_99 : decode cX5_keeps 99 = .ok (.getfield 71, 3) := by decide +kernel
theorem dX5_keeps_102 : decode cX5_keeps 102 = .ok (.iload_n 1, 1) := by decide +kernel
theorem dX5_keeps_103 : decode cX5_keeps 103 = .ok (.aload_n 0, 1) := by decide +kernel
theorem dX5_keeps_104 : decode cX5_keeps 104 = .ok (.getfield 35, 3) := by decide +kernel
theorem dX5_keeps_107 : decode cX5_keeps 107 = .ok (.iload_n 1, 1) := by decide +kernel
theorem dX5_keeps_108 : decode cX5_keeps 108 = .ok (.iaload, 1) := by decide +kernel
theorem dX5_keeps_109 : decode cX5_keeps 109 = .ok (.iastore, 1) := by decide +kernel
theorem dX5_keeps_110 : decode cX5_keeps 110 = .ok (.aload_n 0, 1) := by decide +kernel
theorem dX5_keeps_111 : decode cX5_keeps 111 = .ok (.getfield 74, 3) := by decide +kernel
theorem dX5_keeps_114 : decode cX5_keeps 114 = .ok (.iload_n 1, 1) := by decide +kernel
theorem dX5_keeps_115 : decode cX5_keeps 115 = .ok (.aload_n 0, 1) := by decide +kernel
theorem dX5_keeps_116 : decode cX5_keeps 116 = .ok (.getfield 38, 3) := by decide +kernel
theorem dX5_keeps_119 : decode cX5_keeps 119 = .ok (.iload_n 1, 1) := by decide +kernel
theorem dX5_keeps_120 : decode cX5_keeps 120 = .ok (.iaload, 1) := by decide +kernel
theorem dX5_keeps_121 : decode cX5_keeps 121 = .ok (.iastore, 1) := by decide +kernel
theorem dX5_keeps_122 : decode cX5_keeps 122 = .ok (.aload_n 0, 1) := by decide +kernel
theorem dX5_keeps_123 : decode cX5_keeps 123 = .ok (.getfield 77, 3) := by decide +kernel
theorem dX5_keeps_126 : decode cX5_keeps 126 = .ok (.iload_n 1, 1) := by decide +kernel
theorem dX5_keeps_127 : decode cX5_keeps 127 = .ok (.aload_n 0, 1) := by decide +kernel
theorem dX5_keeps_128 : decode cX5_keeps 128 = .ok (.getfield 41, 3) := by decide +kernel
theorem dX5_keeps_131 : decode cX5_keeps 131 = .ok (.iload_n 1, 1) := by decide +kernel
theorem dX5_keeps_132 : decode cX5_keeps 132 = .ok (.iaload, 1) := by decide +kernel
theorem dX5_keeps_133 : decode cX5_keeps 133 = .ok (.iastore, 1) := by decide +kernel
theorem dX5_keeps_134 : decode cX5_keeps 134 = .ok (.aload_n 0, 1) := by decide +kernel
theorem dX5_keeps_135 : decode cX5_keeps 135 = .ok (.getfield 80, 3) := by decide +kernel
theorem dX5_keeps_138 : decode cX5_keeps 138 = .ok (.iload_n 1, 1) := by decide +kernel
theorem dX5_keeps_139 : decode cX5_keeps 139 = .ok (.aload_n 0, 1) := by decide +kernel
theorem dX5_keeps_140 : decode cX5_keeps 140 = .ok (.getfield 44, 3) := by decide +kernel
theorem dX5_keeps_143 : decode cX5_keeps 143 = .ok (.iload_n 1, 1) := by decide +kernel
theorem dX5_keeps_144 : decode cX5_keeps 144 = .ok (.iaload, 1) := by decide +kernel
theorem dX5_keeps_145 : decode cX5_keeps 145 = .ok (.iastore, 1) := by decide +kernel
theorem dX5_keeps_146 : decode cX5_keeps 146 = .ok (.iinc 1 1, 3) := by decide +kernel
theorem dX5_keeps_149 : decode cX5_keeps 149 = .ok (.goto (-94), 3) := by decide +kernel
theorem dX5_keeps_152 : decode cX5_keeps 152 = .ok (.iconst 0, 1) := by decide +kernel
theorem dX5_keeps_153 : decode cX5_keeps 153 = .ok (.istore_n 1, 1) := by decide +kernel
theorem dX5_keeps_154 : decode cX5_keeps 154 = .ok (.iload_n 1, 1) := by decide +kernel
theorem dX5_keeps_155 : decode cX5_keeps 155 = .ok (.sipush 150, 3) := by decide +kernel
theorem dX5_keeps_158 : decode cX5_keeps 158 = .ok (.if_icmp .ge 21, 3) := by decide +kernel
theorem dX5_keeps_161 : decode cX5_keeps 161 = .ok (.aload_n 0, 1) := by decide +kernel
theorem dX5_keeps_162 : decode cX5_keeps 162 = .ok (.getfield 86, 3) := by decide +kernel
theorem dX5_keeps_165 : decode cX5_keeps 165 = .ok (.iload_n 1, 1) := by decide +kernel
theorem dX5_keeps_166 : decode cX5_keeps 166 = .ok (.aload_n 0, 1) := by decide +kernel
theorem dX5_keeps_167 : decode cX5_keeps 167 = .ok (.getfield 50, 3) := by decide +kernel
theorem dX5_keeps_170 : decode cX5_keeps 170 = .ok (.iload_n 1, 1) := by decide +kernel
theorem dX5_keeps_171 : decode cX5_keeps 171 = .ok (.iaload, 1) := by decide +kernel
theorem dX5_keeps_172 : decode cX5_keeps 172 = .ok (.iastore, 1) := by decide +kernel
theorem dX5_keeps_173 : decode cX5_keeps 173 = .ok (.iinc 1 1, 3) := by decide +kernel
theorem dX5_keeps_176 : decode cX5_keeps 176 = .ok (.goto (-22), 3) := by decide +kernel
theorem dX5_keeps_179 : decode cX5_keeps 179 = .ok (.iconst 0, 1) := by decide +kernel
theorem dX5_keeps_180 : decode cX5_keeps 180 = .ok (.istore_n 1, 1) := by decide +kernel
theorem dX5_keeps_181 : decode cX5_keeps 181 = .ok (.iload_n 1, 1) := by decide +kernel
theorem dX5_keeps_182 : decode cX5_keeps 182 = .ok (.sipush 900, 3) := by decide +kernel
theorem dX5_keeps_185 : decode cX5_keeps 185 = .ok (.if_icmp .ge 21, 3) := by decide +kernel
theorem dX5_keeps_188 : decode cX5_keeps 188 = .ok (.aload_n 0, 1) := by decide +kernel
theorem dX5_keeps_189 : decode cX5_keeps 189 = .ok (.getfield 89, 3) := by decide +kernel
theorem dX5_keeps_192 : decode cX5_keeps 192 = .ok (.iload_n 1, 1) := by decide +kernel
theorem dX5_keeps_193 : decode cX5_keeps 193 = .ok (.aload_n 0, 1) := by decide +kernel
theorem dX5_keeps_194 : decode cX5_keeps 194 = .ok (.getfield 53, 3) := by decide +kernel
theorem dX5_keeps_197 : decode cX5_keeps 197 = .ok (.iload_n 1, 1) := by decide +kernel
theorem dX5_keeps_198 : decode cX5_keeps 198 = .ok (.iaload, 1) := by decide +kernel
theorem dX5_keeps_199 : decode cX5_keeps 199 = .ok (.iastore, 1) := by decide +kernel
theorem dX5_keeps_200 : decode cX5_keeps 200 = .ok (.iinc 1 1, 3) := by decide +kernel
theorem dX5_keeps_203 : decode cX5_keeps 203 = .ok (.goto (-22), 3) := by decide +kernel
theorem dX5_keeps_206 : decode cX5_keeps 206 = .ok (.return_, 1) := by decide +kernel
set_option maxRecDepth 20000 in
theorem ggX5_work_X5_in : GoodIn wsX5_work wsX5_in := goodIn_r _ [5] (by decide +kernel) (by decide +kernel)
set_option maxRecDepth 20000 in
theorem gX5_work_X5_in : GoodIn wsX5_work (va_wsS RX5 99 yX5_in wsX5_in) := goodIn_app (goodIn_of _ (by decide +kernel)) ggX5_work_X5_in
set_option maxRecDepth 20000 in
theorem ggX5_work_X5_tries : GoodIn wsX5_work wsX5_tries := goodIn_r _ [9, 10, 11, 12, 13, 14, 15, 16, 17, 18, 19, 20, 21, 22, 23, 4, 24, 25, 26, 27, 28, 29, 30, 31, 32, 33, 34, 35, 36, 37, 38, 39, 40, 41, 42, 43, 44, 45, 46, 47, 48, 49, 50, 51, 52, 53, 54, 55, 56, 57, 58, 59, 60, 61, 2, 3, 5, 62, 63, 64, 65, 66, 67, 68, 69, 70, 71, 72, 73, 74, 75, 76, 77, 78, 79, 80, 81, 82, 83, 84, 85, 86, 87, 88, 89, 90, 91, 92, 93, 94, 95, 115, 116, 117, 118, 119, 120, 121, 122, 123, 124, 125, 126, 127, 128, 129, 130, 131, 132, 133, 134, 135, 136, 137, 138, 139, 140, 141, 142, 143, 144, 145, 146, 147, 148, 149, 150, 151, 152, 153, 154, 155, 156, 157, 158, 159, 160, 161, 162] (by decide +kernel) (by decide +kernel)
set_option maxRecDepth 20000 in
theorem gX5_work_X5_tries : GoodIn wsX5_work (wsV RX5 218 RX5 yX5_tries wsX5_tries) := goodIn_app (goodIn_of _ (by decide +kernel)) ggX5_work_X5_tries
set_option maxRecDepth 20000 in
theorem ggX5_work_X5_keeps : GoodIn wsX5_work wsX5_keeps := goodIn_r _ [99, 100, 10, 1, 11, 101, 12, 102, 13, 103, 14, 104, 15, 105, 106, 16, 107, 46, 108, 47, 109, 44, 110, 40, 111, 41, 112, 45, 113, 43, 114, 86, 115, 116, 117, 118, 119, 120, 121, 122, 123, 124, 125, 126, 127, 128, 129, 130, 131, 132, 133, 134, 135, 136, 137, 138, 139, 140, 141, 142, 143, 144, 145, 146, 147, 148, 149, 150, 151, 152, 153, 154, 155, 156, 157, 158, 159, 160, 161, 162] (by decide +kernel) (by decide +kernel)
set_option maxRecDepth 20000 in
theorem gX5_work_X5_keeps : GoodIn wsX5_work (wsV RX5 221 RX5 yX5_keeps wsX5_keeps) := goodIn_app (goodIn_of _ (by decide +kernel)) ggX5_work_X5_keeps
theorem dX5_work_0 : decode cX5_work 0 = .ok (.iload_n 1, 1) := by decide +kernel
theorem dX5_work_1 : decode cX5_work 1 = .ok (.iconst 0, 1) := by decide +kernel
theorem dX5_work_2 : decode cX5_work 2 = .ok (.iconst 3, 1) := by decide +kernel
theorem dX5_work_3 : decode cX5_work 3 = .ok (.invokestatic 99, 3) := by decide +kernel
theorem dX5_work_6 : decode cX5_work 6 = .ok (.ifCond .ne 5, 3) := by decide +kernel
theorem dX5_work_9 : decode cX5_work 9 = .ok (.iconst (-1), 1) := by decide +kernel
theorem dX5_work_10 : decode cX5_work 10 = .ok (.ireturn, 1) := by decide +kernel
theorem dX5_work_11 : decode cX5_work 11 = .ok (.aload_n 0, 1) := by decide +kernel
theorem dX5_work_12 : decode cX5_work 12 = .ok (.iload_n 1, 1) := by decide +kernel
theorem dX5_work_13 : decode cX5_work 13 = .ok (.invokevirtual 218, 3) := by decide +kernel
theorem dX5_work_16 : decode cX5_work 16 = .ok (.aload_n 0, 1) := by decide +kernel
theorem dX5_work_17 : decode cX5_work 17 = .ok (.invokevirtual 221, 3) := by decide +kernel
theorem dX5_work_20 : decode cX5_work 20 = .ok (.aload_n 0, 1) := by decide +kernel
theorem dX5_work_21 : decode cX5_work 21 = .ok (.getfield 200, 3) := by decide +kernel
theorem dX5_work_24 : decode cX5_work 24 = .ok (.ireturn, 1) := by decide +kernel
theorem dX5_worked_0 : decode cX5_worked 0 = .ok (.aload_n 0, 1) := by decide +kernel
theorem dX5_worked_1 : decode cX5_worked 1 = .ok (.getfield 197, 3) := by decide +kernel
theorem dX5_worked_4 : decode cX5_worked 4 = .ok (.ifCond .ne 5, 3) := by decide +kernel
theorem dX5_worked_7 : decode cX5_worked 7 = .ok (.iconst (-1), 1) := by decide +kernel
theorem dX5_worked_8 : decode cX5_worked 8 = .ok (.ireturn, 1) := by decide +kernel
theorem dX5_worked_9 : decode cX5_worked 9 = .ok (.iconst 0, 1) := by decide +kernel
theorem dX5_worked_10 : decode cX5_worked 10 = .ok (.istore_n 2, 1) := by decide +kernel
theorem dX5_worked_11 : decode cX5_worked 11 = .ok (.iload_n 1, 1) := by decide +kernel
theorem dX5_worked_12 : decode cX5_worked 12 = .ok (.tableswitch 131 0 6 #[44, 49, 69, 89, 94, 99, 104], 44) := by decide +kernel
theorem dX5_worked_56 : decode cX5_worked 56 = .ok (.aload_n 0, 1) := by decide +kernel
theorem dX5_worked_57 : decode cX5_worked 57 = .ok (.getfield 203, 3) := by decide +kernel
theorem dX5_worked_60 : decode cX5_worked 60 = .ok (.ireturn, 1) := by decide +kernel
theorem dX5_worked_61 : decode cX5_worked 61 = .ok (.aload_n 0, 1) := by decide +kernel
theorem dX5_worked_62 : decode cX5_worked 62 = .ok (.getfield 206, 3) := by decide +kernel
theorem dX5_worked_65 : decode cX5_worked 65 = .ok (.iconst (-1), 1) := by decide +kernel
theorem dX5_worked_66 : decode cX5_worked 66 = .ok (.if_icmp .ne 7, 3) := by decide +kernel
theorem dX5_worked_69 : decode cX5_worked 69 = .ok (.iconst (-1), 1) := by decide +kernel
theorem dX5_worked_70 : decode cX5_worked 70 = .ok (.goto 10, 3) := by decide +kernel
theorem dX5_worked_73 : decode cX5_worked 73 = .ok (.aload_n 0, 1) := by decide +kernel
theorem dX5_worked_74 : decode cX5_worked 74 = .ok (.getfield 206, 3) := by decide +kernel
theorem dX5_worked_77 : decode cX5_worked 77 = .ok (.bipush 12, 2) := by decide +kernel
theorem dX5_worked_79 : decode cX5_worked 79 = .ok (.idiv, 1) := by decide +kernel
theorem dX5_worked_80 : decode cX5_worked 80 = .ok (.ireturn, 1) := by decide +kernel
theorem dX5_worked_81 : decode cX5_worked 81 = .ok (.aload_n 0, 1) := by decide +kernel
theorem dX5_worked_82 : decode cX5_worked 82 = .ok (.getfield 206, 3) := by decide +kernel
theorem dX5_worked_85 : decode cX5_worked 85 = .ok (.iconst (-1), 1) := by decide +kernel
theorem dX5_worked_86 : decode cX5_worked 86 = .ok (.if_icmp .ne 7, 3) := by decide +kernel
theorem dX5_worked_89 : decode cX5_worked 89 = .ok (.iconst (-1), 1) := by decide +kernel
theorem dX5_worked_90 : decode cX5_worked 90 = .ok (.goto 10, 3) := by decide +kernel
theorem dX5_worked_93 : decode cX5_worked 93 = .ok (.aload_n 0, 1) := by decide +kernel
theorem dX5_worked_94 : decode cX5_worked 94 = .ok (.getfield 206, 3) := by decide +kernel
theorem dX5_worked_97 : decode cX5_worked 97 = .ok (.bipush 12, 2) := by decide +kernel
theorem dX5_worked_99 : decode cX5_worked 99 = .ok (.irem, 1) := by decide +kernel
theorem dX5_worked_100 : decode cX5_worked 100 = .ok (.ireturn, 1) := by decide +kernel
theorem dX5_worked_101 : decode cX5_worked 101 = .ok (.aload_n 0, 1) := by decide +kernel
theorem dX5_worked_102 : decode cX5_worked 102 = .ok (.getfield 209, 3) := by decide +kernel
theorem dX5_worked_105 : decode cX5_worked 105 = .ok (.ireturn, 1) := by decide +kernel
theorem dX5_worked_106 : decode cX5_worked 106 = .ok (.aload_n 0, 1) := by decide +kernel
theorem dX5_worked_107 : decode cX5_worked 107 = .ok (.getfield 212, 3) := by decide +kernel
theorem dX5_worked_110 : decode cX5_worked 110 = .ok (.ireturn, 1) := by decide +kernel
theorem dX5_worked_111 : decode cX5_worked 111 = .ok (.aload_n 0, 1) := by decide +kernel
theorem dX5_worked_112 : decode cX5_worked 112 = .ok (.getfield 215, 3) := by decide +kernel
theorem dX5_worked_115 : decode cX5_worked 115 = .ok (.ireturn, 1) := by decide +kernel
theorem dX5_worked_116 : decode cX5_worked 116 = .ok (.iconst 0, 1) := by decide +kernel
theorem dX5_worked_117 : decode cX5_worked 117 = .ok (.istore_n 3, 1) := by decide +kernel
theorem dX5_worked_118 : decode cX5_worked 118 = .ok (.iload_n 3, 1) := by decide +kernel
theorem dX5_worked_119 : decode cX5_worked 119 = .ok (.aload_n 0, 1) := by decide +kernel
theorem dX5_worked_120 : decode cX5_worked 120 = .ok (.getfield 200, 3) := by decide +kernel
theorem dX5_worked_123 : decode cX5_worked 123 = .ok (.if_icmp .ge 18, 3) := by decide +kernel
theorem dX5_worked_126 : decode cX5_worked 126 = .ok (.iload_n 2, 1) := by decide +kernel
theorem dX5_worked_127 : decode cX5_worked 127 = .ok (.aload_n 0, 1) := by decide +kernel
theorem dX5_worked_128 : decode cX5_worked 128 = .ok (.getfield 71, 3) := by decide +kernel
theorem dX5_worked_131 : decode cX5_worked 131 = .ok (.iload_n 3, 1) := by decide +kernel
theorem dX5_worked_132 : decode cX5_worked 132 = .ok (.iaload, 1) := by decide +kernel
theorem dX5_worked_133 : decode cX5_worked 133 = .ok (.iadd, 1) := by decide +kernel
theorem dX5_worked_134 : decode cX5_worked 134 = .ok (.istore_n 2, 1) := by decide +kernel
theorem dX5_worked_135 : decode cX5_worked 135 = .ok (.iinc 3 1, 3) := by decide +kernel
theorem dX5_worked_138 : decode cX5_worked 138 = .ok (.goto (-20), 3) := by decide +kernel
theorem dX5_worked_141 : decode cX5_worked 141 = .ok (.iload_n 2, 1) := by decide +kernel
theorem dX5_worked_142 : decode cX5_worked 142 = .ok (.ireturn, 1) := by decide +kernel
theorem dX5_worked_143 : decode cX5_worked 143 = .ok (.iconst (-1), 1) := by decide +kernel
theorem dX5_worked_144 : decode cX5_worked 144 = .ok (.ireturn, 1) := by decide +kernel
set_option maxRecDepth 20000 in
theorem ggX5_isPicked_X5_in : GoodIn wsX5_isPicked wsX5_in := goodIn_r _ [5] (by decide +kernel) (by decide +kernel)
set_option maxRecDepth 20000 in
theorem gX5_isPicked_X5_in : GoodIn wsX5_isPicked (va_wsS RX5 99 yX5_in wsX5_in) := goodIn_app (goodIn_of _ (by decide +kernel)) ggX5_isPicked_X5_in
theorem dX5_isPicked_0 : decode cX5_isPicked 0 = .ok (.iload_n 1, 1) := by decide +kernel
theorem dX5_isPicked_1 : decode cX5_isPicked 1 = .ok (.iconst 0, 1) := by decide +kernel
theorem dX5_isPicked_2 : decode cX5_isPicked 2 = .ok (.aload_n 0, 1) := by decide +kernel
theorem dX5_isPicked_3 : decode cX5_isPicked 3 = .ok (.getfield 200, 3) := by decide +kernel
theorem dX5_isPicked_6 : decode cX5_isPicked 6 = .ok (.iconst 1, 1) := by decide +kernel
theorem dX5_isPicked_7 : decode cX5_isPicked 7 = .ok (.isub, 1) := by decide +kernel
theorem dX5_isPicked_8 : decode cX5_isPicked 8 = .ok (.invokestatic 99, 3) := by decide +kernel
theorem dX5_isPicked_11 : decode cX5_isPicked 11 = .ok (.ireturn, 1) := by decide +kernel
set_option maxRecDepth 20000 in
theorem ggX5_picked_X5_isPicked : GoodIn wsX5_picked wsX5_isPicked := goodIn_r _ [11, 12, 13, 14, 10, 15, 16, 17, 18, 19, 20, 21, 22, 23, 24, 25, 26, 27, 28, 29, 30, 31, 32, 33, 34, 35, 36, 37, 38, 39, 40, 41, 42, 43, 44, 45, 46, 47, 48, 49, 50, 51, 52, 53, 54, 55, 56, 57, 58, 59, 60, 61, 62, 63] (by decide +kernel) (by decide +kernel)
set_option maxRecDepth 20000 in
theorem gX5_picked_X5_isPicked : GoodIn wsX5_picked (wsV RX5 224 RX5 yX5_isPicked wsX5_isPicked) := goodIn_app (goodIn_of _ (by decide +kernel)) ggX5_picked_X5_isPicked
theorem dX5_picked_0 : decode cX5_picked 0 = .ok (.aload_n 0, 1) := by decide +kernel
theorem dX5_picked_1 : decode cX5_picked 1 = .ok (.iload_n 1, 1) := by decide +kernel
theorem dX5_picked_2 : decode cX5_picked 2 = .ok (.invokevirtual 224, 3) := by decide +kernel
theorem dX5_picked_5 : decode cX5_picked 5 = .ok (.ifCond .ne 5, 3) := by decide +kernel
theorem dX5_picked_8 : decode cX5_picked 8 = .ok (.iconst (-1), 1) := by decide +kernel
theorem dX5_picked_9 : decode cX5_picked 9 = .ok (.ireturn, 1) := by decide +kernel
theorem dX5_picked_10 : decode cX5_picked 10 = .ok (.iload_n 2, 1) := by decide +kernel
theorem dX5_picked_11 : decode cX5_picked 11 = .ok (.tableswitch 108 0 5 #[37, 47, 57, 64, 71, 101], 37) := by decide +kernel
theorem dX5_picked_48 : decode cX5_picked 48 = .ok (.aload_n 0, 1) := by decide +kernel
theorem dX5_picked_49 : decode cX5_picked 49 = .ok (.getfield 65, 3) := by decide +kernel
theorem dX5_picked_52 : decode cX5_picked 52 = .ok (.iload_n 1, 1) := by decide +kernel
theorem dX5_picked_53 : decode cX5_picked 53 = .ok (.iaload, 1) := by decide +kernel
theorem dX5_picked_54 : decode cX5_picked 54 = .ok (.bipush 12, 2) := by decide +kernel
theorem dX5_picked_56 : decode cX5_picked 56 = .ok (.idiv, 1) := by decide +kernel
theorem dX5_picked_57 : decode cX5_picked 57 = .ok (.ireturn, 1) := by decide +kernel
theorem dX5_picked_58 : decode cX5_picked 58 = .ok (.aload_n 0, 1) := by decide +kernel
theorem dX5_picked_59 : decode cX5_picked 59 = .ok (.getfield 65, 3) := by decide +kernel
theorem dX5_picked_62 : decode cX5_picked 62 = .ok (.iload_n 1, 1) := by decide +kernel
theorem dX5_picked_63 : decode cX5_picked 63 = .ok (.iaload, 1) := by decide +kernel
theorem dX5_picked_64 : decode cX5_picked 64 = .ok (.bipush 12, 2) := by decide +kernel
theorem dX5_picked_66 : decode cX5_picked 66 = .ok (.irem, 1) := by decide +kernel
theorem dX5_picked_67 : decode cX5_picked 67 = .ok (.ireturn, 1) := by decide +kernel
theorem dX5_picked_68 : decode cX5_picked 68 = .ok (.aload_n 0, 1) := by decide +kernel
theorem dX5_picked_69 : decode cX5_picked 69 = .ok (.getfield 68, 3) := by decide +kernel
theorem dX5_picked_72 : decode cX5_picked 72 = .ok (.iload_n 1, 1) := by decide +kernel
theorem dX5_picked_73 : decode cX5_picked 73 = .ok (.iaload, 1) := by decide +kernel
theorem dX5_picked_74 : decode cX5_picked 74 = .ok (.ireturn, 1) := by decide +kernel
theorem dX5_picked_75 : decode cX5_picked 75 = .ok (.aload_n 0, 1) := by decide +kernel
theorem dX5_picked_76 : decode cX5_picked 76 = .ok (.getfield 71, 3) := by decide +kernel
theorem dX5_picked_79 : decode cX5_picked 79 = .ok (.iload_n 1, 1) := by decide +kernel
theorem dX5_picked_80 : decode cX5_picked 80 = .ok (.iaload, 1) := by decide +kernel
theorem dX5_picked_81 : decode cX5_picked 81 = .ok (.ireturn, 1) := by decide +kernel
theorem dX5_picked_82 : decode cX5_picked 82 = .ok (.aload_n 0, 1) := by decide +kernel
theorem dX5_picked_83 : decode cX5_picked 83 = .ok (.getfield 74, 3) := by decide +kernel
theorem dX5_picked_86 : decode cX5_picked 86 = .ok (.iload_n 1, 1) := by decide +kernel
theorem dX5_picked_87 : decode cX5_picked 87 = .ok (.iaload, 1) := by decide +kernel
theorem dX5_picked_88 : decode cX5_picked 88 = .ok (.ifCond .lt 7, 3) := by decide +kernel
theorem dX5_picked_91 : decode cX5_picked 91 = .ok (.iconst 1, 1) := by decide +kernel
theorem dX5_picked_92 : decode cX5_picked 92 = .ok (.goto 4, 3) := by decide +kernel
theorem dX5_picked_95 : decode cX5_picked 95 = .ok (.iconst 0, 1) := by decide +kernel
theorem dX5_picked_96 : decode cX5_picked 96 = .ok (.aload_n 0, 1) := by decide +kernel
theorem dX5_picked_97 : decode cX5_picked 97 = .ok (.getfield 77, 3) := by decide +kernel
theorem dX5_picked_100 : decode cX5_picked 100 = .ok (.iload_n 1, 1) := by decide +kernel
theorem dX5_picked_101 : decode cX5_picked 101 = .ok (.iaload, 1) := by decide +kernel
theorem dX5_picked_102 : decode cX5_picked 102 = .ok (.ifCond .lt 7, 3) := by decide +kernel
theorem dX5_picked_105 : decode cX5_picked 105 = .ok (.iconst 1, 1) := by decide +kernel
theorem dX5_picked_106 : decode cX5_picked 106 = .ok (.goto 4, 3) := by decide +kernel
theorem dX5_picked_109 : decode cX5_picked 109 = .ok (.iconst 0, 1) := by decide +kernel
theorem dX5_picked_110 : decode cX5_picked 110 = .ok (.iadd, 1) := by decide +kernel
theorem dX5_picked_111 : decode cX5_picked 111 = .ok (.ireturn, 1) := by decide +kernel
theorem dX5_picked_112 : decode cX5_picked 112 = .ok (.aload_n 0, 1) := by decide +kernel
theorem dX5_picked_113 : decode cX5_picked 113 = .ok (.getfield 80, 3) := by decide +kernel
theorem dX5_picked_116 : decode cX5_picked 116 = .ok (.iload_n 1, 1) := by decide +kernel
theorem dX5_picked_117 : decode cX5_picked 117 = .ok (.iaload, 1) := by decide +kernel
theorem dX5_picked_118 : decode cX5_picked 118 = .ok (.ireturn, 1) := by decide +kernel
theorem dX5_picked_119 : decode cX5_picked 119 = .ok (.iconst (-1), 1) := by decide +kernel
theorem dX5_picked_120 : decode cX5_picked 120 = .ok (.ireturn, 1) := by decide +kernel
set_option maxRecDepth 20000 in
theorem ggX5_order_X5_in : GoodIn wsX5_order wsX5_in := goodIn_r _ [5] (by decide +kernel) (by decide +kernel)
set_option maxRecDepth 20000 in
theorem gX5_order_X5_in : GoodIn wsX5_order (va_wsS RX5 99 yX5_in wsX5_in) := goodIn_app (goodIn_of _ (by decide +kernel)) ggX5_order_X5_in
theorem dX5_order_0 : decode cX5_order 0 = .ok (.iload_n 1, 1) := by decide +kernel
theorem dX5_order_1 : decode cX5_order 1 = .ok (.iconst 0, 1) := by decide +kernel
theorem dX5_order_2 : decode cX5_order 2 = .ok (.bipush 11, 2) := by decide +kernel
theorem dX5_order_4 : decode cX5_order 4 = .ok (.invokestatic 99, 3) := by decide +kernel
theorem dX5_order_7 : decode cX5_order 7 = .ok (.ifCond .eq 27, 3) := by decide +kernel
theorem dX5_order_10 : decode cX5_order 10 = .ok (.iload_n 2, 1) := by decide +kernel
theorem dX5_order_11 : decode cX5_order 11 = .ok (.iconst 0, 1) := by decide +kernel
theorem dX5_order_12 : decode cX5_order 12 = .ok (.bipush 11, 2) := by decide +kernel
theorem dX5_order_14 : decode cX5_order 14 = .ok (.invokestatic 99, 3) := by decide +kernel
theorem dX5_order_17 : decode cX5_order 17 = .ok (.ifCond .eq 17, 3) := by decide +kernel
theorem dX5_order_20 : decode cX5_order 20 = .ok (.aload_n 0, 1) := by decide +kernel
theorem dX5_order_21 : decode cX5_order 21 = .ok (.getfield 83, 3) := by decide +kernel
theorem dX5_order_24 : decode cX5_order 24 = .ok (.bipush 12, 2) := by decide +kernel
theorem dX5_order_26 : decode cX5_order 26 = .ok (.iload_n 1, 1) := by decide +kernel
theorem dX5_order_27 : decode cX5_order 27 = .ok (.imul, 1) := by decide +kernel
theorem dX5_order_28 : decode cX5_order 28 = .ok (.iload_n 2, 1) := by decide +kernel
theorem dX5_order_29 : decode cX5_order 29 = .ok (.iadd, 1) := by decide +kernel
theorem dX5_order_30 : decode cX5_order 30 = .ok (.iaload, 1) := by decide +kernel
theorem dX5_order_31 : decode cX5_order 31 = .ok (.goto 4, 3) := by decide +kernel
theorem dX5_order_34 : decode cX5_order 34 = .ok (.iconst (-1), 1) := by decide +kernel
theorem dX5_order_35 : decode cX5_order 35 = .ok (.ireturn, 1) := by decide +kernel
theorem dX5_isOn_0 : decode cX5_isOn 0 = .ok (.aload_n 0, 1) := by decide +kernel
theorem dX5_isOn_1 : decode cX5_isOn 1 = .ok (.getfield 74, 3) := by decide +kernel
theorem dX5_isOn_4 : decode cX5_isOn 4 = .ok (.iload_n 1, 1) := by decide +kernel
theorem dX5_isOn_5 : decode cX5_isOn 5 = .ok (.iaload, 1) := by decide +kernel
theorem dX5_isOn_6 : decode cX5_isOn 6 = .ok (.iload_n 2, 1) := by decide +kernel
theorem dX5_isOn_7 : decode cX5_isOn 7 = .ok (.if_icmp .eq 13, 3) := by decide +kernel
theorem dX5_isOn_10 : decode cX5_isOn 10 = .ok (.aload_n 0, 1) := by decide +kernel
theorem dX5_isOn_11 : decode cX5_isOn 11 = .ok (.getfield 77, 3) := by decide +kernel
theorem dX5_isOn_14 : decode cX5_isOn 14 = .ok (.iload_n 1, 1) := by decide +kernel
theorem dX5_isOn_15 : decode cX5_isOn 15 = .ok (.iaload, 1) := by decide +kernel
theorem dX5_isOn_16 : decode cX5_isOn 16 = .ok (.iload_n 2, 1) := by decide +kernel
theorem dX5_isOn_17 : decode cX5_isOn 17 = .ok (.if_icmp .ne 7, 3) := by decide +kernel
theorem dX5_isOn_20 : decode cX5_isOn 20 = .ok (.iconst 1, 1) := by decide +kernel
theorem dX5_isOn_21 : decode cX5_isOn 21 = .ok (.goto 4, 3) := by decide +kernel
theorem dX5_isOn_24 : decode cX5_isOn 24 = .ok (.iconst 0, 1) := by decide +kernel
theorem dX5_isOn_25 : decode cX5_isOn 25 = .ok (.ireturn, 1) := by decide +kernel
theorem dX5_manyIn_0 : decode cX5_manyIn 0 = .ok (.iconst 0, 1) := by decide +kernel
theorem dX5_manyIn_1 : decode cX5_manyIn 1 = .ok (.istore_n 1, 1) := by decide +kernel
theorem dX5_manyIn_2 : decode cX5_manyIn 2 = .ok (.iconst 0, 1) := by decide +kernel
theorem dX5_manyIn_3 : decode cX5_manyIn 3 = .ok (.istore_n 2, 1) := by decide +kernel
theorem dX5_manyIn_4 : decode cX5_manyIn 4 = .ok (.iload_n 2, 1) := by decide +kernel
theorem dX5_manyIn_5 : decode cX5_manyIn 5 = .ok (.aload_n 0, 1) := by decide +kernel
theorem dX5_manyIn_6 : decode cX5_manyIn 6 = .ok (.getfield 200, 3) := by decide +kernel
theorem dX5_manyIn_9 : decode cX5_manyIn 9 = .ok (.if_icmp .ge 26, 3) := by decide +kernel
theorem dX5_manyIn_12 : decode cX5_manyIn 12 = .ok (.iload_n 1, 1) := by decide +kernel
theorem dX5_manyIn_13 : decode cX5_manyIn 13 = .ok (.aload_n 0, 1) := by decide +kernel
theorem dX5_manyIn_14 : decode cX5_manyIn 14 = .ok (.getfield 92, 3) := by decide +kernel
theorem dX5_manyIn_17 : decode cX5_manyIn 17 = .ok (.iload_n 2, 1) := by decide +kernel
theorem dX5_manyIn_18 : decode cX5_manyIn 18 = .ok (.baload, 1) := by decide +kernel
theorem dX5_manyIn_19 : decode cX5_manyIn 19 = .ok (.ifCond .eq 7, 3) := by decide +kernel
theorem dX5_manyIn_22 : decode cX5_manyIn 22 = .ok (.iconst 1, 1) := by decide +kernel
theorem dX5_manyIn_23 : decode cX5_manyIn 23 = .ok (.goto 4, 3) := by decide +kernel
theorem dX5_manyIn_26 : decode cX5_manyIn 26 = .ok (.iconst 0, 1) := by decide +kernel
theorem dX5_manyIn_27 : decode cX5_manyIn 27 = .ok (.iadd, 1) := by decide +kernel
theorem dX5_manyIn_28 : decode cX5_manyIn 28 = .ok (.istore_n 1, 1) := by decide +kernel
theorem dX5_manyIn_29 : decode cX5_manyIn 29 = .ok (.iinc 2 1, 3) := by decide +kernel
theorem dX5_manyIn_32 : decode cX5_manyIn 32 = .ok (.goto (-28), 3) := by decide +kernel
theorem dX5_manyIn_35 : decode cX5_manyIn 35 = .ok (.iload_n 1, 1) := by decide +kernel
theorem dX5_manyIn_36 : decode cX5_manyIn 36 = .ok (.ireturn, 1) := by decide +kernel
set_option maxRecDepth 20000 in
theorem ggX5_hang_X5_isPicked : GoodIn wsX5_hang wsX5_isPicked := goodIn_r _ [9, 2, 10, 11, 8, 12, 21, 22, 23, 24, 25, 26, 27, 28, 29, 30, 31, 32, 33, 34, 35, 36, 37, 38, 39, 40, 41, 42, 43, 44, 45, 46, 47, 48, 49, 50, 51, 52, 53, 54, 55, 56, 57, 58, 59, 60, 61, 62, 63, 64, 65, 66, 67, 68] (by decide +kernel) (by decide +kernel)
set_option maxRecDepth 20000 in
theorem gX5_hang_X5_isPicked : GoodIn wsX5_hang (wsV RX5 224 RX5 yX5_isPicked wsX5_isPicked) := goodIn_app (goodIn_of _ (by decide +kernel)) ggX5_hang_X5_isPicked
set_option maxRecDepth 20000 in
theorem ggX5_hang_X5_isOn : GoodIn wsX5_hang wsX5_isOn := goodIn_r _ [16, 3, 4, 21, 22, 23, 24, 25, 26, 27, 28, 29, 30, 31, 32, 33, 34, 35, 36, 37, 38, 39, 40, 41, 42, 43, 44, 45, 46, 47, 48, 49, 50, 51, 52, 53, 54, 55, 56, 57, 58, 59, 60, 61, 62, 63, 64, 65, 66, 67, 68] (by decide +kernel) (by decide +kernel)
set_option maxRecDepth 20000 in
theorem gX5_hang_X5_isOn : GoodIn wsX5_hang (wsV RX5 227 RX5 yX5_isOn wsX5_isOn) := goodIn_app (goodIn_of _ (by decide +kernel)) ggX5_hang_X5_isOn
set_option maxRecDepth 20000 in
theorem ggX5_hang_X5_manyIn : GoodIn wsX5_hang wsX5_manyIn := goodIn_r _ [20, 2, 1, 21, 22, 23, 24, 25, 26, 27, 28, 29, 30, 31, 32, 33, 34, 35, 36, 37, 38, 39, 40, 41, 42, 43, 44, 45, 46, 47, 48, 49, 50, 51, 52, 53, 54, 55, 56, 57, 58, 59, 60, 61, 62, 63, 64, 65, 66, 67, 68] (by decide +kernel) (by decide +kernel)
set_option maxRecDepth 20000 in
theorem gX5_hang_X5_manyIn : GoodIn wsX5_hang (wsV RX5 230 RX5 yX5_manyIn wsX5_manyIn) := goodIn_app (goodIn_of _ (by decide +kernel)) ggX5_hang_X5_manyIn
theorem dX5_hang_0 : decode cX5_hang 0 = .ok (.aload_n 0, 1) := by decide +kernel
theorem dX5_hang_1 : decode cX5_hang 1 = .ok (.iload_n 1, 1) := by decide +kernel
theorem dX5_hang_2 : decode cX5_hang 2 = .ok (.invokevirtual 224, 3) := by decide +kernel
theorem dX5_hang_5 : decode cX5_hang 5 = .ok (.ifCond .ne 5, 3) := by decide +kernel
theorem dX5_hang_8 : decode cX5_hang 8 = .ok (.iconst (-1), 1) := by decide +kernel
theorem dX5_hang_9 : decode cX5_hang 9 = .ok (.ireturn, 1) := by decide +kernel
theorem dX5_hang_10 : decode cX5_hang 10 = .ok (.iconst 0, 1) := by decide +kernel
theorem dX5_hang_11 : decode cX5_hang 11 = .ok (.istore_n 2, 1) := by decide +kernel
theorem dX5_hang_12 : decode cX5_hang 12 = .ok (.iload_n 2, 1) := by decide +kernel
theorem dX5_hang_13 : decode cX5_hang 13 = .ok (.sipush 144, 3) := by decide +kernel
theorem dX5_hang_16 : decode cX5_hang 16 = .ok (.if_icmp .ge 16, 3) := by decide +kernel
theorem dX5_hang_19 : decode cX5_hang 19 = .ok (.aload_n 0, 1) := by decide +kernel
theorem dX5_hang_20 : decode cX5_hang 20 = .ok (.getfield 92, 3) := by decide +kernel
theorem dX5_hang_23 : decode cX5_hang 23 = .ok (.iload_n 2, 1) := by decide +kernel
theorem dX5_hang_24 : decode cX5_hang 24 = .ok (.iconst 0, 1) := by decide +kernel
theorem dX5_hang_25 : decode cX5_hang 25 = .ok (.bastore, 1) := by decide +kernel
theorem dX5_hang_26 : decode cX5_hang 26 = .ok (.iinc 2 1, 3) := by decide +kernel
theorem dX5_hang_29 : decode cX5_hang 29 = .ok (.goto (-17), 3) := by decide +kernel
theorem dX5_hang_32 : decode cX5_hang 32 = .ok (.iload_n 1, 1) := by decide +kernel
theorem dX5_hang_33 : decode cX5_hang 33 = .ok (.iconst 1, 1) := by decide +kernel
theorem dX5_hang_34 : decode cX5_hang 34 = .ok (.iadd, 1) := by decide +kernel
theorem dX5_hang_35 : decode cX5_hang 35 = .ok (.istore_n 2, 1) := by decide +kernel
theorem dX5_hang_36 : decode cX5_hang 36 = .ok (.iload_n 2, 1) := by decide +kernel
theorem dX5_hang_37 : decode cX5_hang 37 = .ok (.aload_n 0, 1) := by decide +kernel
theorem dX5_hang_38 : decode cX5_hang 38 = .ok (.getfield 200, 3) := by decide +kernel
theorem dX5_hang_41 : decode cX5_hang 41 = .ok (.if_icmp .ge 72, 3) := by decide +kernel
theorem dX5_hang_44 : decode cX5_hang 44 = .ok (.aload_n 0, 1) := by decide +kernel
theorem dX5_hang_45 : decode cX5_hang 45 = .ok (.getfield 74, 3) := by decide +kernel
theorem dX5_hang_48 : decode cX5_hang 48 = .ok (.iload_n 2, 1) := by decide +kernel
theorem dX5_hang_49 : decode cX5_hang 49 = .ok (.iaload, 1) := by decide +kernel
theorem dX5_hang_50 : decode cX5_hang 50 = .ok (.istore_n 3, 1) := by decide +kernel
theorem dX5_hang_51 : decode cX5_hang 51 = .ok (.aload_n 0, 1) := by decide +kernel
theorem dX5_hang_52 : decode cX5_hang 52 = .ok (.getfield 77, 3) := by decide +kernel
theorem dX5_hang_55 : decode cX5_hang 55 = .ok (.iload_n 2, 1) := by decide +kernel
theorem dX5_hang_56 : decode cX5_hang 56 = .ok (.iaload, 1) := by decide +kernel
theorem dX5_hang_57 : decode cX5_hang 57 = .ok (.istore 4, 2) := by decide +kernel
theorem dX5_hang_59 : decode cX5_hang 59 = .ok (.aload_n 0, 1) := by decide +kernel
theorem dX5_hang_60 : decode cX5_hang 60 = .ok (.getfield 92, 3) := by decide +kernel
theorem dX5_hang_63 : decode cX5_hang 63 = .ok (.iload_n 2, 1) := by decide +kernel
theorem dX5_hang_64 : decode cX5_hang 64 = .ok (.aload_n 0, 1) := by decide +kernel
theorem dX5_hang_65 : decode cX5_hang 65 = .ok (.iload_n 2, 1) := by decide +kernel
theorem dX5_hang_66 : decode cX5_hang 66 = .ok (.iload_n 1, 1) := by decide +kernel
theorem dX5_hang_67 : decode cX5_hang 67 = .ok (.invokevirtual 227, 3) := by decide +kernel
theorem dX5_hang_70 : decode cX5_hang 70 = .ok (.ifCond .ne 31, 3) := by decide +kernel
theorem dX5_hang_73 : decode cX5_hang 73 = .ok (.iload_n 3, 1) := by decide +kernel
end
section
theorem dX5_hang_74 : decode cX5_hang 74 = .ok (.ifCond .lt 12, 3) := by decide +kernel
theorem dX5_hang_77 : decode cX5_hang 77 = .ok (.aload_n 0, 1) := by decide +kernel
theorem dX5_hang_78 : decode cX5_hang 78 = .ok (.getfield 92, 3) := by decide +kernel
theorem dX5_hang_81 : decode cX5_hang 81 = .ok (.iload_n 3, 1) := by decide +kernel
theorem dX5_hang_82 : decode cX5_hang 82 = .ok (.baload, 1) := by decide +kernel
theorem dX5_hang_83 : decode cX5_hang 83 = .ok (.ifCond .ne 18, 3) := by decide +kernel
theorem dX5_hang_86 : decode cX5_hang 86 = .ok (.iload 4, 2) := by decide +kernel
theorem dX5_hang_88 : decode cX5_hang 88 = .ok (.ifCond .lt 17, 3) := by decide +kernel
theorem dX5_hang_91 : decode cX5_hang 91 = .ok (.aload_n 0, 1) := by decide +kernel
theorem dX5_hang_92 : decode cX5_hang 92 = .ok (.getfield 92, 3) := by decide +kernel
theorem dX5_hang_95 : decode cX5_hang 95 = .ok (.iload 4, 2) := by decide +kernel
theorem dX5_hang_97 : decode cX5_hang 97 = .ok (.baload, 1) := by decide +kernel
theorem dX5_hang_98 : decode cX5_hang 98 = .ok (.ifCond .eq 7, 3) := by decide +kernel
theorem dX5_hang_101 : decode cX5_hang 101 = .ok (.iconst 1, 1) := by decide +kernel
theorem dX5_hang_102 : decode cX5_hang 102 = .ok (.goto 4, 3) := by decide +kernel
theorem dX5_hang_105 : decode cX5_hang 105 = .ok (.iconst 0, 1) := by decide +kernel
theorem dX5_hang_106 : decode cX5_hang 106 = .ok (.bastore, 1) := by decide +kernel
theorem dX5_hang_107 : decode cX5_hang 107 = .ok (.iinc 2 1, 3) := by decide +kernel
theorem dX5_hang_110 : decode cX5_hang 110 = .ok (.goto (-74), 3) := by decide +kernel
theorem dX5_hang_113 : decode cX5_hang 113 = .ok (.aload_n 0, 1) := by decide +kernel
theorem dX5_hang_114 : decode cX5_hang 114 = .ok (.invokevirtual 230, 3) := by decide +kernel
theorem dX5_hang_117 : decode cX5_hang 117 = .ok (.ireturn, 1) := by decide +kernel
theorem dX5_isWovenThrough_0 : decode cX5_isWovenThrough 0 = .ok (.iconst 0, 1) := by decide +kernel
theorem dX5_isWovenThrough_1 : decode cX5_isWovenThrough 1 = .ok (.istore_n 3, 1) := by decide +kernel
theorem dX5_isWovenThrough_2 : decode cX5_isWovenThrough 2 = .ok (.iload_n 3, 1) := by decide +kernel
theorem dX5_isWovenThrough_3 : decode cX5_isWovenThrough 3 = .ok (.aload_n 0, 1) := by decide +kernel
theorem dX5_isWovenThrough_4 : decode cX5_isWovenThrough 4 = .ok (.getfield 86, 3) := by decide +kernel
theorem dX5_isWovenThrough_7 : decode cX5_isWovenThrough 7 = .ok (.iload_n 1, 1) := by decide +kernel
theorem dX5_isWovenThrough_8 : decode cX5_isWovenThrough 8 = .ok (.iaload, 1) := by decide +kernel
theorem dX5_isWovenThrough_9 : decode cX5_isWovenThrough 9 = .ok (.if_icmp .ge 26, 3) := by decide +kernel
theorem dX5_isWovenThrough_12 : decode cX5_isWovenThrough 12 = .ok (.aload_n 0, 1) := by decide +kernel
theorem dX5_isWovenThrough_13 : decode cX5_isWovenThrough 13 = .ok (.getfield 89, 3) := by decide +kernel
theorem dX5_isWovenThrough_16 : decode cX5_isWovenThrough 16 = .ok (.bipush 6, 2) := by decide +kernel
theorem dX5_isWovenThrough_18 : decode cX5_isWovenThrough 18 = .ok (.iload_n 1, 1) := by decide +kernel
theorem dX5_isWovenThrough_19 : decode cX5_isWovenThrough 19 = .ok (.imul, 1) := by decide +kernel
theorem dX5_isWovenThrough_20 : decode cX5_isWovenThrough 20 = .ok (.iload_n 3, 1) := by decide +kernel
theorem dX5_isWovenThrough_21 : decode cX5_isWovenThrough 21 = .ok (.iadd, 1) := by decide +kernel
theorem dX5_isWovenThrough_22 : decode cX5_isWovenThrough 22 = .ok (.iaload, 1) := by decide +kernel
theorem dX5_isWovenThrough_23 : decode cX5_isWovenThrough 23 = .ok (.iload_n 2, 1) := by decide +kernel
theorem dX5_isWovenThrough_24 : decode cX5_isWovenThrough 24 = .ok (.if_icmp .ne 5, 3) := by decide +kernel
theorem dX5_isWovenThrough_27 : decode cX5_isWovenThrough 27 = .ok (.iconst 1, 1) := by decide +kernel
theorem dX5_isWovenThrough_28 : decode cX5_isWovenThrough 28 = .ok (.ireturn, 1) := by decide +kernel
theorem dX5_isWovenThrough_29 : decode cX5_isWovenThrough 29 = .ok (.iinc 3 1, 3) := by decide +kernel
theorem dX5_isWovenThrough_32 : decode cX5_isWovenThrough 32 = .ok (.goto (-30), 3) := by decide +kernel
theorem dX5_isWovenThrough_35 : decode cX5_isWovenThrough 35 = .ok (.iconst 0, 1) := by decide +kernel
theorem dX5_isWovenThrough_36 : decode cX5_isWovenThrough 36 = .ok (.ireturn, 1) := by decide +kernel
set_option maxRecDepth 20000 in
theorem ggX5_drawsOut_X5_isOn : GoodIn wsX5_drawsOut wsX5_isOn := goodIn_r _ [6, 7, 8, 15, 16, 17, 18, 19, 20, 21, 22, 23, 24, 25, 26, 27, 28, 29, 30, 31, 32, 33, 34, 35, 36, 37, 38, 39, 40, 41, 42, 43, 44, 45, 46, 47, 48, 49, 50, 51, 52, 53, 54, 55, 56, 57, 58, 59, 60, 61, 62] (by decide +kernel) (by decide +kernel)
set_option maxRecDepth 20000 in
theorem gX5_drawsOut_X5_isOn : GoodIn wsX5_drawsOut (wsV RX5 227 RX5 yX5_isOn wsX5_isOn) := goodIn_app (goodIn_of _ (by decide +kernel)) ggX5_drawsOut_X5_isOn
set_option maxRecDepth 20000 in
theorem ggX5_drawsOut_X5_isWovenThrough : GoodIn wsX5_drawsOut wsX5_isWovenThrough := goodIn_r _ [12, 13, 14, 15, 16, 17, 18, 19, 20, 21, 22, 23, 24, 25, 26, 27, 28, 29, 30, 31, 32, 33, 34, 35, 36, 37, 38, 39, 40, 41, 42, 43, 44, 45, 46, 47, 48, 49, 50, 51, 52, 53, 54, 55, 56, 57, 58, 59, 60, 61, 62] (by decide +kernel) (by decide +kernel)
set_option maxRecDepth 20000 in
theorem gX5_drawsOut_X5_isWovenThrough : GoodIn wsX5_drawsOut (wsV RX5 233 RX5 yX5_isWovenThrough wsX5_isWovenThrough) := goodIn_app (goodIn_of _ (by decide +kernel)) ggX5_drawsOut_X5_isWovenThrough
theorem dX5_drawsOut_0 : decode cX5_drawsOut 0 = .ok (.aload_n 0, 1) := by decide +kernel
theorem dX5_drawsOut_1 : decode cX5_drawsOut 1 = .ok (.getfield 68, 3) := by decide +kernel
theorem dX5_drawsOut_4 : decode cX5_drawsOut 4 = .ok (.iload_n 1, 1) := by decide +kernel
theorem dX5_drawsOut_5 : decode cX5_drawsOut 5 = .ok (.iaload, 1) := by decide +kernel
theorem dX5_drawsOut_6 : decode cX5_drawsOut 6 = .ok (.aload_n 0, 1) := by decide +kernel
theorem dX5_drawsOut_7 : decode cX5_drawsOut 7 = .ok (.getfield 68, 3) := by decide +kernel
theorem dX5_drawsOut_10 : decode cX5_drawsOut 10 = .ok (.iload_n 2, 1) := by decide +kernel
theorem dX5_drawsOut_11 : decode cX5_drawsOut 11 = .ok (.iaload, 1) := by decide +kernel
theorem dX5_drawsOut_12 : decode cX5_drawsOut 12 = .ok (.if_icmp .ne 8, 3) := by decide +kernel
theorem dX5_drawsOut_15 : decode cX5_drawsOut 15 = .ok (.iload_n 2, 1) := by decide +kernel
theorem dX5_drawsOut_16 : decode cX5_drawsOut 16 = .ok (.iload_n 1, 1) := by decide +kernel
theorem dX5_drawsOut_17 : decode cX5_drawsOut 17 = .ok (.if_icmp .gt 26, 3) := by decide +kernel
theorem dX5_drawsOut_20 : decode cX5_drawsOut 20 = .ok (.aload_n 0, 1) := by decide +kernel
theorem dX5_drawsOut_21 : decode cX5_drawsOut 21 = .ok (.iload_n 2, 1) := by decide +kernel
theorem dX5_drawsOut_22 : decode cX5_drawsOut 22 = .ok (.iload_n 1, 1) := by decide +kernel
theorem dX5_drawsOut_23 : decode cX5_drawsOut 23 = .ok (.invokevirtual 227, 3) := by decide +kernel
theorem dX5_drawsOut_26 : decode cX5_drawsOut 26 = .ok (.ifCond .ne 17, 3) := by decide +kernel
theorem dX5_drawsOut_29 : decode cX5_drawsOut 29 = .ok (.aload_n 0, 1) := by decide +kernel
theorem dX5_drawsOut_30 : decode cX5_drawsOut 30 = .ok (.aload_n 0, 1) := by decide +kernel
theorem dX5_drawsOut_31 : decode cX5_drawsOut 31 = .ok (.getfield 68, 3) := by decide +kernel
theorem dX5_drawsOut_34 : decode cX5_drawsOut 34 = .ok (.iload_n 2, 1) := by decide +kernel
theorem dX5_drawsOut_35 : decode cX5_drawsOut 35 = .ok (.iaload, 1) := by decide +kernel
theorem dX5_drawsOut_36 : decode cX5_drawsOut 36 = .ok (.iload_n 1, 1) := by decide +kernel
theorem dX5_drawsOut_37 : decode cX5_drawsOut 37 = .ok (.invokevirtual 233, 3) := by decide +kernel
theorem dX5_drawsOut_40 : decode cX5_drawsOut 40 = .ok (.ifCond .eq 7, 3) := by decide +kernel
theorem dX5_drawsOut_43 : decode cX5_drawsOut 43 = .ok (.iconst 1, 1) := by decide +kernel
theorem dX5_drawsOut_44 : decode cX5_drawsOut 44 = .ok (.goto 4, 3) := by decide +kernel
theorem dX5_drawsOut_47 : decode cX5_drawsOut 47 = .ok (.iconst 0, 1) := by decide +kernel
theorem dX5_drawsOut_48 : decode cX5_drawsOut 48 = .ok (.ireturn, 1) := by decide +kernel
set_option maxRecDepth 20000 in
theorem ggX5_pulls_X5_drawsOut : GoodIn wsX5_pulls wsX5_drawsOut := goodIn_r _ [7, 8, 9, 10, 11, 6, 12, 13, 14, 15, 16, 17, 18, 19, 20, 21, 22, 23, 24, 25, 26, 27, 28, 29, 30, 31, 32, 33, 34, 35, 36, 37, 38, 39, 40, 41, 42, 43, 44, 45, 46, 47, 48, 49, 50, 51, 52, 53, 54, 55, 56, 57, 58, 59, 60, 61, 62, 63, 64, 65, 66, 67, 68] (by decide +kernel) (by decide +kernel)
set_option maxRecDepth 20000 in
theorem gX5_pulls_X5_drawsOut : GoodIn wsX5_pulls (wsV RX5 236 RX5 yX5_drawsOut wsX5_drawsOut) := goodIn_app (goodIn_of _ (by decide +kernel)) ggX5_pulls_X5_drawsOut
theorem dX5_pulls_0 : decode cX5_pulls 0 = .ok (.iconst 0, 1) := by decide +kernel
theorem dX5_pulls_1 : decode cX5_pulls 1 = .ok (.istore_n 2, 1) := by decide +kernel
theorem dX5_pulls_2 : decode cX5_pulls 2 = .ok (.iload_n 2, 1) := by decide +kernel
theorem dX5_pulls_3 : decode cX5_pulls 3 = .ok (.sipush 144, 3) := by decide +kernel
theorem dX5_pulls_6 : decode cX5_pulls 6 = .ok (.if_icmp .ge 25, 3) := by decide +kernel
theorem dX5_pulls_9 : decode cX5_pulls 9 = .ok (.aload_n 0, 1) := by decide +kernel
theorem dX5_pulls_10 : decode cX5_pulls 10 = .ok (.getfield 92, 3) := by decide +kernel
theorem dX5_pulls_13 : decode cX5_pulls 13 = .ok (.iload_n 2, 1) := by decide +kernel
theorem dX5_pulls_14 : decode cX5_pulls 14 = .ok (.iload_n 2, 1) := by decide +kernel
theorem dX5_pulls_15 : decode cX5_pulls 15 = .ok (.iload_n 1, 1) := by decide +kernel
theorem dX5_pulls_16 : decode cX5_pulls 16 = .ok (.if_icmp .ne 7, 3) := by decide +kernel
theorem dX5_pulls_19 : decode cX5_pulls 19 = .ok (.iconst 1, 1) := by decide +kernel
theorem dX5_pulls_20 : decode cX5_pulls 20 = .ok (.goto 4, 3) := by decide +kernel
theorem dX5_pulls_23 : decode cX5_pulls 23 = .ok (.iconst 0, 1) := by decide +kernel
theorem dX5_pulls_24 : decode cX5_pulls 24 = .ok (.bastore, 1) := by decide +kernel
theorem dX5_pulls_25 : decode cX5_pulls 25 = .ok (.iinc 2 1, 3) := by decide +kernel
theorem dX5_pulls_28 : decode cX5_pulls 28 = .ok (.goto (-26), 3) := by decide +kernel
theorem dX5_pulls_31 : decode cX5_pulls 31 = .ok (.iconst 1, 1) := by decide +kernel
theorem dX5_pulls_32 : decode cX5_pulls 32 = .ok (.istore_n 2, 1) := by decide +kernel
theorem dX5_pulls_33 : decode cX5_pulls 33 = .ok (.iload_n 2, 1) := by decide +kernel
theorem dX5_pulls_34 : decode cX5_pulls 34 = .ok (.ifCond .eq 84, 3) := by decide +kernel
theorem dX5_pulls_37 : decode cX5_pulls 37 = .ok (.iconst 0, 1) := by decide +kernel
theorem dX5_pulls_38 : decode cX5_pulls 38 = .ok (.istore_n 2, 1) := by decide +kernel
theorem dX5_pulls_39 : decode cX5_pulls 39 = .ok (.iconst 0, 1) := by decide +kernel
theorem dX5_pulls_40 : decode cX5_pulls 40 = .ok (.istore_n 3, 1) := by decide +kernel
theorem dX5_pulls_41 : decode cX5_pulls 41 = .ok (.iload_n 3, 1) := by decide +kernel
theorem dX5_pulls_42 : decode cX5_pulls 42 = .ok (.aload_n 0, 1) := by decide +kernel
theorem dX5_pulls_43 : decode cX5_pulls 43 = .ok (.getfield 200, 3) := by decide +kernel
theorem dX5_pulls_46 : decode cX5_pulls 46 = .ok (.if_icmp .ge 69, 3) := by decide +kernel
theorem dX5_pulls_49 : decode cX5_pulls 49 = .ok (.iconst 0, 1) := by decide +kernel
theorem dX5_pulls_50 : decode cX5_pulls 50 = .ok (.istore 4, 2) := by decide +kernel
theorem dX5_pulls_52 : decode cX5_pulls 52 = .ok (.iload 4, 2) := by decide +kernel
theorem dX5_pulls_54 : decode cX5_pulls 54 = .ok (.aload_n 0, 1) := by decide +kernel
theorem dX5_pulls_55 : decode cX5_pulls 55 = .ok (.getfield 200, 3) := by decide +kernel
theorem dX5_pulls_58 : decode cX5_pulls 58 = .ok (.if_icmp .ge 51, 3) := by decide +kernel
theorem dX5_pulls_61 : decode cX5_pulls 61 = .ok (.aload_n 0, 1) := by decide +kernel
theorem dX5_pulls_62 : decode cX5_pulls 62 = .ok (.getfield 92, 3) := by decide +kernel
theorem dX5_pulls_65 : decode cX5_pulls 65 = .ok (.iload_n 3, 1) := by decide +kernel
theorem dX5_pulls_66 : decode cX5_pulls 66 = .ok (.baload, 1) := by decide +kernel
theorem dX5_pulls_67 : decode cX5_pulls 67 = .ok (.ifCond .eq 42, 3) := by decide +kernel
theorem dX5_pulls_70 : decode cX5_pulls 70 = .ok (.aload_n 0, 1) := by decide +kernel
theorem dX5_pulls_71 : decode cX5_pulls 71 = .ok (.getfield 92, 3) := by decide +kernel
theorem dX5_pulls_74 : decode cX5_pulls 74 = .ok (.iload 4, 2) := by decide +kernel
theorem dX5_pulls_76 : decode cX5_pulls 76 = .ok (.baload, 1) := by decide +kernel
theorem dX5_pulls_77 : decode cX5_pulls 77 = .ok (.ifCond .ne 26, 3) := by decide +kernel
theorem dX5_pulls_80 : decode cX5_pulls 80 = .ok (.aload_n 0, 1) := by decide +kernel
theorem dX5_pulls_81 : decode cX5_pulls 81 = .ok (.iload_n 3, 1) := by decide +kernel
theorem dX5_pulls_82 : decode cX5_pulls 82 = .ok (.iload 4, 2) := by decide +kernel
theorem dX5_pulls_84 : decode cX5_pulls 84 = .ok (.invokevirtual 236, 3) := by decide +kernel
theorem dX5_pulls_87 : decode cX5_pulls 87 = .ok (.ifCond .ne 6, 3) := by decide +kernel
theorem dX5_pulls_90 : decode cX5_pulls 90 = .ok (.goto 13, 3) := by decide +kernel
theorem dX5_pulls_93 : decode cX5_pulls 93 = .ok (.aload_n 0, 1) := by decide +kernel
theorem dX5_pulls_94 : decode cX5_pulls 94 = .ok (.getfield 92, 3) := by decide +kernel
theorem dX5_pulls_97 : decode cX5_pulls 97 = .ok (.iload 4, 2) := by decide +kernel
theorem dX5_pulls_99 : decode cX5_pulls 99 = .ok (.iconst 1, 1) := by decide +kernel
theorem dX5_pulls_100 : decode cX5_pulls 100 = .ok (.bastore, 1) := by decide +kernel
theorem dX5_pulls_101 : decode cX5_pulls 101 = .ok (.iconst 1, 1) := by decide +kernel
theorem dX5_pulls_102 : decode cX5_pulls 102 = .ok (.istore_n 2, 1) := by decide +kernel
theorem dX5_pulls_103 : decode cX5_pulls 103 = .ok (.iinc 4 1, 3) := by decide +kernel
theorem dX5_pulls_106 : decode cX5_pulls 106 = .ok (.goto (-54), 3) := by decide +kernel
theorem dX5_pulls_109 : decode cX5_pulls 109 = .ok (.iinc 3 1, 3) := by decide +kernel
theorem dX5_pulls_112 : decode cX5_pulls 112 = .ok (.goto (-71), 3) := by decide +kernel
theorem dX5_pulls_115 : decode cX5_pulls 115 = .ok (.goto (-82), 3) := by decide +kernel
theorem dX5_pulls_118 : decode cX5_pulls 118 = .ok (.return_, 1) := by decide +kernel
set_option maxRecDepth 20000 in
theorem ggX5_pull_X5_isPicked : GoodIn wsX5_pull wsX5_isPicked := goodIn_r _ [5, 6, 7, 8, 4, 9, 36, 37, 38, 39, 40, 41, 42, 43, 44, 45, 46, 47, 48, 49, 50, 51, 52, 53, 54, 55, 56, 57, 58, 59, 60, 61, 62, 63, 64, 65, 66, 67, 68, 69, 70, 71, 72, 73, 74, 75, 76, 77, 78, 79, 80, 81, 82, 83] (by decide +kernel) (by decide +kernel)
set_option maxRecDepth 20000 in
theorem gX5_pull_X5_isPicked : GoodIn wsX5_pull (wsV RX5 224 RX5 yX5_isPicked wsX5_isPicked) := goodIn_app (goodIn_of _ (by decide +kernel)) ggX5_pull_X5_isPicked
set_option maxRecDepth 20000 in
theorem ggX5_pull_X5_pulls : GoodIn wsX5_pull wsX5_pulls := goodIn_r _ [13, 14, 6, 15, 16, 17, 4, 18, 19, 20, 21, 22, 23, 24, 25, 26, 27, 28, 29, 30, 31, 36, 37, 38, 39, 40, 41, 42, 43, 44, 45, 46, 47, 48, 49, 50, 51, 52, 53, 54, 55, 56, 57, 58, 59, 60, 61, 62, 63, 64, 65, 66, 67, 68, 69, 70, 71, 72, 73, 74, 75, 76, 77, 78, 79, 80, 81, 82, 83] (by decide +kernel) (by decide +kernel)
set_option maxRecDepth 20000 in
theorem gX5_pull_X5_pulls : GoodIn wsX5_pull (wsV RX5 239 RX5 yX5_pulls wsX5_pulls) := goodIn_app (goodIn_of _ (by decide +kernel)) ggX5_pull_X5_pulls
set_option maxRecDepth 20000 in
theorem ggX5_pull_X5_manyIn : GoodIn wsX5_pull wsX5_manyIn := goodIn_r _ [35, 6, 14, 36, 37, 38, 39, 40, 41, 42, 43, 44, 45, 46, 47, 48, 49, 50, 51, 52, 53, 54, 55, 56, 57, 58, 59, 60, 61, 62, 63, 64, 65, 66, 67, 68, 69, 70, 71, 72, 73, 74, 75, 76, 77, 78, 79, 80, 81, 82, 83] (by decide +kernel) (by decide +kernel)
set_option maxRecDepth 20000 in
theorem gX5_pull_X5_manyIn : GoodIn wsX5_pull (wsV RX5 230 RX5 yX5_manyIn wsX5_manyIn) := goodIn_app (goodIn_of _ (by decide +kernel)) ggX5_pull_X5_manyIn
theorem dX5_pull_0 : decode cX5_pull 0 = .ok (.aload_n 0, 1) := by decide +kernel
theorem dX5_pull_1 : decode cX5_pull 1 = .ok (.iload_n 1, 1) := by decide +kernel
theorem dX5_pull_2 : decode cX5_pull 2 = .ok (.invokevirtual 224, 3) := by decide +kernel
theorem dX5_pull_5 : decode cX5_pull 5 = .ok (.ifCond .ne 5, 3) := by decide +kernel
theorem dX5_pull_8 : decode cX5_pull 8 = .ok (.iconst (-1), 1) := by decide +kernel
theorem dX5_pull_9 : decode cX5_pull 9 = .ok (.ireturn, 1) := by decide +kernel
theorem dX5_pull_10 : decode cX5_pull 10 = .ok (.aload_n 0, 1) := by decide +kernel
theorem dX5_pull_11 : decode cX5_pull 11 = .ok (.iload_n 1, 1) := by decide +kernel
theorem dX5_pull_12 : decode cX5_pull 12 = .ok (.invokevirtual 239, 3) := by decide +kernel
theorem dX5_pull_15 : decode cX5_pull 15 = .ok (.aload_n 0, 1) := by decide +kernel
theorem dX5_pull_16 : decode cX5_pull 16 = .ok (.invokevirtual 230, 3) := by decide +kernel
theorem dX5_pull_19 : decode cX5_pull 19 = .ok (.ireturn, 1) := by decide +kernel
set_option maxRecDepth 20000 in
theorem ggX5_pulled_X5_isPicked : GoodIn wsX5_pulled wsX5_isPicked := goodIn_r _ [6, 7, 8, 9, 5, 10, 32, 33, 34, 35, 36, 37, 38, 39, 40, 41, 42, 43, 44, 45, 46, 47, 48, 49, 50, 51, 52, 53, 54, 55, 56, 57, 58, 59, 60, 61, 62, 63, 64, 65, 66, 67, 68, 69, 70, 71, 72, 73, 74, 75, 76, 77, 78, 79] (by decide +kernel) (by decide +kernel)
set_option maxRecDepth 20000 in
theorem gX5_pulled_X5_isPicked : GoodIn wsX5_pulled (wsV RX5 224 RX5 yX5_isPicked wsX5_isPicked) := goodIn_app (goodIn_of _ (by decide +kernel)) ggX5_pulled_X5_isPicked
set_option maxRecDepth 20000 in
theorem ggX5_pulled_X5_pulls : GoodIn wsX5_pulled wsX5_pulls := goodIn_r _ [14, 1, 7, 15, 16, 17, 5, 18, 19, 20, 21, 22, 23, 24, 25, 26, 27, 28, 29, 30, 31, 32, 33, 34, 35, 36, 37, 38, 39, 40, 41, 42, 43, 44, 45, 46, 47, 48, 49, 50, 51, 52, 53, 54, 55, 56, 57, 58, 59, 60, 61, 62, 63, 64, 65, 66, 67, 68, 69, 70, 71, 72, 73, 74, 75, 76, 77, 78, 79] (by decide +kernel) (by decide +kernel)
set_option maxRecDepth 20000 in
theorem gX5_pulled_X5_pulls : GoodIn wsX5_pulled (wsV RX5 239 RX5 yX5_pulls wsX5_pulls) := goodIn_app (goodIn_of _ (by decide +kernel)) ggX5_pulled_X5_pulls
theorem dX5_pulled_0 : decode cX5_pulled 0 = .ok (.aload_n 0, 1) := by decide +kernel
theorem dX5_pulled_1 : decode cX5_pulled 1 = .ok (.iload_n 1, 1) := by decide +kernel
theorem dX5_pulled_2 : decode cX5_pulled 2 = .ok (.invokevirtual 224, 3) := by decide +kernel
theorem dX5_pulled_5 : decode cX5_pulled 5 = .ok (.ifCond .eq 11, 3) := by decide +kernel
theorem dX5_pulled_8 : decode cX5_pulled 8 = .ok (.aload_n 0, 1) := by decide +kernel
theorem dX5_pulled_9 : decode cX5_pulled 9 = .ok (.iload_n 2, 1) := by decide +kernel
theorem dX5_pulled_10 : decode cX5_pulled 10 = .ok (.invokevirtual 224, 3) := by decide +kernel
theorem dX5_pulled_13 : decode cX5_pulled 13 = .ok (.ifCond .ne 5, 3) := by decide +kernel
theorem dX5_pulled_16 : decode cX5_pulled 16 = .ok (.iconst (-1), 1) := by decide +kernel
theorem dX5_pulled_17 : decode cX5_pulled 17 = .ok (.ireturn, 1) := by decide +kernel
theorem dX5_pulled_18 : decode cX5_pulled 18 = .ok (.aload_n 0, 1) := by decide +kernel
theorem dX5_pulled_19 : decode cX5_pulled 19 = .ok (.iload_n 1, 1) := by decide +kernel
theorem dX5_pulled_20 : decode cX5_pulled 20 = .ok (.invokevirtual 239, 3) := by decide +kernel
theorem dX5_pulled_23 : decode cX5_pulled 23 = .ok (.aload_n 0, 1) := by decide +kernel
theorem dX5_pulled_24 : decode cX5_pulled 24 = .ok (.getfield 92, 3) := by decide +kernel
theorem dX5_pulled_27 : decode cX5_pulled 27 = .ok (.iload_n 2, 1) := by decide +kernel
theorem dX5_pulled_28 : decode cX5_pulled 28 = .ok (.baload, 1) := by decide +kernel
theorem dX5_pulled_29 : decode cX5_pulled 29 = .ok (.ifCond .eq 7, 3) := by decide +kernel
theorem dX5_pulled_32 : decode cX5_pulled 32 = .ok (.iconst 1, 1) := by decide +kernel
theorem dX5_pulled_33 : decode cX5_pulled 33 = .ok (.goto 4, 3) := by decide +kernel
theorem dX5_pulled_36 : decode cX5_pulled 36 = .ok (.iconst 0, 1) := by decide +kernel
theorem dX5_pulled_37 : decode cX5_pulled 37 = .ok (.ireturn, 1) := by decide +kernel
set_option maxRecDepth 20000 in
theorem ggX5_woven_X5_in : GoodIn wsX5_woven wsX5_in := goodIn_r _ [8] (by decide +kernel) (by decide +kernel)
set_option maxRecDepth 20000 in
theorem gX5_woven_X5_in : GoodIn wsX5_woven (va_wsS RX5 99 yX5_in wsX5_in) := goodIn_app (goodIn_of _ (by decide +kernel)) ggX5_woven_X5_in
theorem dX5_woven_0 : decode cX5_woven 0 = .ok (.aload_n 0, 1) := by decide +kernel
theorem dX5_woven_1 : decode cX5_woven 1 = .ok (.getfield 197, 3) := by decide +kernel
theorem dX5_woven_4 : decode cX5_woven 4 = .ok (.ifCond .eq 47, 3) := by decide +kernel
theorem dX5_woven_7 : decode cX5_woven 7 = .ok (.iload_n 1, 1) := by decide +kernel
theorem dX5_woven_8 : decode cX5_woven 8 = .ok (.iconst 0, 1) := by decide +kernel
theorem dX5_woven_9 : decode cX5_woven 9 = .ok (.aload_n 0, 1) := by decide +kernel
theorem dX5_woven_10 : decode cX5_woven 10 = .ok (.getfield 209, 3) := by decide +kernel
theorem dX5_woven_13 : decode cX5_woven 13 = .ok (.iconst 1, 1) := by decide +kernel
theorem dX5_woven_14 : decode cX5_woven 14 = .ok (.isub, 1) := by decide +kernel
theorem dX5_woven_15 : decode cX5_woven 15 = .ok (.invokestatic 99, 3) := by decide +kernel
theorem dX5_woven_18 : decode cX5_woven 18 = .ok (.ifCond .eq 33, 3) := by decide +kernel
theorem dX5_woven_21 : decode cX5_woven 21 = .ok (.iload_n 2, 1) := by decide +kernel
theorem dX5_woven_22 : decode cX5_woven 22 = .ok (.iconst 0, 1) := by decide +kernel
theorem dX5_woven_23 : decode cX5_woven 23 = .ok (.aload_n 0, 1) := by decide +kernel
theorem dX5_woven_24 : decode cX5_woven 24 = .ok (.getfield 86, 3) := by decide +kernel
theorem dX5_woven_27 : decode cX5_woven 27 = .ok (.iload_n 1, 1) := by decide +kernel
theorem dX5_woven_28 : decode cX5_woven 28 = .ok (.iaload, 1) := by decide +kernel
theorem dX5_woven_29 : decode cX5_woven 29 = .ok (.iconst 1, 1) := by decide +kernel
theorem dX5_woven_30 : decode cX5_woven 30 = .ok (.isub, 1) := by decide +kernel
theorem dX5_woven_31 : decode cX5_woven 31 = .ok (.invokestatic 99, 3) := by decide +kernel
theorem dX5_woven_34 : decode cX5_woven 34 = .ok (.ifCond .eq 17, 3) := by decide +kernel
theorem dX5_woven_37 : decode cX5_woven 37 = .ok (.aload_n 0, 1) := by decide +kernel
theorem dX5_woven_38 : decode cX5_woven 38 = .ok (.getfield 89, 3) := by decide +kernel
theorem dX5_woven_41 : decode cX5_woven 41 = .ok (.bipush 6, 2) := by decide +kernel
theorem dX5_woven_43 : decode cX5_woven 43 = .ok (.iload_n 1, 1) := by decide +kernel
theorem dX5_woven_44 : decode cX5_woven 44 = .ok (.imul, 1) := by decide +kernel
theorem dX5_woven_45 : decode cX5_woven 45 = .ok (.iload_n 2, 1) := by decide +kernel
theorem dX5_woven_46 : decode cX5_woven 46 = .ok (.iadd, 1) := by decide +kernel
theorem dX5_woven_47 : decode cX5_woven 47 = .ok (.iaload, 1) := by decide +kernel
theorem dX5_woven_48 : decode cX5_woven 48 = .ok (.goto 4, 3) := by decide +kernel
theorem dX5_woven_51 : decode cX5_woven 51 = .ok (.iconst (-1), 1) := by decide +kernel
theorem dX5_woven_52 : decode cX5_woven 52 = .ok (.ireturn, 1) := by decide +kernel
set_option maxRecDepth 20000 in
theorem ggX5_best_X5_tries : GoodIn wsX5_best wsX5_tries := goodIn_r _ [8, 9, 1, 10, 2, 3, 11, 12, 13, 14, 15, 16, 17, 18, 19, 7, 20, 21, 22, 23, 24, 25, 26, 27, 28, 29, 30, 31, 32, 33, 34, 35, 36, 37, 38, 39, 40, 41, 42, 43, 44, 45, 46, 47, 48, 49, 50, 51, 52, 53, 54, 55, 56, 57, 58, 59, 60, 61, 62, 63, 64, 65, 66, 67, 68, 69, 70, 71, 72, 73, 74, 75, 76, 77, 78, 79, 80, 81, 82, 83, 84, 85, 86, 87, 88, 89, 90, 91, 92, 93, 94, 115, 116, 117, 118, 119, 120, 121, 122, 123, 124, 125, 126, 127, 128, 129, 130, 131, 132, 133, 134, 135, 136, 137, 138, 139, 140, 141, 142, 143, 144, 145, 146, 147, 148, 149, 150, 151, 152, 153, 154, 155, 156, 157, 158, 159, 160, 161, 162] (by decide +kernel) (by decide +kernel)
set_option maxRecDepth 20000 in
theorem gX5_best_X5_tries : GoodIn wsX5_best (wsV RX5 218 RX5 yX5_tries wsX5_tries) := goodIn_app (goodIn_of _ (by decide +kernel)) ggX5_best_X5_tries
set_option maxRecDepth 20000 in
theorem ggX5_best_X5_keeps : GoodIn wsX5_best wsX5_keeps := goodIn_r _ [98, 99, 9, 100, 1, 101, 10, 102, 2, 103, 3, 104, 11, 105, 106, 12, 107, 42, 108, 43, 109, 40, 110, 36, 111, 37, 112, 41, 113, 39, 114, 85, 115, 116, 117, 118, 119, 120, 121, 122, 123, 124, 125, 126, 127, 128, 129, 130, 131, 132, 133, 134, 135, 136, 137, 138, 139, 140, 141, 142, 143, 144, 145, 146, 147, 148, 149, 150, 151, 152, 153, 154, 155, 156, 157, 158, 159, 160, 161, 162] (by decide +kernel) (by decide +kernel)
set_option maxRecDepth 20000 in
theorem gX5_best_X5_keeps : GoodIn wsX5_best (wsV RX5 221 RX5 yX5_keeps wsX5_keeps) := goodIn_app (goodIn_of _ (by decide +kernel)) ggX5_best_X5_keeps
theorem dX5_best_0 : decode cX5_best 0 = .ok (.iconst (-1), 1) := by decide +kernel
theorem dX5_best_1 : decode cX5_best 1 = .ok (.istore_n 1, 1) := by decide +kernel
theorem dX5_best_2 : decode cX5_best 2 = .ok (.iconst 0, 1) := by decide +kernel
theorem dX5_best_3 : decode cX5_best 3 = .ok (.istore_n 2, 1) := by decide +kernel
theorem dX5_best_4 : decode cX5_best 4 = .ok (.iconst 0, 1) := by decide +kernel
theorem dX5_best_5 : decode cX5_best 5 = .ok (.istore_n 3, 1) := by decide +kernel
theorem dX5_best_6 : decode cX5_best 6 = .ok (.iconst 0, 1) := by decide +kernel
theorem dX5_best_7 : decode cX5_best 7 = .ok (.istore 4, 2) := by decide +kernel
theorem dX5_best_9 : decode cX5_best 9 = .ok (.iload 4, 2) := by decide +kernel
theorem dX5_best_11 : decode cX5_best 11 = .ok (.iconst 4, 1) := by decide +kernel
theorem dX5_best_12 : decode cX5_best 12 = .ok (.if_icmp .ge 69, 3) := by decide +kernel
theorem dX5_best_15 : decode cX5_best 15 = .ok (.aload_n 0, 1) := by decide +kernel
theorem dX5_best_16 : decode cX5_best 16 = .ok (.iload 4, 2) := by decide +kernel
theorem dX5_best_18 : decode cX5_best 18 = .ok (.invokevirtual 218, 3) := by decide +kernel
theorem dX5_best_21 : decode cX5_best 21 = .ok (.aload_n 0, 1) := by decide +kernel
theorem dX5_best_22 : decode cX5_best 22 = .ok (.getfield 141, 3) := by decide +kernel
theorem dX5_best_25 : decode cX5_best 25 = .ok (.ifCond .eq 6, 3) := by decide +kernel
theorem dX5_best_28 : decode cX5_best 28 = .ok (.goto 47, 3) := by decide +kernel
theorem dX5_best_31 : decode cX5_best 31 = .ok (.iload_n 1, 1) := by decide +kernel
theorem dX5_best_32 : decode cX5_best 32 = .ok (.ifCond .lt 30, 3) := by decide +kernel
theorem dX5_best_35 : decode cX5_best 35 = .ok (.aload_n 0, 1) := by decide +kernel
theorem dX5_best_36 : decode cX5_best 36 = .ok (.getfield 135, 3) := by decide +kernel
theorem dX5_best_39 : decode cX5_best 39 = .ok (.iload_n 2, 1) := by decide +kernel
theorem dX5_best_40 : decode cX5_best 40 = .ok (.if_icmp .gt 35, 3) := by decide +kernel
theorem dX5_best_43 : decode cX5_best 43 = .ok (.aload_n 0, 1) := by decide +kernel
theorem dX5_best_44 : decode cX5_best 44 = .ok (.getfield 135, 3) := by decide +kernel
theorem dX5_best_47 : decode cX5_best 47 = .ok (.iload_n 2, 1) := by decide +kernel
theorem dX5_best_48 : decode cX5_best 48 = .ok (.if_icmp .ne 14, 3) := by decide +kernel
theorem dX5_best_51 : decode cX5_best 51 = .ok (.aload_n 0, 1) := by decide +kernel
theorem dX5_best_52 : decode cX5_best 52 = .ok (.getfield 182, 3) := by decide +kernel
theorem dX5_best_55 : decode cX5_best 55 = .ok (.iload_n 3, 1) := by decide +kernel
theorem dX5_best_56 : decode cX5_best 56 = .ok (.if_icmp .lt 6, 3) := by decide +kernel
theorem dX5_best_59 : decode cX5_best 59 = .ok (.goto 16, 3) := by decide +kernel
theorem dX5_best_62 : decode cX5_best 62 = .ok (.iload 4, 2) := by decide +kernel
theorem dX5_best_64 : decode cX5_best 64 = .ok (.istore_n 1, 1) := by decide +kernel
theorem dX5_best_65 : decode cX5_best 65 = .ok (.aload_n 0, 1) := by decide +kernel
theorem dX5_best_66 : decode cX5_best 66 = .ok (.getfield 135, 3) := by decide +kernel
theorem dX5_best_69 : decode cX5_best 69 = .ok (.istore_n 2, 1) := by decide +kernel
theorem dX5_best_70 : decode cX5_best 70 = .ok (.aload_n 0, 1) := by decide +kernel
theorem dX5_best_71 : decode cX5_best 71 = .ok (.getfield 182, 3) := by decide +kernel
theorem dX5_best_74 : decode cX5_best 74 = .ok (.istore_n 3, 1) := by decide +kernel
theorem dX5_best_75 : decode cX5_best 75 = .ok (.iinc 4 1, 3) := by decide +kernel
theorem dX5_best_78 : decode cX5_best 78 = .ok (.goto (-69), 3) := by decide +kernel
theorem dX5_best_81 : decode cX5_best 81 = .ok (.iload_n 1, 1) := by decide +kernel
theorem dX5_best_82 : decode cX5_best 82 = .ok (.ifCond .ge 5, 3) := by decide +kernel
theorem dX5_best_85 : decode cX5_best 85 = .ok (.iconst (-1), 1) := by decide +kernel
theorem dX5_best_86 : decode cX5_best 86 = .ok (.ireturn, 1) := by decide +kernel
theorem dX5_best_87 : decode cX5_best 87 = .ok (.aload_n 0, 1) := by decide +kernel
theorem dX5_best_88 : decode cX5_best 88 = .ok (.iload_n 1, 1) := by decide +kernel
theorem dX5_best_89 : decode cX5_best 89 = .ok (.invokevirtual 218, 3) := by decide +kernel
theorem dX5_best_92 : decode cX5_best 92 = .ok (.aload_n 0, 1) := by decide +kernel
theorem dX5_best_93 : decode cX5_best 93 = .ok (.invokevirtual 221, 3) := by decide +kernel
theorem dX5_best_96 : decode cX5_best 96 = .ok (.iload_n 1, 1) := by decide +kernel
theorem dX5_best_97 : decode cX5_best 97 = .ok (.ireturn, 1) := by decide +kernel
theorem dX5_beadsOf_0 : decode cX5_beadsOf 0 = .ok (.iconst 0, 1) := by decide +kernel
theorem dX5_beadsOf_1 : decode cX5_beadsOf 1 = .ok (.istore_n 2, 1) := by decide +kernel
theorem dX5_beadsOf_2 : decode cX5_beadsOf 2 = .ok (.iconst 0, 1) := by decide +kernel
theorem dX5_beadsOf_3 : decode cX5_beadsOf 3 = .ok (.istore_n 3, 1) := by decide +kernel
theorem dX5_beadsOf_4 : decode cX5_beadsOf 4 = .ok (.iload_n 3, 1) := by decide +kernel
theorem dX5_beadsOf_5 : decode cX5_beadsOf 5 = .ok (.sipush 144, 3) := by decide +kernel
theorem dX5_beadsOf_8 : decode cX5_beadsOf 8 = .ok (.if_icmp .ge 27, 3) := by decide +kernel
theorem dX5_beadsOf_11 : decode cX5_beadsOf 11 = .ok (.iload_n 2, 1) := by decide +kernel
theorem dX5_beadsOf_12 : decode cX5_beadsOf 12 = .ok (.aload_n 0, 1) := by decide +kernel
theorem dX5_beadsOf_13 : decode cX5_beadsOf 13 = .ok (.getfield 7, 3) := by decide +kernel
theorem dX5_beadsOf_16 : decode cX5_beadsOf 16 = .ok (.iload_n 3, 1) := by decide +kernel
theorem dX5_beadsOf_17 : decode cX5_beadsOf 17 = .ok (.iaload, 1) := by decide +kernel
theorem dX5_beadsOf_18 : decode cX5_beadsOf 18 = .ok (.iload_n 1, 1) := by decide +kernel
theorem dX5_beadsOf_19 : decode cX5_beadsOf 19 = .ok (.if_icmp .ne 7, 3) := by decide +kernel
theorem dX5_beadsOf_22 : decode cX5_beadsOf 22 = .ok (.iconst 1, 1) := by decide +kernel
theorem dX5_beadsOf_23 : decode cX5_beadsOf 23 = .ok (.goto 4, 3) := by decide +kernel
theorem dX5_beadsOf_26 : decode cX5_beadsOf 26 = .ok (.iconst 0, 1) := by decide +kernel
theorem dX5_beadsOf_27 : decode cX5_beadsOf 27 = .ok (.iadd, 1) := by decide +kernel
theorem dX5_beadsOf_28 : decode cX5_beadsOf 28 = .ok (.istore_n 2, 1) := by decide +kernel
theorem dX5_beadsOf_29 : decode cX5_beadsOf 29 = .ok (.iinc 3 1, 3) := by decide +kernel
theorem dX5_beadsOf_32 : decode cX5_beadsOf 32 = .ok (.goto (-28), 3) := by decide +kernel
theorem dX5_beadsOf_35 : decode cX5_beadsOf 35 = .ok (.iload_n 2, 1) := by decide +kernel
theorem dX5_beadsOf_36 : decode cX5_beadsOf 36 = .ok (.ireturn, 1) := by decide +kernel
set_option maxRecDepth 20000 in
theorem ggX5_bought_X5_isColour : GoodIn wsX5_bought wsX5_isColour := goodIn_r _ [5, 6, 7, 4, 8] (by decide +kernel) (by decide +kernel)
set_option maxRecDepth 20000 in
theorem gX5_bought_X5_isColour : GoodIn wsX5_bought (va_wsS RX5 110 yX5_isColour wsX5_isColour) := goodIn_app (goodIn_of _ (by decide +kernel)) ggX5_bought_X5_isColour
set_option maxRecDepth 20000 in
theorem ggX5_bought_X5_in : GoodIn wsX5_bought wsX5_in := goodIn_r _ [8] (by decide +kernel) (by decide +kernel)
set_option maxRecDepth 20000 in
theorem gX5_bought_X5_in : GoodIn wsX5_bought (va_wsS RX5 99 yX5_in wsX5_in) := goodIn_app (goodIn_of _ (by decide +kernel)) ggX5_bought_X5_in
set_option maxRecDepth 20000 in
theorem ggX5_bought_X5_beadsOf : GoodIn wsX5_bought wsX5_beadsOf := goodIn_r _ [12, 13, 14, 15, 16, 17, 18, 19, 20, 21, 22, 23, 24, 25, 26, 27, 28, 29, 30, 31, 32, 33, 34, 35, 36, 37, 38, 39, 40, 41, 42, 43, 44, 45, 46, 47, 48, 49, 50, 51, 52, 53, 54, 55, 56, 57, 58, 59, 60, 61] (by decide +kernel) (by decide +kernel)
set_option maxRecDepth 20000 in
theorem gX5_bought_X5_beadsOf : GoodIn wsX5_bought (wsV RX5 242 RX5 yX5_beadsOf wsX5_beadsOf) := goodIn_app (goodIn_of _ (by decide +kernel)) ggX5_bought_X5_beadsOf
theorem dX5_bought_0 : decode cX5_bought 0 = .ok (.iload_n 1, 1) := by decide +kernel
theorem dX5_bought_1 : decode cX5_bought 1 = .ok (.invokestatic 110, 3) := by decide +kernel
theorem dX5_bought_4 : decode cX5_bought 4 = .ok (.ifCond .eq 14, 3) := by decide +kernel
theorem dX5_bought_7 : decode cX5_bought 7 = .ok (.iload_n 2, 1) := by decide +kernel
theorem dX5_bought_8 : decode cX5_bought 8 = .ok (.iconst 1, 1) := by decide +kernel
theorem dX5_bought_9 : decode cX5_bought 9 = .ok (.sipush 1000, 3) := by decide +kernel
theorem dX5_bought_12 : decode cX5_bought 12 = .ok (.invokestatic 99, 3) := by decide +kernel
theorem dX5_bought_15 : decode cX5_bought 15 = .ok (.ifCond .ne 5, 3) := by decide +kernel
theorem dX5_bought_18 : decode cX5_bought 18 = .ok (.iconst (-1), 1) := by decide +kernel
theorem dX5_bought_19 : decode cX5_bought 19 = .ok (.ireturn, 1) := by decide +kernel
theorem dX5_bought_20 : decode cX5_bought 20 = .ok (.aload_n 0, 1) := by decide +kernel
theorem dX5_bought_21 : decode cX5_bought 21 = .ok (.iload_n 1, 1) := by decide +kernel
theorem dX5_bought_22 : decode cX5_bought 22 = .ok (.invokevirtual 242, 3) := by decide +kernel
theorem dX5_bought_25 : decode cX5_bought 25 = .ok (.aload_n 0, 1) := by decide +kernel
theorem dX5_bought_26 : decode cX5_bought 26 = .ok (.getfield 19, 3) := by decide +kernel
theorem dX5_bought_29 : decode cX5_bought 29 = .ok (.iload_n 1, 1) := by decide +kernel
theorem dX5_bought_30 : decode cX5_bought 30 = .ok (.iaload, 1) := by decide +kernel
theorem dX5_bought_31 : decode cX5_bought 31 = .ok (.imul, 1) := by decide +kernel
theorem dX5_bought_32 : decode cX5_bought 32 = .ok (.sipush 1000, 3) := by decide +kernel
theorem dX5_bought_35 : decode cX5_bought 35 = .ok (.iload_n 2, 1) := by decide +kernel
theorem dX5_bought_36 : decode cX5_bought 36 = .ok (.imul, 1) := by decide +kernel
theorem dX5_bought_37 : decode cX5_bought 37 = .ok (.iadd, 1) := by decide +kernel
theorem dX5_bought_38 : decode cX5_bought 38 = .ok (.iconst 1, 1) := by decide +kernel
theorem dX5_bought_39 : decode cX5_bought 39 = .ok (.isub, 1) := by decide +kernel
theorem dX5_bought_40 : decode cX5_bought 40 = .ok (.sipush 1000, 3) := by decide +kernel
theorem dX5_bought_43 : decode cX5_bought 43 = .ok (.iload_n 2, 1) := by decide +kernel
theorem dX5_bought_44 : decode cX5_bought 44 = .ok (.imul, 1) := by decide +kernel
theorem dX5_bought_45 : decode cX5_bought 45 = .ok (.idiv, 1) := by decide +kernel
theorem dX5_bought_46 : decode cX5_bought 46 = .ok (.ireturn, 1) := by decide +kernel
set_option maxRecDepth 20000 in
theorem ggX5_count_X5_beadsOf : GoodIn wsX5_count wsX5_beadsOf := goodIn_r _ [11, 12, 24, 25, 26, 27, 28, 29, 30, 31, 32, 33, 34, 35, 36, 37, 38, 39, 40, 41, 42, 43, 44, 45, 46, 47, 48, 49, 50, 51, 52, 53, 54, 55, 56, 57, 58, 59, 60, 61, 62, 63, 64, 65, 66, 67, 68, 69, 70, 71] (by decide +kernel) (by decide +kernel)
set_option maxRecDepth 20000 in
theorem gX5_count_X5_beadsOf : GoodIn wsX5_count (wsV RX5 242 RX5 yX5_beadsOf wsX5_beadsOf) := goodIn_app (goodIn_of _ (by decide +kernel)) ggX5_count_X5_beadsOf
set_option maxRecDepth 20000 in
theorem ggX5_count_X5_lastColumn : GoodIn wsX5_count wsX5_lastColumn := goodIn_r _ [16, 12, 17, 18, 19, 10, 20, 2, 24, 25, 26, 27, 28, 29, 30, 31, 32, 33, 34, 35, 36, 37, 38, 39, 40, 41, 42, 43, 44, 45, 46, 47, 48, 49, 50, 51, 52, 53, 54, 55, 56, 57, 58, 59, 60, 61, 62, 63, 64, 65, 66, 67, 68, 69, 70, 71] (by decide +kernel) (by decide +kernel)
set_option maxRecDepth 20000 in
theorem gX5_count_X5_lastColumn : GoodIn wsX5_count (wsV RX5 185 RX5 yX5_lastColumn wsX5_lastColumn) := goodIn_app (goodIn_of _ (by decide +kernel)) ggX5_count_X5_lastColumn
set_option maxRecDepth 20000 in
theorem ggX5_count_X5_in : GoodIn wsX5_count wsX5_in := goodIn_r _ [23] (by decide +kernel) (by decide +kernel)
set_option maxRecDepth 20000 in
theorem gX5_count_X5_in : GoodIn wsX5_count (va_wsS RX5 99 yX5_in wsX5_in) := goodIn_app (goodIn_of _ (by decide +kernel)) ggX5_count_X5_in
theorem dX5_count_0 : decode cX5_count 0 = .ok (.iconst 0, 1) := by decide +kernel
theorem dX5_count_1 : decode cX5_count 1 = .ok (.istore_n 2, 1) := by decide +kernel
theorem dX5_count_2 : decode cX5_count 2 = .ok (.iload_n 1, 1) := by decide +kernel
theorem dX5_count_3 : decode cX5_count 3 = .ok (.tableswitch 110 0 6 #[41, 51, 85, 90, 95, 100, 105], 41) := by decide +kernel
theorem dX5_count_44 : decode cX5_count 44 = .ok (.sipush 144, 3) := by decide +kernel
theorem dX5_count_47 : decode cX5_count 47 = .ok (.aload_n 0, 1) := by decide +kernel
theorem dX5_count_48 : decode cX5_count 48 = .ok (.iconst (-1), 1) := by decide +kernel
theorem dX5_count_49 : decode cX5_count 49 = .ok (.invokevirtual 242, 3) := by decide +kernel
theorem dX5_count_52 : decode cX5_count 52 = .ok (.isub, 1) := by decide +kernel
theorem dX5_count_53 : decode cX5_count 53 = .ok (.ireturn, 1) := by decide +kernel
theorem dX5_count_54 : decode cX5_count 54 = .ok (.iconst 0, 1) := by decide +kernel
theorem dX5_count_55 : decode cX5_count 55 = .ok (.istore_n 3, 1) := by decide +kernel
theorem dX5_count_56 : decode cX5_count 56 = .ok (.iload_n 3, 1) := by decide +kernel
theorem dX5_count_57 : decode cX5_count 57 = .ok (.bipush 12, 2) := by decide +kernel
theorem dX5_count_59 : decode cX5_count 59 = .ok (.if_icmp .ge 27, 3) := by decide +kernel
theorem dX5_count_62 : decode cX5_count 62 = .ok (.iload_n 2, 1) := by decide +kernel
theorem dX5_count_63 : decode cX5_count 63 = .ok (.aload_n 0, 1) := by decide +kernel
theorem dX5_count_64 : decode cX5_count 64 = .ok (.iload_n 3, 1) := by decide +kernel
theorem dX5_count_65 : decode cX5_count 65 = .ok (.iconst 1, 1) := by decide +kernel
theorem dX5_count_66 : decode cX5_count 66 = .ok (.invokevirtual 185, 3) := by decide +kernel
theorem dX5_count_69 : decode cX5_count 69 = .ok (.iconst (-1), 1) := by decide +kernel
theorem dX5_count_70 : decode cX5_count 70 = .ok (.if_icmp .eq 7, 3) := by decide +kernel
theorem dX5_count_73 : decode cX5_count 73 = .ok (.iconst 1, 1) := by decide +kernel
theorem dX5_count_74 : decode cX5_count 74 = .ok (.goto 4, 3) := by decide +kernel
theorem dX5_count_77 : decode cX5_count 77 = .ok (.iconst 0, 1) := by decide +kernel
theorem dX5_count_78 : decode cX5_count 78 = .ok (.iadd, 1) := by decide +kernel
theorem dX5_count_79 : decode cX5_count 79 = .ok (.istore_n 2, 1) := by decide +kernel
theorem dX5_count_80 : decode cX5_count 80 = .ok (.iinc 3 1, 3) := by decide +kernel
theorem dX5_count_83 : decode cX5_count 83 = .ok (.goto (-27), 3) := by decide +kernel
theorem dX5_count_86 : decode cX5_count 86 = .ok (.iload_n 2, 1) := by decide +kernel
theorem dX5_count_87 : decode cX5_count 87 = .ok (.ireturn, 1) := by decide +kernel
theorem dX5_count_88 : decode cX5_count 88 = .ok (.aload_n 0, 1) := by decide +kernel
theorem dX5_count_89 : decode cX5_count 89 = .ok (.getfield 107, 3) := by decide +kernel
theorem dX5_count_92 : decode cX5_count 92 = .ok (.ireturn, 1) := by decide +kernel
theorem dX5_count_93 : decode cX5_count 93 = .ok (.aload_n 0, 1) := by decide +kernel
theorem dX5_count_94 : decode cX5_count 94 = .ok (.getfield 96, 3) := by decide +kernel
theorem dX5_count_97 : decode cX5_count 97 = .ok (.ireturn, 1) := by decide +kernel
theorem dX5_count_98 : decode cX5_count 98 = .ok (.aload_n 0, 1) := by decide +kernel
theorem dX5_count_99 : decode cX5_count 99 = .ok (.getfield 22, 3) := by decide +kernel
theorem dX5_count_102 : decode cX5_count 102 = .ok (.ireturn, 1) := by decide +kernel
theorem dX5_count_103 : decode cX5_count 103 = .ok (.aload_n 0, 1) := by decide +kernel
theorem dX5_count_104 : decode cX5_count 104 = .ok (.getfield 26, 3) := by decide +kernel
theorem dX5_count_107 : decode cX5_count 107 = .ok (.ireturn, 1) := by decide +kernel
theorem dX5_count_108 : decode cX5_count 108 = .ok (.aload_n 0, 1) := by decide +kernel
theorem dX5_count_109 : decode cX5_count 109 = .ok (.getfield 200, 3) := by decide +kernel
theorem dX5_count_112 : decode cX5_count 112 = .ok (.ireturn, 1) := by decide +kernel
theorem dX5_count_113 : decode cX5_count 113 = .ok (.iload_n 1, 1) := by decide +kernel
theorem dX5_count_114 : decode cX5_count 114 = .ok (.bipush 10, 2) := by decide +kernel
theorem dX5_count_116 : decode cX5_count 116 = .ok (.bipush 15, 2) := by decide +kernel
theorem dX5_count_118 : decode cX5_count 118 = .ok (.invokestatic 99, 3) := by decide +kernel
theorem dX5_count_121 : decode cX5_count 121 = .ok (.ifCond .eq 12, 3) := by decide +kernel
theorem dX5_count_124 : decode cX5_count 124 = .ok (.aload_n 0, 1) := by decide +kernel
theorem dX5_count_125 : decode cX5_count 125 = .ok (.iload_n 1, 1) := by decide +kernel
theorem dX5_count_126 : decode cX5_count 126 = .ok (.bipush 10, 2) := by decide +kernel
theorem dX5_count_128 : decode cX5_count 128 = .ok (.isub, 1) := by decide +kernel
theorem dX5_count_129 : decode cX5_count 129 = .ok (.invokevirtual 242, 3) := by decide +kernel
theorem dX5_count_132 : decode cX5_count 132 = .ok (.ireturn, 1) := by decide +kernel
theorem dX5_count_133 : decode cX5_count 133 = .ok (.iload_n 1, 1) := by decide +kernel
theorem dX5_count_134 : decode cX5_count 134 = .ok (.bipush 20, 2) := by decide +kernel
theorem dX5_count_136 : decode cX5_count 136 = .ok (.bipush 25, 2) := by decide +kernel
theorem dX5_count_138 : decode cX5_count 138 = .ok (.invokestatic 99, 3) := by decide +kernel
theorem dX5_count_141 : decode cX5_count 141 = .ok (.ifCond .eq 15, 3) := by decide +kernel
theorem dX5_count_144 : decode cX5_count 144 = .ok (.aload_n 0, 1) := by decide +kernel
theorem dX5_count_145 : decode cX5_count 145 = .ok (.getfield 13, 3) := by decide +kernel
theorem dX5_count_148 : decode cX5_count 148 = .ok (.iload_n 1, 1) := by decide +kernel
theorem dX5_count_149 : decode cX5_count 149 = .ok (.bipush 20, 2) := by decide +kernel
theorem dX5_count_151 : decode cX5_count 151 = .ok (.isub, 1) := by decide +kernel
theorem dX5_count_152 : decode cX5_count 152 = .ok (.iaload, 1) := by decide +kernel
theorem dX5_count_153 : decode cX5_count 153 = .ok (.goto 4, 3) := by decide +kernel
theorem dX5_count_156 : decode cX5_count 156 = .ok (.iconst (-1), 1) := by decide +kernel
theorem dX5_count_157 : decode cX5_count 157 = .ok (.ireturn, 1) := by decide +kernel
theorem dJ9_max_7cf53_0 : decode cJ9_max_7cf53 0 = .ok (.iload_n 0, 1) := by decide +kernel
theorem dJ9_max_7cf53_1 : decode cJ9_max_7cf53 1 = .ok (.iload_n 1, 1) := by decide +kernel
theorem dJ9_max_7cf53_2 : decode cJ9_max_7cf53 2 = .ok (.if_icmp .lt 7, 3) := by decide +kernel
theorem dJ9_max_7cf53_5 : decode cJ9_max_7cf53 5 = .ok (.iload_n 0, 1) := by decide +kernel
theorem dJ9_max_7cf53_6 : decode cJ9_max_7cf53 6 = .ok (.goto 4, 3) := by decide +kernel
theorem dJ9_max_7cf53_9 : decode cJ9_max_7cf53 9 = .ok (.iload_n 1, 1) := by decide +kernel
theorem dJ9_max_7cf53_10 : decode cJ9_max_7cf53 10 = .ok (.ireturn, 1) := by decide +kernel
theorem dJ9_min_7cf53_0 : decode cJ9_min_7cf53 0 = .ok (.iload_n 0, 1) := by decide +kernel
theorem dJ9_min_7cf53_1 : decode cJ9_min_7cf53 1 = .ok (.iload_n 1, 1) := by decide +kernel
theorem dJ9_min_7cf53_2 : decode cJ9_min_7cf53 2 = .ok (.if_icmp .gt 7, 3) := by decide +kernel
theorem dJ9_min_7cf53_5 : decode cJ9_min_7cf53 5 = .ok (.iload_n 0, 1) := by decide +kernel
theorem dJ9_min_7cf53_6 : decode cJ9_min_7cf53 6 = .ok (.goto 4, 3) := by decide +kernel
theorem dJ9_min_7cf53_9 : decode cJ9_min_7cf53 9 = .ok (.iload_n 1, 1) := by decide +kernel
theorem dJ9_min_7cf53_10 : decode cJ9_min_7cf53 10 = .ok (.ireturn, 1) := by decide +kernel
theorem dJ7_fill_53178_0 : decode cJ7_fill_53178 0 = .ok (.iconst 0, 1) := by decide +kernel
theorem dJ7_fill_53178_1 : decode cJ7_fill_53178 1 = .ok (.istore_n 2, 1) := by decide +kernel
theorem dJ7_fill_53178_2 : decode cJ7_fill_53178 2 = .ok (.aload_n 0, 1) := by decide +kernel
theorem dJ7_fill_53178_3 : decode cJ7_fill_53178 3 = .ok (.arraylength, 1) := by decide +kernel
theorem dJ7_fill_53178_4 : decode cJ7_fill_53178 4 = .ok (.istore_n 3, 1) := by decide +kernel
theorem dJ7_fill_53178_5 : decode cJ7_fill_53178 5 = .ok (.iload_n 2, 1) := by decide +kernel
theorem dJ7_fill_53178_6 : decode cJ7_fill_53178 6 = .ok (.iload_n 3, 1) := by decide +kernel
theorem dJ7_fill_53178_7 : decode cJ7_fill_53178 7 = .ok (.if_icmp .ge 13, 3) := by decide +kernel
theorem dJ7_fill_53178_10 : decode cJ7_fill_53178 10 = .ok (.aload_n 0, 1) := by decide +kernel
theorem dJ7_fill_53178_11 : decode cJ7_fill_53178 11 = .ok (.iload_n 2, 1) := by decide +kernel
theorem dJ7_fill_53178_12 : decode cJ7_fill_53178 12 = .ok (.iload_n 1, 1) := by decide +kernel
theorem dJ7_fill_53178_13 : decode cJ7_fill_53178 13 = .ok (.iastore, 1) := by decide +kernel
theorem dJ7_fill_53178_14 : decode cJ7_fill_53178 14 = .ok (.iinc 2 1, 3) := by decide +kernel
theorem dJ7_fill_53178_17 : decode cJ7_fill_53178 17 = .ok (.goto (-12), 3) := by decide +kernel
theorem dJ7_fill_53178_20 : decode cJ7_fill_53178 20 = .ok (.return_, 1) := by decide +kernel
theorem dL_law_0 : decode cL_law 0 = .ok (.new 7, 3) := by decide +kernel
theorem dL_law_3 : decode cL_law 3 = .ok (.dup, 1) := by decide +kernel
theorem dL_law_4 : decode cL_law 4 = .ok (.invokespecial 9, 3) := by decide +kernel
theorem dL_law_7 : decode cL_law 7 = .ok (.astore_n 1, 1) := by decide +kernel
theorem dL_law_8 : decode cL_law 8 = .ok (.new 10, 3) := by decide +kernel
theorem dL_law_11 : decode cL_law 11 = .ok (.dup, 1) := by decide +kernel
theorem dL_law_12 : decode cL_law 12 = .ok (.invokespecial 12, 3) := by decide +kernel
theorem dL_law_15 : decode cL_law 15 = .ok (.astore_n 2, 1) := by decide +kernel
theorem dL_law_16 : decode cL_law 16 = .ok (.iconst 0, 1) := by decide +kernel
theorem dL_law_17 : decode cL_law 17 = .ok (.istore_n 3, 1) := by decide +kernel
theorem dL_law_18 : decode cL_law 18 = .ok (.iload_n 3, 1) := by decide +kernel
theorem dL_law_19 : decode cL_law 19 = .ok (.aload_n 0, 1) := by decide +kernel
theorem dL_law_20 : decode cL_law 20 = .ok (.arraylength, 1) := by decide +kernel
theorem dL_law_21 : decode cL_law 21 = .ok (.bipush 6, 2) := by decide +kernel
theorem dL_law_23 : decode cL_law 23 = .ok (.isub, 1) := by decide +kernel
theorem dL_law_24 : decode cL_law 24 = .ok (.if_icmp .gt 639, 3) := by decide +kernel
theorem dL_law_27 : decode cL_law 27 = .ok (.aload_n 0, 1) := by decide +kernel
theorem dL_law_28 : decode cL_law 28 = .ok (.iload_n 3, 1) := by decide +kernel
theorem dL_law_29 : decode cL_law 29 = .ok (.iaload, 1) := by decide +kernel
theorem dL_law_30 : decode cL_law 30 = .ok (.bipush 31, 2) := by decide +kernel
theorem dL_law_32 : decode cL_law 32 = .ok (.iand, 1) := by decide +kernel
theorem dL_law_33 : decode cL_law 33 = .ok (.tableswitch 624 0 16 #[83, 166, 189, 212, 265, 298, 331, 354, 377, 410, 443, 466, 489, 522, 555, 568, 601], 83) := by decide +kernel
theorem dL_law_116 : decode cL_law 116 = .ok (.aload_n 1, 1) := by decide +kernel
theorem dL_law_117 : decode cL_law 117 = .ok (.aload_n 0, 1) := by decide +kernel
theorem dL_law_118 : decode cL_law 118 = .ok (.iload_n 3, 1) := by decide +kernel
theorem dL_law_119 : decode cL_law 119 = .ok (.iconst 1, 1) := by decide +kernel
theorem dL_law_120 : decode cL_law 120 = .ok (.iadd, 1) := by decide +kernel
theorem dL_law_121 : decode cL_law 121 = .ok (.iaload, 1) := by decide +kernel
theorem dL_law_122 : decode cL_law 122 = .ok (.aload_n 0, 1) := by decide +kernel
theorem dL_law_123 : decode cL_law 123 = .ok (.iload_n 3, 1) := by decide +kernel
theorem dL_law_124 : decode cL_law 124 = .ok (.iconst 2, 1) := by decide +kernel
theorem dL_law_125 : decode cL_law 125 = .ok (.iadd, 1) := by decide +kernel
theorem dL_law_126 : decode cL_law 126 = .ok (.iaload, 1) := by decide +kernel
theorem dL_law_127 : decode cL_law 127 = .ok (.aload_n 0, 1) := by decide +kernel
theorem dL_law_128 : decode cL_law 128 = .ok (.iload_n 3, 1) := by decide +kernel
theorem dL_law_129 : decode cL_law 129 = .ok (.iconst 3, 1) := by decide +kernel
theorem dL_law_130 : decode cL_law 130 = .ok (.iadd, 1) := by decide +kernel
theorem dL_law_131 : decode cL_law 131 = .ok (.iaload, 1) := by decide +kernel
theorem dL_law_132 : decode cL_law 132 = .ok (.aload_n 0, 1) := by decide +kernel
theorem dL_law_133 : decode cL_law 133 = .ok (.iload_n 3, 1) := by decide +kernel
theorem dL_law_134 : decode cL_law 134 = .ok (.iconst 4, 1) := by decide +kernel
theorem dL_law_135 : decode cL_law 135 = .ok (.iadd, 1) := by decide +kernel
theorem dL_law_136 : decode cL_law 136 = .ok (.iaload, 1) := by decide +kernel
theorem dL_law_137 : decode cL_law 137 = .ok (.i2l, 1) := by decide +kernel
theorem dL_law_138 : decode cL_law 138 = .ok (.bipush 32, 2) := by decide +kernel
theorem dL_law_140 : decode cL_law 140 = .ok (.lshl, 1) := by decide +kernel
theorem dL_law_141 : decode cL_law 141 = .ok (.aload_n 0, 1) := by decide +kernel
theorem dL_law_142 : decode cL_law 142 = .ok (.iload_n 3, 1) := by decide +kernel
theorem dL_law_143 : decode cL_law 143 = .ok (.iconst 5, 1) := by decide +kernel
theorem dL_law_144 : decode cL_law 144 = .ok (.iadd, 1) := by decide +kernel
theorem dL_law_145 : decode cL_law 145 = .ok (.iaload, 1) := by decide +kernel
theorem dL_law_146 : decode cL_law 146 = .ok (.i2l, 1) := by decide +kernel
theorem dL_law_147 : decode cL_law 147 = .ok (.ldc2_w 13, 3) := by decide +kernel
theorem dL_law_150 : decode cL_law 150 = .ok (.land, 1) := by decide +kernel
theorem dL_law_151 : decode cL_law 151 = .ok (.lor, 1) := by decide +kernel
theorem dL_law_152 : decode cL_law 152 = .ok (.invokevirtual 15, 3) := by decide +kernel
theorem dL_law_155 : decode cL_law 155 = .ok (.aload_n 2, 1) := by decide +kernel
theorem dL_law_156 : decode cL_law 156 = .ok (.aload_n 0, 1) := by decide +kernel
theorem dL_law_157 : decode cL_law 157 = .ok (.iload_n 3, 1) := by decide +kernel
theorem dL_law_158 : decode cL_law 158 = .ok (.iconst 1, 1) := by decide +kernel
theorem dL_law_159 : decode cL_law 159 = .ok (.iadd, 1) := by decide +kernel
theorem dL_law_160 : decode cL_law 160 = .ok (.iaload, 1) := by decide +kernel
theorem dL_law_161 : decode cL_law 161 = .ok (.aload_n 0, 1) := by decide +kernel
theorem dL_law_162 : decode cL_law 162 = .ok (.iload_n 3, 1) := by decide +kernel
theorem dL_law_163 : decode cL_law 163 = .ok (.iconst 2, 1) := by decide +kernel
theorem dL_law_164 : decode cL_law 164 = .ok (.iadd, 1) := by decide +kernel
theorem dL_law_165 : decode cL_law 165 = .ok (.iaload, 1) := by decide +kernel
theorem dL_law_166 : decode cL_law 166 = .ok (.aload_n 0, 1) := by decide +kernel
theorem dL_law_167 : decode cL_law 167 = .ok (.iload_n 3, 1) := by decide +kernel
theorem dL_law_168 : decode cL_law 168 = .ok (.iconst 3, 1) := by decide +kernel
theorem dL_law_169 : decode cL_law 169 = .ok (.iadd, 1) := by decide +kernel
theorem dL_law_170 : decode cL_law 170 = .ok (.iaload, 1) := by decide +kernel
theorem dL_law_171 : decode cL_law 171 = .ok (.aload_n 0, 1) := by decide +kernel
theorem dL_law_172 : decode cL_law 172 = .ok (.iload_n 3, 1) := by decide +kernel
theorem dL_law_173 : decode cL_law 173 = .ok (.iconst 4, 1) := by decide +kernel
theorem dL_law_174 : decode cL_law 174 = .ok (.iadd, 1) := by decide +kernel
theorem dL_law_175 : decode cL_law 175 = .ok (.iaload, 1) := by decide +kernel
theorem dL_law_176 : decode cL_law 176 = .ok (.i2l, 1) := by decide +kernel
theorem dL_law_177 : decode cL_law 177 = .ok (.bipush 32, 2) := by decide +kernel
theorem dL_law_179 : decode cL_law 179 = .ok (.lshl, 1) := by decide +kernel
theorem dL_law_180 : decode cL_law 180 = .ok (.aload_n 0, 1) := by decide +kernel
end
section
theorem dL_law_181 : decode cL_law 181 = .ok (.iload_n 3, 1) := by decide +kernel
theorem dL_law_182 : decode cL_law 182 = .ok (.iconst 5, 1) := by decide +kernel
theorem dL_law_183 : decode cL_law 183 = .ok (.iadd, 1) := by decide +kernel
theorem dL_law_184 : decode cL_law 184 = .ok (.iaload, 1) := by decide +kernel
theorem dL_law_185 : decode cL_law 185 = .ok (.i2l, 1) := by decide +kernel
theorem dL_law_186 : decode cL_law 186 = .ok (.ldc2_w 13, 3) := by decide +kernel
theorem dL_law_189 : decode cL_law 189 = .ok (.land, 1) := by decide +kernel
theorem dL_law_190 : decode cL_law 190 = .ok (.lor, 1) := by decide +kernel
theorem dL_law_191 : decode cL_law 191 = .ok (.invokevirtual 19, 3) := by decide +kernel
theorem dL_law_194 : decode cL_law 194 = .ok (.if_icmp .eq 463, 3) := by decide +kernel
theorem dL_law_197 : decode cL_law 197 = .ok (.iconst 0, 1) := by decide +kernel
theorem dL_law_198 : decode cL_law 198 = .ok (.ireturn, 1) := by decide +kernel
theorem dL_law_199 : decode cL_law 199 = .ok (.aload_n 1, 1) := by decide +kernel
theorem dL_law_200 : decode cL_law 200 = .ok (.aload_n 0, 1) := by decide +kernel
theorem dL_law_201 : decode cL_law 201 = .ok (.iload_n 3, 1) := by decide +kernel
theorem dL_law_202 : decode cL_law 202 = .ok (.iconst 1, 1) := by decide +kernel
theorem dL_law_203 : decode cL_law 203 = .ok (.iadd, 1) := by decide +kernel
theorem dL_law_204 : decode cL_law 204 = .ok (.iaload, 1) := by decide +kernel
theorem dL_law_205 : decode cL_law 205 = .ok (.invokevirtual 20, 3) := by decide +kernel
theorem dL_law_208 : decode cL_law 208 = .ok (.aload_n 2, 1) := by decide +kernel
theorem dL_law_209 : decode cL_law 209 = .ok (.aload_n 0, 1) := by decide +kernel
theorem dL_law_210 : decode cL_law 210 = .ok (.iload_n 3, 1) := by decide +kernel
theorem dL_law_211 : decode cL_law 211 = .ok (.iconst 1, 1) := by decide +kernel
theorem dL_law_212 : decode cL_law 212 = .ok (.iadd, 1) := by decide +kernel
theorem dL_law_213 : decode cL_law 213 = .ok (.iaload, 1) := by decide +kernel
theorem dL_law_214 : decode cL_law 214 = .ok (.invokevirtual 24, 3) := by decide +kernel
theorem dL_law_217 : decode cL_law 217 = .ok (.if_icmp .eq 440, 3) := by decide +kernel
theorem dL_law_220 : decode cL_law 220 = .ok (.iconst 0, 1) := by decide +kernel
theorem dL_law_221 : decode cL_law 221 = .ok (.ireturn, 1) := by decide +kernel
theorem dL_law_222 : decode cL_law 222 = .ok (.aload_n 1, 1) := by decide +kernel
theorem dL_law_223 : decode cL_law 223 = .ok (.aload_n 0, 1) := by decide +kernel
theorem dL_law_224 : decode cL_law 224 = .ok (.iload_n 3, 1) := by decide +kernel
theorem dL_law_225 : decode cL_law 225 = .ok (.iconst 1, 1) := by decide +kernel
theorem dL_law_226 : decode cL_law 226 = .ok (.iadd, 1) := by decide +kernel
theorem dL_law_227 : decode cL_law 227 = .ok (.iaload, 1) := by decide +kernel
theorem dL_law_228 : decode cL_law 228 = .ok (.invokevirtual 25, 3) := by decide +kernel
theorem dL_law_231 : decode cL_law 231 = .ok (.aload_n 2, 1) := by decide +kernel
theorem dL_law_232 : decode cL_law 232 = .ok (.aload_n 0, 1) := by decide +kernel
theorem dL_law_233 : decode cL_law 233 = .ok (.iload_n 3, 1) := by decide +kernel
theorem dL_law_234 : decode cL_law 234 = .ok (.iconst 1, 1) := by decide +kernel
theorem dL_law_235 : decode cL_law 235 = .ok (.iadd, 1) := by decide +kernel
theorem dL_law_236 : decode cL_law 236 = .ok (.iaload, 1) := by decide +kernel
theorem dL_law_237 : decode cL_law 237 = .ok (.invokevirtual 29, 3) := by decide +kernel
theorem dL_law_240 : decode cL_law 240 = .ok (.if_icmp .eq 417, 3) := by decide +kernel
theorem dL_law_243 : decode cL_law 243 = .ok (.iconst 0, 1) := by decide +kernel
theorem dL_law_244 : decode cL_law 244 = .ok (.ireturn, 1) := by decide +kernel
theorem dL_law_245 : decode cL_law 245 = .ok (.aload_n 1, 1) := by decide +kernel
theorem dL_law_246 : decode cL_law 246 = .ok (.aload_n 0, 1) := by decide +kernel
theorem dL_law_247 : decode cL_law 247 = .ok (.iload_n 3, 1) := by decide +kernel
theorem dL_law_248 : decode cL_law 248 = .ok (.iconst 1, 1) := by decide +kernel
theorem dL_law_249 : decode cL_law 249 = .ok (.iadd, 1) := by decide +kernel
theorem dL_law_250 : decode cL_law 250 = .ok (.iaload, 1) := by decide +kernel
theorem dL_law_251 : decode cL_law 251 = .ok (.aload_n 0, 1) := by decide +kernel
theorem dL_law_252 : decode cL_law 252 = .ok (.iload_n 3, 1) := by decide +kernel
theorem dL_law_253 : decode cL_law 253 = .ok (.iconst 2, 1) := by decide +kernel
theorem dL_law_254 : decode cL_law 254 = .ok (.iadd, 1) := by decide +kernel
theorem dL_law_255 : decode cL_law 255 = .ok (.iaload, 1) := by decide +kernel
theorem dL_law_256 : decode cL_law 256 = .ok (.aload_n 0, 1) := by decide +kernel
theorem dL_law_257 : decode cL_law 257 = .ok (.iload_n 3, 1) := by decide +kernel
theorem dL_law_258 : decode cL_law 258 = .ok (.iconst 3, 1) := by decide +kernel
theorem dL_law_259 : decode cL_law 259 = .ok (.iadd, 1) := by decide +kernel
theorem dL_law_260 : decode cL_law 260 = .ok (.iaload, 1) := by decide +kernel
theorem dL_law_261 : decode cL_law 261 = .ok (.aload_n 0, 1) := by decide +kernel
theorem dL_law_262 : decode cL_law 262 = .ok (.iload_n 3, 1) := by decide +kernel
theorem dL_law_263 : decode cL_law 263 = .ok (.iconst 4, 1) := by decide +kernel
theorem dL_law_264 : decode cL_law 264 = .ok (.iadd, 1) := by decide +kernel
theorem dL_law_265 : decode cL_law 265 = .ok (.iaload, 1) := by decide +kernel
theorem dL_law_266 : decode cL_law 266 = .ok (.invokevirtual 30, 3) := by decide +kernel
theorem dL_law_269 : decode cL_law 269 = .ok (.aload_n 2, 1) := by decide +kernel
theorem dL_law_270 : decode cL_law 270 = .ok (.aload_n 0, 1) := by decide +kernel
theorem dL_law_271 : decode cL_law 271 = .ok (.iload_n 3, 1) := by decide +kernel
theorem dL_law_272 : decode cL_law 272 = .ok (.iconst 1, 1) := by decide +kernel
theorem dL_law_273 : decode cL_law 273 = .ok (.iadd, 1) := by decide +kernel
theorem dL_law_274 : decode cL_law 274 = .ok (.iaload, 1) := by decide +kernel
theorem dL_law_275 : decode cL_law 275 = .ok (.aload_n 0, 1) := by decide +kernel
theorem dL_law_276 : decode cL_law 276 = .ok (.iload_n 3, 1) := by decide +kernel
theorem dL_law_277 : decode cL_law 277 = .ok (.iconst 2, 1) := by decide +kernel
theorem dL_law_278 : decode cL_law 278 = .ok (.iadd, 1) := by decide +kernel
theorem dL_law_279 : decode cL_law 279 = .ok (.iaload, 1) := by decide +kernel
theorem dL_law_280 : decode cL_law 280 = .ok (.aload_n 0, 1) := by decide +kernel
theorem dL_law_281 : decode cL_law 281 = .ok (.iload_n 3, 1) := by decide +kernel
theorem dL_law_282 : decode cL_law 282 = .ok (.iconst 3, 1) := by decide +kernel
theorem dL_law_283 : decode cL_law 283 = .ok (.iadd, 1) := by decide +kernel
theorem dL_law_284 : decode cL_law 284 = .ok (.iaload, 1) := by decide +kernel
theorem dL_law_285 : decode cL_law 285 = .ok (.aload_n 0, 1) := by decide +kernel
theorem dL_law_286 : decode cL_law 286 = .ok (.iload_n 3, 1) := by decide +kernel
theorem dL_law_287 : decode cL_law 287 = .ok (.iconst 4, 1) := by decide +kernel
theorem dL_law_288 : decode cL_law 288 = .ok (.iadd, 1) := by decide +kernel
theorem dL_law_289 : decode cL_law 289 = .ok (.iaload, 1) := by decide +kernel
theorem dL_law_290 : decode cL_law 290 = .ok (.invokevirtual 34, 3) := by decide +kernel
theorem dL_law_293 : decode cL_law 293 = .ok (.if_icmp .eq 364, 3) := by decide +kernel
theorem dL_law_296 : decode cL_law 296 = .ok (.iconst 0, 1) := by decide +kernel
theorem dL_law_297 : decode cL_law 297 = .ok (.ireturn, 1) := by decide +kernel
theorem dL_law_298 : decode cL_law 298 = .ok (.aload_n 1, 1) := by decide +kernel
theorem dL_law_299 : decode cL_law 299 = .ok (.aload_n 0, 1) := by decide +kernel
theorem dL_law_300 : decode cL_law 300 = .ok (.iload_n 3, 1) := by decide +kernel
theorem dL_law_301 : decode cL_law 301 = .ok (.iconst 1, 1) := by decide +kernel
theorem dL_law_302 : decode cL_law 302 = .ok (.iadd, 1) := by decide +kernel
theorem dL_law_303 : decode cL_law 303 = .ok (.iaload, 1) := by decide +kernel
theorem dL_law_304 : decode cL_law 304 = .ok (.aload_n 0, 1) := by decide +kernel
theorem dL_law_305 : decode cL_law 305 = .ok (.iload_n 3, 1) := by decide +kernel
theorem dL_law_306 : decode cL_law 306 = .ok (.iconst 2, 1) := by decide +kernel
theorem dL_law_307 : decode cL_law 307 = .ok (.iadd, 1) := by decide +kernel
theorem dL_law_308 : decode cL_law 308 = .ok (.iaload, 1) := by decide +kernel
theorem dL_law_309 : decode cL_law 309 = .ok (.invokevirtual 35, 3) := by decide +kernel
theorem dL_law_312 : decode cL_law 312 = .ok (.aload_n 2, 1) := by decide +kernel
theorem dL_law_313 : decode cL_law 313 = .ok (.aload_n 0, 1) := by decide +kernel
theorem dL_law_314 : decode cL_law 314 = .ok (.iload_n 3, 1) := by decide +kernel
theorem dL_law_315 : decode cL_law 315 = .ok (.iconst 1, 1) := by decide +kernel
theorem dL_law_316 : decode cL_law 316 = .ok (.iadd, 1) := by decide +kernel
theorem dL_law_317 : decode cL_law 317 = .ok (.iaload, 1) := by decide +kernel
theorem dL_law_318 : decode cL_law 318 = .ok (.aload_n 0, 1) := by decide +kernel
theorem dL_law_319 : decode cL_law 319 = .ok (.iload_n 3, 1) := by decide +kernel
theorem dL_law_320 : decode cL_law 320 = .ok (.iconst 2, 1) := by decide +kernel
theorem dL_law_321 : decode cL_law 321 = .ok (.iadd, 1) := by decide +kernel
theorem dL_law_322 : decode cL_law 322 = .ok (.iaload, 1) := by decide +kernel
theorem dL_law_323 : decode cL_law 323 = .ok (.invokevirtual 39, 3) := by decide +kernel
theorem dL_law_326 : decode cL_law 326 = .ok (.if_icmp .eq 331, 3) := by decide +kernel
theorem dL_law_329 : decode cL_law 329 = .ok (.iconst 0, 1) := by decide +kernel
theorem dL_law_330 : decode cL_law 330 = .ok (.ireturn, 1) := by decide +kernel
theorem dL_law_331 : decode cL_law 331 = .ok (.aload_n 1, 1) := by decide +kernel
theorem dL_law_332 : decode cL_law 332 = .ok (.aload_n 0, 1) := by decide +kernel
theorem dL_law_333 : decode cL_law 333 = .ok (.iload_n 3, 1) := by decide +kernel
theorem dL_law_334 : decode cL_law 334 = .ok (.iconst 1, 1) := by decide +kernel
theorem dL_law_335 : decode cL_law 335 = .ok (.iadd, 1) := by decide +kernel
theorem dL_law_336 : decode cL_law 336 = .ok (.iaload, 1) := by decide +kernel
theorem dL_law_337 : decode cL_law 337 = .ok (.aload_n 0, 1) := by decide +kernel
theorem dL_law_338 : decode cL_law 338 = .ok (.iload_n 3, 1) := by decide +kernel
theorem dL_law_339 : decode cL_law 339 = .ok (.iconst 2, 1) := by decide +kernel
theorem dL_law_340 : decode cL_law 340 = .ok (.iadd, 1) := by decide +kernel
theorem dL_law_341 : decode cL_law 341 = .ok (.iaload, 1) := by decide +kernel
theorem dL_law_342 : decode cL_law 342 = .ok (.invokevirtual 40, 3) := by decide +kernel
theorem dL_law_345 : decode cL_law 345 = .ok (.aload_n 2, 1) := by decide +kernel
theorem dL_law_346 : decode cL_law 346 = .ok (.aload_n 0, 1) := by decide +kernel
theorem dL_law_347 : decode cL_law 347 = .ok (.iload_n 3, 1) := by decide +kernel
theorem dL_law_348 : decode cL_law 348 = .ok (.iconst 1, 1) := by decide +kernel
theorem dL_law_349 : decode cL_law 349 = .ok (.iadd, 1) := by decide +kernel
theorem dL_law_350 : decode cL_law 350 = .ok (.iaload, 1) := by decide +kernel
theorem dL_law_351 : decode cL_law 351 = .ok (.aload_n 0, 1) := by decide +kernel
theorem dL_law_352 : decode cL_law 352 = .ok (.iload_n 3, 1) := by decide +kernel
theorem dL_law_353 : decode cL_law 353 = .ok (.iconst 2, 1) := by decide +kernel
theorem dL_law_354 : decode cL_law 354 = .ok (.iadd, 1) := by decide +kernel
theorem dL_law_355 : decode cL_law 355 = .ok (.iaload, 1) := by decide +kernel
theorem dL_law_356 : decode cL_law 356 = .ok (.invokevirtual 44, 3) := by decide +kernel
theorem dL_law_359 : decode cL_law 359 = .ok (.if_icmp .eq 298, 3) := by decide +kernel
theorem dL_law_362 : decode cL_law 362 = .ok (.iconst 0, 1) := by decide +kernel
theorem dL_law_363 : decode cL_law 363 = .ok (.ireturn, 1) := by decide +kernel
theorem dL_law_364 : decode cL_law 364 = .ok (.aload_n 1, 1) := by decide +kernel
theorem dL_law_365 : decode cL_law 365 = .ok (.aload_n 0, 1) := by decide +kernel
theorem dL_law_366 : decode cL_law 366 = .ok (.iload_n 3, 1) := by decide +kernel
theorem dL_law_367 : decode cL_law 367 = .ok (.iconst 1, 1) := by decide +kernel
theorem dL_law_368 : decode cL_law 368 = .ok (.iadd, 1) := by decide +kernel
theorem dL_law_369 : decode cL_law 369 = .ok (.iaload, 1) := by decide +kernel
theorem dL_law_370 : decode cL_law 370 = .ok (.invokevirtual 45, 3) := by decide +kernel
theorem dL_law_373 : decode cL_law 373 = .ok (.aload_n 2, 1) := by decide +kernel
theorem dL_law_374 : decode cL_law 374 = .ok (.aload_n 0, 1) := by decide +kernel
theorem dL_law_375 : decode cL_law 375 = .ok (.iload_n 3, 1) := by decide +kernel
theorem dL_law_376 : decode cL_law 376 = .ok (.iconst 1, 1) := by decide +kernel
theorem dL_law_377 : decode cL_law 377 = .ok (.iadd, 1) := by decide +kernel
theorem dL_law_378 : decode cL_law 378 = .ok (.iaload, 1) := by decide +kernel
theorem dL_law_379 : decode cL_law 379 = .ok (.invokevirtual 48, 3) := by decide +kernel
theorem dL_law_382 : decode cL_law 382 = .ok (.if_icmp .eq 275, 3) := by decide +kernel
theorem dL_law_385 : decode cL_law 385 = .ok (.iconst 0, 1) := by decide +kernel
theorem dL_law_386 : decode cL_law 386 = .ok (.ireturn, 1) := by decide +kernel
theorem dL_law_387 : decode cL_law 387 = .ok (.aload_n 1, 1) := by decide +kernel
theorem dL_law_388 : decode cL_law 388 = .ok (.aload_n 0, 1) := by decide +kernel
theorem dL_law_389 : decode cL_law 389 = .ok (.iload_n 3, 1) := by decide +kernel
theorem dL_law_390 : decode cL_law 390 = .ok (.iconst 1, 1) := by decide +kernel
theorem dL_law_391 : decode cL_law 391 = .ok (.iadd, 1) := by decide +kernel
theorem dL_law_392 : decode cL_law 392 = .ok (.iaload, 1) := by decide +kernel
theorem dL_law_393 : decode cL_law 393 = .ok (.invokevirtual 49, 3) := by decide +kernel
theorem dL_law_396 : decode cL_law 396 = .ok (.aload_n 2, 1) := by decide +kernel
theorem dL_law_397 : decode cL_law 397 = .ok (.aload_n 0, 1) := by decide +kernel
theorem dL_law_398 : decode cL_law 398 = .ok (.iload_n 3, 1) := by decide +kernel
theorem dL_law_399 : decode cL_law 399 = .ok (.iconst 1, 1) := by decide +kernel
theorem dL_law_400 : decode cL_law 400 = .ok (.iadd, 1) := by decide +kernel
theorem dL_law_401 : decode cL_law 401 = .ok (.iaload, 1) := by decide +kernel
theorem dL_law_402 : decode cL_law 402 = .ok (.invokevirtual 52, 3) := by decide +kernel
theorem dL_law_405 : decode cL_law 405 = .ok (.if_icmp .eq 252, 3) := by decide +kernel
theorem dL_law_408 : decode cL_law 408 = .ok (.iconst 0, 1) := by decide +kernel
theorem dL_law_409 : decode cL_law 409 = .ok (.ireturn, 1) := by decide +kernel
theorem dL_law_410 : decode cL_law 410 = .ok (.aload_n 1, 1) := by decide +kernel
theorem dL_law_411 : decode cL_law 411 = .ok (.aload_n 0, 1) := by decide +kernel
theorem dL_law_412 : decode cL_law 412 = .ok (.iload_n 3, 1) := by decide +kernel
theorem dL_law_413 : decode cL_law 413 = .ok (.iconst 1, 1) := by decide +kernel
theorem dL_law_414 : decode cL_law 414 = .ok (.iadd, 1) := by decide +kernel
theorem dL_law_415 : decode cL_law 415 = .ok (.iaload, 1) := by decide +kernel
theorem dL_law_416 : decode cL_law 416 = .ok (.aload_n 0, 1) := by decide +kernel
theorem dL_law_417 : decode cL_law 417 = .ok (.iload_n 3, 1) := by decide +kernel
theorem dL_law_418 : decode cL_law 418 = .ok (.iconst 2, 1) := by decide +kernel
theorem dL_law_419 : decode cL_law 419 = .ok (.iadd, 1) := by decide +kernel
theorem dL_law_420 : decode cL_law 420 = .ok (.iaload, 1) := by decide +kernel
theorem dL_law_421 : decode cL_law 421 = .ok (.invokevirtual 53, 3) := by decide +kernel
theorem dL_law_424 : decode cL_law 424 = .ok (.aload_n 2, 1) := by decide +kernel
theorem dL_law_425 : decode cL_law 425 = .ok (.aload_n 0, 1) := by decide +kernel
theorem dL_law_426 : decode cL_law 426 = .ok (.iload_n 3, 1) := by decide +kernel
theorem dL_law_427 : decode cL_law 427 = .ok (.iconst 1, 1) := by decide +kernel
theorem dL_law_428 : decode cL_law 428 = .ok (.iadd, 1) := by decide +kernel
theorem dL_law_429 : decode cL_law 429 = .ok (.iaload, 1) := by decide +kernel
theorem dL_law_430 : decode cL_law 430 = .ok (.aload_n 0, 1) := by decide +kernel
theorem dL_law_431 : decode cL_law 431 = .ok (.iload_n 3, 1) := by decide +kernel
theorem dL_law_432 : decode cL_law 432 = .ok (.iconst 2, 1) := by decide +kernel
theorem dL_law_433 : decode cL_law 433 = .ok (.iadd, 1) := by decide +kernel
theorem dL_law_434 : decode cL_law 434 = .ok (.iaload, 1) := by decide +kernel
theorem dL_law_435 : decode cL_law 435 = .ok (.invokevirtual 56, 3) := by decide +kernel
theorem dL_law_438 : decode cL_law 438 = .ok (.if_icmp .eq 219, 3) := by decide +kernel
theorem dL_law_441 : decode cL_law 441 = .ok (.iconst 0, 1) := by decide +kernel
theorem dL_law_442 : decode cL_law 442 = .ok (.ireturn, 1) := by decide +kernel
theorem dL_law_443 : decode cL_law 443 = .ok (.aload_n 1, 1) := by decide +kernel
theorem dL_law_444 : decode cL_law 444 = .ok (.aload_n 0, 1) := by decide +kernel
theorem dL_law_445 : decode cL_law 445 = .ok (.iload_n 3, 1) := by decide +kernel
theorem dL_law_446 : decode cL_law 446 = .ok (.iconst 1, 1) := by decide +kernel
theorem dL_law_447 : decode cL_law 447 = .ok (.iadd, 1) := by decide +kernel
theorem dL_law_448 : decode cL_law 448 = .ok (.iaload, 1) := by decide +kernel
theorem dL_law_449 : decode cL_law 449 = .ok (.aload_n 0, 1) := by decide +kernel
theorem dL_law_450 : decode cL_law 450 = .ok (.iload_n 3, 1) := by decide +kernel
theorem dL_law_451 : decode cL_law 451 = .ok (.iconst 2, 1) := by decide +kernel
theorem dL_law_452 : decode cL_law 452 = .ok (.iadd, 1) := by decide +kernel
theorem dL_law_453 : decode cL_law 453 = .ok (.iaload, 1) := by decide +kernel
theorem dL_law_454 : decode cL_law 454 = .ok (.invokevirtual 57, 3) := by decide +kernel
theorem dL_law_457 : decode cL_law 457 = .ok (.aload_n 2, 1) := by decide +kernel
theorem dL_law_458 : decode cL_law 458 = .ok (.aload_n 0, 1) := by decide +kernel
theorem dL_law_459 : decode cL_law 459 = .ok (.iload_n 3, 1) := by decide +kernel
theorem dL_law_460 : decode cL_law 460 = .ok (.iconst 1, 1) := by decide +kernel
theorem dL_law_461 : decode cL_law 461 = .ok (.iadd, 1) := by decide +kernel
theorem dL_law_462 : decode cL_law 462 = .ok (.iaload, 1) := by decide +kernel
theorem dL_law_463 : decode cL_law 463 = .ok (.aload_n 0, 1) := by decide +kernel
theorem dL_law_464 : decode cL_law 464 = .ok (.iload_n 3, 1) := by decide +kernel
theorem dL_law_465 : decode cL_law 465 = .ok (.iconst 2, 1) := by decide +kernel
theorem dL_law_466 : decode cL_law 466 = .ok (.iadd, 1) := by decide +kernel
theorem dL_law_467 : decode cL_law 467 = .ok (.iaload, 1) := by decide +kernel
theorem dL_law_468 : decode cL_law 468 = .ok (.invokevirtual 60, 3) := by decide +kernel
theorem dL_law_471 : decode cL_law 471 = .ok (.if_icmp .eq 186, 3) := by decide +kernel
theorem dL_law_474 : decode cL_law 474 = .ok (.iconst 0, 1) := by decide +kernel
theorem dL_law_475 : decode cL_law 475 = .ok (.ireturn, 1) := by decide +kernel
theorem dL_law_476 : decode cL_law 476 = .ok (.aload_n 1, 1) := by decide +kernel
theorem dL_law_477 : decode cL_law 477 = .ok (.aload_n 0, 1) := by decide +kernel
theorem dL_law_478 : decode cL_law 478 = .ok (.iload_n 3, 1) := by decide +kernel
theorem dL_law_479 : decode cL_law 479 = .ok (.iconst 1, 1) := by decide +kernel
theorem dL_law_480 : decode cL_law 480 = .ok (.iadd, 1) := by decide +kernel
theorem dL_law_481 : decode cL_law 481 = .ok (.iaload, 1) := by decide +kernel
theorem dL_law_482 : decode cL_law 482 = .ok (.invokevirtual 61, 3) := by decide +kernel
theorem dL_law_485 : decode cL_law 485 = .ok (.aload_n 2, 1) := by decide +kernel
theorem dL_law_486 : decode cL_law 486 = .ok (.aload_n 0, 1) := by decide +kernel
theorem dL_law_487 : decode cL_law 487 = .ok (.iload_n 3, 1) := by decide +kernel
theorem dL_law_488 : decode cL_law 488 = .ok (.iconst 1, 1) := by decide +kernel
theorem dL_law_489 : decode cL_law 489 = .ok (.iadd, 1) := by decide +kernel
theorem dL_law_490 : decode cL_law 490 = .ok (.iaload, 1) := by decide +kernel
theorem dL_law_491 : decode cL_law 491 = .ok (.invokevirtual 64, 3) := by decide +kernel
theorem dL_law_494 : decode cL_law 494 = .ok (.if_icmp .eq 163, 3) := by decide +kernel
theorem dL_law_497 : decode cL_law 497 = .ok (.iconst 0, 1) := by decide +kernel
theorem dL_law_498 : decode cL_law 498 = .ok (.ireturn, 1) := by decide +kernel
theorem dL_law_499 : decode cL_law 499 = .ok (.aload_n 1, 1) := by decide +kernel
theorem dL_law_500 : decode cL_law 500 = .ok (.aload_n 0, 1) := by decide +kernel
theorem dL_law_501 : decode cL_law 501 = .ok (.iload_n 3, 1) := by decide +kernel
theorem dL_law_502 : decode cL_law 502 = .ok (.iconst 1, 1) := by decide +kernel
theorem dL_law_503 : decode cL_law 503 = .ok (.iadd, 1) := by decide +kernel
theorem dL_law_504 : decode cL_law 504 = .ok (.iaload, 1) := by decide +kernel
theorem dL_law_505 : decode cL_law 505 = .ok (.invokevirtual 65, 3) := by decide +kernel
theorem dL_law_508 : decode cL_law 508 = .ok (.aload_n 2, 1) := by decide +kernel
theorem dL_law_509 : decode cL_law 509 = .ok (.aload_n 0, 1) := by decide +kernel
theorem dL_law_510 : decode cL_law 510 = .ok (.iload_n 3, 1) := by decide +kernel
theorem dL_law_511 : decode cL_law 511 = .ok (.iconst 1, 1) := by decide +kernel
theorem dL_law_512 : decode cL_law 512 = .ok (.iadd, 1) := by decide +kernel
theorem dL_law_513 : decode cL_law 513 = .ok (.iaload, 1) := by decide +kernel
theorem dL_law_514 : decode cL_law 514 = .ok (.invokevirtual 68, 3) := by decide +kernel
theorem dL_law_517 : decode cL_law 517 = .ok (.if_icmp .eq 140, 3) := by decide +kernel
theorem dL_law_520 : decode cL_law 520 = .ok (.iconst 0, 1) := by decide +kernel
theorem dL_law_521 : decode cL_law 521 = .ok (.ireturn, 1) := by decide +kernel
theorem dL_law_522 : decode cL_law 522 = .ok (.aload_n 1, 1) := by decide +kernel
theorem dL_law_523 : decode cL_law 523 = .ok (.aload_n 0, 1) := by decide +kernel
theorem dL_law_524 : decode cL_law 524 = .ok (.iload_n 3, 1) := by decide +kernel
theorem dL_law_525 : decode cL_law 525 = .ok (.iconst 1, 1) := by decide +kernel
theorem dL_law_526 : decode cL_law 526 = .ok (.iadd, 1) := by decide +kernel
theorem dL_law_527 : decode cL_law 527 = .ok (.iaload, 1) := by decide +kernel
theorem dL_law_528 : decode cL_law 528 = .ok (.aload_n 0, 1) := by decide +kernel
theorem dL_law_529 : decode cL_law 529 = .ok (.iload_n 3, 1) := by decide +kernel
theorem dL_law_530 : decode cL_law 530 = .ok (.iconst 2, 1) := by decide +kernel
theorem dL_law_531 : decode cL_law 531 = .ok (.iadd, 1) := by decide +kernel
theorem dL_law_532 : decode cL_law 532 = .ok (.iaload, 1) := by decide +kernel
theorem dL_law_533 : decode cL_law 533 = .ok (.invokevirtual 69, 3) := by decide +kernel
theorem dL_law_536 : decode cL_law 536 = .ok (.aload_n 2, 1) := by decide +kernel
theorem dL_law_537 : decode cL_law 537 = .ok (.aload_n 0, 1) := by decide +kernel
theorem dL_law_538 : decode cL_law 538 = .ok (.iload_n 3, 1) := by decide +kernel
theorem dL_law_539 : decode cL_law 539 = .ok (.iconst 1, 1) := by decide +kernel
theorem dL_law_540 : decode cL_law 540 = .ok (.iadd, 1) := by decide +kernel
theorem dL_law_541 : decode cL_law 541 = .ok (.iaload, 1) := by decide +kernel
theorem dL_law_542 : decode cL_law 542 = .ok (.aload_n 0, 1) := by decide +kernel
theorem dL_law_543 : decode cL_law 543 = .ok (.iload_n 3, 1) := by decide +kernel
theorem dL_law_544 : decode cL_law 544 = .ok (.iconst 2, 1) := by decide +kernel
theorem dL_law_545 : decode cL_law 545 = .ok (.iadd, 1) := by decide +kernel
theorem dL_law_546 : decode cL_law 546 = .ok (.iaload, 1) := by decide +kernel
theorem dL_law_547 : decode cL_law 547 = .ok (.invokevirtual 72, 3) := by decide +kernel
theorem dL_law_550 : decode cL_law 550 = .ok (.if_icmp .eq 107, 3) := by decide +kernel
theorem dL_law_553 : decode cL_law 553 = .ok (.iconst 0, 1) := by decide +kernel
theorem dL_law_554 : decode cL_law 554 = .ok (.ireturn, 1) := by decide +kernel
theorem dL_law_555 : decode cL_law 555 = .ok (.aload_n 1, 1) := by decide +kernel
theorem dL_law_556 : decode cL_law 556 = .ok (.aload_n 0, 1) := by decide +kernel
theorem dL_law_557 : decode cL_law 557 = .ok (.iload_n 3, 1) := by decide +kernel
theorem dL_law_558 : decode cL_law 558 = .ok (.iconst 1, 1) := by decide +kernel
theorem dL_law_559 : decode cL_law 559 = .ok (.iadd, 1) := by decide +kernel
theorem dL_law_560 : decode cL_law 560 = .ok (.iaload, 1) := by decide +kernel
theorem dL_law_561 : decode cL_law 561 = .ok (.aload_n 0, 1) := by decide +kernel
theorem dL_law_562 : decode cL_law 562 = .ok (.iload_n 3, 1) := by decide +kernel
theorem dL_law_563 : decode cL_law 563 = .ok (.iconst 2, 1) := by decide +kernel
theorem dL_law_564 : decode cL_law 564 = .ok (.iadd, 1) := by decide +kernel
theorem dL_law_565 : decode cL_law 565 = .ok (.iaload, 1) := by decide +kernel
theorem dL_law_566 : decode cL_law 566 = .ok (.invokevirtual 73, 3) := by decide +kernel
theorem dL_law_569 : decode cL_law 569 = .ok (.aload_n 2, 1) := by decide +kernel
theorem dL_law_570 : decode cL_law 570 = .ok (.aload_n 0, 1) := by decide +kernel
theorem dL_law_571 : decode cL_law 571 = .ok (.iload_n 3, 1) := by decide +kernel
theorem dL_law_572 : decode cL_law 572 = .ok (.iconst 1, 1) := by decide +kernel
theorem dL_law_573 : decode cL_law 573 = .ok (.iadd, 1) := by decide +kernel
theorem dL_law_574 : decode cL_law 574 = .ok (.iaload, 1) := by decide +kernel
theorem dL_law_575 : decode cL_law 575 = .ok (.aload_n 0, 1) := by decide +kernel
theorem dL_law_576 : decode cL_law 576 = .ok (.iload_n 3, 1) := by decide +kernel
theorem dL_law_577 : decode cL_law 577 = .ok (.iconst 2, 1) := by decide +kernel
theorem dL_law_578 : decode cL_law 578 = .ok (.iadd, 1) := by decide +kernel
theorem dL_law_579 : decode cL_law 579 = .ok (.iaload, 1) := by decide +kernel
theorem dL_law_580 : decode cL_law 580 = .ok (.invokevirtual 76, 3) := by decide +kernel
theorem dL_law_583 : decode cL_law 583 = .ok (.if_icmp .eq 74, 3) := by decide +kernel
theorem dL_law_586 : decode cL_law 586 = .ok (.iconst 0, 1) := by decide +kernel
theorem dL_law_587 : decode cL_law 587 = .ok (.ireturn, 1) := by decide +kernel
theorem dL_law_588 : decode cL_law 588 = .ok (.aload_n 1, 1) := by decide +kernel
theorem dL_law_589 : decode cL_law 589 = .ok (.invokevirtual 77, 3) := by decide +kernel
theorem dL_law_592 : decode cL_law 592 = .ok (.aload_n 2, 1) := by decide +kernel
theorem dL_law_593 : decode cL_law 593 = .ok (.invokevirtual 81, 3) := by decide +kernel
theorem dL_law_596 : decode cL_law 596 = .ok (.if_icmp .eq 61, 3) := by decide +kernel
theorem dL_law_599 : decode cL_law 599 = .ok (.iconst 0, 1) := by decide +kernel
theorem dL_law_600 : decode cL_law 600 = .ok (.ireturn, 1) := by decide +kernel
theorem dL_law_601 : decode cL_law 601 = .ok (.aload_n 1, 1) := by decide +kernel
theorem dL_law_602 : decode cL_law 602 = .ok (.aload_n 0, 1) := by decide +kernel
theorem dL_law_603 : decode cL_law 603 = .ok (.iload_n 3, 1) := by decide +kernel
theorem dL_law_604 : decode cL_law 604 = .ok (.iconst 1, 1) := by decide +kernel
theorem dL_law_605 : decode cL_law 605 = .ok (.iadd, 1) := by decide +kernel
theorem dL_law_606 : decode cL_law 606 = .ok (.iaload, 1) := by decide +kernel
theorem dL_law_607 : decode cL_law 607 = .ok (.aload_n 0, 1) := by decide +kernel
theorem dL_law_608 : decode cL_law 608 = .ok (.iload_n 3, 1) := by decide +kernel
theorem dL_law_609 : decode cL_law 609 = .ok (.iconst 2, 1) := by decide +kernel
theorem dL_law_610 : decode cL_law 610 = .ok (.iadd, 1) := by decide +kernel
theorem dL_law_611 : decode cL_law 611 = .ok (.iaload, 1) := by decide +kernel
theorem dL_law_612 : decode cL_law 612 = .ok (.invokevirtual 82, 3) := by decide +kernel
theorem dL_law_615 : decode cL_law 615 = .ok (.aload_n 2, 1) := by decide +kernel
theorem dL_law_616 : decode cL_law 616 = .ok (.aload_n 0, 1) := by decide +kernel
theorem dL_law_617 : decode cL_law 617 = .ok (.iload_n 3, 1) := by decide +kernel
theorem dL_law_618 : decode cL_law 618 = .ok (.iconst 1, 1) := by decide +kernel
theorem dL_law_619 : decode cL_law 619 = .ok (.iadd, 1) := by decide +kernel
theorem dL_law_620 : decode cL_law 620 = .ok (.iaload, 1) := by decide +kernel
theorem dL_law_621 : decode cL_law 621 = .ok (.aload_n 0, 1) := by decide +kernel
theorem dL_law_622 : decode cL_law 622 = .ok (.iload_n 3, 1) := by decide +kernel
theorem dL_law_623 : decode cL_law 623 = .ok (.iconst 2, 1) := by decide +kernel
theorem dL_law_624 : decode cL_law 624 = .ok (.iadd, 1) := by decide +kernel
theorem dL_law_625 : decode cL_law 625 = .ok (.iaload, 1) := by decide +kernel
theorem dL_law_626 : decode cL_law 626 = .ok (.invokevirtual 85, 3) := by decide +kernel
theorem dL_law_629 : decode cL_law 629 = .ok (.if_icmp .eq 28, 3) := by decide +kernel
theorem dL_law_632 : decode cL_law 632 = .ok (.iconst 0, 1) := by decide +kernel
theorem dL_law_633 : decode cL_law 633 = .ok (.ireturn, 1) := by decide +kernel
theorem dL_law_634 : decode cL_law 634 = .ok (.aload_n 1, 1) := by decide +kernel
theorem dL_law_635 : decode cL_law 635 = .ok (.aload_n 0, 1) := by decide +kernel
theorem dL_law_636 : decode cL_law 636 = .ok (.iload_n 3, 1) := by decide +kernel
theorem dL_law_637 : decode cL_law 637 = .ok (.iconst 1, 1) := by decide +kernel
theorem dL_law_638 : decode cL_law 638 = .ok (.iadd, 1) := by decide +kernel
theorem dL_law_639 : decode cL_law 639 = .ok (.iaload, 1) := by decide +kernel
theorem dL_law_640 : decode cL_law 640 = .ok (.invokevirtual 86, 3) := by decide +kernel
theorem dL_law_643 : decode cL_law 643 = .ok (.aload_n 2, 1) := by decide +kernel
theorem dL_law_644 : decode cL_law 644 = .ok (.aload_n 0, 1) := by decide +kernel
theorem dL_law_645 : decode cL_law 645 = .ok (.iload_n 3, 1) := by decide +kernel
theorem dL_law_646 : decode cL_law 646 = .ok (.iconst 1, 1) := by decide +kernel
theorem dL_law_647 : decode cL_law 647 = .ok (.iadd, 1) := by decide +kernel
theorem dL_law_648 : decode cL_law 648 = .ok (.iaload, 1) := by decide +kernel
theorem dL_law_649 : decode cL_law 649 = .ok (.invokevirtual 89, 3) := by decide +kernel
theorem dL_law_652 : decode cL_law 652 = .ok (.if_icmp .eq 5, 3) := by decide +kernel
theorem dL_law_655 : decode cL_law 655 = .ok (.iconst 0, 1) := by decide +kernel
theorem dL_law_656 : decode cL_law 656 = .ok (.ireturn, 1) := by decide +kernel
theorem dL_law_657 : decode cL_law 657 = .ok (.iinc 3 6, 3) := by decide +kernel
theorem dL_law_660 : decode cL_law 660 = .ok (.goto (-642), 3) := by decide +kernel
theorem dL_law_663 : decode cL_law 663 = .ok (.iconst 1, 1) := by decide +kernel
theorem dL_law_664 : decode cL_law 664 = .ok (.ireturn, 1) := by decide +kernel
end
section
/-! the combinators of the pure programs: every step that can fail, or names a value, is one of these -/
def qn {β : Type} (x : Int32) (k : Int32 → Option β) : Option β := k x
def qf {β : Type} (F : Nat → Int32) (n : Nat) (v : Int32) (k : (Nat → Int32) → Option β) : Option β := k (upd F n v)
def qG (G : Nat → Nat → Int32) (n j : Nat) (v : Int32) : Nat → Nat → Int32 := fun i => if i = n then upd (G n) j v else G i
def ql {β : Type} (f : Nat → Int32) (N : Nat) (i : Int32) (k : Int32 → Option β) : Option β := if i < 0 ∨ N ≤ i.toNatClampNeg then none else k (f i.toNatClampNeg)
def qs {β : Type} (G : Nat → Nat → Int32) (n N : Nat) (i v : Int32) (k : (Nat → Nat → Int32) → Option β) : Option β := if i < 0 ∨ N ≤ i.toNatClampNeg then none else k (qG G n i.toNatClampNeg v)
/-- a store into an array of booleans -/
def qz {β : Type} (G : Nat → Nat → Int32) (n N : Nat) (i v : Int32) (k : (Nat → Nat → Int32) → Option β) : Option β := if i < 0 ∨ N ≤ i.toNatClampNeg then none else if v = 0 ∨ v = 1 then k (qG G n i.toNatClampNeg v) else none
def qc {α β : Type} (x : Option α) (k : α → Option β) : Option β := match x with
  | none => none
  | some a => k a
/-- a divisor that must not be 0 -/
def qd {β : Type} (y : Int32) (k : Option β) : Option β := if y = 0 then none else k
/-- an answer of a boolean method -/
def qb (x : Int32) : Option Int32 := if x = 0 ∨ x = 1 then some x else none
abbrev qS : Type := (Nat → Int32) × (Nat → Nat → Int32)
theorem q_some {α β : Type} {x : Option α} {k : α → Option β} {r : β} (h : qc x k = some r) : ∃ a, x = some a ∧ k a = some r := by
  cases x with
  | none => cases h
  | some a => exact ⟨a, rfl, h⟩
theorem q_inl {β : Type} {f : Nat → Int32} {N : Nat} {i : Int32} {k : Int32 → Option β} {r : β} (h : ql f N i k = some r) : vp_in i N ∧ k (f i.toNatClampNeg) = some r := by
  unfold ql at h
  split at h
  · cases h
  · rename_i hn
    exact ⟨hn, h⟩
theorem q_ins {β : Type} {G : Nat → Nat → Int32} {n N : Nat} {i v : Int32} {k : (Nat → Nat → Int32) → Option β} {r : β} (h : qs G n N i v k = some r) : vp_in i N ∧ k (qG G n i.toNatClampNeg v) = some r := by
  unfold qs at h
  split at h
  · cases h
  · rename_i hn
    exact ⟨hn, h⟩
theorem q_inz {β : Type} {G : Nat → Nat → Int32} {n N : Nat} {i v : Int32} {k : (Nat → Nat → Int32) → Option β} {r : β} (h : qz G n N i v k = some r) : vp_in i N ∧ (v = 0 ∨ v = 1) ∧ k (qG G n i.toNatClampNeg v) = some r := by
  unfold qz at h
  split at h
  · cases h
  · rename_i hn
    split at h
    · rename_i hv
      exact ⟨hn, hv, h⟩
    · cases h
theorem q_dv {β : Type} {y : Int32} {k : Option β} {r : β} (h : qd y k = some r) : ¬ y = 0 ∧ k = some r := by
  unfold qd at h
  split at h
  · cases h
  · rename_i hn
    exact ⟨hn, h⟩
theorem q_bo {x r : Int32} (h : qb x = some r) : x = r ∧ narrow .boolean (.int x) = .int x := by
  unfold qb at h
  split at h
  · rename_i hx
    refine ⟨Option.some.inj h, ?_⟩
    rcases hx with rfl | rfl <;> rfl
  · cases h
theorem q_nar {v : Int32} (h : v = 0 ∨ v = 1) : vp_nar .boolean v = v := by
  rcases h with rfl | rfl <;> rfl
theorem q_ite {β : Type} {c : Prop} {A B : Option β} {r : β} (d : Decidable c) (h : (@ite _ c d A B) = some r) : (c ∧ A = some r) ∨ (¬ c ∧ B = some r) := by
  by_cases q : c
  · rw [if_pos q] at h
    exact Or.inl ⟨q, h⟩
  · rw [if_neg q] at h
    exact Or.inr ⟨q, h⟩
section QK
variable {p : Program} {l : Launch} {e : Env} {R : Room} {s : State} {m : MethodId} {args : Array Value} {below : List Frame} {meth : Method} {c : Code} {H : Heap} {locs : List Loc} {cells slots : Nat} {Q : State → Prop}
variable {cc : ByteArray} {pc : Nat} {ls : Array Slot} {rest : List Value} {β : Type} {r : β}
theorem q_if_eq (hx : p.tables.exec = Jvm.exec) (hb : c.code = cc) {x : Int32} {off : Int} {tgt : Nat} (hdg : decode cc pc = .ok (.ifCond .eq off, 3)) (ht : (pc : Int) + off = (tgt : Int)) {A B : Option β} (h : (if x = 0 then A else B) = some r) (kt : A = some r → W p l e R s m args below meth c H locs cells slots Q (F0 m tgt ls rest)) (kf : B = some r → W p l e R s m args below meth c H locs cells slots Q (F0 m (pc + 3) ls rest)) : W p l e R s m args below meth c H locs cells slots Q (F0 m pc ls (.int x :: rest)) :=
  lv_if_eq hx hb hdg ht (fun q => kt (by rw [if_pos q] at h; exact h)) (fun q => kf (by rw [if_neg q] at h; exact h))
theorem q_icmp_eq (hx : p.tables.exec = Jvm.exec) (hb : c.code = cc) {x y : Int32} {off : Int} {tgt : Nat} (hdg : decode cc pc = .ok (.if_icmp .eq off, 3)) (ht : (pc : Int) + off = (tgt : Int)) {A B : Option β} (h : (if x = y then A else B) = some r) (kt : A = some r → W p l e R s m args below meth c H locs cells slots Q (F0 m tgt ls rest)) (kf : B = some r → W p l e R s m args below meth c H locs cells slots Q (F0 m (pc + 3) ls rest)) : W p l e R s m args below meth c H locs cells slots Q (F0 m pc ls (.int y :: .int x :: rest)) :=
  lv_icmp_eq hx hb hdg ht (fun q => kt (by rw [if_pos q] at h; exact h)) (fun q => kf (by rw [if_neg q] at h; exact h))
theorem q_if_ne (hx : p.tables.exec = Jvm.exec) (hb : c.code = cc) {x : Int32} {off : Int} {tgt : Nat} (hdg : decode cc pc = .ok (.ifCond .ne off, 3)) (ht : (pc : Int) + off = (tgt : Int)) {A B : Option β} (h : (if x = 0 then A else B) = some r) (kt : B = some r → W p l e R s m args below meth c H locs cells slots Q (F0 m tgt ls rest)) (kf : A = some r → W p l e R s m args below meth c H locs cells slots Q (F0 m (pc + 3) ls rest)) : W p l e R s m args below meth c H locs cells slots Q (F0 m pc ls (.int x :: rest)) :=
  lv_if_ne hx hb hdg ht (fun q => kt (by rw [if_neg q] at h; exact h)) (fun q => kf (by rw [if_pos q] at h; exact h))
theorem q_icmp_ne (hx : p.tables.exec = Jvm.exec) (hb : c.code = cc) {x y : Int32} {off : Int} {tgt : Nat} (hdg : decode cc pc = .ok (.if_icmp .ne off, 3)) (ht : (pc : Int) + off = (tgt : Int)) {A B : Option β} (h : (if x = y then A else B) = some r) (kt : B = some r → W p l e R s m args below meth c H locs cells slots Q (F0 m tgt ls rest)) (kf : A = some r → W p l e R s m args below meth c H locs cells slots Q (F0 m (pc + 3) ls rest)) : W p l e R s m args below meth c H locs cells slots Q (F0 m pc ls (.int y :: .int x :: rest)) :=
  lv_icmp_ne hx hb hdg ht (fun q => kt (by rw [if_neg q] at h; exact h)) (fun q => kf (by rw [if_pos q] at h; exact h))
theorem q_if_lt (hx : p.tables.exec = Jvm.exec) (hb : c.code = cc) {x : Int32} {off : Int} {tgt : Nat} (hdg : decode cc pc = .ok (.ifCond .lt off, 3)) (ht : (pc : Int) + off = (tgt : Int)) {A B : Option β} (h : (if x < 0 then A else B) = some r) (kt : A = some r → W p l e R s m args below meth c H locs cells slots Q (F0 m tgt ls rest)) (kf : B = some r → W p l e R s m args below meth c H locs cells slots Q (F0 m (pc + 3) ls rest)) : W p l e R s m args below meth c H locs cells slots Q (F0 m pc ls (.int x :: rest)) :=
  lv_if_lt hx hb hdg ht (fun q => kt (by rw [if_pos q] at h; exact h)) (fun q => kf (by rw [if_neg q] at h; exact h))
theorem q_icmp_lt (hx : p.tables.exec = Jvm.exec) (hb : c.code = cc) {x y : Int32} {off : Int} {tgt : Nat} (hdg : decode cc pc = .ok (.if_icmp .lt off, 3)) (ht : (pc : Int) + off = (tgt : Int)) {A B : Option β} (h : (if x < y then A else B) = some r) (kt : A = some r → W p l e R s m args below meth c H locs cells slots Q (F0 m tgt ls rest)) (kf : B = some r → W p l e R s m args below meth c H locs cells slots Q (F0 m (pc + 3) ls rest)) : W p l e R s m args below meth c H locs cells slots Q (F0 m pc ls (.int y :: .int x :: rest)) :=
  lv_icmp_lt hx hb hdg ht (fun q => kt (by rw [if_pos q] at h; exact h)) (fun q => kf (by rw [if_neg q] at h; exact h))
theorem q_if_ge (hx : p.tables.exec = Jvm.exec) (hb : c.code = cc) {x : Int32} {off : Int} {tgt : Nat} (hdg : decode cc pc = .ok (.ifCond .ge off, 3)) (ht : (pc : Int) + off = (tgt : Int)) {A B : Option β} (h : (if 0 ≤ x then A else B) = some r) (kt : A = some r → W p l e R s m args below meth c H locs cells slots Q (F0 m tgt ls rest)) (kf : B = some r → W p l e R s m args below meth c H locs cells slots Q (F0 m (pc + 3) ls rest)) : W p l e R s m args below meth c H locs cells slots Q (F0 m pc ls (.int x :: rest)) :=
  lv_if_ge hx hb hdg ht (fun q => kt (by rw [if_pos q] at h; exact h)) (fun q => kf (by rw [if_neg q] at h; exact h))
theorem q_icmp_ge (hx : p.tables.exec = Jvm.exec) (hb : c.code = cc) {x y : Int32} {off : Int} {tgt : Nat} (hdg : decode cc pc = .ok (.if_icmp .ge off, 3)) (ht : (pc : Int) + off = (tgt : Int)) {A B : Option β} (h : (if y ≤ x then A else B) = some r) (kt : A = some r → W p l e R s m args below meth c H locs cells slots Q (F0 m tgt ls rest)) (kf : B = some r → W p l e R s m args below meth c H locs cells slots Q (F0 m (pc + 3) ls rest)) : W p l e R s m args below meth c H locs cells slots Q (F0 m pc ls (.int y :: .int x :: rest)) :=
  lv_icmp_ge hx hb hdg ht (fun q => kt (by rw [if_pos q] at h; exact h)) (fun q => kf (by rw [if_neg q] at h; exact h))
theorem q_if_gt (hx : p.tables.exec = Jvm.exec) (hb : c.code = cc) {x : Int32} {off : Int} {tgt : Nat} (hdg : decode cc pc = .ok (.ifCond .gt off, 3)) (ht : (pc : Int) + off = (tgt : Int)) {A B : Option β} (h : (if 0 < x then A else B) = some r) (kt : A = some r → W p l e R s m args below meth c H locs cells slots Q (F0 m tgt ls rest)) (kf : B = some r → W p l e R s m args below meth c H locs cells slots Q (F0 m (pc + 3) ls rest)) : W p l e R s m args below meth c H locs cells slots Q (F0 m pc ls (.int x :: rest)) :=
  lv_if_gt hx hb hdg ht (fun q => kt (by rw [if_pos q] at h; exact h)) (fun q => kf (by rw [if_neg q] at h; exact h))
theorem q_icmp_gt (hx : p.tables.exec = Jvm.exec) (hb : c.code = cc) {x y : Int32} {off : Int} {tgt : Nat} (hdg : decode cc pc = .ok (.if_icmp .gt off, 3)) (ht : (pc : Int) + off = (tgt : Int)) {A B : Option β} (h : (if y < x then A else B) = some r) (kt : A = some r → W p l e R s m args below meth c H locs cells slots Q (F0 m tgt ls rest)) (kf : B = some r → W p l e R s m args below meth c H locs cells slots Q (F0 m (pc + 3) ls rest)) : W p l e R s m args below meth c H locs cells slots Q (F0 m pc ls (.int y :: .int x :: rest)) :=
  lv_icmp_gt hx hb hdg ht (fun q => kt (by rw [if_pos q] at h; exact h)) (fun q => kf (by rw [if_neg q] at h; exact h))
theorem q_if_le (hx : p.tables.exec = Jvm.exec) (hb : c.code = cc) {x : Int32} {off : Int} {tgt : Nat} (hdg : decode cc pc = .ok (.ifCond .le off, 3)) (ht : (pc : Int) + off = (tgt : Int)) {A B : Option β} (h : (if x ≤ 0 then A else B) = some r) (kt : A = some r → W p l e R s m args below meth c H locs cells slots Q (F0 m tgt ls rest)) (kf : B = some r → W p l e R s m args below meth c H locs cells slots Q (F0 m (pc + 3) ls rest)) : W p l e R s m args below meth c H locs cells slots Q (F0 m pc ls (.int x :: rest)) :=
  lv_if_le hx hb hdg ht (fun q => kt (by rw [if_pos q] at h; exact h)) (fun q => kf (by rw [if_neg q] at h; exact h))
theorem q_icmp_le (hx : p.tables.exec = Jvm.exec) (hb : c.code = cc) {x y : Int32} {off : Int} {tgt : Nat} (hdg : decode cc pc = .ok (.if_icmp .le off, 3)) (ht : (pc : Int) + off = (tgt : Int)) {A B : Option β} (h : (if x ≤ y then A else B) = some r) (kt : A = some r → W p l e R s m args below meth c H locs cells slots Q (F0 m tgt ls rest)) (kf : B = some r → W p l e R s m args below meth c H locs cells slots Q (F0 m (pc + 3) ls rest)) : W p l e R s m args below meth c H locs cells slots Q (F0 m pc ls (.int y :: .int x :: rest)) :=
  lv_icmp_le hx hb hdg ht (fun q => kt (by rw [if_pos q] at h; exact h)) (fun q => kf (by rw [if_neg q] at h; exact h))
theorem q_nm {x : Int32} {k : Int32 → Option β} (h : qn x k = some r) (kk : ∀ v : Int32, k v = some r → W p l e R s m args below meth c H locs cells slots Q (F0 m pc ls (.int v :: rest))) : W p l e R s m args below meth c H locs cells slots Q (F0 m pc ls (.int x :: rest)) := kk x h
theorem q_iinc (hx : p.tables.exec = Jvm.exec) (hb : c.code = cc) {i nL j : Nat} {n : Int} {x d : Int32} {lv : List (Nat × Value)} {lv2 : Int32 → List (Nat × Value)} (hdg : decode cc pc = .ok (.iinc i n, 3)) (hl : lv_has ls nL lv) (hk : lv[j]? = some (i, .int x)) (hd : Int32.ofInt n = d) (hn : i < nL) (hs : ∀ v : Int32, (i, Value.int v) :: lv.filter (fun q => !(q.1 == i) && !(q.1 + 1 == i && q.2.category == 2)) = lv2 v) {k : Int32 → Option β} (h : qn (x + d) k = some r) (kk : ∀ (v : Int32) (ls2 : Array Slot), lv_has ls2 nL (lv2 v) → k v = some r → W p l e R s m args below meth c H locs cells slots Q (F0 m (pc + 3) ls2 rest)) : W p l e R s m args below meth c H locs cells slots Q (F0 m pc ls rest) :=
  lv_iinc hx hb hdg hl hk (by rw [hd]) hn (hs (x + d)) (fun ls2 hl2 => kk (x + d) ls2 hl2 h)
variable {D : va_G} {cl : List vw_C} {A : Nat → Prop} {a : Nat} {tys : List (ClassId × FieldType)} {ws : va_W} {H0 : Heap}
theorem q_ld (hx : p.tables.exec = Jvm.exec) (hb : c.code = cc) (hK : va_K D cl tys s) (hP : va_P D cl ws H) (q0 t0 : Nat) {cA : ClassId} {N : Nat} {f : Nat → Int32} (ha : ws[q0]? = some (a, .inl (cA, N, .inl f))) (ht : tys[t0]? = some (cA, .int)) {i : Int32} (hdg : decode cc pc = .ok (.iaload, 1)) {k : Int32 → Option β} (h : ql f N i k = some r) (kk : ∀ v : Int32, k v = some r → W p l e R s m args below meth c H locs cells slots Q (F0 m (pc + 1) ls (.int v :: rest))) : W p l e R s m args below meth c H locs cells slots Q (F0 m pc ls (.int i :: .ref a :: rest)) :=
  va_iald hx hb hK hP q0 t0 ha ht (q_inl h).1 hdg (kk _ (q_inl h).2)
theorem q_ldz (hx : p.tables.exec = Jvm.exec) (hb : c.code = cc) (hK : va_K D cl tys s) (hP : va_P D cl ws H) (q0 t0 : Nat) {cA : ClassId} {N : Nat} {f : Nat → Int32} (ha : ws[q0]? = some (a, .inl (cA, N, .inl f))) (ht : tys[t0]? = some (cA, .boolean)) {i : Int32} (hdg : decode cc pc = .ok (.baload, 1)) {k : Int32 → Option β} (h : ql f N i k = some r) (kk : ∀ v : Int32, k v = some r → W p l e R s m args below meth c H locs cells slots Q (F0 m (pc + 1) ls (.int v :: rest))) : W p l e R s m args below meth c H locs cells slots Q (F0 m pc ls (.int i :: .ref a :: rest)) :=
  va_zald hx hb hK hP q0 t0 ha ht (q_inl h).1 hdg (kk _ (q_inl h).2)
theorem q_st (hx : p.tables.exec = Jvm.exec) (hb : c.code = cc) (hK : va_K D cl tys s) (hP : va_P D cl ws H) (hD : va_D A ws) (hS : va_S A H0 H locs) (q0 t0 n : Nat) {cA : ClassId} {N : Nat} {G : Nat → Nat → Int32} (Wd : (Nat → Nat → Int32) → va_W) (ha : ws[q0]? = some (a, .inl (cA, N, .inl (G n)))) (ht : tys[t0]? = some (cA, .int)) {i x : Int32} (hset : ∀ j : Nat, ws.set q0 (a, .inl (cA, N, .inl (upd (G n) j x))) = Wd (qG G n j x)) (hdg : decode cc pc = .ok (.iastore, 1)) {k : (Nat → Nat → Int32) → Option β} (h : qs G n N i x k = some r) (kk : ∀ (G1 : Nat → Nat → Int32) (H1 : Heap) (locs1 : List Loc), k G1 = some r → va_P D cl (Wd G1) H1 → va_S A H0 H1 locs1 → W p l e R s m args below meth c H1 locs1 cells slots Q (F0 m (pc + 1) ls rest)) : W p l e R s m args below meth c H locs cells slots Q (F0 m pc ls (.int x :: .int i :: .ref a :: rest)) :=
  va_iast hx hb hK hP hD hS q0 t0 ha ht (q_ins h).1 hdg (fun H1 locs1 hP1 _ hS1 => kk _ H1 locs1 (q_ins h).2 (by rw [← hset]; exact hP1) hS1)
theorem q_stz (hx : p.tables.exec = Jvm.exec) (hb : c.code = cc) (hK : va_K D cl tys s) (hP : va_P D cl ws H) (hD : va_D A ws) (hS : va_S A H0 H locs) (q0 t0 n : Nat) {cA : ClassId} {N : Nat} {G : Nat → Nat → Int32} (Wd : (Nat → Nat → Int32) → va_W) (ha : ws[q0]? = some (a, .inl (cA, N, .inl (G n)))) (ht : tys[t0]? = some (cA, .boolean)) {i x : Int32} (hset : ∀ j : Nat, ws.set q0 (a, .inl (cA, N, .inl (upd (G n) j x))) = Wd (qG G n j x)) (hdg : decode cc pc = .ok (.bastore, 1)) {k : (Nat → Nat → Int32) → Option β} (h : qz G n N i x k = some r) (kk : ∀ (G1 : Nat → Nat → Int32) (H1 : Heap) (locs1 : List Loc), k G1 = some r → va_P D cl (Wd G1) H1 → va_S A H0 H1 locs1 → W p l e R s m args below meth c H1 locs1 cells slots Q (F0 m (pc + 1) ls rest)) : W p l e R s m args below meth c H locs cells slots Q (F0 m pc ls (.int x :: .int i :: .ref a :: rest)) :=
  va_zast hx hb hK hP hD hS q0 t0 ha ht (q_inz h).1 hdg (fun H1 locs1 hP1 _ hS1 => kk _ H1 locs1 (q_inz h).2.2 (by rw [← hset]; rw [q_nar (q_inz h).2.1] at hP1; exact hP1) hS1)
theorem q_put (hx : p.tables.exec = Jvm.exec) (hb : c.code = cc) {own ref C : String} {T : u_T} {N ci index : Nat} {Ts : List Cond} (hts : ∀ w ∈ Ts, w.before args s = true) (hin : ∀ w ∈ u_ws C T N, w ∈ Ts) (ty0 : Nat → FieldType) (hty : ∀ k, k < N → parseFieldDescriptor (T k).2.2.1 = some (ty0 k)) (hnm : ∀ a, a < N → ∀ b, b < N → a ≠ b → (T a).2.1 ≠ (T b).2.1) (hown : s.vm.findClass own = some m.cls) (hK : va_K D cl tys s) (hP : va_P D cl ws H) (hD : va_D A ws) (hS : va_S A H0 H locs) (q0 n : Nat) {fs : List Value} (Wd : (Nat → Int32) → va_W) {F : Nat → Int32} {v : Int32} (he : ws[q0]? = some (a, .inr (ci, fs))) (hc : cl[ci]? = some (C, T, N)) (k : Nat) (hk : k < N) (hlink : (Cond.fieldLink own index ref (T k).2.1 (T k).2.2.1).before args s = true) (hsame : ∀ x, s.fieldFound? (T k).1 (T k).2.1 (T k).2.2.1 = some x → s.fieldFound? ref (T k).2.1 (T k).2.2.1 = some x) (hfin : (T k).2.2.2 = false) {ty : FieldType} (hd : parseFieldDescriptor (T k).2.2.1 = some ty) (hn : narrow ty (.int v) = .int v) (hfit : fits ty (.int v) = true) (hl : k < fs.length) (hset : ws.set q0 (a, .inr (ci, fs.set k (.int v))) = Wd (upd F n v)) (hdg : decode cc pc = .ok (.putfield index, 3)) {kf : (Nat → Int32) → Option β} (h : qf F n v kf = some r) (kk : ∀ (F1 : Nat → Int32) (H1 : Heap) (locs1 : List Loc), kf F1 = some r → va_P D cl (Wd F1) H1 → va_S A H0 H1 locs1 → W p l e R s m args below meth c H1 locs1 cells slots Q (F0 m (pc + 3) ls rest)) : W p l e R s m args below meth c H locs cells slots Q (F0 m pc ls (.int v :: .ref a :: rest)) :=
  va_put hx hb hts hin ty0 hty hnm hown hK hP hD hS q0 he hc k hk hlink hsame hfin hd hn hfit hl hdg (fun H1 locs1 hP1 _ hS1 => kk _ H1 locs1 h (by rw [← hset]; exact hP1) hS1)
theorem q_cs {rv : Int32} {aa : Array Value} {st0 : List Value} (hr : CallRun p l e R s m args below meth c H locs cells slots 0 0 (F0 m pc ls st0) rest (vp_Si (fun z => z = rv) aa) (fun _ => False)) (kk : W p l e R s m args below meth c H locs cells slots Q (F0 m (pc + 3) ls (.int rv :: rest))) : W p l e R s m args below meth c H locs cells slots Q (F0 m pc ls st0) := vp_callSi hr (fun z hz => by rw [hz]; exact kk)
theorem q_ci {rv : Int32} {aa : Array Value} {st0 : List Value} {ws1 : va_W} (hr : va_Run p l e R s m args below meth c H locs cells slots 0 0 (F0 m pc ls st0) rest (va_Qi (fun z (_ : Unit) => z = rv) (fun _ t => va_P D cl ws1 t.heap) A aa) A) (hS : va_S A H0 H locs) (kk : ∀ (H1 : Heap) (locs1 : List Loc), va_P D cl ws1 H1 → va_S A H0 H1 locs1 → W p l e R s m args below meth c H1 locs1 cells slots Q (F0 m (pc + 3) ls (.int rv :: rest))) : W p l e R s m args below meth c H locs cells slots Q (F0 m pc ls st0) :=
  va_calli hr hS (fun _ _ h => h) (fun _ h => h) (fun z u t H1 locs1 ht _ hz hB _ _ hS1 => by subst ht; rw [hz]; exact kk _ locs1 hB hS1)
theorem q_cv {aa : Array Value} {st0 : List Value} {ws1 : va_W} (hr : va_Run p l e R s m args below meth c H locs cells slots 0 0 (F0 m pc ls st0) rest (va_Qv (fun (_ : Unit) => True) (fun _ t => va_P D cl ws1 t.heap) A aa) A) (hS : va_S A H0 H locs) (kk : ∀ (H1 : Heap) (locs1 : List Loc), va_P D cl ws1 H1 → va_S A H0 H1 locs1 → W p l e R s m args below meth c H1 locs1 cells slots Q (F0 m (pc + 3) ls rest)) : W p l e R s m args below meth c H locs cells slots Q (F0 m pc ls st0) :=
  va_callv hr hS (fun _ _ h => h) (fun _ h => h) (fun u t H1 locs1 ht _ _ hB _ _ hS1 => by subst ht; exact kk _ locs1 hB hS1)
end QK
end
section
theorem qD {w1 w2 : va_W} (h : va_D (fun _ => True) w1) (e : w2.map (fun q => q.1) = w1.map (fun q => q.1)) : va_D (fun q => ∃ (k : Nat) (x : va_E), w1[k]? = some (q, x)) w2 := by
  have key : ∀ (k : Nat) (q : Nat × va_E), w2[k]? = some q → ∃ x, w1[k]? = some (q.1, x) := by
    intro k q hq
    have h1 : (w2.map (fun q => q.1))[k]? = some q.1 := by rw [List.getElem?_map, hq]; rfl
    rw [e, List.getElem?_map] at h1
    cases h2 : w1[k]? with
    | none => rw [h2] at h1; cases h1
    | some y =>
      rw [h2] at h1
      have h3 : y.1 = q.1 := Option.some.inj h1
      exact ⟨y.2, by rw [← h3]⟩
  refine ⟨fun i j a b hi hj hab => ?_, fun k q hk => ?_⟩
  · obtain ⟨x, hx⟩ := key i a hi
    obtain ⟨y, hy⟩ := key j b hj
    exact h.1 i j _ _ hx hy hab
  · obtain ⟨x, hx⟩ := key k q hk
    exact ⟨k, x, hx⟩
/-- the links to private members of a nest mate that the methods use -/
def nN (U : State) : Prop := va_Nw (.methodLinkNest RX0 43 yX4_isCell "BeadDesk") U ∧ va_Nw (.methodLinkNest RX0 47 yX4_isWithin "BeadDesk") U ∧ va_Nw (.methodLinkNest RX3 81 yX4_isCell "BeadDesk") U
theorem nN_w {s U : State} (hW : s.WarmedH U.vm) (h : nN s) : nN U := ⟨va_Nw.warmM hW h.1, va_Nw.warmM hW h.2.1, va_Nw.warmM hW h.2.2⟩
theorem nN_c {s U : State} (hv : s.vm = U.vm) (h : nN s) : nN U := ⟨va_Nw.same rfl hv h.1, va_Nw.same rfl hv h.2.1, va_Nw.same rfl hv h.2.2⟩
theorem q_bl0 {av : List Value} : FrameBlind (va_Pc av (fun _ => True)) := fun _ _ _ _ q => q
theorem q_pr0 {s : State} {H : Heap} {av : List Value} : PreS s H (va_Pc av (fun _ => True)) av := ⟨q_bl0, fun _ _ _ => ⟨rfl, trivial⟩⟩
/-! the world m -/
def mW (cI cZ : ClassId) (ad : Nat → Nat) (F : Nat → Int32) (G : Nat → Nat → Int32) : va_W := [(ad 99, .inr (5, [.ref (ad 0), .int (F 1), .int (F 2), .ref (ad 3), .ref (ad 4), .ref (ad 5), .int (F 6), .int (F 7), .int (F 8), .ref (ad 9), .ref (ad 10), .ref (ad 11), .ref (ad 12), .ref (ad 13), .ref (ad 14), .ref (ad 15), .int (F 16), .int (F 17), .int (F 18), .int (F 19), .int (F 20), .ref (ad 21), .ref (ad 22), .int (F 23), .int (F 24), .int (F 25), .int (F 26), .int (F 27), .ref (ad 28), .ref (ad 29), .ref (ad 30), .int (F 31), .int (F 32), .int (F 33), .int (F 34), .int (F 35), .int (F 36), .int (F 37), .ref (ad 38), .ref (ad 39), .ref (ad 40), .ref (ad 41), .ref (ad 42), .ref (ad 43), .ref (ad 44), .ref (ad 45), .ref (ad 46), .ref (ad 47)])), (ad 0, .inl (cI, 144, .inl (G 0))), (ad 3, .inl (cI, 6, .inl (G 3))), (ad 4, .inl (cI, 6, .inl (G 4))), (ad 5, .inl (cI, 6, .inl (G 5))), (ad 9, .inl (cI, 144, .inl (G 9))), (ad 10, .inl (cI, 144, .inl (G 10))), (ad 11, .inl (cI, 144, .inl (G 11))), (ad 12, .inl (cI, 144, .inl (G 12))), (ad 13, .inl (cI, 144, .inl (G 13))), (ad 14, .inl (cI, 144, .inl (G 14))), (ad 15, .inl (cI, 144, .inl (G 15))), (ad 21, .inl (cI, 150, .inl (G 21))), (ad 22, .inl (cI, 900, .inl (G 22))), (ad 28, .inl (cI, 8, .inl (G 28))), (ad 29, .inl (cI, 6, .inl (G 29))), (ad 30, .inl (cI, 6, .inl (G 30))), (ad 38, .inl (cI, 144, .inl (G 38))), (ad 39, .inl (cI, 144, .inl (G 39))), (ad 40, .inl (cI, 144, .inl (G 40))), (ad 41, .inl (cI, 144, .inl (G 41))), (ad 42, .inl (cI, 144, .inl (G 42))), (ad 43, .inl (cI, 144, .inl (G 43))), (ad 44, .inl (cI, 144, .inl (G 44))), (ad 45, .inl (cI, 150, .inl (G 45))), (ad 46, .inl (cI, 900, .inl (G 46))), (ad 47, .inl (cZ, 144, .inl (G 47)))]
def mR (D : va_G) (cI cZ : ClassId) (ad : Nat → Nat) (F : Nat → Int32) (G : Nat → Nat → Int32) (U : State) : Prop := va_P D vwCl (mW cI cZ ad F G) U.heap ∧ va_K D vwCl [(cI, FieldType.int), (cZ, FieldType.boolean)] U ∧ True
def mA (cI cZ : ClassId) (ad : Nat → Nat) : Nat → Prop := fun q => ∃ (k : Nat) (x : va_E), (mW cI cZ ad (fun _ => 0) (fun _ _ => 0))[k]? = some (q, x)
theorem mW_D {cI cZ : ClassId} {ad : Nat → Nat} (h : va_D (fun _ => True) (mW cI cZ ad (fun _ => 0) (fun _ _ => 0))) (F : Nat → Int32) (G : Nat → Nat → Int32) : va_D (mA cI cZ ad) (mW cI cZ ad F G) := qD h rfl
theorem mR_b {D : va_G} {cI cZ : ClassId} {ad : Nat → Nat} {F : Nat → Int32} {G : Nat → Nat → Int32} {av : List Value} : FrameBlind (va_Pc av (mR D cI cZ ad F G)) := fun aa U g mk q => ⟨q.1, q.2.1, va_K.moved (u := U) (U := U.calling g mk aa) (Vm.Alike.refl U.vm) q.2.2.1, trivial⟩
theorem mR_p {D : va_G} {cI cZ : ClassId} {ad : Nat → Nat} {F : Nat → Int32} {G : Nat → Nat → Int32} {av : List Value} {s : State} {H : Heap} (hP : va_P D vwCl (mW cI cZ ad F G) H) (hK : va_K D vwCl [(cI, FieldType.int), (cZ, FieldType.boolean)] s) (hN : True) : PreS s H (va_Pc av (mR D cI cZ ad F G)) av := ⟨mR_b, fun U hU hW => ⟨rfl, by rw [hU]; exact hP, va_K.moved hW.alike hK, trivial⟩⟩
theorem m_o99 (cI cZ : ClassId) (ad : Nat → Nat) (F : Nat → Int32) (G : Nat → Nat → Int32) : (mW cI cZ ad F G)[0]? = some (ad 99, .inr (5, [.ref (ad 0), .int (F 1), .int (F 2), .ref (ad 3), .ref (ad 4), .ref (ad 5), .int (F 6), .int (F 7), .int (F 8), .ref (ad 9), .ref (ad 10), .ref (ad 11), .ref (ad 12), .ref (ad 13), .ref (ad 14), .ref (ad 15), .int (F 16), .int (F 17), .int (F 18), .int (F 19), .int (F 20), .ref (ad 21), .ref (ad 22), .int (F 23), .int (F 24), .int (F 25), .int (F 26), .int (F 27), .ref (ad 28), .ref (ad 29), .ref (ad 30), .int (F 31), .int (F 32), .int (F 33), .int (F 34), .int (F 35), .int (F 36), .int (F 37), .ref (ad 38), .ref (ad 39), .ref (ad 40), .ref (ad 41), .ref (ad 42), .ref (ad 43), .ref (ad 44), .ref (ad 45), .ref (ad 46), .ref (ad 47)])) := rfl
theorem m_f1 (cI cZ : ClassId) (ad : Nat → Nat) (F : Nat → Int32) (G : Nat → Nat → Int32) (v : Int32) : (mW cI cZ ad F G).set 0 (ad 99, .inr (5, ([.ref (ad 0), .int (F 1), .int (F 2), .ref (ad 3), .ref (ad 4), .ref (ad 5), .int (F 6), .int (F 7), .int (F 8), .ref (ad 9), .ref (ad 10), .ref (ad 11), .ref (ad 12), .ref (ad 13), .ref (ad 14), .ref (ad 15), .int (F 16), .int (F 17), .int (F 18), .int (F 19), .int (F 20), .ref (ad 21), .ref (ad 22), .int (F 23), .int (F 24), .int (F 25), .int (F 26), .int (F 27), .ref (ad 28), .ref (ad 29), .ref (ad 30), .int (F 31), .int (F 32), .int (F 33), .int (F 34), .int (F 35), .int (F 36), .int (F 37), .ref (ad 38), .ref (ad 39), .ref (ad 40), .ref (ad 41), .ref (ad 42), .ref (ad 43), .ref (ad 44), .ref (ad 45), .ref (ad 46), .ref (ad 47)] : List Value).set 1 (.int v))) = mW cI cZ ad (upd F 1 v) G := rfl
theorem m_f2 (cI cZ : ClassId) (ad : Nat → Nat) (F : Nat → Int32) (G : Nat → Nat → Int32) (v : Int32) : (mW cI cZ ad F G).set 0 (ad 99, .inr (5, ([.ref (ad 0), .int (F 1), .int (F 2), .ref (ad 3), .ref (ad 4), .ref (ad 5), .int (F 6), .int (F 7), .int (F 8), .ref (ad 9), .ref (ad 10), .ref (ad 11), .ref (ad 12), .ref (ad 13), .ref (ad 14), .ref (ad 15), .int (F 16), .int (F 17), .int (F 18), .int (F 19), .int (F 20), .ref (ad 21), .ref (ad 22), .int (F 23), .int (F 24), .int (F 25), .int (F 26), .int (F 27), .ref (ad 28), .ref (ad 29), .ref (ad 30), .int (F 31), .int (F 32), .int (F 33), .int (F 34), .int (F 35), .int (F 36), .int (F 37), .ref (ad 38), .ref (ad 39), .ref (ad 40), .ref (ad 41), .ref (ad 42), .ref (ad 43), .ref (ad 44), .ref (ad 45), .ref (ad 46), .ref (ad 47)] : List Value).set 2 (.int v))) = mW cI cZ ad (upd F 2 v) G := rfl
theorem m_f6 (cI cZ : ClassId) (ad : Nat → Nat) (F : Nat → Int32) (G : Nat → Nat → Int32) (v : Int32) : (mW cI cZ ad F G).set 0 (ad 99, .inr (5, ([.ref (ad 0), .int (F 1), .int (F 2), .ref (ad 3), .ref (ad 4), .ref (ad 5), .int (F 6), .int (F 7), .int (F 8), .ref (ad 9), .ref (ad 10), .ref (ad 11), .ref (ad 12), .ref (ad 13), .ref (ad 14), .ref (ad 15), .int (F 16), .int (F 17), .int (F 18), .int (F 19), .int (F 20), .ref (ad 21), .ref (ad 22), .int (F 23), .int (F 24), .int (F 25), .int (F 26), .int (F 27), .ref (ad 28), .ref (ad 29), .ref (ad 30), .int (F 31), .int (F 32), .int (F 33), .int (F 34), .int (F 35), .int (F 36), .int (F 37), .ref (ad 38), .ref (ad 39), .ref (ad 40), .ref (ad 41), .ref (ad 42), .ref (ad 43), .ref (ad 44), .ref (ad 45), .ref (ad 46), .ref (ad 47)] : List Value).set 6 (.int v))) = mW cI cZ ad (upd F 6 v) G := rfl
theorem m_f7 (cI cZ : ClassId) (ad : Nat → Nat) (F : Nat → Int32) (G : Nat → Nat → Int32) (v : Int32) : (mW cI cZ ad F G).set 0 (ad 99, .inr (5, ([.ref (ad 0), .int (F 1), .int (F 2), .ref (ad 3), .ref (ad 4), .ref (ad 5), .int (F 6), .int (F 7), .int (F 8), .ref (ad 9), .ref (ad 10), .ref (ad 11), .ref (ad 12), .ref (ad 13), .ref (ad 14), .ref (ad 15), .int (F 16), .int (F 17), .int (F 18), .int (F 19), .int (F 20), .ref (ad 21), .ref (ad 22), .int (F 23), .int (F 24), .int (F 25), .int (F 26), .int (F 27), .ref (ad 28), .ref (ad 29), .ref (ad 30), .int (F 31), .int (F 32), .int (F 33), .int (F 34), .int (F 35), .int (F 36), .int (F 37), .ref (ad 38), .ref (ad 39), .ref (ad 40), .ref (ad 41), .ref (ad 42), .ref (ad 43), .ref (ad 44), .ref (ad 45), .ref (ad 46), .ref (ad 47)] : List Value).set 7 (.int v))) = mW cI cZ ad (upd F 7 v) G := rfl
theorem m_f8 (cI cZ : ClassId) (ad : Nat → Nat) (F : Nat → Int32) (G : Nat → Nat → Int32) (v : Int32) : (mW cI cZ ad F G).set 0 (ad 99, .inr (5, ([.ref (ad 0), .int (F 1), .int (F 2), .ref (ad 3), .ref (ad 4), .ref (ad 5), .int (F 6), .int (F 7), .int (F 8), .ref (ad 9), .ref (ad 10), .ref (ad 11), .ref (ad 12), .ref (ad 13), .ref (ad 14), .ref (ad 15), .int (F 16), .int (F 17), .int (F 18), .int (F 19), .int (F 20), .ref (ad 21), .ref (ad 22), .int (F 23), .int (F 24), .int (F 25), .int (F 26), .int (F 27), .ref (ad 28), .ref (ad 29), .ref (ad 30), .int (F 31), .int (F 32), .int (F 33), .int (F 34), .int (F 35), .int (F 36), .int (F 37), .ref (ad 38), .ref (ad 39), .ref (ad 40), .ref (ad 41), .ref (ad 42), .ref (ad 43), .ref (ad 44), .ref (ad 45), .ref (ad 46), .ref (ad 47)] : List Value).set 8 (.int v))) = mW cI cZ ad (upd F 8 v) G := rfl
theorem m_f16 (cI cZ : ClassId) (ad : Nat → Nat) (F : Nat → Int32) (G : Nat → Nat → Int32) (v : Int32) : (mW cI cZ ad F G).set 0 (ad 99, .inr (5, ([.ref (ad 0), .int (F 1), .int (F 2), .ref (ad 3), .ref (ad 4), .ref (ad 5), .int (F 6), .int (F 7), .int (F 8), .ref (ad 9), .ref (ad 10), .ref (ad 11), .ref (ad 12), .ref (ad 13), .ref (ad 14), .ref (ad 15), .int (F 16), .int (F 17), .int (F 18), .int (F 19), .int (F 20), .ref (ad 21), .ref (ad 22), .int (F 23), .int (F 24), .int (F 25), .int (F 26), .int (F 27), .ref (ad 28), .ref (ad 29), .ref (ad 30), .int (F 31), .int (F 32), .int (F 33), .int (F 34), .int (F 35), .int (F 36), .int (F 37), .ref (ad 38), .ref (ad 39), .ref (ad 40), .ref (ad 41), .ref (ad 42), .ref (ad 43), .ref (ad 44), .ref (ad 45), .ref (ad 46), .ref (ad 47)] : List Value).set 16 (.int v))) = mW cI cZ ad (upd F 16 v) G := rfl
theorem m_f17 (cI cZ : ClassId) (ad : Nat → Nat) (F : Nat → Int32) (G : Nat → Nat → Int32) (v : Int32) : (mW cI cZ ad F G).set 0 (ad 99, .inr (5, ([.ref (ad 0), .int (F 1), .int (F 2), .ref (ad 3), .ref (ad 4), .ref (ad 5), .int (F 6), .int (F 7), .int (F 8), .ref (ad 9), .ref (ad 10), .ref (ad 11), .ref (ad 12), .ref (ad 13), .ref (ad 14), .ref (ad 15), .int (F 16), .int (F 17), .int (F 18), .int (F 19), .int (F 20), .ref (ad 21), .ref (ad 22), .int (F 23), .int (F 24), .int (F 25), .int (F 26), .int (F 27), .ref (ad 28), .ref (ad 29), .ref (ad 30), .int (F 31), .int (F 32), .int (F 33), .int (F 34), .int (F 35), .int (F 36), .int (F 37), .ref (ad 38), .ref (ad 39), .ref (ad 40), .ref (ad 41), .ref (ad 42), .ref (ad 43), .ref (ad 44), .ref (ad 45), .ref (ad 46), .ref (ad 47)] : List Value).set 17 (.int v))) = mW cI cZ ad (upd F 17 v) G := rfl
theorem m_f18 (cI cZ : ClassId) (ad : Nat → Nat) (F : Nat → Int32) (G : Nat → Nat → Int32) (v : Int32) : (mW cI cZ ad F G).set 0 (ad 99, .inr (5, ([.ref (ad 0), .int (F 1), .int (F 2), .ref (ad 3), .ref (ad 4), .ref (ad 5), .int (F 6), .int (F 7), .int (F 8), .ref (ad 9), .ref (ad 10), .ref (ad 11), .ref (ad 12), .ref (ad 13), .ref (ad 14), .ref (ad 15), .int (F 16), .int (F 17), .int (F 18), .int (F 19), .int (F 20), .ref (ad 21), .ref (ad 22), .int (F 23), .int (F 24), .int (F 25), .int (F 26), .int (F 27), .ref (ad 28), .ref (ad 29), .ref (ad 30), .int (F 31), .int (F 32), .int (F 33), .int (F 34), .int (F 35), .int (F 36), .int (F 37), .ref (ad 38), .ref (ad 39), .ref (ad 40), .ref (ad 41), .ref (ad 42), .ref (ad 43), .ref (ad 44), .ref (ad 45), .ref (ad 46), .ref (ad 47)] : List Value).set 18 (.int v))) = mW cI cZ ad (upd F 18 v) G := rfl
theorem m_f19 (cI cZ : ClassId) (ad : Nat → Nat) (F : Nat → Int32) (G : Nat → Nat → Int32) (v : Int32) : (mW cI cZ ad F G).set 0 (ad 99, .inr (5, ([.ref (ad 0), .int (F 1), .int (F 2), .ref (ad 3), .ref (ad 4), .ref (ad 5), .int (F 6), .int (F 7), .int (F 8), .ref (ad 9), .ref (ad 10), .ref (ad 11), .ref (ad 12), .ref (ad 13), .ref (ad 14), .ref (ad 15), .int (F 16), .int (F 17), .int (F 18), .int (F 19), .int (F 20), .ref (ad 21), .ref (ad 22), .int (F 23), .int (F 24), .int (F 25), .int (F 26), .int (F 27), .ref (ad 28), .ref (ad 29), .ref (ad 30), .int (F 31), .int (F 32), .int (F 33), .int (F 34), .int (F 35), .int (F 36), .int (F 37), .ref (ad 38), .ref (ad 39), .ref (ad 40), .ref (ad 41), .ref (ad 42), .ref (ad 43), .ref (ad 44), .ref (ad 45), .ref (ad 46), .ref (ad 47)] : List Value).set 19 (.int v))) = mW cI cZ ad (upd F 19 v) G := rfl
theorem m_f20 (cI cZ : ClassId) (ad : Nat → Nat) (F : Nat → Int32) (G : Nat → Nat → Int32) (v : Int32) : (mW cI cZ ad F G).set 0 (ad 99, .inr (5, ([.ref (ad 0), .int (F 1), .int (F 2), .ref (ad 3), .ref (ad 4), .ref (ad 5), .int (F 6), .int (F 7), .int (F 8), .ref (ad 9), .ref (ad 10), .ref (ad 11), .ref (ad 12), .ref (ad 13), .ref (ad 14), .ref (ad 15), .int (F 16), .int (F 17), .int (F 18), .int (F 19), .int (F 20), .ref (ad 21), .ref (ad 22), .int (F 23), .int (F 24), .int (F 25), .int (F 26), .int (F 27), .ref (ad 28), .ref (ad 29), .ref (ad 30), .int (F 31), .int (F 32), .int (F 33), .int (F 34), .int (F 35), .int (F 36), .int (F 37), .ref (ad 38), .ref (ad 39), .ref (ad 40), .ref (ad 41), .ref (ad 42), .ref (ad 43), .ref (ad 44), .ref (ad 45), .ref (ad 46), .ref (ad 47)] : List Value).set 20 (.int v))) = mW cI cZ ad (upd F 20 v) G := rfl
theorem m_f23 (cI cZ : ClassId) (ad : Nat → Nat) (F : Nat → Int32) (G : Nat → Nat → Int32) (v : Int32) : (mW cI cZ ad F G).set 0 (ad 99, .inr (5, ([.ref (ad 0), .int (F 1), .int (F 2), .ref (ad 3), .ref (ad 4), .ref (ad 5), .int (F 6), .int (F 7), .int (F 8), .ref (ad 9), .ref (ad 10), .ref (ad 11), .ref (ad 12), .ref (ad 13), .ref (ad 14), .ref (ad 15), .int (F 16), .int (F 17), .int (F 18), .int (F 19), .int (F 20), .ref (ad 21), .ref (ad 22), .int (F 23), .int (F 24), .int (F 25), .int (F 26), .int (F 27), .ref (ad 28), .ref (ad 29), .ref (ad 30), .int (F 31), .int (F 32), .int (F 33), .int (F 34), .int (F 35), .int (F 36), .int (F 37), .ref (ad 38), .ref (ad 39), .ref (ad 40), .ref (ad 41), .ref (ad 42), .ref (ad 43), .ref (ad 44), .ref (ad 45), .ref (ad 46), .ref (ad 47)] : List Value).set 23 (.int v))) = mW cI cZ ad (upd F 23 v) G := rfl
theorem m_f24 (cI cZ : ClassId) (ad : Nat → Nat) (F : Nat → Int32) (G : Nat → Nat → Int32) (v : Int32) : (mW cI cZ ad F G).set 0 (ad 99, .inr (5, ([.ref (ad 0), .int (F 1), .int (F 2), .ref (ad 3), .ref (ad 4), .ref (ad 5), .int (F 6), .int (F 7), .int (F 8), .ref (ad 9), .ref (ad 10), .ref (ad 11), .ref (ad 12), .ref (ad 13), .ref (ad 14), .ref (ad 15), .int (F 16), .int (F 17), .int (F 18), .int (F 19), .int (F 20), .ref (ad 21), .ref (ad 22), .int (F 23), .int (F 24), .int (F 25), .int (F 26), .int (F 27), .ref (ad 28), .ref (ad 29), .ref (ad 30), .int (F 31), .int (F 32), .int (F 33), .int (F 34), .int (F 35), .int (F 36), .int (F 37), .ref (ad 38), .ref (ad 39), .ref (ad 40), .ref (ad 41), .ref (ad 42), .ref (ad 43), .ref (ad 44), .ref (ad 45), .ref (ad 46), .ref (ad 47)] : List Value).set 24 (.int v))) = mW cI cZ ad (upd F 24 v) G := rfl
theorem m_f25 (cI cZ : ClassId) (ad : Nat → Nat) (F : Nat → Int32) (G : Nat → Nat → Int32) (v : Int32) : (mW cI cZ ad F G).set 0 (ad 99, .inr (5, ([.ref (ad 0), .int (F 1), .int (F 2), .ref (ad 3), .ref (ad 4), .ref (ad 5), .int (F 6), .int (F 7), .int (F 8), .ref (ad 9), .ref (ad 10), .ref (ad 11), .ref (ad 12), .ref (ad 13), .ref (ad 14), .ref (ad 15), .int (F 16), .int (F 17), .int (F 18), .int (F 19), .int (F 20), .ref (ad 21), .ref (ad 22), .int (F 23), .int (F 24), .int (F 25), .int (F 26), .int (F 27), .ref (ad 28), .ref (ad 29), .ref (ad 30), .int (F 31), .int (F 32), .int (F 33), .int (F 34), .int (F 35), .int (F 36), .int (F 37), .ref (ad 38), .ref (ad 39), .ref (ad 40), .ref (ad 41), .ref (ad 42), .ref (ad 43), .ref (ad 44), .ref (ad 45), .ref (ad 46), .ref (ad 47)] : List Value).set 25 (.int v))) = mW cI cZ ad (upd F 25 v) G := rfl
theorem m_f26 (cI cZ : ClassId) (ad : Nat → Nat) (F : Nat → Int32) (G : Nat → Nat → Int32) (v : Int32) : (mW cI cZ ad F G).set 0 (ad 99, .inr (5, ([.ref (ad 0), .int (F 1), .int (F 2), .ref (ad 3), .ref (ad 4), .ref (ad 5), .int (F 6), .int (F 7), .int (F 8), .ref (ad 9), .ref (ad 10), .ref (ad 11), .ref (ad 12), .ref (ad 13), .ref (ad 14), .ref (ad 15), .int (F 16), .int (F 17), .int (F 18), .int (F 19), .int (F 20), .ref (ad 21), .ref (ad 22), .int (F 23), .int (F 24), .int (F 25), .int (F 26), .int (F 27), .ref (ad 28), .ref (ad 29), .ref (ad 30), .int (F 31), .int (F 32), .int (F 33), .int (F 34), .int (F 35), .int (F 36), .int (F 37), .ref (ad 38), .ref (ad 39), .ref (ad 40), .ref (ad 41), .ref (ad 42), .ref (ad 43), .ref (ad 44), .ref (ad 45), .ref (ad 46), .ref (ad 47)] : List Value).set 26 (.int v))) = mW cI cZ ad (upd F 26 v) G := rfl
theorem m_f27 (cI cZ : ClassId) (ad : Nat → Nat) (F : Nat → Int32) (G : Nat → Nat → Int32) (v : Int32) : (mW cI cZ ad F G).set 0 (ad 99, .inr (5, ([.ref (ad 0), .int (F 1), .int (F 2), .ref (ad 3), .ref (ad 4), .ref (ad 5), .int (F 6), .int (F 7), .int (F 8), .ref (ad 9), .ref (ad 10), .ref (ad 11), .ref (ad 12), .ref (ad 13), .ref (ad 14), .ref (ad 15), .int (F 16), .int (F 17), .int (F 18), .int (F 19), .int (F 20), .ref (ad 21), .ref (ad 22), .int (F 23), .int (F 24), .int (F 25), .int (F 26), .int (F 27), .ref (ad 28), .ref (ad 29), .ref (ad 30), .int (F 31), .int (F 32), .int (F 33), .int (F 34), .int (F 35), .int (F 36), .int (F 37), .ref (ad 38), .ref (ad 39), .ref (ad 40), .ref (ad 41), .ref (ad 42), .ref (ad 43), .ref (ad 44), .ref (ad 45), .ref (ad 46), .ref (ad 47)] : List Value).set 27 (.int v))) = mW cI cZ ad (upd F 27 v) G := rfl
theorem m_f31 (cI cZ : ClassId) (ad : Nat → Nat) (F : Nat → Int32) (G : Nat → Nat → Int32) (v : Int32) : (mW cI cZ ad F G).set 0 (ad 99, .inr (5, ([.ref (ad 0), .int (F 1), .int (F 2), .ref (ad 3), .ref (ad 4), .ref (ad 5), .int (F 6), .int (F 7), .int (F 8), .ref (ad 9), .ref (ad 10), .ref (ad 11), .ref (ad 12), .ref (ad 13), .ref (ad 14), .ref (ad 15), .int (F 16), .int (F 17), .int (F 18), .int (F 19), .int (F 20), .ref (ad 21), .ref (ad 22), .int (F 23), .int (F 24), .int (F 25), .int (F 26), .int (F 27), .ref (ad 28), .ref (ad 29), .ref (ad 30), .int (F 31), .int (F 32), .int (F 33), .int (F 34), .int (F 35), .int (F 36), .int (F 37), .ref (ad 38), .ref (ad 39), .ref (ad 40), .ref (ad 41), .ref (ad 42), .ref (ad 43), .ref (ad 44), .ref (ad 45), .ref (ad 46), .ref (ad 47)] : List Value).set 31 (.int v))) = mW cI cZ ad (upd F 31 v) G := rfl
theorem m_f32 (cI cZ : ClassId) (ad : Nat → Nat) (F : Nat → Int32) (G : Nat → Nat → Int32) (v : Int32) : (mW cI cZ ad F G).set 0 (ad 99, .inr (5, ([.ref (ad 0), .int (F 1), .int (F 2), .ref (ad 3), .ref (ad 4), .ref (ad 5), .int (F 6), .int (F 7), .int (F 8), .ref (ad 9), .ref (ad 10), .ref (ad 11), .ref (ad 12), .ref (ad 13), .ref (ad 14), .ref (ad 15), .int (F 16), .int (F 17), .int (F 18), .int (F 19), .int (F 20), .ref (ad 21), .ref (ad 22), .int (F 23), .int (F 24), .int (F 25), .int (F 26), .int (F 27), .ref (ad 28), .ref (ad 29), .ref (ad 30), .int (F 31), .int (F 32), .int (F 33), .int (F 34), .int (F 35), .int (F 36), .int (F 37), .ref (ad 38), .ref (ad 39), .ref (ad 40), .ref (ad 41), .ref (ad 42), .ref (ad 43), .ref (ad 44), .ref (ad 45), .ref (ad 46), .ref (ad 47)] : List Value).set 32 (.int v))) = mW cI cZ ad (upd F 32 v) G := rfl
theorem m_f33 (cI cZ : ClassId) (ad : Nat → Nat) (F : Nat → Int32) (G : Nat → Nat → Int32) (v : Int32) : (mW cI cZ ad F G).set 0 (ad 99, .inr (5, ([.ref (ad 0), .int (F 1), .int (F 2), .ref (ad 3), .ref (ad 4), .ref (ad 5), .int (F 6), .int (F 7), .int (F 8), .ref (ad 9), .ref (ad 10), .ref (ad 11), .ref (ad 12), .ref (ad 13), .ref (ad 14), .ref (ad 15), .int (F 16), .int (F 17), .int (F 18), .int (F 19), .int (F 20), .ref (ad 21), .ref (ad 22), .int (F 23), .int (F 24), .int (F 25), .int (F 26), .int (F 27), .ref (ad 28), .ref (ad 29), .ref (ad 30), .int (F 31), .int (F 32), .int (F 33), .int (F 34), .int (F 35), .int (F 36), .int (F 37), .ref (ad 38), .ref (ad 39), .ref (ad 40), .ref (ad 41), .ref (ad 42), .ref (ad 43), .ref (ad 44), .ref (ad 45), .ref (ad 46), .ref (ad 47)] : List Value).set 33 (.int v))) = mW cI cZ ad (upd F 33 v) G := rfl
theorem m_f34 (cI cZ : ClassId) (ad : Nat → Nat) (F : Nat → Int32) (G : Nat → Nat → Int32) (v : Int32) : (mW cI cZ ad F G).set 0 (ad 99, .inr (5, ([.ref (ad 0), .int (F 1), .int (F 2), .ref (ad 3), .ref (ad 4), .ref (ad 5), .int (F 6), .int (F 7), .int (F 8), .ref (ad 9), .ref (ad 10), .ref (ad 11), .ref (ad 12), .ref (ad 13), .ref (ad 14), .ref (ad 15), .int (F 16), .int (F 17), .int (F 18), .int (F 19), .int (F 20), .ref (ad 21), .ref (ad 22), .int (F 23), .int (F 24), .int (F 25), .int (F 26), .int (F 27), .ref (ad 28), .ref (ad 29), .ref (ad 30), .int (F 31), .int (F 32), .int (F 33), .int (F 34), .int (F 35), .int (F 36), .int (F 37), .ref (ad 38), .ref (ad 39), .ref (ad 40), .ref (ad 41), .ref (ad 42), .ref (ad 43), .ref (ad 44), .ref (ad 45), .ref (ad 46), .ref (ad 47)] : List Value).set 34 (.int v))) = mW cI cZ ad (upd F 34 v) G := rfl
theorem m_f35 (cI cZ : ClassId) (ad : Nat → Nat) (F : Nat → Int32) (G : Nat → Nat → Int32) (v : Int32) : (mW cI cZ ad F G).set 0 (ad 99, .inr (5, ([.ref (ad 0), .int (F 1), .int (F 2), .ref (ad 3), .ref (ad 4), .ref (ad 5), .int (F 6), .int (F 7), .int (F 8), .ref (ad 9), .ref (ad 10), .ref (ad 11), .ref (ad 12), .ref (ad 13), .ref (ad 14), .ref (ad 15), .int (F 16), .int (F 17), .int (F 18), .int (F 19), .int (F 20), .ref (ad 21), .ref (ad 22), .int (F 23), .int (F 24), .int (F 25), .int (F 26), .int (F 27), .ref (ad 28), .ref (ad 29), .ref (ad 30), .int (F 31), .int (F 32), .int (F 33), .int (F 34), .int (F 35), .int (F 36), .int (F 37), .ref (ad 38), .ref (ad 39), .ref (ad 40), .ref (ad 41), .ref (ad 42), .ref (ad 43), .ref (ad 44), .ref (ad 45), .ref (ad 46), .ref (ad 47)] : List Value).set 35 (.int v))) = mW cI cZ ad (upd F 35 v) G := rfl
theorem m_f36 (cI cZ : ClassId) (ad : Nat → Nat) (F : Nat → Int32) (G : Nat → Nat → Int32) (v : Int32) : (mW cI cZ ad F G).set 0 (ad 99, .inr (5, ([.ref (ad 0), .int (F 1), .int (F 2), .ref (ad 3), .ref (ad 4), .ref (ad 5), .int (F 6), .int (F 7), .int (F 8), .ref (ad 9), .ref (ad 10), .ref (ad 11), .ref (ad 12), .ref (ad 13), .ref (ad 14), .ref (ad 15), .int (F 16), .int (F 17), .int (F 18), .int (F 19), .int (F 20), .ref (ad 21), .ref (ad 22), .int (F 23), .int (F 24), .int (F 25), .int (F 26), .int (F 27), .ref (ad 28), .ref (ad 29), .ref (ad 30), .int (F 31), .int (F 32), .int (F 33), .int (F 34), .int (F 35), .int (F 36), .int (F 37), .ref (ad 38), .ref (ad 39), .ref (ad 40), .ref (ad 41), .ref (ad 42), .ref (ad 43), .ref (ad 44), .ref (ad 45), .ref (ad 46), .ref (ad 47)] : List Value).set 36 (.int v))) = mW cI cZ ad (upd F 36 v) G := rfl
theorem m_f37 (cI cZ : ClassId) (ad : Nat → Nat) (F : Nat → Int32) (G : Nat → Nat → Int32) (v : Int32) : (mW cI cZ ad F G).set 0 (ad 99, .inr (5, ([.ref (ad 0), .int (F 1), .int (F 2), .ref (ad 3), .ref (ad 4), .ref (ad 5), .int (F 6), .int (F 7), .int (F 8), .ref (ad 9), .ref (ad 10), .ref (ad 11), .ref (ad 12), .ref (ad 13), .ref (ad 14), .ref (ad 15), .int (F 16), .int (F 17), .int (F 18), .int (F 19), .int (F 20), .ref (ad 21), .ref (ad 22), .int (F 23), .int (F 24), .int (F 25), .int (F 26), .int (F 27), .ref (ad 28), .ref (ad 29), .ref (ad 30), .int (F 31), .int (F 32), .int (F 33), .int (F 34), .int (F 35), .int (F 36), .int (F 37), .ref (ad 38), .ref (ad 39), .ref (ad 40), .ref (ad 41), .ref (ad 42), .ref (ad 43), .ref (ad 44), .ref (ad 45), .ref (ad 46), .ref (ad 47)] : List Value).set 37 (.int v))) = mW cI cZ ad (upd F 37 v) G := rfl
theorem m_a0 (cI cZ : ClassId) (ad : Nat → Nat) (F : Nat → Int32) (G : Nat → Nat → Int32) : (mW cI cZ ad F G)[1]? = some (ad 0, .inl (cI, 144, .inl (G 0))) := rfl
theorem m_g0 (cI cZ : ClassId) (ad : Nat → Nat) (F : Nat → Int32) (G : Nat → Nat → Int32) (x : Int32) (j : Nat) : (mW cI cZ ad F G).set 1 (ad 0, .inl (cI, 144, .inl (upd (G 0) j x))) = mW cI cZ ad F (qG G 0 j x) := rfl
theorem m_a3 (cI cZ : ClassId) (ad : Nat → Nat) (F : Nat → Int32) (G : Nat → Nat → Int32) : (mW cI cZ ad F G)[2]? = some (ad 3, .inl (cI, 6, .inl (G 3))) := rfl
theorem m_g3 (cI cZ : ClassId) (ad : Nat → Nat) (F : Nat → Int32) (G : Nat → Nat → Int32) (x : Int32) (j : Nat) : (mW cI cZ ad F G).set 2 (ad 3, .inl (cI, 6, .inl (upd (G 3) j x))) = mW cI cZ ad F (qG G 3 j x) := rfl
theorem m_a4 (cI cZ : ClassId) (ad : Nat → Nat) (F : Nat → Int32) (G : Nat → Nat → Int32) : (mW cI cZ ad F G)[3]? = some (ad 4, .inl (cI, 6, .inl (G 4))) := rfl
theorem m_g4 (cI cZ : ClassId) (ad : Nat → Nat) (F : Nat → Int32) (G : Nat → Nat → Int32) (x : Int32) (j : Nat) : (mW cI cZ ad F G).set 3 (ad 4, .inl (cI, 6, .inl (upd (G 4) j x))) = mW cI cZ ad F (qG G 4 j x) := rfl
theorem m_a5 (cI cZ : ClassId) (ad : Nat → Nat) (F : Nat → Int32) (G : Nat → Nat → Int32) : (mW cI cZ ad F G)[4]? = some (ad 5, .inl (cI, 6, .inl (G 5))) := rfl
theorem m_g5 (cI cZ : ClassId) (ad : Nat → Nat) (F : Nat → Int32) (G : Nat → Nat → Int32) (x : Int32) (j : Nat) : (mW cI cZ ad F G).set 4 (ad 5, .inl (cI, 6, .inl (upd (G 5) j x))) = mW cI cZ ad F (qG G 5 j x) := rfl
theorem m_a9 (cI cZ : ClassId) (ad : Nat → Nat) (F : Nat → Int32) (G : Nat → Nat → Int32) : (mW cI cZ ad F G)[5]? = some (ad 9, .inl (cI, 144, .inl (G 9))) := rfl
theorem m_g9 (cI cZ : ClassId) (ad : Nat → Nat) (F : Nat → Int32) (G : Nat → Nat → Int32) (x : Int32) (j : Nat) : (mW cI cZ ad F G).set 5 (ad 9, .inl (cI, 144, .inl (upd (G 9) j x))) = mW cI cZ ad F (qG G 9 j x) := rfl
theorem m_a10 (cI cZ : ClassId) (ad : Nat → Nat) (F : Nat → Int32) (G : Nat → Nat → Int32) : (mW cI cZ ad F G)[6]? = some (ad 10, .inl (cI, 144, .inl (G 10))) := rfl
theorem m_g10 (cI cZ : ClassId) (ad : Nat → Nat) (F : Nat → Int32) (G : Nat → Nat → Int32) (x : Int32) (j : Nat) : (mW cI cZ ad F G).set 6 (ad 10, .inl (cI, 144, .inl (upd (G 10) j x))) = mW cI cZ ad F (qG G 10 j x) := rfl
theorem m_a11 (cI cZ : ClassId) (ad : Nat → Nat) (F : Nat → Int32) (G : Nat → Nat → Int32) : (mW cI cZ ad F G)[7]? = some (ad 11, .inl (cI, 144, .inl (G 11))) := rfl
theorem m_g11 (cI cZ : ClassId) (ad : Nat → Nat) (F : Nat → Int32) (G : Nat → Nat → Int32) (x : Int32) (j : Nat) : (mW cI cZ ad F G).set 7 (ad 11, .inl (cI, 144, .inl (upd (G 11) j x))) = mW cI cZ ad F (qG G 11 j x) := rfl
theorem m_a12 (cI cZ : ClassId) (ad : Nat → Nat) (F : Nat → Int32) (G : Nat → Nat → Int32) : (mW cI cZ ad F G)[8]? = some (ad 12, .inl (cI, 144, .inl (G 12))) := rfl
theorem m_g12 (cI cZ : ClassId) (ad : Nat → Nat) (F : Nat → Int32) (G : Nat → Nat → Int32) (x : Int32) (j : Nat) : (mW cI cZ ad F G).set 8 (ad 12, .inl (cI, 144, .inl (upd (G 12) j x))) = mW cI cZ ad F (qG G 12 j x) := rfl
theorem m_a13 (cI cZ : ClassId) (ad : Nat → Nat) (F : Nat → Int32) (G : Nat → Nat → Int32) : (mW cI cZ ad F G)[9]? = some (ad 13, .inl (cI, 144, .inl (G 13))) := rfl
theorem m_g13 (cI cZ : ClassId) (ad : Nat → Nat) (F : Nat → Int32) (G : Nat → Nat → Int32) (x : Int32) (j : Nat) : (mW cI cZ ad F G).set 9 (ad 13, .inl (cI, 144, .inl (upd (G 13) j x))) = mW cI cZ ad F (qG G 13 j x) := rfl
theorem m_a14 (cI cZ : ClassId) (ad : Nat → Nat) (F : Nat → Int32) (G : Nat → Nat → Int32) : (mW cI cZ ad F G)[10]? = some (ad 14, .inl (cI, 144, .inl (G 14))) := rfl
theorem m_g14 (cI cZ : ClassId) (ad : Nat → Nat) (F : Nat → Int32) (G : Nat → Nat → Int32) (x : Int32) (j : Nat) : (mW cI cZ ad F G).set 10 (ad 14, .inl (cI, 144, .inl (upd (G 14) j x))) = mW cI cZ ad F (qG G 14 j x) := rfl
theorem m_a15 (cI cZ : ClassId) (ad : Nat → Nat) (F : Nat → Int32) (G : Nat → Nat → Int32) : (mW cI cZ ad F G)[11]? = some (ad 15, .inl (cI, 144, .inl (G 15))) := rfl
theorem m_g15 (cI cZ : ClassId) (ad : Nat → Nat) (F : Nat → Int32) (G : Nat → Nat → Int32) (x : Int32) (j : Nat) : (mW cI cZ ad F G).set 11 (ad 15, .inl (cI, 144, .inl (upd (G 15) j x))) = mW cI cZ ad F (qG G 15 j x) := rfl
theorem m_a21 (cI cZ : ClassId) (ad : Nat → Nat) (F : Nat → Int32) (G : Nat → Nat → Int32) : (mW cI cZ ad F G)[12]? = some (ad 21, .inl (cI, 150, .inl (G 21))) := rfl
theorem m_g21 (cI cZ : ClassId) (ad : Nat → Nat) (F : Nat → Int32) (G : Nat → Nat → Int32) (x : Int32) (j : Nat) : (mW cI cZ ad F G).set 12 (ad 21, .inl (cI, 150, .inl (upd (G 21) j x))) = mW cI cZ ad F (qG G 21 j x) := rfl
theorem m_a22 (cI cZ : ClassId) (ad : Nat → Nat) (F : Nat → Int32) (G : Nat → Nat → Int32) : (mW cI cZ ad F G)[13]? = some (ad 22, .inl (cI, 900, .inl (G 22))) := rfl
theorem m_g22 (cI cZ : ClassId) (ad : Nat → Nat) (F : Nat → Int32) (G : Nat → Nat → Int32) (x : Int32) (j : Nat) : (mW cI cZ ad F G).set 13 (ad 22, .inl (cI, 900, .inl (upd (G 22) j x))) = mW cI cZ ad F (qG G 22 j x) := rfl
theorem m_a28 (cI cZ : ClassId) (ad : Nat → Nat) (F : Nat → Int32) (G : Nat → Nat → Int32) : (mW cI cZ ad F G)[14]? = some (ad 28, .inl (cI, 8, .inl (G 28))) := rfl
theorem m_g28 (cI cZ : ClassId) (ad : Nat → Nat) (F : Nat → Int32) (G : Nat → Nat → Int32) (x : Int32) (j : Nat) : (mW cI cZ ad F G).set 14 (ad 28, .inl (cI, 8, .inl (upd (G 28) j x))) = mW cI cZ ad F (qG G 28 j x) := rfl
theorem m_a29 (cI cZ : ClassId) (ad : Nat → Nat) (F : Nat → Int32) (G : Nat → Nat → Int32) : (mW cI cZ ad F G)[15]? = some (ad 29, .inl (cI, 6, .inl (G 29))) := rfl
theorem m_g29 (cI cZ : ClassId) (ad : Nat → Nat) (F : Nat → Int32) (G : Nat → Nat → Int32) (x : Int32) (j : Nat) : (mW cI cZ ad F G).set 15 (ad 29, .inl (cI, 6, .inl (upd (G 29) j x))) = mW cI cZ ad F (qG G 29 j x) := rfl
theorem m_a30 (cI cZ : ClassId) (ad : Nat → Nat) (F : Nat → Int32) (G : Nat → Nat → Int32) : (mW cI cZ ad F G)[16]? = some (ad 30, .inl (cI, 6, .inl (G 30))) := rfl
theorem m_g30 (cI cZ : ClassId) (ad : Nat → Nat) (F : Nat → Int32) (G : Nat → Nat → Int32) (x : Int32) (j : Nat) : (mW cI cZ ad F G).set 16 (ad 30, .inl (cI, 6, .inl (upd (G 30) j x))) = mW cI cZ ad F (qG G 30 j x) := rfl
theorem m_a38 (cI cZ : ClassId) (ad : Nat → Nat) (F : Nat → Int32) (G : Nat → Nat → Int32) : (mW cI cZ ad F G)[17]? = some (ad 38, .inl (cI, 144, .inl (G 38))) := rfl
theorem m_g38 (cI cZ : ClassId) (ad : Nat → Nat) (F : Nat → Int32) (G : Nat → Nat → Int32) (x : Int32) (j : Nat) : (mW cI cZ ad F G).set 17 (ad 38, .inl (cI, 144, .inl (upd (G 38) j x))) = mW cI cZ ad F (qG G 38 j x) := rfl
theorem m_a39 (cI cZ : ClassId) (ad : Nat → Nat) (F : Nat → Int32) (G : Nat → Nat → Int32) : (mW cI cZ ad F G)[18]? = some (ad 39, .inl (cI, 144, .inl (G 39))) := rfl
theorem m_g39 (cI cZ : ClassId) (ad : Nat → Nat) (F : Nat → Int32) (G : Nat → Nat → Int32) (x : Int32) (j : Nat) : (mW cI cZ ad F G).set 18 (ad 39, .inl (cI, 144, .inl (upd (G 39) j x))) = mW cI cZ ad F (qG G 39 j x) := rfl
theorem m_a40 (cI cZ : ClassId) (ad : Nat → Nat) (F : Nat → Int32) (G : Nat → Nat → Int32) : (mW cI cZ ad F G)[19]? = some (ad 40, .inl (cI, 144, .inl (G 40))) := rfl
theorem m_g40 (cI cZ : ClassId) (ad : Nat → Nat) (F : Nat → Int32) (G : Nat → Nat → Int32) (x : Int32) (j : Nat) : (mW cI cZ ad F G).set 19 (ad 40, .inl (cI, 144, .inl (upd (G 40) j x))) = mW cI cZ ad F (qG G 40 j x) := rfl
theorem m_a41 (cI cZ : ClassId) (ad : Nat → Nat) (F : Nat → Int32) (G : Nat → Nat → Int32) : (mW cI cZ ad F G)[20]? = some (ad 41, .inl (cI, 144, .inl (G 41))) := rfl
theorem m_g41 (cI cZ : ClassId) (ad : Nat → Nat) (F : Nat → Int32) (G : Nat → Nat → Int32) (x : Int32) (j : Nat) : (mW cI cZ ad F G).set 20 (ad 41, .inl (cI, 144, .inl (upd (G 41) j x))) = mW cI cZ ad F (qG G 41 j x) := rfl
theorem m_a42 (cI cZ : ClassId) (ad : Nat → Nat) (F : Nat → Int32) (G : Nat → Nat → Int32) : (mW cI cZ ad F G)[21]? = some (ad 42, .inl (cI, 144, .inl (G 42))) := rfl
theorem m_g42 (cI cZ : ClassId) (ad : Nat → Nat) (F : Nat → Int32) (G : Nat → Nat → Int32) (x : Int32) (j : Nat) : (mW cI cZ ad F G).set 21 (ad 42, .inl (cI, 144, .inl (upd (G 42) j x))) = mW cI cZ ad F (qG G 42 j x) := rfl
theorem m_a43 (cI cZ : ClassId) (ad : Nat → Nat) (F : Nat → Int32) (G : Nat → Nat → Int32) : (mW cI cZ ad F G)[22]? = some (ad 43, .inl (cI, 144, .inl (G 43))) := rfl
theorem m_g43 (cI cZ : ClassId) (ad : Nat → Nat) (F : Nat → Int32) (G : Nat → Nat → Int32) (x : Int32) (j : Nat) : (mW cI cZ ad F G).set 22 (ad 43, .inl (cI, 144, .inl (upd (G 43) j x))) = mW cI cZ ad F (qG G 43 j x) := rfl
theorem m_a44 (cI cZ : ClassId) (ad : Nat → Nat) (F : Nat → Int32) (G : Nat → Nat → Int32) : (mW cI cZ ad F G)[23]? = some (ad 44, .inl (cI, 144, .inl (G 44))) := rfl
theorem m_g44 (cI cZ : ClassId) (ad : Nat → Nat) (F : Nat → Int32) (G : Nat → Nat → Int32) (x : Int32) (j : Nat) : (mW cI cZ ad F G).set 23 (ad 44, .inl (cI, 144, .inl (upd (G 44) j x))) = mW cI cZ ad F (qG G 44 j x) := rfl
theorem m_a45 (cI cZ : ClassId) (ad : Nat → Nat) (F : Nat → Int32) (G : Nat → Nat → Int32) : (mW cI cZ ad F G)[24]? = some (ad 45, .inl (cI, 150, .inl (G 45))) := rfl
theorem m_g45 (cI cZ : ClassId) (ad : Nat → Nat) (F : Nat → Int32) (G : Nat → Nat → Int32) (x : Int32) (j : Nat) : (mW cI cZ ad F G).set 24 (ad 45, .inl (cI, 150, .inl (upd (G 45) j x))) = mW cI cZ ad F (qG G 45 j x) := rfl
theorem m_a46 (cI cZ : ClassId) (ad : Nat → Nat) (F : Nat → Int32) (G : Nat → Nat → Int32) : (mW cI cZ ad F G)[25]? = some (ad 46, .inl (cI, 900, .inl (G 46))) := rfl
theorem m_g46 (cI cZ : ClassId) (ad : Nat → Nat) (F : Nat → Int32) (G : Nat → Nat → Int32) (x : Int32) (j : Nat) : (mW cI cZ ad F G).set 25 (ad 46, .inl (cI, 900, .inl (upd (G 46) j x))) = mW cI cZ ad F (qG G 46 j x) := rfl
theorem m_a47 (cI cZ : ClassId) (ad : Nat → Nat) (F : Nat → Int32) (G : Nat → Nat → Int32) : (mW cI cZ ad F G)[26]? = some (ad 47, .inl (cZ, 144, .inl (G 47))) := rfl
theorem m_g47 (cI cZ : ClassId) (ad : Nat → Nat) (F : Nat → Int32) (G : Nat → Nat → Int32) (x : Int32) (j : Nat) : (mW cI cZ ad F G).set 26 (ad 47, .inl (cZ, 144, .inl (upd (G 47) j x))) = mW cI cZ ad F (qG G 47 j x) := rfl
/-! the world ch -/
def chW (cI : ClassId) (ad : Nat → Nat) (F : Nat → Int32) (G : Nat → Nat → Int32) : va_W := [(ad 38, .inr (0, [.ref (ad 30), .ref (ad 31), .ref (ad 32), .ref (ad 33), .int (F 34), .int (F 35), .int (F 36), .int (F 37)])), (ad 30, .inl (cI, 144, .inl (G 30))), (ad 31, .inl (cI, 6, .inl (G 31))), (ad 32, .inl (cI, 6, .inl (G 32))), (ad 33, .inl (cI, 6, .inl (G 33)))]
def chR (D : va_G) (cI : ClassId) (ad : Nat → Nat) (F : Nat → Int32) (G : Nat → Nat → Int32) (U : State) : Prop := va_P D vwCl (chW cI ad F G) U.heap ∧ va_K D vwCl [(cI, FieldType.int)] U ∧ nN U
def chA (cI : ClassId) (ad : Nat → Nat) : Nat → Prop := fun q => ∃ (k : Nat) (x : va_E), (chW cI ad (fun _ => 0) (fun _ _ => 0))[k]? = some (q, x)
theorem chW_D {cI : ClassId} {ad : Nat → Nat} (h : va_D (fun _ => True) (chW cI ad (fun _ => 0) (fun _ _ => 0))) (F : Nat → Int32) (G : Nat → Nat → Int32) : va_D (chA cI ad) (chW cI ad F G) := qD h rfl
theorem chR_b {D : va_G} {cI : ClassId} {ad : Nat → Nat} {F : Nat → Int32} {G : Nat → Nat → Int32} {av : List Value} : FrameBlind (va_Pc av (chR D cI ad F G)) := fun aa U g mk q => ⟨q.1, q.2.1, va_K.moved (u := U) (U := U.calling g mk aa) (Vm.Alike.refl U.vm) q.2.2.1, nN_c rfl q.2.2.2⟩
theorem chR_p {D : va_G} {cI : ClassId} {ad : Nat → Nat} {F : Nat → Int32} {G : Nat → Nat → Int32} {av : List Value} {s : State} {H : Heap} (hP : va_P D vwCl (chW cI ad F G) H) (hK : va_K D vwCl [(cI, FieldType.int)] s) (hN : nN s) : PreS s H (va_Pc av (chR D cI ad F G)) av := ⟨chR_b, fun U hU hW => ⟨rfl, by rw [hU]; exact hP, va_K.moved hW.alike hK, nN_w hW hN⟩⟩
theorem ch_o38 (cI : ClassId) (ad : Nat → Nat) (F : Nat → Int32) (G : Nat → Nat → Int32) : (chW cI ad F G)[0]? = some (ad 38, .inr (0, [.ref (ad 30), .ref (ad 31), .ref (ad 32), .ref (ad 33), .int (F 34), .int (F 35), .int (F 36), .int (F 37)])) := rfl
theorem ch_f34 (cI : ClassId) (ad : Nat → Nat) (F : Nat → Int32) (G : Nat → Nat → Int32) (v : Int32) : (chW cI ad F G).set 0 (ad 38, .inr (0, ([.ref (ad 30), .ref (ad 31), .ref (ad 32), .ref (ad 33), .int (F 34), .int (F 35), .int (F 36), .int (F 37)] : List Value).set 4 (.int v))) = chW cI ad (upd F 34 v) G := rfl
theorem ch_f35 (cI : ClassId) (ad : Nat → Nat) (F : Nat → Int32) (G : Nat → Nat → Int32) (v : Int32) : (chW cI ad F G).set 0 (ad 38, .inr (0, ([.ref (ad 30), .ref (ad 31), .ref (ad 32), .ref (ad 33), .int (F 34), .int (F 35), .int (F 36), .int (F 37)] : List Value).set 5 (.int v))) = chW cI ad (upd F 35 v) G := rfl
theorem ch_f36 (cI : ClassId) (ad : Nat → Nat) (F : Nat → Int32) (G : Nat → Nat → Int32) (v : Int32) : (chW cI ad F G).set 0 (ad 38, .inr (0, ([.ref (ad 30), .ref (ad 31), .ref (ad 32), .ref (ad 33), .int (F 34), .int (F 35), .int (F 36), .int (F 37)] : List Value).set 6 (.int v))) = chW cI ad (upd F 36 v) G := rfl
theorem ch_f37 (cI : ClassId) (ad : Nat → Nat) (F : Nat → Int32) (G : Nat → Nat → Int32) (v : Int32) : (chW cI ad F G).set 0 (ad 38, .inr (0, ([.ref (ad 30), .ref (ad 31), .ref (ad 32), .ref (ad 33), .int (F 34), .int (F 35), .int (F 36), .int (F 37)] : List Value).set 7 (.int v))) = chW cI ad (upd F 37 v) G := rfl
theorem ch_a30 (cI : ClassId) (ad : Nat → Nat) (F : Nat → Int32) (G : Nat → Nat → Int32) : (chW cI ad F G)[1]? = some (ad 30, .inl (cI, 144, .inl (G 30))) := rfl
theorem ch_g30 (cI : ClassId) (ad : Nat → Nat) (F : Nat → Int32) (G : Nat → Nat → Int32) (x : Int32) (j : Nat) : (chW cI ad F G).set 1 (ad 30, .inl (cI, 144, .inl (upd (G 30) j x))) = chW cI ad F (qG G 30 j x) := rfl
theorem ch_a31 (cI : ClassId) (ad : Nat → Nat) (F : Nat → Int32) (G : Nat → Nat → Int32) : (chW cI ad F G)[2]? = some (ad 31, .inl (cI, 6, .inl (G 31))) := rfl
theorem ch_g31 (cI : ClassId) (ad : Nat → Nat) (F : Nat → Int32) (G : Nat → Nat → Int32) (x : Int32) (j : Nat) : (chW cI ad F G).set 2 (ad 31, .inl (cI, 6, .inl (upd (G 31) j x))) = chW cI ad F (qG G 31 j x) := rfl
theorem ch_a32 (cI : ClassId) (ad : Nat → Nat) (F : Nat → Int32) (G : Nat → Nat → Int32) : (chW cI ad F G)[3]? = some (ad 32, .inl (cI, 6, .inl (G 32))) := rfl
theorem ch_g32 (cI : ClassId) (ad : Nat → Nat) (F : Nat → Int32) (G : Nat → Nat → Int32) (x : Int32) (j : Nat) : (chW cI ad F G).set 3 (ad 32, .inl (cI, 6, .inl (upd (G 32) j x))) = chW cI ad F (qG G 32 j x) := rfl
theorem ch_a33 (cI : ClassId) (ad : Nat → Nat) (F : Nat → Int32) (G : Nat → Nat → Int32) : (chW cI ad F G)[4]? = some (ad 33, .inl (cI, 6, .inl (G 33))) := rfl
theorem ch_g33 (cI : ClassId) (ad : Nat → Nat) (F : Nat → Int32) (G : Nat → Nat → Int32) (x : Int32) (j : Nat) : (chW cI ad F G).set 4 (ad 33, .inl (cI, 6, .inl (upd (G 33) j x))) = chW cI ad F (qG G 33 j x) := rfl
/-! the world wy -/
def wyW (cI : ClassId) (ad : Nat → Nat) (F : Nat → Int32) (G : Nat → Nat → Int32) : va_W := [(ad 22, .inr (3, [.ref (ad 0), .ref (ad 1), .ref (ad 2), .ref (ad 3), .ref (ad 4), .ref (ad 5), .ref (ad 6), .ref (ad 7), .ref (ad 8), .ref (ad 9), .int (F 10), .int (F 11), .int (F 12), .int (F 13), .int (F 14), .int (F 15), .int (F 16), .int (F 17), .int (F 18)])), (ad 0, .inl (cI, 144, .inl (G 0))), (ad 1, .inl (cI, 144, .inl (G 1))), (ad 2, .inl (cI, 144, .inl (G 2))), (ad 3, .inl (cI, 144, .inl (G 3))), (ad 4, .inl (cI, 144, .inl (G 4))), (ad 5, .inl (cI, 144, .inl (G 5))), (ad 6, .inl (cI, 144, .inl (G 6))), (ad 7, .inl (cI, 864, .inl (G 7))), (ad 8, .inl (cI, 6, .inl (G 8))), (ad 9, .inr (2, [.ref (ad 20), .int (F 21)])), (ad 20, .inl (cI, 4, .inl (G 20)))]
def wyR (D : va_G) (cI : ClassId) (ad : Nat → Nat) (F : Nat → Int32) (G : Nat → Nat → Int32) (U : State) : Prop := va_P D vwCl (wyW cI ad F G) U.heap ∧ va_K D vwCl [(cI, FieldType.int)] U ∧ nN U
def wyA (cI : ClassId) (ad : Nat → Nat) : Nat → Prop := fun q => ∃ (k : Nat) (x : va_E), (wyW cI ad (fun _ => 0) (fun _ _ => 0))[k]? = some (q, x)
theorem wyW_D {cI : ClassId} {ad : Nat → Nat} (h : va_D (fun _ => True) (wyW cI ad (fun _ => 0) (fun _ _ => 0))) (F : Nat → Int32) (G : Nat → Nat → Int32) : va_D (wyA cI ad) (wyW cI ad F G) := qD h rfl
theorem wyR_b {D : va_G} {cI : ClassId} {ad : Nat → Nat} {F : Nat → Int32} {G : Nat → Nat → Int32} {av : List Value} : FrameBlind (va_Pc av (wyR D cI ad F G)) := fun aa U g mk q => ⟨q.1, q.2.1, va_K.moved (u := U) (U := U.calling g mk aa) (Vm.Alike.refl U.vm) q.2.2.1, nN_c rfl q.2.2.2⟩
theorem wyR_p {D : va_G} {cI : ClassId} {ad : Nat → Nat} {F : Nat → Int32} {G : Nat → Nat → Int32} {av : List Value} {s : State} {H : Heap} (hP : va_P D vwCl (wyW cI ad F G) H) (hK : va_K D vwCl [(cI, FieldType.int)] s) (hN : nN s) : PreS s H (va_Pc av (wyR D cI ad F G)) av := ⟨wyR_b, fun U hU hW => ⟨rfl, by rw [hU]; exact hP, va_K.moved hW.alike hK, nN_w hW hN⟩⟩
theorem wy_o22 (cI : ClassId) (ad : Nat → Nat) (F : Nat → Int32) (G : Nat → Nat → Int32) : (wyW cI ad F G)[0]? = some (ad 22, .inr (3, [.ref (ad 0), .ref (ad 1), .ref (ad 2), .ref (ad 3), .ref (ad 4), .ref (ad 5), .ref (ad 6), .ref (ad 7), .ref (ad 8), .ref (ad 9), .int (F 10), .int (F 11), .int (F 12), .int (F 13), .int (F 14), .int (F 15), .int (F 16), .int (F 17), .int (F 18)])) := rfl
theorem wy_f10 (cI : ClassId) (ad : Nat → Nat) (F : Nat → Int32) (G : Nat → Nat → Int32) (v : Int32) : (wyW cI ad F G).set 0 (ad 22, .inr (3, ([.ref (ad 0), .ref (ad 1), .ref (ad 2), .ref (ad 3), .ref (ad 4), .ref (ad 5), .ref (ad 6), .ref (ad 7), .ref (ad 8), .ref (ad 9), .int (F 10), .int (F 11), .int (F 12), .int (F 13), .int (F 14), .int (F 15), .int (F 16), .int (F 17), .int (F 18)] : List Value).set 10 (.int v))) = wyW cI ad (upd F 10 v) G := rfl
theorem wy_f11 (cI : ClassId) (ad : Nat → Nat) (F : Nat → Int32) (G : Nat → Nat → Int32) (v : Int32) : (wyW cI ad F G).set 0 (ad 22, .inr (3, ([.ref (ad 0), .ref (ad 1), .ref (ad 2), .ref (ad 3), .ref (ad 4), .ref (ad 5), .ref (ad 6), .ref (ad 7), .ref (ad 8), .ref (ad 9), .int (F 10), .int (F 11), .int (F 12), .int (F 13), .int (F 14), .int (F 15), .int (F 16), .int (F 17), .int (F 18)] : List Value).set 11 (.int v))) = wyW cI ad (upd F 11 v) G := rfl
theorem wy_f12 (cI : ClassId) (ad : Nat → Nat) (F : Nat → Int32) (G : Nat → Nat → Int32) (v : Int32) : (wyW cI ad F G).set 0 (ad 22, .inr (3, ([.ref (ad 0), .ref (ad 1), .ref (ad 2), .ref (ad 3), .ref (ad 4), .ref (ad 5), .ref (ad 6), .ref (ad 7), .ref (ad 8), .ref (ad 9), .int (F 10), .int (F 11), .int (F 12), .int (F 13), .int (F 14), .int (F 15), .int (F 16), .int (F 17), .int (F 18)] : List Value).set 12 (.int v))) = wyW cI ad (upd F 12 v) G := rfl
theorem wy_f13 (cI : ClassId) (ad : Nat → Nat) (F : Nat → Int32) (G : Nat → Nat → Int32) (v : Int32) : (wyW cI ad F G).set 0 (ad 22, .inr (3, ([.ref (ad 0), .ref (ad 1), .ref (ad 2), .ref (ad 3), .ref (ad 4), .ref (ad 5), .ref (ad 6), .ref (ad 7), .ref (ad 8), .ref (ad 9), .int (F 10), .int (F 11), .int (F 12), .int (F 13), .int (F 14), .int (F 15), .int (F 16), .int (F 17), .int (F 18)] : List Value).set 13 (.int v))) = wyW cI ad (upd F 13 v) G := rfl
theorem wy_f14 (cI : ClassId) (ad : Nat → Nat) (F : Nat → Int32) (G : Nat → Nat → Int32) (v : Int32) : (wyW cI ad F G).set 0 (ad 22, .inr (3, ([.ref (ad 0), .ref (ad 1), .ref (ad 2), .ref (ad 3), .ref (ad 4), .ref (ad 5), .ref (ad 6), .ref (ad 7), .ref (ad 8), .ref (ad 9), .int (F 10), .int (F 11), .int (F 12), .int (F 13), .int (F 14), .int (F 15), .int (F 16), .int (F 17), .int (F 18)] : List Value).set 14 (.int v))) = wyW cI ad (upd F 14 v) G := rfl
theorem wy_f15 (cI : ClassId) (ad : Nat → Nat) (F : Nat → Int32) (G : Nat → Nat → Int32) (v : Int32) : (wyW cI ad F G).set 0 (ad 22, .inr (3, ([.ref (ad 0), .ref (ad 1), .ref (ad 2), .ref (ad 3), .ref (ad 4), .ref (ad 5), .ref (ad 6), .ref (ad 7), .ref (ad 8), .ref (ad 9), .int (F 10), .int (F 11), .int (F 12), .int (F 13), .int (F 14), .int (F 15), .int (F 16), .int (F 17), .int (F 18)] : List Value).set 15 (.int v))) = wyW cI ad (upd F 15 v) G := rfl
theorem wy_f16 (cI : ClassId) (ad : Nat → Nat) (F : Nat → Int32) (G : Nat → Nat → Int32) (v : Int32) : (wyW cI ad F G).set 0 (ad 22, .inr (3, ([.ref (ad 0), .ref (ad 1), .ref (ad 2), .ref (ad 3), .ref (ad 4), .ref (ad 5), .ref (ad 6), .ref (ad 7), .ref (ad 8), .ref (ad 9), .int (F 10), .int (F 11), .int (F 12), .int (F 13), .int (F 14), .int (F 15), .int (F 16), .int (F 17), .int (F 18)] : List Value).set 16 (.int v))) = wyW cI ad (upd F 16 v) G := rfl
theorem wy_f17 (cI : ClassId) (ad : Nat → Nat) (F : Nat → Int32) (G : Nat → Nat → Int32) (v : Int32) : (wyW cI ad F G).set 0 (ad 22, .inr (3, ([.ref (ad 0), .ref (ad 1), .ref (ad 2), .ref (ad 3), .ref (ad 4), .ref (ad 5), .ref (ad 6), .ref (ad 7), .ref (ad 8), .ref (ad 9), .int (F 10), .int (F 11), .int (F 12), .int (F 13), .int (F 14), .int (F 15), .int (F 16), .int (F 17), .int (F 18)] : List Value).set 17 (.int v))) = wyW cI ad (upd F 17 v) G := rfl
theorem wy_f18 (cI : ClassId) (ad : Nat → Nat) (F : Nat → Int32) (G : Nat → Nat → Int32) (v : Int32) : (wyW cI ad F G).set 0 (ad 22, .inr (3, ([.ref (ad 0), .ref (ad 1), .ref (ad 2), .ref (ad 3), .ref (ad 4), .ref (ad 5), .ref (ad 6), .ref (ad 7), .ref (ad 8), .ref (ad 9), .int (F 10), .int (F 11), .int (F 12), .int (F 13), .int (F 14), .int (F 15), .int (F 16), .int (F 17), .int (F 18)] : List Value).set 18 (.int v))) = wyW cI ad (upd F 18 v) G := rfl
theorem wy_a0 (cI : ClassId) (ad : Nat → Nat) (F : Nat → Int32) (G : Nat → Nat → Int32) : (wyW cI ad F G)[1]? = some (ad 0, .inl (cI, 144, .inl (G 0))) := rfl
theorem wy_g0 (cI : ClassId) (ad : Nat → Nat) (F : Nat → Int32) (G : Nat → Nat → Int32) (x : Int32) (j : Nat) : (wyW cI ad F G).set 1 (ad 0, .inl (cI, 144, .inl (upd (G 0) j x))) = wyW cI ad F (qG G 0 j x) := rfl
theorem wy_a1 (cI : ClassId) (ad : Nat → Nat) (F : Nat → Int32) (G : Nat → Nat → Int32) : (wyW cI ad F G)[2]? = some (ad 1, .inl (cI, 144, .inl (G 1))) := rfl
theorem wy_g1 (cI : ClassId) (ad : Nat → Nat) (F : Nat → Int32) (G : Nat → Nat → Int32) (x : Int32) (j : Nat) : (wyW cI ad F G).set 2 (ad 1, .inl (cI, 144, .inl (upd (G 1) j x))) = wyW cI ad F (qG G 1 j x) := rfl
theorem wy_a2 (cI : ClassId) (ad : Nat → Nat) (F : Nat → Int32) (G : Nat → Nat → Int32) : (wyW cI ad F G)[3]? = some (ad 2, .inl (cI, 144, .inl (G 2))) := rfl
theorem wy_g2 (cI : ClassId) (ad : Nat → Nat) (F : Nat → Int32) (G : Nat → Nat → Int32) (x : Int32) (j : Nat) : (wyW cI ad F G).set 3 (ad 2, .inl (cI, 144, .inl (upd (G 2) j x))) = wyW cI ad F (qG G 2 j x) := rfl
theorem wy_a3 (cI : ClassId) (ad : Nat → Nat) (F : Nat → Int32) (G : Nat → Nat → Int32) : (wyW cI ad F G)[4]? = some (ad 3, .inl (cI, 144, .inl (G 3))) := rfl
theorem wy_g3 (cI : ClassId) (ad : Nat → Nat) (F : Nat → Int32) (G : Nat → Nat → Int32) (x : Int32) (j : Nat) : (wyW cI ad F G).set 4 (ad 3, .inl (cI, 144, .inl (upd (G 3) j x))) = wyW cI ad F (qG G 3 j x) := rfl
theorem wy_a4 (cI : ClassId) (ad : Nat → Nat) (F : Nat → Int32) (G : Nat → Nat → Int32) : (wyW cI ad F G)[5]? = some (ad 4, .inl (cI, 144, .inl (G 4))) := rfl
theorem wy_g4 (cI : ClassId) (ad : Nat → Nat) (F : Nat → Int32) (G : Nat → Nat → Int32) (x : Int32) (j : Nat) : (wyW cI ad F G).set 5 (ad 4, .inl (cI, 144, .inl (upd (G 4) j x))) = wyW cI ad F (qG G 4 j x) := rfl
theorem wy_a5 (cI : ClassId) (ad : Nat → Nat) (F : Nat → Int32) (G : Nat → Nat → Int32) : (wyW cI ad F G)[6]? = some (ad 5, .inl (cI, 144, .inl (G 5))) := rfl
theorem wy_g5 (cI : ClassId) (ad : Nat → Nat) (F : Nat → Int32) (G : Nat → Nat → Int32) (x : Int32) (j : Nat) : (wyW cI ad F G).set 6 (ad 5, .inl (cI, 144, .inl (upd (G 5) j x))) = wyW cI ad F (qG G 5 j x) := rfl
theorem wy_a6 (cI : ClassId) (ad : Nat → Nat) (F : Nat → Int32) (G : Nat → Nat → Int32) : (wyW cI ad F G)[7]? = some (ad 6, .inl (cI, 144, .inl (G 6))) := rfl
theorem wy_g6 (cI : ClassId) (ad : Nat → Nat) (F : Nat → Int32) (G : Nat → Nat → Int32) (x : Int32) (j : Nat) : (wyW cI ad F G).set 7 (ad 6, .inl (cI, 144, .inl (upd (G 6) j x))) = wyW cI ad F (qG G 6 j x) := rfl
theorem wy_a7 (cI : ClassId) (ad : Nat → Nat) (F : Nat → Int32) (G : Nat → Nat → Int32) : (wyW cI ad F G)[8]? = some (ad 7, .inl (cI, 864, .inl (G 7))) := rfl
theorem wy_g7 (cI : ClassId) (ad : Nat → Nat) (F : Nat → Int32) (G : Nat → Nat → Int32) (x : Int32) (j : Nat) : (wyW cI ad F G).set 8 (ad 7, .inl (cI, 864, .inl (upd (G 7) j x))) = wyW cI ad F (qG G 7 j x) := rfl
theorem wy_a8 (cI : ClassId) (ad : Nat → Nat) (F : Nat → Int32) (G : Nat → Nat → Int32) : (wyW cI ad F G)[9]? = some (ad 8, .inl (cI, 6, .inl (G 8))) := rfl
theorem wy_g8 (cI : ClassId) (ad : Nat → Nat) (F : Nat → Int32) (G : Nat → Nat → Int32) (x : Int32) (j : Nat) : (wyW cI ad F G).set 9 (ad 8, .inl (cI, 6, .inl (upd (G 8) j x))) = wyW cI ad F (qG G 8 j x) := rfl
theorem wy_o9 (cI : ClassId) (ad : Nat → Nat) (F : Nat → Int32) (G : Nat → Nat → Int32) : (wyW cI ad F G)[10]? = some (ad 9, .inr (2, [.ref (ad 20), .int (F 21)])) := rfl
theorem wy_f21 (cI : ClassId) (ad : Nat → Nat) (F : Nat → Int32) (G : Nat → Nat → Int32) (v : Int32) : (wyW cI ad F G).set 10 (ad 9, .inr (2, ([.ref (ad 20), .int (F 21)] : List Value).set 1 (.int v))) = wyW cI ad (upd F 21 v) G := rfl
theorem wy_a20 (cI : ClassId) (ad : Nat → Nat) (F : Nat → Int32) (G : Nat → Nat → Int32) : (wyW cI ad F G)[11]? = some (ad 20, .inl (cI, 4, .inl (G 20))) := rfl
theorem wy_g20 (cI : ClassId) (ad : Nat → Nat) (F : Nat → Int32) (G : Nat → Nat → Int32) (x : Int32) (j : Nat) : (wyW cI ad F G).set 11 (ad 20, .inl (cI, 4, .inl (upd (G 20) j x))) = wyW cI ad F (qG G 20 j x) := rfl
/-! the world kw -/
def kwW (cI : ClassId) (ad : Nat → Nat) (F : Nat → Int32) (G : Nat → Nat → Int32) : va_W := [(ad 22, .inr (3, [.ref (ad 0), .ref (ad 1), .ref (ad 2), .ref (ad 3), .ref (ad 4), .ref (ad 5), .ref (ad 6), .ref (ad 7), .ref (ad 8), .ref (ad 9), .int (F 10), .int (F 11), .int (F 12), .int (F 13), .int (F 14), .int (F 15), .int (F 16), .int (F 17), .int (F 18)])), (ad 0, .inl (cI, 144, .inl (G 0))), (ad 1, .inl (cI, 144, .inl (G 1))), (ad 2, .inl (cI, 144, .inl (G 2))), (ad 3, .inl (cI, 144, .inl (G 3))), (ad 4, .inl (cI, 144, .inl (G 4))), (ad 5, .inl (cI, 144, .inl (G 5))), (ad 6, .inl (cI, 144, .inl (G 6))), (ad 7, .inl (cI, 864, .inl (G 7))), (ad 8, .inl (cI, 6, .inl (G 8))), (ad 9, .inr (2, [.ref (ad 20), .int (F 21)])), (ad 20, .inl (cI, 4, .inl (G 20))), (ad 38, .inr (0, [.ref (ad 30), .ref (ad 31), .ref (ad 32), .ref (ad 33), .int (F 34), .int (F 35), .int (F 36), .int (F 37)])), (ad 30, .inl (cI, 144, .inl (G 30))), (ad 31, .inl (cI, 6, .inl (G 31))), (ad 32, .inl (cI, 6, .inl (G 32))), (ad 33, .inl (cI, 6, .inl (G 33)))]
def kwR (D : va_G) (cI : ClassId) (ad : Nat → Nat) (F : Nat → Int32) (G : Nat → Nat → Int32) (U : State) : Prop := va_P D vwCl (kwW cI ad F G) U.heap ∧ va_K D vwCl [(cI, FieldType.int)] U ∧ nN U
def kwA (cI : ClassId) (ad : Nat → Nat) : Nat → Prop := fun q => ∃ (k : Nat) (x : va_E), (kwW cI ad (fun _ => 0) (fun _ _ => 0))[k]? = some (q, x)
theorem kwW_D {cI : ClassId} {ad : Nat → Nat} (h : va_D (fun _ => True) (kwW cI ad (fun _ => 0) (fun _ _ => 0))) (F : Nat → Int32) (G : Nat → Nat → Int32) : va_D (kwA cI ad) (kwW cI ad F G) := qD h rfl
theorem kwR_b {D : va_G} {cI : ClassId} {ad : Nat → Nat} {F : Nat → Int32} {G : Nat → Nat → Int32} {av : List Value} : FrameBlind (va_Pc av (kwR D cI ad F G)) := fun aa U g mk q => ⟨q.1, q.2.1, va_K.moved (u := U) (U := U.calling g mk aa) (Vm.Alike.refl U.vm) q.2.2.1, nN_c rfl q.2.2.2⟩
theorem kwR_p {D : va_G} {cI : ClassId} {ad : Nat → Nat} {F : Nat → Int32} {G : Nat → Nat → Int32} {av : List Value} {s : State} {H : Heap} (hP : va_P D vwCl (kwW cI ad F G) H) (hK : va_K D vwCl [(cI, FieldType.int)] s) (hN : nN s) : PreS s H (va_Pc av (kwR D cI ad F G)) av := ⟨kwR_b, fun U hU hW => ⟨rfl, by rw [hU]; exact hP, va_K.moved hW.alike hK, nN_w hW hN⟩⟩
theorem kw_o22 (cI : ClassId) (ad : Nat → Nat) (F : Nat → Int32) (G : Nat → Nat → Int32) : (kwW cI ad F G)[0]? = some (ad 22, .inr (3, [.ref (ad 0), .ref (ad 1), .ref (ad 2), .ref (ad 3), .ref (ad 4), .ref (ad 5), .ref (ad 6), .ref (ad 7), .ref (ad 8), .ref (ad 9), .int (F 10), .int (F 11), .int (F 12), .int (F 13), .int (F 14), .int (F 15), .int (F 16), .int (F 17), .int (F 18)])) := rfl
theorem kw_f10 (cI : ClassId) (ad : Nat → Nat) (F : Nat → Int32) (G : Nat → Nat → Int32) (v : Int32) : (kwW cI ad F G).set 0 (ad 22, .inr (3, ([.ref (ad 0), .ref (ad 1), .ref (ad 2), .ref (ad 3), .ref (ad 4), .ref (ad 5), .ref (ad 6), .ref (ad 7), .ref (ad 8), .ref (ad 9), .int (F 10), .int (F 11), .int (F 12), .int (F 13), .int (F 14), .int (F 15), .int (F 16), .int (F 17), .int (F 18)] : List Value).set 10 (.int v))) = kwW cI ad (upd F 10 v) G := rfl
theorem kw_f11 (cI : ClassId) (ad : Nat → Nat) (F : Nat → Int32) (G : Nat → Nat → Int32) (v : Int32) : (kwW cI ad F G).set 0 (ad 22, .inr (3, ([.ref (ad 0), .ref (ad 1), .ref (ad 2), .ref (ad 3), .ref (ad 4), .ref (ad 5), .ref (ad 6), .ref (ad 7), .ref (ad 8), .ref (ad 9), .int (F 10), .int (F 11), .int (F 12), .int (F 13), .int (F 14), .int (F 15), .int (F 16), .int (F 17), .int (F 18)] : List Value).set 11 (.int v))) = kwW cI ad (upd F 11 v) G := rfl
theorem kw_f12 (cI : ClassId) (ad : Nat → Nat) (F : Nat → Int32) (G : Nat → Nat → Int32) (v : Int32) : (kwW cI ad F G).set 0 (ad 22, .inr (3, ([.ref (ad 0), .ref (ad 1), .ref (ad 2), .ref (ad 3), .ref (ad 4), .ref (ad 5), .ref (ad 6), .ref (ad 7), .ref (ad 8), .ref (ad 9), .int (F 10), .int (F 11), .int (F 12), .int (F 13), .int (F 14), .int (F 15), .int (F 16), .int (F 17), .int (F 18)] : List Value).set 12 (.int v))) = kwW cI ad (upd F 12 v) G := rfl
theorem kw_f13 (cI : ClassId) (ad : Nat → Nat) (F : Nat → Int32) (G : Nat → Nat → Int32) (v : Int32) : (kwW cI ad F G).set 0 (ad 22, .inr (3, ([.ref (ad 0), .ref (ad 1), .ref (ad 2), .ref (ad 3), .ref (ad 4), .ref (ad 5), .ref (ad 6), .ref (ad 7), .ref (ad 8), .ref (ad 9), .int (F 10), .int (F 11), .int (F 12), .int (F 13), .int (F 14), .int (F 15), .int (F 16), .int (F 17), .int (F 18)] : List Value).set 13 (.int v))) = kwW cI ad (upd F 13 v) G := rfl
theorem kw_f14 (cI : ClassId) (ad : Nat → Nat) (F : Nat → Int32) (G : Nat → Nat → Int32) (v : Int32) : (kwW cI ad F G).set 0 (ad 22, .inr (3, ([.ref (ad 0), .ref (ad 1), .ref (ad 2), .ref (ad 3), .ref (ad 4), .ref (ad 5), .ref (ad 6), .ref (ad 7), .ref (ad 8), .ref (ad 9), .int (F 10), .int (F 11), .int (F 12), .int (F 13), .int (F 14), .int (F 15), .int (F 16), .int (F 17), .int (F 18)] : List Value).set 14 (.int v))) = kwW cI ad (upd F 14 v) G := rfl
theorem kw_f15 (cI : ClassId) (ad : Nat → Nat) (F : Nat → Int32) (G : Nat → Nat → Int32) (v : Int32) : (kwW cI ad F G).set 0 (ad 22, .inr (3, ([.ref (ad 0), .ref (ad 1), .ref (ad 2), .ref (ad 3), .ref (ad 4), .ref (ad 5), .ref (ad 6), .ref (ad 7), .ref (ad 8), .ref (ad 9), .int (F 10), .int (F 11), .int (F 12), .int (F 13), .int (F 14), .int (F 15), .int (F 16), .int (F 17), .int (F 18)] : List Value).set 15 (.int v))) = kwW cI ad (upd F 15 v) G := rfl
theorem kw_f16 (cI : ClassId) (ad : Nat → Nat) (F : Nat → Int32) (G : Nat → Nat → Int32) (v : Int32) : (kwW cI ad F G).set 0 (ad 22, .inr (3, ([.ref (ad 0), .ref (ad 1), .ref (ad 2), .ref (ad 3), .ref (ad 4), .ref (ad 5), .ref (ad 6), .ref (ad 7), .ref (ad 8), .ref (ad 9), .int (F 10), .int (F 11), .int (F 12), .int (F 13), .int (F 14), .int (F 15), .int (F 16), .int (F 17), .int (F 18)] : List Value).set 16 (.int v))) = kwW cI ad (upd F 16 v) G := rfl
theorem kw_f17 (cI : ClassId) (ad : Nat → Nat) (F : Nat → Int32) (G : Nat → Nat → Int32) (v : Int32) : (kwW cI ad F G).set 0 (ad 22, .inr (3, ([.ref (ad 0), .ref (ad 1), .ref (ad 2), .ref (ad 3), .ref (ad 4), .ref (ad 5), .ref (ad 6), .ref (ad 7), .ref (ad 8), .ref (ad 9), .int (F 10), .int (F 11), .int (F 12), .int (F 13), .int (F 14), .int (F 15), .int (F 16), .int (F 17), .int (F 18)] : List Value).set 17 (.int v))) = kwW cI ad (upd F 17 v) G := rfl
theorem kw_f18 (cI : ClassId) (ad : Nat → Nat) (F : Nat → Int32) (G : Nat → Nat → Int32) (v : Int32) : (kwW cI ad F G).set 0 (ad 22, .inr (3, ([.ref (ad 0), .ref (ad 1), .ref (ad 2), .ref (ad 3), .ref (ad 4), .ref (ad 5), .ref (ad 6), .ref (ad 7), .ref (ad 8), .ref (ad 9), .int (F 10), .int (F 11), .int (F 12), .int (F 13), .int (F 14), .int (F 15), .int (F 16), .int (F 17), .int (F 18)] : List Value).set 18 (.int v))) = kwW cI ad (upd F 18 v) G := rfl
theorem kw_a0 (cI : ClassId) (ad : Nat → Nat) (F : Nat → Int32) (G : Nat → Nat → Int32) : (kwW cI ad F G)[1]? = some (ad 0, .inl (cI, 144, .inl (G 0))) := rfl
theorem kw_g0 (cI : ClassId) (ad : Nat → Nat) (F : Nat → Int32) (G : Nat → Nat → Int32) (x : Int32) (j : Nat) : (kwW cI ad F G).set 1 (ad 0, .inl (cI, 144, .inl (upd (G 0) j x))) = kwW cI ad F (qG G 0 j x) := rfl
theorem kw_a1 (cI : ClassId) (ad : Nat → Nat) (F : Nat → Int32) (G : Nat → Nat → Int32) : (kwW cI ad F G)[2]? = some (ad 1, .inl (cI, 144, .inl (G 1))) := rfl
theorem kw_g1 (cI : ClassId) (ad : Nat → Nat) (F : Nat → Int32) (G : Nat → Nat → Int32) (x : Int32) (j : Nat) : (kwW cI ad F G).set 2 (ad 1, .inl (cI, 144, .inl (upd (G 1) j x))) = kwW cI ad F (qG G 1 j x) := rfl
theorem kw_a2 (cI : ClassId) (ad : Nat → Nat) (F : Nat → Int32) (G : Nat → Nat → Int32) : (kwW cI ad F G)[3]? = some (ad 2, .inl (cI, 144, .inl (G 2))) := rfl
theorem kw_g2 (cI : ClassId) (ad : Nat → Nat) (F : Nat → Int32) (G : Nat → Nat → Int32) (x : Int32) (j : Nat) : (kwW cI ad F G).set 3 (ad 2, .inl (cI, 144, .inl (upd (G 2) j x))) = kwW cI ad F (qG G 2 j x) := rfl
theorem kw_a3 (cI : ClassId) (ad : Nat → Nat) (F : Nat → Int32) (G : Nat → Nat → Int32) : (kwW cI ad F G)[4]? = some (ad 3, .inl (cI, 144, .inl (G 3))) := rfl
theorem kw_g3 (cI : ClassId) (ad : Nat → Nat) (F : Nat → Int32) (G : Nat → Nat → Int32) (x : Int32) (j : Nat) : (kwW cI ad F G).set 4 (ad 3, .inl (cI, 144, .inl (upd (G 3) j x))) = kwW cI ad F (qG G 3 j x) := rfl
theorem kw_a4 (cI : ClassId) (ad : Nat → Nat) (F : Nat → Int32) (G : Nat → Nat → Int32) : (kwW cI ad F G)[5]? = some (ad 4, .inl (cI, 144, .inl (G 4))) := rfl
theorem kw_g4 (cI : ClassId) (ad : Nat → Nat) (F : Nat → Int32) (G : Nat → Nat → Int32) (x : Int32) (j : Nat) : (kwW cI ad F G).set 5 (ad 4, .inl (cI, 144, .inl (upd (G 4) j x))) = kwW cI ad F (qG G 4 j x) := rfl
theorem kw_a5 (cI : ClassId) (ad : Nat → Nat) (F : Nat → Int32) (G : Nat → Nat → Int32) : (kwW cI ad F G)[6]? = some (ad 5, .inl (cI, 144, .inl (G 5))) := rfl
theorem kw_g5 (cI : ClassId) (ad : Nat → Nat) (F : Nat → Int32) (G : Nat → Nat → Int32) (x : Int32) (j : Nat) : (kwW cI ad F G).set 6 (ad 5, .inl (cI, 144, .inl (upd (G 5) j x))) = kwW cI ad F (qG G 5 j x) := rfl
theorem kw_a6 (cI : ClassId) (ad : Nat → Nat) (F : Nat → Int32) (G : Nat → Nat → Int32) : (kwW cI ad F G)[7]? = some (ad 6, .inl (cI, 144, .inl (G 6))) := rfl
theorem kw_g6 (cI : ClassId) (ad : Nat → Nat) (F : Nat → Int32) (G : Nat → Nat → Int32) (x : Int32) (j : Nat) : (kwW cI ad F G).set 7 (ad 6, .inl (cI, 144, .inl (upd (G 6) j x))) = kwW cI ad F (qG G 6 j x) := rfl
theorem kw_a7 (cI : ClassId) (ad : Nat → Nat) (F : Nat → Int32) (G : Nat → Nat → Int32) : (kwW cI ad F G)[8]? = some (ad 7, .inl (cI, 864, .inl (G 7))) := rfl
theorem kw_g7 (cI : ClassId) (ad : Nat → Nat) (F : Nat → Int32) (G : Nat → Nat → Int32) (x : Int32) (j : Nat) : (kwW cI ad F G).set 8 (ad 7, .inl (cI, 864, .inl (upd (G 7) j x))) = kwW cI ad F (qG G 7 j x) := rfl
theorem kw_a8 (cI : ClassId) (ad : Nat → Nat) (F : Nat → Int32) (G : Nat → Nat → Int32) : (kwW cI ad F G)[9]? = some (ad 8, .inl (cI, 6, .inl (G 8))) := rfl
theorem kw_g8 (cI : ClassId) (ad : Nat → Nat) (F : Nat → Int32) (G : Nat → Nat → Int32) (x : Int32) (j : Nat) : (kwW cI ad F G).set 9 (ad 8, .inl (cI, 6, .inl (upd (G 8) j x))) = kwW cI ad F (qG G 8 j x) := rfl
theorem kw_o9 (cI : ClassId) (ad : Nat → Nat) (F : Nat → Int32) (G : Nat → Nat → Int32) : (kwW cI ad F G)[10]? = some (ad 9, .inr (2, [.ref (ad 20), .int (F 21)])) := rfl
theorem kw_f21 (cI : ClassId) (ad : Nat → Nat) (F : Nat → Int32) (G : Nat → Nat → Int32) (v : Int32) : (kwW cI ad F G).set 10 (ad 9, .inr (2, ([.ref (ad 20), .int (F 21)] : List Value).set 1 (.int v))) = kwW cI ad (upd F 21 v) G := rfl
theorem kw_a20 (cI : ClassId) (ad : Nat → Nat) (F : Nat → Int32) (G : Nat → Nat → Int32) : (kwW cI ad F G)[11]? = some (ad 20, .inl (cI, 4, .inl (G 20))) := rfl
theorem kw_g20 (cI : ClassId) (ad : Nat → Nat) (F : Nat → Int32) (G : Nat → Nat → Int32) (x : Int32) (j : Nat) : (kwW cI ad F G).set 11 (ad 20, .inl (cI, 4, .inl (upd (G 20) j x))) = kwW cI ad F (qG G 20 j x) := rfl
theorem kw_o38 (cI : ClassId) (ad : Nat → Nat) (F : Nat → Int32) (G : Nat → Nat → Int32) : (kwW cI ad F G)[12]? = some (ad 38, .inr (0, [.ref (ad 30), .ref (ad 31), .ref (ad 32), .ref (ad 33), .int (F 34), .int (F 35), .int (F 36), .int (F 37)])) := rfl
theorem kw_f34 (cI : ClassId) (ad : Nat → Nat) (F : Nat → Int32) (G : Nat → Nat → Int32) (v : Int32) : (kwW cI ad F G).set 12 (ad 38, .inr (0, ([.ref (ad 30), .ref (ad 31), .ref (ad 32), .ref (ad 33), .int (F 34), .int (F 35), .int (F 36), .int (F 37)] : List Value).set 4 (.int v))) = kwW cI ad (upd F 34 v) G := rfl
theorem kw_f35 (cI : ClassId) (ad : Nat → Nat) (F : Nat → Int32) (G : Nat → Nat → Int32) (v : Int32) : (kwW cI ad F G).set 12 (ad 38, .inr (0, ([.ref (ad 30), .ref (ad 31), .ref (ad 32), .ref (ad 33), .int (F 34), .int (F 35), .int (F 36), .int (F 37)] : List Value).set 5 (.int v))) = kwW cI ad (upd F 35 v) G := rfl
theorem kw_f36 (cI : ClassId) (ad : Nat → Nat) (F : Nat → Int32) (G : Nat → Nat → Int32) (v : Int32) : (kwW cI ad F G).set 12 (ad 38, .inr (0, ([.ref (ad 30), .ref (ad 31), .ref (ad 32), .ref (ad 33), .int (F 34), .int (F 35), .int (F 36), .int (F 37)] : List Value).set 6 (.int v))) = kwW cI ad (upd F 36 v) G := rfl
theorem kw_f37 (cI : ClassId) (ad : Nat → Nat) (F : Nat → Int32) (G : Nat → Nat → Int32) (v : Int32) : (kwW cI ad F G).set 12 (ad 38, .inr (0, ([.ref (ad 30), .ref (ad 31), .ref (ad 32), .ref (ad 33), .int (F 34), .int (F 35), .int (F 36), .int (F 37)] : List Value).set 7 (.int v))) = kwW cI ad (upd F 37 v) G := rfl
theorem kw_a30 (cI : ClassId) (ad : Nat → Nat) (F : Nat → Int32) (G : Nat → Nat → Int32) : (kwW cI ad F G)[13]? = some (ad 30, .inl (cI, 144, .inl (G 30))) := rfl
theorem kw_g30 (cI : ClassId) (ad : Nat → Nat) (F : Nat → Int32) (G : Nat → Nat → Int32) (x : Int32) (j : Nat) : (kwW cI ad F G).set 13 (ad 30, .inl (cI, 144, .inl (upd (G 30) j x))) = kwW cI ad F (qG G 30 j x) := rfl
theorem kw_a31 (cI : ClassId) (ad : Nat → Nat) (F : Nat → Int32) (G : Nat → Nat → Int32) : (kwW cI ad F G)[14]? = some (ad 31, .inl (cI, 6, .inl (G 31))) := rfl
theorem kw_g31 (cI : ClassId) (ad : Nat → Nat) (F : Nat → Int32) (G : Nat → Nat → Int32) (x : Int32) (j : Nat) : (kwW cI ad F G).set 14 (ad 31, .inl (cI, 6, .inl (upd (G 31) j x))) = kwW cI ad F (qG G 31 j x) := rfl
theorem kw_a32 (cI : ClassId) (ad : Nat → Nat) (F : Nat → Int32) (G : Nat → Nat → Int32) : (kwW cI ad F G)[15]? = some (ad 32, .inl (cI, 6, .inl (G 32))) := rfl
theorem kw_g32 (cI : ClassId) (ad : Nat → Nat) (F : Nat → Int32) (G : Nat → Nat → Int32) (x : Int32) (j : Nat) : (kwW cI ad F G).set 15 (ad 32, .inl (cI, 6, .inl (upd (G 32) j x))) = kwW cI ad F (qG G 32 j x) := rfl
theorem kw_a33 (cI : ClassId) (ad : Nat → Nat) (F : Nat → Int32) (G : Nat → Nat → Int32) : (kwW cI ad F G)[16]? = some (ad 33, .inl (cI, 6, .inl (G 33))) := rfl
theorem kw_g33 (cI : ClassId) (ad : Nat → Nat) (F : Nat → Int32) (G : Nat → Nat → Int32) (x : Int32) (j : Nat) : (kwW cI ad F G).set 16 (ad 33, .inl (cI, 6, .inl (upd (G 33) j x))) = kwW cI ad F (qG G 33 j x) := rfl
/-! the world mw -/
def mwW (cI : ClassId) (ad : Nat → Nat) (F : Nat → Int32) (G : Nat → Nat → Int32) : va_W := [(ad 41, .inr (1, [.ref (ad 40)])), (ad 40, .inl (cI, 144, .inl (G 40))), (ad 22, .inr (3, [.ref (ad 0), .ref (ad 1), .ref (ad 2), .ref (ad 3), .ref (ad 4), .ref (ad 5), .ref (ad 6), .ref (ad 7), .ref (ad 8), .ref (ad 9), .int (F 10), .int (F 11), .int (F 12), .int (F 13), .int (F 14), .int (F 15), .int (F 16), .int (F 17), .int (F 18)])), (ad 0, .inl (cI, 144, .inl (G 0))), (ad 1, .inl (cI, 144, .inl (G 1))), (ad 2, .inl (cI, 144, .inl (G 2))), (ad 3, .inl (cI, 144, .inl (G 3))), (ad 4, .inl (cI, 144, .inl (G 4))), (ad 5, .inl (cI, 144, .inl (G 5))), (ad 6, .inl (cI, 144, .inl (G 6))), (ad 7, .inl (cI, 864, .inl (G 7))), (ad 8, .inl (cI, 6, .inl (G 8))), (ad 9, .inr (2, [.ref (ad 20), .int (F 21)])), (ad 20, .inl (cI, 4, .inl (G 20)))]
def mwR (D : va_G) (cI : ClassId) (ad : Nat → Nat) (F : Nat → Int32) (G : Nat → Nat → Int32) (U : State) : Prop := va_P D vwCl (mwW cI ad F G) U.heap ∧ va_K D vwCl [(cI, FieldType.int)] U ∧ nN U
def mwA (cI : ClassId) (ad : Nat → Nat) : Nat → Prop := fun q => ∃ (k : Nat) (x : va_E), (mwW cI ad (fun _ => 0) (fun _ _ => 0))[k]? = some (q, x)
theorem mwW_D {cI : ClassId} {ad : Nat → Nat} (h : va_D (fun _ => True) (mwW cI ad (fun _ => 0) (fun _ _ => 0))) (F : Nat → Int32) (G : Nat → Nat → Int32) : va_D (mwA cI ad) (mwW cI ad F G) := qD h rfl
theorem mwR_b {D : va_G} {cI : ClassId} {ad : Nat → Nat} {F : Nat → Int32} {G : Nat → Nat → Int32} {av : List Value} : FrameBlind (va_Pc av (mwR D cI ad F G)) := fun aa U g mk q => ⟨q.1, q.2.1, va_K.moved (u := U) (U := U.calling g mk aa) (Vm.Alike.refl U.vm) q.2.2.1, nN_c rfl q.2.2.2⟩
theorem mwR_p {D : va_G} {cI : ClassId} {ad : Nat → Nat} {F : Nat → Int32} {G : Nat → Nat → Int32} {av : List Value} {s : State} {H : Heap} (hP : va_P D vwCl (mwW cI ad F G) H) (hK : va_K D vwCl [(cI, FieldType.int)] s) (hN : nN s) : PreS s H (va_Pc av (mwR D cI ad F G)) av := ⟨mwR_b, fun U hU hW => ⟨rfl, by rw [hU]; exact hP, va_K.moved hW.alike hK, nN_w hW hN⟩⟩
theorem mw_o41 (cI : ClassId) (ad : Nat → Nat) (F : Nat → Int32) (G : Nat → Nat → Int32) : (mwW cI ad F G)[0]? = some (ad 41, .inr (1, [.ref (ad 40)])) := rfl
theorem mw_a40 (cI : ClassId) (ad : Nat → Nat) (F : Nat → Int32) (G : Nat → Nat → Int32) : (mwW cI ad F G)[1]? = some (ad 40, .inl (cI, 144, .inl (G 40))) := rfl
theorem mw_g40 (cI : ClassId) (ad : Nat → Nat) (F : Nat → Int32) (G : Nat → Nat → Int32) (x : Int32) (j : Nat) : (mwW cI ad F G).set 1 (ad 40, .inl (cI, 144, .inl (upd (G 40) j x))) = mwW cI ad F (qG G 40 j x) := rfl
theorem mw_o22 (cI : ClassId) (ad : Nat → Nat) (F : Nat → Int32) (G : Nat → Nat → Int32) : (mwW cI ad F G)[2]? = some (ad 22, .inr (3, [.ref (ad 0), .ref (ad 1), .ref (ad 2), .ref (ad 3), .ref (ad 4), .ref (ad 5), .ref (ad 6), .ref (ad 7), .ref (ad 8), .ref (ad 9), .int (F 10), .int (F 11), .int (F 12), .int (F 13), .int (F 14), .int (F 15), .int (F 16), .int (F 17), .int (F 18)])) := rfl
theorem mw_f10 (cI : ClassId) (ad : Nat → Nat) (F : Nat → Int32) (G : Nat → Nat → Int32) (v : Int32) : (mwW cI ad F G).set 2 (ad 22, .inr (3, ([.ref (ad 0), .ref (ad 1), .ref (ad 2), .ref (ad 3), .ref (ad 4), .ref (ad 5), .ref (ad 6), .ref (ad 7), .ref (ad 8), .ref (ad 9), .int (F 10), .int (F 11), .int (F 12), .int (F 13), .int (F 14), .int (F 15), .int (F 16), .int (F 17), .int (F 18)] : List Value).set 10 (.int v))) = mwW cI ad (upd F 10 v) G := rfl
theorem mw_f11 (cI : ClassId) (ad : Nat → Nat) (F : Nat → Int32) (G : Nat → Nat → Int32) (v : Int32) : (mwW cI ad F G).set 2 (ad 22, .inr (3, ([.ref (ad 0), .ref (ad 1), .ref (ad 2), .ref (ad 3), .ref (ad 4), .ref (ad 5), .ref (ad 6), .ref (ad 7), .ref (ad 8), .ref (ad 9), .int (F 10), .int (F 11), .int (F 12), .int (F 13), .int (F 14), .int (F 15), .int (F 16), .int (F 17), .int (F 18)] : List Value).set 11 (.int v))) = mwW cI ad (upd F 11 v) G := rfl
theorem mw_f12 (cI : ClassId) (ad : Nat → Nat) (F : Nat → Int32) (G : Nat → Nat → Int32) (v : Int32) : (mwW cI ad F G).set 2 (ad 22, .inr (3, ([.ref (ad 0), .ref (ad 1), .ref (ad 2), .ref (ad 3), .ref (ad 4), .ref (ad 5), .ref (ad 6), .ref (ad 7), .ref (ad 8), .ref (ad 9), .int (F 10), .int (F 11), .int (F 12), .int (F 13), .int (F 14), .int (F 15), .int (F 16), .int (F 17), .int (F 18)] : List Value).set 12 (.int v))) = mwW cI ad (upd F 12 v) G := rfl
theorem mw_f13 (cI : ClassId) (ad : Nat → Nat) (F : Nat → Int32) (G : Nat → Nat → Int32) (v : Int32) : (mwW cI ad F G).set 2 (ad 22, .inr (3, ([.ref (ad 0), .ref (ad 1), .ref (ad 2), .ref (ad 3), .ref (ad 4), .ref (ad 5), .ref (ad 6), .ref (ad 7), .ref (ad 8), .ref (ad 9), .int (F 10), .int (F 11), .int (F 12), .int (F 13), .int (F 14), .int (F 15), .int (F 16), .int (F 17), .int (F 18)] : List Value).set 13 (.int v))) = mwW cI ad (upd F 13 v) G := rfl
theorem mw_f14 (cI : ClassId) (ad : Nat → Nat) (F : Nat → Int32) (G : Nat → Nat → Int32) (v : Int32) : (mwW cI ad F G).set 2 (ad 22, .inr (3, ([.ref (ad 0), .ref (ad 1), .ref (ad 2), .ref (ad 3), .ref (ad 4), .ref (ad 5), .ref (ad 6), .ref (ad 7), .ref (ad 8), .ref (ad 9), .int (F 10), .int (F 11), .int (F 12), .int (F 13), .int (F 14), .int (F 15), .int (F 16), .int (F 17), .int (F 18)] : List Value).set 14 (.int v))) = mwW cI ad (upd F 14 v) G := rfl
theorem mw_f15 (cI : ClassId) (ad : Nat → Nat) (F : Nat → Int32) (G : Nat → Nat → Int32) (v : Int32) : (mwW cI ad F G).set 2 (ad 22, .inr (3, ([.ref (ad 0), .ref (ad 1), .ref (ad 2), .ref (ad 3), .ref (ad 4), .ref (ad 5), .ref (ad 6), .ref (ad 7), .ref (ad 8), .ref (ad 9), .int (F 10), .int (F 11), .int (F 12), .int (F 13), .int (F 14), .int (F 15), .int (F 16), .int (F 17), .int (F 18)] : List Value).set 15 (.int v))) = mwW cI ad (upd F 15 v) G := rfl
theorem mw_f16 (cI : ClassId) (ad : Nat → Nat) (F : Nat → Int32) (G : Nat → Nat → Int32) (v : Int32) : (mwW cI ad F G).set 2 (ad 22, .inr (3, ([.ref (ad 0), .ref (ad 1), .ref (ad 2), .ref (ad 3), .ref (ad 4), .ref (ad 5), .ref (ad 6), .ref (ad 7), .ref (ad 8), .ref (ad 9), .int (F 10), .int (F 11), .int (F 12), .int (F 13), .int (F 14), .int (F 15), .int (F 16), .int (F 17), .int (F 18)] : List Value).set 16 (.int v))) = mwW cI ad (upd F 16 v) G := rfl
theorem mw_f17 (cI : ClassId) (ad : Nat → Nat) (F : Nat → Int32) (G : Nat → Nat → Int32) (v : Int32) : (mwW cI ad F G).set 2 (ad 22, .inr (3, ([.ref (ad 0), .ref (ad 1), .ref (ad 2), .ref (ad 3), .ref (ad 4), .ref (ad 5), .ref (ad 6), .ref (ad 7), .ref (ad 8), .ref (ad 9), .int (F 10), .int (F 11), .int (F 12), .int (F 13), .int (F 14), .int (F 15), .int (F 16), .int (F 17), .int (F 18)] : List Value).set 17 (.int v))) = mwW cI ad (upd F 17 v) G := rfl
theorem mw_f18 (cI : ClassId) (ad : Nat → Nat) (F : Nat → Int32) (G : Nat → Nat → Int32) (v : Int32) : (mwW cI ad F G).set 2 (ad 22, .inr (3, ([.ref (ad 0), .ref (ad 1), .ref (ad 2), .ref (ad 3), .ref (ad 4), .ref (ad 5), .ref (ad 6), .ref (ad 7), .ref (ad 8), .ref (ad 9), .int (F 10), .int (F 11), .int (F 12), .int (F 13), .int (F 14), .int (F 15), .int (F 16), .int (F 17), .int (F 18)] : List Value).set 18 (.int v))) = mwW cI ad (upd F 18 v) G := rfl
theorem mw_a0 (cI : ClassId) (ad : Nat → Nat) (F : Nat → Int32) (G : Nat → Nat → Int32) : (mwW cI ad F G)[3]? = some (ad 0, .inl (cI, 144, .inl (G 0))) := rfl
theorem mw_g0 (cI : ClassId) (ad : Nat → Nat) (F : Nat → Int32) (G : Nat → Nat → Int32) (x : Int32) (j : Nat) : (mwW cI ad F G).set 3 (ad 0, .inl (cI, 144, .inl (upd (G 0) j x))) = mwW cI ad F (qG G 0 j x) := rfl
theorem mw_a1 (cI : ClassId) (ad : Nat → Nat) (F : Nat → Int32) (G : Nat → Nat → Int32) : (mwW cI ad F G)[4]? = some (ad 1, .inl (cI, 144, .inl (G 1))) := rfl
theorem mw_g1 (cI : ClassId) (ad : Nat → Nat) (F : Nat → Int32) (G : Nat → Nat → Int32) (x : Int32) (j : Nat) : (mwW cI ad F G).set 4 (ad 1, .inl (cI, 144, .inl (upd (G 1) j x))) = mwW cI ad F (qG G 1 j x) := rfl
theorem mw_a2 (cI : ClassId) (ad : Nat → Nat) (F : Nat → Int32) (G : Nat → Nat → Int32) : (mwW cI ad F G)[5]? = some (ad 2, .inl (cI, 144, .inl (G 2))) := rfl
theorem mw_g2 (cI : ClassId) (ad : Nat → Nat) (F : Nat → Int32) (G : Nat → Nat → Int32) (x : Int32) (j : Nat) : (mwW cI ad F G).set 5 (ad 2, .inl (cI, 144, .inl (upd (G 2) j x))) = mwW cI ad F (qG G 2 j x) := rfl
theorem mw_a3 (cI : ClassId) (ad : Nat → Nat) (F : Nat → Int32) (G : Nat → Nat → Int32) : (mwW cI ad F G)[6]? = some (ad 3, .inl (cI, 144, .inl (G 3))) := rfl
theorem mw_g3 (cI : ClassId) (ad : Nat → Nat) (F : Nat → Int32) (G : Nat → Nat → Int32) (x : Int32) (j : Nat) : (mwW cI ad F G).set 6 (ad 3, .inl (cI, 144, .inl (upd (G 3) j x))) = mwW cI ad F (qG G 3 j x) := rfl
theorem mw_a4 (cI : ClassId) (ad : Nat → Nat) (F : Nat → Int32) (G : Nat → Nat → Int32) : (mwW cI ad F G)[7]? = some (ad 4, .inl (cI, 144, .inl (G 4))) := rfl
theorem mw_g4 (cI : ClassId) (ad : Nat → Nat) (F : Nat → Int32) (G : Nat → Nat → Int32) (x : Int32) (j : Nat) : (mwW cI ad F G).set 7 (ad 4, .inl (cI, 144, .inl (upd (G 4) j x))) = mwW cI ad F (qG G 4 j x) := rfl
theorem mw_a5 (cI : ClassId) (ad : Nat → Nat) (F : Nat → Int32) (G : Nat → Nat → Int32) : (mwW cI ad F G)[8]? = some (ad 5, .inl (cI, 144, .inl (G 5))) := rfl
theorem mw_g5 (cI : ClassId) (ad : Nat → Nat) (F : Nat → Int32) (G : Nat → Nat → Int32) (x : Int32) (j : Nat) : (mwW cI ad F G).set 8 (ad 5, .inl (cI, 144, .inl (upd (G 5) j x))) = mwW cI ad F (qG G 5 j x) := rfl
theorem mw_a6 (cI : ClassId) (ad : Nat → Nat) (F : Nat → Int32) (G : Nat → Nat → Int32) : (mwW cI ad F G)[9]? = some (ad 6, .inl (cI, 144, .inl (G 6))) := rfl
theorem mw_g6 (cI : ClassId) (ad : Nat → Nat) (F : Nat → Int32) (G : Nat → Nat → Int32) (x : Int32) (j : Nat) : (mwW cI ad F G).set 9 (ad 6, .inl (cI, 144, .inl (upd (G 6) j x))) = mwW cI ad F (qG G 6 j x) := rfl
theorem mw_a7 (cI : ClassId) (ad : Nat → Nat) (F : Nat → Int32) (G : Nat → Nat → Int32) : (mwW cI ad F G)[10]? = some (ad 7, .inl (cI, 864, .inl (G 7))) := rfl
theorem mw_g7 (cI : ClassId) (ad : Nat → Nat) (F : Nat → Int32) (G : Nat → Nat → Int32) (x : Int32) (j : Nat) : (mwW cI ad F G).set 10 (ad 7, .inl (cI, 864, .inl (upd (G 7) j x))) = mwW cI ad F (qG G 7 j x) := rfl
theorem mw_a8 (cI : ClassId) (ad : Nat → Nat) (F : Nat → Int32) (G : Nat → Nat → Int32) : (mwW cI ad F G)[11]? = some (ad 8, .inl (cI, 6, .inl (G 8))) := rfl
theorem mw_g8 (cI : ClassId) (ad : Nat → Nat) (F : Nat → Int32) (G : Nat → Nat → Int32) (x : Int32) (j : Nat) : (mwW cI ad F G).set 11 (ad 8, .inl (cI, 6, .inl (upd (G 8) j x))) = mwW cI ad F (qG G 8 j x) := rfl
theorem mw_o9 (cI : ClassId) (ad : Nat → Nat) (F : Nat → Int32) (G : Nat → Nat → Int32) : (mwW cI ad F G)[12]? = some (ad 9, .inr (2, [.ref (ad 20), .int (F 21)])) := rfl
theorem mw_f21 (cI : ClassId) (ad : Nat → Nat) (F : Nat → Int32) (G : Nat → Nat → Int32) (v : Int32) : (mwW cI ad F G).set 12 (ad 9, .inr (2, ([.ref (ad 20), .int (F 21)] : List Value).set 1 (.int v))) = mwW cI ad (upd F 21 v) G := rfl
theorem mw_a20 (cI : ClassId) (ad : Nat → Nat) (F : Nat → Int32) (G : Nat → Nat → Int32) : (mwW cI ad F G)[13]? = some (ad 20, .inl (cI, 4, .inl (G 20))) := rfl
theorem mw_g20 (cI : ClassId) (ad : Nat → Nat) (F : Nat → Int32) (G : Nat → Nat → Int32) (x : Int32) (j : Nat) : (mwW cI ad F G).set 13 (ad 20, .inl (cI, 4, .inl (upd (G 20) j x))) = mwW cI ad F (qG G 20 j x) := rfl
/-! the world bd -/
def bdW (cI : ClassId) (ad : Nat → Nat) (F : Nat → Int32) (G : Nat → Nat → Int32) : va_W := [(ad 90, .inr (4, [.ref (ad 38), .ref (ad 41), .ref (ad 22), .ref (ad 72)])), (ad 38, .inr (0, [.ref (ad 30), .ref (ad 31), .ref (ad 32), .ref (ad 33), .int (F 34), .int (F 35), .int (F 36), .int (F 37)])), (ad 30, .inl (cI, 144, .inl (G 30))), (ad 31, .inl (cI, 6, .inl (G 31))), (ad 32, .inl (cI, 6, .inl (G 32))), (ad 33, .inl (cI, 6, .inl (G 33))), (ad 41, .inr (1, [.ref (ad 40)])), (ad 40, .inl (cI, 144, .inl (G 40))), (ad 22, .inr (3, [.ref (ad 0), .ref (ad 1), .ref (ad 2), .ref (ad 3), .ref (ad 4), .ref (ad 5), .ref (ad 6), .ref (ad 7), .ref (ad 8), .ref (ad 9), .int (F 10), .int (F 11), .int (F 12), .int (F 13), .int (F 14), .int (F 15), .int (F 16), .int (F 17), .int (F 18)])), (ad 0, .inl (cI, 144, .inl (G 0))), (ad 1, .inl (cI, 144, .inl (G 1))), (ad 2, .inl (cI, 144, .inl (G 2))), (ad 3, .inl (cI, 144, .inl (G 3))), (ad 4, .inl (cI, 144, .inl (G 4))), (ad 5, .inl (cI, 144, .inl (G 5))), (ad 6, .inl (cI, 144, .inl (G 6))), (ad 7, .inl (cI, 864, .inl (G 7))), (ad 8, .inl (cI, 6, .inl (G 8))), (ad 9, .inr (2, [.ref (ad 20), .int (F 21)])), (ad 20, .inl (cI, 4, .inl (G 20))), (ad 72, .inr (3, [.ref (ad 50), .ref (ad 51), .ref (ad 52), .ref (ad 53), .ref (ad 54), .ref (ad 55), .ref (ad 56), .ref (ad 57), .ref (ad 58), .ref (ad 59), .int (F 60), .int (F 61), .int (F 62), .int (F 63), .int (F 64), .int (F 65), .int (F 66), .int (F 67), .int (F 68)])), (ad 50, .inl (cI, 144, .inl (G 50))), (ad 51, .inl (cI, 144, .inl (G 51))), (ad 52, .inl (cI, 144, .inl (G 52))), (ad 53, .inl (cI, 144, .inl (G 53))), (ad 54, .inl (cI, 144, .inl (G 54))), (ad 55, .inl (cI, 144, .inl (G 55))), (ad 56, .inl (cI, 144, .inl (G 56))), (ad 57, .inl (cI, 864, .inl (G 57))), (ad 58, .inl (cI, 6, .inl (G 58))), (ad 59, .inr (2, [.ref (ad 70), .int (F 71)])), (ad 70, .inl (cI, 4, .inl (G 70)))]
def bdR (D : va_G) (cI : ClassId) (ad : Nat → Nat) (F : Nat → Int32) (G : Nat → Nat → Int32) (U : State) : Prop := va_P D vwCl (bdW cI ad F G) U.heap ∧ va_K D vwCl [(cI, FieldType.int)] U ∧ nN U
def bdA (cI : ClassId) (ad : Nat → Nat) : Nat → Prop := fun q => ∃ (k : Nat) (x : va_E), (bdW cI ad (fun _ => 0) (fun _ _ => 0))[k]? = some (q, x)
theorem bdW_D {cI : ClassId} {ad : Nat → Nat} (h : va_D (fun _ => True) (bdW cI ad (fun _ => 0) (fun _ _ => 0))) (F : Nat → Int32) (G : Nat → Nat → Int32) : va_D (bdA cI ad) (bdW cI ad F G) := qD h rfl
theorem bdR_b {D : va_G} {cI : ClassId} {ad : Nat → Nat} {F : Nat → Int32} {G : Nat → Nat → Int32} {av : List Value} : FrameBlind (va_Pc av (bdR D cI ad F G)) := fun aa U g mk q => ⟨q.1, q.2.1, va_K.moved (u := U) (U := U.calling g mk aa) (Vm.Alike.refl U.vm) q.2.2.1, nN_c rfl q.2.2.2⟩
theorem bdR_p {D : va_G} {cI : ClassId} {ad : Nat → Nat} {F : Nat → Int32} {G : Nat → Nat → Int32} {av : List Value} {s : State} {H : Heap} (hP : va_P D vwCl (bdW cI ad F G) H) (hK : va_K D vwCl [(cI, FieldType.int)] s) (hN : nN s) : PreS s H (va_Pc av (bdR D cI ad F G)) av := ⟨bdR_b, fun U hU hW => ⟨rfl, by rw [hU]; exact hP, va_K.moved hW.alike hK, nN_w hW hN⟩⟩
theorem bd_o90 (cI : ClassId) (ad : Nat → Nat) (F : Nat → Int32) (G : Nat → Nat → Int32) : (bdW cI ad F G)[0]? = some (ad 90, .inr (4, [.ref (ad 38), .ref (ad 41), .ref (ad 22), .ref (ad 72)])) := rfl
theorem bd_o38 (cI : ClassId) (ad : Nat → Nat) (F : Nat → Int32) (G : Nat → Nat → Int32) : (bdW cI ad F G)[1]? = some (ad 38, .inr (0, [.ref (ad 30), .ref (ad 31), .ref (ad 32), .ref (ad 33), .int (F 34), .int (F 35), .int (F 36), .int (F 37)])) := rfl
theorem bd_f34 (cI : ClassId) (ad : Nat → Nat) (F : Nat → Int32) (G : Nat → Nat → Int32) (v : Int32) : (bdW cI ad F G).set 1 (ad 38, .inr (0, ([.ref (ad 30), .ref (ad 31), .ref (ad 32), .ref (ad 33), .int (F 34), .int (F 35), .int (F 36), .int (F 37)] : List Value).set 4 (.int v))) = bdW cI ad (upd F 34 v) G := rfl
theorem bd_f35 (cI : ClassId) (ad : Nat → Nat) (F : Nat → Int32) (G : Nat → Nat → Int32) (v : Int32) : (bdW cI ad F G).set 1 (ad 38, .inr (0, ([.ref (ad 30), .ref (ad 31), .ref (ad 32), .ref (ad 33), .int (F 34), .int (F 35), .int (F 36), .int (F 37)] : List Value).set 5 (.int v))) = bdW cI ad (upd F 35 v) G := rfl
theorem bd_f36 (cI : ClassId) (ad : Nat → Nat) (F : Nat → Int32) (G : Nat → Nat → Int32) (v : Int32) : (bdW cI ad F G).set 1 (ad 38, .inr (0, ([.ref (ad 30), .ref (ad 31), .ref (ad 32), .ref (ad 33), .int (F 34), .int (F 35), .int (F 36), .int (F 37)] : List Value).set 6 (.int v))) = bdW cI ad (upd F 36 v) G := rfl
theorem bd_f37 (cI : ClassId) (ad : Nat → Nat) (F : Nat → Int32) (G : Nat → Nat → Int32) (v : Int32) : (bdW cI ad F G).set 1 (ad 38, .inr (0, ([.ref (ad 30), .ref (ad 31), .ref (ad 32), .ref (ad 33), .int (F 34), .int (F 35), .int (F 36), .int (F 37)] : List Value).set 7 (.int v))) = bdW cI ad (upd F 37 v) G := rfl
theorem bd_a30 (cI : ClassId) (ad : Nat → Nat) (F : Nat → Int32) (G : Nat → Nat → Int32) : (bdW cI ad F G)[2]? = some (ad 30, .inl (cI, 144, .inl (G 30))) := rfl
theorem bd_g30 (cI : ClassId) (ad : Nat → Nat) (F : Nat → Int32) (G : Nat → Nat → Int32) (x : Int32) (j : Nat) : (bdW cI ad F G).set 2 (ad 30, .inl (cI, 144, .inl (upd (G 30) j x))) = bdW cI ad F (qG G 30 j x) := rfl
theorem bd_a31 (cI : ClassId) (ad : Nat → Nat) (F : Nat → Int32) (G : Nat → Nat → Int32) : (bdW cI ad F G)[3]? = some (ad 31, .inl (cI, 6, .inl (G 31))) := rfl
theorem bd_g31 (cI : ClassId) (ad : Nat → Nat) (F : Nat → Int32) (G : Nat → Nat → Int32) (x : Int32) (j : Nat) : (bdW cI ad F G).set 3 (ad 31, .inl (cI, 6, .inl (upd (G 31) j x))) = bdW cI ad F (qG G 31 j x) := rfl
theorem bd_a32 (cI : ClassId) (ad : Nat → Nat) (F : Nat → Int32) (G : Nat → Nat → Int32) : (bdW cI ad F G)[4]? = some (ad 32, .inl (cI, 6, .inl (G 32))) := rfl
theorem bd_g32 (cI : ClassId) (ad : Nat → Nat) (F : Nat → Int32) (G : Nat → Nat → Int32) (x : Int32) (j : Nat) : (bdW cI ad F G).set 4 (ad 32, .inl (cI, 6, .inl (upd (G 32) j x))) = bdW cI ad F (qG G 32 j x) := rfl
theorem bd_a33 (cI : ClassId) (ad : Nat → Nat) (F : Nat → Int32) (G : Nat → Nat → Int32) : (bdW cI ad F G)[5]? = some (ad 33, .inl (cI, 6, .inl (G 33))) := rfl
theorem bd_g33 (cI : ClassId) (ad : Nat → Nat) (F : Nat → Int32) (G : Nat → Nat → Int32) (x : Int32) (j : Nat) : (bdW cI ad F G).set 5 (ad 33, .inl (cI, 6, .inl (upd (G 33) j x))) = bdW cI ad F (qG G 33 j x) := rfl
theorem bd_o41 (cI : ClassId) (ad : Nat → Nat) (F : Nat → Int32) (G : Nat → Nat → Int32) : (bdW cI ad F G)[6]? = some (ad 41, .inr (1, [.ref (ad 40)])) := rfl
theorem bd_a40 (cI : ClassId) (ad : Nat → Nat) (F : Nat → Int32) (G : Nat → Nat → Int32) : (bdW cI ad F G)[7]? = some (ad 40, .inl (cI, 144, .inl (G 40))) := rfl
theorem bd_g40 (cI : ClassId) (ad : Nat → Nat) (F : Nat → Int32) (G : Nat → Nat → Int32) (x : Int32) (j : Nat) : (bdW cI ad F G).set 7 (ad 40, .inl (cI, 144, .inl (upd (G 40) j x))) = bdW cI ad F (qG G 40 j x) := rfl
theorem bd_o22 (cI : ClassId) (ad : Nat → Nat) (F : Nat → Int32) (G : Nat → Nat → Int32) : (bdW cI ad F G)[8]? = some (ad 22, .inr (3, [.ref (ad 0), .ref (ad 1), .ref (ad 2), .ref (ad 3), .ref (ad 4), .ref (ad 5), .ref (ad 6), .ref (ad 7), .ref (ad 8), .ref (ad 9), .int (F 10), .int (F 11), .int (F 12), .int (F 13), .int (F 14), .int (F 15), .int (F 16), .int (F 17), .int (F 18)])) := rfl
theorem bd_f10 (cI : ClassId) (ad : Nat → Nat) (F : Nat → Int32) (G : Nat → Nat → Int32) (v : Int32) : (bdW cI ad F G).set 8 (ad 22, .inr (3, ([.ref (ad 0), .ref (ad 1), .ref (ad 2), .ref (ad 3), .ref (ad 4), .ref (ad 5), .ref (ad 6), .ref (ad 7), .ref (ad 8), .ref (ad 9), .int (F 10), .int (F 11), .int (F 12), .int (F 13), .int (F 14), .int (F 15), .int (F 16), .int (F 17), .int (F 18)] : List Value).set 10 (.int v))) = bdW cI ad (upd F 10 v) G := rfl
theorem bd_f11 (cI : ClassId) (ad : Nat → Nat) (F : Nat → Int32) (G : Nat → Nat → Int32) (v : Int32) : (bdW cI ad F G).set 8 (ad 22, .inr (3, ([.ref (ad 0), .ref (ad 1), .ref (ad 2), .ref (ad 3), .ref (ad 4), .ref (ad 5), .ref (ad 6), .ref (ad 7), .ref (ad 8), .ref (ad 9), .int (F 10), .int (F 11), .int (F 12), .int (F 13), .int (F 14), .int (F 15), .int (F 16), .int (F 17), .int (F 18)] : List Value).set 11 (.int v))) = bdW cI ad (upd F 11 v) G := rfl
theorem bd_f12 (cI : ClassId) (ad : Nat → Nat) (F : Nat → Int32) (G : Nat → Nat → Int32) (v : Int32) : (bdW cI ad F G).set 8 (ad 22, .inr (3, ([.ref (ad 0), .ref (ad 1), .ref (ad 2), .ref (ad 3), .ref (ad 4), .ref (ad 5), .ref (ad 6), .ref (ad 7), .ref (ad 8), .ref (ad 9), .int (F 10), .int (F 11), .int (F 12), .int (F 13), .int (F 14), .int (F 15), .int (F 16), .int (F 17), .int (F 18)] : List Value).set 12 (.int v))) = bdW cI ad (upd F 12 v) G := rfl
theorem bd_f13 (cI : ClassId) (ad : Nat → Nat) (F : Nat → Int32) (G : Nat → Nat → Int32) (v : Int32) : (bdW cI ad F G).set 8 (ad 22, .inr (3, ([.ref (ad 0), .ref (ad 1), .ref (ad 2), .ref (ad 3), .ref (ad 4), .ref (ad 5), .ref (ad 6), .ref (ad 7), .ref (ad 8), .ref (ad 9), .int (F 10), .int (F 11), .int (F 12), .int (F 13), .int (F 14), .int (F 15), .int (F 16), .int (F 17), .int (F 18)] : List Value).set 13 (.int v))) = bdW cI ad (upd F 13 v) G := rfl
theorem bd_f14 (cI : ClassId) (ad : Nat → Nat) (F : Nat → Int32) (G : Nat → Nat → Int32) (v : Int32) : (bdW cI ad F G).set 8 (ad 22, .inr (3, ([.ref (ad 0), .ref (ad 1), .ref (ad 2), .ref (ad 3), .ref (ad 4), .ref (ad 5), .ref (ad 6), .ref (ad 7), .ref (ad 8), .ref (ad 9), .int (F 10), .int (F 11), .int (F 12), .int (F 13), .int (F 14), .int (F 15), .int (F 16), .int (F 17), .int (F 18)] : List Value).set 14 (.int v))) = bdW cI ad (upd F 14 v) G := rfl
theorem bd_f15 (cI : ClassId) (ad : Nat → Nat) (F : Nat → Int32) (G : Nat → Nat → Int32) (v : Int32) : (bdW cI ad F G).set 8 (ad 22, .inr (3, ([.ref (ad 0), .ref (ad 1), .ref (ad 2), .ref (ad 3), .ref (ad 4), .ref (ad 5), .ref (ad 6), .ref (ad 7), .ref (ad 8), .ref (ad 9), .int (F 10), .int (F 11), .int (F 12), .int (F 13), .int (F 14), .int (F 15), .int (F 16), .int (F 17), .int (F 18)] : List Value).set 15 (.int v))) = bdW cI ad (upd F 15 v) G := rfl
theorem bd_f16 (cI : ClassId) (ad : Nat → Nat) (F : Nat → Int32) (G : Nat → Nat → Int32) (v : Int32) : (bdW cI ad F G).set 8 (ad 22, .inr (3, ([.ref (ad 0), .ref (ad 1), .ref (ad 2), .ref (ad 3), .ref (ad 4), .ref (ad 5), .ref (ad 6), .ref (ad 7), .ref (ad 8), .ref (ad 9), .int (F 10), .int (F 11), .int (F 12), .int (F 13), .int (F 14), .int (F 15), .int (F 16), .int (F 17), .int (F 18)] : List Value).set 16 (.int v))) = bdW cI ad (upd F 16 v) G := rfl
theorem bd_f17 (cI : ClassId) (ad : Nat → Nat) (F : Nat → Int32) (G : Nat → Nat → Int32) (v : Int32) : (bdW cI ad F G).set 8 (ad 22, .inr (3, ([.ref (ad 0), .ref (ad 1), .ref (ad 2), .ref (ad 3), .ref (ad 4), .ref (ad 5), .ref (ad 6), .ref (ad 7), .ref (ad 8), .ref (ad 9), .int (F 10), .int (F 11), .int (F 12), .int (F 13), .int (F 14), .int (F 15), .int (F 16), .int (F 17), .int (F 18)] : List Value).set 17 (.int v))) = bdW cI ad (upd F 17 v) G := rfl
theorem bd_f18 (cI : ClassId) (ad : Nat → Nat) (F : Nat → Int32) (G : Nat → Nat → Int32) (v : Int32) : (bdW cI ad F G).set 8 (ad 22, .inr (3, ([.ref (ad 0), .ref (ad 1), .ref (ad 2), .ref (ad 3), .ref (ad 4), .ref (ad 5), .ref (ad 6), .ref (ad 7), .ref (ad 8), .ref (ad 9), .int (F 10), .int (F 11), .int (F 12), .int (F 13), .int (F 14), .int (F 15), .int (F 16), .int (F 17), .int (F 18)] : List Value).set 18 (.int v))) = bdW cI ad (upd F 18 v) G := rfl
theorem bd_a0 (cI : ClassId) (ad : Nat → Nat) (F : Nat → Int32) (G : Nat → Nat → Int32) : (bdW cI ad F G)[9]? = some (ad 0, .inl (cI, 144, .inl (G 0))) := rfl
theorem bd_g0 (cI : ClassId) (ad : Nat → Nat) (F : Nat → Int32) (G : Nat → Nat → Int32) (x : Int32) (j : Nat) : (bdW cI ad F G).set 9 (ad 0, .inl (cI, 144, .inl (upd (G 0) j x))) = bdW cI ad F (qG G 0 j x) := rfl
theorem bd_a1 (cI : ClassId) (ad : Nat → Nat) (F : Nat → Int32) (G : Nat → Nat → Int32) : (bdW cI ad F G)[10]? = some (ad 1, .inl (cI, 144, .inl (G 1))) := rfl
theorem bd_g1 (cI : ClassId) (ad : Nat → Nat) (F : Nat → Int32) (G : Nat → Nat → Int32) (x : Int32) (j : Nat) : (bdW cI ad F G).set 10 (ad 1, .inl (cI, 144, .inl (upd (G 1) j x))) = bdW cI ad F (qG G 1 j x) := rfl
theorem bd_a2 (cI : ClassId) (ad : Nat → Nat) (F : Nat → Int32) (G : Nat → Nat → Int32) : (bdW cI ad F G)[11]? = some (ad 2, .inl (cI, 144, .inl (G 2))) := rfl
theorem bd_g2 (cI : ClassId) (ad : Nat → Nat) (F : Nat → Int32) (G : Nat → Nat → Int32) (x : Int32) (j : Nat) : (bdW cI ad F G).set 11 (ad 2, .inl (cI, 144, .inl (upd (G 2) j x))) = bdW cI ad F (qG G 2 j x) := rfl
theorem bd_a3 (cI : ClassId) (ad : Nat → Nat) (F : Nat → Int32) (G : Nat → Nat → Int32) : (bdW cI ad F G)[12]? = some (ad 3, .inl (cI, 144, .inl (G 3))) := rfl
theorem bd_g3 (cI : ClassId) (ad : Nat → Nat) (F : Nat → Int32) (G : Nat → Nat → Int32) (x : Int32) (j : Nat) : (bdW cI ad F G).set 12 (ad 3, .inl (cI, 144, .inl (upd (G 3) j x))) = bdW cI ad F (qG G 3 j x) := rfl
theorem bd_a4 (cI : ClassId) (ad : Nat → Nat) (F : Nat → Int32) (G : Nat → Nat → Int32) : (bdW cI ad F G)[13]? = some (ad 4, .inl (cI, 144, .inl (G 4))) := rfl
theorem bd_g4 (cI : ClassId) (ad : Nat → Nat) (F : Nat → Int32) (G : Nat → Nat → Int32) (x : Int32) (j : Nat) : (bdW cI ad F G).set 13 (ad 4, .inl (cI, 144, .inl (upd (G 4) j x))) = bdW cI ad F (qG G 4 j x) := rfl
theorem bd_a5 (cI : ClassId) (ad : Nat → Nat) (F : Nat → Int32) (G : Nat → Nat → Int32) : (bdW cI ad F G)[14]? = some (ad 5, .inl (cI, 144, .inl (G 5))) := rfl
theorem bd_g5 (cI : ClassId) (ad : Nat → Nat) (F : Nat → Int32) (G : Nat → Nat → Int32) (x : Int32) (j : Nat) : (bdW cI ad F G).set 14 (ad 5, .inl (cI, 144, .inl (upd (G 5) j x))) = bdW cI ad F (qG G 5 j x) := rfl
theorem bd_a6 (cI : ClassId) (ad : Nat → Nat) (F : Nat → Int32) (G : Nat → Nat → Int32) : (bdW cI ad F G)[15]? = some (ad 6, .inl (cI, 144, .inl (G 6))) := rfl
theorem bd_g6 (cI : ClassId) (ad : Nat → Nat) (F : Nat → Int32) (G : Nat → Nat → Int32) (x : Int32) (j : Nat) : (bdW cI ad F G).set 15 (ad 6, .inl (cI, 144, .inl (upd (G 6) j x))) = bdW cI ad F (qG G 6 j x) := rfl
theorem bd_a7 (cI : ClassId) (ad : Nat → Nat) (F : Nat → Int32) (G : Nat → Nat → Int32) : (bdW cI ad F G)[16]? = some (ad 7, .inl (cI, 864, .inl (G 7))) := rfl
theorem bd_g7 (cI : ClassId) (ad : Nat → Nat) (F : Nat → Int32) (G : Nat → Nat → Int32) (x : Int32) (j : Nat) : (bdW cI ad F G).set 16 (ad 7, .inl (cI, 864, .inl (upd (G 7) j x))) = bdW cI ad F (qG G 7 j x) := rfl
theorem bd_a8 (cI : ClassId) (ad : Nat → Nat) (F : Nat → Int32) (G : Nat → Nat → Int32) : (bdW cI ad F G)[17]? = some (ad 8, .inl (cI, 6, .inl (G 8))) := rfl
theorem bd_g8 (cI : ClassId) (ad : Nat → Nat) (F : Nat → Int32) (G : Nat → Nat → Int32) (x : Int32) (j : Nat) : (bdW cI ad F G).set 17 (ad 8, .inl (cI, 6, .inl (upd (G 8) j x))) = bdW cI ad F (qG G 8 j x) := rfl
theorem bd_o9 (cI : ClassId) (ad : Nat → Nat) (F : Nat → Int32) (G : Nat → Nat → Int32) : (bdW cI ad F G)[18]? = some (ad 9, .inr (2, [.ref (ad 20), .int (F 21)])) := rfl
theorem bd_f21 (cI : ClassId) (ad : Nat → Nat) (F : Nat → Int32) (G : Nat → Nat → Int32) (v : Int32) : (bdW cI ad F G).set 18 (ad 9, .inr (2, ([.ref (ad 20), .int (F 21)] : List Value).set 1 (.int v))) = bdW cI ad (upd F 21 v) G := rfl
theorem bd_a20 (cI : ClassId) (ad : Nat → Nat) (F : Nat → Int32) (G : Nat → Nat → Int32) : (bdW cI ad F G)[19]? = some (ad 20, .inl (cI, 4, .inl (G 20))) := rfl
theorem bd_g20 (cI : ClassId) (ad : Nat → Nat) (F : Nat → Int32) (G : Nat → Nat → Int32) (x : Int32) (j : Nat) : (bdW cI ad F G).set 19 (ad 20, .inl (cI, 4, .inl (upd (G 20) j x))) = bdW cI ad F (qG G 20 j x) := rfl
theorem bd_o72 (cI : ClassId) (ad : Nat → Nat) (F : Nat → Int32) (G : Nat → Nat → Int32) : (bdW cI ad F G)[20]? = some (ad 72, .inr (3, [.ref (ad 50), .ref (ad 51), .ref (ad 52), .ref (ad 53), .ref (ad 54), .ref (ad 55), .ref (ad 56), .ref (ad 57), .ref (ad 58), .ref (ad 59), .int (F 60), .int (F 61), .int (F 62), .int (F 63), .int (F 64), .int (F 65), .int (F 66), .int (F 67), .int (F 68)])) := rfl
theorem bd_f60 (cI : ClassId) (ad : Nat → Nat) (F : Nat → Int32) (G : Nat → Nat → Int32) (v : Int32) : (bdW cI ad F G).set 20 (ad 72, .inr (3, ([.ref (ad 50), .ref (ad 51), .ref (ad 52), .ref (ad 53), .ref (ad 54), .ref (ad 55), .ref (ad 56), .ref (ad 57), .ref (ad 58), .ref (ad 59), .int (F 60), .int (F 61), .int (F 62), .int (F 63), .int (F 64), .int (F 65), .int (F 66), .int (F 67), .int (F 68)] : List Value).set 10 (.int v))) = bdW cI ad (upd F 60 v) G := rfl
theorem bd_f61 (cI : ClassId) (ad : Nat → Nat) (F : Nat → Int32) (G : Nat → Nat → Int32) (v : Int32) : (bdW cI ad F G).set 20 (ad 72, .inr (3, ([.ref (ad 50), .ref (ad 51), .ref (ad 52), .ref (ad 53), .ref (ad 54), .ref (ad 55), .ref (ad 56), .ref (ad 57), .ref (ad 58), .ref (ad 59), .int (F 60), .int (F 61), .int (F 62), .int (F 63), .int (F 64), .int (F 65), .int (F 66), .int (F 67), .int (F 68)] : List Value).set 11 (.int v))) = bdW cI ad (upd F 61 v) G := rfl
theorem bd_f62 (cI : ClassId) (ad : Nat → Nat) (F : Nat → Int32) (G : Nat → Nat → Int32) (v : Int32) : (bdW cI ad F G).set 20 (ad 72, .inr (3, ([.ref (ad 50), .ref (ad 51), .ref (ad 52), .ref (ad 53), .ref (ad 54), .ref (ad 55), .ref (ad 56), .ref (ad 57), .ref (ad 58), .ref (ad 59), .int (F 60), .int (F 61), .int (F 62), .int (F 63), .int (F 64), .int (F 65), .int (F 66), .int (F 67), .int (F 68)] : List Value).set 12 (.int v))) = bdW cI ad (upd F 62 v) G := rfl
theorem bd_f63 (cI : ClassId) (ad : Nat → Nat) (F : Nat → Int32) (G : Nat → Nat → Int32) (v : Int32) : (bdW cI ad F G).set 20 (ad 72, .inr (3, ([.ref (ad 50), .ref (ad 51), .ref (ad 52), .ref (ad 53), .ref (ad 54), .ref (ad 55), .ref (ad 56), .ref (ad 57), .ref (ad 58), .ref (ad 59), .int (F 60), .int (F 61), .int (F 62), .int (F 63), .int (F 64), .int (F 65), .int (F 66), .int (F 67), .int (F 68)] : List Value).set 13 (.int v))) = bdW cI ad (upd F 63 v) G := rfl
theorem bd_f64 (cI : ClassId) (ad : Nat → Nat) (F : Nat → Int32) (G : Nat → Nat → Int32) (v : Int32) : (bdW cI ad F G).set 20 (ad 72, .inr (3, ([.ref (ad 50), .ref (ad 51), .ref (ad 52), .ref (ad 53), .ref (ad 54), .ref (ad 55), .ref (ad 56), .ref (ad 57), .ref (ad 58), .ref (ad 59), .int (F 60), .int (F 61), .int (F 62), .int (F 63), .int (F 64), .int (F 65), .int (F 66), .int (F 67), .int (F 68)] : List Value).set 14 (.int v))) = bdW cI ad (upd F 64 v) G := rfl
theorem bd_f65 (cI : ClassId) (ad : Nat → Nat) (F : Nat → Int32) (G : Nat → Nat → Int32) (v : Int32) : (bdW cI ad F G).set 20 (ad 72, .inr (3, ([.ref (ad 50), .ref (ad 51), .ref (ad 52), .ref (ad 53), .ref (ad 54), .ref (ad 55), .ref (ad 56), .ref (ad 57), .ref (ad 58), .ref (ad 59), .int (F 60), .int (F 61), .int (F 62), .int (F 63), .int (F 64), .int (F 65), .int (F 66), .int (F 67), .int (F 68)] : List Value).set 15 (.int v))) = bdW cI ad (upd F 65 v) G := rfl
theorem bd_f66 (cI : ClassId) (ad : Nat → Nat) (F : Nat → Int32) (G : Nat → Nat → Int32) (v : Int32) : (bdW cI ad F G).set 20 (ad 72, .inr (3, ([.ref (ad 50), .ref (ad 51), .ref (ad 52), .ref (ad 53), .ref (ad 54), .ref (ad 55), .ref (ad 56), .ref (ad 57), .ref (ad 58), .ref (ad 59), .int (F 60), .int (F 61), .int (F 62), .int (F 63), .int (F 64), .int (F 65), .int (F 66), .int (F 67), .int (F 68)] : List Value).set 16 (.int v))) = bdW cI ad (upd F 66 v) G := rfl
theorem bd_f67 (cI : ClassId) (ad : Nat → Nat) (F : Nat → Int32) (G : Nat → Nat → Int32) (v : Int32) : (bdW cI ad F G).set 20 (ad 72, .inr (3, ([.ref (ad 50), .ref (ad 51), .ref (ad 52), .ref (ad 53), .ref (ad 54), .ref (ad 55), .ref (ad 56), .ref (ad 57), .ref (ad 58), .ref (ad 59), .int (F 60), .int (F 61), .int (F 62), .int (F 63), .int (F 64), .int (F 65), .int (F 66), .int (F 67), .int (F 68)] : List Value).set 17 (.int v))) = bdW cI ad (upd F 67 v) G := rfl
theorem bd_f68 (cI : ClassId) (ad : Nat → Nat) (F : Nat → Int32) (G : Nat → Nat → Int32) (v : Int32) : (bdW cI ad F G).set 20 (ad 72, .inr (3, ([.ref (ad 50), .ref (ad 51), .ref (ad 52), .ref (ad 53), .ref (ad 54), .ref (ad 55), .ref (ad 56), .ref (ad 57), .ref (ad 58), .ref (ad 59), .int (F 60), .int (F 61), .int (F 62), .int (F 63), .int (F 64), .int (F 65), .int (F 66), .int (F 67), .int (F 68)] : List Value).set 18 (.int v))) = bdW cI ad (upd F 68 v) G := rfl
theorem bd_a50 (cI : ClassId) (ad : Nat → Nat) (F : Nat → Int32) (G : Nat → Nat → Int32) : (bdW cI ad F G)[21]? = some (ad 50, .inl (cI, 144, .inl (G 50))) := rfl
theorem bd_g50 (cI : ClassId) (ad : Nat → Nat) (F : Nat → Int32) (G : Nat → Nat → Int32) (x : Int32) (j : Nat) : (bdW cI ad F G).set 21 (ad 50, .inl (cI, 144, .inl (upd (G 50) j x))) = bdW cI ad F (qG G 50 j x) := rfl
theorem bd_a51 (cI : ClassId) (ad : Nat → Nat) (F : Nat → Int32) (G : Nat → Nat → Int32) : (bdW cI ad F G)[22]? = some (ad 51, .inl (cI, 144, .inl (G 51))) := rfl
theorem bd_g51 (cI : ClassId) (ad : Nat → Nat) (F : Nat → Int32) (G : Nat → Nat → Int32) (x : Int32) (j : Nat) : (bdW cI ad F G).set 22 (ad 51, .inl (cI, 144, .inl (upd (G 51) j x))) = bdW cI ad F (qG G 51 j x) := rfl
theorem bd_a52 (cI : ClassId) (ad : Nat → Nat) (F : Nat → Int32) (G : Nat → Nat → Int32) : (bdW cI ad F G)[23]? = some (ad 52, .inl (cI, 144, .inl (G 52))) := rfl
theorem bd_g52 (cI : ClassId) (ad : Nat → Nat) (F : Nat → Int32) (G : Nat → Nat → Int32) (x : Int32) (j : Nat) : (bdW cI ad F G).set 23 (ad 52, .inl (cI, 144, .inl (upd (G 52) j x))) = bdW cI ad F (qG G 52 j x) := rfl
theorem bd_a53 (cI : ClassId) (ad : Nat → Nat) (F : Nat → Int32) (G : Nat → Nat → Int32) : (bdW cI ad F G)[24]? = some (ad 53, .inl (cI, 144, .inl (G 53))) := rfl
theorem bd_g53 (cI : ClassId) (ad : Nat → Nat) (F : Nat → Int32) (G : Nat → Nat → Int32) (x : Int32) (j : Nat) : (bdW cI ad F G).set 24 (ad 53, .inl (cI, 144, .inl (upd (G 53) j x))) = bdW cI ad F (qG G 53 j x) := rfl
theorem bd_a54 (cI : ClassId) (ad : Nat → Nat) (F : Nat → Int32) (G : Nat → Nat → Int32) : (bdW cI ad F G)[25]? = some (ad 54, .inl (cI, 144, .inl (G 54))) := rfl
theorem bd_g54 (cI : ClassId) (ad : Nat → Nat) (F : Nat → Int32) (G : Nat → Nat → Int32) (x : Int32) (j : Nat) : (bdW cI ad F G).set 25 (ad 54, .inl (cI, 144, .inl (upd (G 54) j x))) = bdW cI ad F (qG G 54 j x) := rfl
theorem bd_a55 (cI : ClassId) (ad : Nat → Nat) (F : Nat → Int32) (G : Nat → Nat → Int32) : (bdW cI ad F G)[26]? = some (ad 55, .inl (cI, 144, .inl (G 55))) := rfl
theorem bd_g55 (cI : ClassId) (ad : Nat → Nat) (F : Nat → Int32) (G : Nat → Nat → Int32) (x : Int32) (j : Nat) : (bdW cI ad F G).set 26 (ad 55, .inl (cI, 144, .inl (upd (G 55) j x))) = bdW cI ad F (qG G 55 j x) := rfl
theorem bd_a56 (cI : ClassId) (ad : Nat → Nat) (F : Nat → Int32) (G : Nat → Nat → Int32) : (bdW cI ad F G)[27]? = some (ad 56, .inl (cI, 144, .inl (G 56))) := rfl
theorem bd_g56 (cI : ClassId) (ad : Nat → Nat) (F : Nat → Int32) (G : Nat → Nat → Int32) (x : Int32) (j : Nat) : (bdW cI ad F G).set 27 (ad 56, .inl (cI, 144, .inl (upd (G 56) j x))) = bdW cI ad F (qG G 56 j x) := rfl
theorem bd_a57 (cI : ClassId) (ad : Nat → Nat) (F : Nat → Int32) (G : Nat → Nat → Int32) : (bdW cI ad F G)[28]? = some (ad 57, .inl (cI, 864, .inl (G 57))) := rfl
theorem bd_g57 (cI : ClassId) (ad : Nat → Nat) (F : Nat → Int32) (G : Nat → Nat → Int32) (x : Int32) (j : Nat) : (bdW cI ad F G).set 28 (ad 57, .inl (cI, 864, .inl (upd (G 57) j x))) = bdW cI ad F (qG G 57 j x) := rfl
theorem bd_a58 (cI : ClassId) (ad : Nat → Nat) (F : Nat → Int32) (G : Nat → Nat → Int32) : (bdW cI ad F G)[29]? = some (ad 58, .inl (cI, 6, .inl (G 58))) := rfl
theorem bd_g58 (cI : ClassId) (ad : Nat → Nat) (F : Nat → Int32) (G : Nat → Nat → Int32) (x : Int32) (j : Nat) : (bdW cI ad F G).set 29 (ad 58, .inl (cI, 6, .inl (upd (G 58) j x))) = bdW cI ad F (qG G 58 j x) := rfl
theorem bd_o59 (cI : ClassId) (ad : Nat → Nat) (F : Nat → Int32) (G : Nat → Nat → Int32) : (bdW cI ad F G)[30]? = some (ad 59, .inr (2, [.ref (ad 70), .int (F 71)])) := rfl
theorem bd_f71 (cI : ClassId) (ad : Nat → Nat) (F : Nat → Int32) (G : Nat → Nat → Int32) (v : Int32) : (bdW cI ad F G).set 30 (ad 59, .inr (2, ([.ref (ad 70), .int (F 71)] : List Value).set 1 (.int v))) = bdW cI ad (upd F 71 v) G := rfl
theorem bd_a70 (cI : ClassId) (ad : Nat → Nat) (F : Nat → Int32) (G : Nat → Nat → Int32) : (bdW cI ad F G)[31]? = some (ad 70, .inl (cI, 4, .inl (G 70))) := rfl
theorem bd_g70 (cI : ClassId) (ad : Nat → Nat) (F : Nat → Int32) (G : Nat → Nat → Int32) (x : Int32) (j : Nat) : (bdW cI ad F G).set 31 (ad 70, .inl (cI, 4, .inl (upd (G 70) j x))) = bdW cI ad F (qG G 70 j x) := rfl
theorem kw_ch {D : va_G} {cI : ClassId} {ad : Nat → Nat} {F : Nat → Int32} {G : Nat → Nat → Int32} {H : Heap} (h : va_P D vwCl (kwW cI ad F G) H) : va_P D vwCl (chW cI ad F G) H := h.sub [12, 13, 14, 15, 16] rfl
theorem kw_wy {D : va_G} {cI : ClassId} {ad : Nat → Nat} {F : Nat → Int32} {G : Nat → Nat → Int32} {H : Heap} (h : va_P D vwCl (kwW cI ad F G) H) : va_P D vwCl (wyW cI ad F G) H := h.sub [0, 1, 2, 3, 4, 5, 6, 7, 8, 9, 10, 11] rfl
theorem mw_wy {D : va_G} {cI : ClassId} {ad : Nat → Nat} {F : Nat → Int32} {G : Nat → Nat → Int32} {H : Heap} (h : va_P D vwCl (mwW cI ad F G) H) : va_P D vwCl (wyW cI ad F G) H := h.sub [2, 3, 4, 5, 6, 7, 8, 9, 10, 11, 12, 13] rfl
theorem bd_ch {D : va_G} {cI : ClassId} {ad : Nat → Nat} {F : Nat → Int32} {G : Nat → Nat → Int32} {H : Heap} (h : va_P D vwCl (bdW cI ad F G) H) : va_P D vwCl (chW cI ad F G) H := h.sub [1, 2, 3, 4, 5] rfl
theorem bd_wy {D : va_G} {cI : ClassId} {ad : Nat → Nat} {F : Nat → Int32} {G : Nat → Nat → Int32} {H : Heap} (h : va_P D vwCl (bdW cI ad F G) H) : va_P D vwCl (wyW cI ad F G) H := h.sub [8, 9, 10, 11, 12, 13, 14, 15, 16, 17, 18, 19] rfl
theorem bd_kw {D : va_G} {cI : ClassId} {ad : Nat → Nat} {F : Nat → Int32} {G : Nat → Nat → Int32} {H : Heap} (h : va_P D vwCl (bdW cI ad F G) H) : va_P D vwCl (kwW cI ad F G) H := h.sub [8, 9, 10, 11, 12, 13, 14, 15, 16, 17, 18, 19, 1, 2, 3, 4, 5] rfl
theorem bd_mw {D : va_G} {cI : ClassId} {ad : Nat → Nat} {F : Nat → Int32} {G : Nat → Nat → Int32} {H : Heap} (h : va_P D vwCl (bdW cI ad F G) H) : va_P D vwCl (mwW cI ad F G) H := h.sub [6, 7, 8, 9, 10, 11, 12, 13, 14, 15, 16, 17, 18, 19] rfl
end
section
def f_X4_isWithin (x0 : Int32) (x1 : Int32) (x2 : Int32) : Option (Int32) :=
  if x0 < x1 then
    some (0 : Int32)
  else
    if x2 < x0 then
      some (0 : Int32)
    else
      some (1 : Int32)
def f_X4_isCell (x0 : Int32) (x1 : Int32) : Option (Int32) :=
  qc (f_X4_isWithin x0 (0 : Int32) (11 : Int32)) fun v1 =>
  if v1 = 0 then
    some (0 : Int32)
  else
    qc (f_X4_isWithin x1 (0 : Int32) (11 : Int32)) fun v3 =>
    if v3 = 0 then
      some (0 : Int32)
    else
      some (1 : Int32)
def f_X5_in (x0 : Int32) (x1 : Int32) (x2 : Int32) : Option (Int32) :=
  if x0 < x1 then
    some (0 : Int32)
  else
    if x2 < x0 then
      some (0 : Int32)
    else
      some (1 : Int32)
def f_X5_beadsOf_B27 (rec4 : Int32 → Int32 → Option (Int32)) (F : Nat → Int32) (G : Nat → Nat → Int32) (x1 : Int32) (x3 : Int32) (s0 : Int32) (s1 : Int32) : Option (Int32) :=
  qn ((s0 + s1)) fun v1 =>
  qn (x3 + (1 : Int32)) fun v2 =>
  rec4 v1 v2
def f_X5_beadsOf_L4_b  (rec4 : Int32 → Int32 → Option (Int32)) (F : Nat → Int32) (G : Nat → Nat → Int32) (x1 : Int32) (x2 : Int32) (x3 : Int32) : Option (Int32) :=
  if (144 : Int32) ≤ x3 then
    some x2
  else
    ql (G 0) 144 x3 fun v3 =>
    if v3 = x1 then
      f_X5_beadsOf_B27 rec4 F G x1 x3 x2 (1 : Int32)
    else
      f_X5_beadsOf_B27 rec4 F G x1 x3 x2 (0 : Int32)
def f_X5_beadsOf_L4  (F : Nat → Int32) (G : Nat → Nat → Int32) (x1 : Int32) : Nat → Int32 → Int32 → Option (Int32)
  | 0, _, _ => none
  | n + 1, x2, x3 => f_X5_beadsOf_L4_b  (f_X5_beadsOf_L4  F G x1 n) F G x1 x2 x3
def f_X5_beadsOf (F : Nat → Int32) (G : Nat → Nat → Int32) (x1 : Int32) : Option (Int32) :=
  qn (0 : Int32) fun v4 =>
  qn (0 : Int32) fun v5 =>
  f_X5_beadsOf_L4 F G x1 1000 v4 v5
def f_X5_colourAt (F : Nat → Int32) (G : Nat → Nat → Int32) (x1 : Int32) (x2 : Int32) : Option (Int32) :=
  if x1 = (F 8) then
    ql (G 0) 144 x2 fun v2 =>
    some v2
  else
    ql (G 14) 144 x1 fun v1 =>
    some v1
def f_X5_needs_L4_b  (rec4 : Int32 → Int32 → Option (Int32)) (F : Nat → Int32) (G : Nat → Nat → Int32) (x1 : Int32) (x2 : Int32) (x3 : Int32) : Option (Int32) :=
  if (F 27) ≤ x3 then
    some x2
  else
    ql (G 28) 8 x3 fun v1 =>
    qc (f_X5_colourAt F G v1 x1) fun v2 =>
    ql (G 4) 6 v2 fun v4 =>
    qn ((x2 + v4)) fun v5 =>
    qn (x3 + (1 : Int32)) fun v6 =>
    rec4 v5 v6
def f_X5_needs_L4  (F : Nat → Int32) (G : Nat → Nat → Int32) (x1 : Int32) : Nat → Int32 → Int32 → Option (Int32)
  | 0, _, _ => none
  | n + 1, x2, x3 => f_X5_needs_L4_b  (f_X5_needs_L4  F G x1 n) F G x1 x2 x3
def f_X5_needs (F : Nat → Int32) (G : Nat → Nat → Int32) (x1 : Int32) : Option (Int32) :=
  qn (0 : Int32) fun v7 =>
  qn (0 : Int32) fun v8 =>
  f_X5_needs_L4 F G x1 1000 v7 v8
def f_X5_passesBy (F : Nat → Int32) (G : Nat → Nat → Int32) (x1 : Int32) : Option (qS) :=
  qs G 28 8 ((F 27)) x1 fun G1 =>
  qf F 27 (((F 27) + (1 : Int32))) fun F2 =>
  some (F2, G1)
def f_X5_finds_29_B110  (x2 : Int32) (F : Nat → Int32) (G : Nat → Nat → Int32) (x3 : Int32) : Option (Int32 × qS) :=
  if x3 = (F 7) then
    some ((1 : Int32), F, G)
  else
    some ((0 : Int32), F, G)
def f_X5_finds_29_B104 (rec10 : (Nat → Int32) → (Nat → Nat → Int32) → Int32 → Int32 → Option (Int32 × qS)) (x2 : Int32) (F : Nat → Int32) (G : Nat → Nat → Int32) (x3 : Int32) (x4 : Int32) : Option (Int32 × qS) :=
  qn (x4 + (-1 : Int32)) fun v1 =>
  rec10 F G x3 v1
def f_X5_finds_29_B76 (rec10 : (Nat → Int32) → (Nat → Nat → Int32) → Int32 → Int32 → Option (Int32 × qS)) (x2 : Int32) (F : Nat → Int32) (G : Nat → Nat → Int32) (x3 : Int32) (x4 : Int32) (x5 : Int32) : Option (Int32 × qS) :=
  ql (G 14) 144 x4 fun v2 =>
  ql (G 3) 6 v2 fun v3 =>
  if x5 < v3 then
    qs G 29 6 x3 x4 fun G4 =>
    qn (x3 + (1 : Int32)) fun v5 =>
    f_X5_finds_29_B104 rec10 x2 F G4 v5 x4
  else
    f_X5_finds_29_B104 rec10 x2 F G x3 x4
def f_X5_finds_29_B67 (rec10 : (Nat → Int32) → (Nat → Nat → Int32) → Int32 → Int32 → Option (Int32 × qS)) (rec35 : (Nat → Int32) → (Nat → Nat → Int32) → Int32 → Int32 → Int32 → Int32 → Option (Int32 × qS)) (x2 : Int32) (F : Nat → Int32) (G : Nat → Nat → Int32) (x3 : Int32) (x4 : Int32) (x6 : Int32) (s0 : Int32) (s1 : Int32) : Option (Int32 × qS) :=
  qn ((s0 + s1)) fun v6 =>
  qn (x6 + (1 : Int32)) fun v7 =>
  rec35 F G x3 x4 v6 v7
def f_X5_finds_29_L35_b (rec10 : (Nat → Int32) → (Nat → Nat → Int32) → Int32 → Int32 → Option (Int32 × qS)) (rec35 : (Nat → Int32) → (Nat → Nat → Int32) → Int32 → Int32 → Int32 → Int32 → Option (Int32 × qS)) (x2 : Int32) (F : Nat → Int32) (G : Nat → Nat → Int32) (x3 : Int32) (x4 : Int32) (x5 : Int32) (x6 : Int32) : Option (Int32 × qS) :=
  if x2 = 0 then
    f_X5_finds_29_B76 rec10 x2 F G x3 x4 x5
  else
    if (F 7) ≤ x6 then
      f_X5_finds_29_B76 rec10 x2 F G x3 x4 x5
    else
      ql (G 29) 6 x6 fun v8 =>
      if v8 = x4 then
        f_X5_finds_29_B67 rec10 rec35 x2 F G x3 x4 x6 x5 (1 : Int32)
      else
        f_X5_finds_29_B67 rec10 rec35 x2 F G x3 x4 x6 x5 (0 : Int32)
def f_X5_finds_29_L35 (rec10 : (Nat → Int32) → (Nat → Nat → Int32) → Int32 → Int32 → Option (Int32 × qS)) (x2 : Int32) : Nat → (Nat → Int32) → (Nat → Nat → Int32) → Int32 → Int32 → Int32 → Int32 → Option (Int32 × qS)
  | 0, _, _, _, _, _, _ => none
  | n + 1, F, G, x3, x4, x5, x6 => f_X5_finds_29_L35_b rec10 (f_X5_finds_29_L35 rec10 x2 n) x2 F G x3 x4 x5 x6
def f_X5_finds_29_L10_b  (rec10 : (Nat → Int32) → (Nat → Nat → Int32) → Int32 → Int32 → Option (Int32 × qS)) (x2 : Int32) (F : Nat → Int32) (G : Nat → Nat → Int32) (x3 : Int32) (x4 : Int32) : Option (Int32 × qS) :=
  if x4 < 0 then
    f_X5_finds_29_B110 x2 F G x3
  else
    if (F 7) ≤ x3 then
      f_X5_finds_29_B110 x2 F G x3
    else
      ql (G 11) 144 x4 fun v9 =>
      qn (0 : Int32) fun v10 =>
      f_X5_finds_29_L35 rec10 x2 1000 F G x3 x4 v9 v10
def f_X5_finds_29_L10  (x2 : Int32) : Nat → (Nat → Int32) → (Nat → Nat → Int32) → Int32 → Int32 → Option (Int32 × qS)
  | 0, _, _, _, _ => none
  | n + 1, F, G, x3, x4 => f_X5_finds_29_L10_b  (f_X5_finds_29_L10  x2 n) x2 F G x3 x4
def f_X5_finds_29 (F : Nat → Int32) (G : Nat → Nat → Int32) (x2 : Int32) : Option (Int32 × qS) :=
  qn (0 : Int32) fun v11 =>
  qn (((F 8) - (1 : Int32))) fun v12 =>
  f_X5_finds_29_L10 x2 1000 F G v11 v12
set_option maxHeartbeats 4000000 in
set_option maxRecDepth 100000 in
theorem mt_X4_isWithin (l : Launch) (x0 : Int32) (x1 : Int32) (x2 : Int32) (rv : Int32) (h : f_X4_isWithin x0 x1 x2 = some rv) : Met l yX4_isWithin wsX4_isWithin ({ frames := 0, cells := 0, slots := 0, locals := 0 } : Room) (va_Pc [.int x0, .int x1, .int x2] (fun _ => True)) (vp_Si (fun z => z = rv)) 0 0 (fun _ => False) := by
  refine Met.ofW (cc := cX4_isWithin) (maxL := 3) (ret := (some .boolean)) (by decide) rfl ?_
  intro p e s m args below meth c s₁ B hml hv
  obtain ⟨rfl, -⟩ := hv
  have hx := B.exec
  have hb := B.bytes
  have hr := B.returns
  have hts := atoms_spec (ws := wsX4_isWithin) B.pre
  have hown : s.vm.findClass RX4 = some m.cls := findClass_of_methodNamed B.named
  have hlocks := B.notSynchronized
  have hl := lv_entry ([.int x0, .int x1, .int x2]) (n := 3) (Nat.le_of_ble_eq_true rfl)
  rw [lg_entry_eq]
  generalize (lg_sl ([.int x0, .int x1, .int x2]) ++ List.replicate (3 - (lg_sl ([.int x0, .int x1, .int x2])).length) Slot.unset).toArray = ls at hl ⊢
  have hl : lv_has ls 3 [(0, .int (x0)), (1, .int (x1)), (2, .int (x2))] := hl
  refine lv_iload_n hx hb dX4_isWithin_0 rfl (lv_at hl 0 rfl) ?_
  refine lv_iload_n hx hb dX4_isWithin_1 rfl (lv_at hl 1 rfl) ?_
  refine q_icmp_lt (tgt := 14) hx hb dX4_isWithin_2 (by decide) h (fun h => ?_) (fun h => ?_)
  · refine lv_iconst (v := 0) hx hb dX4_isWithin_14 (by decide) ?_
    exact W.zret hx hb hr rfl (fun t ht hW => ⟨_, rfl, Option.some.inj h, ht⟩) (fun q hq9 => by cases hq9) dX4_isWithin_15
  · refine lv_iload_n hx hb dX4_isWithin_5 rfl (lv_at hl 0 rfl) ?_
    refine lv_iload_n hx hb dX4_isWithin_6 rfl (lv_at hl 2 rfl) ?_
    refine q_icmp_gt (tgt := 14) hx hb dX4_isWithin_7 (by decide) h (fun h => ?_) (fun h => ?_)
    · refine lv_iconst (v := 0) hx hb dX4_isWithin_14 (by decide) ?_
      exact W.zret hx hb hr rfl (fun t ht hW => ⟨_, rfl, Option.some.inj h, ht⟩) (fun q hq9 => by cases hq9) dX4_isWithin_15
    · refine lv_iconst (v := 1) hx hb dX4_isWithin_10 (by decide) ?_
      refine lv_goto (tgt := 15) hx hb dX4_isWithin_11 (by decide) ?_
      exact W.zret hx hb hr rfl (fun t ht hW => ⟨_, rfl, Option.some.inj h, ht⟩) (fun q hq9 => by cases hq9) dX4_isWithin_15
set_option maxHeartbeats 4000000 in
set_option maxRecDepth 100000 in
theorem mt_X4_isCell (l : Launch) (x0 : Int32) (x1 : Int32) (rv : Int32) (h : f_X4_isCell x0 x1 = some rv) : Met l yX4_isCell wsX4_isCell ({ frames := 1, cells := 0, slots := 0, locals := 22 } : Room) (va_Pc [.int x0, .int x1] (fun _ => True)) (vp_Si (fun z => z = rv)) 0 0 (fun _ => False) := by
  refine Met.ofW (cc := cX4_isCell) (maxL := 2) (ret := (some .boolean)) (by decide) rfl ?_
  intro p e s m args below meth c s₁ B hml hv
  obtain ⟨rfl, -⟩ := hv
  have hx := B.exec
  have hb := B.bytes
  have hr := B.returns
  have hts := atoms_spec (ws := wsX4_isCell) B.pre
  have hown : s.vm.findClass RX4 = some m.cls := findClass_of_methodNamed B.named
  have hlocks := B.notSynchronized
  have hl := lv_entry ([.int x0, .int x1]) (n := 2) (Nat.le_of_ble_eq_true rfl)
  rw [lg_entry_eq]
  generalize (lg_sl ([.int x0, .int x1]) ++ List.replicate (2 - (lg_sl ([.int x0, .int x1])).length) Slot.unset).toArray = ls at hl ⊢
  have hl : lv_has ls 2 [(0, .int (x0)), (1, .int (x1))] := hl
  refine lv_iload_n hx hb dX4_isCell_0 rfl (lv_at hl 0 rfl) ?_
  refine lv_iconst (v := 0) hx hb dX4_isCell_1 (by decide) ?_
  refine lv_bipush (v := 11) hx hb dX4_isCell_2 (by decide) ?_
  obtain ⟨v1, hc2, h⟩ := q_some h
  refine q_cs (W.runS (As := [.int (x0), .int ((0 : Int32)), .int ((11 : Int32))]) (rest := []) ⟨hx, hb, hml, hown, hts⟩ (mt_X4_isWithin l x0 (0 : Int32) (11 : Int32) v1 hc2) (va_cwS 3 hts gX4_isCell_X4_isWithin rfl rfl rfl (by decide +kernel) ⟨Nat.le_of_ble_eq_true rfl, Nat.le_of_ble_eq_true rfl⟩) q_pr0 rfl rfl hl.1 rfl (lv_room (Nat.le_of_ble_eq_true rfl)) dX4_isCell_4 ⟨Nat.le_of_ble_eq_true rfl, Nat.le_of_ble_eq_true rfl⟩) ?_
  refine q_if_eq (tgt := 24) hx hb dX4_isCell_7 (by decide) h (fun h => ?_) (fun h => ?_)
  · refine lv_iconst (v := 0) hx hb dX4_isCell_24 (by decide) ?_
    exact W.zret hx hb hr rfl (fun t ht hW => ⟨_, rfl, Option.some.inj h, ht⟩) (fun q hq9 => by cases hq9) dX4_isCell_25
  · refine lv_iload_n hx hb dX4_isCell_10 rfl (lv_at hl 1 rfl) ?_
    refine lv_iconst (v := 0) hx hb dX4_isCell_11 (by decide) ?_
    refine lv_bipush (v := 11) hx hb dX4_isCell_12 (by decide) ?_
    obtain ⟨v3, hc4, h⟩ := q_some h
    refine q_cs (W.runS (As := [.int (x1), .int ((0 : Int32)), .int ((11 : Int32))]) (rest := []) ⟨hx, hb, hml, hown, hts⟩ (mt_X4_isWithin l x1 (0 : Int32) (11 : Int32) v3 hc4) (va_cwS 3 hts gX4_isCell_X4_isWithin rfl rfl rfl (by decide +kernel) ⟨Nat.le_of_ble_eq_true rfl, Nat.le_of_ble_eq_true rfl⟩) q_pr0 rfl rfl hl.1 rfl (lv_room (Nat.le_of_ble_eq_true rfl)) dX4_isCell_14 ⟨Nat.le_of_ble_eq_true rfl, Nat.le_of_ble_eq_true rfl⟩) ?_
    refine q_if_eq (tgt := 24) hx hb dX4_isCell_17 (by decide) h (fun h => ?_) (fun h => ?_)
    · refine lv_iconst (v := 0) hx hb dX4_isCell_24 (by decide) ?_
      exact W.zret hx hb hr rfl (fun t ht hW => ⟨_, rfl, Option.some.inj h, ht⟩) (fun q hq9 => by cases hq9) dX4_isCell_25
    · refine lv_iconst (v := 1) hx hb dX4_isCell_20 (by decide) ?_
      refine lv_goto (tgt := 25) hx hb dX4_isCell_21 (by decide) ?_
      exact W.zret hx hb hr rfl (fun t ht hW => ⟨_, rfl, Option.some.inj h, ht⟩) (fun q hq9 => by cases hq9) dX4_isCell_25
set_option maxHeartbeats 4000000 in
set_option maxRecDepth 100000 in
theorem mt_X5_in (l : Launch) (x0 : Int32) (x1 : Int32) (x2 : Int32) (rv : Int32) (h : f_X5_in x0 x1 x2 = some rv) : Met l yX5_in wsX5_in ({ frames := 0, cells := 0, slots := 0, locals := 0 } : Room) (va_Pc [.int x0, .int x1, .int x2] (fun _ => True)) (vp_Si (fun z => z = rv)) 0 0 (fun _ => False) := by
  refine Met.ofW (cc := cX5_in) (maxL := 3) (ret := (some .boolean)) (by decide) rfl ?_
  intro p e s m args below meth c s₁ B hml hv
  obtain ⟨rfl, -⟩ := hv
  have hx := B.exec
  have hb := B.bytes
  have hr := B.returns
  have hts := atoms_spec (ws := wsX5_in) B.pre
  have hown : s.vm.findClass RX5 = some m.cls := findClass_of_methodNamed B.named
  have hlocks := B.notSynchronized
  have hl := lv_entry ([.int x0, .int x1, .int x2]) (n := 3) (Nat.le_of_ble_eq_true rfl)
  rw [lg_entry_eq]
  generalize (lg_sl ([.int x0, .int x1, .int x2]) ++ List.replicate (3 - (lg_sl ([.int x0, .int x1, .int x2])).length) Slot.unset).toArray = ls at hl ⊢
  have hl : lv_has ls 3 [(0, .int (x0)), (1, .int (x1)), (2, .int (x2))] := hl
  refine lv_iload_n hx hb dX5_in_0 rfl (lv_at hl 0 rfl) ?_
  refine lv_iload_n hx hb dX5_in_1 rfl (lv_at hl 1 rfl) ?_
  refine q_icmp_lt (tgt := 14) hx hb dX5_in_2 (by decide) h (fun h => ?_) (fun h => ?_)
  · refine lv_iconst (v := 0) hx hb dX5_in_14 (by decide) ?_
    exact W.zret hx hb hr rfl (fun t ht hW => ⟨_, rfl, Option.some.inj h, ht⟩) (fun q hq9 => by cases hq9) dX5_in_15
  · refine lv_iload_n hx hb dX5_in_5 rfl (lv_at hl 0 rfl) ?_
    refine lv_iload_n hx hb dX5_in_6 rfl (lv_at hl 2 rfl) ?_
    refine q_icmp_gt (tgt := 14) hx hb dX5_in_7 (by decide) h (fun h => ?_) (fun h => ?_)
    · refine lv_iconst (v := 0) hx hb dX5_in_14 (by decide) ?_
      exact W.zret hx hb hr rfl (fun t ht hW => ⟨_, rfl, Option.some.inj h, ht⟩) (fun q hq9 => by cases hq9) dX5_in_15
    · refine lv_iconst (v := 1) hx hb dX5_in_10 (by decide) ?_
      refine lv_goto (tgt := 15) hx hb dX5_in_11 (by decide) ?_
      exact W.zret hx hb hr rfl (fun t ht hW => ⟨_, rfl, Option.some.inj h, ht⟩) (fun q hq9 => by cases hq9) dX5_in_15
theorem hi_X5_beadsOf_X5 : ∀ w ∈ u_ws RX5 TX5 48, w ∈ wsX5_beadsOf := fun w h => (List.mem_cons_of_mem _ (List.mem_append_right _ h))
set_option maxHeartbeats 4000000 in
set_option maxRecDepth 100000 in
theorem mt_X5_beadsOf (l : Launch) (D : va_G) (cI cZ : ClassId) (ad : Nat → Nat) (F : Nat → Int32) (G : Nat → Nat → Int32) (x1 : Int32) (rv : Int32) (h : f_X5_beadsOf F G x1 = some rv) : Met l yX5_beadsOf wsX5_beadsOf ({ frames := 0, cells := 0, slots := 0, locals := 0 } : Room) (va_Pc [.ref (ad 99), .int x1] (mR D cI cZ ad F G)) (vp_Si (fun z => z = rv)) 0 0 (fun _ => False) := by
  refine Met.ofW (cc := cX5_beadsOf) (maxL := 4) (ret := (some .int)) (by decide) rfl ?_
  intro p e s m args below meth c s₁ B hml hv
  obtain ⟨rfl, hP, hK, hN⟩ := hv
  have hx := B.exec
  have hb := B.bytes
  have hr := B.returns
  have hts := atoms_spec (ws := wsX5_beadsOf) B.pre
  have hown : s.vm.findClass RX5 = some m.cls := findClass_of_methodNamed B.named
  have hlocks := B.notSynchronized
  have hl := lv_entry ([.ref (ad 99), .int x1]) (n := 4) (Nat.le_of_ble_eq_true rfl)
  rw [lg_entry_eq]
  generalize (lg_sl ([.ref (ad 99), .int x1]) ++ List.replicate (4 - (lg_sl ([.ref (ad 99), .int x1])).length) Slot.unset).toArray = ls at hl ⊢
  have hl : lv_has ls 4 [(0, .ref (ad 99)), (1, .int (x1))] := hl
  have j4 : ∀ n4 : Nat, ∀ (x2 : Int32) (x3 : Int32) , ∀ ls : Array Slot, lv_has ls 4 [(0, .ref (ad 99)), (1, .int (x1)), (2, .int (x2)), (3, .int (x3))] → f_X5_beadsOf_L4 F G x1 n4 x2 x3 = some rv → W p l e (headSpec wsX5_beadsOf ({ frames := 0, cells := 0, slots := 0, locals := 0 } : Room)).room s m (List.toArray ([.ref (ad 99), .int x1] : List Value)) below meth c s.heap [] 0 0 (MQ below (vp_Si (fun z => z = rv)) (List.toArray ([.ref (ad 99), .int x1] : List Value)) s 0 0 (fun _ => False)) (F0 m 4 ls []) := by
    intro n4
    induction n4 with
    | zero =>
      intro x2 x3 ls hl h
      cases h
    | succ n4 ih4 =>
      have j27 : ∀ (x3 : Int32) (s0 : Int32) (s1 : Int32) , ∀ ls : Array Slot, lv_has ls 4 [(0, .ref (ad 99)), (1, .int (x1)), (3, .int (x3))] → f_X5_beadsOf_B27 (f_X5_beadsOf_L4 F G x1 n4) F G x1 x3 s0 s1 = some rv → W p l e (headSpec wsX5_beadsOf ({ frames := 0, cells := 0, slots := 0, locals := 0 } : Room)).room s m (List.toArray ([.ref (ad 99), .int x1] : List Value)) below meth c s.heap [] 0 0 (MQ below (vp_Si (fun z => z = rv)) (List.toArray ([.ref (ad 99), .int x1] : List Value)) s 0 0 (fun _ => False)) (F0 m 27 ls [.int (s1), .int (s0)]) := by
        intro x3 s0 s1 ls hl h
        refine lv_iadd hx hb dX5_beadsOf_27 ?_
        refine q_nm h (fun v1 h => ?_)
        refine lv_istore_n (lv' := [(2, .int (v1)), (0, .ref (ad 99)), (1, .int (x1)), (3, .int (x3))]) hx hb dX5_beadsOf_28 rfl hl (by decide) rfl (fun ls hl => ?_)
        refine q_iinc (j := 3) (d := (1 : Int32)) (lv2 := fun v2 => [(3, .int (v2)), (2, .int (v1)), (0, .ref (ad 99)), (1, .int (x1))]) hx hb dX5_beadsOf_29 hl rfl (by decide) (by decide) (fun _ => rfl) h (fun v2 ls hl h => ?_)
        refine lv_goto (tgt := 4) hx hb dX5_beadsOf_32 (by decide) ?_
        exact ih4 v1 v2 _ (lv_sub hl [2, 3, 1, 0] rfl) h
      intro x2 x3 ls hl h
      replace h : f_X5_beadsOf_L4_b (f_X5_beadsOf_L4 F G x1 n4) F G x1 x2 x3 = some rv := h
      refine lv_iload_n hx hb dX5_beadsOf_4 rfl (lv_at hl 3 rfl) ?_
      refine lv_sipush (v := 144) hx hb dX5_beadsOf_5 (by decide) ?_
      refine q_icmp_ge (tgt := 35) hx hb dX5_beadsOf_8 (by decide) h (fun h => ?_) (fun h => ?_)
      · refine lv_iload_n hx hb dX5_beadsOf_35 rfl (lv_at hl 2 rfl) ?_
        exact W.iret hx hb hr (fun t ht hW => ⟨_, rfl, Option.some.inj h, ht⟩) (fun q hq9 => by cases hq9) dX5_beadsOf_36
      · refine lv_iload_n hx hb dX5_beadsOf_11 rfl (lv_at hl 2 rfl) ?_
        refine lv_aload_n hx hb dX5_beadsOf_12 rfl (lv_at hl 0 rfl) ?_
        refine va_get hx hb hts hi_X5_beadsOf_X5 hown hK hP 0 (m_o99 cI cZ ad F G) rfl 0 (by decide) (hts _ (List.mem_of_getElem? (i := 1) rfl)) (fun _ h9 => h9) rfl dX5_beadsOf_13 ?_
        refine lv_iload_n hx hb dX5_beadsOf_16 rfl (lv_at hl 3 rfl) ?_
        refine q_ld hx hb hK hP 1 0 (m_a0 cI cZ ad F G) rfl dX5_beadsOf_17 h (fun v3 h => ?_)
        refine lv_iload_n hx hb dX5_beadsOf_18 rfl (lv_at hl 1 rfl) ?_
        refine q_icmp_ne (tgt := 26) hx hb dX5_beadsOf_19 (by decide) h (fun h => ?_) (fun h => ?_)
        · refine lv_iconst (v := 0) hx hb dX5_beadsOf_26 (by decide) ?_
          exact j27 x3 x2 (0 : Int32) _ (lv_sub hl [0, 1, 3] rfl) h
        · refine lv_iconst (v := 1) hx hb dX5_beadsOf_22 (by decide) ?_
          refine lv_goto (tgt := 27) hx hb dX5_beadsOf_23 (by decide) ?_
          exact j27 x3 x2 (1 : Int32) _ (lv_sub hl [0, 1, 3] rfl) h
  refine lv_iconst (v := 0) hx hb dX5_beadsOf_0 (by decide) ?_
  refine q_nm h (fun v4 h => ?_)
  refine lv_istore_n (lv' := [(2, .int (v4)), (0, .ref (ad 99)), (1, .int (x1))]) hx hb dX5_beadsOf_1 rfl hl (by decide) rfl (fun ls hl => ?_)
  refine lv_iconst (v := 0) hx hb dX5_beadsOf_2 (by decide) ?_
  refine q_nm h (fun v5 h => ?_)
  refine lv_istore_n (lv' := [(3, .int (v5)), (2, .int (v4)), (0, .ref (ad 99)), (1, .int (x1))]) hx hb dX5_beadsOf_3 rfl hl (by decide) rfl (fun ls hl => ?_)
  exact j4 1000 v4 v5 _ (lv_sub hl [2, 3, 1, 0] rfl) h
theorem hi_X5_colourAt_X5 : ∀ w ∈ u_ws RX5 TX5 48, w ∈ wsX5_colourAt := fun w h => (List.mem_cons_of_mem _ (List.mem_append_right _ h))
set_option maxHeartbeats 4000000 in
set_option maxRecDepth 100000 in
theorem mt_X5_colourAt (l : Launch) (D : va_G) (cI cZ : ClassId) (ad : Nat → Nat) (F : Nat → Int32) (G : Nat → Nat → Int32) (x1 : Int32) (x2 : Int32) (rv : Int32) (h : f_X5_colourAt F G x1 x2 = some rv) : Met l yX5_colourAt wsX5_colourAt ({ frames := 0, cells := 0, slots := 0, locals := 0 } : Room) (va_Pc [.ref (ad 99), .int x1, .int x2] (mR D cI cZ ad F G)) (vp_Si (fun z => z = rv)) 0 0 (fun _ => False) := by
  refine Met.ofW (cc := cX5_colourAt) (maxL := 3) (ret := (some .int)) (by decide) rfl ?_
  intro p e s m args below meth c s₁ B hml hv
  obtain ⟨rfl, hP, hK, hN⟩ := hv
  have hx := B.exec
  have hb := B.bytes
  have hr := B.returns
  have hts := atoms_spec (ws := wsX5_colourAt) B.pre
  have hown : s.vm.findClass RX5 = some m.cls := findClass_of_methodNamed B.named
  have hlocks := B.notSynchronized
  have hl := lv_entry ([.ref (ad 99), .int x1, .int x2]) (n := 3) (Nat.le_of_ble_eq_true rfl)
  rw [lg_entry_eq]
  generalize (lg_sl ([.ref (ad 99), .int x1, .int x2]) ++ List.replicate (3 - (lg_sl ([.ref (ad 99), .int x1, .int x2])).length) Slot.unset).toArray = ls at hl ⊢
  have hl : lv_has ls 3 [(0, .ref (ad 99)), (1, .int (x1)), (2, .int (x2))] := hl
  refine lv_iload_n hx hb dX5_colourAt_0 rfl (lv_at hl 1 rfl) ?_
  refine lv_aload_n hx hb dX5_colourAt_1 rfl (lv_at hl 0 rfl) ?_
  refine va_get hx hb hts hi_X5_colourAt_X5 hown hK hP 0 (m_o99 cI cZ ad F G) rfl 8 (by decide) (hts _ (List.mem_of_getElem? (i := 1) rfl)) (fun _ h9 => h9) rfl dX5_colourAt_2 ?_
  refine q_icmp_ne (tgt := 17) hx hb dX5_colourAt_5 (by decide) h (fun h => ?_) (fun h => ?_)
  · refine lv_aload_n hx hb dX5_colourAt_17 rfl (lv_at hl 0 rfl) ?_
    refine va_get hx hb hts hi_X5_colourAt_X5 hown hK hP 0 (m_o99 cI cZ ad F G) rfl 14 (by decide) (hts _ (List.mem_of_getElem? (i := 3) rfl)) (fun _ h9 => h9) rfl dX5_colourAt_18 ?_
    refine lv_iload_n hx hb dX5_colourAt_21 rfl (lv_at hl 1 rfl) ?_
    refine q_ld hx hb hK hP 10 0 (m_a14 cI cZ ad F G) rfl dX5_colourAt_22 h (fun v1 h => ?_)
    exact W.iret hx hb hr (fun t ht hW => ⟨_, rfl, Option.some.inj h, ht⟩) (fun q hq9 => by cases hq9) dX5_colourAt_23
  · refine lv_aload_n hx hb dX5_colourAt_8 rfl (lv_at hl 0 rfl) ?_
    refine va_get hx hb hts hi_X5_colourAt_X5 hown hK hP 0 (m_o99 cI cZ ad F G) rfl 0 (by decide) (hts _ (List.mem_of_getElem? (i := 2) rfl)) (fun _ h9 => h9) rfl dX5_colourAt_9 ?_
    refine lv_iload_n hx hb dX5_colourAt_12 rfl (lv_at hl 2 rfl) ?_
    refine q_ld hx hb hK hP 1 0 (m_a0 cI cZ ad F G) rfl dX5_colourAt_13 h (fun v2 h => ?_)
    refine lv_goto (tgt := 23) hx hb dX5_colourAt_14 (by decide) ?_
    exact W.iret hx hb hr (fun t ht hW => ⟨_, rfl, Option.some.inj h, ht⟩) (fun q hq9 => by cases hq9) dX5_colourAt_23
theorem hi_X5_needs_X5 : ∀ w ∈ u_ws RX5 TX5 48, w ∈ wsX5_needs := fun w h => (List.mem_cons_of_mem _ (List.mem_append_right _ h))
set_option maxHeartbeats 4000000 in
set_option maxRecDepth 100000 in
theorem mt_X5_needs (l : Launch) (D : va_G) (cI cZ : ClassId) (ad : Nat → Nat) (F : Nat → Int32) (G : Nat → Nat → Int32) (x1 : Int32) (rv : Int32) (h : f_X5_needs F G x1 = some rv) : Met l yX5_needs wsX5_needs ({ frames := 1, cells := 0, slots := 0, locals := 22 } : Room) (va_Pc [.ref (ad 99), .int x1] (mR D cI cZ ad F G)) (vp_Si (fun z => z = rv)) 0 0 (fun _ => False) := by
  refine Met.ofW (cc := cX5_needs) (maxL := 4) (ret := (some .int)) (by decide) rfl ?_
  intro p e s m args below meth c s₁ B hml hv
  obtain ⟨rfl, hP, hK, hN⟩ := hv
  have hx := B.exec
  have hb := B.bytes
  have hr := B.returns
  have hts := atoms_spec (ws := wsX5_needs) B.pre
  have hown : s.vm.findClass RX5 = some m.cls := findClass_of_methodNamed B.named
  have hlocks := B.notSynchronized
  have hl := lv_entry ([.ref (ad 99), .int x1]) (n := 4) (Nat.le_of_ble_eq_true rfl)
  rw [lg_entry_eq]
  generalize (lg_sl ([.ref (ad 99), .int x1]) ++ List.replicate (4 - (lg_sl ([.ref (ad 99), .int x1])).length) Slot.unset).toArray = ls at hl ⊢
  have hl : lv_has ls 4 [(0, .ref (ad 99)), (1, .int (x1))] := hl
  have j4 : ∀ n4 : Nat, ∀ (x2 : Int32) (x3 : Int32) , ∀ ls : Array Slot, lv_has ls 4 [(0, .ref (ad 99)), (1, .int (x1)), (2, .int (x2)), (3, .int (x3))] → f_X5_needs_L4 F G x1 n4 x2 x3 = some rv → W p l e (headSpec wsX5_needs ({ frames := 1, cells := 0, slots := 0, locals := 22 } : Room)).room s m (List.toArray ([.ref (ad 99), .int x1] : List Value)) below meth c s.heap [] 0 0 (MQ below (vp_Si (fun z => z = rv)) (List.toArray ([.ref (ad 99), .int x1] : List Value)) s 0 0 (fun _ => False)) (F0 m 4 ls []) := by
    intro n4
    induction n4 with
    | zero =>
      intro x2 x3 ls hl h
      cases h
    | succ n4 ih4 =>
      intro x2 x3 ls hl h
      replace h : f_X5_needs_L4_b (f_X5_needs_L4 F G x1 n4) F G x1 x2 x3 = some rv := h
      refine lv_iload_n hx hb dX5_needs_4 rfl (lv_at hl 3 rfl) ?_
      refine lv_aload_n hx hb dX5_needs_5 rfl (lv_at hl 0 rfl) ?_
      refine va_get hx hb hts hi_X5_needs_X5 hown hK hP 0 (m_o99 cI cZ ad F G) rfl 27 (by decide) (hts _ (List.mem_of_getElem? (i := 1) rfl)) (fun _ h9 => h9) rfl dX5_needs_6 ?_
      refine q_icmp_ge (tgt := 37) hx hb dX5_needs_9 (by decide) h (fun h => ?_) (fun h => ?_)
      · refine lv_iload_n hx hb dX5_needs_37 rfl (lv_at hl 2 rfl) ?_
        exact W.iret hx hb hr (fun t ht hW => ⟨_, rfl, Option.some.inj h, ht⟩) (fun q hq9 => by cases hq9) dX5_needs_38
      · refine lv_iload_n hx hb dX5_needs_12 rfl (lv_at hl 2 rfl) ?_
        refine lv_aload_n hx hb dX5_needs_13 rfl (lv_at hl 0 rfl) ?_
        refine va_get hx hb hts hi_X5_needs_X5 hown hK hP 0 (m_o99 cI cZ ad F G) rfl 4 (by decide) (hts _ (List.mem_of_getElem? (i := 2) rfl)) (fun _ h9 => h9) rfl dX5_needs_14 ?_
        refine lv_aload_n hx hb dX5_needs_17 rfl (lv_at hl 0 rfl) ?_
        refine lv_aload_n hx hb dX5_needs_18 rfl (lv_at hl 0 rfl) ?_
        refine va_get hx hb hts hi_X5_needs_X5 hown hK hP 0 (m_o99 cI cZ ad F G) rfl 28 (by decide) (hts _ (List.mem_of_getElem? (i := 3) rfl)) (fun _ h9 => h9) rfl dX5_needs_19 ?_
        refine lv_iload_n hx hb dX5_needs_22 rfl (lv_at hl 3 rfl) ?_
        refine q_ld hx hb hK hP 14 0 (m_a28 cI cZ ad F G) rfl dX5_needs_23 h (fun v1 h => ?_)
        refine lv_iload_n hx hb dX5_needs_24 rfl (lv_at hl 1 rfl) ?_
        obtain ⟨v2, hc3, h⟩ := q_some h
        refine q_cs (W.runV (C := RX5) (As := [.int (v1), .int (x1)]) (rest := [.ref (ad 4), .int (x2)]) ⟨hx, hb, hml, hown, hts⟩ (mt_X5_colourAt l D cI cZ ad F G v1 x1 v2 hc3) (cwV 2 hts gX5_needs_X5_colourAt rfl rfl rfl (by decide +kernel) ⟨Nat.le_of_ble_eq_true rfl, Nat.le_of_ble_eq_true rfl⟩) ⟨mR_b, va_recv hK hP (ci := 5) (q0 := 0) rfl rfl, (mR_p hP hK hN).2⟩ rfl rfl hl.1 rfl (lv_room (Nat.le_of_ble_eq_true rfl)) dX5_needs_25 ⟨Nat.le_of_ble_eq_true rfl, Nat.le_of_ble_eq_true rfl⟩) ?_
        refine q_ld hx hb hK hP 3 0 (m_a4 cI cZ ad F G) rfl dX5_needs_28 h (fun v4 h => ?_)
        refine lv_iadd hx hb dX5_needs_29 ?_
        refine q_nm h (fun v5 h => ?_)
        refine lv_istore_n (lv' := [(2, .int (v5)), (0, .ref (ad 99)), (1, .int (x1)), (3, .int (x3))]) hx hb dX5_needs_30 rfl hl (by decide) rfl (fun ls hl => ?_)
        refine q_iinc (j := 3) (d := (1 : Int32)) (lv2 := fun v6 => [(3, .int (v6)), (2, .int (v5)), (0, .ref (ad 99)), (1, .int (x1))]) hx hb dX5_needs_31 hl rfl (by decide) (by decide) (fun _ => rfl) h (fun v6 ls hl h => ?_)
        refine lv_goto (tgt := 4) hx hb dX5_needs_34 (by decide) ?_
        exact ih4 v5 v6 _ (lv_sub hl [2, 3, 1, 0] rfl) h
  refine lv_iconst (v := 0) hx hb dX5_needs_0 (by decide) ?_
  refine q_nm h (fun v7 h => ?_)
  refine lv_istore_n (lv' := [(2, .int (v7)), (0, .ref (ad 99)), (1, .int (x1))]) hx hb dX5_needs_1 rfl hl (by decide) rfl (fun ls hl => ?_)
  refine lv_iconst (v := 0) hx hb dX5_needs_2 (by decide) ?_
  refine q_nm h (fun v8 h => ?_)
  refine lv_istore_n (lv' := [(3, .int (v8)), (2, .int (v7)), (0, .ref (ad 99)), (1, .int (x1))]) hx hb dX5_needs_3 rfl hl (by decide) rfl (fun ls hl => ?_)
  exact j4 1000 v7 v8 _ (lv_sub hl [2, 3, 1, 0] rfl) h
theorem hi_X5_passesBy_X5 : ∀ w ∈ u_ws RX5 TX5 48, w ∈ wsX5_passesBy := fun w h => (List.mem_cons_of_mem _ (List.mem_append_right _ h))
set_option maxHeartbeats 4000000 in
set_option maxRecDepth 100000 in
theorem mt_X5_passesBy (l : Launch) (D : va_G) (cI cZ : ClassId) (ad : Nat → Nat) (F : Nat → Int32) (G : Nat → Nat → Int32) (x1 : Int32) (Fz : Nat → Int32) (Gz : Nat → Nat → Int32) (hDD : va_D (fun _ => True) (mW cI cZ ad (fun _ => 0) (fun _ _ => 0))) (h : f_X5_passesBy F G x1 = some (Fz, Gz)) : Met l yX5_passesBy wsX5_passesBy ({ frames := 0, cells := 0, slots := 0, locals := 0 } : Room) (va_Pc [.ref (ad 99), .int x1] (mR D cI cZ ad F G)) (va_Qv (fun (_ : Unit) => True) (fun _ t => va_P D vwCl (mW cI cZ ad Fz Gz) t.heap) (mA cI cZ ad)) 0 0 (mA cI cZ ad) := by
  refine Met.ofW (cc := cX5_passesBy) (maxL := 2) (ret := none) (by decide) rfl ?_
  intro p e s m args below meth c s₁ B hml hv
  obtain ⟨rfl, hP, hK, hN⟩ := hv
  have hx := B.exec
  have hb := B.bytes
  have hr := B.returns
  have hts := atoms_spec (ws := wsX5_passesBy) B.pre
  have hown : s.vm.findClass RX5 = some m.cls := findClass_of_methodNamed B.named
  have hlocks := B.notSynchronized
  have hS : va_S (mA cI cZ ad) s.heap s.heap [] := va_S.rf
  have hl := lv_entry ([.ref (ad 99), .int x1]) (n := 2) (Nat.le_of_ble_eq_true rfl)
  rw [lg_entry_eq]
  generalize (lg_sl ([.ref (ad 99), .int x1]) ++ List.replicate (2 - (lg_sl ([.ref (ad 99), .int x1])).length) Slot.unset).toArray = ls at hl ⊢
  have hl : lv_has ls 2 [(0, .ref (ad 99)), (1, .int (x1))] := hl
  refine lv_aload_n hx hb dX5_passesBy_0 rfl (lv_at hl 0 rfl) ?_
  refine va_get hx hb hts hi_X5_passesBy_X5 hown hK hP 0 (m_o99 cI cZ ad F G) rfl 28 (by decide) (hts _ (List.mem_of_getElem? (i := 1) rfl)) (fun _ h9 => h9) rfl dX5_passesBy_1 ?_
  refine lv_aload_n hx hb dX5_passesBy_4 rfl (lv_at hl 0 rfl) ?_
  refine va_get hx hb hts hi_X5_passesBy_X5 hown hK hP 0 (m_o99 cI cZ ad F G) rfl 27 (by decide) (hts _ (List.mem_of_getElem? (i := 2) rfl)) (fun _ h9 => h9) rfl dX5_passesBy_5 ?_
  refine lv_iload_n hx hb dX5_passesBy_8 rfl (lv_at hl 1 rfl) ?_
  refine q_st hx hb hK hP (mW_D hDD _ _) hS 14 0 28 (fun z => mW cI cZ ad F z) (m_a28 cI cZ ad F G) rfl (m_g28 cI cZ ad F G _) dX5_passesBy_9 h (fun G1 H locs h hP hS => ?_)
  refine lv_aload_n hx hb dX5_passesBy_10 rfl (lv_at hl 0 rfl) ?_
  refine lv_dup hx hb dX5_passesBy_11 rfl ?_
  refine va_get hx hb hts hi_X5_passesBy_X5 hown hK hP 0 (m_o99 cI cZ ad F G1) rfl 27 (by decide) (hts _ (List.mem_of_getElem? (i := 2) rfl)) (fun _ h9 => h9) rfl dX5_passesBy_12 ?_
  refine lv_iconst (v := 1) hx hb dX5_passesBy_15 (by decide) ?_
  refine lv_iadd hx hb dX5_passesBy_16 ?_
  refine q_put (ty := .int) hx hb hts hi_X5_passesBy_X5 tyX5 tyX5_ok nmX5 hown hK hP (mW_D hDD _ _) hS 0 27 (fun z => mW cI cZ ad z G1) (m_o99 cI cZ ad F G1) rfl 27 (by decide) (hts _ (List.mem_of_getElem? (i := 2) rfl)) (fun _ h9 => h9) rfl (by decide +kernel) rfl rfl (by decide) (m_f27 cI cZ ad F G1 _) dX5_passesBy_17 h (fun F2 H locs h hP hS => ?_)
  have e2 := congrArg Prod.fst (Option.some.inj h)
  have e3 := congrArg Prod.snd (Option.some.inj h)
  dsimp only at e2 e3
  exact W.vret hx hb hr (fun t ht hW => ⟨⟨(), rfl, trivial, by rw [ht, ← e2, ← e3]; exact hP⟩, hS.F ht⟩) hS.2.2 dX5_passesBy_20
theorem hi_X5_finds_X5 : ∀ w ∈ u_ws RX5 TX5 48, w ∈ wsX5_finds := fun w h => (List.mem_cons_of_mem _ (List.mem_append_right _ h))
set_option maxHeartbeats 4000000 in
set_option maxRecDepth 100000 in
theorem mt_X5_finds_29 (l : Launch) (D : va_G) (cI cZ : ClassId) (ad : Nat → Nat) (F : Nat → Int32) (G : Nat → Nat → Int32) (x2 : Int32) (rv : Int32) (Fz : Nat → Int32) (Gz : Nat → Nat → Int32) (hDD : va_D (fun _ => True) (mW cI cZ ad (fun _ => 0) (fun _ _ => 0))) (h : f_X5_finds_29 F G x2 = some (rv, Fz, Gz)) : Met l yX5_finds wsX5_finds ({ frames := 0, cells := 0, slots := 0, locals := 0 } : Room) (va_Pc [.ref (ad 99), .ref (ad 29), .int x2] (mR D cI cZ ad F G)) (va_Qi (fun z (_ : Unit) => z = rv) (fun _ t => va_P D vwCl (mW cI cZ ad Fz Gz) t.heap) (mA cI cZ ad)) 0 0 (mA cI cZ ad) := by
  refine Met.ofW (cc := cX5_finds) (maxL := 7) (ret := (some .boolean)) (by decide) rfl ?_
  intro p e s m args below meth c s₁ B hml hv
  obtain ⟨rfl, hP, hK, hN⟩ := hv
  have hx := B.exec
  have hb := B.bytes
  have hr := B.returns
  have hts := atoms_spec (ws := wsX5_finds) B.pre
  have hown : s.vm.findClass RX5 = some m.cls := findClass_of_methodNamed B.named
  have hlocks := B.notSynchronized
  have hS : va_S (mA cI cZ ad) s.heap s.heap [] := va_S.rf
  have hl := lv_entry ([.ref (ad 99), .ref (ad 29), .int x2]) (n := 7) (Nat.le_of_ble_eq_true rfl)
  rw [lg_entry_eq]
  generalize (lg_sl ([.ref (ad 99), .ref (ad 29), .int x2]) ++ List.replicate (7 - (lg_sl ([.ref (ad 99), .ref (ad 29), .int x2])).length) Slot.unset).toArray = ls at hl ⊢
  have hl : lv_has ls 7 [(0, .ref (ad 99)), (1, .ref (ad 29)), (2, .int (x2))] := hl
  have j110 : ∀ (F : Nat → Int32) (G : Nat → Nat → Int32) (x3 : Int32) (H : Heap) (locs : List Loc) , va_P D vwCl (mW cI cZ ad F G) H → va_S (mA cI cZ ad) s.heap H locs → ∀ ls : Array Slot, lv_has ls 7 [(0, .ref (ad 99)), (3, .int (x3))] → f_X5_finds_29_B110 x2 F G x3 = some (rv, Fz, Gz) → W p l e (headSpec wsX5_finds ({ frames := 0, cells := 0, slots := 0, locals := 0 } : Room)).room s m (List.toArray ([.ref (ad 99), .ref (ad 29), .int x2] : List Value)) below meth c H locs 0 0 (MQ below (va_Qi (fun z (_ : Unit) => z = rv) (fun _ t => va_P D vwCl (mW cI cZ ad Fz Gz) t.heap) (mA cI cZ ad)) (List.toArray ([.ref (ad 99), .ref (ad 29), .int x2] : List Value)) s 0 0 (mA cI cZ ad)) (F0 m 110 ls []) := by
    intro F G x3 H locs hP hS ls hl h
    refine lv_iload_n hx hb dX5_finds_110 rfl (lv_at hl 1 rfl) ?_
    refine lv_aload_n hx hb dX5_finds_111 rfl (lv_at hl 0 rfl) ?_
    refine va_get hx hb hts hi_X5_finds_X5 hown hK hP 0 (m_o99 cI cZ ad F G) rfl 7 (by decide) (hts _ (List.mem_of_getElem? (i := 2) rfl)) (fun _ h9 => h9) rfl dX5_finds_112 ?_
    refine q_icmp_ne (tgt := 122) hx hb dX5_finds_115 (by decide) h (fun h => ?_) (fun h => ?_)
    · refine lv_iconst (v := 0) hx hb dX5_finds_122 (by decide) ?_
      have e1 := congrArg Prod.fst (Option.some.inj h)
      have e2 := congrArg (fun z => z.2.1) (Option.some.inj h)
      have e3 := congrArg (fun z => z.2.2) (Option.some.inj h)
      dsimp only at e1 e2 e3
      exact W.zret hx hb hr rfl (fun t ht hW => ⟨⟨_, (), rfl, e1, by rw [ht, ← e2, ← e3]; exact hP⟩, hS.F ht⟩) hS.2.2 dX5_finds_123
    · refine lv_iconst (v := 1) hx hb dX5_finds_118 (by decide) ?_
      refine lv_goto (tgt := 123) hx hb dX5_finds_119 (by decide) ?_
      have e1 := congrArg Prod.fst (Option.some.inj h)
      have e2 := congrArg (fun z => z.2.1) (Option.some.inj h)
      have e3 := congrArg (fun z => z.2.2) (Option.some.inj h)
      dsimp only at e1 e2 e3
      exact W.zret hx hb hr rfl (fun t ht hW => ⟨⟨_, (), rfl, e1, by rw [ht, ← e2, ← e3]; exact hP⟩, hS.F ht⟩) hS.2.2 dX5_finds_123
  have j10 : ∀ n10 : Nat, ∀ (F : Nat → Int32) (G : Nat → Nat → Int32) (x3 : Int32) (x4 : Int32) (H : Heap) (locs : List Loc) , va_P D vwCl (mW cI cZ ad F G) H → va_S (mA cI cZ ad) s.heap H locs → ∀ ls : Array Slot, lv_has ls 7 [(0, .ref (ad 99)), (1, .ref (ad 29)), (2, .int (x2)), (3, .int (x3)), (4, .int (x4))] → f_X5_finds_29_L10 x2 n10 F G x3 x4 = some (rv, Fz, Gz) → W p l e (headSpec wsX5_finds ({ frames := 0, cells := 0, slots := 0, locals := 0 } : Room)).room s m (List.toArray ([.ref (ad 99), .ref (ad 29), .int x2] : List Value)) below meth c H locs 0 0 (MQ below (va_Qi (fun z (_ : Unit) => z = rv) (fun _ t => va_P D vwCl (mW cI cZ ad Fz Gz) t.heap) (mA cI cZ ad)) (List.toArray ([.ref (ad 99), .ref (ad 29), .int x2] : List Value)) s 0 0 (mA cI cZ ad)) (F0 m 10 ls []) := by
    intro n10
    induction n10 with
    | zero =>
      intro F G x3 x4 H locs hP hS ls hl h
      cases h
    | succ n10 ih10 =>
      have j104 : ∀ (F : Nat → Int32) (G : Nat → Nat → Int32) (x3 : Int32) (x4 : Int32) (H : Heap) (locs : List Loc) , va_P D vwCl (mW cI cZ ad F G) H → va_S (mA cI cZ ad) s.heap H locs → ∀ ls : Array Slot, lv_has ls 7 [(0, .ref (ad 99)), (1, .ref (ad 29)), (2, .int (x2)), (3, .int (x3)), (4, .int (x4))] → f_X5_finds_29_B104 (f_X5_finds_29_L10 x2 n10) x2 F G x3 x4 = some (rv, Fz, Gz) → W p l e (headSpec wsX5_finds ({ frames := 0, cells := 0, slots := 0, locals := 0 } : Room)).room s m (List.toArray ([.ref (ad 99), .ref (ad 29), .int x2] : List Value)) below meth c H locs 0 0 (MQ below (va_Qi (fun z (_ : Unit) => z = rv) (fun _ t => va_P D vwCl (mW cI cZ ad Fz Gz) t.heap) (mA cI cZ ad)) (List.toArray ([.ref (ad 99), .ref (ad 29), .int x2] : List Value)) s 0 0 (mA cI cZ ad)) (F0 m 104 ls []) := by
        intro F G x3 x4 H locs hP hS ls hl h
        refine q_iinc (j := 4) (d := (-1 : Int32)) (lv2 := fun v1 => [(4, .int (v1)), (0, .ref (ad 99)), (1, .ref (ad 29)), (2, .int (x2)), (3, .int (x3))]) hx hb dX5_finds_104 hl rfl (by decide) (by decide) (fun _ => rfl) h (fun v1 ls hl h => ?_)
        refine lv_goto (tgt := 10) hx hb dX5_finds_107 (by decide) ?_
        exact ih10 F G x3 v1 _ _ hP hS _ (lv_sub hl [1, 2, 3, 4, 0] rfl) h
      have j76 : ∀ (F : Nat → Int32) (G : Nat → Nat → Int32) (x3 : Int32) (x4 : Int32) (x5 : Int32) (H : Heap) (locs : List Loc) , va_P D vwCl (mW cI cZ ad F G) H → va_S (mA cI cZ ad) s.heap H locs → ∀ ls : Array Slot, lv_has ls 7 [(0, .ref (ad 99)), (1, .ref (ad 29)), (2, .int (x2)), (3, .int (x3)), (4, .int (x4)), (5, .int (x5))] → f_X5_finds_29_B76 (f_X5_finds_29_L10 x2 n10) x2 F G x3 x4 x5 = some (rv, Fz, Gz) → W p l e (headSpec wsX5_finds ({ frames := 0, cells := 0, slots := 0, locals := 0 } : Room)).room s m (List.toArray ([.ref (ad 99), .ref (ad 29), .int x2] : List Value)) below meth c H locs 0 0 (MQ below (va_Qi (fun z (_ : Unit) => z = rv) (fun _ t => va_P D vwCl (mW cI cZ ad Fz Gz) t.heap) (mA cI cZ ad)) (List.toArray ([.ref (ad 99), .ref (ad 29), .int x2] : List Value)) s 0 0 (mA cI cZ ad)) (F0 m 76 ls []) := by
        intro F G x3 x4 x5 H locs hP hS ls hl h
        refine lv_iload hx hb dX5_finds_76 (lv_at hl 5 rfl) ?_
        refine lv_aload_n hx hb dX5_finds_78 rfl (lv_at hl 0 rfl) ?_
        refine va_get hx hb hts hi_X5_finds_X5 hown hK hP 0 (m_o99 cI cZ ad F G) rfl 3 (by decide) (hts _ (List.mem_of_getElem? (i := 5) rfl)) (fun _ h9 => h9) rfl dX5_finds_79 ?_
        refine lv_aload_n hx hb dX5_finds_82 rfl (lv_at hl 0 rfl) ?_
        refine va_get hx hb hts hi_X5_finds_X5 hown hK hP 0 (m_o99 cI cZ ad F G) rfl 14 (by decide) (hts _ (List.mem_of_getElem? (i := 6) rfl)) (fun _ h9 => h9) rfl dX5_finds_83 ?_
        refine lv_iload hx hb dX5_finds_86 (lv_at hl 4 rfl) ?_
        refine q_ld hx hb hK hP 10 0 (m_a14 cI cZ ad F G) rfl dX5_finds_88 h (fun v2 h => ?_)
        refine q_ld hx hb hK hP 2 0 (m_a3 cI cZ ad F G) rfl dX5_finds_89 h (fun v3 h => ?_)
        refine q_icmp_lt (tgt := 96) hx hb dX5_finds_90 (by decide) h (fun h => ?_) (fun h => ?_)
        · refine lv_aload_n hx hb dX5_finds_96 rfl (lv_at hl 1 rfl) ?_
          refine lv_iload_n hx hb dX5_finds_97 rfl (lv_at hl 3 rfl) ?_
          refine lv_iload hx hb dX5_finds_98 (lv_at hl 4 rfl) ?_
          refine q_st hx hb hK hP (mW_D hDD _ _) hS 15 0 29 (fun z => mW cI cZ ad F z) (m_a29 cI cZ ad F G) rfl (m_g29 cI cZ ad F G _) dX5_finds_100 h (fun G4 H locs h hP hS => ?_)
          refine q_iinc (j := 3) (d := (1 : Int32)) (lv2 := fun v5 => [(3, .int (v5)), (0, .ref (ad 99)), (1, .ref (ad 29)), (2, .int (x2)), (4, .int (x4)), (5, .int (x5))]) hx hb dX5_finds_101 hl rfl (by decide) (by decide) (fun _ => rfl) h (fun v5 ls hl h => ?_)
          exact j104 F G4 v5 x4 _ _ hP hS _ (lv_sub hl [1, 2, 3, 0, 4] rfl) h
        · refine lv_goto (tgt := 104) hx hb dX5_finds_93 (by decide) ?_
          exact j104 F G x3 x4 _ _ hP hS _ (lv_sub hl [0, 1, 2, 3, 4] rfl) h
      have j35 : ∀ n35 : Nat, ∀ (F : Nat → Int32) (G : Nat → Nat → Int32) (x3 : Int32) (x4 : Int32) (x5 : Int32) (x6 : Int32) (H : Heap) (locs : List Loc) , va_P D vwCl (mW cI cZ ad F G) H → va_S (mA cI cZ ad) s.heap H locs → ∀ ls : Array Slot, lv_has ls 7 [(0, .ref (ad 99)), (1, .ref (ad 29)), (2, .int (x2)), (3, .int (x3)), (4, .int (x4)), (5, .int (x5)), (6, .int (x6))] → f_X5_finds_29_L35 (f_X5_finds_29_L10 x2 n10) x2 n35 F G x3 x4 x5 x6 = some (rv, Fz, Gz) → W p l e (headSpec wsX5_finds ({ frames := 0, cells := 0, slots := 0, locals := 0 } : Room)).room s m (List.toArray ([.ref (ad 99), .ref (ad 29), .int x2] : List Value)) below meth c H locs 0 0 (MQ below (va_Qi (fun z (_ : Unit) => z = rv) (fun _ t => va_P D vwCl (mW cI cZ ad Fz Gz) t.heap) (mA cI cZ ad)) (List.toArray ([.ref (ad 99), .ref (ad 29), .int x2] : List Value)) s 0 0 (mA cI cZ ad)) (F0 m 35 ls []) := by
        intro n35
        induction n35 with
        | zero =>
          intro F G x3 x4 x5 x6 H locs hP hS ls hl h
          cases h
        | succ n35 ih35 =>
          have j67 : ∀ (F : Nat → Int32) (G : Nat → Nat → Int32) (x3 : Int32) (x4 : Int32) (x6 : Int32) (s0 : Int32) (s1 : Int32) (H : Heap) (locs : List Loc) , va_P D vwCl (mW cI cZ ad F G) H → va_S (mA cI cZ ad) s.heap H locs → ∀ ls : Array Slot, lv_has ls 7 [(0, .ref (ad 99)), (1, .ref (ad 29)), (2, .int (x2)), (3, .int (x3)), (4, .int (x4)), (6, .int (x6))] → f_X5_finds_29_B67 (f_X5_finds_29_L10 x2 n10) (f_X5_finds_29_L35 (f_X5_finds_29_L10 x2 n10) x2 n35) x2 F G x3 x4 x6 s0 s1 = some (rv, Fz, Gz) → W p l e (headSpec wsX5_finds ({ frames := 0, cells := 0, slots := 0, locals := 0 } : Room)).room s m (List.toArray ([.ref (ad 99), .ref (ad 29), .int x2] : List Value)) below meth c H locs 0 0 (MQ below (va_Qi (fun z (_ : Unit) => z = rv) (fun _ t => va_P D vwCl (mW cI cZ ad Fz Gz) t.heap) (mA cI cZ ad)) (List.toArray ([.ref (ad 99), .ref (ad 29), .int x2] : List Value)) s 0 0 (mA cI cZ ad)) (F0 m 67 ls [.int (s1), .int (s0)]) := by
            intro F G x3 x4 x6 s0 s1 H locs hP hS ls hl h
            refine lv_iadd hx hb dX5_finds_67 ?_
            refine q_nm h (fun v6 h => ?_)
            refine lv_istore (lv' := [(5, .int (v6)), (0, .ref (ad 99)), (1, .ref (ad 29)), (2, .int (x2)), (3, .int (x3)), (4, .int (x4)), (6, .int (x6))]) hx hb dX5_finds_68 hl (by decide) rfl (fun ls hl => ?_)
            refine q_iinc (j := 6) (d := (1 : Int32)) (lv2 := fun v7 => [(6, .int (v7)), (5, .int (v6)), (0, .ref (ad 99)), (1, .ref (ad 29)), (2, .int (x2)), (3, .int (x3)), (4, .int (x4))]) hx hb dX5_finds_70 hl rfl (by decide) (by decide) (fun _ => rfl) h (fun v7 ls hl h => ?_)
            refine lv_goto (tgt := 35) hx hb dX5_finds_73 (by decide) ?_
            exact ih35 F G x3 x4 v6 v7 _ _ hP hS _ (lv_sub hl [2, 3, 4, 5, 6, 1, 0] rfl) h
          intro F G x3 x4 x5 x6 H locs hP hS ls hl h
          replace h : f_X5_finds_29_L35_b (f_X5_finds_29_L10 x2 n10) (f_X5_finds_29_L35 (f_X5_finds_29_L10 x2 n10) x2 n35) x2 F G x3 x4 x5 x6 = some (rv, Fz, Gz) := h
          refine lv_iload_n hx hb dX5_finds_35 rfl (lv_at hl 2 rfl) ?_
          refine q_if_eq (tgt := 76) hx hb dX5_finds_36 (by decide) h (fun h => ?_) (fun h => ?_)
          · exact j76 F G x3 x4 x5 _ _ hP hS _ (lv_sub hl [0, 1, 2, 3, 4, 5] rfl) h
          · refine lv_iload hx hb dX5_finds_39 (lv_at hl 6 rfl) ?_
            refine lv_aload_n hx hb dX5_finds_41 rfl (lv_at hl 0 rfl) ?_
            refine va_get hx hb hts hi_X5_finds_X5 hown hK hP 0 (m_o99 cI cZ ad F G) rfl 7 (by decide) (hts _ (List.mem_of_getElem? (i := 2) rfl)) (fun _ h9 => h9) rfl dX5_finds_42 ?_
            refine q_icmp_ge (tgt := 76) hx hb dX5_finds_45 (by decide) h (fun h => ?_) (fun h => ?_)
            · exact j76 F G x3 x4 x5 _ _ hP hS _ (lv_sub hl [0, 1, 2, 3, 4, 5] rfl) h
            · refine lv_iload hx hb dX5_finds_48 (lv_at hl 5 rfl) ?_
              refine lv_aload_n hx hb dX5_finds_50 rfl (lv_at hl 0 rfl) ?_
              refine va_get hx hb hts hi_X5_finds_X5 hown hK hP 0 (m_o99 cI cZ ad F G) rfl 29 (by decide) (hts _ (List.mem_of_getElem? (i := 4) rfl)) (fun _ h9 => h9) rfl dX5_finds_51 ?_
              refine lv_iload hx hb dX5_finds_54 (lv_at hl 6 rfl) ?_
              refine q_ld hx hb hK hP 15 0 (m_a29 cI cZ ad F G) rfl dX5_finds_56 h (fun v8 h => ?_)
              refine lv_iload hx hb dX5_finds_57 (lv_at hl 4 rfl) ?_
              refine q_icmp_ne (tgt := 66) hx hb dX5_finds_59 (by decide) h (fun h => ?_) (fun h => ?_)
              · refine lv_iconst (v := 0) hx hb dX5_finds_66 (by decide) ?_
                exact j67 F G x3 x4 x6 x5 (0 : Int32) _ _ hP hS _ (lv_sub hl [0, 1, 2, 3, 4, 6] rfl) h
              · refine lv_iconst (v := 1) hx hb dX5_finds_62 (by decide) ?_
                refine lv_goto (tgt := 67) hx hb dX5_finds_63 (by decide) ?_
                exact j67 F G x3 x4 x6 x5 (1 : Int32) _ _ hP hS _ (lv_sub hl [0, 1, 2, 3, 4, 6] rfl) h
      intro F G x3 x4 H locs hP hS ls hl h
      replace h : f_X5_finds_29_L10_b (f_X5_finds_29_L10 x2 n10) x2 F G x3 x4 = some (rv, Fz, Gz) := h
      refine lv_iload hx hb dX5_finds_10 (lv_at hl 4 rfl) ?_
      refine q_if_lt (tgt := 110) hx hb dX5_finds_12 (by decide) h (fun h => ?_) (fun h => ?_)
      · exact j110 F G x3 _ _ hP hS _ (lv_sub hl [0, 3] rfl) h
      · refine lv_iload_n hx hb dX5_finds_15 rfl (lv_at hl 3 rfl) ?_
        refine lv_aload_n hx hb dX5_finds_16 rfl (lv_at hl 0 rfl) ?_
        refine va_get hx hb hts hi_X5_finds_X5 hown hK hP 0 (m_o99 cI cZ ad F G) rfl 7 (by decide) (hts _ (List.mem_of_getElem? (i := 2) rfl)) (fun _ h9 => h9) rfl dX5_finds_17 ?_
        refine q_icmp_ge (tgt := 110) hx hb dX5_finds_20 (by decide) h (fun h => ?_) (fun h => ?_)
        · exact j110 F G x3 _ _ hP hS _ (lv_sub hl [0, 3] rfl) h
        · refine lv_aload_n hx hb dX5_finds_23 rfl (lv_at hl 0 rfl) ?_
          refine va_get hx hb hts hi_X5_finds_X5 hown hK hP 0 (m_o99 cI cZ ad F G) rfl 11 (by decide) (hts _ (List.mem_of_getElem? (i := 3) rfl)) (fun _ h9 => h9) rfl dX5_finds_24 ?_
          refine lv_iload hx hb dX5_finds_27 (lv_at hl 4 rfl) ?_
          refine q_ld hx hb hK hP 7 0 (m_a11 cI cZ ad F G) rfl dX5_finds_29 h (fun v9 h => ?_)
          refine lv_istore (lv' := [(5, .int (v9)), (0, .ref (ad 99)), (1, .ref (ad 29)), (2, .int (x2)), (3, .int (x3)), (4, .int (x4))]) hx hb dX5_finds_30 hl (by decide) rfl (fun ls hl => ?_)
          refine lv_iconst (v := 0) hx hb dX5_finds_32 (by decide) ?_
          refine q_nm h (fun v10 h => ?_)
          refine lv_istore (lv' := [(6, .int (v10)), (5, .int (v9)), (0, .ref (ad 99)), (1, .ref (ad 29)), (2, .int (x2)), (3, .int (x3)), (4, .int (x4))]) hx hb dX5_finds_33 hl (by decide) rfl (fun ls hl => ?_)
          exact j35 1000 F G x3 x4 v9 v10 _ _ hP hS _ (lv_sub hl [2, 3, 4, 5, 6, 1, 0] rfl) h
  refine lv_iconst (v := 0) hx hb dX5_finds_0 (by decide) ?_
  refine q_nm h (fun v11 h => ?_)
  refine lv_istore_n (lv' := [(3, .int (v11)), (0, .ref (ad 99)), (1, .ref (ad 29)), (2, .int (x2))]) hx hb dX5_finds_1 rfl hl (by decide) rfl (fun ls hl => ?_)
  refine lv_aload_n hx hb dX5_finds_2 rfl (lv_at hl 1 rfl) ?_
  refine va_get hx hb hts hi_X5_finds_X5 hown hK hP 0 (m_o99 cI cZ ad F G) rfl 8 (by decide) (hts _ (List.mem_of_getElem? (i := 1) rfl)) (fun _ h9 => h9) rfl dX5_finds_3 ?_
  refine lv_iconst (v := 1) hx hb dX5_finds_6 (by decide) ?_
  refine lv_isub hx hb dX5_finds_7 ?_
  refine q_nm h (fun v12 h => ?_)
  refine lv_istore (lv' := [(4, .int (v12)), (3, .int (v11)), (0, .ref (ad 99)), (1, .ref (ad 29)), (2, .int (x2))]) hx hb dX5_finds_8 hl (by decide) rfl (fun ls hl => ?_)
  exact j10 1000 F G v11 v12 _ _ hP hS _ (lv_sub hl [2, 3, 4, 1, 0] rfl) h
end
