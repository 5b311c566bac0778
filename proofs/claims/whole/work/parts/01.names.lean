-- ===== PART A: goes FIRST, ahead of the names: the tables' words, and 'selects' of the private methods out of them =====
/-- a private method of a class that the tables say can be made, by its rows of tables_1 -/
def lw_okq (q : MethodName × Nat) : Prop := (q.1.cls ≠ "java/lang/invoke/MethodHandle" ∧ q.1.cls ≠ "java/lang/invoke/VarHandle") ∧ Cond.instantiable q.1.cls q.2 ∈ tables_1 ∧ Cond.privateMethod q.1 ∈ tables_1 ∧ Cond.instanceMethod q.1 ∈ tables_1
theorem lw_p0 : lw_okq (⟨"DripSayings$Reader", "takesInSaying", "(I)Z"⟩, 3) := ⟨⟨by decide +kernel, by decide +kernel⟩, List.mem_of_getElem? (i := 25) (by decide +kernel), List.mem_of_getElem? (i := 210) (by decide +kernel), List.mem_of_getElem? (i := 211) (by decide +kernel)⟩
theorem lw_p1 : lw_okq (⟨"DripSayings$Reader", "takesInTap", "(I)Z"⟩, 3) := ⟨⟨by decide +kernel, by decide +kernel⟩, List.mem_of_getElem? (i := 25) (by decide +kernel), List.mem_of_getElem? (i := 214) (by decide +kernel), List.mem_of_getElem? (i := 215) (by decide +kernel)⟩
theorem lw_p2 : lw_okq (⟨"DripSayings", "readPage", "()V"⟩, 7) := ⟨⟨by decide +kernel, by decide +kernel⟩, List.mem_of_getElem? (i := 11) (by decide +kernel), List.mem_of_getElem? (i := 245) (by decide +kernel), List.mem_of_getElem? (i := 246) (by decide +kernel)⟩
theorem lw_p3 : lw_okq (⟨"DripSayings", "aboutOf", "(LDripSayings$Tap;I)I"⟩, 7) := ⟨⟨by decide +kernel, by decide +kernel⟩, List.mem_of_getElem? (i := 11) (by decide +kernel), List.mem_of_getElem? (i := 292) (by decide +kernel), List.mem_of_getElem? (i := 293) (by decide +kernel)⟩
theorem lw_p4 : lw_okq (⟨"DripSayings", "sureOf", "(LDripSayings$Tap;)I"⟩, 7) := ⟨⟨by decide +kernel, by decide +kernel⟩, List.mem_of_getElem? (i := 11) (by decide +kernel), List.mem_of_getElem? (i := 296) (by decide +kernel), List.mem_of_getElem? (i := 297) (by decide +kernel)⟩
theorem lw_p5 : lw_okq (⟨"DripSayings", "enoughToTell", "(LDripSayings$Tap;II)I"⟩, 7) := ⟨⟨by decide +kernel, by decide +kernel⟩, List.mem_of_getElem? (i := 11) (by decide +kernel), List.mem_of_getElem? (i := 300) (by decide +kernel), List.mem_of_getElem? (i := 301) (by decide +kernel)⟩
theorem lw_p6 : lw_okq (⟨"DripSayings", "saysOf", "(LDripSayings$Tap;)I"⟩, 7) := ⟨⟨by decide +kernel, by decide +kernel⟩, List.mem_of_getElem? (i := 11) (by decide +kernel), List.mem_of_getElem? (i := 313) (by decide +kernel), List.mem_of_getElem? (i := 314) (by decide +kernel)⟩
theorem lw_p7 : lw_okq (⟨"DripSayings", "slipsOf", "(LDripSayings$Tap;I)I"⟩, 7) := ⟨⟨by decide +kernel, by decide +kernel⟩, List.mem_of_getElem? (i := 11) (by decide +kernel), List.mem_of_getElem? (i := 317) (by decide +kernel), List.mem_of_getElem? (i := 318) (by decide +kernel)⟩
theorem lw_p8 : lw_okq (⟨"DripSayings", "likelyOf", "(LDripSayings$Tap;)I"⟩, 7) := ⟨⟨by decide +kernel, by decide +kernel⟩, List.mem_of_getElem? (i := 11) (by decide +kernel), List.mem_of_getElem? (i := 325) (by decide +kernel), List.mem_of_getElem? (i := 326) (by decide +kernel)⟩
theorem lw_p9 : lw_okq (⟨"DripSayings", "bestToHear", "(LDripSayings$Tap;I)I"⟩, 7) := ⟨⟨by decide +kernel, by decide +kernel⟩, List.mem_of_getElem? (i := 11) (by decide +kernel), List.mem_of_getElem? (i := 329) (by decide +kernel), List.mem_of_getElem? (i := 330) (by decide +kernel)⟩
theorem lw_p10 : lw_okq (⟨"DripSayings", "leftAtWorst", "(LDripSayings$Tap;II)I"⟩, 7) := ⟨⟨by decide +kernel, by decide +kernel⟩, List.mem_of_getElem? (i := 11) (by decide +kernel), List.mem_of_getElem? (i := 333) (by decide +kernel), List.mem_of_getElem? (i := 334) (by decide +kernel)⟩
theorem lw_p11 : lw_okq (⟨"DripSayings", "dripOf", "(LDripSayings$Tap;I)I"⟩, 7) := ⟨⟨by decide +kernel, by decide +kernel⟩, List.mem_of_getElem? (i := 11) (by decide +kernel), List.mem_of_getElem? (i := 345) (by decide +kernel), List.mem_of_getElem? (i := 346) (by decide +kernel)⟩
theorem lw_p12 : lw_okq (⟨"DripSayings", "nearOf", "(LDripSayings$Tap;II)I"⟩, 7) := ⟨⟨by decide +kernel, by decide +kernel⟩, List.mem_of_getElem? (i := 11) (by decide +kernel), List.mem_of_getElem? (i := 369) (by decide +kernel), List.mem_of_getElem? (i := 370) (by decide +kernel)⟩
theorem lw_p13 : lw_okq (⟨"DripSayings", "unlikeOf", "(LDripSayings$Tap;II)I"⟩, 7) := ⟨⟨by decide +kernel, by decide +kernel⟩, List.mem_of_getElem? (i := 11) (by decide +kernel), List.mem_of_getElem? (i := 373) (by decide +kernel), List.mem_of_getElem? (i := 374) (by decide +kernel)⟩
theorem lw_p14 : lw_okq (⟨"DripSayings", "countOf", "(I)I"⟩, 7) := ⟨⟨by decide +kernel, by decide +kernel⟩, List.mem_of_getElem? (i := 11) (by decide +kernel), List.mem_of_getElem? (i := 427) (by decide +kernel), List.mem_of_getElem? (i := 428) (by decide +kernel)⟩
theorem lw_p15 : lw_okq (⟨"DripSayings", "digestSayings", "(J)J"⟩, 7) := ⟨⟨by decide +kernel, by decide +kernel⟩, List.mem_of_getElem? (i := 11) (by decide +kernel), List.mem_of_getElem? (i := 448) (by decide +kernel), List.mem_of_getElem? (i := 449) (by decide +kernel)⟩
def lw_privs_1 : List (MethodName × Nat) := [(⟨"DripSayings$Reader", "takesInSaying", "(I)Z"⟩, 3), (⟨"DripSayings$Reader", "takesInTap", "(I)Z"⟩, 3), (⟨"DripSayings", "readPage", "()V"⟩, 7), (⟨"DripSayings", "aboutOf", "(LDripSayings$Tap;I)I"⟩, 7), (⟨"DripSayings", "sureOf", "(LDripSayings$Tap;)I"⟩, 7), (⟨"DripSayings", "enoughToTell", "(LDripSayings$Tap;II)I"⟩, 7), (⟨"DripSayings", "saysOf", "(LDripSayings$Tap;)I"⟩, 7), (⟨"DripSayings", "slipsOf", "(LDripSayings$Tap;I)I"⟩, 7), (⟨"DripSayings", "likelyOf", "(LDripSayings$Tap;)I"⟩, 7), (⟨"DripSayings", "bestToHear", "(LDripSayings$Tap;I)I"⟩, 7), (⟨"DripSayings", "leftAtWorst", "(LDripSayings$Tap;II)I"⟩, 7), (⟨"DripSayings", "dripOf", "(LDripSayings$Tap;I)I"⟩, 7), (⟨"DripSayings", "nearOf", "(LDripSayings$Tap;II)I"⟩, 7), (⟨"DripSayings", "unlikeOf", "(LDripSayings$Tap;II)I"⟩, 7), (⟨"DripSayings", "countOf", "(I)I"⟩, 7), (⟨"DripSayings", "digestSayings", "(J)J"⟩, 7)]
theorem lw_r1 : ∀ q ∈ lw_privs_1, lw_okq q := List.forall_mem_cons.mpr ⟨lw_p0, List.forall_mem_cons.mpr ⟨lw_p1, List.forall_mem_cons.mpr ⟨lw_p2, List.forall_mem_cons.mpr ⟨lw_p3, List.forall_mem_cons.mpr ⟨lw_p4, List.forall_mem_cons.mpr ⟨lw_p5, List.forall_mem_cons.mpr ⟨lw_p6, List.forall_mem_cons.mpr ⟨lw_p7, List.forall_mem_cons.mpr ⟨lw_p8, List.forall_mem_cons.mpr ⟨lw_p9, List.forall_mem_cons.mpr ⟨lw_p10, List.forall_mem_cons.mpr ⟨lw_p11, List.forall_mem_cons.mpr ⟨lw_p12, List.forall_mem_cons.mpr ⟨lw_p13, List.forall_mem_cons.mpr ⟨lw_p14, List.forall_mem_cons.mpr ⟨lw_p15, fun _ h => absurd h List.not_mem_nil⟩⟩⟩⟩⟩⟩⟩⟩⟩⟩⟩⟩⟩⟩⟩⟩
theorem lw_p16 : lw_okq (⟨"DripSayings", "digestTap", "(JLDripSayings$Tap;)J"⟩, 7) := ⟨⟨by decide +kernel, by decide +kernel⟩, List.mem_of_getElem? (i := 11) (by decide +kernel), List.mem_of_getElem? (i := 453) (by decide +kernel), List.mem_of_getElem? (i := 454) (by decide +kernel)⟩
theorem lw_p17 : lw_okq (⟨"DripSayingsModel", "faultOf", "()I"⟩, 22) := ⟨⟨by decide +kernel, by decide +kernel⟩, List.mem_of_getElem? (i := 457) (by decide +kernel), List.mem_of_getElem? (i := 546) (by decide +kernel), List.mem_of_getElem? (i := 547) (by decide +kernel)⟩
theorem lw_p18 : lw_okq (⟨"DripSayingsModel", "goSaying", "(I)Z"⟩, 22) := ⟨⟨by decide +kernel, by decide +kernel⟩, List.mem_of_getElem? (i := 457) (by decide +kernel), List.mem_of_getElem? (i := 550) (by decide +kernel), List.mem_of_getElem? (i := 551) (by decide +kernel)⟩
theorem lw_p19 : lw_okq (⟨"DripSayingsModel", "goTap", "(I)Z"⟩, 22) := ⟨⟨by decide +kernel, by decide +kernel⟩, List.mem_of_getElem? (i := 457) (by decide +kernel), List.mem_of_getElem? (i := 554) (by decide +kernel), List.mem_of_getElem? (i := 555) (by decide +kernel)⟩
theorem lw_p20 : lw_okq (⟨"DripSayingsModel", "lacks", "()Z"⟩, 22) := ⟨⟨by decide +kernel, by decide +kernel⟩, List.mem_of_getElem? (i := 457) (by decide +kernel), List.mem_of_getElem? (i := 574) (by decide +kernel), List.mem_of_getElem? (i := 575) (by decide +kernel)⟩
theorem lw_p21 : lw_okq (⟨"DripSayingsModel", "tellSaying", "(II)I"⟩, 22) := ⟨⟨by decide +kernel, by decide +kernel⟩, List.mem_of_getElem? (i := 457) (by decide +kernel), List.mem_of_getElem? (i := 582) (by decide +kernel), List.mem_of_getElem? (i := 583) (by decide +kernel)⟩
theorem lw_p22 : lw_okq (⟨"DripSayingsModel", "isTap", "(I)Z"⟩, 22) := ⟨⟨by decide +kernel, by decide +kernel⟩, List.mem_of_getElem? (i := 457) (by decide +kernel), List.mem_of_getElem? (i := 597) (by decide +kernel), List.mem_of_getElem? (i := 598) (by decide +kernel)⟩
theorem lw_p23 : lw_okq (⟨"DripSayingsModel", "tell", "(II)I"⟩, 22) := ⟨⟨by decide +kernel, by decide +kernel⟩, List.mem_of_getElem? (i := 457) (by decide +kernel), List.mem_of_getElem? (i := 601) (by decide +kernel), List.mem_of_getElem? (i := 602) (by decide +kernel)⟩
theorem lw_p24 : lw_okq (⟨"DripSayingsModel", "sureOf", "(I)I"⟩, 22) := ⟨⟨by decide +kernel, by decide +kernel⟩, List.mem_of_getElem? (i := 457) (by decide +kernel), List.mem_of_getElem? (i := 605) (by decide +kernel), List.mem_of_getElem? (i := 606) (by decide +kernel)⟩
theorem lw_p25 : lw_okq (⟨"DripSayingsModel", "patternOf", "(III)I"⟩, 22) := ⟨⟨by decide +kernel, by decide +kernel⟩, List.mem_of_getElem? (i := 457) (by decide +kernel), List.mem_of_getElem? (i := 609) (by decide +kernel), List.mem_of_getElem? (i := 610) (by decide +kernel)⟩
theorem lw_p26 : lw_okq (⟨"DripSayingsModel", "dripAs", "(III)I"⟩, 22) := ⟨⟨by decide +kernel, by decide +kernel⟩, List.mem_of_getElem? (i := 457) (by decide +kernel), List.mem_of_getElem? (i := 613) (by decide +kernel), List.mem_of_getElem? (i := 614) (by decide +kernel)⟩
theorem lw_p27 : lw_okq (⟨"DripSayingsModel", "dripBy", "(IIII)I"⟩, 22) := ⟨⟨by decide +kernel, by decide +kernel⟩, List.mem_of_getElem? (i := 457) (by decide +kernel), List.mem_of_getElem? (i := 617) (by decide +kernel), List.mem_of_getElem? (i := 618) (by decide +kernel)⟩
theorem lw_p28 : lw_okq (⟨"DripSayingsModel", "saysOf", "(I)I"⟩, 22) := ⟨⟨by decide +kernel, by decide +kernel⟩, List.mem_of_getElem? (i := 457) (by decide +kernel), List.mem_of_getElem? (i := 621) (by decide +kernel), List.mem_of_getElem? (i := 622) (by decide +kernel)⟩
theorem lw_p29 : lw_okq (⟨"DripSayingsModel", "slipsBy", "(II)I"⟩, 22) := ⟨⟨by decide +kernel, by decide +kernel⟩, List.mem_of_getElem? (i := 457) (by decide +kernel), List.mem_of_getElem? (i := 625) (by decide +kernel), List.mem_of_getElem? (i := 626) (by decide +kernel)⟩
theorem lw_p30 : lw_okq (⟨"DripSayingsModel", "likelyOf", "(I)I"⟩, 22) := ⟨⟨by decide +kernel, by decide +kernel⟩, List.mem_of_getElem? (i := 457) (by decide +kernel), List.mem_of_getElem? (i := 629) (by decide +kernel), List.mem_of_getElem? (i := 630) (by decide +kernel)⟩
theorem lw_p31 : lw_okq (⟨"DripSayingsModel", "listenOf", "(I)I"⟩, 22) := ⟨⟨by decide +kernel, by decide +kernel⟩, List.mem_of_getElem? (i := 457) (by decide +kernel), List.mem_of_getElem? (i := 633) (by decide +kernel), List.mem_of_getElem? (i := 634) (by decide +kernel)⟩
def lw_privs_2 : List (MethodName × Nat) := [(⟨"DripSayings", "digestTap", "(JLDripSayings$Tap;)J"⟩, 7), (⟨"DripSayingsModel", "faultOf", "()I"⟩, 22), (⟨"DripSayingsModel", "goSaying", "(I)Z"⟩, 22), (⟨"DripSayingsModel", "goTap", "(I)Z"⟩, 22), (⟨"DripSayingsModel", "lacks", "()Z"⟩, 22), (⟨"DripSayingsModel", "tellSaying", "(II)I"⟩, 22), (⟨"DripSayingsModel", "isTap", "(I)Z"⟩, 22), (⟨"DripSayingsModel", "tell", "(II)I"⟩, 22), (⟨"DripSayingsModel", "sureOf", "(I)I"⟩, 22), (⟨"DripSayingsModel", "patternOf", "(III)I"⟩, 22), (⟨"DripSayingsModel", "dripAs", "(III)I"⟩, 22), (⟨"DripSayingsModel", "dripBy", "(IIII)I"⟩, 22), (⟨"DripSayingsModel", "saysOf", "(I)I"⟩, 22), (⟨"DripSayingsModel", "slipsBy", "(II)I"⟩, 22), (⟨"DripSayingsModel", "likelyOf", "(I)I"⟩, 22), (⟨"DripSayingsModel", "listenOf", "(I)I"⟩, 22)]
theorem lw_r2 : ∀ q ∈ lw_privs_2, lw_okq q := List.forall_mem_cons.mpr ⟨lw_p16, List.forall_mem_cons.mpr ⟨lw_p17, List.forall_mem_cons.mpr ⟨lw_p18, List.forall_mem_cons.mpr ⟨lw_p19, List.forall_mem_cons.mpr ⟨lw_p20, List.forall_mem_cons.mpr ⟨lw_p21, List.forall_mem_cons.mpr ⟨lw_p22, List.forall_mem_cons.mpr ⟨lw_p23, List.forall_mem_cons.mpr ⟨lw_p24, List.forall_mem_cons.mpr ⟨lw_p25, List.forall_mem_cons.mpr ⟨lw_p26, List.forall_mem_cons.mpr ⟨lw_p27, List.forall_mem_cons.mpr ⟨lw_p28, List.forall_mem_cons.mpr ⟨lw_p29, List.forall_mem_cons.mpr ⟨lw_p30, List.forall_mem_cons.mpr ⟨lw_p31, fun _ h => absurd h List.not_mem_nil⟩⟩⟩⟩⟩⟩⟩⟩⟩⟩⟩⟩⟩⟩⟩⟩
theorem lw_p32 : lw_okq (⟨"DripSayingsModel", "dripOf", "(II)I"⟩, 22) := ⟨⟨by decide +kernel, by decide +kernel⟩, List.mem_of_getElem? (i := 457) (by decide +kernel), List.mem_of_getElem? (i := 646) (by decide +kernel), List.mem_of_getElem? (i := 647) (by decide +kernel)⟩
theorem lw_p33 : lw_okq (⟨"DripSayingsModel", "agreeOf", "(II)I"⟩, 22) := ⟨⟨by decide +kernel, by decide +kernel⟩, List.mem_of_getElem? (i := 457) (by decide +kernel), List.mem_of_getElem? (i := 666) (by decide +kernel), List.mem_of_getElem? (i := 667) (by decide +kernel)⟩
theorem lw_p34 : lw_okq (⟨"DripSayingsModel", "nearOf", "(III)I"⟩, 22) := ⟨⟨by decide +kernel, by decide +kernel⟩, List.mem_of_getElem? (i := 457) (by decide +kernel), List.mem_of_getElem? (i := 674) (by decide +kernel), List.mem_of_getElem? (i := 675) (by decide +kernel)⟩
theorem lw_p35 : lw_okq (⟨"DripSayingsModel", "unlikeBy", "(III)I"⟩, 22) := ⟨⟨by decide +kernel, by decide +kernel⟩, List.mem_of_getElem? (i := 457) (by decide +kernel), List.mem_of_getElem? (i := 678) (by decide +kernel), List.mem_of_getElem? (i := 679) (by decide +kernel)⟩
theorem lw_p36 : lw_okq (⟨"DripSayingsModel", "draw", "(I)I"⟩, 22) := ⟨⟨by decide +kernel, by decide +kernel⟩, List.mem_of_getElem? (i := 457) (by decide +kernel), List.mem_of_getElem? (i := 697) (by decide +kernel), List.mem_of_getElem? (i := 698) (by decide +kernel)⟩
theorem lw_p37 : lw_okq (⟨"DripSayingsModel", "countOf", "(I)I"⟩, 22) := ⟨⟨by decide +kernel, by decide +kernel⟩, List.mem_of_getElem? (i := 457) (by decide +kernel), List.mem_of_getElem? (i := 717) (by decide +kernel), List.mem_of_getElem? (i := 718) (by decide +kernel)⟩
theorem lw_p38 : lw_okq (⟨"DripSayingsModel", "beatsAll", "()I"⟩, 22) := ⟨⟨by decide +kernel, by decide +kernel⟩, List.mem_of_getElem? (i := 457) (by decide +kernel), List.mem_of_getElem? (i := 721) (by decide +kernel), List.mem_of_getElem? (i := 722) (by decide +kernel)⟩
theorem lw_p39 : lw_okq (⟨"DripSayingsModel", "sumAt", "(I)I"⟩, 22) := ⟨⟨by decide +kernel, by decide +kernel⟩, List.mem_of_getElem? (i := 457) (by decide +kernel), List.mem_of_getElem? (i := 725) (by decide +kernel), List.mem_of_getElem? (i := 726) (by decide +kernel)⟩
theorem lw_p40 : lw_okq (⟨"DripSayingsModel", "say", "(J)V"⟩, 22) := ⟨⟨by decide +kernel, by decide +kernel⟩, List.mem_of_getElem? (i := 457) (by decide +kernel), List.mem_of_getElem? (i := 734) (by decide +kernel), List.mem_of_getElem? (i := 735) (by decide +kernel)⟩
theorem lw_p41 : lw_okq (⟨"DripSayingsModel", "sayTap", "(I)V"⟩, 22) := ⟨⟨by decide +kernel, by decide +kernel⟩, List.mem_of_getElem? (i := 457) (by decide +kernel), List.mem_of_getElem? (i := 739) (by decide +kernel), List.mem_of_getElem? (i := 740) (by decide +kernel)⟩
def lw_privs_3 : List (MethodName × Nat) := [(⟨"DripSayingsModel", "dripOf", "(II)I"⟩, 22), (⟨"DripSayingsModel", "agreeOf", "(II)I"⟩, 22), (⟨"DripSayingsModel", "nearOf", "(III)I"⟩, 22), (⟨"DripSayingsModel", "unlikeBy", "(III)I"⟩, 22), (⟨"DripSayingsModel", "draw", "(I)I"⟩, 22), (⟨"DripSayingsModel", "countOf", "(I)I"⟩, 22), (⟨"DripSayingsModel", "beatsAll", "()I"⟩, 22), (⟨"DripSayingsModel", "sumAt", "(I)I"⟩, 22), (⟨"DripSayingsModel", "say", "(J)V"⟩, 22), (⟨"DripSayingsModel", "sayTap", "(I)V"⟩, 22)]
theorem lw_r3 : ∀ q ∈ lw_privs_3, lw_okq q := List.forall_mem_cons.mpr ⟨lw_p32, List.forall_mem_cons.mpr ⟨lw_p33, List.forall_mem_cons.mpr ⟨lw_p34, List.forall_mem_cons.mpr ⟨lw_p35, List.forall_mem_cons.mpr ⟨lw_p36, List.forall_mem_cons.mpr ⟨lw_p37, List.forall_mem_cons.mpr ⟨lw_p38, List.forall_mem_cons.mpr ⟨lw_p39, List.forall_mem_cons.mpr ⟨lw_p40, List.forall_mem_cons.mpr ⟨lw_p41, fun _ h => absurd h List.not_mem_nil⟩⟩⟩⟩⟩⟩⟩⟩⟩⟩
def lw_privs : List (MethodName × Nat) := lw_privs_1 ++ (lw_privs_2 ++ (lw_privs_3))
def lw_tbl : List Cond := k2_sels lw_privs ++ tables_1
theorem lw_privs_ok : ∀ q ∈ lw_privs, lw_okq q := by
  show ∀ q ∈ lw_privs_1 ++ (lw_privs_2 ++ (lw_privs_3)), lw_okq q
  exact List.forall_mem_append.mpr ⟨lw_r1, List.forall_mem_append.mpr ⟨lw_r2, lw_r3⟩⟩
-- ===== end of PART A
/-! ===== BEGIN words of one list among another's, by their places ===== -/
theorem goodIn_r {big : List Cond} (ws : List Cond) (ps : List Nat) (hp : ws = ps.filterMap (fun i => big[i]?)) (h : ws.all goodWord = true) : GoodIn big ws := by
  intro w hw
  have h1 := List.all_eq_true.mp h w hw
  rw [hp] at hw
  obtain ⟨i, -, hi⟩ := List.mem_filterMap.mp hw
  have hm : w ∈ big := by first | exact List.mem_of_getElem? hi | exact List.getElem?_mem hi
  exact ⟨hm, good_of_word h1⟩
theorem goodIn_app {big a b : List Cond} (ha : GoodIn big a) (hb : GoodIn big b) : GoodIn big (a ++ b) := fun w h => (List.mem_append.mp h).elim (ha w) (hb w)
theorem goodIn_ca {big a b : List Cond} {c : Cond} (ha : GoodIn big (c :: a)) (hb : GoodIn big b) : GoodIn big (c :: (a ++ b)) := fun w h => (List.mem_cons.mp h).elim (fun e => ha w (List.mem_cons.mpr (Or.inl e))) (fun h => (List.mem_append.mp h).elim (fun h => ha w (List.mem_cons.mpr (Or.inr h))) (hb w))
theorem goodIn_sub {big ws : List Cond} (hm : ∀ w ∈ ws, w ∈ big) (h : ws.all goodWord = true) : GoodIn big ws := fun w hw => ⟨hm w hw, good_of_word (List.all_eq_true.mp h w hw)⟩
/-! ===== END ===== -/

/-! ===== BEGIN printed: names, fields, word lists, decode rows ===== -/
def RX0 : String := "DripSayings$Note"
def TX0 : u_T := fun k => match k with
  | 0 => ("DripSayings$Note", "tap", "I", false)
  | 1 => ("DripSayings$Note", "drip", "I", false)
  | 2 => ("DripSayings$Note", "beat", "I", false)
  | _ => ("DripSayings$Note", "washer", "I", false)
def tyX0 : Nat → FieldType := fun k => match k with
  | 0 => .int
  | 1 => .int
  | 2 => .int
  | _ => .int
abbrev wsX00 : List Cond := u_ws RX0 TX0 4
theorem nmX0 : ∀ a, a < 4 → ∀ b, b < 4 → a ≠ b → (TX0 a).2.1 ≠ (TX0 b).2.1 := by decide +kernel
theorem tyX0_ok : ∀ k, k < 4 → parseFieldDescriptor (TX0 k).2.2.1 = some (tyX0 k) := by decide +kernel
abbrev cX0_init : ByteArray := prog_2_method_1_code
def yX0_init : MethodName := ⟨RX0, "<init>", "()V"⟩
abbrev cX0_become : ByteArray := prog_2_method_2_code
def yX0_become : MethodName := ⟨RX0, "become", "(IIII)V"⟩
def RX1 : String := "DripSayings$Page"
def TX1 : u_T := fun k => match k with
  | 0 => ("DripSayings$Page", "codes", "[I", true)
  | 1 => ("DripSayings$Page", "reader", "LDripSayings$Reader;", true)
  | _ => ("DripSayings$Page", "size", "I", false)
def tyX1 : Nat → FieldType := fun k => match k with
  | 0 => .array .int
  | 1 => .object "DripSayings$Reader"
  | _ => .int
abbrev wsX10 : List Cond := u_ws RX1 TX1 3
theorem nmX1 : ∀ a, a < 3 → ∀ b, b < 3 → a ≠ b → (TX1 a).2.1 ≠ (TX1 b).2.1 := by decide +kernel
theorem tyX1_ok : ∀ k, k < 3 → parseFieldDescriptor (TX1 k).2.2.1 = some (tyX1 k) := by decide +kernel
abbrev cX1_init : ByteArray := prog_3_method_1_code
def yX1_init : MethodName := ⟨RX1, "<init>", "()V"⟩
abbrev cX1_clear : ByteArray := prog_3_method_2_code
def yX1_clear : MethodName := ⟨RX1, "clear", "()V"⟩
abbrev cX1_add : ByteArray := prog_3_method_3_code
def yX1_add : MethodName := ⟨RX1, "add", "(I)V"⟩
abbrev cX1_codeAt : ByteArray := prog_3_method_4_code
def yX1_codeAt : MethodName := ⟨RX1, "codeAt", "(I)I"⟩
abbrev cX1_firstFault : ByteArray := prog_3_method_5_code
def yX1_firstFault : MethodName := ⟨RX1, "firstFault", "()I"⟩
abbrev cX1_isHouse : ByteArray := prog_3_method_6_code
def yX1_isHouse : MethodName := ⟨RX1, "isHouse", "()Z"⟩
def RX2 : String := "DripSayings$Reader"
def TX2 : u_T := fun k => match k with
  | 0 => ("DripSayings$Reader", "saying", "I", false)
  | 1 => ("DripSayings$Reader", "taps", "I", false)
  | _ => ("DripSayings$Reader", "letters", "I", false)
def tyX2 : Nat → FieldType := fun k => match k with
  | 0 => .int
  | 1 => .int
  | _ => .int
abbrev wsX20 : List Cond := u_ws RX2 TX2 3
theorem nmX2 : ∀ a, a < 3 → ∀ b, b < 3 → a ≠ b → (TX2 a).2.1 ≠ (TX2 b).2.1 := by decide +kernel
theorem tyX2_ok : ∀ k, k < 3 → parseFieldDescriptor (TX2 k).2.2.1 = some (tyX2 k) := by decide +kernel
abbrev cX2_init : ByteArray := prog_4_method_1_code
def yX2_init : MethodName := ⟨RX2, "<init>", "()V"⟩
abbrev cX2_begin : ByteArray := prog_4_method_2_code
def yX2_begin : MethodName := ⟨RX2, "begin", "()V"⟩
abbrev cX2_takes : ByteArray := prog_4_method_3_code
def yX2_takes : MethodName := ⟨RX2, "takes", "(I)Z"⟩
abbrev cX2_isAtEnd : ByteArray := prog_4_method_4_code
def yX2_isAtEnd : MethodName := ⟨RX2, "isAtEnd", "()Z"⟩
abbrev cX2_takesInSaying : ByteArray := prog_4_method_5_code
def yX2_takesInSaying : MethodName := ⟨RX2, "takesInSaying", "(I)Z"⟩
abbrev cX2_takesInTap : ByteArray := prog_4_method_6_code
def yX2_takesInTap : MethodName := ⟨RX2, "takesInTap", "(I)Z"⟩
def RX3 : String := "DripSayings$Room"
def TX3 : u_T := fun k => match k with
  | 0 => ("DripSayings$Room", "taps", "[LDripSayings$Tap;", true)
  | 1 => ("DripSayings$Room", "notes", "[LDripSayings$Note;", true)
  | 2 => ("DripSayings$Room", "tapCount", "I", false)
  | 3 => ("DripSayings$Room", "noteCount", "I", false)
  | _ => ("DripSayings$Room", "changes", "I", false)
def tyX3 : Nat → FieldType := fun k => match k with
  | 0 => .array (.object "DripSayings$Tap")
  | 1 => .array (.object "DripSayings$Note")
  | 2 => .int
  | 3 => .int
  | _ => .int
abbrev wsX30 : List Cond := u_ws RX3 TX3 5
theorem nmX3 : ∀ a, a < 5 → ∀ b, b < 5 → a ≠ b → (TX3 a).2.1 ≠ (TX3 b).2.1 := by decide +kernel
theorem tyX3_ok : ∀ k, k < 5 → parseFieldDescriptor (TX3 k).2.2.1 = some (tyX3 k) := by decide +kernel
abbrev cX3_init : ByteArray := prog_5_method_1_code
def yX3_init : MethodName := ⟨RX3, "<init>", "()V"⟩
abbrev cX3_clear : ByteArray := prog_5_method_2_code
def yX3_clear : MethodName := ⟨RX3, "clear", "()V"⟩
abbrev cX3_tapAt : ByteArray := prog_5_method_3_code
def yX3_tapAt : MethodName := ⟨RX3, "tapAt", "(I)LDripSayings$Tap;"⟩
abbrev cX3_noteAt : ByteArray := prog_5_method_4_code
def yX3_noteAt : MethodName := ⟨RX3, "noteAt", "(I)LDripSayings$Note;"⟩
abbrev cX3_addTap : ByteArray := prog_5_method_5_code
def yX3_addTap : MethodName := ⟨RX3, "addTap", "(II)V"⟩
abbrev cX3_addNote : ByteArray := prog_5_method_6_code
def yX3_addNote : MethodName := ⟨RX3, "addNote", "(LDripSayings$Tap;II)V"⟩
abbrev cX3_copyFrom : ByteArray := prog_5_method_7_code
def yX3_copyFrom : MethodName := ⟨RX3, "copyFrom", "(LDripSayings$Room;)V"⟩
abbrev cX3_washerCount : ByteArray := prog_5_method_8_code
def yX3_washerCount : MethodName := ⟨RX3, "washerCount", "()I"⟩
abbrev cX3_heardCount : ByteArray := prog_5_method_9_code
def yX3_heardCount : MethodName := ⟨RX3, "heardCount", "()I"⟩
def RX4 : String := "DripSayings$Sayings"
def TX4 : u_T := fun k => match k with
  | 0 => ("DripSayings$Sayings", "beats", "[I", true)
  | _ => ("DripSayings$Sayings", "lengths", "[I", true)
def tyX4 : Nat → FieldType := fun k => match k with
  | 0 => .array .int
  | _ => .array .int
abbrev wsX40 : List Cond := u_ws RX4 TX4 2
theorem nmX4 : ∀ a, a < 2 → ∀ b, b < 2 → a ≠ b → (TX4 a).2.1 ≠ (TX4 b).2.1 := by decide +kernel
theorem tyX4_ok : ∀ k, k < 2 → parseFieldDescriptor (TX4 k).2.2.1 = some (tyX4 k) := by decide +kernel
abbrev cX4_init : ByteArray := prog_6_method_1_code
def yX4_init : MethodName := ⟨RX4, "<init>", "()V"⟩
abbrev cX4_clear : ByteArray := prog_6_method_2_code
def yX4_clear : MethodName := ⟨RX4, "clear", "()V"⟩
abbrev cX4_addBeat : ByteArray := prog_6_method_3_code
def yX4_addBeat : MethodName := ⟨RX4, "addBeat", "(II)V"⟩
abbrev cX4_lengthOf : ByteArray := prog_6_method_4_code
def yX4_lengthOf : MethodName := ⟨RX4, "lengthOf", "(I)I"⟩
abbrev cX4_beatOf : ByteArray := prog_6_method_5_code
def yX4_beatOf : MethodName := ⟨RX4, "beatOf", "(II)I"⟩
abbrev cX4_beatCount : ByteArray := prog_6_method_6_code
def yX4_beatCount : MethodName := ⟨RX4, "beatCount", "()I"⟩
abbrev cX4_dripBy : ByteArray := prog_6_method_7_code
def yX4_dripBy : MethodName := ⟨RX4, "dripBy", "(IIII)I"⟩
def RX5 : String := "DripSayings$Tap"
def TX5 : u_T := fun k => match k with
  | 0 => ("DripSayings$Tap", "number", "I", true)
  | 1 => ("DripSayings$Tap", "kind", "I", false)
  | 2 => ("DripSayings$Tap", "saying", "I", false)
  | 3 => ("DripSayings$Tap", "washer", "I", false)
  | _ => ("DripSayings$Tap", "place", "I", false)
def tyX5 : Nat → FieldType := fun k => match k with
  | 0 => .int
  | 1 => .int
  | 2 => .int
  | 3 => .int
  | _ => .int
abbrev wsX50 : List Cond := u_ws RX5 TX5 5
theorem nmX5 : ∀ a, a < 5 → ∀ b, b < 5 → a ≠ b → (TX5 a).2.1 ≠ (TX5 b).2.1 := by decide +kernel
theorem tyX5_ok : ∀ k, k < 5 → parseFieldDescriptor (TX5 k).2.2.1 = some (tyX5 k) := by decide +kernel
abbrev cX5_init : ByteArray := prog_7_method_1_code
def yX5_init : MethodName := ⟨RX5, "<init>", "(I)V"⟩
abbrev cX5_become : ByteArray := prog_7_method_2_code
def yX5_become : MethodName := ⟨RX5, "become", "(IIII)V"⟩
def RX6 : String := "DripSayings"
def TX6 : u_T := fun k => match k with
  | 0 => ("DripSayings", "page", "LDripSayings$Page;", true)
  | 1 => ("DripSayings", "sayings", "LDripSayings$Sayings;", true)
  | 2 => ("DripSayings", "room", "LDripSayings$Room;", true)
  | 3 => ("DripSayings", "kept", "LDripSayings$Room;", true)
  | 4 => ("DripSayings", "hasHouse", "Z", false)
  | 5 => ("DripSayings", "hasImage", "Z", false)
  | _ => ("DripSayings", "housesRead", "I", false)
def tyX6 : Nat → FieldType := fun k => match k with
  | 0 => .object "DripSayings$Page"
  | 1 => .object "DripSayings$Sayings"
  | 2 => .object "DripSayings$Room"
  | 3 => .object "DripSayings$Room"
  | 4 => .boolean
  | 5 => .boolean
  | _ => .int
abbrev wsX60 : List Cond := u_ws RX6 TX6 7
theorem nmX6 : ∀ a, a < 7 → ∀ b, b < 7 → a ≠ b → (TX6 a).2.1 ≠ (TX6 b).2.1 := by decide +kernel
theorem tyX6_ok : ∀ k, k < 7 → parseFieldDescriptor (TX6 k).2.2.1 = some (tyX6 k) := by decide +kernel
abbrev cX6_init : ByteArray := prog_1_method_1_code
def yX6_init : MethodName := ⟨RX6, "<init>", "()V"⟩
abbrev cX6_letter : ByteArray := prog_1_method_2_code
def yX6_letter : MethodName := ⟨RX6, "letter", "(I)I"⟩
abbrev cX6_blank : ByteArray := prog_1_method_3_code
def yX6_blank : MethodName := ⟨RX6, "blank", "()I"⟩
abbrev cX6_fault : ByteArray := prog_1_method_4_code
def yX6_fault : MethodName := ⟨RX6, "fault", "()I"⟩
abbrev cX6_house : ByteArray := prog_1_method_5_code
def yX6_house : MethodName := ⟨RX6, "house", "()I"⟩
abbrev cX6_saying : ByteArray := prog_1_method_6_code
def yX6_saying : MethodName := ⟨RX6, "saying", "(II)I"⟩
abbrev cX6_tap : ByteArray := prog_1_method_7_code
def yX6_tap : MethodName := ⟨RX6, "tap", "(II)I"⟩
abbrev cX6_about : ByteArray := prog_1_method_8_code
def yX6_about : MethodName := ⟨RX6, "about", "(II)I"⟩
abbrev cX6_as : ByteArray := prog_1_method_9_code
def yX6_as : MethodName := ⟨RX6, "as", "(II)I"⟩
abbrev cX6_drip : ByteArray := prog_1_method_10_code
def yX6_drip : MethodName := ⟨RX6, "drip", "(II)I"⟩
abbrev cX6_listen : ByteArray := prog_1_method_11_code
def yX6_listen : MethodName := ⟨RX6, "listen", "(I)I"⟩
abbrev cX6_washer : ByteArray := prog_1_method_12_code
def yX6_washer : MethodName := ⟨RX6, "washer", "(IZ)I"⟩
abbrev cX6_teach : ByteArray := prog_1_method_13_code
def yX6_teach : MethodName := ⟨RX6, "teach", "(II)I"⟩
abbrev cX6_agree : ByteArray := prog_1_method_14_code
def yX6_agree : MethodName := ⟨RX6, "agree", "(II)I"⟩
abbrev cX6_near : ByteArray := prog_1_method_15_code
def yX6_near : MethodName := ⟨RX6, "near", "(III)I"⟩
abbrev cX6_put : ByteArray := prog_1_method_16_code
def yX6_put : MethodName := ⟨RX6, "put", "(IIZ)I"⟩
abbrev cX6_forget : ByteArray := prog_1_method_17_code
def yX6_forget : MethodName := ⟨RX6, "forget", "()I"⟩
abbrev cX6_nights : ByteArray := prog_1_method_18_code
def yX6_nights : MethodName := ⟨RX6, "nights", "(III)I"⟩
abbrev cX6_image : ByteArray := prog_1_method_19_code
def yX6_image : MethodName := ⟨RX6, "image", "()I"⟩
abbrev cX6_restore : ByteArray := prog_1_method_20_code
def yX6_restore : MethodName := ⟨RX6, "restore", "()I"⟩
abbrev cX6_count : ByteArray := prog_1_method_21_code
def yX6_count : MethodName := ⟨RX6, "count", "(I)I"⟩
abbrev cX6_digest : ByteArray := prog_1_method_22_code
def yX6_digest : MethodName := ⟨RX6, "digest", "()J"⟩
abbrev cX6_isKind : ByteArray := prog_1_method_23_code
def yX6_isKind : MethodName := ⟨RX6, "isKind", "(I)Z"⟩
abbrev cX6_isSaying : ByteArray := prog_1_method_24_code
def yX6_isSaying : MethodName := ⟨RX6, "isSaying", "(I)Z"⟩
abbrev cX6_kindOfLetter : ByteArray := prog_1_method_25_code
def yX6_kindOfLetter : MethodName := ⟨RX6, "kindOfLetter", "(I)I"⟩
abbrev cX6_readPage : ByteArray := prog_1_method_26_code
def yX6_readPage : MethodName := ⟨RX6, "readPage", "()V"⟩
abbrev cX6_dripOf : ByteArray := prog_1_method_27_code
def yX6_dripOf : MethodName := ⟨RX6, "dripOf", "(LDripSayings$Tap;I)I"⟩
abbrev cX6_aboutOf : ByteArray := prog_1_method_28_code
def yX6_aboutOf : MethodName := ⟨RX6, "aboutOf", "(LDripSayings$Tap;I)I"⟩
abbrev cX6_sureOf : ByteArray := prog_1_method_29_code
def yX6_sureOf : MethodName := ⟨RX6, "sureOf", "(LDripSayings$Tap;)I"⟩
abbrev cX6_enoughToTell : ByteArray := prog_1_method_30_code
def yX6_enoughToTell : MethodName := ⟨RX6, "enoughToTell", "(LDripSayings$Tap;II)I"⟩
abbrev cX6_saysOf : ByteArray := prog_1_method_31_code
def yX6_saysOf : MethodName := ⟨RX6, "saysOf", "(LDripSayings$Tap;)I"⟩
abbrev cX6_likelyOf : ByteArray := prog_1_method_32_code
def yX6_likelyOf : MethodName := ⟨RX6, "likelyOf", "(LDripSayings$Tap;)I"⟩
abbrev cX6_slipsOf : ByteArray := prog_1_method_33_code
def yX6_slipsOf : MethodName := ⟨RX6, "slipsOf", "(LDripSayings$Tap;I)I"⟩
abbrev cX6_bestToHear : ByteArray := prog_1_method_34_code
def yX6_bestToHear : MethodName := ⟨RX6, "bestToHear", "(LDripSayings$Tap;I)I"⟩
abbrev cX6_leftAtWorst : ByteArray := prog_1_method_35_code
def yX6_leftAtWorst : MethodName := ⟨RX6, "leftAtWorst", "(LDripSayings$Tap;II)I"⟩
abbrev cX6_nearOf : ByteArray := prog_1_method_36_code
def yX6_nearOf : MethodName := ⟨RX6, "nearOf", "(LDripSayings$Tap;II)I"⟩
abbrev cX6_unlikeOf : ByteArray := prog_1_method_37_code
def yX6_unlikeOf : MethodName := ⟨RX6, "unlikeOf", "(LDripSayings$Tap;II)I"⟩
abbrev cX6_nextSeed : ByteArray := prog_1_method_38_code
def yX6_nextSeed : MethodName := ⟨RX6, "nextSeed", "(I)I"⟩
abbrev cX6_drawOf : ByteArray := prog_1_method_39_code
def yX6_drawOf : MethodName := ⟨RX6, "drawOf", "(I)I"⟩
abbrev cX6_countOf : ByteArray := prog_1_method_40_code
def yX6_countOf : MethodName := ⟨RX6, "countOf", "(I)I"⟩
abbrev cX6_digestSayings : ByteArray := prog_1_method_41_code
def yX6_digestSayings : MethodName := ⟨RX6, "digestSayings", "(J)J"⟩
abbrev cX6_digestTap : ByteArray := prog_1_method_42_code
def yX6_digestTap : MethodName := ⟨RX6, "digestTap", "(JLDripSayings$Tap;)J"⟩
def RX7 : String := "DripSayingsModel"
def TX7 : u_T := fun k => match k with
  | 0 => ("DripSayingsModel", "page", "[I", true)
  | 1 => ("DripSayingsModel", "pageMany", "I", false)
  | 2 => ("DripSayingsModel", "part", "I", false)
  | 3 => ("DripSayingsModel", "readBeats", "[I", true)
  | 4 => ("DripSayingsModel", "readTaps", "[I", true)
  | 5 => ("DripSayingsModel", "readMany", "I", false)
  | 6 => ("DripSayingsModel", "step", "I", false)
  | 7 => ("DripSayingsModel", "taps", "I", false)
  | 8 => ("DripSayingsModel", "changes", "I", false)
  | 9 => ("DripSayingsModel", "housesRead", "I", false)
  | 10 => ("DripSayingsModel", "beats", "[I", true)
  | 11 => ("DripSayingsModel", "rows", "[I", true)
  | 12 => ("DripSayingsModel", "putMany", "I", false)
  | 13 => ("DripSayingsModel", "puts", "[I", true)
  | 14 => ("DripSayingsModel", "seedNow", "I", false)
  | 15 => ("DripSayingsModel", "keptHouse", "I", false)
  | 16 => ("DripSayingsModel", "keptTaps", "I", false)
  | 17 => ("DripSayingsModel", "keptChanges", "I", false)
  | 18 => ("DripSayingsModel", "keptPuts", "I", false)
  | 19 => ("DripSayingsModel", "keptRows", "[I", true)
  | 20 => ("DripSayingsModel", "keptPutRows", "[I", true)
  | _ => ("DripSayingsModel", "hash", "J", false)
def tyX7 : Nat → FieldType := fun k => match k with
  | 0 => .array .int
  | 1 => .int
  | 2 => .int
  | 3 => .array .int
  | 4 => .array .int
  | 5 => .int
  | 6 => .int
  | 7 => .int
  | 8 => .int
  | 9 => .int
  | 10 => .array .int
  | 11 => .array .int
  | 12 => .int
  | 13 => .array .int
  | 14 => .int
  | 15 => .int
  | 16 => .int
  | 17 => .int
  | 18 => .int
  | 19 => .array .int
  | 20 => .array .int
  | _ => .long
abbrev wsX70 : List Cond := u_ws RX7 TX7 22
theorem nmX7 : ∀ a, a < 22 → ∀ b, b < 22 → a ≠ b → (TX7 a).2.1 ≠ (TX7 b).2.1 := by decide +kernel
theorem tyX7_ok : ∀ k, k < 22 → parseFieldDescriptor (TX7 k).2.2.1 = some (tyX7 k) := by decide +kernel
abbrev cX7_init : ByteArray := prog_9_method_1_code
def yX7_init : MethodName := ⟨RX7, "<init>", "()V"⟩
abbrev cX7_in : ByteArray := prog_9_method_2_code
def yX7_in : MethodName := ⟨RX7, "in", "(JJJ)Z"⟩
abbrev cX7_copy : ByteArray := prog_9_method_3_code
def yX7_copy : MethodName := ⟨RX7, "copy", "([I[I)V"⟩
abbrev cX7_letter : ByteArray := prog_9_method_4_code
def yX7_letter : MethodName := ⟨RX7, "letter", "(I)I"⟩
abbrev cX7_blank : ByteArray := prog_9_method_5_code
def yX7_blank : MethodName := ⟨RX7, "blank", "()I"⟩
abbrev cX7_kindBy : ByteArray := prog_9_method_6_code
def yX7_kindBy : MethodName := ⟨RX7, "kindBy", "(I)I"⟩
abbrev cX7_goSaying : ByteArray := prog_9_method_7_code
def yX7_goSaying : MethodName := ⟨RX7, "goSaying", "(I)Z"⟩
abbrev cX7_goTap : ByteArray := prog_9_method_8_code
def yX7_goTap : MethodName := ⟨RX7, "goTap", "(I)Z"⟩
abbrev cX7_faultOf : ByteArray := prog_9_method_9_code
def yX7_faultOf : MethodName := ⟨RX7, "faultOf", "()I"⟩
abbrev cX7_fault : ByteArray := prog_9_method_10_code
def yX7_fault : MethodName := ⟨RX7, "fault", "()I"⟩
abbrev cX7_house : ByteArray := prog_9_method_11_code
def yX7_house : MethodName := ⟨RX7, "house", "()I"⟩
abbrev cX7_lacks : ByteArray := prog_9_method_12_code
def yX7_lacks : MethodName := ⟨RX7, "lacks", "()Z"⟩
abbrev cX7_isTap : ByteArray := prog_9_method_13_code
def yX7_isTap : MethodName := ⟨RX7, "isTap", "(I)Z"⟩
abbrev cX7_isSaying : ByteArray := prog_9_method_14_code
def yX7_isSaying : MethodName := ⟨RX7, "isSaying", "(I)Z"⟩
abbrev cX7_tellSaying : ByteArray := prog_9_method_15_code
def yX7_tellSaying : MethodName := ⟨RX7, "tellSaying", "(II)I"⟩
abbrev cX7_saying : ByteArray := prog_9_method_16_code
def yX7_saying : MethodName := ⟨RX7, "saying", "(II)I"⟩
abbrev cX7_dripBy : ByteArray := prog_9_method_17_code
def yX7_dripBy : MethodName := ⟨RX7, "dripBy", "(IIII)I"⟩
abbrev cX7_dripAs : ByteArray := prog_9_method_18_code
def yX7_dripAs : MethodName := ⟨RX7, "dripAs", "(III)I"⟩
abbrev cX7_dripOf : ByteArray := prog_9_method_19_code
def yX7_dripOf : MethodName := ⟨RX7, "dripOf", "(II)I"⟩
abbrev cX7_tap : ByteArray := prog_9_method_20_code
def yX7_tap : MethodName := ⟨RX7, "tap", "(II)I"⟩
abbrev cX7_patternOf : ByteArray := prog_9_method_21_code
def yX7_patternOf : MethodName := ⟨RX7, "patternOf", "(III)I"⟩
abbrev cX7_sureOf : ByteArray := prog_9_method_22_code
def yX7_sureOf : MethodName := ⟨RX7, "sureOf", "(I)I"⟩
abbrev cX7_tell : ByteArray := prog_9_method_23_code
def yX7_tell : MethodName := ⟨RX7, "tell", "(II)I"⟩
abbrev cX7_about : ByteArray := prog_9_method_24_code
def yX7_about : MethodName := ⟨RX7, "about", "(II)I"⟩
abbrev cX7_as : ByteArray := prog_9_method_25_code
def yX7_as : MethodName := ⟨RX7, "as", "(II)I"⟩
abbrev cX7_drip : ByteArray := prog_9_method_26_code
def yX7_drip : MethodName := ⟨RX7, "drip", "(II)I"⟩
abbrev cX7_listen : ByteArray := prog_9_method_27_code
def yX7_listen : MethodName := ⟨RX7, "listen", "(I)I"⟩
abbrev cX7_washer : ByteArray := prog_9_method_28_code
def yX7_washer : MethodName := ⟨RX7, "washer", "(IZ)I"⟩
abbrev cX7_teach : ByteArray := prog_9_method_29_code
def yX7_teach : MethodName := ⟨RX7, "teach", "(II)I"⟩
abbrev cX7_agreeOf : ByteArray := prog_9_method_30_code
def yX7_agreeOf : MethodName := ⟨RX7, "agreeOf", "(II)I"⟩
abbrev cX7_agree : ByteArray := prog_9_method_31_code
def yX7_agree : MethodName := ⟨RX7, "agree", "(II)I"⟩
abbrev cX7_unlikeBy : ByteArray := prog_9_method_32_code
def yX7_unlikeBy : MethodName := ⟨RX7, "unlikeBy", "(III)I"⟩
abbrev cX7_nearOf : ByteArray := prog_9_method_33_code
def yX7_nearOf : MethodName := ⟨RX7, "nearOf", "(III)I"⟩
abbrev cX7_near : ByteArray := prog_9_method_34_code
def yX7_near : MethodName := ⟨RX7, "near", "(III)I"⟩
abbrev cX7_put : ByteArray := prog_9_method_35_code
def yX7_put : MethodName := ⟨RX7, "put", "(IIZ)I"⟩
abbrev cX7_forget : ByteArray := prog_9_method_36_code
def yX7_forget : MethodName := ⟨RX7, "forget", "()I"⟩
abbrev cX7_slipsBy : ByteArray := prog_9_method_37_code
def yX7_slipsBy : MethodName := ⟨RX7, "slipsBy", "(II)I"⟩
abbrev cX7_saysOf : ByteArray := prog_9_method_38_code
def yX7_saysOf : MethodName := ⟨RX7, "saysOf", "(I)I"⟩
abbrev cX7_likelyOf : ByteArray := prog_9_method_39_code
def yX7_likelyOf : MethodName := ⟨RX7, "likelyOf", "(I)I"⟩
abbrev cX7_listenOf : ByteArray := prog_9_method_40_code
def yX7_listenOf : MethodName := ⟨RX7, "listenOf", "(I)I"⟩
abbrev cX7_draw : ByteArray := prog_9_method_41_code
def yX7_draw : MethodName := ⟨RX7, "draw", "(I)I"⟩
abbrev cX7_nights : ByteArray := prog_9_method_42_code
def yX7_nights : MethodName := ⟨RX7, "nights", "(III)I"⟩
abbrev cX7_image : ByteArray := prog_9_method_43_code
def yX7_image : MethodName := ⟨RX7, "image", "()I"⟩
abbrev cX7_restore : ByteArray := prog_9_method_44_code
def yX7_restore : MethodName := ⟨RX7, "restore", "()I"⟩
abbrev cX7_beatsAll : ByteArray := prog_9_method_45_code
def yX7_beatsAll : MethodName := ⟨RX7, "beatsAll", "()I"⟩
abbrev cX7_sumAt : ByteArray := prog_9_method_46_code
def yX7_sumAt : MethodName := ⟨RX7, "sumAt", "(I)I"⟩
abbrev cX7_countOf : ByteArray := prog_9_method_47_code
def yX7_countOf : MethodName := ⟨RX7, "countOf", "(I)I"⟩
abbrev cX7_count : ByteArray := prog_9_method_48_code
def yX7_count : MethodName := ⟨RX7, "count", "(I)I"⟩
abbrev cX7_say : ByteArray := prog_9_method_49_code
def yX7_say : MethodName := ⟨RX7, "say", "(J)V"⟩
abbrev cX7_sayTap : ByteArray := prog_9_method_50_code
def yX7_sayTap : MethodName := ⟨RX7, "sayTap", "(I)V"⟩
abbrev cX7_digest : ByteArray := prog_9_method_51_code
def yX7_digest : MethodName := ⟨RX7, "digest", "()J"⟩
def RJ9 : String := "java/lang/Math"
def TJ9 : u_T := fun k => match k with
  | _ => ("", "", "", false)
def tyJ9 : Nat → FieldType := fun k => match k with
  | _ => .int
abbrev wsJ90 : List Cond := u_ws RJ9 TJ9 0
theorem nmJ9 : ∀ a, a < 0 → ∀ b, b < 0 → a ≠ b → (TJ9 a).2.1 ≠ (TJ9 b).2.1 := by decide +kernel
theorem tyJ9_ok : ∀ k, k < 0 → parseFieldDescriptor (TJ9 k).2.2.1 = some (tyJ9 k) := by decide +kernel
abbrev cJ9_max_7cf53 : ByteArray := prog_10_method_65_code
def yJ9_max_7cf53 : MethodName := ⟨RJ9, "max", "(II)I"⟩
abbrev cJ9_min_7cf53 : ByteArray := prog_10_method_69_code
def yJ9_min_7cf53 : MethodName := ⟨RJ9, "min", "(II)I"⟩
def RL : String := "DripSayingsLaw"
abbrev cL_law : ByteArray := code
def yL_law : MethodName := ⟨RL, "law", "([I)Z"⟩
def wsX0_init : List Cond := .code yX0_init cX0_init 1 none :: ([.methodLink RX0 1 objectInit, .instanceMethod objectInit, .code objectInit ⟨#[0xb1]⟩ 1 none])
def wsX0_become : List Cond := .code yX0_become cX0_become 5 none :: ([.fieldLink RX0 7 "DripSayings$Note" "tap" "I", .fieldLink RX0 13 "DripSayings$Note" "drip" "I", .fieldLink RX0 16 "DripSayings$Note" "beat" "I", .fieldLink RX0 19 "DripSayings$Note" "washer" "I"] ++ wsX00)
def wsX2_init : List Cond := .code yX2_init cX2_init 1 none :: ([.methodLink RX2 3 objectInit, .instanceMethod objectInit, .code objectInit ⟨#[0xb1]⟩ 1 none])
def wsX1_init : List Cond := .code yX1_init cX1_init 1 none :: ([.methodLink RX1 3 objectInit, .instanceMethod objectInit, .code objectInit ⟨#[0xb1]⟩ 1 none, .arrayClass .int, .fieldLink RX1 9 "DripSayings$Page" "codes" "[I", .classLink RX1 15 RX2, .instantiable RX2 3, .initialized RX2, .fieldLink RX1 18 "DripSayings$Page" "reader" "LDripSayings$Reader;", .instanceMethod yX2_init, .code yX2_init cX2_init 1 none, .methodLink RX2 3 objectInit] ++ wsX10 ++ wsX20)
def wsX1_clear : List Cond := .code yX1_clear cX1_clear 1 none :: ([.fieldLink RX1 22 "DripSayings$Page" "size" "I"] ++ wsX10)
def wsX1_add : List Cond := .code yX1_add cX1_add 2 none :: ([.fieldLink RX1 22 "DripSayings$Page" "size" "I", .fieldLink RX1 9 "DripSayings$Page" "codes" "[I"] ++ wsX10)
def wsX1_codeAt : List Cond := .code yX1_codeAt cX1_codeAt 2 (some .int) :: ([.fieldLink RX1 22 "DripSayings$Page" "size" "I", .fieldLink RX1 9 "DripSayings$Page" "codes" "[I"] ++ wsX10)
def wsX2_begin : List Cond := .code yX2_begin cX2_begin 1 none :: ([.fieldLink RX2 9 "DripSayings$Reader" "saying" "I", .fieldLink RX2 15 "DripSayings$Reader" "taps" "I", .fieldLink RX2 18 "DripSayings$Reader" "letters" "I"] ++ wsX20)
def wsX2_takesInSaying : List Cond := .code yX2_takesInSaying cX2_takesInSaying 3 (some .boolean) :: ([.fieldLink RX2 18 "DripSayings$Reader" "letters" "I", .fieldLink RX2 9 "DripSayings$Reader" "saying" "I"] ++ wsX20)
def wsX6_kindOfLetter : List Cond := .code yX6_kindOfLetter cX6_kindOfLetter 1 (some .int) :: ([])
def wsX6_isSaying : List Cond := .code yX6_isSaying cX6_isSaying 1 (some .boolean) :: ([])
def wsX2_takesInTap : List Cond := .code yX2_takesInTap cX2_takesInTap 2 (some .boolean) :: ([.fieldLink RX2 18 "DripSayings$Reader" "letters" "I", .fieldLink RX2 15 "DripSayings$Reader" "taps" "I", .static yX6_kindOfLetter, .initialized RX6, .code yX6_kindOfLetter cX6_kindOfLetter 1 (some .int), .static yX6_isSaying, .code yX6_isSaying cX6_isSaying 1 (some .boolean)] ++ wsX20)
def wsX2_takes : List Cond := .code yX2_takes cX2_takes 2 (some .boolean) :: ([.fieldLink RX2 9 "DripSayings$Reader" "saying" "I", .methodLink RX2 21 yX2_takesInSaying, .instanceMethod yX2_takesInSaying, .selects RX2 yX2_takesInSaying yX2_takesInSaying, .initialized RX2, .code yX2_takesInSaying cX2_takesInSaying 3 (some .boolean), .fieldLink RX2 18 "DripSayings$Reader" "letters" "I", .methodLink RX2 25 yX2_takesInTap, .instanceMethod yX2_takesInTap, .selects RX2 yX2_takesInTap yX2_takesInTap, .code yX2_takesInTap cX2_takesInTap 2 (some .boolean), .fieldLink RX2 15 "DripSayings$Reader" "taps" "I", .static yX6_kindOfLetter, .initialized RX6, .code yX6_kindOfLetter cX6_kindOfLetter 1 (some .int), .static yX6_isSaying, .code yX6_isSaying cX6_isSaying 1 (some .boolean)] ++ wsX20)
def wsX1_firstFault_r1 : List Cond := [Cond.fieldLink RX1 18 "DripSayings$Page" "reader" "LDripSayings$Reader;", Cond.fieldLink RX1 22 "DripSayings$Page" "size" "I", Cond.methodLink RX1 26 yX2_begin, Cond.instanceMethod yX2_begin, Cond.selects RX2 yX2_begin yX2_begin, Cond.initialized RX2, Cond.code yX2_begin cX2_begin 1 none, Cond.fieldLink RX2 9 "DripSayings$Reader" "saying" "I", Cond.fieldLink RX2 15 "DripSayings$Reader" "taps" "I", Cond.fieldLink RX2 18 "DripSayings$Reader" "letters" "I", Cond.methodLink RX1 29 yX1_codeAt, Cond.instanceMethod yX1_codeAt, Cond.selects RX1 yX1_codeAt yX1_codeAt, Cond.initialized RX1, Cond.code yX1_codeAt cX1_codeAt 2 (some .int), Cond.fieldLink RX1 9 "DripSayings$Page" "codes" "[I", Cond.methodLink RX1 33 yX2_takes, Cond.instanceMethod yX2_takes, Cond.selects RX2 yX2_takes yX2_takes, Cond.code yX2_takes cX2_takes 2 (some .boolean), Cond.methodLink RX2 21 yX2_takesInSaying, Cond.instanceMethod yX2_takesInSaying, Cond.selects RX2 yX2_takesInSaying yX2_takesInSaying, Cond.code yX2_takesInSaying cX2_takesInSaying 3 (some .boolean)]
def wsX1_firstFault_r2 : List Cond := [Cond.methodLink RX2 25 yX2_takesInTap, Cond.instanceMethod yX2_takesInTap, Cond.selects RX2 yX2_takesInTap yX2_takesInTap, Cond.code yX2_takesInTap cX2_takesInTap 2 (some .boolean), Cond.static yX6_kindOfLetter, Cond.initialized RX6, Cond.code yX6_kindOfLetter cX6_kindOfLetter 1 (some .int), Cond.static yX6_isSaying, Cond.code yX6_isSaying cX6_isSaying 1 (some .boolean)]
def wsX1_firstFault : List Cond := .code yX1_firstFault cX1_firstFault 2 (some .int) :: ((wsX1_firstFault_r1 ++ wsX1_firstFault_r2) ++ wsX10 ++ wsX20)
def wsX2_isAtEnd : List Cond := .code yX2_isAtEnd cX2_isAtEnd 1 (some .boolean) :: ([.fieldLink RX2 9 "DripSayings$Reader" "saying" "I", .fieldLink RX2 18 "DripSayings$Reader" "letters" "I"] ++ wsX20)
def wsX1_isHouse_r1 : List Cond := [Cond.fieldLink RX1 22 "DripSayings$Page" "size" "I", Cond.fieldLink RX1 18 "DripSayings$Page" "reader" "LDripSayings$Reader;", Cond.methodLink RX1 37 yX1_firstFault, Cond.instanceMethod yX1_firstFault, Cond.selects RX1 yX1_firstFault yX1_firstFault, Cond.initialized RX1, Cond.code yX1_firstFault cX1_firstFault 2 (some .int), Cond.methodLink RX1 26 yX2_begin, Cond.instanceMethod yX2_begin, Cond.selects RX2 yX2_begin yX2_begin, Cond.initialized RX2, Cond.code yX2_begin cX2_begin 1 none, Cond.fieldLink RX2 9 "DripSayings$Reader" "saying" "I", Cond.fieldLink RX2 15 "DripSayings$Reader" "taps" "I", Cond.fieldLink RX2 18 "DripSayings$Reader" "letters" "I", Cond.methodLink RX1 29 yX1_codeAt, Cond.instanceMethod yX1_codeAt, Cond.selects RX1 yX1_codeAt yX1_codeAt, Cond.code yX1_codeAt cX1_codeAt 2 (some .int), Cond.fieldLink RX1 9 "DripSayings$Page" "codes" "[I", Cond.methodLink RX1 33 yX2_takes, Cond.instanceMethod yX2_takes, Cond.selects RX2 yX2_takes yX2_takes, Cond.code yX2_takes cX2_takes 2 (some .boolean)]
def wsX1_isHouse_r2 : List Cond := [Cond.methodLink RX2 21 yX2_takesInSaying, Cond.instanceMethod yX2_takesInSaying, Cond.selects RX2 yX2_takesInSaying yX2_takesInSaying, Cond.code yX2_takesInSaying cX2_takesInSaying 3 (some .boolean), Cond.methodLink RX2 25 yX2_takesInTap, Cond.instanceMethod yX2_takesInTap, Cond.selects RX2 yX2_takesInTap yX2_takesInTap, Cond.code yX2_takesInTap cX2_takesInTap 2 (some .boolean), Cond.static yX6_kindOfLetter, Cond.initialized RX6, Cond.code yX6_kindOfLetter cX6_kindOfLetter 1 (some .int), Cond.static yX6_isSaying, Cond.code yX6_isSaying cX6_isSaying 1 (some .boolean), Cond.methodLink RX1 41 yX2_isAtEnd, Cond.instanceMethod yX2_isAtEnd, Cond.selects RX2 yX2_isAtEnd yX2_isAtEnd, Cond.code yX2_isAtEnd cX2_isAtEnd 1 (some .boolean)]
def wsX1_isHouse : List Cond := .code yX1_isHouse cX1_isHouse 1 (some .boolean) :: ((wsX1_isHouse_r1 ++ wsX1_isHouse_r2) ++ wsX10 ++ wsX20)
def wsX5_init : List Cond := .code yX5_init cX5_init 2 none :: ([.methodLink RX5 1 objectInit, .instanceMethod objectInit, .code objectInit ⟨#[0xb1]⟩ 1 none, .fieldLink RX5 7 "DripSayings$Tap" "number" "I"] ++ wsX50)
def wsX3_init : List Cond := .code yX3_init cX3_init 2 none :: ([.methodLink RX3 3 objectInit, .instanceMethod objectInit, .code objectInit ⟨#[0xb1]⟩ 1 none, .classLink RX3 9 RX5, .fieldLink RX3 11 "DripSayings$Room" "taps" "[LDripSayings$Tap;", .instantiable RX5 5, .initialized RX5, .classLink RX3 20 RX0, .fieldLink RX3 22 "DripSayings$Room" "notes" "[LDripSayings$Note;", .instantiable RX0 4, .initialized RX0, .methodLink RX3 17 yX5_init, .instanceMethod yX5_init, .code yX5_init cX5_init 2 none, .methodLink RX5 1 objectInit, .fieldLink RX5 7 "DripSayings$Tap" "number" "I", .instanceMethod yX0_init, .code yX0_init cX0_init 1 none, .methodLink RX0 1 objectInit] ++ wsX30 ++ wsX50 ++ wsX00)
def wsX3_clear : List Cond := .code yX3_clear cX3_clear 1 none :: ([.fieldLink RX3 27 "DripSayings$Room" "tapCount" "I", .fieldLink RX3 31 "DripSayings$Room" "noteCount" "I", .fieldLink RX3 34 "DripSayings$Room" "changes" "I"] ++ wsX30)
def wsX3_tapAt : List Cond := .code yX3_tapAt cX3_tapAt 2 (some (.object "DripSayings$Tap")) :: ([.fieldLink RX3 27 "DripSayings$Room" "tapCount" "I", .fieldLink RX3 11 "DripSayings$Room" "taps" "[LDripSayings$Tap;"] ++ wsX30)
def wsX3_noteAt : List Cond := .code yX3_noteAt cX3_noteAt 2 (some (.object "DripSayings$Note")) :: ([.fieldLink RX3 31 "DripSayings$Room" "noteCount" "I", .fieldLink RX3 22 "DripSayings$Room" "notes" "[LDripSayings$Note;"] ++ wsX30)
def wsX5_become : List Cond := .code yX5_become cX5_become 5 none :: ([.fieldLink RX5 13 "DripSayings$Tap" "kind" "I", .fieldLink RX5 16 "DripSayings$Tap" "saying" "I", .fieldLink RX5 19 "DripSayings$Tap" "washer" "I", .fieldLink RX5 22 "DripSayings$Tap" "place" "I"] ++ wsX50)
def wsX3_addTap : List Cond := .code yX3_addTap cX3_addTap 4 none :: ([.fieldLink RX3 27 "DripSayings$Room" "tapCount" "I", .methodLink RX3 37 yX3_tapAt, .instanceMethod yX3_tapAt, .selects RX3 yX3_tapAt yX3_tapAt, .initialized RX3, .code yX3_tapAt cX3_tapAt 2 (some (.object "DripSayings$Tap")), .fieldLink RX3 11 "DripSayings$Room" "taps" "[LDripSayings$Tap;", .methodLink RX3 41 yX5_become, .instanceMethod yX5_become, .selects RX5 yX5_become yX5_become, .initialized RX5, .code yX5_become cX5_become 5 none, .fieldLink RX5 13 "DripSayings$Tap" "kind" "I", .fieldLink RX5 16 "DripSayings$Tap" "saying" "I", .fieldLink RX5 19 "DripSayings$Tap" "washer" "I", .fieldLink RX5 22 "DripSayings$Tap" "place" "I"] ++ wsX30 ++ wsX50)
def wsX3_addNote : List Cond := .code yX3_addNote cX3_addNote 5 none :: ([.fieldLink RX3 31 "DripSayings$Room" "noteCount" "I", .fieldLink RX3 49 "DripSayings$Tap" "number" "I", .fieldLink RX3 52 "DripSayings$Tap" "washer" "I", .methodLink RX3 45 yX3_noteAt, .instanceMethod yX3_noteAt, .selects RX3 yX3_noteAt yX3_noteAt, .initialized RX3, .code yX3_noteAt cX3_noteAt 2 (some (.object "DripSayings$Note")), .fieldLink RX3 22 "DripSayings$Room" "notes" "[LDripSayings$Note;", .methodLink RX3 55 yX0_become, .instanceMethod yX0_become, .selects RX0 yX0_become yX0_become, .initialized RX0, .code yX0_become cX0_become 5 none, .fieldLink RX0 7 "DripSayings$Note" "tap" "I", .fieldLink RX0 13 "DripSayings$Note" "drip" "I", .fieldLink RX0 16 "DripSayings$Note" "beat" "I", .fieldLink RX0 19 "DripSayings$Note" "washer" "I"] ++ wsX30 ++ wsX50 ++ wsX00)
def wsX3_copyFrom_r1 : List Cond := [Cond.fieldLink RX3 27 "DripSayings$Room" "tapCount" "I", Cond.fieldLink RX3 31 "DripSayings$Room" "noteCount" "I", Cond.fieldLink RX3 34 "DripSayings$Room" "changes" "I", Cond.fieldLink RX3 56 "DripSayings$Tap" "kind" "I", Cond.fieldLink RX3 59 "DripSayings$Tap" "saying" "I", Cond.fieldLink RX3 52 "DripSayings$Tap" "washer" "I", Cond.fieldLink RX3 62 "DripSayings$Tap" "place" "I", Cond.fieldLink RX3 65 "DripSayings$Note" "tap" "I", Cond.fieldLink RX3 68 "DripSayings$Note" "drip" "I", Cond.fieldLink RX3 71 "DripSayings$Note" "beat" "I", Cond.fieldLink RX3 74 "DripSayings$Note" "washer" "I", Cond.methodLink RX3 37 yX3_tapAt, Cond.instanceMethod yX3_tapAt, Cond.selects RX3 yX3_tapAt yX3_tapAt, Cond.initialized RX3, Cond.code yX3_tapAt cX3_tapAt 2 (some (.object "DripSayings$Tap")), Cond.fieldLink RX3 11 "DripSayings$Room" "taps" "[LDripSayings$Tap;", Cond.methodLink RX3 41 yX5_become, Cond.instanceMethod yX5_become, Cond.selects RX5 yX5_become yX5_become, Cond.initialized RX5, Cond.code yX5_become cX5_become 5 none, Cond.fieldLink RX5 13 "DripSayings$Tap" "kind" "I", Cond.fieldLink RX5 16 "DripSayings$Tap" "saying" "I"]
def wsX3_copyFrom_r2 : List Cond := [Cond.fieldLink RX5 19 "DripSayings$Tap" "washer" "I", Cond.fieldLink RX5 22 "DripSayings$Tap" "place" "I", Cond.methodLink RX3 45 yX3_noteAt, Cond.instanceMethod yX3_noteAt, Cond.selects RX3 yX3_noteAt yX3_noteAt, Cond.code yX3_noteAt cX3_noteAt 2 (some (.object "DripSayings$Note")), Cond.fieldLink RX3 22 "DripSayings$Room" "notes" "[LDripSayings$Note;", Cond.methodLink RX3 55 yX0_become, Cond.instanceMethod yX0_become, Cond.selects RX0 yX0_become yX0_become, Cond.initialized RX0, Cond.code yX0_become cX0_become 5 none, Cond.fieldLink RX0 7 "DripSayings$Note" "tap" "I", Cond.fieldLink RX0 13 "DripSayings$Note" "drip" "I", Cond.fieldLink RX0 16 "DripSayings$Note" "beat" "I", Cond.fieldLink RX0 19 "DripSayings$Note" "washer" "I"]
def wsX3_copyFrom : List Cond := .code yX3_copyFrom cX3_copyFrom 5 none :: ((wsX3_copyFrom_r1 ++ wsX3_copyFrom_r2) ++ wsX30 ++ wsX50 ++ wsX00)
def wsX3_washerCount : List Cond := .code yX3_washerCount cX3_washerCount 4 (some .int) :: ([.fieldLink RX3 27 "DripSayings$Room" "tapCount" "I", .fieldLink RX3 52 "DripSayings$Tap" "washer" "I", .methodLink RX3 37 yX3_tapAt, .instanceMethod yX3_tapAt, .selects RX3 yX3_tapAt yX3_tapAt, .initialized RX3, .code yX3_tapAt cX3_tapAt 2 (some (.object "DripSayings$Tap")), .fieldLink RX3 11 "DripSayings$Room" "taps" "[LDripSayings$Tap;"] ++ wsX30 ++ wsX50)
def wsX3_heardCount : List Cond := .code yX3_heardCount cX3_heardCount 4 (some .int) :: ([.fieldLink RX3 27 "DripSayings$Room" "tapCount" "I", .fieldLink RX3 62 "DripSayings$Tap" "place" "I", .methodLink RX3 37 yX3_tapAt, .instanceMethod yX3_tapAt, .selects RX3 yX3_tapAt yX3_tapAt, .initialized RX3, .code yX3_tapAt cX3_tapAt 2 (some (.object "DripSayings$Tap")), .fieldLink RX3 11 "DripSayings$Room" "taps" "[LDripSayings$Tap;"] ++ wsX30 ++ wsX50)
def wsX4_init : List Cond := .code yX4_init cX4_init 1 none :: ([.methodLink RX4 3 objectInit, .instanceMethod objectInit, .code objectInit ⟨#[0xb1]⟩ 1 none, .arrayClass .int, .fieldLink RX4 9 "DripSayings$Sayings" "beats" "[I", .fieldLink RX4 15 "DripSayings$Sayings" "lengths" "[I"] ++ wsX40)
def wsX4_clear : List Cond := .code yX4_clear cX4_clear 2 none :: ([.fieldLink RX4 9 "DripSayings$Sayings" "beats" "[I", .fieldLink RX4 15 "DripSayings$Sayings" "lengths" "[I"] ++ wsX40)
def wsX4_addBeat : List Cond := .code yX4_addBeat cX4_addBeat 4 none :: ([.fieldLink RX4 15 "DripSayings$Sayings" "lengths" "[I", .fieldLink RX4 9 "DripSayings$Sayings" "beats" "[I"] ++ wsX40)
def wsX4_lengthOf : List Cond := .code yX4_lengthOf cX4_lengthOf 2 (some .int) :: ([.fieldLink RX4 15 "DripSayings$Sayings" "lengths" "[I"] ++ wsX40)
def wsX4_beatOf : List Cond := .code yX4_beatOf cX4_beatOf 4 (some .int) :: ([.fieldLink RX4 9 "DripSayings$Sayings" "beats" "[I"] ++ wsX40)
def wsX4_beatCount : List Cond := .code yX4_beatCount cX4_beatCount 3 (some .int) :: ([.fieldLink RX4 15 "DripSayings$Sayings" "lengths" "[I"] ++ wsX40)
def wsX4_dripBy : List Cond := .code yX4_dripBy cX4_dripBy 8 (some .int) :: ([.methodLink RX4 18 yX4_lengthOf, .instanceMethod yX4_lengthOf, .selects RX4 yX4_lengthOf yX4_lengthOf, .initialized RX4, .code yX4_lengthOf cX4_lengthOf 2 (some .int), .fieldLink RX4 15 "DripSayings$Sayings" "lengths" "[I", .methodLink RX4 22 yX4_beatOf, .instanceMethod yX4_beatOf, .selects RX4 yX4_beatOf yX4_beatOf, .code yX4_beatOf cX4_beatOf 4 (some .int), .fieldLink RX4 9 "DripSayings$Sayings" "beats" "[I"] ++ wsX40)
def wsX6_init_r1 : List Cond := [Cond.methodLink RX6 1 objectInit, Cond.instanceMethod objectInit, Cond.code objectInit ⟨#[0xb1]⟩ 1 none, Cond.classLink RX6 7 RX1, Cond.instantiable RX1 3, Cond.initialized RX1, Cond.fieldLink RX6 10 "DripSayings" "page" "LDripSayings$Page;", Cond.classLink RX6 16 RX4, Cond.instantiable RX4 2, Cond.initialized RX4, Cond.fieldLink RX6 19 "DripSayings" "sayings" "LDripSayings$Sayings;", Cond.classLink RX6 23 RX3, Cond.instantiable RX3 5, Cond.initialized RX3, Cond.fieldLink RX6 26 "DripSayings" "room" "LDripSayings$Room;", Cond.fieldLink RX6 30 "DripSayings" "kept" "LDripSayings$Room;", Cond.methodLink RX6 9 yX1_init, Cond.instanceMethod yX1_init, Cond.code yX1_init cX1_init 1 none, Cond.methodLink RX1 3 objectInit, Cond.arrayClass .int, Cond.fieldLink RX1 9 "DripSayings$Page" "codes" "[I", Cond.classLink RX1 15 RX2, Cond.instantiable RX2 3]
def wsX6_init_r2 : List Cond := [Cond.initialized RX2, Cond.fieldLink RX1 18 "DripSayings$Page" "reader" "LDripSayings$Reader;", Cond.instanceMethod yX2_init, Cond.code yX2_init cX2_init 1 none, Cond.methodLink RX2 3 objectInit, Cond.methodLink RX6 18 yX4_init, Cond.instanceMethod yX4_init, Cond.code yX4_init cX4_init 1 none, Cond.methodLink RX4 3 objectInit, Cond.fieldLink RX4 9 "DripSayings$Sayings" "beats" "[I", Cond.fieldLink RX4 15 "DripSayings$Sayings" "lengths" "[I", Cond.methodLink RX6 25 yX3_init, Cond.instanceMethod yX3_init, Cond.code yX3_init cX3_init 2 none, Cond.methodLink RX3 3 objectInit, Cond.classLink RX3 9 RX5, Cond.fieldLink RX3 11 "DripSayings$Room" "taps" "[LDripSayings$Tap;", Cond.instantiable RX5 5, Cond.initialized RX5, Cond.classLink RX3 20 RX0, Cond.fieldLink RX3 22 "DripSayings$Room" "notes" "[LDripSayings$Note;", Cond.instantiable RX0 4, Cond.initialized RX0, Cond.methodLink RX3 17 yX5_init]
def wsX6_init_r3 : List Cond := [Cond.instanceMethod yX5_init, Cond.code yX5_init cX5_init 2 none, Cond.methodLink RX5 1 objectInit, Cond.fieldLink RX5 7 "DripSayings$Tap" "number" "I", Cond.instanceMethod yX0_init, Cond.code yX0_init cX0_init 1 none, Cond.methodLink RX0 1 objectInit]
def wsX6_init : List Cond := .code yX6_init cX6_init 1 none :: ((wsX6_init_r1 ++ (wsX6_init_r2 ++ wsX6_init_r3)) ++ wsX10 ++ wsX60 ++ wsX40 ++ wsX30 ++ wsX20 ++ wsX50 ++ wsX00)
def wsX6_letter : List Cond := .code yX6_letter cX6_letter 2 (some .int) :: ([.fieldLink RX6 10 "DripSayings" "page" "LDripSayings$Page;", .fieldLink RX6 33 "DripSayings$Page" "size" "I", .methodLink RX6 37 yX1_add, .instanceMethod yX1_add, .selects RX1 yX1_add yX1_add, .initialized RX1, .code yX1_add cX1_add 2 none, .fieldLink RX1 22 "DripSayings$Page" "size" "I", .fieldLink RX1 9 "DripSayings$Page" "codes" "[I"] ++ wsX60 ++ wsX10)
def wsX6_blank : List Cond := .code yX6_blank cX6_blank 2 (some .int) :: ([.fieldLink RX6 10 "DripSayings" "page" "LDripSayings$Page;", .fieldLink RX6 33 "DripSayings$Page" "size" "I", .methodLink RX6 41 yX1_clear, .instanceMethod yX1_clear, .selects RX1 yX1_clear yX1_clear, .initialized RX1, .code yX1_clear cX1_clear 1 none, .fieldLink RX1 22 "DripSayings$Page" "size" "I"] ++ wsX60 ++ wsX10)
def wsX6_fault_r1 : List Cond := [Cond.fieldLink RX6 10 "DripSayings" "page" "LDripSayings$Page;", Cond.methodLink RX6 44 yX1_firstFault, Cond.instanceMethod yX1_firstFault, Cond.selects RX1 yX1_firstFault yX1_firstFault, Cond.initialized RX1, Cond.code yX1_firstFault cX1_firstFault 2 (some .int), Cond.fieldLink RX1 18 "DripSayings$Page" "reader" "LDripSayings$Reader;", Cond.fieldLink RX1 22 "DripSayings$Page" "size" "I", Cond.methodLink RX1 26 yX2_begin, Cond.instanceMethod yX2_begin, Cond.selects RX2 yX2_begin yX2_begin, Cond.initialized RX2, Cond.code yX2_begin cX2_begin 1 none, Cond.fieldLink RX2 9 "DripSayings$Reader" "saying" "I", Cond.fieldLink RX2 15 "DripSayings$Reader" "taps" "I", Cond.fieldLink RX2 18 "DripSayings$Reader" "letters" "I", Cond.methodLink RX1 29 yX1_codeAt, Cond.instanceMethod yX1_codeAt, Cond.selects RX1 yX1_codeAt yX1_codeAt, Cond.code yX1_codeAt cX1_codeAt 2 (some .int), Cond.fieldLink RX1 9 "DripSayings$Page" "codes" "[I", Cond.methodLink RX1 33 yX2_takes, Cond.instanceMethod yX2_takes, Cond.selects RX2 yX2_takes yX2_takes]
def wsX6_fault_r2 : List Cond := [Cond.code yX2_takes cX2_takes 2 (some .boolean), Cond.methodLink RX2 21 yX2_takesInSaying, Cond.instanceMethod yX2_takesInSaying, Cond.selects RX2 yX2_takesInSaying yX2_takesInSaying, Cond.code yX2_takesInSaying cX2_takesInSaying 3 (some .boolean), Cond.methodLink RX2 25 yX2_takesInTap, Cond.instanceMethod yX2_takesInTap, Cond.selects RX2 yX2_takesInTap yX2_takesInTap, Cond.code yX2_takesInTap cX2_takesInTap 2 (some .boolean), Cond.static yX6_kindOfLetter, Cond.initialized RX6, Cond.code yX6_kindOfLetter cX6_kindOfLetter 1 (some .int), Cond.static yX6_isSaying, Cond.code yX6_isSaying cX6_isSaying 1 (some .boolean)]
def wsX6_fault : List Cond := .code yX6_fault cX6_fault 1 (some .int) :: ((wsX6_fault_r1 ++ wsX6_fault_r2) ++ wsX60 ++ wsX10 ++ wsX20)
def wsX6_readPage_r1 : List Cond := [Cond.fieldLink RX6 10 "DripSayings" "page" "LDripSayings$Page;", Cond.fieldLink RX6 33 "DripSayings$Page" "size" "I", Cond.fieldLink RX6 19 "DripSayings" "sayings" "LDripSayings$Sayings;", Cond.fieldLink RX6 26 "DripSayings" "room" "LDripSayings$Room;", Cond.methodLink RX6 153 yX1_codeAt, Cond.instanceMethod yX1_codeAt, Cond.selects RX1 yX1_codeAt yX1_codeAt, Cond.initialized RX1, Cond.code yX1_codeAt cX1_codeAt 2 (some .int), Cond.fieldLink RX1 22 "DripSayings$Page" "size" "I", Cond.fieldLink RX1 9 "DripSayings$Page" "codes" "[I", Cond.methodLink RX6 156 yX4_addBeat, Cond.instanceMethod yX4_addBeat, Cond.selects RX4 yX4_addBeat yX4_addBeat, Cond.initialized RX4, Cond.code yX4_addBeat cX4_addBeat 4 none, Cond.fieldLink RX4 15 "DripSayings$Sayings" "lengths" "[I", Cond.fieldLink RX4 9 "DripSayings$Sayings" "beats" "[I", Cond.methodLink RX6 159 yX6_kindOfLetter, Cond.static yX6_kindOfLetter, Cond.initialized RX6, Cond.code yX6_kindOfLetter cX6_kindOfLetter 1 (some .int), Cond.methodLink RX6 85 yX3_addTap, Cond.instanceMethod yX3_addTap]
def wsX6_readPage_r2 : List Cond := [Cond.selects RX3 yX3_addTap yX3_addTap, Cond.initialized RX3, Cond.code yX3_addTap cX3_addTap 4 none, Cond.fieldLink RX3 27 "DripSayings$Room" "tapCount" "I", Cond.methodLink RX3 37 yX3_tapAt, Cond.instanceMethod yX3_tapAt, Cond.selects RX3 yX3_tapAt yX3_tapAt, Cond.code yX3_tapAt cX3_tapAt 2 (some (.object "DripSayings$Tap")), Cond.fieldLink RX3 11 "DripSayings$Room" "taps" "[LDripSayings$Tap;", Cond.methodLink RX3 41 yX5_become, Cond.instanceMethod yX5_become, Cond.selects RX5 yX5_become yX5_become, Cond.initialized RX5, Cond.code yX5_become cX5_become 5 none, Cond.fieldLink RX5 13 "DripSayings$Tap" "kind" "I", Cond.fieldLink RX5 16 "DripSayings$Tap" "saying" "I", Cond.fieldLink RX5 19 "DripSayings$Tap" "washer" "I", Cond.fieldLink RX5 22 "DripSayings$Tap" "place" "I"]
def wsX6_readPage : List Cond := .code yX6_readPage cX6_readPage 6 none :: ((wsX6_readPage_r1 ++ wsX6_readPage_r2) ++ wsX60 ++ wsX10 ++ wsX40 ++ wsX30 ++ wsX50)
def wsX6_house_r1 : List Cond := [Cond.fieldLink RX6 10 "DripSayings" "page" "LDripSayings$Page;", Cond.fieldLink RX6 19 "DripSayings" "sayings" "LDripSayings$Sayings;", Cond.fieldLink RX6 26 "DripSayings" "room" "LDripSayings$Room;", Cond.fieldLink RX6 57 "DripSayings" "hasHouse" "Z", Cond.fieldLink RX6 61 "DripSayings" "hasImage" "Z", Cond.fieldLink RX6 64 "DripSayings" "housesRead" "I", Cond.fieldLink RX6 67 "DripSayings$Room" "tapCount" "I", Cond.methodLink RX6 48 yX1_isHouse, Cond.instanceMethod yX1_isHouse, Cond.selects RX1 yX1_isHouse yX1_isHouse, Cond.initialized RX1, Cond.code yX1_isHouse cX1_isHouse 1 (some .boolean), Cond.fieldLink RX1 22 "DripSayings$Page" "size" "I", Cond.fieldLink RX1 18 "DripSayings$Page" "reader" "LDripSayings$Reader;", Cond.methodLink RX1 37 yX1_firstFault, Cond.instanceMethod yX1_firstFault, Cond.selects RX1 yX1_firstFault yX1_firstFault, Cond.code yX1_firstFault cX1_firstFault 2 (some .int), Cond.methodLink RX1 26 yX2_begin, Cond.instanceMethod yX2_begin, Cond.selects RX2 yX2_begin yX2_begin, Cond.initialized RX2, Cond.code yX2_begin cX2_begin 1 none, Cond.fieldLink RX2 9 "DripSayings$Reader" "saying" "I"]
def wsX6_house_r2 : List Cond := [Cond.fieldLink RX2 15 "DripSayings$Reader" "taps" "I", Cond.fieldLink RX2 18 "DripSayings$Reader" "letters" "I", Cond.methodLink RX1 29 yX1_codeAt, Cond.instanceMethod yX1_codeAt, Cond.selects RX1 yX1_codeAt yX1_codeAt, Cond.code yX1_codeAt cX1_codeAt 2 (some .int), Cond.fieldLink RX1 9 "DripSayings$Page" "codes" "[I", Cond.methodLink RX1 33 yX2_takes, Cond.instanceMethod yX2_takes, Cond.selects RX2 yX2_takes yX2_takes, Cond.code yX2_takes cX2_takes 2 (some .boolean), Cond.methodLink RX2 21 yX2_takesInSaying, Cond.instanceMethod yX2_takesInSaying, Cond.selects RX2 yX2_takesInSaying yX2_takesInSaying, Cond.code yX2_takesInSaying cX2_takesInSaying 3 (some .boolean), Cond.methodLink RX2 25 yX2_takesInTap, Cond.instanceMethod yX2_takesInTap, Cond.selects RX2 yX2_takesInTap yX2_takesInTap, Cond.code yX2_takesInTap cX2_takesInTap 2 (some .boolean), Cond.static yX6_kindOfLetter, Cond.initialized RX6, Cond.code yX6_kindOfLetter cX6_kindOfLetter 1 (some .int), Cond.static yX6_isSaying, Cond.code yX6_isSaying cX6_isSaying 1 (some .boolean)]
def wsX6_house_r3 : List Cond := [Cond.methodLink RX1 41 yX2_isAtEnd, Cond.instanceMethod yX2_isAtEnd, Cond.selects RX2 yX2_isAtEnd yX2_isAtEnd, Cond.code yX2_isAtEnd cX2_isAtEnd 1 (some .boolean), Cond.methodLink RX6 52 yX4_clear, Cond.instanceMethod yX4_clear, Cond.selects RX4 yX4_clear yX4_clear, Cond.initialized RX4, Cond.code yX4_clear cX4_clear 2 none, Cond.fieldLink RX4 9 "DripSayings$Sayings" "beats" "[I", Cond.fieldLink RX4 15 "DripSayings$Sayings" "lengths" "[I", Cond.methodLink RX6 53 yX3_clear, Cond.instanceMethod yX3_clear, Cond.selects RX3 yX3_clear yX3_clear, Cond.initialized RX3, Cond.code yX3_clear cX3_clear 1 none, Cond.fieldLink RX3 27 "DripSayings$Room" "tapCount" "I", Cond.fieldLink RX3 31 "DripSayings$Room" "noteCount" "I", Cond.fieldLink RX3 34 "DripSayings$Room" "changes" "I", Cond.methodLink RX6 54 yX6_readPage, Cond.instanceMethod yX6_readPage, Cond.selects RX6 yX6_readPage yX6_readPage, Cond.code yX6_readPage cX6_readPage 6 none, Cond.fieldLink RX6 33 "DripSayings$Page" "size" "I"]
def wsX6_house_r4 : List Cond := [Cond.methodLink RX6 153 yX1_codeAt, Cond.methodLink RX6 156 yX4_addBeat, Cond.instanceMethod yX4_addBeat, Cond.selects RX4 yX4_addBeat yX4_addBeat, Cond.code yX4_addBeat cX4_addBeat 4 none, Cond.methodLink RX6 159 yX6_kindOfLetter, Cond.methodLink RX6 85 yX3_addTap, Cond.instanceMethod yX3_addTap, Cond.selects RX3 yX3_addTap yX3_addTap, Cond.code yX3_addTap cX3_addTap 4 none, Cond.methodLink RX3 37 yX3_tapAt, Cond.instanceMethod yX3_tapAt, Cond.selects RX3 yX3_tapAt yX3_tapAt, Cond.code yX3_tapAt cX3_tapAt 2 (some (.object "DripSayings$Tap")), Cond.fieldLink RX3 11 "DripSayings$Room" "taps" "[LDripSayings$Tap;", Cond.methodLink RX3 41 yX5_become, Cond.instanceMethod yX5_become, Cond.selects RX5 yX5_become yX5_become, Cond.initialized RX5, Cond.code yX5_become cX5_become 5 none, Cond.fieldLink RX5 13 "DripSayings$Tap" "kind" "I", Cond.fieldLink RX5 16 "DripSayings$Tap" "saying" "I", Cond.fieldLink RX5 19 "DripSayings$Tap" "washer" "I", Cond.fieldLink RX5 22 "DripSayings$Tap" "place" "I"]
def wsX6_house_r5 : List Cond := [Cond.methodLink RX6 41 yX1_clear, Cond.instanceMethod yX1_clear, Cond.selects RX1 yX1_clear yX1_clear, Cond.code yX1_clear cX1_clear 1 none]
def wsX6_house : List Cond := .code yX6_house cX6_house 1 (some .int) :: ((wsX6_house_r1 ++ (wsX6_house_r2 ++ (wsX6_house_r3 ++ (wsX6_house_r4 ++ wsX6_house_r5)))) ++ wsX60 ++ wsX30 ++ wsX10 ++ wsX20 ++ wsX40 ++ wsX50)
def wsX6_saying : List Cond := .code yX6_saying cX6_saying 3 (some .int) :: ([.fieldLink RX6 57 "DripSayings" "hasHouse" "Z", .fieldLink RX6 19 "DripSayings" "sayings" "LDripSayings$Sayings;", .methodLink RX6 70 yX6_isSaying, .static yX6_isSaying, .initialized RX6, .code yX6_isSaying cX6_isSaying 1 (some .boolean), .methodLink RX6 74 yX4_lengthOf, .instanceMethod yX4_lengthOf, .selects RX4 yX4_lengthOf yX4_lengthOf, .initialized RX4, .code yX4_lengthOf cX4_lengthOf 2 (some .int), .fieldLink RX4 15 "DripSayings$Sayings" "lengths" "[I", .methodLink RX6 78 yX4_beatOf, .instanceMethod yX4_beatOf, .selects RX4 yX4_beatOf yX4_beatOf, .code yX4_beatOf cX4_beatOf 4 (some .int), .fieldLink RX4 9 "DripSayings$Sayings" "beats" "[I"] ++ wsX60 ++ wsX40)
def wsX6_isKind : List Cond := .code yX6_isKind cX6_isKind 1 (some .boolean) :: ([])
def wsX6_tap_r1 : List Cond := [Cond.fieldLink RX6 57 "DripSayings" "hasHouse" "Z", Cond.fieldLink RX6 26 "DripSayings" "room" "LDripSayings$Room;", Cond.fieldLink RX6 67 "DripSayings$Room" "tapCount" "I", Cond.methodLink RX6 82 yX6_isKind, Cond.static yX6_isKind, Cond.initialized RX6, Cond.code yX6_isKind cX6_isKind 1 (some .boolean), Cond.methodLink RX6 70 yX6_isSaying, Cond.static yX6_isSaying, Cond.code yX6_isSaying cX6_isSaying 1 (some .boolean), Cond.methodLink RX6 85 yX3_addTap, Cond.instanceMethod yX3_addTap, Cond.selects RX3 yX3_addTap yX3_addTap, Cond.initialized RX3, Cond.code yX3_addTap cX3_addTap 4 none, Cond.fieldLink RX3 27 "DripSayings$Room" "tapCount" "I", Cond.methodLink RX3 37 yX3_tapAt, Cond.instanceMethod yX3_tapAt, Cond.selects RX3 yX3_tapAt yX3_tapAt, Cond.code yX3_tapAt cX3_tapAt 2 (some (.object "DripSayings$Tap")), Cond.fieldLink RX3 11 "DripSayings$Room" "taps" "[LDripSayings$Tap;", Cond.methodLink RX3 41 yX5_become, Cond.instanceMethod yX5_become, Cond.selects RX5 yX5_become yX5_become]
def wsX6_tap_r2 : List Cond := [Cond.initialized RX5, Cond.code yX5_become cX5_become 5 none, Cond.fieldLink RX5 13 "DripSayings$Tap" "kind" "I", Cond.fieldLink RX5 16 "DripSayings$Tap" "saying" "I", Cond.fieldLink RX5 19 "DripSayings$Tap" "washer" "I", Cond.fieldLink RX5 22 "DripSayings$Tap" "place" "I"]
def wsX6_tap : List Cond := .code yX6_tap cX6_tap 3 (some .int) :: ((wsX6_tap_r1 ++ wsX6_tap_r2) ++ wsX60 ++ wsX30 ++ wsX50)
def wsX6_enoughToTell : List Cond := .code yX6_enoughToTell cX6_enoughToTell 7 (some .int) :: ([.fieldLink RX6 19 "DripSayings" "sayings" "LDripSayings$Sayings;", .fieldLink RX6 97 "DripSayings$Tap" "kind" "I", .fieldLink RX6 111 "DripSayings$Tap" "washer" "I", .fieldLink RX6 105 "DripSayings$Tap" "place" "I", .methodLink RX6 162 yX4_dripBy, .instanceMethod yX4_dripBy, .selects RX4 yX4_dripBy yX4_dripBy, .initialized RX4, .code yX4_dripBy cX4_dripBy 8 (some .int), .methodLink RX4 18 yX4_lengthOf, .instanceMethod yX4_lengthOf, .selects RX4 yX4_lengthOf yX4_lengthOf, .code yX4_lengthOf cX4_lengthOf 2 (some .int), .fieldLink RX4 15 "DripSayings$Sayings" "lengths" "[I", .methodLink RX4 22 yX4_beatOf, .instanceMethod yX4_beatOf, .selects RX4 yX4_beatOf yX4_beatOf, .code yX4_beatOf cX4_beatOf 4 (some .int), .fieldLink RX4 9 "DripSayings$Sayings" "beats" "[I"] ++ wsX60 ++ wsX50 ++ wsX40)
def wsX6_sureOf_r1 : List Cond := [Cond.methodLink RX6 185 Lib.Math.max.name, Cond.static Lib.Math.max.name, Cond.initialized "java/lang/Math", Cond.code Lib.Math.max.name Lib.Math.max.code 2 (some .int), Cond.methodLink RX6 182 yX6_enoughToTell, Cond.instanceMethod yX6_enoughToTell, Cond.selects RX6 yX6_enoughToTell yX6_enoughToTell, Cond.initialized RX6, Cond.code yX6_enoughToTell cX6_enoughToTell 7 (some .int), Cond.fieldLink RX6 19 "DripSayings" "sayings" "LDripSayings$Sayings;", Cond.fieldLink RX6 97 "DripSayings$Tap" "kind" "I", Cond.fieldLink RX6 111 "DripSayings$Tap" "washer" "I", Cond.fieldLink RX6 105 "DripSayings$Tap" "place" "I", Cond.methodLink RX6 162 yX4_dripBy, Cond.instanceMethod yX4_dripBy, Cond.selects RX4 yX4_dripBy yX4_dripBy, Cond.initialized RX4, Cond.code yX4_dripBy cX4_dripBy 8 (some .int), Cond.methodLink RX4 18 yX4_lengthOf, Cond.instanceMethod yX4_lengthOf, Cond.selects RX4 yX4_lengthOf yX4_lengthOf, Cond.code yX4_lengthOf cX4_lengthOf 2 (some .int), Cond.fieldLink RX4 15 "DripSayings$Sayings" "lengths" "[I", Cond.methodLink RX4 22 yX4_beatOf]
def wsX6_sureOf_r2 : List Cond := [Cond.instanceMethod yX4_beatOf, Cond.selects RX4 yX4_beatOf yX4_beatOf, Cond.code yX4_beatOf cX4_beatOf 4 (some .int), Cond.fieldLink RX4 9 "DripSayings$Sayings" "beats" "[I"]
def wsX6_sureOf : List Cond := .code yX6_sureOf cX6_sureOf 6 (some .int) :: ((wsX6_sureOf_r1 ++ wsX6_sureOf_r2) ++ wsX60 ++ wsX50 ++ wsX40)
def wsX6_slipsOf_r1 : List Cond := [Cond.fieldLink RX6 26 "DripSayings" "room" "LDripSayings$Room;", Cond.fieldLink RX6 121 "DripSayings$Room" "noteCount" "I", Cond.fieldLink RX6 194 "DripSayings$Note" "tap" "I", Cond.fieldLink RX6 199 "DripSayings$Tap" "number" "I", Cond.fieldLink RX6 19 "DripSayings" "sayings" "LDripSayings$Sayings;", Cond.fieldLink RX6 97 "DripSayings$Tap" "kind" "I", Cond.fieldLink RX6 202 "DripSayings$Note" "washer" "I", Cond.fieldLink RX6 203 "DripSayings$Note" "drip" "I", Cond.fieldLink RX6 206 "DripSayings$Note" "beat" "I", Cond.methodLink RX6 190 yX3_noteAt, Cond.instanceMethod yX3_noteAt, Cond.selects RX3 yX3_noteAt yX3_noteAt, Cond.initialized RX3, Cond.code yX3_noteAt cX3_noteAt 2 (some (.object "DripSayings$Note")), Cond.fieldLink RX3 31 "DripSayings$Room" "noteCount" "I", Cond.fieldLink RX3 22 "DripSayings$Room" "notes" "[LDripSayings$Note;", Cond.methodLink RX6 162 yX4_dripBy, Cond.instanceMethod yX4_dripBy, Cond.selects RX4 yX4_dripBy yX4_dripBy, Cond.initialized RX4, Cond.code yX4_dripBy cX4_dripBy 8 (some .int), Cond.methodLink RX4 18 yX4_lengthOf, Cond.instanceMethod yX4_lengthOf, Cond.selects RX4 yX4_lengthOf yX4_lengthOf]
def wsX6_slipsOf_r2 : List Cond := [Cond.code yX4_lengthOf cX4_lengthOf 2 (some .int), Cond.fieldLink RX4 15 "DripSayings$Sayings" "lengths" "[I", Cond.methodLink RX4 22 yX4_beatOf, Cond.instanceMethod yX4_beatOf, Cond.selects RX4 yX4_beatOf yX4_beatOf, Cond.code yX4_beatOf cX4_beatOf 4 (some .int), Cond.fieldLink RX4 9 "DripSayings$Sayings" "beats" "[I"]
def wsX6_slipsOf : List Cond := .code yX6_slipsOf cX6_slipsOf 6 (some .int) :: ((wsX6_slipsOf_r1 ++ wsX6_slipsOf_r2) ++ wsX60 ++ wsX30 ++ wsX00 ++ wsX50 ++ wsX40)
def wsX6_saysOf_r1 : List Cond := [Cond.methodLink RX6 176 yX6_slipsOf, Cond.instanceMethod yX6_slipsOf, Cond.selects RX6 yX6_slipsOf yX6_slipsOf, Cond.initialized RX6, Cond.code yX6_slipsOf cX6_slipsOf 6 (some .int), Cond.fieldLink RX6 26 "DripSayings" "room" "LDripSayings$Room;", Cond.fieldLink RX6 121 "DripSayings$Room" "noteCount" "I", Cond.fieldLink RX6 194 "DripSayings$Note" "tap" "I", Cond.fieldLink RX6 199 "DripSayings$Tap" "number" "I", Cond.fieldLink RX6 19 "DripSayings" "sayings" "LDripSayings$Sayings;", Cond.fieldLink RX6 97 "DripSayings$Tap" "kind" "I", Cond.fieldLink RX6 202 "DripSayings$Note" "washer" "I", Cond.fieldLink RX6 203 "DripSayings$Note" "drip" "I", Cond.fieldLink RX6 206 "DripSayings$Note" "beat" "I", Cond.methodLink RX6 190 yX3_noteAt, Cond.instanceMethod yX3_noteAt, Cond.selects RX3 yX3_noteAt yX3_noteAt, Cond.initialized RX3, Cond.code yX3_noteAt cX3_noteAt 2 (some (.object "DripSayings$Note")), Cond.fieldLink RX3 31 "DripSayings$Room" "noteCount" "I", Cond.fieldLink RX3 22 "DripSayings$Room" "notes" "[LDripSayings$Note;", Cond.methodLink RX6 162 yX4_dripBy, Cond.instanceMethod yX4_dripBy, Cond.selects RX4 yX4_dripBy yX4_dripBy]
def wsX6_saysOf_r2 : List Cond := [Cond.initialized RX4, Cond.code yX4_dripBy cX4_dripBy 8 (some .int), Cond.methodLink RX4 18 yX4_lengthOf, Cond.instanceMethod yX4_lengthOf, Cond.selects RX4 yX4_lengthOf yX4_lengthOf, Cond.code yX4_lengthOf cX4_lengthOf 2 (some .int), Cond.fieldLink RX4 15 "DripSayings$Sayings" "lengths" "[I", Cond.methodLink RX4 22 yX4_beatOf, Cond.instanceMethod yX4_beatOf, Cond.selects RX4 yX4_beatOf yX4_beatOf, Cond.code yX4_beatOf cX4_beatOf 4 (some .int), Cond.fieldLink RX4 9 "DripSayings$Sayings" "beats" "[I"]
def wsX6_saysOf : List Cond := .code yX6_saysOf cX6_saysOf 4 (some .int) :: ((wsX6_saysOf_r1 ++ wsX6_saysOf_r2) ++ wsX60 ++ wsX30 ++ wsX00 ++ wsX50 ++ wsX40)
def wsX6_likelyOf_r1 : List Cond := [Cond.methodLink RX6 176 yX6_slipsOf, Cond.instanceMethod yX6_slipsOf, Cond.selects RX6 yX6_slipsOf yX6_slipsOf, Cond.initialized RX6, Cond.code yX6_slipsOf cX6_slipsOf 6 (some .int), Cond.fieldLink RX6 26 "DripSayings" "room" "LDripSayings$Room;", Cond.fieldLink RX6 121 "DripSayings$Room" "noteCount" "I", Cond.fieldLink RX6 194 "DripSayings$Note" "tap" "I", Cond.fieldLink RX6 199 "DripSayings$Tap" "number" "I", Cond.fieldLink RX6 19 "DripSayings" "sayings" "LDripSayings$Sayings;", Cond.fieldLink RX6 97 "DripSayings$Tap" "kind" "I", Cond.fieldLink RX6 202 "DripSayings$Note" "washer" "I", Cond.fieldLink RX6 203 "DripSayings$Note" "drip" "I", Cond.fieldLink RX6 206 "DripSayings$Note" "beat" "I", Cond.methodLink RX6 190 yX3_noteAt, Cond.instanceMethod yX3_noteAt, Cond.selects RX3 yX3_noteAt yX3_noteAt, Cond.initialized RX3, Cond.code yX3_noteAt cX3_noteAt 2 (some (.object "DripSayings$Note")), Cond.fieldLink RX3 31 "DripSayings$Room" "noteCount" "I", Cond.fieldLink RX3 22 "DripSayings$Room" "notes" "[LDripSayings$Note;", Cond.methodLink RX6 162 yX4_dripBy, Cond.instanceMethod yX4_dripBy, Cond.selects RX4 yX4_dripBy yX4_dripBy]
def wsX6_likelyOf_r2 : List Cond := [Cond.initialized RX4, Cond.code yX4_dripBy cX4_dripBy 8 (some .int), Cond.methodLink RX4 18 yX4_lengthOf, Cond.instanceMethod yX4_lengthOf, Cond.selects RX4 yX4_lengthOf yX4_lengthOf, Cond.code yX4_lengthOf cX4_lengthOf 2 (some .int), Cond.fieldLink RX4 15 "DripSayings$Sayings" "lengths" "[I", Cond.methodLink RX4 22 yX4_beatOf, Cond.instanceMethod yX4_beatOf, Cond.selects RX4 yX4_beatOf yX4_beatOf, Cond.code yX4_beatOf cX4_beatOf 4 (some .int), Cond.fieldLink RX4 9 "DripSayings$Sayings" "beats" "[I"]
def wsX6_likelyOf : List Cond := .code yX6_likelyOf cX6_likelyOf 4 (some .int) :: ((wsX6_likelyOf_r1 ++ wsX6_likelyOf_r2) ++ wsX60 ++ wsX30 ++ wsX00 ++ wsX50 ++ wsX40)
def wsX6_leftAtWorst : List Cond := .code yX6_leftAtWorst cX6_leftAtWorst 7 (some .int) :: ([.fieldLink RX6 19 "DripSayings" "sayings" "LDripSayings$Sayings;", .fieldLink RX6 97 "DripSayings$Tap" "kind" "I", .fieldLink RX6 111 "DripSayings$Tap" "washer" "I", .fieldLink RX6 105 "DripSayings$Tap" "place" "I", .methodLink RX6 185 Lib.Math.max.name, .static Lib.Math.max.name, .initialized "java/lang/Math", .code Lib.Math.max.name Lib.Math.max.code 2 (some .int), .methodLink RX6 162 yX4_dripBy, .instanceMethod yX4_dripBy, .selects RX4 yX4_dripBy yX4_dripBy, .initialized RX4, .code yX4_dripBy cX4_dripBy 8 (some .int), .methodLink RX4 18 yX4_lengthOf, .instanceMethod yX4_lengthOf, .selects RX4 yX4_lengthOf yX4_lengthOf, .code yX4_lengthOf cX4_lengthOf 2 (some .int), .fieldLink RX4 15 "DripSayings$Sayings" "lengths" "[I", .methodLink RX4 22 yX4_beatOf, .instanceMethod yX4_beatOf, .selects RX4 yX4_beatOf yX4_beatOf, .code yX4_beatOf cX4_beatOf 4 (some .int), .fieldLink RX4 9 "DripSayings$Sayings" "beats" "[I"] ++ wsX60 ++ wsX50 ++ wsX40)
def wsX6_bestToHear_r1 : List Cond := [Cond.methodLink RX6 209 yX6_leftAtWorst, Cond.instanceMethod yX6_leftAtWorst, Cond.selects RX6 yX6_leftAtWorst yX6_leftAtWorst, Cond.initialized RX6, Cond.code yX6_leftAtWorst cX6_leftAtWorst 7 (some .int), Cond.fieldLink RX6 19 "DripSayings" "sayings" "LDripSayings$Sayings;", Cond.fieldLink RX6 97 "DripSayings$Tap" "kind" "I", Cond.fieldLink RX6 111 "DripSayings$Tap" "washer" "I", Cond.fieldLink RX6 105 "DripSayings$Tap" "place" "I", Cond.methodLink RX6 185 Lib.Math.max.name, Cond.static Lib.Math.max.name, Cond.initialized "java/lang/Math", Cond.code Lib.Math.max.name Lib.Math.max.code 2 (some .int), Cond.methodLink RX6 162 yX4_dripBy, Cond.instanceMethod yX4_dripBy, Cond.selects RX4 yX4_dripBy yX4_dripBy, Cond.initialized RX4, Cond.code yX4_dripBy cX4_dripBy 8 (some .int), Cond.methodLink RX4 18 yX4_lengthOf, Cond.instanceMethod yX4_lengthOf, Cond.selects RX4 yX4_lengthOf yX4_lengthOf, Cond.code yX4_lengthOf cX4_lengthOf 2 (some .int), Cond.fieldLink RX4 15 "DripSayings$Sayings" "lengths" "[I", Cond.methodLink RX4 22 yX4_beatOf]
def wsX6_bestToHear_r2 : List Cond := [Cond.instanceMethod yX4_beatOf, Cond.selects RX4 yX4_beatOf yX4_beatOf, Cond.code yX4_beatOf cX4_beatOf 4 (some .int), Cond.fieldLink RX4 9 "DripSayings$Sayings" "beats" "[I"]
def wsX6_bestToHear : List Cond := .code yX6_bestToHear cX6_bestToHear 5 (some .int) :: ((wsX6_bestToHear_r1 ++ wsX6_bestToHear_r2) ++ wsX60 ++ wsX50 ++ wsX40)
def wsX6_aboutOf_r1 : List Cond := [Cond.fieldLink RX6 97 "DripSayings$Tap" "kind" "I", Cond.fieldLink RX6 114 "DripSayings$Tap" "saying" "I", Cond.fieldLink RX6 111 "DripSayings$Tap" "washer" "I", Cond.fieldLink RX6 105 "DripSayings$Tap" "place" "I", Cond.methodLink RX6 166 yX6_sureOf, Cond.instanceMethod yX6_sureOf, Cond.selects RX6 yX6_sureOf yX6_sureOf, Cond.initialized RX6, Cond.code yX6_sureOf cX6_sureOf 6 (some .int), Cond.methodLink RX6 185 Lib.Math.max.name, Cond.static Lib.Math.max.name, Cond.initialized "java/lang/Math", Cond.code Lib.Math.max.name Lib.Math.max.code 2 (some .int), Cond.methodLink RX6 182 yX6_enoughToTell, Cond.instanceMethod yX6_enoughToTell, Cond.selects RX6 yX6_enoughToTell yX6_enoughToTell, Cond.code yX6_enoughToTell cX6_enoughToTell 7 (some .int), Cond.fieldLink RX6 19 "DripSayings" "sayings" "LDripSayings$Sayings;", Cond.methodLink RX6 162 yX4_dripBy, Cond.instanceMethod yX4_dripBy, Cond.selects RX4 yX4_dripBy yX4_dripBy, Cond.initialized RX4, Cond.code yX4_dripBy cX4_dripBy 8 (some .int), Cond.methodLink RX4 18 yX4_lengthOf]
def wsX6_aboutOf_r2 : List Cond := [Cond.instanceMethod yX4_lengthOf, Cond.selects RX4 yX4_lengthOf yX4_lengthOf, Cond.code yX4_lengthOf cX4_lengthOf 2 (some .int), Cond.fieldLink RX4 15 "DripSayings$Sayings" "lengths" "[I", Cond.methodLink RX4 22 yX4_beatOf, Cond.instanceMethod yX4_beatOf, Cond.selects RX4 yX4_beatOf yX4_beatOf, Cond.code yX4_beatOf cX4_beatOf 4 (some .int), Cond.fieldLink RX4 9 "DripSayings$Sayings" "beats" "[I", Cond.methodLink RX6 170 yX6_saysOf, Cond.instanceMethod yX6_saysOf, Cond.selects RX6 yX6_saysOf yX6_saysOf, Cond.code yX6_saysOf cX6_saysOf 4 (some .int), Cond.methodLink RX6 176 yX6_slipsOf, Cond.instanceMethod yX6_slipsOf, Cond.selects RX6 yX6_slipsOf yX6_slipsOf, Cond.code yX6_slipsOf cX6_slipsOf 6 (some .int), Cond.fieldLink RX6 26 "DripSayings" "room" "LDripSayings$Room;", Cond.fieldLink RX6 121 "DripSayings$Room" "noteCount" "I", Cond.fieldLink RX6 194 "DripSayings$Note" "tap" "I", Cond.fieldLink RX6 199 "DripSayings$Tap" "number" "I", Cond.fieldLink RX6 202 "DripSayings$Note" "washer" "I", Cond.fieldLink RX6 203 "DripSayings$Note" "drip" "I", Cond.fieldLink RX6 206 "DripSayings$Note" "beat" "I"]
def wsX6_aboutOf_r3 : List Cond := [Cond.methodLink RX6 190 yX3_noteAt, Cond.instanceMethod yX3_noteAt, Cond.selects RX3 yX3_noteAt yX3_noteAt, Cond.initialized RX3, Cond.code yX3_noteAt cX3_noteAt 2 (some (.object "DripSayings$Note")), Cond.fieldLink RX3 31 "DripSayings$Room" "noteCount" "I", Cond.fieldLink RX3 22 "DripSayings$Room" "notes" "[LDripSayings$Note;", Cond.methodLink RX6 173 yX6_likelyOf, Cond.instanceMethod yX6_likelyOf, Cond.selects RX6 yX6_likelyOf yX6_likelyOf, Cond.code yX6_likelyOf cX6_likelyOf 4 (some .int), Cond.methodLink RX6 179 yX6_bestToHear, Cond.instanceMethod yX6_bestToHear, Cond.selects RX6 yX6_bestToHear yX6_bestToHear, Cond.code yX6_bestToHear cX6_bestToHear 5 (some .int), Cond.methodLink RX6 209 yX6_leftAtWorst, Cond.instanceMethod yX6_leftAtWorst, Cond.selects RX6 yX6_leftAtWorst yX6_leftAtWorst, Cond.code yX6_leftAtWorst cX6_leftAtWorst 7 (some .int)]
def wsX6_aboutOf : List Cond := .code yX6_aboutOf cX6_aboutOf 3 (some .int) :: ((wsX6_aboutOf_r1 ++ (wsX6_aboutOf_r2 ++ wsX6_aboutOf_r3)) ++ wsX50 ++ wsX60 ++ wsX40 ++ wsX30 ++ wsX00)
def wsX6_about_r1 : List Cond := [Cond.fieldLink RX6 26 "DripSayings" "room" "LDripSayings$Room;", Cond.methodLink RX6 89 yX3_tapAt, Cond.instanceMethod yX3_tapAt, Cond.selects RX3 yX3_tapAt yX3_tapAt, Cond.initialized RX3, Cond.code yX3_tapAt cX3_tapAt 2 (some (.object "DripSayings$Tap")), Cond.fieldLink RX3 27 "DripSayings$Room" "tapCount" "I", Cond.fieldLink RX3 11 "DripSayings$Room" "taps" "[LDripSayings$Tap;", Cond.methodLink RX6 93 yX6_aboutOf, Cond.instanceMethod yX6_aboutOf, Cond.selects RX6 yX6_aboutOf yX6_aboutOf, Cond.initialized RX6, Cond.code yX6_aboutOf cX6_aboutOf 3 (some .int), Cond.fieldLink RX6 97 "DripSayings$Tap" "kind" "I", Cond.fieldLink RX6 114 "DripSayings$Tap" "saying" "I", Cond.fieldLink RX6 111 "DripSayings$Tap" "washer" "I", Cond.fieldLink RX6 105 "DripSayings$Tap" "place" "I", Cond.methodLink RX6 166 yX6_sureOf, Cond.instanceMethod yX6_sureOf, Cond.selects RX6 yX6_sureOf yX6_sureOf, Cond.code yX6_sureOf cX6_sureOf 6 (some .int), Cond.methodLink RX6 185 Lib.Math.max.name, Cond.static Lib.Math.max.name, Cond.initialized "java/lang/Math"]
def wsX6_about_r2 : List Cond := [Cond.code Lib.Math.max.name Lib.Math.max.code 2 (some .int), Cond.methodLink RX6 182 yX6_enoughToTell, Cond.instanceMethod yX6_enoughToTell, Cond.selects RX6 yX6_enoughToTell yX6_enoughToTell, Cond.code yX6_enoughToTell cX6_enoughToTell 7 (some .int), Cond.fieldLink RX6 19 "DripSayings" "sayings" "LDripSayings$Sayings;", Cond.methodLink RX6 162 yX4_dripBy, Cond.instanceMethod yX4_dripBy, Cond.selects RX4 yX4_dripBy yX4_dripBy, Cond.initialized RX4, Cond.code yX4_dripBy cX4_dripBy 8 (some .int), Cond.methodLink RX4 18 yX4_lengthOf, Cond.instanceMethod yX4_lengthOf, Cond.selects RX4 yX4_lengthOf yX4_lengthOf, Cond.code yX4_lengthOf cX4_lengthOf 2 (some .int), Cond.fieldLink RX4 15 "DripSayings$Sayings" "lengths" "[I", Cond.methodLink RX4 22 yX4_beatOf, Cond.instanceMethod yX4_beatOf, Cond.selects RX4 yX4_beatOf yX4_beatOf, Cond.code yX4_beatOf cX4_beatOf 4 (some .int), Cond.fieldLink RX4 9 "DripSayings$Sayings" "beats" "[I", Cond.methodLink RX6 170 yX6_saysOf, Cond.instanceMethod yX6_saysOf, Cond.selects RX6 yX6_saysOf yX6_saysOf]
def wsX6_about_r3 : List Cond := [Cond.code yX6_saysOf cX6_saysOf 4 (some .int), Cond.methodLink RX6 176 yX6_slipsOf, Cond.instanceMethod yX6_slipsOf, Cond.selects RX6 yX6_slipsOf yX6_slipsOf, Cond.code yX6_slipsOf cX6_slipsOf 6 (some .int), Cond.fieldLink RX6 121 "DripSayings$Room" "noteCount" "I", Cond.fieldLink RX6 194 "DripSayings$Note" "tap" "I", Cond.fieldLink RX6 199 "DripSayings$Tap" "number" "I", Cond.fieldLink RX6 202 "DripSayings$Note" "washer" "I", Cond.fieldLink RX6 203 "DripSayings$Note" "drip" "I", Cond.fieldLink RX6 206 "DripSayings$Note" "beat" "I", Cond.methodLink RX6 190 yX3_noteAt, Cond.instanceMethod yX3_noteAt, Cond.selects RX3 yX3_noteAt yX3_noteAt, Cond.code yX3_noteAt cX3_noteAt 2 (some (.object "DripSayings$Note")), Cond.fieldLink RX3 31 "DripSayings$Room" "noteCount" "I", Cond.fieldLink RX3 22 "DripSayings$Room" "notes" "[LDripSayings$Note;", Cond.methodLink RX6 173 yX6_likelyOf, Cond.instanceMethod yX6_likelyOf, Cond.selects RX6 yX6_likelyOf yX6_likelyOf, Cond.code yX6_likelyOf cX6_likelyOf 4 (some .int), Cond.methodLink RX6 179 yX6_bestToHear, Cond.instanceMethod yX6_bestToHear, Cond.selects RX6 yX6_bestToHear yX6_bestToHear]
def wsX6_about_r4 : List Cond := [Cond.code yX6_bestToHear cX6_bestToHear 5 (some .int), Cond.methodLink RX6 209 yX6_leftAtWorst, Cond.instanceMethod yX6_leftAtWorst, Cond.selects RX6 yX6_leftAtWorst yX6_leftAtWorst, Cond.code yX6_leftAtWorst cX6_leftAtWorst 7 (some .int)]
def wsX6_about : List Cond := .code yX6_about cX6_about 4 (some .int) :: ((wsX6_about_r1 ++ (wsX6_about_r2 ++ (wsX6_about_r3 ++ wsX6_about_r4))) ++ wsX60 ++ wsX30 ++ wsX50 ++ wsX40 ++ wsX00)
def wsX6_as : List Cond := .code yX6_as cX6_as 5 (some .int) :: ([.fieldLink RX6 26 "DripSayings" "room" "LDripSayings$Room;", .fieldLink RX6 97 "DripSayings$Tap" "kind" "I", .methodLink RX6 89 yX3_tapAt, .instanceMethod yX3_tapAt, .selects RX3 yX3_tapAt yX3_tapAt, .initialized RX3, .code yX3_tapAt cX3_tapAt 2 (some (.object "DripSayings$Tap")), .fieldLink RX3 27 "DripSayings$Room" "tapCount" "I", .fieldLink RX3 11 "DripSayings$Room" "taps" "[LDripSayings$Tap;", .methodLink RX6 82 yX6_isKind, .static yX6_isKind, .initialized RX6, .code yX6_isKind cX6_isKind 1 (some .boolean)] ++ wsX60 ++ wsX50 ++ wsX30)
def wsX6_dripOf : List Cond := .code yX6_dripOf cX6_dripOf 3 (some .int) :: ([.fieldLink RX6 19 "DripSayings" "sayings" "LDripSayings$Sayings;", .fieldLink RX6 97 "DripSayings$Tap" "kind" "I", .fieldLink RX6 114 "DripSayings$Tap" "saying" "I", .fieldLink RX6 111 "DripSayings$Tap" "washer" "I", .methodLink RX6 162 yX4_dripBy, .instanceMethod yX4_dripBy, .selects RX4 yX4_dripBy yX4_dripBy, .initialized RX4, .code yX4_dripBy cX4_dripBy 8 (some .int), .methodLink RX4 18 yX4_lengthOf, .instanceMethod yX4_lengthOf, .selects RX4 yX4_lengthOf yX4_lengthOf, .code yX4_lengthOf cX4_lengthOf 2 (some .int), .fieldLink RX4 15 "DripSayings$Sayings" "lengths" "[I", .methodLink RX4 22 yX4_beatOf, .instanceMethod yX4_beatOf, .selects RX4 yX4_beatOf yX4_beatOf, .code yX4_beatOf cX4_beatOf 4 (some .int), .fieldLink RX4 9 "DripSayings$Sayings" "beats" "[I"] ++ wsX60 ++ wsX50 ++ wsX40)
def wsX6_drip_r1 : List Cond := [Cond.fieldLink RX6 26 "DripSayings" "room" "LDripSayings$Room;", Cond.methodLink RX6 89 yX3_tapAt, Cond.instanceMethod yX3_tapAt, Cond.selects RX3 yX3_tapAt yX3_tapAt, Cond.initialized RX3, Cond.code yX3_tapAt cX3_tapAt 2 (some (.object "DripSayings$Tap")), Cond.fieldLink RX3 27 "DripSayings$Room" "tapCount" "I", Cond.fieldLink RX3 11 "DripSayings$Room" "taps" "[LDripSayings$Tap;", Cond.methodLink RX6 102 yX6_dripOf, Cond.instanceMethod yX6_dripOf, Cond.selects RX6 yX6_dripOf yX6_dripOf, Cond.initialized RX6, Cond.code yX6_dripOf cX6_dripOf 3 (some .int), Cond.fieldLink RX6 19 "DripSayings" "sayings" "LDripSayings$Sayings;", Cond.fieldLink RX6 97 "DripSayings$Tap" "kind" "I", Cond.fieldLink RX6 114 "DripSayings$Tap" "saying" "I", Cond.fieldLink RX6 111 "DripSayings$Tap" "washer" "I", Cond.methodLink RX6 162 yX4_dripBy, Cond.instanceMethod yX4_dripBy, Cond.selects RX4 yX4_dripBy yX4_dripBy, Cond.initialized RX4, Cond.code yX4_dripBy cX4_dripBy 8 (some .int), Cond.methodLink RX4 18 yX4_lengthOf, Cond.instanceMethod yX4_lengthOf]
def wsX6_drip_r2 : List Cond := [Cond.selects RX4 yX4_lengthOf yX4_lengthOf, Cond.code yX4_lengthOf cX4_lengthOf 2 (some .int), Cond.fieldLink RX4 15 "DripSayings$Sayings" "lengths" "[I", Cond.methodLink RX4 22 yX4_beatOf, Cond.instanceMethod yX4_beatOf, Cond.selects RX4 yX4_beatOf yX4_beatOf, Cond.code yX4_beatOf cX4_beatOf 4 (some .int), Cond.fieldLink RX4 9 "DripSayings$Sayings" "beats" "[I"]
def wsX6_drip : List Cond := .code yX6_drip cX6_drip 4 (some .int) :: ((wsX6_drip_r1 ++ wsX6_drip_r2) ++ wsX60 ++ wsX30 ++ wsX50 ++ wsX40)
def wsX6_listen_r1 : List Cond := [Cond.fieldLink RX6 26 "DripSayings" "room" "LDripSayings$Room;", Cond.fieldLink RX6 105 "DripSayings$Tap" "place" "I", Cond.fieldLink RX6 108 "DripSayings$Room" "changes" "I", Cond.methodLink RX6 89 yX3_tapAt, Cond.instanceMethod yX3_tapAt, Cond.selects RX3 yX3_tapAt yX3_tapAt, Cond.initialized RX3, Cond.code yX3_tapAt cX3_tapAt 2 (some (.object "DripSayings$Tap")), Cond.fieldLink RX3 27 "DripSayings$Room" "tapCount" "I", Cond.fieldLink RX3 11 "DripSayings$Room" "taps" "[LDripSayings$Tap;", Cond.methodLink RX6 102 yX6_dripOf, Cond.instanceMethod yX6_dripOf, Cond.selects RX6 yX6_dripOf yX6_dripOf, Cond.initialized RX6, Cond.code yX6_dripOf cX6_dripOf 3 (some .int), Cond.fieldLink RX6 19 "DripSayings" "sayings" "LDripSayings$Sayings;", Cond.fieldLink RX6 97 "DripSayings$Tap" "kind" "I", Cond.fieldLink RX6 114 "DripSayings$Tap" "saying" "I", Cond.fieldLink RX6 111 "DripSayings$Tap" "washer" "I", Cond.methodLink RX6 162 yX4_dripBy, Cond.instanceMethod yX4_dripBy, Cond.selects RX4 yX4_dripBy yX4_dripBy, Cond.initialized RX4, Cond.code yX4_dripBy cX4_dripBy 8 (some .int)]
def wsX6_listen_r2 : List Cond := [Cond.methodLink RX4 18 yX4_lengthOf, Cond.instanceMethod yX4_lengthOf, Cond.selects RX4 yX4_lengthOf yX4_lengthOf, Cond.code yX4_lengthOf cX4_lengthOf 2 (some .int), Cond.fieldLink RX4 15 "DripSayings$Sayings" "lengths" "[I", Cond.methodLink RX4 22 yX4_beatOf, Cond.instanceMethod yX4_beatOf, Cond.selects RX4 yX4_beatOf yX4_beatOf, Cond.code yX4_beatOf cX4_beatOf 4 (some .int), Cond.fieldLink RX4 9 "DripSayings$Sayings" "beats" "[I"]
def wsX6_listen : List Cond := .code yX6_listen cX6_listen 4 (some .int) :: ((wsX6_listen_r1 ++ wsX6_listen_r2) ++ wsX60 ++ wsX50 ++ wsX30 ++ wsX40)
def wsX6_washer : List Cond := .code yX6_washer cX6_washer 5 (some .int) :: ([.fieldLink RX6 26 "DripSayings" "room" "LDripSayings$Room;", .fieldLink RX6 111 "DripSayings$Tap" "washer" "I", .fieldLink RX6 108 "DripSayings$Room" "changes" "I", .methodLink RX6 89 yX3_tapAt, .instanceMethod yX3_tapAt, .selects RX3 yX3_tapAt yX3_tapAt, .initialized RX3, .code yX3_tapAt cX3_tapAt 2 (some (.object "DripSayings$Tap")), .fieldLink RX3 27 "DripSayings$Room" "tapCount" "I", .fieldLink RX3 11 "DripSayings$Room" "taps" "[LDripSayings$Tap;"] ++ wsX60 ++ wsX50 ++ wsX30)
def wsX6_teach : List Cond := .code yX6_teach cX6_teach 5 (some .int) :: ([.fieldLink RX6 26 "DripSayings" "room" "LDripSayings$Room;", .fieldLink RX6 114 "DripSayings$Tap" "saying" "I", .fieldLink RX6 108 "DripSayings$Room" "changes" "I", .methodLink RX6 89 yX3_tapAt, .instanceMethod yX3_tapAt, .selects RX3 yX3_tapAt yX3_tapAt, .initialized RX3, .code yX3_tapAt cX3_tapAt 2 (some (.object "DripSayings$Tap")), .fieldLink RX3 27 "DripSayings$Room" "tapCount" "I", .fieldLink RX3 11 "DripSayings$Room" "taps" "[LDripSayings$Tap;", .methodLink RX6 70 yX6_isSaying, .static yX6_isSaying, .initialized RX6, .code yX6_isSaying cX6_isSaying 1 (some .boolean)] ++ wsX60 ++ wsX50 ++ wsX30)
def wsX6_agree_r1 : List Cond := [Cond.fieldLink RX6 26 "DripSayings" "room" "LDripSayings$Room;", Cond.fieldLink RX6 105 "DripSayings$Tap" "place" "I", Cond.methodLink RX6 89 yX3_tapAt, Cond.instanceMethod yX3_tapAt, Cond.selects RX3 yX3_tapAt yX3_tapAt, Cond.initialized RX3, Cond.code yX3_tapAt cX3_tapAt 2 (some (.object "DripSayings$Tap")), Cond.fieldLink RX3 27 "DripSayings$Room" "tapCount" "I", Cond.fieldLink RX3 11 "DripSayings$Room" "taps" "[LDripSayings$Tap;", Cond.methodLink RX6 102 yX6_dripOf, Cond.instanceMethod yX6_dripOf, Cond.selects RX6 yX6_dripOf yX6_dripOf, Cond.initialized RX6, Cond.code yX6_dripOf cX6_dripOf 3 (some .int), Cond.fieldLink RX6 19 "DripSayings" "sayings" "LDripSayings$Sayings;", Cond.fieldLink RX6 97 "DripSayings$Tap" "kind" "I", Cond.fieldLink RX6 114 "DripSayings$Tap" "saying" "I", Cond.fieldLink RX6 111 "DripSayings$Tap" "washer" "I", Cond.methodLink RX6 162 yX4_dripBy, Cond.instanceMethod yX4_dripBy, Cond.selects RX4 yX4_dripBy yX4_dripBy, Cond.initialized RX4, Cond.code yX4_dripBy cX4_dripBy 8 (some .int), Cond.methodLink RX4 18 yX4_lengthOf]
def wsX6_agree_r2 : List Cond := [Cond.instanceMethod yX4_lengthOf, Cond.selects RX4 yX4_lengthOf yX4_lengthOf, Cond.code yX4_lengthOf cX4_lengthOf 2 (some .int), Cond.fieldLink RX4 15 "DripSayings$Sayings" "lengths" "[I", Cond.methodLink RX4 22 yX4_beatOf, Cond.instanceMethod yX4_beatOf, Cond.selects RX4 yX4_beatOf yX4_beatOf, Cond.code yX4_beatOf cX4_beatOf 4 (some .int), Cond.fieldLink RX4 9 "DripSayings$Sayings" "beats" "[I"]
def wsX6_agree : List Cond := .code yX6_agree cX6_agree 7 (some .int) :: ((wsX6_agree_r1 ++ wsX6_agree_r2) ++ wsX60 ++ wsX50 ++ wsX30 ++ wsX40)
def wsX6_unlikeOf : List Cond := .code yX6_unlikeOf cX6_unlikeOf 7 (some .int) :: ([.fieldLink RX6 19 "DripSayings" "sayings" "LDripSayings$Sayings;", .fieldLink RX6 97 "DripSayings$Tap" "kind" "I", .fieldLink RX6 114 "DripSayings$Tap" "saying" "I", .methodLink RX6 162 yX4_dripBy, .instanceMethod yX4_dripBy, .selects RX4 yX4_dripBy yX4_dripBy, .initialized RX4, .code yX4_dripBy cX4_dripBy 8 (some .int), .methodLink RX4 18 yX4_lengthOf, .instanceMethod yX4_lengthOf, .selects RX4 yX4_lengthOf yX4_lengthOf, .code yX4_lengthOf cX4_lengthOf 2 (some .int), .fieldLink RX4 15 "DripSayings$Sayings" "lengths" "[I", .methodLink RX4 22 yX4_beatOf, .instanceMethod yX4_beatOf, .selects RX4 yX4_beatOf yX4_beatOf, .code yX4_beatOf cX4_beatOf 4 (some .int), .fieldLink RX4 9 "DripSayings$Sayings" "beats" "[I"] ++ wsX60 ++ wsX50 ++ wsX40)
def wsX6_nearOf_r1 : List Cond := [Cond.methodLink RX6 215 Lib.Math.min.name, Cond.static Lib.Math.min.name, Cond.initialized "java/lang/Math", Cond.code Lib.Math.min.name Lib.Math.min.code 2 (some .int), Cond.methodLink RX6 212 yX6_unlikeOf, Cond.instanceMethod yX6_unlikeOf, Cond.selects RX6 yX6_unlikeOf yX6_unlikeOf, Cond.initialized RX6, Cond.code yX6_unlikeOf cX6_unlikeOf 7 (some .int), Cond.fieldLink RX6 19 "DripSayings" "sayings" "LDripSayings$Sayings;", Cond.fieldLink RX6 97 "DripSayings$Tap" "kind" "I", Cond.fieldLink RX6 114 "DripSayings$Tap" "saying" "I", Cond.methodLink RX6 162 yX4_dripBy, Cond.instanceMethod yX4_dripBy, Cond.selects RX4 yX4_dripBy yX4_dripBy, Cond.initialized RX4, Cond.code yX4_dripBy cX4_dripBy 8 (some .int), Cond.methodLink RX4 18 yX4_lengthOf, Cond.instanceMethod yX4_lengthOf, Cond.selects RX4 yX4_lengthOf yX4_lengthOf, Cond.code yX4_lengthOf cX4_lengthOf 2 (some .int), Cond.fieldLink RX4 15 "DripSayings$Sayings" "lengths" "[I", Cond.methodLink RX4 22 yX4_beatOf, Cond.instanceMethod yX4_beatOf]
def wsX6_nearOf_r2 : List Cond := [Cond.selects RX4 yX4_beatOf yX4_beatOf, Cond.code yX4_beatOf cX4_beatOf 4 (some .int), Cond.fieldLink RX4 9 "DripSayings$Sayings" "beats" "[I"]
def wsX6_nearOf : List Cond := .code yX6_nearOf cX6_nearOf 6 (some .int) :: ((wsX6_nearOf_r1 ++ wsX6_nearOf_r2) ++ wsX60 ++ wsX50 ++ wsX40)
def wsX6_near_r1 : List Cond := [Cond.fieldLink RX6 26 "DripSayings" "room" "LDripSayings$Room;", Cond.methodLink RX6 89 yX3_tapAt, Cond.instanceMethod yX3_tapAt, Cond.selects RX3 yX3_tapAt yX3_tapAt, Cond.initialized RX3, Cond.code yX3_tapAt cX3_tapAt 2 (some (.object "DripSayings$Tap")), Cond.fieldLink RX3 27 "DripSayings$Room" "tapCount" "I", Cond.fieldLink RX3 11 "DripSayings$Room" "taps" "[LDripSayings$Tap;", Cond.methodLink RX6 70 yX6_isSaying, Cond.static yX6_isSaying, Cond.initialized RX6, Cond.code yX6_isSaying cX6_isSaying 1 (some .boolean), Cond.methodLink RX6 117 yX6_nearOf, Cond.instanceMethod yX6_nearOf, Cond.selects RX6 yX6_nearOf yX6_nearOf, Cond.code yX6_nearOf cX6_nearOf 6 (some .int), Cond.methodLink RX6 215 Lib.Math.min.name, Cond.static Lib.Math.min.name, Cond.initialized "java/lang/Math", Cond.code Lib.Math.min.name Lib.Math.min.code 2 (some .int), Cond.methodLink RX6 212 yX6_unlikeOf, Cond.instanceMethod yX6_unlikeOf, Cond.selects RX6 yX6_unlikeOf yX6_unlikeOf, Cond.code yX6_unlikeOf cX6_unlikeOf 7 (some .int)]
def wsX6_near_r2 : List Cond := [Cond.fieldLink RX6 19 "DripSayings" "sayings" "LDripSayings$Sayings;", Cond.fieldLink RX6 97 "DripSayings$Tap" "kind" "I", Cond.fieldLink RX6 114 "DripSayings$Tap" "saying" "I", Cond.methodLink RX6 162 yX4_dripBy, Cond.instanceMethod yX4_dripBy, Cond.selects RX4 yX4_dripBy yX4_dripBy, Cond.initialized RX4, Cond.code yX4_dripBy cX4_dripBy 8 (some .int), Cond.methodLink RX4 18 yX4_lengthOf, Cond.instanceMethod yX4_lengthOf, Cond.selects RX4 yX4_lengthOf yX4_lengthOf, Cond.code yX4_lengthOf cX4_lengthOf 2 (some .int), Cond.fieldLink RX4 15 "DripSayings$Sayings" "lengths" "[I", Cond.methodLink RX4 22 yX4_beatOf, Cond.instanceMethod yX4_beatOf, Cond.selects RX4 yX4_beatOf yX4_beatOf, Cond.code yX4_beatOf cX4_beatOf 4 (some .int), Cond.fieldLink RX4 9 "DripSayings$Sayings" "beats" "[I"]
def wsX6_near : List Cond := .code yX6_near cX6_near 5 (some .int) :: ((wsX6_near_r1 ++ wsX6_near_r2) ++ wsX60 ++ wsX30 ++ wsX50 ++ wsX40)
def wsX6_put_r1 : List Cond := [Cond.fieldLink RX6 26 "DripSayings" "room" "LDripSayings$Room;", Cond.fieldLink RX6 121 "DripSayings$Room" "noteCount" "I", Cond.methodLink RX6 89 yX3_tapAt, Cond.instanceMethod yX3_tapAt, Cond.selects RX3 yX3_tapAt yX3_tapAt, Cond.initialized RX3, Cond.code yX3_tapAt cX3_tapAt 2 (some (.object "DripSayings$Tap")), Cond.fieldLink RX3 27 "DripSayings$Room" "tapCount" "I", Cond.fieldLink RX3 11 "DripSayings$Room" "taps" "[LDripSayings$Tap;", Cond.methodLink RX6 124 yX3_addNote, Cond.instanceMethod yX3_addNote, Cond.selects RX3 yX3_addNote yX3_addNote, Cond.code yX3_addNote cX3_addNote 5 none, Cond.fieldLink RX3 31 "DripSayings$Room" "noteCount" "I", Cond.fieldLink RX3 49 "DripSayings$Tap" "number" "I", Cond.fieldLink RX3 52 "DripSayings$Tap" "washer" "I", Cond.methodLink RX3 45 yX3_noteAt, Cond.instanceMethod yX3_noteAt, Cond.selects RX3 yX3_noteAt yX3_noteAt, Cond.code yX3_noteAt cX3_noteAt 2 (some (.object "DripSayings$Note")), Cond.fieldLink RX3 22 "DripSayings$Room" "notes" "[LDripSayings$Note;", Cond.methodLink RX3 55 yX0_become, Cond.instanceMethod yX0_become, Cond.selects RX0 yX0_become yX0_become]
def wsX6_put_r2 : List Cond := [Cond.initialized RX0, Cond.code yX0_become cX0_become 5 none, Cond.fieldLink RX0 7 "DripSayings$Note" "tap" "I", Cond.fieldLink RX0 13 "DripSayings$Note" "drip" "I", Cond.fieldLink RX0 16 "DripSayings$Note" "beat" "I", Cond.fieldLink RX0 19 "DripSayings$Note" "washer" "I"]
def wsX6_put : List Cond := .code yX6_put cX6_put 5 (some .int) :: ((wsX6_put_r1 ++ wsX6_put_r2) ++ wsX60 ++ wsX30 ++ wsX50 ++ wsX00)
def wsX6_forget : List Cond := .code yX6_forget cX6_forget 2 (some .int) :: ([.fieldLink RX6 26 "DripSayings" "room" "LDripSayings$Room;", .fieldLink RX6 121 "DripSayings$Room" "noteCount" "I"] ++ wsX60 ++ wsX30)
def wsX6_nextSeed : List Cond := .code yX6_nextSeed cX6_nextSeed 1 (some .int) :: ([.constantLong RX6 218 (1103515245), .constantLong RX6 220 (12345), .constantLong RX6 222 (2147483648)])
def wsX6_drawOf : List Cond := .code yX6_drawOf cX6_drawOf 1 (some .int) :: ([.constant RX6 224 (65536)])
def wsX6_nights_r1 : List Cond := [Cond.fieldLink RX6 57 "DripSayings" "hasHouse" "Z", Cond.fieldLink RX6 26 "DripSayings" "room" "LDripSayings$Room;", Cond.fieldLink RX6 67 "DripSayings$Room" "tapCount" "I", Cond.fieldLink RX6 105 "DripSayings$Tap" "place" "I", Cond.methodLink RX6 89 yX3_tapAt, Cond.instanceMethod yX3_tapAt, Cond.selects RX3 yX3_tapAt yX3_tapAt, Cond.initialized RX3, Cond.code yX3_tapAt cX3_tapAt 2 (some (.object "DripSayings$Tap")), Cond.fieldLink RX3 27 "DripSayings$Room" "tapCount" "I", Cond.fieldLink RX3 11 "DripSayings$Room" "taps" "[LDripSayings$Tap;", Cond.methodLink RX6 128 yX6_nextSeed, Cond.static yX6_nextSeed, Cond.initialized RX6, Cond.code yX6_nextSeed cX6_nextSeed 1 (some .int), Cond.constantLong RX6 218 (1103515245), Cond.constantLong RX6 220 (12345), Cond.constantLong RX6 222 (2147483648), Cond.methodLink RX6 131 yX6_drawOf, Cond.static yX6_drawOf, Cond.code yX6_drawOf cX6_drawOf 1 (some .int), Cond.constant RX6 224 (65536), Cond.methodLink RX6 102 yX6_dripOf, Cond.instanceMethod yX6_dripOf]
def wsX6_nights_r2 : List Cond := [Cond.selects RX6 yX6_dripOf yX6_dripOf, Cond.code yX6_dripOf cX6_dripOf 3 (some .int), Cond.fieldLink RX6 19 "DripSayings" "sayings" "LDripSayings$Sayings;", Cond.fieldLink RX6 97 "DripSayings$Tap" "kind" "I", Cond.fieldLink RX6 114 "DripSayings$Tap" "saying" "I", Cond.fieldLink RX6 111 "DripSayings$Tap" "washer" "I", Cond.methodLink RX6 162 yX4_dripBy, Cond.instanceMethod yX4_dripBy, Cond.selects RX4 yX4_dripBy yX4_dripBy, Cond.initialized RX4, Cond.code yX4_dripBy cX4_dripBy 8 (some .int), Cond.methodLink RX4 18 yX4_lengthOf, Cond.instanceMethod yX4_lengthOf, Cond.selects RX4 yX4_lengthOf yX4_lengthOf, Cond.code yX4_lengthOf cX4_lengthOf 2 (some .int), Cond.fieldLink RX4 15 "DripSayings$Sayings" "lengths" "[I", Cond.methodLink RX4 22 yX4_beatOf, Cond.instanceMethod yX4_beatOf, Cond.selects RX4 yX4_beatOf yX4_beatOf, Cond.code yX4_beatOf cX4_beatOf 4 (some .int), Cond.fieldLink RX4 9 "DripSayings$Sayings" "beats" "[I"]
def wsX6_nights : List Cond := .code yX6_nights cX6_nights 11 (some .int) :: ((wsX6_nights_r1 ++ wsX6_nights_r2) ++ wsX60 ++ wsX30 ++ wsX50 ++ wsX40)
def wsX6_image_r1 : List Cond := [Cond.fieldLink RX6 57 "DripSayings" "hasHouse" "Z", Cond.fieldLink RX6 30 "DripSayings" "kept" "LDripSayings$Room;", Cond.fieldLink RX6 26 "DripSayings" "room" "LDripSayings$Room;", Cond.fieldLink RX6 61 "DripSayings" "hasImage" "Z", Cond.fieldLink RX6 108 "DripSayings$Room" "changes" "I", Cond.methodLink RX6 134 yX3_copyFrom, Cond.instanceMethod yX3_copyFrom, Cond.selects RX3 yX3_copyFrom yX3_copyFrom, Cond.initialized RX3, Cond.code yX3_copyFrom cX3_copyFrom 5 none, Cond.fieldLink RX3 27 "DripSayings$Room" "tapCount" "I", Cond.fieldLink RX3 31 "DripSayings$Room" "noteCount" "I", Cond.fieldLink RX3 34 "DripSayings$Room" "changes" "I", Cond.fieldLink RX3 56 "DripSayings$Tap" "kind" "I", Cond.fieldLink RX3 59 "DripSayings$Tap" "saying" "I", Cond.fieldLink RX3 52 "DripSayings$Tap" "washer" "I", Cond.fieldLink RX3 62 "DripSayings$Tap" "place" "I", Cond.fieldLink RX3 65 "DripSayings$Note" "tap" "I", Cond.fieldLink RX3 68 "DripSayings$Note" "drip" "I", Cond.fieldLink RX3 71 "DripSayings$Note" "beat" "I", Cond.fieldLink RX3 74 "DripSayings$Note" "washer" "I", Cond.methodLink RX3 37 yX3_tapAt, Cond.instanceMethod yX3_tapAt, Cond.selects RX3 yX3_tapAt yX3_tapAt]
def wsX6_image_r2 : List Cond := [Cond.code yX3_tapAt cX3_tapAt 2 (some (.object "DripSayings$Tap")), Cond.fieldLink RX3 11 "DripSayings$Room" "taps" "[LDripSayings$Tap;", Cond.methodLink RX3 41 yX5_become, Cond.instanceMethod yX5_become, Cond.selects RX5 yX5_become yX5_become, Cond.initialized RX5, Cond.code yX5_become cX5_become 5 none, Cond.fieldLink RX5 13 "DripSayings$Tap" "kind" "I", Cond.fieldLink RX5 16 "DripSayings$Tap" "saying" "I", Cond.fieldLink RX5 19 "DripSayings$Tap" "washer" "I", Cond.fieldLink RX5 22 "DripSayings$Tap" "place" "I", Cond.methodLink RX3 45 yX3_noteAt, Cond.instanceMethod yX3_noteAt, Cond.selects RX3 yX3_noteAt yX3_noteAt, Cond.code yX3_noteAt cX3_noteAt 2 (some (.object "DripSayings$Note")), Cond.fieldLink RX3 22 "DripSayings$Room" "notes" "[LDripSayings$Note;", Cond.methodLink RX3 55 yX0_become, Cond.instanceMethod yX0_become, Cond.selects RX0 yX0_become yX0_become, Cond.initialized RX0, Cond.code yX0_become cX0_become 5 none, Cond.fieldLink RX0 7 "DripSayings$Note" "tap" "I", Cond.fieldLink RX0 13 "DripSayings$Note" "drip" "I", Cond.fieldLink RX0 16 "DripSayings$Note" "beat" "I"]
def wsX6_image_r3 : List Cond := [Cond.fieldLink RX0 19 "DripSayings$Note" "washer" "I"]
def wsX6_image : List Cond := .code yX6_image cX6_image 1 (some .int) :: ((wsX6_image_r1 ++ (wsX6_image_r2 ++ wsX6_image_r3)) ++ wsX60 ++ wsX30 ++ wsX50 ++ wsX00)
def wsX6_restore_r1 : List Cond := [Cond.fieldLink RX6 61 "DripSayings" "hasImage" "Z", Cond.fieldLink RX6 26 "DripSayings" "room" "LDripSayings$Room;", Cond.fieldLink RX6 30 "DripSayings" "kept" "LDripSayings$Room;", Cond.fieldLink RX6 108 "DripSayings$Room" "changes" "I", Cond.methodLink RX6 134 yX3_copyFrom, Cond.instanceMethod yX3_copyFrom, Cond.selects RX3 yX3_copyFrom yX3_copyFrom, Cond.initialized RX3, Cond.code yX3_copyFrom cX3_copyFrom 5 none, Cond.fieldLink RX3 27 "DripSayings$Room" "tapCount" "I", Cond.fieldLink RX3 31 "DripSayings$Room" "noteCount" "I", Cond.fieldLink RX3 34 "DripSayings$Room" "changes" "I", Cond.fieldLink RX3 56 "DripSayings$Tap" "kind" "I", Cond.fieldLink RX3 59 "DripSayings$Tap" "saying" "I", Cond.fieldLink RX3 52 "DripSayings$Tap" "washer" "I", Cond.fieldLink RX3 62 "DripSayings$Tap" "place" "I", Cond.fieldLink RX3 65 "DripSayings$Note" "tap" "I", Cond.fieldLink RX3 68 "DripSayings$Note" "drip" "I", Cond.fieldLink RX3 71 "DripSayings$Note" "beat" "I", Cond.fieldLink RX3 74 "DripSayings$Note" "washer" "I", Cond.methodLink RX3 37 yX3_tapAt, Cond.instanceMethod yX3_tapAt, Cond.selects RX3 yX3_tapAt yX3_tapAt, Cond.code yX3_tapAt cX3_tapAt 2 (some (.object "DripSayings$Tap"))]
def wsX6_restore_r2 : List Cond := [Cond.fieldLink RX3 11 "DripSayings$Room" "taps" "[LDripSayings$Tap;", Cond.methodLink RX3 41 yX5_become, Cond.instanceMethod yX5_become, Cond.selects RX5 yX5_become yX5_become, Cond.initialized RX5, Cond.code yX5_become cX5_become 5 none, Cond.fieldLink RX5 13 "DripSayings$Tap" "kind" "I", Cond.fieldLink RX5 16 "DripSayings$Tap" "saying" "I", Cond.fieldLink RX5 19 "DripSayings$Tap" "washer" "I", Cond.fieldLink RX5 22 "DripSayings$Tap" "place" "I", Cond.methodLink RX3 45 yX3_noteAt, Cond.instanceMethod yX3_noteAt, Cond.selects RX3 yX3_noteAt yX3_noteAt, Cond.code yX3_noteAt cX3_noteAt 2 (some (.object "DripSayings$Note")), Cond.fieldLink RX3 22 "DripSayings$Room" "notes" "[LDripSayings$Note;", Cond.methodLink RX3 55 yX0_become, Cond.instanceMethod yX0_become, Cond.selects RX0 yX0_become yX0_become, Cond.initialized RX0, Cond.code yX0_become cX0_become 5 none, Cond.fieldLink RX0 7 "DripSayings$Note" "tap" "I", Cond.fieldLink RX0 13 "DripSayings$Note" "drip" "I", Cond.fieldLink RX0 16 "DripSayings$Note" "beat" "I", Cond.fieldLink RX0 19 "DripSayings$Note" "washer" "I"]
def wsX6_restore : List Cond := .code yX6_restore cX6_restore 1 (some .int) :: ((wsX6_restore_r1 ++ wsX6_restore_r2) ++ wsX60 ++ wsX30 ++ wsX50 ++ wsX00)
def wsX6_countOf_r1 : List Cond := [Cond.fieldLink RX6 26 "DripSayings" "room" "LDripSayings$Room;", Cond.fieldLink RX6 67 "DripSayings$Room" "tapCount" "I", Cond.fieldLink RX6 19 "DripSayings" "sayings" "LDripSayings$Sayings;", Cond.fieldLink RX6 108 "DripSayings$Room" "changes" "I", Cond.fieldLink RX6 121 "DripSayings$Room" "noteCount" "I", Cond.fieldLink RX6 10 "DripSayings" "page" "LDripSayings$Page;", Cond.fieldLink RX6 33 "DripSayings$Page" "size" "I", Cond.fieldLink RX6 64 "DripSayings" "housesRead" "I", Cond.methodLink RX6 225 yX4_beatCount, Cond.instanceMethod yX4_beatCount, Cond.selects RX4 yX4_beatCount yX4_beatCount, Cond.initialized RX4, Cond.code yX4_beatCount cX4_beatCount 3 (some .int), Cond.fieldLink RX4 15 "DripSayings$Sayings" "lengths" "[I", Cond.methodLink RX6 228 yX3_washerCount, Cond.instanceMethod yX3_washerCount, Cond.selects RX3 yX3_washerCount yX3_washerCount, Cond.initialized RX3, Cond.code yX3_washerCount cX3_washerCount 4 (some .int), Cond.fieldLink RX3 27 "DripSayings$Room" "tapCount" "I", Cond.fieldLink RX3 52 "DripSayings$Tap" "washer" "I", Cond.methodLink RX3 37 yX3_tapAt, Cond.instanceMethod yX3_tapAt, Cond.selects RX3 yX3_tapAt yX3_tapAt]
def wsX6_countOf_r2 : List Cond := [Cond.code yX3_tapAt cX3_tapAt 2 (some (.object "DripSayings$Tap")), Cond.fieldLink RX3 11 "DripSayings$Room" "taps" "[LDripSayings$Tap;", Cond.methodLink RX6 231 yX3_heardCount, Cond.instanceMethod yX3_heardCount, Cond.selects RX3 yX3_heardCount yX3_heardCount, Cond.code yX3_heardCount cX3_heardCount 4 (some .int), Cond.fieldLink RX3 62 "DripSayings$Tap" "place" "I"]
def wsX6_countOf : List Cond := .code yX6_countOf cX6_countOf 2 (some .int) :: ((wsX6_countOf_r1 ++ wsX6_countOf_r2) ++ wsX60 ++ wsX30 ++ wsX10 ++ wsX40 ++ wsX50)
def wsX6_count_r1 : List Cond := [Cond.methodLink RX6 138 yX6_countOf, Cond.instanceMethod yX6_countOf, Cond.selects RX6 yX6_countOf yX6_countOf, Cond.initialized RX6, Cond.code yX6_countOf cX6_countOf 2 (some .int), Cond.fieldLink RX6 26 "DripSayings" "room" "LDripSayings$Room;", Cond.fieldLink RX6 67 "DripSayings$Room" "tapCount" "I", Cond.fieldLink RX6 19 "DripSayings" "sayings" "LDripSayings$Sayings;", Cond.fieldLink RX6 108 "DripSayings$Room" "changes" "I", Cond.fieldLink RX6 121 "DripSayings$Room" "noteCount" "I", Cond.fieldLink RX6 10 "DripSayings" "page" "LDripSayings$Page;", Cond.fieldLink RX6 33 "DripSayings$Page" "size" "I", Cond.fieldLink RX6 64 "DripSayings" "housesRead" "I", Cond.methodLink RX6 225 yX4_beatCount, Cond.instanceMethod yX4_beatCount, Cond.selects RX4 yX4_beatCount yX4_beatCount, Cond.initialized RX4, Cond.code yX4_beatCount cX4_beatCount 3 (some .int), Cond.fieldLink RX4 15 "DripSayings$Sayings" "lengths" "[I", Cond.methodLink RX6 228 yX3_washerCount, Cond.instanceMethod yX3_washerCount, Cond.selects RX3 yX3_washerCount yX3_washerCount, Cond.initialized RX3, Cond.code yX3_washerCount cX3_washerCount 4 (some .int)]
def wsX6_count_r2 : List Cond := [Cond.fieldLink RX3 27 "DripSayings$Room" "tapCount" "I", Cond.fieldLink RX3 52 "DripSayings$Tap" "washer" "I", Cond.methodLink RX3 37 yX3_tapAt, Cond.instanceMethod yX3_tapAt, Cond.selects RX3 yX3_tapAt yX3_tapAt, Cond.code yX3_tapAt cX3_tapAt 2 (some (.object "DripSayings$Tap")), Cond.fieldLink RX3 11 "DripSayings$Room" "taps" "[LDripSayings$Tap;", Cond.methodLink RX6 231 yX3_heardCount, Cond.instanceMethod yX3_heardCount, Cond.selects RX3 yX3_heardCount yX3_heardCount, Cond.code yX3_heardCount cX3_heardCount 4 (some .int), Cond.fieldLink RX3 62 "DripSayings$Tap" "place" "I"]
def wsX6_count : List Cond := .code yX6_count cX6_count 2 (some .int) :: ((wsX6_count_r1 ++ wsX6_count_r2) ++ wsX60 ++ wsX30 ++ wsX10 ++ wsX40 ++ wsX50)
def wsX6_digestSayings : List Cond := .code yX6_digestSayings cX6_digestSayings 7 (some .long) :: ([.constantLong RX6 151 (31), .fieldLink RX6 19 "DripSayings" "sayings" "LDripSayings$Sayings;", .methodLink RX6 74 yX4_lengthOf, .instanceMethod yX4_lengthOf, .selects RX4 yX4_lengthOf yX4_lengthOf, .initialized RX4, .code yX4_lengthOf cX4_lengthOf 2 (some .int), .fieldLink RX4 15 "DripSayings$Sayings" "lengths" "[I", .methodLink RX6 78 yX4_beatOf, .instanceMethod yX4_beatOf, .selects RX4 yX4_beatOf yX4_beatOf, .code yX4_beatOf cX4_beatOf 4 (some .int), .fieldLink RX4 9 "DripSayings$Sayings" "beats" "[I"] ++ wsX60 ++ wsX40)
def wsX6_digestTap_r1 : List Cond := [Cond.constantLong RX6 151 (31), Cond.methodLink RX6 93 yX6_aboutOf, Cond.instanceMethod yX6_aboutOf, Cond.selects RX6 yX6_aboutOf yX6_aboutOf, Cond.initialized RX6, Cond.code yX6_aboutOf cX6_aboutOf 3 (some .int), Cond.fieldLink RX6 97 "DripSayings$Tap" "kind" "I", Cond.fieldLink RX6 114 "DripSayings$Tap" "saying" "I", Cond.fieldLink RX6 111 "DripSayings$Tap" "washer" "I", Cond.fieldLink RX6 105 "DripSayings$Tap" "place" "I", Cond.methodLink RX6 166 yX6_sureOf, Cond.instanceMethod yX6_sureOf, Cond.selects RX6 yX6_sureOf yX6_sureOf, Cond.code yX6_sureOf cX6_sureOf 6 (some .int), Cond.methodLink RX6 185 Lib.Math.max.name, Cond.static Lib.Math.max.name, Cond.initialized "java/lang/Math", Cond.code Lib.Math.max.name Lib.Math.max.code 2 (some .int), Cond.methodLink RX6 182 yX6_enoughToTell, Cond.instanceMethod yX6_enoughToTell, Cond.selects RX6 yX6_enoughToTell yX6_enoughToTell, Cond.code yX6_enoughToTell cX6_enoughToTell 7 (some .int), Cond.fieldLink RX6 19 "DripSayings" "sayings" "LDripSayings$Sayings;", Cond.methodLink RX6 162 yX4_dripBy]
def wsX6_digestTap_r2 : List Cond := [Cond.instanceMethod yX4_dripBy, Cond.selects RX4 yX4_dripBy yX4_dripBy, Cond.initialized RX4, Cond.code yX4_dripBy cX4_dripBy 8 (some .int), Cond.methodLink RX4 18 yX4_lengthOf, Cond.instanceMethod yX4_lengthOf, Cond.selects RX4 yX4_lengthOf yX4_lengthOf, Cond.code yX4_lengthOf cX4_lengthOf 2 (some .int), Cond.fieldLink RX4 15 "DripSayings$Sayings" "lengths" "[I", Cond.methodLink RX4 22 yX4_beatOf, Cond.instanceMethod yX4_beatOf, Cond.selects RX4 yX4_beatOf yX4_beatOf, Cond.code yX4_beatOf cX4_beatOf 4 (some .int), Cond.fieldLink RX4 9 "DripSayings$Sayings" "beats" "[I", Cond.methodLink RX6 170 yX6_saysOf, Cond.instanceMethod yX6_saysOf, Cond.selects RX6 yX6_saysOf yX6_saysOf, Cond.code yX6_saysOf cX6_saysOf 4 (some .int), Cond.methodLink RX6 176 yX6_slipsOf, Cond.instanceMethod yX6_slipsOf, Cond.selects RX6 yX6_slipsOf yX6_slipsOf, Cond.code yX6_slipsOf cX6_slipsOf 6 (some .int), Cond.fieldLink RX6 26 "DripSayings" "room" "LDripSayings$Room;", Cond.fieldLink RX6 121 "DripSayings$Room" "noteCount" "I"]
def wsX6_digestTap_r3 : List Cond := [Cond.fieldLink RX6 194 "DripSayings$Note" "tap" "I", Cond.fieldLink RX6 199 "DripSayings$Tap" "number" "I", Cond.fieldLink RX6 202 "DripSayings$Note" "washer" "I", Cond.fieldLink RX6 203 "DripSayings$Note" "drip" "I", Cond.fieldLink RX6 206 "DripSayings$Note" "beat" "I", Cond.methodLink RX6 190 yX3_noteAt, Cond.instanceMethod yX3_noteAt, Cond.selects RX3 yX3_noteAt yX3_noteAt, Cond.initialized RX3, Cond.code yX3_noteAt cX3_noteAt 2 (some (.object "DripSayings$Note")), Cond.fieldLink RX3 31 "DripSayings$Room" "noteCount" "I", Cond.fieldLink RX3 22 "DripSayings$Room" "notes" "[LDripSayings$Note;", Cond.methodLink RX6 173 yX6_likelyOf, Cond.instanceMethod yX6_likelyOf, Cond.selects RX6 yX6_likelyOf yX6_likelyOf, Cond.code yX6_likelyOf cX6_likelyOf 4 (some .int), Cond.methodLink RX6 179 yX6_bestToHear, Cond.instanceMethod yX6_bestToHear, Cond.selects RX6 yX6_bestToHear yX6_bestToHear, Cond.code yX6_bestToHear cX6_bestToHear 5 (some .int), Cond.methodLink RX6 209 yX6_leftAtWorst, Cond.instanceMethod yX6_leftAtWorst, Cond.selects RX6 yX6_leftAtWorst yX6_leftAtWorst, Cond.code yX6_leftAtWorst cX6_leftAtWorst 7 (some .int)]
def wsX6_digestTap_r4 : List Cond := [Cond.methodLink RX6 102 yX6_dripOf, Cond.instanceMethod yX6_dripOf, Cond.selects RX6 yX6_dripOf yX6_dripOf, Cond.code yX6_dripOf cX6_dripOf 3 (some .int), Cond.methodLink RX6 117 yX6_nearOf, Cond.instanceMethod yX6_nearOf, Cond.selects RX6 yX6_nearOf yX6_nearOf, Cond.code yX6_nearOf cX6_nearOf 6 (some .int), Cond.methodLink RX6 215 Lib.Math.min.name, Cond.static Lib.Math.min.name, Cond.code Lib.Math.min.name Lib.Math.min.code 2 (some .int), Cond.methodLink RX6 212 yX6_unlikeOf, Cond.instanceMethod yX6_unlikeOf, Cond.selects RX6 yX6_unlikeOf yX6_unlikeOf, Cond.code yX6_unlikeOf cX6_unlikeOf 7 (some .int)]
def wsX6_digestTap : List Cond := .code yX6_digestTap cX6_digestTap 8 (some .long) :: ((wsX6_digestTap_r1 ++ (wsX6_digestTap_r2 ++ (wsX6_digestTap_r3 ++ wsX6_digestTap_r4))) ++ wsX50 ++ wsX60 ++ wsX40 ++ wsX30 ++ wsX00)
def wsX6_digest_r1 : List Cond := [Cond.constantLong RX6 141 (1061), Cond.fieldLink RX6 57 "DripSayings" "hasHouse" "Z", Cond.fieldLink RX6 26 "DripSayings" "room" "LDripSayings$Room;", Cond.fieldLink RX6 67 "DripSayings$Room" "tapCount" "I", Cond.fieldLink RX6 10 "DripSayings" "page" "LDripSayings$Page;", Cond.fieldLink RX6 33 "DripSayings$Page" "size" "I", Cond.constantLong RX6 151 (31), Cond.methodLink RX6 143 yX6_digestSayings, Cond.instanceMethod yX6_digestSayings, Cond.selects RX6 yX6_digestSayings yX6_digestSayings, Cond.initialized RX6, Cond.code yX6_digestSayings cX6_digestSayings 7 (some .long), Cond.fieldLink RX6 19 "DripSayings" "sayings" "LDripSayings$Sayings;", Cond.methodLink RX6 74 yX4_lengthOf, Cond.instanceMethod yX4_lengthOf, Cond.selects RX4 yX4_lengthOf yX4_lengthOf, Cond.initialized RX4, Cond.code yX4_lengthOf cX4_lengthOf 2 (some .int), Cond.fieldLink RX4 15 "DripSayings$Sayings" "lengths" "[I", Cond.methodLink RX6 78 yX4_beatOf, Cond.instanceMethod yX4_beatOf, Cond.selects RX4 yX4_beatOf yX4_beatOf, Cond.code yX4_beatOf cX4_beatOf 4 (some .int), Cond.fieldLink RX4 9 "DripSayings$Sayings" "beats" "[I"]
def wsX6_digest_r2 : List Cond := [Cond.methodLink RX6 89 yX3_tapAt, Cond.instanceMethod yX3_tapAt, Cond.selects RX3 yX3_tapAt yX3_tapAt, Cond.initialized RX3, Cond.code yX3_tapAt cX3_tapAt 2 (some (.object "DripSayings$Tap")), Cond.fieldLink RX3 27 "DripSayings$Room" "tapCount" "I", Cond.fieldLink RX3 11 "DripSayings$Room" "taps" "[LDripSayings$Tap;", Cond.methodLink RX6 147 yX6_digestTap, Cond.instanceMethod yX6_digestTap, Cond.selects RX6 yX6_digestTap yX6_digestTap, Cond.code yX6_digestTap cX6_digestTap 8 (some .long), Cond.methodLink RX6 93 yX6_aboutOf, Cond.instanceMethod yX6_aboutOf, Cond.selects RX6 yX6_aboutOf yX6_aboutOf, Cond.code yX6_aboutOf cX6_aboutOf 3 (some .int), Cond.fieldLink RX6 97 "DripSayings$Tap" "kind" "I", Cond.fieldLink RX6 114 "DripSayings$Tap" "saying" "I", Cond.fieldLink RX6 111 "DripSayings$Tap" "washer" "I", Cond.fieldLink RX6 105 "DripSayings$Tap" "place" "I", Cond.methodLink RX6 166 yX6_sureOf, Cond.instanceMethod yX6_sureOf, Cond.selects RX6 yX6_sureOf yX6_sureOf, Cond.code yX6_sureOf cX6_sureOf 6 (some .int), Cond.methodLink RX6 185 Lib.Math.max.name]
def wsX6_digest_r3 : List Cond := [Cond.static Lib.Math.max.name, Cond.initialized "java/lang/Math", Cond.code Lib.Math.max.name Lib.Math.max.code 2 (some .int), Cond.methodLink RX6 182 yX6_enoughToTell, Cond.instanceMethod yX6_enoughToTell, Cond.selects RX6 yX6_enoughToTell yX6_enoughToTell, Cond.code yX6_enoughToTell cX6_enoughToTell 7 (some .int), Cond.methodLink RX6 162 yX4_dripBy, Cond.instanceMethod yX4_dripBy, Cond.selects RX4 yX4_dripBy yX4_dripBy, Cond.code yX4_dripBy cX4_dripBy 8 (some .int), Cond.methodLink RX4 18 yX4_lengthOf, Cond.methodLink RX4 22 yX4_beatOf, Cond.methodLink RX6 170 yX6_saysOf, Cond.instanceMethod yX6_saysOf, Cond.selects RX6 yX6_saysOf yX6_saysOf, Cond.code yX6_saysOf cX6_saysOf 4 (some .int), Cond.methodLink RX6 176 yX6_slipsOf, Cond.instanceMethod yX6_slipsOf, Cond.selects RX6 yX6_slipsOf yX6_slipsOf, Cond.code yX6_slipsOf cX6_slipsOf 6 (some .int), Cond.fieldLink RX6 121 "DripSayings$Room" "noteCount" "I", Cond.fieldLink RX6 194 "DripSayings$Note" "tap" "I", Cond.fieldLink RX6 199 "DripSayings$Tap" "number" "I"]
def wsX6_digest_r4 : List Cond := [Cond.fieldLink RX6 202 "DripSayings$Note" "washer" "I", Cond.fieldLink RX6 203 "DripSayings$Note" "drip" "I", Cond.fieldLink RX6 206 "DripSayings$Note" "beat" "I", Cond.methodLink RX6 190 yX3_noteAt, Cond.instanceMethod yX3_noteAt, Cond.selects RX3 yX3_noteAt yX3_noteAt, Cond.code yX3_noteAt cX3_noteAt 2 (some (.object "DripSayings$Note")), Cond.fieldLink RX3 31 "DripSayings$Room" "noteCount" "I", Cond.fieldLink RX3 22 "DripSayings$Room" "notes" "[LDripSayings$Note;", Cond.methodLink RX6 173 yX6_likelyOf, Cond.instanceMethod yX6_likelyOf, Cond.selects RX6 yX6_likelyOf yX6_likelyOf, Cond.code yX6_likelyOf cX6_likelyOf 4 (some .int), Cond.methodLink RX6 179 yX6_bestToHear, Cond.instanceMethod yX6_bestToHear, Cond.selects RX6 yX6_bestToHear yX6_bestToHear, Cond.code yX6_bestToHear cX6_bestToHear 5 (some .int), Cond.methodLink RX6 209 yX6_leftAtWorst, Cond.instanceMethod yX6_leftAtWorst, Cond.selects RX6 yX6_leftAtWorst yX6_leftAtWorst, Cond.code yX6_leftAtWorst cX6_leftAtWorst 7 (some .int), Cond.methodLink RX6 102 yX6_dripOf, Cond.instanceMethod yX6_dripOf, Cond.selects RX6 yX6_dripOf yX6_dripOf]
def wsX6_digest_r5 : List Cond := [Cond.code yX6_dripOf cX6_dripOf 3 (some .int), Cond.methodLink RX6 117 yX6_nearOf, Cond.instanceMethod yX6_nearOf, Cond.selects RX6 yX6_nearOf yX6_nearOf, Cond.code yX6_nearOf cX6_nearOf 6 (some .int), Cond.methodLink RX6 215 Lib.Math.min.name, Cond.static Lib.Math.min.name, Cond.code Lib.Math.min.name Lib.Math.min.code 2 (some .int), Cond.methodLink RX6 212 yX6_unlikeOf, Cond.instanceMethod yX6_unlikeOf, Cond.selects RX6 yX6_unlikeOf yX6_unlikeOf, Cond.code yX6_unlikeOf cX6_unlikeOf 7 (some .int), Cond.methodLink RX6 153 yX1_codeAt, Cond.instanceMethod yX1_codeAt, Cond.selects RX1 yX1_codeAt yX1_codeAt, Cond.initialized RX1, Cond.code yX1_codeAt cX1_codeAt 2 (some .int), Cond.fieldLink RX1 22 "DripSayings$Page" "size" "I", Cond.fieldLink RX1 9 "DripSayings$Page" "codes" "[I", Cond.methodLink RX6 138 yX6_countOf, Cond.instanceMethod yX6_countOf, Cond.selects RX6 yX6_countOf yX6_countOf, Cond.code yX6_countOf cX6_countOf 2 (some .int), Cond.fieldLink RX6 108 "DripSayings$Room" "changes" "I"]
def wsX6_digest_r6 : List Cond := [Cond.fieldLink RX6 64 "DripSayings" "housesRead" "I", Cond.methodLink RX6 225 yX4_beatCount, Cond.instanceMethod yX4_beatCount, Cond.selects RX4 yX4_beatCount yX4_beatCount, Cond.code yX4_beatCount cX4_beatCount 3 (some .int), Cond.methodLink RX6 228 yX3_washerCount, Cond.instanceMethod yX3_washerCount, Cond.selects RX3 yX3_washerCount yX3_washerCount, Cond.code yX3_washerCount cX3_washerCount 4 (some .int), Cond.fieldLink RX3 52 "DripSayings$Tap" "washer" "I", Cond.methodLink RX3 37 yX3_tapAt, Cond.methodLink RX6 231 yX3_heardCount, Cond.instanceMethod yX3_heardCount, Cond.selects RX3 yX3_heardCount yX3_heardCount, Cond.code yX3_heardCount cX3_heardCount 4 (some .int), Cond.fieldLink RX3 62 "DripSayings$Tap" "place" "I"]
def wsX6_digest : List Cond := .code yX6_digest cX6_digest 5 (some .long) :: ((wsX6_digest_r1 ++ (wsX6_digest_r2 ++ (wsX6_digest_r3 ++ (wsX6_digest_r4 ++ (wsX6_digest_r5 ++ wsX6_digest_r6))))) ++ wsX60 ++ wsX30 ++ wsX10 ++ wsX40 ++ wsX50 ++ wsX00)
def wsX7_init : List Cond := .code yX7_init cX7_init 1 none :: ([.methodLink RX7 1 objectInit, .instanceMethod objectInit, .code objectInit ⟨#[0xb1]⟩ 1 none, .arrayClass .int, .fieldLink RX7 7 "DripSayingsModel" "page" "[I", .fieldLink RX7 13 "DripSayingsModel" "readBeats" "[I", .fieldLink RX7 16 "DripSayingsModel" "readTaps" "[I", .fieldLink RX7 19 "DripSayingsModel" "beats" "[I", .fieldLink RX7 22 "DripSayingsModel" "rows" "[I", .fieldLink RX7 25 "DripSayingsModel" "puts" "[I", .fieldLink RX7 28 "DripSayingsModel" "keptRows" "[I", .fieldLink RX7 31 "DripSayingsModel" "keptPutRows" "[I", .fieldLink RX7 34 "DripSayingsModel" "keptHouse" "I"] ++ wsX70)
def wsX7_in : List Cond := .code yX7_in cX7_in 6 (some .boolean) :: ([])
def wsX7_copy : List Cond := .code yX7_copy cX7_copy 3 none :: ([])
def wsX7_letter : List Cond := .code yX7_letter cX7_letter 2 (some .int) :: ([.constantLong RX7 38 (126), .fieldLink RX7 44 "DripSayingsModel" "pageMany" "I", .fieldLink RX7 7 "DripSayingsModel" "page" "[I", .methodLink RX7 40 yX7_in, .static yX7_in, .initialized RX7, .code yX7_in cX7_in 6 (some .boolean)] ++ wsX70)
def wsX7_blank : List Cond := .code yX7_blank cX7_blank 2 (some .int) :: ([.fieldLink RX7 44 "DripSayingsModel" "pageMany" "I"] ++ wsX70)
def wsX7_kindBy : List Cond := .code yX7_kindBy cX7_kindBy 1 (some .int) :: ([])
def wsX7_goSaying : List Cond := .code yX7_goSaying cX7_goSaying 4 (some .boolean) :: ([.fieldLink RX7 47 "DripSayingsModel" "part" "I", .fieldLink RX7 13 "DripSayingsModel" "readBeats" "[I"] ++ wsX70)
def wsX7_goTap : List Cond := .code yX7_goTap cX7_goTap 3 (some .boolean) :: ([.fieldLink RX7 50 "DripSayingsModel" "step" "I", .fieldLink RX7 16 "DripSayingsModel" "readTaps" "[I", .fieldLink RX7 53 "DripSayingsModel" "readMany" "I", .constantLong RX7 60 (48), .constantLong RX7 62 (51), .methodLink RX7 56 yX7_kindBy, .static yX7_kindBy, .initialized RX7, .code yX7_kindBy cX7_kindBy 1 (some .int), .methodLink RX7 40 yX7_in, .static yX7_in, .code yX7_in cX7_in 6 (some .boolean)] ++ wsX70)
def wsX7_faultOf : List Cond := .code yX7_faultOf cX7_faultOf 2 (some .int) :: ([.fieldLink RX7 47 "DripSayingsModel" "part" "I", .fieldLink RX7 13 "DripSayingsModel" "readBeats" "[I", .fieldLink RX7 53 "DripSayingsModel" "readMany" "I", .fieldLink RX7 50 "DripSayingsModel" "step" "I", .fieldLink RX7 44 "DripSayingsModel" "pageMany" "I", .fieldLink RX7 7 "DripSayingsModel" "page" "[I", .methodLink RX7 64 yX7_goSaying, .instanceMethod yX7_goSaying, .selects RX7 yX7_goSaying yX7_goSaying, .initialized RX7, .code yX7_goSaying cX7_goSaying 4 (some .boolean), .methodLink RX7 68 yX7_goTap, .instanceMethod yX7_goTap, .selects RX7 yX7_goTap yX7_goTap, .code yX7_goTap cX7_goTap 3 (some .boolean), .fieldLink RX7 16 "DripSayingsModel" "readTaps" "[I", .constantLong RX7 60 (48), .constantLong RX7 62 (51), .methodLink RX7 56 yX7_kindBy, .static yX7_kindBy, .code yX7_kindBy cX7_kindBy 1 (some .int), .methodLink RX7 40 yX7_in, .static yX7_in, .code yX7_in cX7_in 6 (some .boolean)] ++ wsX70)
def wsX7_fault_r1 : List Cond := [Cond.methodLink RX7 71 yX7_faultOf, Cond.instanceMethod yX7_faultOf, Cond.selects RX7 yX7_faultOf yX7_faultOf, Cond.initialized RX7, Cond.code yX7_faultOf cX7_faultOf 2 (some .int), Cond.fieldLink RX7 47 "DripSayingsModel" "part" "I", Cond.fieldLink RX7 13 "DripSayingsModel" "readBeats" "[I", Cond.fieldLink RX7 53 "DripSayingsModel" "readMany" "I", Cond.fieldLink RX7 50 "DripSayingsModel" "step" "I", Cond.fieldLink RX7 44 "DripSayingsModel" "pageMany" "I", Cond.fieldLink RX7 7 "DripSayingsModel" "page" "[I", Cond.methodLink RX7 64 yX7_goSaying, Cond.instanceMethod yX7_goSaying, Cond.selects RX7 yX7_goSaying yX7_goSaying, Cond.code yX7_goSaying cX7_goSaying 4 (some .boolean), Cond.methodLink RX7 68 yX7_goTap, Cond.instanceMethod yX7_goTap, Cond.selects RX7 yX7_goTap yX7_goTap, Cond.code yX7_goTap cX7_goTap 3 (some .boolean), Cond.fieldLink RX7 16 "DripSayingsModel" "readTaps" "[I", Cond.constantLong RX7 60 (48), Cond.constantLong RX7 62 (51), Cond.methodLink RX7 56 yX7_kindBy, Cond.static yX7_kindBy]
def wsX7_fault_r2 : List Cond := [Cond.code yX7_kindBy cX7_kindBy 1 (some .int), Cond.methodLink RX7 40 yX7_in, Cond.static yX7_in, Cond.code yX7_in cX7_in 6 (some .boolean)]
def wsX7_fault : List Cond := .code yX7_fault cX7_fault 1 (some .int) :: ((wsX7_fault_r1 ++ wsX7_fault_r2) ++ wsX70)
def wsX7_house_r1 : List Cond := [Cond.fieldLink RX7 44 "DripSayingsModel" "pageMany" "I", Cond.fieldLink RX7 47 "DripSayingsModel" "part" "I", Cond.fieldLink RX7 50 "DripSayingsModel" "step" "I", Cond.fieldLink RX7 53 "DripSayingsModel" "readMany" "I", Cond.fieldLink RX7 75 "DripSayingsModel" "taps" "I", Cond.fieldLink RX7 13 "DripSayingsModel" "readBeats" "[I", Cond.fieldLink RX7 19 "DripSayingsModel" "beats" "[I", Cond.fieldLink RX7 22 "DripSayingsModel" "rows" "[I", Cond.fieldLink RX7 16 "DripSayingsModel" "readTaps" "[I", Cond.fieldLink RX7 82 "DripSayingsModel" "changes" "I", Cond.fieldLink RX7 85 "DripSayingsModel" "putMany" "I", Cond.fieldLink RX7 88 "DripSayingsModel" "housesRead" "I", Cond.methodLink RX7 71 yX7_faultOf, Cond.instanceMethod yX7_faultOf, Cond.selects RX7 yX7_faultOf yX7_faultOf, Cond.initialized RX7, Cond.code yX7_faultOf cX7_faultOf 2 (some .int), Cond.fieldLink RX7 7 "DripSayingsModel" "page" "[I", Cond.methodLink RX7 64 yX7_goSaying, Cond.instanceMethod yX7_goSaying, Cond.selects RX7 yX7_goSaying yX7_goSaying, Cond.code yX7_goSaying cX7_goSaying 4 (some .boolean), Cond.methodLink RX7 68 yX7_goTap, Cond.instanceMethod yX7_goTap]
def wsX7_house_r2 : List Cond := [Cond.selects RX7 yX7_goTap yX7_goTap, Cond.code yX7_goTap cX7_goTap 3 (some .boolean), Cond.constantLong RX7 60 (48), Cond.constantLong RX7 62 (51), Cond.methodLink RX7 56 yX7_kindBy, Cond.static yX7_kindBy, Cond.code yX7_kindBy cX7_kindBy 1 (some .int), Cond.methodLink RX7 40 yX7_in, Cond.static yX7_in, Cond.code yX7_in cX7_in 6 (some .boolean), Cond.methodLink RX7 78 yX7_copy, Cond.static yX7_copy, Cond.code yX7_copy cX7_copy 3 none]
def wsX7_house : List Cond := .code yX7_house cX7_house 2 (some .int) :: ((wsX7_house_r1 ++ wsX7_house_r2) ++ wsX70)
def wsX7_lacks : List Cond := .code yX7_lacks cX7_lacks 1 (some .boolean) :: ([.fieldLink RX7 75 "DripSayingsModel" "taps" "I"] ++ wsX70)
def wsX7_isTap : List Cond := .code yX7_isTap cX7_isTap 2 (some .boolean) :: ([.fieldLink RX7 75 "DripSayingsModel" "taps" "I", .methodLink RX7 40 yX7_in, .static yX7_in, .initialized RX7, .code yX7_in cX7_in 6 (some .boolean)] ++ wsX70)
def wsX7_isSaying : List Cond := .code yX7_isSaying cX7_isSaying 1 (some .boolean) :: ([.constantLong RX7 91 (3), .methodLink RX7 40 yX7_in, .static yX7_in, .initialized RX7, .code yX7_in cX7_in 6 (some .boolean)])
def wsX7_tellSaying : List Cond := .code yX7_tellSaying cX7_tellSaying 3 (some .int) :: ([.fieldLink RX7 19 "DripSayingsModel" "beats" "[I", .constantLong RX7 93 (10), .constantLong RX7 95 (13), .methodLink RX7 40 yX7_in, .static yX7_in, .initialized RX7, .code yX7_in cX7_in 6 (some .boolean)] ++ wsX70)
def wsX7_saying : List Cond := .code yX7_saying cX7_saying 3 (some .int) :: ([.methodLink RX7 97 yX7_lacks, .instanceMethod yX7_lacks, .selects RX7 yX7_lacks yX7_lacks, .initialized RX7, .code yX7_lacks cX7_lacks 1 (some .boolean), .fieldLink RX7 75 "DripSayingsModel" "taps" "I", .methodLink RX7 101 yX7_isSaying, .static yX7_isSaying, .code yX7_isSaying cX7_isSaying 1 (some .boolean), .constantLong RX7 91 (3), .methodLink RX7 40 yX7_in, .static yX7_in, .code yX7_in cX7_in 6 (some .boolean), .methodLink RX7 104 yX7_tellSaying, .instanceMethod yX7_tellSaying, .selects RX7 yX7_tellSaying yX7_tellSaying, .code yX7_tellSaying cX7_tellSaying 3 (some .int), .fieldLink RX7 19 "DripSayingsModel" "beats" "[I", .constantLong RX7 93 (10), .constantLong RX7 95 (13)] ++ wsX70)
def wsX7_dripBy : List Cond := .code yX7_dripBy cX7_dripBy 9 (some .int) :: ([.fieldLink RX7 19 "DripSayingsModel" "beats" "[I"] ++ wsX70)
def wsX7_dripAs : List Cond := .code yX7_dripAs cX7_dripAs 4 (some .int) :: ([.fieldLink RX7 22 "DripSayingsModel" "rows" "[I", .methodLink RX7 108 yX7_dripBy, .instanceMethod yX7_dripBy, .selects RX7 yX7_dripBy yX7_dripBy, .initialized RX7, .code yX7_dripBy cX7_dripBy 9 (some .int), .fieldLink RX7 19 "DripSayingsModel" "beats" "[I"] ++ wsX70)
def wsX7_dripOf : List Cond := .code yX7_dripOf cX7_dripOf 3 (some .int) :: ([.fieldLink RX7 22 "DripSayingsModel" "rows" "[I", .methodLink RX7 112 yX7_dripAs, .instanceMethod yX7_dripAs, .selects RX7 yX7_dripAs yX7_dripAs, .initialized RX7, .code yX7_dripAs cX7_dripAs 4 (some .int), .methodLink RX7 108 yX7_dripBy, .instanceMethod yX7_dripBy, .selects RX7 yX7_dripBy yX7_dripBy, .code yX7_dripBy cX7_dripBy 9 (some .int), .fieldLink RX7 19 "DripSayingsModel" "beats" "[I"] ++ wsX70)
def wsX7_tap : List Cond := .code yX7_tap cX7_tap 3 (some .int) :: ([.constantLong RX7 116 (4), .fieldLink RX7 75 "DripSayingsModel" "taps" "I", .fieldLink RX7 22 "DripSayingsModel" "rows" "[I", .methodLink RX7 40 yX7_in, .static yX7_in, .initialized RX7, .code yX7_in cX7_in 6 (some .boolean), .methodLink RX7 101 yX7_isSaying, .static yX7_isSaying, .code yX7_isSaying cX7_isSaying 1 (some .boolean), .constantLong RX7 91 (3), .methodLink RX7 97 yX7_lacks, .instanceMethod yX7_lacks, .selects RX7 yX7_lacks yX7_lacks, .code yX7_lacks cX7_lacks 1 (some .boolean)] ++ wsX70)
def wsX7_patternOf : List Cond := .code yX7_patternOf cX7_patternOf 6 (some .int) :: ([.fieldLink RX7 22 "DripSayingsModel" "rows" "[I", .methodLink RX7 112 yX7_dripAs, .instanceMethod yX7_dripAs, .selects RX7 yX7_dripAs yX7_dripAs, .initialized RX7, .code yX7_dripAs cX7_dripAs 4 (some .int), .methodLink RX7 108 yX7_dripBy, .instanceMethod yX7_dripBy, .selects RX7 yX7_dripBy yX7_dripBy, .code yX7_dripBy cX7_dripBy 9 (some .int), .fieldLink RX7 19 "DripSayingsModel" "beats" "[I"] ++ wsX70)
def wsX7_sureOf : List Cond := .code yX7_sureOf cX7_sureOf 6 (some .int) :: ([.methodLink RX7 118 yX7_patternOf, .instanceMethod yX7_patternOf, .selects RX7 yX7_patternOf yX7_patternOf, .initialized RX7, .code yX7_patternOf cX7_patternOf 6 (some .int), .fieldLink RX7 22 "DripSayingsModel" "rows" "[I", .methodLink RX7 112 yX7_dripAs, .instanceMethod yX7_dripAs, .selects RX7 yX7_dripAs yX7_dripAs, .code yX7_dripAs cX7_dripAs 4 (some .int), .methodLink RX7 108 yX7_dripBy, .instanceMethod yX7_dripBy, .selects RX7 yX7_dripBy yX7_dripBy, .code yX7_dripBy cX7_dripBy 9 (some .int), .fieldLink RX7 19 "DripSayingsModel" "beats" "[I"] ++ wsX70)
def wsX7_slipsBy : List Cond := .code yX7_slipsBy cX7_slipsBy 6 (some .int) :: ([.fieldLink RX7 85 "DripSayingsModel" "putMany" "I", .fieldLink RX7 22 "DripSayingsModel" "rows" "[I", .fieldLink RX7 25 "DripSayingsModel" "puts" "[I", .methodLink RX7 108 yX7_dripBy, .instanceMethod yX7_dripBy, .selects RX7 yX7_dripBy yX7_dripBy, .initialized RX7, .code yX7_dripBy cX7_dripBy 9 (some .int), .fieldLink RX7 19 "DripSayingsModel" "beats" "[I"] ++ wsX70)
def wsX7_saysOf : List Cond := .code yX7_saysOf cX7_saysOf 4 (some .int) :: ([.methodLink RX7 130 yX7_slipsBy, .instanceMethod yX7_slipsBy, .selects RX7 yX7_slipsBy yX7_slipsBy, .initialized RX7, .code yX7_slipsBy cX7_slipsBy 6 (some .int), .fieldLink RX7 85 "DripSayingsModel" "putMany" "I", .fieldLink RX7 22 "DripSayingsModel" "rows" "[I", .fieldLink RX7 25 "DripSayingsModel" "puts" "[I", .methodLink RX7 108 yX7_dripBy, .instanceMethod yX7_dripBy, .selects RX7 yX7_dripBy yX7_dripBy, .code yX7_dripBy cX7_dripBy 9 (some .int), .fieldLink RX7 19 "DripSayingsModel" "beats" "[I"] ++ wsX70)
def wsX7_likelyOf : List Cond := .code yX7_likelyOf cX7_likelyOf 4 (some .int) :: ([.methodLink RX7 130 yX7_slipsBy, .instanceMethod yX7_slipsBy, .selects RX7 yX7_slipsBy yX7_slipsBy, .initialized RX7, .code yX7_slipsBy cX7_slipsBy 6 (some .int), .fieldLink RX7 85 "DripSayingsModel" "putMany" "I", .fieldLink RX7 22 "DripSayingsModel" "rows" "[I", .fieldLink RX7 25 "DripSayingsModel" "puts" "[I", .methodLink RX7 108 yX7_dripBy, .instanceMethod yX7_dripBy, .selects RX7 yX7_dripBy yX7_dripBy, .code yX7_dripBy cX7_dripBy 9 (some .int), .fieldLink RX7 19 "DripSayingsModel" "beats" "[I"] ++ wsX70)
def wsX7_listenOf : List Cond := .code yX7_listenOf cX7_listenOf 10 (some .int) :: ([.fieldLink RX7 22 "DripSayingsModel" "rows" "[I", .methodLink RX7 124 yX7_saysOf, .instanceMethod yX7_saysOf, .selects RX7 yX7_saysOf yX7_saysOf, .initialized RX7, .code yX7_saysOf cX7_saysOf 4 (some .int), .methodLink RX7 130 yX7_slipsBy, .instanceMethod yX7_slipsBy, .selects RX7 yX7_slipsBy yX7_slipsBy, .code yX7_slipsBy cX7_slipsBy 6 (some .int), .fieldLink RX7 85 "DripSayingsModel" "putMany" "I", .fieldLink RX7 25 "DripSayingsModel" "puts" "[I", .methodLink RX7 108 yX7_dripBy, .instanceMethod yX7_dripBy, .selects RX7 yX7_dripBy yX7_dripBy, .code yX7_dripBy cX7_dripBy 9 (some .int), .fieldLink RX7 19 "DripSayingsModel" "beats" "[I", .methodLink RX7 112 yX7_dripAs, .instanceMethod yX7_dripAs, .selects RX7 yX7_dripAs yX7_dripAs, .code yX7_dripAs cX7_dripAs 4 (some .int)] ++ wsX70)
def wsX7_tell_r1 : List Cond := [Cond.fieldLink RX7 22 "DripSayingsModel" "rows" "[I", Cond.methodLink RX7 121 yX7_sureOf, Cond.instanceMethod yX7_sureOf, Cond.selects RX7 yX7_sureOf yX7_sureOf, Cond.initialized RX7, Cond.code yX7_sureOf cX7_sureOf 6 (some .int), Cond.methodLink RX7 118 yX7_patternOf, Cond.instanceMethod yX7_patternOf, Cond.selects RX7 yX7_patternOf yX7_patternOf, Cond.code yX7_patternOf cX7_patternOf 6 (some .int), Cond.methodLink RX7 112 yX7_dripAs, Cond.instanceMethod yX7_dripAs, Cond.selects RX7 yX7_dripAs yX7_dripAs, Cond.code yX7_dripAs cX7_dripAs 4 (some .int), Cond.methodLink RX7 108 yX7_dripBy, Cond.instanceMethod yX7_dripBy, Cond.selects RX7 yX7_dripBy yX7_dripBy, Cond.code yX7_dripBy cX7_dripBy 9 (some .int), Cond.fieldLink RX7 19 "DripSayingsModel" "beats" "[I", Cond.methodLink RX7 124 yX7_saysOf, Cond.instanceMethod yX7_saysOf, Cond.selects RX7 yX7_saysOf yX7_saysOf, Cond.code yX7_saysOf cX7_saysOf 4 (some .int), Cond.methodLink RX7 130 yX7_slipsBy]
def wsX7_tell_r2 : List Cond := [Cond.instanceMethod yX7_slipsBy, Cond.selects RX7 yX7_slipsBy yX7_slipsBy, Cond.code yX7_slipsBy cX7_slipsBy 6 (some .int), Cond.fieldLink RX7 85 "DripSayingsModel" "putMany" "I", Cond.fieldLink RX7 25 "DripSayingsModel" "puts" "[I", Cond.methodLink RX7 127 yX7_likelyOf, Cond.instanceMethod yX7_likelyOf, Cond.selects RX7 yX7_likelyOf yX7_likelyOf, Cond.code yX7_likelyOf cX7_likelyOf 4 (some .int), Cond.methodLink RX7 133 yX7_listenOf, Cond.instanceMethod yX7_listenOf, Cond.selects RX7 yX7_listenOf yX7_listenOf, Cond.code yX7_listenOf cX7_listenOf 10 (some .int)]
def wsX7_tell : List Cond := .code yX7_tell cX7_tell 3 (some .int) :: ((wsX7_tell_r1 ++ wsX7_tell_r2) ++ wsX70)
def wsX7_about_r1 : List Cond := [Cond.methodLink RX7 136 yX7_isTap, Cond.instanceMethod yX7_isTap, Cond.selects RX7 yX7_isTap yX7_isTap, Cond.initialized RX7, Cond.code yX7_isTap cX7_isTap 2 (some .boolean), Cond.fieldLink RX7 75 "DripSayingsModel" "taps" "I", Cond.methodLink RX7 40 yX7_in, Cond.static yX7_in, Cond.code yX7_in cX7_in 6 (some .boolean), Cond.methodLink RX7 139 yX7_tell, Cond.instanceMethod yX7_tell, Cond.selects RX7 yX7_tell yX7_tell, Cond.code yX7_tell cX7_tell 3 (some .int), Cond.fieldLink RX7 22 "DripSayingsModel" "rows" "[I", Cond.methodLink RX7 121 yX7_sureOf, Cond.instanceMethod yX7_sureOf, Cond.selects RX7 yX7_sureOf yX7_sureOf, Cond.code yX7_sureOf cX7_sureOf 6 (some .int), Cond.methodLink RX7 118 yX7_patternOf, Cond.instanceMethod yX7_patternOf, Cond.selects RX7 yX7_patternOf yX7_patternOf, Cond.code yX7_patternOf cX7_patternOf 6 (some .int), Cond.methodLink RX7 112 yX7_dripAs, Cond.instanceMethod yX7_dripAs]
def wsX7_about_r2 : List Cond := [Cond.selects RX7 yX7_dripAs yX7_dripAs, Cond.code yX7_dripAs cX7_dripAs 4 (some .int), Cond.methodLink RX7 108 yX7_dripBy, Cond.instanceMethod yX7_dripBy, Cond.selects RX7 yX7_dripBy yX7_dripBy, Cond.code yX7_dripBy cX7_dripBy 9 (some .int), Cond.fieldLink RX7 19 "DripSayingsModel" "beats" "[I", Cond.methodLink RX7 124 yX7_saysOf, Cond.instanceMethod yX7_saysOf, Cond.selects RX7 yX7_saysOf yX7_saysOf, Cond.code yX7_saysOf cX7_saysOf 4 (some .int), Cond.methodLink RX7 130 yX7_slipsBy, Cond.instanceMethod yX7_slipsBy, Cond.selects RX7 yX7_slipsBy yX7_slipsBy, Cond.code yX7_slipsBy cX7_slipsBy 6 (some .int), Cond.fieldLink RX7 85 "DripSayingsModel" "putMany" "I", Cond.fieldLink RX7 25 "DripSayingsModel" "puts" "[I", Cond.methodLink RX7 127 yX7_likelyOf, Cond.instanceMethod yX7_likelyOf, Cond.selects RX7 yX7_likelyOf yX7_likelyOf, Cond.code yX7_likelyOf cX7_likelyOf 4 (some .int), Cond.methodLink RX7 133 yX7_listenOf, Cond.instanceMethod yX7_listenOf, Cond.selects RX7 yX7_listenOf yX7_listenOf]
def wsX7_about_r3 : List Cond := [Cond.code yX7_listenOf cX7_listenOf 10 (some .int)]
def wsX7_about : List Cond := .code yX7_about cX7_about 3 (some .int) :: ((wsX7_about_r1 ++ (wsX7_about_r2 ++ wsX7_about_r3)) ++ wsX70)
def wsX7_as : List Cond := .code yX7_as cX7_as 5 (some .int) :: ([.constantLong RX7 116 (4), .fieldLink RX7 22 "DripSayingsModel" "rows" "[I", .methodLink RX7 136 yX7_isTap, .instanceMethod yX7_isTap, .selects RX7 yX7_isTap yX7_isTap, .initialized RX7, .code yX7_isTap cX7_isTap 2 (some .boolean), .fieldLink RX7 75 "DripSayingsModel" "taps" "I", .methodLink RX7 40 yX7_in, .static yX7_in, .code yX7_in cX7_in 6 (some .boolean)] ++ wsX70)
def wsX7_drip : List Cond := .code yX7_drip cX7_drip 3 (some .int) :: ([.constantLong RX7 142 (99), .methodLink RX7 136 yX7_isTap, .instanceMethod yX7_isTap, .selects RX7 yX7_isTap yX7_isTap, .initialized RX7, .code yX7_isTap cX7_isTap 2 (some .boolean), .fieldLink RX7 75 "DripSayingsModel" "taps" "I", .methodLink RX7 40 yX7_in, .static yX7_in, .code yX7_in cX7_in 6 (some .boolean), .methodLink RX7 144 yX7_dripOf, .instanceMethod yX7_dripOf, .selects RX7 yX7_dripOf yX7_dripOf, .code yX7_dripOf cX7_dripOf 3 (some .int), .fieldLink RX7 22 "DripSayingsModel" "rows" "[I", .methodLink RX7 112 yX7_dripAs, .instanceMethod yX7_dripAs, .selects RX7 yX7_dripAs yX7_dripAs, .code yX7_dripAs cX7_dripAs 4 (some .int), .methodLink RX7 108 yX7_dripBy, .instanceMethod yX7_dripBy, .selects RX7 yX7_dripBy yX7_dripBy, .code yX7_dripBy cX7_dripBy 9 (some .int), .fieldLink RX7 19 "DripSayingsModel" "beats" "[I"] ++ wsX70)
def wsX7_listen : List Cond := .code yX7_listen cX7_listen 3 (some .int) :: ([.fieldLink RX7 22 "DripSayingsModel" "rows" "[I", .fieldLink RX7 82 "DripSayingsModel" "changes" "I", .methodLink RX7 136 yX7_isTap, .instanceMethod yX7_isTap, .selects RX7 yX7_isTap yX7_isTap, .initialized RX7, .code yX7_isTap cX7_isTap 2 (some .boolean), .fieldLink RX7 75 "DripSayingsModel" "taps" "I", .methodLink RX7 40 yX7_in, .static yX7_in, .code yX7_in cX7_in 6 (some .boolean), .methodLink RX7 144 yX7_dripOf, .instanceMethod yX7_dripOf, .selects RX7 yX7_dripOf yX7_dripOf, .code yX7_dripOf cX7_dripOf 3 (some .int), .methodLink RX7 112 yX7_dripAs, .instanceMethod yX7_dripAs, .selects RX7 yX7_dripAs yX7_dripAs, .code yX7_dripAs cX7_dripAs 4 (some .int), .methodLink RX7 108 yX7_dripBy, .instanceMethod yX7_dripBy, .selects RX7 yX7_dripBy yX7_dripBy, .code yX7_dripBy cX7_dripBy 9 (some .int), .fieldLink RX7 19 "DripSayingsModel" "beats" "[I"] ++ wsX70)
def wsX7_washer : List Cond := .code yX7_washer cX7_washer 4 (some .int) :: ([.fieldLink RX7 22 "DripSayingsModel" "rows" "[I", .fieldLink RX7 82 "DripSayingsModel" "changes" "I", .methodLink RX7 136 yX7_isTap, .instanceMethod yX7_isTap, .selects RX7 yX7_isTap yX7_isTap, .initialized RX7, .code yX7_isTap cX7_isTap 2 (some .boolean), .fieldLink RX7 75 "DripSayingsModel" "taps" "I", .methodLink RX7 40 yX7_in, .static yX7_in, .code yX7_in cX7_in 6 (some .boolean)] ++ wsX70)
def wsX7_teach : List Cond := .code yX7_teach cX7_teach 4 (some .int) :: ([.fieldLink RX7 22 "DripSayingsModel" "rows" "[I", .fieldLink RX7 82 "DripSayingsModel" "changes" "I", .methodLink RX7 136 yX7_isTap, .instanceMethod yX7_isTap, .selects RX7 yX7_isTap yX7_isTap, .initialized RX7, .code yX7_isTap cX7_isTap 2 (some .boolean), .fieldLink RX7 75 "DripSayingsModel" "taps" "I", .methodLink RX7 40 yX7_in, .static yX7_in, .code yX7_in cX7_in 6 (some .boolean), .methodLink RX7 101 yX7_isSaying, .static yX7_isSaying, .code yX7_isSaying cX7_isSaying 1 (some .boolean), .constantLong RX7 91 (3)] ++ wsX70)
def wsX7_agreeOf : List Cond := .code yX7_agreeOf cX7_agreeOf 5 (some .int) :: ([.fieldLink RX7 22 "DripSayingsModel" "rows" "[I", .methodLink RX7 144 yX7_dripOf, .instanceMethod yX7_dripOf, .selects RX7 yX7_dripOf yX7_dripOf, .initialized RX7, .code yX7_dripOf cX7_dripOf 3 (some .int), .methodLink RX7 112 yX7_dripAs, .instanceMethod yX7_dripAs, .selects RX7 yX7_dripAs yX7_dripAs, .code yX7_dripAs cX7_dripAs 4 (some .int), .methodLink RX7 108 yX7_dripBy, .instanceMethod yX7_dripBy, .selects RX7 yX7_dripBy yX7_dripBy, .code yX7_dripBy cX7_dripBy 9 (some .int), .fieldLink RX7 19 "DripSayingsModel" "beats" "[I"] ++ wsX70)
def wsX7_agree_r1 : List Cond := [Cond.methodLink RX7 136 yX7_isTap, Cond.instanceMethod yX7_isTap, Cond.selects RX7 yX7_isTap yX7_isTap, Cond.initialized RX7, Cond.code yX7_isTap cX7_isTap 2 (some .boolean), Cond.fieldLink RX7 75 "DripSayingsModel" "taps" "I", Cond.methodLink RX7 40 yX7_in, Cond.static yX7_in, Cond.code yX7_in cX7_in 6 (some .boolean), Cond.methodLink RX7 147 yX7_agreeOf, Cond.instanceMethod yX7_agreeOf, Cond.selects RX7 yX7_agreeOf yX7_agreeOf, Cond.code yX7_agreeOf cX7_agreeOf 5 (some .int), Cond.fieldLink RX7 22 "DripSayingsModel" "rows" "[I", Cond.methodLink RX7 144 yX7_dripOf, Cond.instanceMethod yX7_dripOf, Cond.selects RX7 yX7_dripOf yX7_dripOf, Cond.code yX7_dripOf cX7_dripOf 3 (some .int), Cond.methodLink RX7 112 yX7_dripAs, Cond.instanceMethod yX7_dripAs, Cond.selects RX7 yX7_dripAs yX7_dripAs, Cond.code yX7_dripAs cX7_dripAs 4 (some .int), Cond.methodLink RX7 108 yX7_dripBy, Cond.instanceMethod yX7_dripBy]
def wsX7_agree_r2 : List Cond := [Cond.selects RX7 yX7_dripBy yX7_dripBy, Cond.code yX7_dripBy cX7_dripBy 9 (some .int), Cond.fieldLink RX7 19 "DripSayingsModel" "beats" "[I"]
def wsX7_agree : List Cond := .code yX7_agree cX7_agree 3 (some .int) :: ((wsX7_agree_r1 ++ wsX7_agree_r2) ++ wsX70)
def wsX7_unlikeBy : List Cond := .code yX7_unlikeBy cX7_unlikeBy 7 (some .int) :: ([.fieldLink RX7 22 "DripSayingsModel" "rows" "[I", .methodLink RX7 108 yX7_dripBy, .instanceMethod yX7_dripBy, .selects RX7 yX7_dripBy yX7_dripBy, .initialized RX7, .code yX7_dripBy cX7_dripBy 9 (some .int), .fieldLink RX7 19 "DripSayingsModel" "beats" "[I"] ++ wsX70)
def wsX7_nearOf : List Cond := .code yX7_nearOf cX7_nearOf 7 (some .int) :: ([.methodLink RX7 150 yX7_unlikeBy, .instanceMethod yX7_unlikeBy, .selects RX7 yX7_unlikeBy yX7_unlikeBy, .initialized RX7, .code yX7_unlikeBy cX7_unlikeBy 7 (some .int), .fieldLink RX7 22 "DripSayingsModel" "rows" "[I", .methodLink RX7 108 yX7_dripBy, .instanceMethod yX7_dripBy, .selects RX7 yX7_dripBy yX7_dripBy, .code yX7_dripBy cX7_dripBy 9 (some .int), .fieldLink RX7 19 "DripSayingsModel" "beats" "[I"] ++ wsX70)
def wsX7_near_r1 : List Cond := [Cond.methodLink RX7 136 yX7_isTap, Cond.instanceMethod yX7_isTap, Cond.selects RX7 yX7_isTap yX7_isTap, Cond.initialized RX7, Cond.code yX7_isTap cX7_isTap 2 (some .boolean), Cond.fieldLink RX7 75 "DripSayingsModel" "taps" "I", Cond.methodLink RX7 40 yX7_in, Cond.static yX7_in, Cond.code yX7_in cX7_in 6 (some .boolean), Cond.methodLink RX7 101 yX7_isSaying, Cond.static yX7_isSaying, Cond.code yX7_isSaying cX7_isSaying 1 (some .boolean), Cond.constantLong RX7 91 (3), Cond.methodLink RX7 153 yX7_nearOf, Cond.instanceMethod yX7_nearOf, Cond.selects RX7 yX7_nearOf yX7_nearOf, Cond.code yX7_nearOf cX7_nearOf 7 (some .int), Cond.methodLink RX7 150 yX7_unlikeBy, Cond.instanceMethod yX7_unlikeBy, Cond.selects RX7 yX7_unlikeBy yX7_unlikeBy, Cond.code yX7_unlikeBy cX7_unlikeBy 7 (some .int), Cond.fieldLink RX7 22 "DripSayingsModel" "rows" "[I", Cond.methodLink RX7 108 yX7_dripBy, Cond.instanceMethod yX7_dripBy]
def wsX7_near_r2 : List Cond := [Cond.selects RX7 yX7_dripBy yX7_dripBy, Cond.code yX7_dripBy cX7_dripBy 9 (some .int), Cond.fieldLink RX7 19 "DripSayingsModel" "beats" "[I"]
def wsX7_near : List Cond := .code yX7_near cX7_near 4 (some .int) :: ((wsX7_near_r1 ++ wsX7_near_r2) ++ wsX70)
def wsX7_put : List Cond := .code yX7_put cX7_put 4 (some .int) :: ([.constantLong RX7 156 (59), .fieldLink RX7 85 "DripSayingsModel" "putMany" "I", .fieldLink RX7 25 "DripSayingsModel" "puts" "[I", .fieldLink RX7 22 "DripSayingsModel" "rows" "[I", .methodLink RX7 136 yX7_isTap, .instanceMethod yX7_isTap, .selects RX7 yX7_isTap yX7_isTap, .initialized RX7, .code yX7_isTap cX7_isTap 2 (some .boolean), .fieldLink RX7 75 "DripSayingsModel" "taps" "I", .methodLink RX7 40 yX7_in, .static yX7_in, .code yX7_in cX7_in 6 (some .boolean)] ++ wsX70)
def wsX7_forget : List Cond := .code yX7_forget cX7_forget 2 (some .int) :: ([.fieldLink RX7 85 "DripSayingsModel" "putMany" "I"] ++ wsX70)
def wsX7_draw : List Cond := .code yX7_draw cX7_draw 2 (some .int) :: ([.constantLong RX7 158 (1103515245), .fieldLink RX7 160 "DripSayingsModel" "seedNow" "I", .constantLong RX7 163 (12345), .constantLong RX7 165 (2147483647), .constant RX7 167 (65536)] ++ wsX70)
def wsX7_nights_r1 : List Cond := [Cond.constantLong RX7 168 (40), Cond.constantLong RX7 170 (2), Cond.fieldLink RX7 160 "DripSayingsModel" "seedNow" "I", Cond.fieldLink RX7 75 "DripSayingsModel" "taps" "I", Cond.fieldLink RX7 22 "DripSayingsModel" "rows" "[I", Cond.methodLink RX7 40 yX7_in, Cond.static yX7_in, Cond.initialized RX7, Cond.code yX7_in cX7_in 6 (some .boolean), Cond.methodLink RX7 97 yX7_lacks, Cond.instanceMethod yX7_lacks, Cond.selects RX7 yX7_lacks yX7_lacks, Cond.code yX7_lacks cX7_lacks 1 (some .boolean), Cond.methodLink RX7 144 yX7_dripOf, Cond.instanceMethod yX7_dripOf, Cond.selects RX7 yX7_dripOf yX7_dripOf, Cond.code yX7_dripOf cX7_dripOf 3 (some .int), Cond.methodLink RX7 112 yX7_dripAs, Cond.instanceMethod yX7_dripAs, Cond.selects RX7 yX7_dripAs yX7_dripAs, Cond.code yX7_dripAs cX7_dripAs 4 (some .int), Cond.methodLink RX7 108 yX7_dripBy, Cond.instanceMethod yX7_dripBy, Cond.selects RX7 yX7_dripBy yX7_dripBy]
def wsX7_nights_r2 : List Cond := [Cond.code yX7_dripBy cX7_dripBy 9 (some .int), Cond.fieldLink RX7 19 "DripSayingsModel" "beats" "[I", Cond.methodLink RX7 172 yX7_draw, Cond.instanceMethod yX7_draw, Cond.selects RX7 yX7_draw yX7_draw, Cond.code yX7_draw cX7_draw 2 (some .int), Cond.constantLong RX7 158 (1103515245), Cond.constantLong RX7 163 (12345), Cond.constantLong RX7 165 (2147483647), Cond.constant RX7 167 (65536)]
def wsX7_nights : List Cond := .code yX7_nights cX7_nights 10 (some .int) :: ((wsX7_nights_r1 ++ wsX7_nights_r2) ++ wsX70)
def wsX7_image : List Cond := .code yX7_image cX7_image 1 (some .int) :: ([.fieldLink RX7 22 "DripSayingsModel" "rows" "[I", .fieldLink RX7 28 "DripSayingsModel" "keptRows" "[I", .fieldLink RX7 25 "DripSayingsModel" "puts" "[I", .fieldLink RX7 31 "DripSayingsModel" "keptPutRows" "[I", .fieldLink RX7 75 "DripSayingsModel" "taps" "I", .fieldLink RX7 175 "DripSayingsModel" "keptTaps" "I", .fieldLink RX7 82 "DripSayingsModel" "changes" "I", .fieldLink RX7 178 "DripSayingsModel" "keptChanges" "I", .fieldLink RX7 85 "DripSayingsModel" "putMany" "I", .fieldLink RX7 181 "DripSayingsModel" "keptPuts" "I", .fieldLink RX7 88 "DripSayingsModel" "housesRead" "I", .fieldLink RX7 34 "DripSayingsModel" "keptHouse" "I", .methodLink RX7 97 yX7_lacks, .instanceMethod yX7_lacks, .selects RX7 yX7_lacks yX7_lacks, .initialized RX7, .code yX7_lacks cX7_lacks 1 (some .boolean), .methodLink RX7 78 yX7_copy, .static yX7_copy, .code yX7_copy cX7_copy 3 none] ++ wsX70)
def wsX7_restore : List Cond := .code yX7_restore cX7_restore 1 (some .int) :: ([.fieldLink RX7 34 "DripSayingsModel" "keptHouse" "I", .fieldLink RX7 88 "DripSayingsModel" "housesRead" "I", .fieldLink RX7 28 "DripSayingsModel" "keptRows" "[I", .fieldLink RX7 22 "DripSayingsModel" "rows" "[I", .fieldLink RX7 31 "DripSayingsModel" "keptPutRows" "[I", .fieldLink RX7 25 "DripSayingsModel" "puts" "[I", .fieldLink RX7 175 "DripSayingsModel" "keptTaps" "I", .fieldLink RX7 75 "DripSayingsModel" "taps" "I", .fieldLink RX7 178 "DripSayingsModel" "keptChanges" "I", .fieldLink RX7 82 "DripSayingsModel" "changes" "I", .fieldLink RX7 181 "DripSayingsModel" "keptPuts" "I", .fieldLink RX7 85 "DripSayingsModel" "putMany" "I", .methodLink RX7 78 yX7_copy, .static yX7_copy, .initialized RX7, .code yX7_copy cX7_copy 3 none] ++ wsX70)
def wsX7_beatsAll : List Cond := .code yX7_beatsAll cX7_beatsAll 3 (some .int) :: ([.fieldLink RX7 19 "DripSayingsModel" "beats" "[I", .methodLink RX7 97 yX7_lacks, .instanceMethod yX7_lacks, .selects RX7 yX7_lacks yX7_lacks, .initialized RX7, .code yX7_lacks cX7_lacks 1 (some .boolean), .fieldLink RX7 75 "DripSayingsModel" "taps" "I"] ++ wsX70)
def wsX7_sumAt : List Cond := .code yX7_sumAt cX7_sumAt 4 (some .int) :: ([.fieldLink RX7 75 "DripSayingsModel" "taps" "I", .fieldLink RX7 22 "DripSayingsModel" "rows" "[I"] ++ wsX70)
def wsX7_countOf : List Cond := .code yX7_countOf cX7_countOf 2 (some .int) :: ([.fieldLink RX7 75 "DripSayingsModel" "taps" "I", .fieldLink RX7 82 "DripSayingsModel" "changes" "I", .fieldLink RX7 85 "DripSayingsModel" "putMany" "I", .fieldLink RX7 44 "DripSayingsModel" "pageMany" "I", .fieldLink RX7 88 "DripSayingsModel" "housesRead" "I", .methodLink RX7 184 yX7_beatsAll, .instanceMethod yX7_beatsAll, .selects RX7 yX7_beatsAll yX7_beatsAll, .initialized RX7, .code yX7_beatsAll cX7_beatsAll 3 (some .int), .fieldLink RX7 19 "DripSayingsModel" "beats" "[I", .methodLink RX7 97 yX7_lacks, .instanceMethod yX7_lacks, .selects RX7 yX7_lacks yX7_lacks, .code yX7_lacks cX7_lacks 1 (some .boolean), .methodLink RX7 187 yX7_sumAt, .instanceMethod yX7_sumAt, .selects RX7 yX7_sumAt yX7_sumAt, .code yX7_sumAt cX7_sumAt 4 (some .int), .fieldLink RX7 22 "DripSayingsModel" "rows" "[I"] ++ wsX70)
def wsX7_count : List Cond := .code yX7_count cX7_count 2 (some .int) :: ([.methodLink RX7 190 yX7_countOf, .instanceMethod yX7_countOf, .selects RX7 yX7_countOf yX7_countOf, .initialized RX7, .code yX7_countOf cX7_countOf 2 (some .int), .fieldLink RX7 75 "DripSayingsModel" "taps" "I", .fieldLink RX7 82 "DripSayingsModel" "changes" "I", .fieldLink RX7 85 "DripSayingsModel" "putMany" "I", .fieldLink RX7 44 "DripSayingsModel" "pageMany" "I", .fieldLink RX7 88 "DripSayingsModel" "housesRead" "I", .methodLink RX7 184 yX7_beatsAll, .instanceMethod yX7_beatsAll, .selects RX7 yX7_beatsAll yX7_beatsAll, .code yX7_beatsAll cX7_beatsAll 3 (some .int), .fieldLink RX7 19 "DripSayingsModel" "beats" "[I", .methodLink RX7 97 yX7_lacks, .instanceMethod yX7_lacks, .selects RX7 yX7_lacks yX7_lacks, .code yX7_lacks cX7_lacks 1 (some .boolean), .methodLink RX7 187 yX7_sumAt, .instanceMethod yX7_sumAt, .selects RX7 yX7_sumAt yX7_sumAt, .code yX7_sumAt cX7_sumAt 4 (some .int), .fieldLink RX7 22 "DripSayingsModel" "rows" "[I"] ++ wsX70)
def wsX7_say : List Cond := .code yX7_say cX7_say 3 none :: ([.constantLong RX7 193 (31), .fieldLink RX7 195 "DripSayingsModel" "hash" "J"] ++ wsX70)
def wsX7_sayTap_r1 : List Cond := [Cond.methodLink RX7 139 yX7_tell, Cond.instanceMethod yX7_tell, Cond.selects RX7 yX7_tell yX7_tell, Cond.initialized RX7, Cond.code yX7_tell cX7_tell 3 (some .int), Cond.fieldLink RX7 22 "DripSayingsModel" "rows" "[I", Cond.methodLink RX7 121 yX7_sureOf, Cond.instanceMethod yX7_sureOf, Cond.selects RX7 yX7_sureOf yX7_sureOf, Cond.code yX7_sureOf cX7_sureOf 6 (some .int), Cond.methodLink RX7 118 yX7_patternOf, Cond.instanceMethod yX7_patternOf, Cond.selects RX7 yX7_patternOf yX7_patternOf, Cond.code yX7_patternOf cX7_patternOf 6 (some .int), Cond.methodLink RX7 112 yX7_dripAs, Cond.instanceMethod yX7_dripAs, Cond.selects RX7 yX7_dripAs yX7_dripAs, Cond.code yX7_dripAs cX7_dripAs 4 (some .int), Cond.methodLink RX7 108 yX7_dripBy, Cond.instanceMethod yX7_dripBy, Cond.selects RX7 yX7_dripBy yX7_dripBy, Cond.code yX7_dripBy cX7_dripBy 9 (some .int), Cond.fieldLink RX7 19 "DripSayingsModel" "beats" "[I", Cond.methodLink RX7 124 yX7_saysOf]
def wsX7_sayTap_r2 : List Cond := [Cond.instanceMethod yX7_saysOf, Cond.selects RX7 yX7_saysOf yX7_saysOf, Cond.code yX7_saysOf cX7_saysOf 4 (some .int), Cond.methodLink RX7 130 yX7_slipsBy, Cond.instanceMethod yX7_slipsBy, Cond.selects RX7 yX7_slipsBy yX7_slipsBy, Cond.code yX7_slipsBy cX7_slipsBy 6 (some .int), Cond.fieldLink RX7 85 "DripSayingsModel" "putMany" "I", Cond.fieldLink RX7 25 "DripSayingsModel" "puts" "[I", Cond.methodLink RX7 127 yX7_likelyOf, Cond.instanceMethod yX7_likelyOf, Cond.selects RX7 yX7_likelyOf yX7_likelyOf, Cond.code yX7_likelyOf cX7_likelyOf 4 (some .int), Cond.methodLink RX7 133 yX7_listenOf, Cond.instanceMethod yX7_listenOf, Cond.selects RX7 yX7_listenOf yX7_listenOf, Cond.code yX7_listenOf cX7_listenOf 10 (some .int), Cond.methodLink RX7 199 yX7_say, Cond.instanceMethod yX7_say, Cond.selects RX7 yX7_say yX7_say, Cond.code yX7_say cX7_say 3 none, Cond.constantLong RX7 193 (31), Cond.fieldLink RX7 195 "DripSayingsModel" "hash" "J", Cond.methodLink RX7 144 yX7_dripOf]
def wsX7_sayTap_r3 : List Cond := [Cond.instanceMethod yX7_dripOf, Cond.selects RX7 yX7_dripOf yX7_dripOf, Cond.code yX7_dripOf cX7_dripOf 3 (some .int), Cond.methodLink RX7 153 yX7_nearOf, Cond.instanceMethod yX7_nearOf, Cond.selects RX7 yX7_nearOf yX7_nearOf, Cond.code yX7_nearOf cX7_nearOf 7 (some .int), Cond.methodLink RX7 150 yX7_unlikeBy, Cond.instanceMethod yX7_unlikeBy, Cond.selects RX7 yX7_unlikeBy yX7_unlikeBy, Cond.code yX7_unlikeBy cX7_unlikeBy 7 (some .int)]
def wsX7_sayTap : List Cond := .code yX7_sayTap cX7_sayTap 3 none :: ((wsX7_sayTap_r1 ++ (wsX7_sayTap_r2 ++ wsX7_sayTap_r3)) ++ wsX70)
def wsX7_digest_r1 : List Cond := [Cond.constantLong RX7 203 (1061), Cond.fieldLink RX7 195 "DripSayingsModel" "hash" "J", Cond.fieldLink RX7 75 "DripSayingsModel" "taps" "I", Cond.fieldLink RX7 44 "DripSayingsModel" "pageMany" "I", Cond.fieldLink RX7 7 "DripSayingsModel" "page" "[I", Cond.methodLink RX7 97 yX7_lacks, Cond.instanceMethod yX7_lacks, Cond.selects RX7 yX7_lacks yX7_lacks, Cond.initialized RX7, Cond.code yX7_lacks cX7_lacks 1 (some .boolean), Cond.methodLink RX7 104 yX7_tellSaying, Cond.instanceMethod yX7_tellSaying, Cond.selects RX7 yX7_tellSaying yX7_tellSaying, Cond.code yX7_tellSaying cX7_tellSaying 3 (some .int), Cond.fieldLink RX7 19 "DripSayingsModel" "beats" "[I", Cond.constantLong RX7 93 (10), Cond.constantLong RX7 95 (13), Cond.methodLink RX7 40 yX7_in, Cond.static yX7_in, Cond.code yX7_in cX7_in 6 (some .boolean), Cond.methodLink RX7 199 yX7_say, Cond.instanceMethod yX7_say, Cond.selects RX7 yX7_say yX7_say, Cond.code yX7_say cX7_say 3 none]
def wsX7_digest_r2 : List Cond := [Cond.constantLong RX7 193 (31), Cond.methodLink RX7 205 yX7_sayTap, Cond.instanceMethod yX7_sayTap, Cond.selects RX7 yX7_sayTap yX7_sayTap, Cond.code yX7_sayTap cX7_sayTap 3 none, Cond.methodLink RX7 139 yX7_tell, Cond.instanceMethod yX7_tell, Cond.selects RX7 yX7_tell yX7_tell, Cond.code yX7_tell cX7_tell 3 (some .int), Cond.fieldLink RX7 22 "DripSayingsModel" "rows" "[I", Cond.methodLink RX7 121 yX7_sureOf, Cond.instanceMethod yX7_sureOf, Cond.selects RX7 yX7_sureOf yX7_sureOf, Cond.code yX7_sureOf cX7_sureOf 6 (some .int), Cond.methodLink RX7 118 yX7_patternOf, Cond.instanceMethod yX7_patternOf, Cond.selects RX7 yX7_patternOf yX7_patternOf, Cond.code yX7_patternOf cX7_patternOf 6 (some .int), Cond.methodLink RX7 112 yX7_dripAs, Cond.instanceMethod yX7_dripAs, Cond.selects RX7 yX7_dripAs yX7_dripAs, Cond.code yX7_dripAs cX7_dripAs 4 (some .int), Cond.methodLink RX7 108 yX7_dripBy, Cond.instanceMethod yX7_dripBy]
def wsX7_digest_r3 : List Cond := [Cond.selects RX7 yX7_dripBy yX7_dripBy, Cond.code yX7_dripBy cX7_dripBy 9 (some .int), Cond.methodLink RX7 124 yX7_saysOf, Cond.instanceMethod yX7_saysOf, Cond.selects RX7 yX7_saysOf yX7_saysOf, Cond.code yX7_saysOf cX7_saysOf 4 (some .int), Cond.methodLink RX7 130 yX7_slipsBy, Cond.instanceMethod yX7_slipsBy, Cond.selects RX7 yX7_slipsBy yX7_slipsBy, Cond.code yX7_slipsBy cX7_slipsBy 6 (some .int), Cond.fieldLink RX7 85 "DripSayingsModel" "putMany" "I", Cond.fieldLink RX7 25 "DripSayingsModel" "puts" "[I", Cond.methodLink RX7 127 yX7_likelyOf, Cond.instanceMethod yX7_likelyOf, Cond.selects RX7 yX7_likelyOf yX7_likelyOf, Cond.code yX7_likelyOf cX7_likelyOf 4 (some .int), Cond.methodLink RX7 133 yX7_listenOf, Cond.instanceMethod yX7_listenOf, Cond.selects RX7 yX7_listenOf yX7_listenOf, Cond.code yX7_listenOf cX7_listenOf 10 (some .int), Cond.methodLink RX7 144 yX7_dripOf, Cond.instanceMethod yX7_dripOf, Cond.selects RX7 yX7_dripOf yX7_dripOf, Cond.code yX7_dripOf cX7_dripOf 3 (some .int)]
def wsX7_digest_r4 : List Cond := [Cond.methodLink RX7 153 yX7_nearOf, Cond.instanceMethod yX7_nearOf, Cond.selects RX7 yX7_nearOf yX7_nearOf, Cond.code yX7_nearOf cX7_nearOf 7 (some .int), Cond.methodLink RX7 150 yX7_unlikeBy, Cond.instanceMethod yX7_unlikeBy, Cond.selects RX7 yX7_unlikeBy yX7_unlikeBy, Cond.code yX7_unlikeBy cX7_unlikeBy 7 (some .int), Cond.methodLink RX7 190 yX7_countOf, Cond.instanceMethod yX7_countOf, Cond.selects RX7 yX7_countOf yX7_countOf, Cond.code yX7_countOf cX7_countOf 2 (some .int), Cond.fieldLink RX7 82 "DripSayingsModel" "changes" "I", Cond.fieldLink RX7 88 "DripSayingsModel" "housesRead" "I", Cond.methodLink RX7 184 yX7_beatsAll, Cond.instanceMethod yX7_beatsAll, Cond.selects RX7 yX7_beatsAll yX7_beatsAll, Cond.code yX7_beatsAll cX7_beatsAll 3 (some .int), Cond.methodLink RX7 187 yX7_sumAt, Cond.instanceMethod yX7_sumAt, Cond.selects RX7 yX7_sumAt yX7_sumAt, Cond.code yX7_sumAt cX7_sumAt 4 (some .int)]
def wsX7_digest : List Cond := .code yX7_digest cX7_digest 3 (some .long) :: ((wsX7_digest_r1 ++ (wsX7_digest_r2 ++ (wsX7_digest_r3 ++ wsX7_digest_r4))) ++ wsX70)
def wsJ9_max_7cf53 : List Cond := .code yJ9_max_7cf53 cJ9_max_7cf53 2 (some .int) :: ([])
def wsJ9_min_7cf53 : List Cond := .code yJ9_min_7cf53 cJ9_min_7cf53 2 (some .int) :: ([])
def wsL_law_r1 : List Cond := [Cond.classLink RL 7 RX6, Cond.instantiable RX6 7, Cond.initialized RX6, Cond.classLink RL 10 RX7, Cond.instantiable RX7 22, Cond.initialized RX7, Cond.methodLink RL 9 yX6_init, Cond.instanceMethod yX6_init, Cond.code yX6_init cX6_init 1 none, Cond.methodLink RX6 1 objectInit, Cond.instanceMethod objectInit, Cond.code objectInit ⟨#[0xb1]⟩ 1 none, Cond.classLink RX6 7 RX1, Cond.instantiable RX1 3, Cond.initialized RX1, Cond.fieldLink RX6 10 "DripSayings" "page" "LDripSayings$Page;", Cond.classLink RX6 16 RX4, Cond.instantiable RX4 2, Cond.initialized RX4, Cond.fieldLink RX6 19 "DripSayings" "sayings" "LDripSayings$Sayings;", Cond.classLink RX6 23 RX3, Cond.instantiable RX3 5, Cond.initialized RX3, Cond.fieldLink RX6 26 "DripSayings" "room" "LDripSayings$Room;"]
def wsL_law_r2 : List Cond := [Cond.fieldLink RX6 30 "DripSayings" "kept" "LDripSayings$Room;", Cond.methodLink RX6 9 yX1_init, Cond.instanceMethod yX1_init, Cond.code yX1_init cX1_init 1 none, Cond.methodLink RX1 3 objectInit, Cond.arrayClass .int, Cond.fieldLink RX1 9 "DripSayings$Page" "codes" "[I", Cond.classLink RX1 15 RX2, Cond.instantiable RX2 3, Cond.initialized RX2, Cond.fieldLink RX1 18 "DripSayings$Page" "reader" "LDripSayings$Reader;", Cond.instanceMethod yX2_init, Cond.code yX2_init cX2_init 1 none, Cond.methodLink RX2 3 objectInit, Cond.methodLink RX6 18 yX4_init, Cond.instanceMethod yX4_init, Cond.code yX4_init cX4_init 1 none, Cond.methodLink RX4 3 objectInit, Cond.fieldLink RX4 9 "DripSayings$Sayings" "beats" "[I", Cond.fieldLink RX4 15 "DripSayings$Sayings" "lengths" "[I", Cond.methodLink RX6 25 yX3_init, Cond.instanceMethod yX3_init, Cond.code yX3_init cX3_init 2 none, Cond.methodLink RX3 3 objectInit]
def wsL_law_r3 : List Cond := [Cond.classLink RX3 9 RX5, Cond.fieldLink RX3 11 "DripSayings$Room" "taps" "[LDripSayings$Tap;", Cond.instantiable RX5 5, Cond.initialized RX5, Cond.classLink RX3 20 RX0, Cond.fieldLink RX3 22 "DripSayings$Room" "notes" "[LDripSayings$Note;", Cond.instantiable RX0 4, Cond.initialized RX0, Cond.methodLink RX3 17 yX5_init, Cond.instanceMethod yX5_init, Cond.code yX5_init cX5_init 2 none, Cond.methodLink RX5 1 objectInit, Cond.fieldLink RX5 7 "DripSayings$Tap" "number" "I", Cond.instanceMethod yX0_init, Cond.code yX0_init cX0_init 1 none, Cond.methodLink RX0 1 objectInit, Cond.methodLink RL 12 yX7_init, Cond.instanceMethod yX7_init, Cond.code yX7_init cX7_init 1 none, Cond.methodLink RX7 1 objectInit, Cond.fieldLink RX7 7 "DripSayingsModel" "page" "[I", Cond.fieldLink RX7 13 "DripSayingsModel" "readBeats" "[I", Cond.fieldLink RX7 16 "DripSayingsModel" "readTaps" "[I", Cond.fieldLink RX7 19 "DripSayingsModel" "beats" "[I"]
def wsL_law_r4 : List Cond := [Cond.fieldLink RX7 22 "DripSayingsModel" "rows" "[I", Cond.fieldLink RX7 25 "DripSayingsModel" "puts" "[I", Cond.fieldLink RX7 28 "DripSayingsModel" "keptRows" "[I", Cond.fieldLink RX7 31 "DripSayingsModel" "keptPutRows" "[I", Cond.fieldLink RX7 34 "DripSayingsModel" "keptHouse" "I", Cond.methodLink RL 13 yX6_letter, Cond.instanceMethod yX6_letter, Cond.selects RX6 yX6_letter yX6_letter, Cond.code yX6_letter cX6_letter 2 (some .int), Cond.fieldLink RX6 33 "DripSayings$Page" "size" "I", Cond.methodLink RX6 37 yX1_add, Cond.instanceMethod yX1_add, Cond.selects RX1 yX1_add yX1_add, Cond.code yX1_add cX1_add 2 none, Cond.fieldLink RX1 22 "DripSayings$Page" "size" "I", Cond.methodLink RL 17 yX7_letter, Cond.instanceMethod yX7_letter, Cond.selects RX7 yX7_letter yX7_letter, Cond.code yX7_letter cX7_letter 2 (some .int), Cond.constantLong RX7 38 (126), Cond.fieldLink RX7 44 "DripSayingsModel" "pageMany" "I", Cond.methodLink RX7 40 yX7_in, Cond.static yX7_in, Cond.code yX7_in cX7_in 6 (some .boolean)]
def wsL_law_r5 : List Cond := [Cond.methodLink RL 18 yX6_blank, Cond.instanceMethod yX6_blank, Cond.selects RX6 yX6_blank yX6_blank, Cond.code yX6_blank cX6_blank 2 (some .int), Cond.methodLink RX6 41 yX1_clear, Cond.instanceMethod yX1_clear, Cond.selects RX1 yX1_clear yX1_clear, Cond.code yX1_clear cX1_clear 1 none, Cond.methodLink RL 22 yX7_blank, Cond.instanceMethod yX7_blank, Cond.selects RX7 yX7_blank yX7_blank, Cond.code yX7_blank cX7_blank 2 (some .int), Cond.methodLink RL 23 yX6_fault, Cond.instanceMethod yX6_fault, Cond.selects RX6 yX6_fault yX6_fault, Cond.code yX6_fault cX6_fault 1 (some .int), Cond.methodLink RX6 44 yX1_firstFault, Cond.instanceMethod yX1_firstFault, Cond.selects RX1 yX1_firstFault yX1_firstFault, Cond.code yX1_firstFault cX1_firstFault 2 (some .int), Cond.methodLink RX1 26 yX2_begin, Cond.instanceMethod yX2_begin, Cond.selects RX2 yX2_begin yX2_begin, Cond.code yX2_begin cX2_begin 1 none]
def wsL_law_r6 : List Cond := [Cond.fieldLink RX2 9 "DripSayings$Reader" "saying" "I", Cond.fieldLink RX2 15 "DripSayings$Reader" "taps" "I", Cond.fieldLink RX2 18 "DripSayings$Reader" "letters" "I", Cond.methodLink RX1 29 yX1_codeAt, Cond.instanceMethod yX1_codeAt, Cond.selects RX1 yX1_codeAt yX1_codeAt, Cond.code yX1_codeAt cX1_codeAt 2 (some .int), Cond.methodLink RX1 33 yX2_takes, Cond.instanceMethod yX2_takes, Cond.selects RX2 yX2_takes yX2_takes, Cond.code yX2_takes cX2_takes 2 (some .boolean), Cond.methodLink RX2 21 yX2_takesInSaying, Cond.instanceMethod yX2_takesInSaying, Cond.selects RX2 yX2_takesInSaying yX2_takesInSaying, Cond.code yX2_takesInSaying cX2_takesInSaying 3 (some .boolean), Cond.methodLink RX2 25 yX2_takesInTap, Cond.instanceMethod yX2_takesInTap, Cond.selects RX2 yX2_takesInTap yX2_takesInTap, Cond.code yX2_takesInTap cX2_takesInTap 2 (some .boolean), Cond.static yX6_kindOfLetter, Cond.code yX6_kindOfLetter cX6_kindOfLetter 1 (some .int), Cond.static yX6_isSaying, Cond.code yX6_isSaying cX6_isSaying 1 (some .boolean), Cond.methodLink RL 26 yX7_fault]
def wsL_law_r7 : List Cond := [Cond.instanceMethod yX7_fault, Cond.selects RX7 yX7_fault yX7_fault, Cond.code yX7_fault cX7_fault 1 (some .int), Cond.methodLink RX7 71 yX7_faultOf, Cond.instanceMethod yX7_faultOf, Cond.selects RX7 yX7_faultOf yX7_faultOf, Cond.code yX7_faultOf cX7_faultOf 2 (some .int), Cond.fieldLink RX7 47 "DripSayingsModel" "part" "I", Cond.fieldLink RX7 53 "DripSayingsModel" "readMany" "I", Cond.fieldLink RX7 50 "DripSayingsModel" "step" "I", Cond.methodLink RX7 64 yX7_goSaying, Cond.instanceMethod yX7_goSaying, Cond.selects RX7 yX7_goSaying yX7_goSaying, Cond.code yX7_goSaying cX7_goSaying 4 (some .boolean), Cond.methodLink RX7 68 yX7_goTap, Cond.instanceMethod yX7_goTap, Cond.selects RX7 yX7_goTap yX7_goTap, Cond.code yX7_goTap cX7_goTap 3 (some .boolean), Cond.constantLong RX7 60 (48), Cond.constantLong RX7 62 (51), Cond.methodLink RX7 56 yX7_kindBy, Cond.static yX7_kindBy, Cond.code yX7_kindBy cX7_kindBy 1 (some .int), Cond.methodLink RL 27 yX6_house]
def wsL_law_r8 : List Cond := [Cond.instanceMethod yX6_house, Cond.selects RX6 yX6_house yX6_house, Cond.code yX6_house cX6_house 1 (some .int), Cond.fieldLink RX6 57 "DripSayings" "hasHouse" "Z", Cond.fieldLink RX6 61 "DripSayings" "hasImage" "Z", Cond.fieldLink RX6 64 "DripSayings" "housesRead" "I", Cond.fieldLink RX6 67 "DripSayings$Room" "tapCount" "I", Cond.methodLink RX6 48 yX1_isHouse, Cond.instanceMethod yX1_isHouse, Cond.selects RX1 yX1_isHouse yX1_isHouse, Cond.code yX1_isHouse cX1_isHouse 1 (some .boolean), Cond.methodLink RX1 37 yX1_firstFault, Cond.methodLink RX1 41 yX2_isAtEnd, Cond.instanceMethod yX2_isAtEnd, Cond.selects RX2 yX2_isAtEnd yX2_isAtEnd, Cond.code yX2_isAtEnd cX2_isAtEnd 1 (some .boolean), Cond.methodLink RX6 52 yX4_clear, Cond.instanceMethod yX4_clear, Cond.selects RX4 yX4_clear yX4_clear, Cond.code yX4_clear cX4_clear 2 none, Cond.methodLink RX6 53 yX3_clear, Cond.instanceMethod yX3_clear, Cond.selects RX3 yX3_clear yX3_clear, Cond.code yX3_clear cX3_clear 1 none]
def wsL_law_r9 : List Cond := [Cond.fieldLink RX3 27 "DripSayings$Room" "tapCount" "I", Cond.fieldLink RX3 31 "DripSayings$Room" "noteCount" "I", Cond.fieldLink RX3 34 "DripSayings$Room" "changes" "I", Cond.methodLink RX6 54 yX6_readPage, Cond.instanceMethod yX6_readPage, Cond.selects RX6 yX6_readPage yX6_readPage, Cond.code yX6_readPage cX6_readPage 6 none, Cond.methodLink RX6 153 yX1_codeAt, Cond.methodLink RX6 156 yX4_addBeat, Cond.instanceMethod yX4_addBeat, Cond.selects RX4 yX4_addBeat yX4_addBeat, Cond.code yX4_addBeat cX4_addBeat 4 none, Cond.methodLink RX6 159 yX6_kindOfLetter, Cond.methodLink RX6 85 yX3_addTap, Cond.instanceMethod yX3_addTap, Cond.selects RX3 yX3_addTap yX3_addTap, Cond.code yX3_addTap cX3_addTap 4 none, Cond.methodLink RX3 37 yX3_tapAt, Cond.instanceMethod yX3_tapAt, Cond.selects RX3 yX3_tapAt yX3_tapAt, Cond.code yX3_tapAt cX3_tapAt 2 (some (.object "DripSayings$Tap")), Cond.methodLink RX3 41 yX5_become, Cond.instanceMethod yX5_become, Cond.selects RX5 yX5_become yX5_become]
def wsL_law_r10 : List Cond := [Cond.code yX5_become cX5_become 5 none, Cond.fieldLink RX5 13 "DripSayings$Tap" "kind" "I", Cond.fieldLink RX5 16 "DripSayings$Tap" "saying" "I", Cond.fieldLink RX5 19 "DripSayings$Tap" "washer" "I", Cond.fieldLink RX5 22 "DripSayings$Tap" "place" "I", Cond.methodLink RL 30 yX7_house, Cond.instanceMethod yX7_house, Cond.selects RX7 yX7_house yX7_house, Cond.code yX7_house cX7_house 2 (some .int), Cond.fieldLink RX7 75 "DripSayingsModel" "taps" "I", Cond.fieldLink RX7 82 "DripSayingsModel" "changes" "I", Cond.fieldLink RX7 85 "DripSayingsModel" "putMany" "I", Cond.fieldLink RX7 88 "DripSayingsModel" "housesRead" "I", Cond.methodLink RX7 78 yX7_copy, Cond.static yX7_copy, Cond.code yX7_copy cX7_copy 3 none, Cond.methodLink RL 31 yX6_saying, Cond.instanceMethod yX6_saying, Cond.selects RX6 yX6_saying yX6_saying, Cond.code yX6_saying cX6_saying 3 (some .int), Cond.methodLink RX6 70 yX6_isSaying, Cond.methodLink RX6 74 yX4_lengthOf, Cond.instanceMethod yX4_lengthOf, Cond.selects RX4 yX4_lengthOf yX4_lengthOf]
def wsL_law_r11 : List Cond := [Cond.code yX4_lengthOf cX4_lengthOf 2 (some .int), Cond.methodLink RX6 78 yX4_beatOf, Cond.instanceMethod yX4_beatOf, Cond.selects RX4 yX4_beatOf yX4_beatOf, Cond.code yX4_beatOf cX4_beatOf 4 (some .int), Cond.methodLink RL 35 yX7_saying, Cond.instanceMethod yX7_saying, Cond.selects RX7 yX7_saying yX7_saying, Cond.code yX7_saying cX7_saying 3 (some .int), Cond.methodLink RX7 97 yX7_lacks, Cond.instanceMethod yX7_lacks, Cond.selects RX7 yX7_lacks yX7_lacks, Cond.code yX7_lacks cX7_lacks 1 (some .boolean), Cond.methodLink RX7 101 yX7_isSaying, Cond.static yX7_isSaying, Cond.code yX7_isSaying cX7_isSaying 1 (some .boolean), Cond.constantLong RX7 91 (3), Cond.methodLink RX7 104 yX7_tellSaying, Cond.instanceMethod yX7_tellSaying, Cond.selects RX7 yX7_tellSaying yX7_tellSaying, Cond.code yX7_tellSaying cX7_tellSaying 3 (some .int), Cond.constantLong RX7 93 (10), Cond.constantLong RX7 95 (13), Cond.methodLink RL 36 yX6_tap]
def wsL_law_r12 : List Cond := [Cond.instanceMethod yX6_tap, Cond.selects RX6 yX6_tap yX6_tap, Cond.code yX6_tap cX6_tap 3 (some .int), Cond.methodLink RX6 82 yX6_isKind, Cond.static yX6_isKind, Cond.code yX6_isKind cX6_isKind 1 (some .boolean), Cond.methodLink RL 39 yX7_tap, Cond.instanceMethod yX7_tap, Cond.selects RX7 yX7_tap yX7_tap, Cond.code yX7_tap cX7_tap 3 (some .int), Cond.constantLong RX7 116 (4), Cond.methodLink RL 40 yX6_about, Cond.instanceMethod yX6_about, Cond.selects RX6 yX6_about yX6_about, Cond.code yX6_about cX6_about 4 (some .int), Cond.methodLink RX6 89 yX3_tapAt, Cond.methodLink RX6 93 yX6_aboutOf, Cond.instanceMethod yX6_aboutOf, Cond.selects RX6 yX6_aboutOf yX6_aboutOf, Cond.code yX6_aboutOf cX6_aboutOf 3 (some .int), Cond.fieldLink RX6 97 "DripSayings$Tap" "kind" "I", Cond.fieldLink RX6 114 "DripSayings$Tap" "saying" "I", Cond.fieldLink RX6 111 "DripSayings$Tap" "washer" "I", Cond.fieldLink RX6 105 "DripSayings$Tap" "place" "I"]
def wsL_law_r13 : List Cond := [Cond.methodLink RX6 166 yX6_sureOf, Cond.instanceMethod yX6_sureOf, Cond.selects RX6 yX6_sureOf yX6_sureOf, Cond.code yX6_sureOf cX6_sureOf 6 (some .int), Cond.methodLink RX6 185 Lib.Math.max.name, Cond.static Lib.Math.max.name, Cond.initialized "java/lang/Math", Cond.code Lib.Math.max.name Lib.Math.max.code 2 (some .int), Cond.methodLink RX6 182 yX6_enoughToTell, Cond.instanceMethod yX6_enoughToTell, Cond.selects RX6 yX6_enoughToTell yX6_enoughToTell, Cond.code yX6_enoughToTell cX6_enoughToTell 7 (some .int), Cond.methodLink RX6 162 yX4_dripBy, Cond.instanceMethod yX4_dripBy, Cond.selects RX4 yX4_dripBy yX4_dripBy, Cond.code yX4_dripBy cX4_dripBy 8 (some .int), Cond.methodLink RX4 18 yX4_lengthOf, Cond.methodLink RX4 22 yX4_beatOf, Cond.methodLink RX6 170 yX6_saysOf, Cond.instanceMethod yX6_saysOf, Cond.selects RX6 yX6_saysOf yX6_saysOf, Cond.code yX6_saysOf cX6_saysOf 4 (some .int), Cond.methodLink RX6 176 yX6_slipsOf, Cond.instanceMethod yX6_slipsOf]
def wsL_law_r14 : List Cond := [Cond.selects RX6 yX6_slipsOf yX6_slipsOf, Cond.code yX6_slipsOf cX6_slipsOf 6 (some .int), Cond.fieldLink RX6 121 "DripSayings$Room" "noteCount" "I", Cond.fieldLink RX6 194 "DripSayings$Note" "tap" "I", Cond.fieldLink RX6 199 "DripSayings$Tap" "number" "I", Cond.fieldLink RX6 202 "DripSayings$Note" "washer" "I", Cond.fieldLink RX6 203 "DripSayings$Note" "drip" "I", Cond.fieldLink RX6 206 "DripSayings$Note" "beat" "I", Cond.methodLink RX6 190 yX3_noteAt, Cond.instanceMethod yX3_noteAt, Cond.selects RX3 yX3_noteAt yX3_noteAt, Cond.code yX3_noteAt cX3_noteAt 2 (some (.object "DripSayings$Note")), Cond.methodLink RX6 173 yX6_likelyOf, Cond.instanceMethod yX6_likelyOf, Cond.selects RX6 yX6_likelyOf yX6_likelyOf, Cond.code yX6_likelyOf cX6_likelyOf 4 (some .int), Cond.methodLink RX6 179 yX6_bestToHear, Cond.instanceMethod yX6_bestToHear, Cond.selects RX6 yX6_bestToHear yX6_bestToHear, Cond.code yX6_bestToHear cX6_bestToHear 5 (some .int), Cond.methodLink RX6 209 yX6_leftAtWorst, Cond.instanceMethod yX6_leftAtWorst, Cond.selects RX6 yX6_leftAtWorst yX6_leftAtWorst, Cond.code yX6_leftAtWorst cX6_leftAtWorst 7 (some .int)]
def wsL_law_r15 : List Cond := [Cond.methodLink RL 43 yX7_about, Cond.instanceMethod yX7_about, Cond.selects RX7 yX7_about yX7_about, Cond.code yX7_about cX7_about 3 (some .int), Cond.methodLink RX7 136 yX7_isTap, Cond.instanceMethod yX7_isTap, Cond.selects RX7 yX7_isTap yX7_isTap, Cond.code yX7_isTap cX7_isTap 2 (some .boolean), Cond.methodLink RX7 139 yX7_tell, Cond.instanceMethod yX7_tell, Cond.selects RX7 yX7_tell yX7_tell, Cond.code yX7_tell cX7_tell 3 (some .int), Cond.methodLink RX7 121 yX7_sureOf, Cond.instanceMethod yX7_sureOf, Cond.selects RX7 yX7_sureOf yX7_sureOf, Cond.code yX7_sureOf cX7_sureOf 6 (some .int), Cond.methodLink RX7 118 yX7_patternOf, Cond.instanceMethod yX7_patternOf, Cond.selects RX7 yX7_patternOf yX7_patternOf, Cond.code yX7_patternOf cX7_patternOf 6 (some .int), Cond.methodLink RX7 112 yX7_dripAs, Cond.instanceMethod yX7_dripAs, Cond.selects RX7 yX7_dripAs yX7_dripAs, Cond.code yX7_dripAs cX7_dripAs 4 (some .int)]
def wsL_law_r16 : List Cond := [Cond.methodLink RX7 108 yX7_dripBy, Cond.instanceMethod yX7_dripBy, Cond.selects RX7 yX7_dripBy yX7_dripBy, Cond.code yX7_dripBy cX7_dripBy 9 (some .int), Cond.methodLink RX7 124 yX7_saysOf, Cond.instanceMethod yX7_saysOf, Cond.selects RX7 yX7_saysOf yX7_saysOf, Cond.code yX7_saysOf cX7_saysOf 4 (some .int), Cond.methodLink RX7 130 yX7_slipsBy, Cond.instanceMethod yX7_slipsBy, Cond.selects RX7 yX7_slipsBy yX7_slipsBy, Cond.code yX7_slipsBy cX7_slipsBy 6 (some .int), Cond.methodLink RX7 127 yX7_likelyOf, Cond.instanceMethod yX7_likelyOf, Cond.selects RX7 yX7_likelyOf yX7_likelyOf, Cond.code yX7_likelyOf cX7_likelyOf 4 (some .int), Cond.methodLink RX7 133 yX7_listenOf, Cond.instanceMethod yX7_listenOf, Cond.selects RX7 yX7_listenOf yX7_listenOf, Cond.code yX7_listenOf cX7_listenOf 10 (some .int), Cond.methodLink RL 44 yX6_as, Cond.instanceMethod yX6_as, Cond.selects RX6 yX6_as yX6_as, Cond.code yX6_as cX6_as 5 (some .int)]
def wsL_law_r17 : List Cond := [Cond.methodLink RL 47 yX7_as, Cond.instanceMethod yX7_as, Cond.selects RX7 yX7_as yX7_as, Cond.code yX7_as cX7_as 5 (some .int), Cond.methodLink RL 48 yX6_drip, Cond.instanceMethod yX6_drip, Cond.selects RX6 yX6_drip yX6_drip, Cond.code yX6_drip cX6_drip 4 (some .int), Cond.methodLink RX6 102 yX6_dripOf, Cond.instanceMethod yX6_dripOf, Cond.selects RX6 yX6_dripOf yX6_dripOf, Cond.code yX6_dripOf cX6_dripOf 3 (some .int), Cond.methodLink RL 51 yX7_drip, Cond.instanceMethod yX7_drip, Cond.selects RX7 yX7_drip yX7_drip, Cond.code yX7_drip cX7_drip 3 (some .int), Cond.constantLong RX7 142 (99), Cond.methodLink RX7 144 yX7_dripOf, Cond.instanceMethod yX7_dripOf, Cond.selects RX7 yX7_dripOf yX7_dripOf, Cond.code yX7_dripOf cX7_dripOf 3 (some .int), Cond.methodLink RL 52 yX6_listen, Cond.instanceMethod yX6_listen, Cond.selects RX6 yX6_listen yX6_listen]
def wsL_law_r18 : List Cond := [Cond.code yX6_listen cX6_listen 4 (some .int), Cond.fieldLink RX6 108 "DripSayings$Room" "changes" "I", Cond.methodLink RL 55 yX7_listen, Cond.instanceMethod yX7_listen, Cond.selects RX7 yX7_listen yX7_listen, Cond.code yX7_listen cX7_listen 3 (some .int), Cond.methodLink RL 56 yX6_washer, Cond.instanceMethod yX6_washer, Cond.selects RX6 yX6_washer yX6_washer, Cond.code yX6_washer cX6_washer 5 (some .int), Cond.methodLink RL 60 yX7_washer, Cond.instanceMethod yX7_washer, Cond.selects RX7 yX7_washer yX7_washer, Cond.code yX7_washer cX7_washer 4 (some .int), Cond.methodLink RL 61 yX6_teach, Cond.instanceMethod yX6_teach, Cond.selects RX6 yX6_teach yX6_teach, Cond.code yX6_teach cX6_teach 5 (some .int), Cond.methodLink RL 64 yX7_teach, Cond.instanceMethod yX7_teach, Cond.selects RX7 yX7_teach yX7_teach, Cond.code yX7_teach cX7_teach 4 (some .int), Cond.methodLink RL 65 yX6_agree, Cond.instanceMethod yX6_agree]
def wsL_law_r19 : List Cond := [Cond.selects RX6 yX6_agree yX6_agree, Cond.code yX6_agree cX6_agree 7 (some .int), Cond.methodLink RL 68 yX7_agree, Cond.instanceMethod yX7_agree, Cond.selects RX7 yX7_agree yX7_agree, Cond.code yX7_agree cX7_agree 3 (some .int), Cond.methodLink RX7 147 yX7_agreeOf, Cond.instanceMethod yX7_agreeOf, Cond.selects RX7 yX7_agreeOf yX7_agreeOf, Cond.code yX7_agreeOf cX7_agreeOf 5 (some .int), Cond.methodLink RL 69 yX6_near, Cond.instanceMethod yX6_near, Cond.selects RX6 yX6_near yX6_near, Cond.code yX6_near cX6_near 5 (some .int), Cond.methodLink RX6 117 yX6_nearOf, Cond.instanceMethod yX6_nearOf, Cond.selects RX6 yX6_nearOf yX6_nearOf, Cond.code yX6_nearOf cX6_nearOf 6 (some .int), Cond.methodLink RX6 215 Lib.Math.min.name, Cond.static Lib.Math.min.name, Cond.code Lib.Math.min.name Lib.Math.min.code 2 (some .int), Cond.methodLink RX6 212 yX6_unlikeOf, Cond.instanceMethod yX6_unlikeOf, Cond.selects RX6 yX6_unlikeOf yX6_unlikeOf]
def wsL_law_r20 : List Cond := [Cond.code yX6_unlikeOf cX6_unlikeOf 7 (some .int), Cond.methodLink RL 73 yX7_near, Cond.instanceMethod yX7_near, Cond.selects RX7 yX7_near yX7_near, Cond.code yX7_near cX7_near 4 (some .int), Cond.methodLink RX7 153 yX7_nearOf, Cond.instanceMethod yX7_nearOf, Cond.selects RX7 yX7_nearOf yX7_nearOf, Cond.code yX7_nearOf cX7_nearOf 7 (some .int), Cond.methodLink RX7 150 yX7_unlikeBy, Cond.instanceMethod yX7_unlikeBy, Cond.selects RX7 yX7_unlikeBy yX7_unlikeBy, Cond.code yX7_unlikeBy cX7_unlikeBy 7 (some .int), Cond.methodLink RL 74 yX6_put, Cond.instanceMethod yX6_put, Cond.selects RX6 yX6_put yX6_put, Cond.code yX6_put cX6_put 5 (some .int), Cond.methodLink RX6 124 yX3_addNote, Cond.instanceMethod yX3_addNote, Cond.selects RX3 yX3_addNote yX3_addNote, Cond.code yX3_addNote cX3_addNote 5 none, Cond.fieldLink RX3 49 "DripSayings$Tap" "number" "I", Cond.fieldLink RX3 52 "DripSayings$Tap" "washer" "I", Cond.methodLink RX3 45 yX3_noteAt]
def wsL_law_r21 : List Cond := [Cond.methodLink RX3 55 yX0_become, Cond.instanceMethod yX0_become, Cond.selects RX0 yX0_become yX0_become, Cond.code yX0_become cX0_become 5 none, Cond.fieldLink RX0 7 "DripSayings$Note" "tap" "I", Cond.fieldLink RX0 13 "DripSayings$Note" "drip" "I", Cond.fieldLink RX0 16 "DripSayings$Note" "beat" "I", Cond.fieldLink RX0 19 "DripSayings$Note" "washer" "I", Cond.methodLink RL 78 yX7_put, Cond.instanceMethod yX7_put, Cond.selects RX7 yX7_put yX7_put, Cond.code yX7_put cX7_put 4 (some .int), Cond.constantLong RX7 156 (59), Cond.methodLink RL 79 yX6_forget, Cond.instanceMethod yX6_forget, Cond.selects RX6 yX6_forget yX6_forget, Cond.code yX6_forget cX6_forget 2 (some .int), Cond.methodLink RL 82 yX7_forget, Cond.instanceMethod yX7_forget, Cond.selects RX7 yX7_forget yX7_forget, Cond.code yX7_forget cX7_forget 2 (some .int), Cond.methodLink RL 83 yX6_nights, Cond.instanceMethod yX6_nights, Cond.selects RX6 yX6_nights yX6_nights]
def wsL_law_r22 : List Cond := [Cond.code yX6_nights cX6_nights 11 (some .int), Cond.methodLink RX6 128 yX6_nextSeed, Cond.static yX6_nextSeed, Cond.code yX6_nextSeed cX6_nextSeed 1 (some .int), Cond.constantLong RX6 218 (1103515245), Cond.constantLong RX6 220 (12345), Cond.constantLong RX6 222 (2147483648), Cond.methodLink RX6 131 yX6_drawOf, Cond.static yX6_drawOf, Cond.code yX6_drawOf cX6_drawOf 1 (some .int), Cond.constant RX6 224 (65536), Cond.methodLink RL 86 yX7_nights, Cond.instanceMethod yX7_nights, Cond.selects RX7 yX7_nights yX7_nights, Cond.code yX7_nights cX7_nights 10 (some .int), Cond.constantLong RX7 168 (40), Cond.constantLong RX7 170 (2), Cond.fieldLink RX7 160 "DripSayingsModel" "seedNow" "I", Cond.methodLink RX7 172 yX7_draw, Cond.instanceMethod yX7_draw, Cond.selects RX7 yX7_draw yX7_draw, Cond.code yX7_draw cX7_draw 2 (some .int), Cond.constantLong RX7 158 (1103515245), Cond.constantLong RX7 163 (12345)]
def wsL_law_r23 : List Cond := [Cond.constantLong RX7 165 (2147483647), Cond.constant RX7 167 (65536), Cond.methodLink RL 87 yX6_image, Cond.instanceMethod yX6_image, Cond.selects RX6 yX6_image yX6_image, Cond.code yX6_image cX6_image 1 (some .int), Cond.methodLink RX6 134 yX3_copyFrom, Cond.instanceMethod yX3_copyFrom, Cond.selects RX3 yX3_copyFrom yX3_copyFrom, Cond.code yX3_copyFrom cX3_copyFrom 5 none, Cond.fieldLink RX3 56 "DripSayings$Tap" "kind" "I", Cond.fieldLink RX3 59 "DripSayings$Tap" "saying" "I", Cond.fieldLink RX3 62 "DripSayings$Tap" "place" "I", Cond.fieldLink RX3 65 "DripSayings$Note" "tap" "I", Cond.fieldLink RX3 68 "DripSayings$Note" "drip" "I", Cond.fieldLink RX3 71 "DripSayings$Note" "beat" "I", Cond.fieldLink RX3 74 "DripSayings$Note" "washer" "I", Cond.methodLink RL 90 yX7_image, Cond.instanceMethod yX7_image, Cond.selects RX7 yX7_image yX7_image, Cond.code yX7_image cX7_image 1 (some .int), Cond.fieldLink RX7 175 "DripSayingsModel" "keptTaps" "I", Cond.fieldLink RX7 178 "DripSayingsModel" "keptChanges" "I", Cond.fieldLink RX7 181 "DripSayingsModel" "keptPuts" "I"]
def wsL_law_r24 : List Cond := [Cond.methodLink RL 91 yX6_restore, Cond.instanceMethod yX6_restore, Cond.selects RX6 yX6_restore yX6_restore, Cond.code yX6_restore cX6_restore 1 (some .int), Cond.methodLink RL 94 yX7_restore, Cond.instanceMethod yX7_restore, Cond.selects RX7 yX7_restore yX7_restore, Cond.code yX7_restore cX7_restore 1 (some .int), Cond.methodLink RL 95 yX6_count, Cond.instanceMethod yX6_count, Cond.selects RX6 yX6_count yX6_count, Cond.code yX6_count cX6_count 2 (some .int), Cond.methodLink RX6 138 yX6_countOf, Cond.instanceMethod yX6_countOf, Cond.selects RX6 yX6_countOf yX6_countOf, Cond.code yX6_countOf cX6_countOf 2 (some .int), Cond.methodLink RX6 225 yX4_beatCount, Cond.instanceMethod yX4_beatCount, Cond.selects RX4 yX4_beatCount yX4_beatCount, Cond.code yX4_beatCount cX4_beatCount 3 (some .int), Cond.methodLink RX6 228 yX3_washerCount, Cond.instanceMethod yX3_washerCount, Cond.selects RX3 yX3_washerCount yX3_washerCount, Cond.code yX3_washerCount cX3_washerCount 4 (some .int)]
def wsL_law_r25 : List Cond := [Cond.methodLink RX6 231 yX3_heardCount, Cond.instanceMethod yX3_heardCount, Cond.selects RX3 yX3_heardCount yX3_heardCount, Cond.code yX3_heardCount cX3_heardCount 4 (some .int), Cond.methodLink RL 98 yX7_count, Cond.instanceMethod yX7_count, Cond.selects RX7 yX7_count yX7_count, Cond.code yX7_count cX7_count 2 (some .int), Cond.methodLink RX7 190 yX7_countOf, Cond.instanceMethod yX7_countOf, Cond.selects RX7 yX7_countOf yX7_countOf, Cond.code yX7_countOf cX7_countOf 2 (some .int), Cond.methodLink RX7 184 yX7_beatsAll, Cond.instanceMethod yX7_beatsAll, Cond.selects RX7 yX7_beatsAll yX7_beatsAll, Cond.code yX7_beatsAll cX7_beatsAll 3 (some .int), Cond.methodLink RX7 187 yX7_sumAt, Cond.instanceMethod yX7_sumAt, Cond.selects RX7 yX7_sumAt yX7_sumAt, Cond.code yX7_sumAt cX7_sumAt 4 (some .int), Cond.methodLink RL 99 yX6_digest, Cond.instanceMethod yX6_digest, Cond.selects RX6 yX6_digest yX6_digest, Cond.code yX6_digest cX6_digest 5 (some .long)]
def wsL_law_r26 : List Cond := [Cond.constantLong RX6 141 (1061), Cond.constantLong RX6 151 (31), Cond.methodLink RX6 143 yX6_digestSayings, Cond.instanceMethod yX6_digestSayings, Cond.selects RX6 yX6_digestSayings yX6_digestSayings, Cond.code yX6_digestSayings cX6_digestSayings 7 (some .long), Cond.methodLink RX6 147 yX6_digestTap, Cond.instanceMethod yX6_digestTap, Cond.selects RX6 yX6_digestTap yX6_digestTap, Cond.code yX6_digestTap cX6_digestTap 8 (some .long), Cond.methodLink RL 103 yX7_digest, Cond.instanceMethod yX7_digest, Cond.selects RX7 yX7_digest yX7_digest, Cond.code yX7_digest cX7_digest 3 (some .long), Cond.constantLong RX7 203 (1061), Cond.fieldLink RX7 195 "DripSayingsModel" "hash" "J", Cond.methodLink RX7 199 yX7_say, Cond.instanceMethod yX7_say, Cond.selects RX7 yX7_say yX7_say, Cond.code yX7_say cX7_say 3 none, Cond.constantLong RX7 193 (31), Cond.methodLink RX7 205 yX7_sayTap, Cond.instanceMethod yX7_sayTap, Cond.selects RX7 yX7_sayTap yX7_sayTap]
def wsL_law_r27 : List Cond := [Cond.code yX7_sayTap cX7_sayTap 3 none]
def wsL_law : List Cond := (wsL_law_r1 ++ (wsL_law_r2 ++ (wsL_law_r3 ++ (wsL_law_r4 ++ (wsL_law_r5 ++ (wsL_law_r6 ++ (wsL_law_r7 ++ (wsL_law_r8 ++ (wsL_law_r9 ++ (wsL_law_r10 ++ (wsL_law_r11 ++ (wsL_law_r12 ++ (wsL_law_r13 ++ (wsL_law_r14 ++ (wsL_law_r15 ++ (wsL_law_r16 ++ (wsL_law_r17 ++ (wsL_law_r18 ++ (wsL_law_r19 ++ (wsL_law_r20 ++ (wsL_law_r21 ++ (wsL_law_r22 ++ (wsL_law_r23 ++ (wsL_law_r24 ++ (wsL_law_r25 ++ (wsL_law_r26 ++ wsL_law_r27)))))))))))))))))))))))))) ++ wsX60 ++ wsX70 ++ wsX10 ++ wsX40 ++ wsX30 ++ wsX20 ++ wsX50 ++ wsX00 ++ ([] : List Cond)
set_option maxRecDepth 20000 in
theorem wsL_law_in : ∀ w ∈ wsL_law, w ∈ lw_tbl := fun w h => (goodIn_p wsL_law [56, 59, 64, 70, 98, 111, 118, 151, 502, 218, 222, 574, 578, 226, 230, 582, 234, 238, 242, 246, 250, 254, 258, 261, 264, 586, 590, 594, 598, 601, 268, 272, 277, 281, 285, 289, 294, 299, 303, 307, 607, 610, 311, 316, 320, 614, 618, 621, 626, 324, 327, 632, 331, 336, 340, 353, 344, 348, 357, 361, 365, 369, 373, 377, 637, 641, 645, 649, 653, 657, 661, 665, 669, 673, 677, 381, 681, 385, 389, 685, 690, 393, 694, 397, 698, 401, 702, 405, 706, 710, 409, 413, 420, 417, 714, 718, 722, 424, 428, 433, 726, 437, 731, 441, 444, 450, 735, 741, 455, 459, 749, 463, 753, 467, 471, 475, 479, 483, 757, 761, 765, 769, 487, 492, 497, 773, 778, 783] (by decide +kernel) (by decide +kernel) w h).1
theorem inlX0 : ∀ w ∈ wsX00, w ∈ wsL_law := fun _ h => List.mem_append_left _ (List.mem_append_right _ h)
theorem inX0 : ∀ w ∈ wsX00, w ∈ lw_tbl := fun w h => wsL_law_in w (inlX0 w h)
theorem inlX1 : ∀ w ∈ wsX10, w ∈ wsL_law := fun _ h => List.mem_append_left _ (List.mem_append_left _ (List.mem_append_left _ (List.mem_append_left _ (List.mem_append_left _ (List.mem_append_left _ (List.mem_append_right _ h))))))
theorem inX1 : ∀ w ∈ wsX10, w ∈ lw_tbl := fun w h => wsL_law_in w (inlX1 w h)
theorem inlX2 : ∀ w ∈ wsX20, w ∈ wsL_law := fun _ h => List.mem_append_left _ (List.mem_append_left _ (List.mem_append_left _ (List.mem_append_right _ h)))
theorem inX2 : ∀ w ∈ wsX20, w ∈ lw_tbl := fun w h => wsL_law_in w (inlX2 w h)
theorem inlX3 : ∀ w ∈ wsX30, w ∈ wsL_law := fun _ h => List.mem_append_left _ (List.mem_append_left _ (List.mem_append_left _ (List.mem_append_left _ (List.mem_append_right _ h))))
theorem inX3 : ∀ w ∈ wsX30, w ∈ lw_tbl := fun w h => wsL_law_in w (inlX3 w h)
theorem inlX4 : ∀ w ∈ wsX40, w ∈ wsL_law := fun _ h => List.mem_append_left _ (List.mem_append_left _ (List.mem_append_left _ (List.mem_append_left _ (List.mem_append_left _ (List.mem_append_right _ h)))))
theorem inX4 : ∀ w ∈ wsX40, w ∈ lw_tbl := fun w h => wsL_law_in w (inlX4 w h)
theorem inlX5 : ∀ w ∈ wsX50, w ∈ wsL_law := fun _ h => List.mem_append_left _ (List.mem_append_left _ (List.mem_append_right _ h))
theorem inX5 : ∀ w ∈ wsX50, w ∈ lw_tbl := fun w h => wsL_law_in w (inlX5 w h)
theorem inlX6 : ∀ w ∈ wsX60, w ∈ wsL_law := fun _ h => List.mem_append_left _ (List.mem_append_left _ (List.mem_append_left _ (List.mem_append_left _ (List.mem_append_left _ (List.mem_append_left _ (List.mem_append_left _ (List.mem_append_left _ (List.mem_append_right _ h))))))))
theorem inX6 : ∀ w ∈ wsX60, w ∈ lw_tbl := fun w h => wsL_law_in w (inlX6 w h)
theorem inlX7 : ∀ w ∈ wsX70, w ∈ wsL_law := fun _ h => List.mem_append_left _ (List.mem_append_left _ (List.mem_append_left _ (List.mem_append_left _ (List.mem_append_left _ (List.mem_append_left _ (List.mem_append_left _ (List.mem_append_right _ h)))))))
theorem inX7 : ∀ w ∈ wsX70, w ∈ lw_tbl := fun w h => wsL_law_in w (inlX7 w h)
theorem inJ9 : ∀ w ∈ wsJ90, w ∈ lw_tbl := by decide +kernel
set_option maxRecDepth 20000 in
theorem ggX1_init_X2_init : GoodIn wsX1_init wsX2_init := goodIn_r _ [11, 12, 2, 3] (by decide +kernel) (by decide +kernel)
set_option maxRecDepth 20000 in
theorem gX1_init_X2_init_n17 : GoodIn wsX1_init (wsX2_init) := ggX1_init_X2_init
set_option maxRecDepth 20000 in
theorem ggX1_firstFault_X2_begin : GoodIn wsX1_firstFault wsX2_begin := goodIn_r _ [7, 8, 9, 10, 37, 38, 39] (by decide +kernel) (by decide +kernel)
set_option maxRecDepth 20000 in
theorem gX1_firstFault_X2_begin : GoodIn wsX1_firstFault (wsV RX1 26 RX2 yX2_begin wsX2_begin) := goodIn_app (goodIn_of _ (by decide +kernel)) ggX1_firstFault_X2_begin
set_option maxRecDepth 20000 in
theorem ggX1_firstFault_X1_codeAt : GoodIn wsX1_firstFault wsX1_codeAt := goodIn_r _ [15, 2, 16, 34, 35, 36] (by decide +kernel) (by decide +kernel)
set_option maxRecDepth 20000 in
theorem gX1_firstFault_X1_codeAt : GoodIn wsX1_firstFault (wsV RX1 29 RX1 yX1_codeAt wsX1_codeAt) := goodIn_app (goodIn_of _ (by decide +kernel)) ggX1_firstFault_X1_codeAt
set_option maxRecDepth 20000 in
theorem ggX1_firstFault_X2_takes : GoodIn wsX1_firstFault wsX2_takes := goodIn_r _ [20, 8, 21, 22, 23, 6, 24, 10, 25, 26, 27, 28, 9, 29, 30, 31, 32, 33, 37, 38, 39] (by decide +kernel) (by decide +kernel)
set_option maxRecDepth 20000 in
theorem gX1_firstFault_X2_takes : GoodIn wsX1_firstFault (wsV RX1 33 RX2 yX2_takes wsX2_takes) := goodIn_app (goodIn_of _ (by decide +kernel)) ggX1_firstFault_X2_takes
set_option maxRecDepth 20000 in
theorem ggX1_isHouse_X1_firstFault : GoodIn wsX1_isHouse wsX1_firstFault := goodIn_r _ [7, 2, 1, 8, 9, 10, 11, 12, 13, 14, 15, 16, 17, 18, 6, 19, 20, 21, 22, 23, 24, 25, 26, 27, 28, 29, 30, 31, 32, 33, 34, 35, 36, 37, 42, 43, 44, 45, 46, 47] (by decide +kernel) (by decide +kernel)
set_option maxRecDepth 20000 in
theorem gX1_isHouse_X1_firstFault : GoodIn wsX1_isHouse (wsV RX1 37 RX1 yX1_firstFault wsX1_firstFault) := goodIn_app (goodIn_of _ (by decide +kernel)) ggX1_isHouse_X1_firstFault
set_option maxRecDepth 20000 in
theorem ggX1_isHouse_X2_isAtEnd : GoodIn wsX1_isHouse wsX2_isAtEnd := goodIn_r _ [41, 13, 15, 45, 46, 47] (by decide +kernel) (by decide +kernel)
set_option maxRecDepth 20000 in
theorem gX1_isHouse_X2_isAtEnd : GoodIn wsX1_isHouse (wsV RX1 41 RX2 yX2_isAtEnd wsX2_isAtEnd) := goodIn_app (goodIn_of _ (by decide +kernel)) ggX1_isHouse_X2_isAtEnd
set_option maxRecDepth 20000 in
theorem ggX2_takes_X2_takesInSaying : GoodIn wsX2_takes wsX2_takesInSaying := goodIn_r _ [6, 7, 1, 18, 19, 20] (by decide +kernel) (by decide +kernel)
set_option maxRecDepth 20000 in
theorem gX2_takes_X2_takesInSaying : GoodIn wsX2_takes (wsV RX2 21 RX2 yX2_takesInSaying wsX2_takesInSaying) := goodIn_app (goodIn_of _ (by decide +kernel)) ggX2_takes_X2_takesInSaying
set_option maxRecDepth 20000 in
theorem ggX2_takes_X2_takesInTap : GoodIn wsX2_takes wsX2_takesInTap := goodIn_r _ [11, 7, 12, 13, 14, 15, 16, 17, 18, 19, 20] (by decide +kernel) (by decide +kernel)
set_option maxRecDepth 20000 in
theorem gX2_takes_X2_takesInTap : GoodIn wsX2_takes (wsV RX2 25 RX2 yX2_takesInTap wsX2_takesInTap) := goodIn_app (goodIn_of _ (by decide +kernel)) ggX2_takes_X2_takesInTap
set_option maxRecDepth 20000 in
theorem ggX2_takesInTap_X6_kindOfLetter : GoodIn wsX2_takesInTap wsX6_kindOfLetter := goodIn_r _ [5] (by decide +kernel) (by decide +kernel)
set_option maxRecDepth 20000 in
theorem gX2_takesInTap_X6_kindOfLetter_n28 : GoodIn wsX2_takesInTap (wsX6_kindOfLetter) := ggX2_takesInTap_X6_kindOfLetter
set_option maxRecDepth 20000 in
theorem ggX2_takesInTap_X6_isSaying : GoodIn wsX2_takesInTap wsX6_isSaying := goodIn_r _ [7] (by decide +kernel) (by decide +kernel)
set_option maxRecDepth 20000 in
theorem gX2_takesInTap_X6_isSaying_n32 : GoodIn wsX2_takesInTap (wsX6_isSaying) := ggX2_takesInTap_X6_isSaying
set_option maxRecDepth 20000 in
theorem ggX3_init_X5_init : GoodIn wsX3_init wsX5_init := goodIn_r _ [14, 15, 2, 3, 16, 25, 26, 27, 28, 29] (by decide +kernel) (by decide +kernel)
set_option maxRecDepth 20000 in
theorem gX3_init_X5_init : GoodIn wsX3_init (wsX5_init) := ggX3_init_X5_init
set_option maxRecDepth 20000 in
theorem ggX3_init_X0_init : GoodIn wsX3_init wsX0_init := goodIn_r _ [18, 19, 2, 3] (by decide +kernel) (by decide +kernel)
set_option maxRecDepth 20000 in
theorem gX3_init_X0_init_n26 : GoodIn wsX3_init (wsX0_init) := ggX3_init_X0_init
set_option maxRecDepth 20000 in
theorem ggX3_addTap_X3_tapAt : GoodIn wsX3_addTap wsX3_tapAt := goodIn_r _ [6, 1, 7, 17, 18, 19, 20, 21] (by decide +kernel) (by decide +kernel)
set_option maxRecDepth 20000 in
theorem gX3_addTap_X3_tapAt : GoodIn wsX3_addTap (wsV RX3 37 RX3 yX3_tapAt wsX3_tapAt) := goodIn_app (goodIn_of _ (by decide +kernel)) ggX3_addTap_X3_tapAt
set_option maxRecDepth 20000 in
theorem ggX3_addTap_X5_become : GoodIn wsX3_addTap wsX5_become := goodIn_r _ [12, 13, 14, 15, 16, 22, 23, 24, 25, 26] (by decide +kernel) (by decide +kernel)
set_option maxRecDepth 20000 in
theorem gX3_addTap_X5_become : GoodIn wsX3_addTap (wsV RX3 41 RX5 yX5_become wsX5_become) := goodIn_app (goodIn_of _ (by decide +kernel)) ggX3_addTap_X5_become
set_option maxRecDepth 20000 in
theorem ggX3_addNote_X3_noteAt : GoodIn wsX3_addNote wsX3_noteAt := goodIn_r _ [8, 1, 9, 19, 20, 21, 22, 23] (by decide +kernel) (by decide +kernel)
set_option maxRecDepth 20000 in
theorem gX3_addNote_X3_noteAt : GoodIn wsX3_addNote (wsV RX3 45 RX3 yX3_noteAt wsX3_noteAt) := goodIn_app (goodIn_of _ (by decide +kernel)) ggX3_addNote_X3_noteAt
set_option maxRecDepth 20000 in
theorem ggX3_addNote_X0_become : GoodIn wsX3_addNote wsX0_become := goodIn_r _ [14, 15, 16, 17, 18, 29, 30, 31, 32] (by decide +kernel) (by decide +kernel)
set_option maxRecDepth 20000 in
theorem gX3_addNote_X0_become : GoodIn wsX3_addNote (wsV RX3 55 RX0 yX0_become wsX0_become) := goodIn_app (goodIn_of _ (by decide +kernel)) ggX3_addNote_X0_become
set_option maxRecDepth 20000 in
theorem ggX3_copyFrom_X3_tapAt : GoodIn wsX3_copyFrom wsX3_tapAt := goodIn_r _ [16, 1, 17, 41, 42, 43, 44, 45] (by decide +kernel) (by decide +kernel)
set_option maxRecDepth 20000 in
theorem gX3_copyFrom_X3_tapAt : GoodIn wsX3_copyFrom (wsV RX3 37 RX3 yX3_tapAt wsX3_tapAt) := goodIn_app (goodIn_of _ (by decide +kernel)) ggX3_copyFrom_X3_tapAt
set_option maxRecDepth 20000 in
theorem ggX3_copyFrom_X5_become : GoodIn wsX3_copyFrom wsX5_become := goodIn_r _ [22, 23, 24, 25, 26, 46, 47, 48, 49, 50] (by decide +kernel) (by decide +kernel)
set_option maxRecDepth 20000 in
theorem gX3_copyFrom_X5_become : GoodIn wsX3_copyFrom (wsV RX3 41 RX5 yX5_become wsX5_become) := goodIn_app (goodIn_of _ (by decide +kernel)) ggX3_copyFrom_X5_become
set_option maxRecDepth 20000 in
theorem ggX3_copyFrom_X3_noteAt : GoodIn wsX3_copyFrom wsX3_noteAt := goodIn_r _ [30, 2, 31, 41, 42, 43, 44, 45] (by decide +kernel) (by decide +kernel)
set_option maxRecDepth 20000 in
theorem gX3_copyFrom_X3_noteAt : GoodIn wsX3_copyFrom (wsV RX3 45 RX3 yX3_noteAt wsX3_noteAt) := goodIn_app (goodIn_of _ (by decide +kernel)) ggX3_copyFrom_X3_noteAt
set_option maxRecDepth 20000 in
theorem ggX3_copyFrom_X0_become : GoodIn wsX3_copyFrom wsX0_become := goodIn_r _ [36, 37, 38, 39, 40, 51, 52, 53, 54] (by decide +kernel) (by decide +kernel)
set_option maxRecDepth 20000 in
theorem gX3_copyFrom_X0_become : GoodIn wsX3_copyFrom (wsV RX3 55 RX0 yX0_become wsX0_become) := goodIn_app (goodIn_of _ (by decide +kernel)) ggX3_copyFrom_X0_become
set_option maxRecDepth 20000 in
theorem ggX3_washerCount_X3_tapAt : GoodIn wsX3_washerCount wsX3_tapAt := goodIn_r _ [7, 1, 8, 9, 10, 11, 12, 13] (by decide +kernel) (by decide +kernel)
set_option maxRecDepth 20000 in
theorem gX3_washerCount_X3_tapAt : GoodIn wsX3_washerCount (wsV RX3 37 RX3 yX3_tapAt wsX3_tapAt) := goodIn_app (goodIn_of _ (by decide +kernel)) ggX3_washerCount_X3_tapAt
set_option maxRecDepth 20000 in
theorem ggX3_heardCount_X3_tapAt : GoodIn wsX3_heardCount wsX3_tapAt := goodIn_r _ [7, 1, 8, 9, 10, 11, 12, 13] (by decide +kernel) (by decide +kernel)
set_option maxRecDepth 20000 in
theorem gX3_heardCount_X3_tapAt : GoodIn wsX3_heardCount (wsV RX3 37 RX3 yX3_tapAt wsX3_tapAt) := goodIn_app (goodIn_of _ (by decide +kernel)) ggX3_heardCount_X3_tapAt
set_option maxRecDepth 20000 in
theorem ggX4_dripBy_X4_lengthOf : GoodIn wsX4_dripBy wsX4_lengthOf := goodIn_r _ [5, 6, 12, 13] (by decide +kernel) (by decide +kernel)
set_option maxRecDepth 20000 in
theorem gX4_dripBy_X4_lengthOf : GoodIn wsX4_dripBy (wsV RX4 18 RX4 yX4_lengthOf wsX4_lengthOf) := goodIn_app (goodIn_of _ (by decide +kernel)) ggX4_dripBy_X4_lengthOf
set_option maxRecDepth 20000 in
theorem ggX4_dripBy_X4_beatOf : GoodIn wsX4_dripBy wsX4_beatOf := goodIn_r _ [10, 11, 12, 13] (by decide +kernel) (by decide +kernel)
set_option maxRecDepth 20000 in
theorem gX4_dripBy_X4_beatOf : GoodIn wsX4_dripBy (wsV RX4 22 RX4 yX4_beatOf wsX4_beatOf) := goodIn_app (goodIn_of _ (by decide +kernel)) ggX4_dripBy_X4_beatOf
set_option maxRecDepth 20000 in
theorem ggX6_init_X1_init : GoodIn wsX6_init wsX1_init := goodIn_r _ [19, 20, 2, 3, 21, 22, 23, 24, 25, 26, 27, 28, 29, 56, 57, 58, 73, 74, 75] (by decide +kernel) (by decide +kernel)
set_option maxRecDepth 20000 in
theorem gX6_init_X1_init : GoodIn wsX6_init (wsX1_init) := ggX6_init_X1_init
set_option maxRecDepth 20000 in
theorem ggX6_init_X4_init : GoodIn wsX6_init wsX4_init := goodIn_r _ [32, 33, 2, 3, 21, 34, 35, 66, 67] (by decide +kernel) (by decide +kernel)
set_option maxRecDepth 20000 in
theorem gX6_init_X4_init : GoodIn wsX6_init (wsX4_init) := ggX6_init_X4_init
set_option maxRecDepth 20000 in
theorem ggX6_init_X3_init : GoodIn wsX6_init wsX3_init := goodIn_r _ [38, 39, 2, 3, 40, 41, 42, 43, 44, 45, 46, 47, 48, 49, 50, 51, 52, 53, 54, 55, 68, 69, 70, 71, 72, 76, 77, 78, 79, 80, 81, 82, 83, 84] (by decide +kernel) (by decide +kernel)
set_option maxRecDepth 20000 in
theorem gX6_init_X3_init : GoodIn wsX6_init (wsX3_init) := ggX6_init_X3_init
set_option maxRecDepth 20000 in
theorem ggX6_letter_X1_add : GoodIn wsX6_letter wsX1_add := goodIn_r _ [7, 8, 9, 17, 18, 19] (by decide +kernel) (by decide +kernel)
set_option maxRecDepth 20000 in
theorem gX6_letter_X1_add : GoodIn wsX6_letter (wsV RX6 37 RX1 yX1_add wsX1_add) := goodIn_app (goodIn_of _ (by decide +kernel)) ggX6_letter_X1_add
set_option maxRecDepth 20000 in
theorem ggX6_blank_X1_clear : GoodIn wsX6_blank wsX1_clear := goodIn_r _ [7, 8, 16, 17, 18] (by decide +kernel) (by decide +kernel)
set_option maxRecDepth 20000 in
theorem gX6_blank_X1_clear : GoodIn wsX6_blank (wsV RX6 41 RX1 yX1_clear wsX1_clear) := goodIn_app (goodIn_of _ (by decide +kernel)) ggX6_blank_X1_clear
set_option maxRecDepth 20000 in
theorem ggX6_fault_X1_firstFault : GoodIn wsX6_fault wsX1_firstFault := goodIn_r _ [6, 7, 8, 9, 10, 11, 12, 13, 14, 15, 16, 17, 18, 19, 5, 20, 21, 22, 23, 24, 25, 26, 27, 28, 29, 30, 31, 32, 33, 34, 35, 36, 37, 38, 46, 47, 48, 49, 50, 51] (by decide +kernel) (by decide +kernel)
set_option maxRecDepth 20000 in
theorem gX6_fault_X1_firstFault : GoodIn wsX6_fault (wsV RX6 44 RX1 yX1_firstFault wsX1_firstFault) := goodIn_app (goodIn_of _ (by decide +kernel)) ggX6_fault_X1_firstFault
set_option maxRecDepth 20000 in
theorem ggX6_house_X1_isHouse : GoodIn wsX6_house wsX1_isHouse := goodIn_r _ [12, 13, 14, 15, 16, 17, 11, 18, 19, 20, 21, 22, 23, 24, 25, 26, 27, 28, 29, 30, 31, 32, 33, 34, 35, 36, 37, 38, 39, 40, 41, 42, 43, 44, 45, 46, 47, 48, 49, 50, 51, 52, 113, 114, 115, 116, 117, 118] (by decide +kernel) (by decide +kernel)
set_option maxRecDepth 20000 in
theorem gX6_house_X1_isHouse : GoodIn wsX6_house (wsV RX6 48 RX1 yX1_isHouse wsX1_isHouse) := goodIn_app (goodIn_of _ (by decide +kernel)) ggX6_house_X1_isHouse
set_option maxRecDepth 20000 in
theorem ggX6_house_X4_clear : GoodIn wsX6_house wsX4_clear := goodIn_r _ [57, 58, 59, 119, 120] (by decide +kernel) (by decide +kernel)
set_option maxRecDepth 20000 in
theorem gX6_house_X4_clear : GoodIn wsX6_house (wsV RX6 52 RX4 yX4_clear wsX4_clear) := goodIn_app (goodIn_of _ (by decide +kernel)) ggX6_house_X4_clear
set_option maxRecDepth 20000 in
theorem ggX6_house_X3_clear : GoodIn wsX6_house wsX3_clear := goodIn_r _ [64, 65, 66, 67, 108, 109, 110, 111, 112] (by decide +kernel) (by decide +kernel)
set_option maxRecDepth 20000 in
theorem gX6_house_X3_clear : GoodIn wsX6_house (wsV RX6 53 RX3 yX3_clear wsX3_clear) := goodIn_app (goodIn_of _ (by decide +kernel)) ggX6_house_X3_clear
set_option maxRecDepth 20000 in
theorem ggX6_house_X6_readPage : GoodIn wsX6_house wsX6_readPage := goodIn_r _ [71, 1, 72, 2, 3, 73, 28, 29, 11, 30, 13, 31, 74, 75, 76, 56, 77, 59, 58, 78, 44, 45, 46, 79, 80, 81, 63, 82, 65, 83, 84, 85, 86, 87, 88, 89, 90, 91, 92, 93, 94, 95, 96, 101, 102, 103, 104, 105, 106, 107, 113, 114, 115, 119, 120, 108, 109, 110, 111, 112, 121, 122, 123, 124, 125] (by decide +kernel) (by decide +kernel)
set_option maxRecDepth 20000 in
theorem gX6_house_X6_readPage : GoodIn wsX6_house (wsV RX6 54 RX6 yX6_readPage wsX6_readPage) := goodIn_app (goodIn_of _ (by decide +kernel)) ggX6_house_X6_readPage
set_option maxRecDepth 20000 in
theorem ggX6_house_X1_clear : GoodIn wsX6_house wsX1_clear := goodIn_r _ [100, 13, 113, 114, 115] (by decide +kernel) (by decide +kernel)
set_option maxRecDepth 20000 in
theorem gX6_house_X1_clear : GoodIn wsX6_house (wsV RX6 41 RX1 yX1_clear wsX1_clear) := goodIn_app (goodIn_of _ (by decide +kernel)) ggX6_house_X1_clear
set_option maxRecDepth 20000 in
theorem ggX6_saying_X6_isSaying : GoodIn wsX6_saying wsX6_isSaying := goodIn_r _ [6] (by decide +kernel) (by decide +kernel)
set_option maxRecDepth 20000 in
theorem gX6_saying_X6_isSaying : GoodIn wsX6_saying (va_wsS RX6 70 yX6_isSaying wsX6_isSaying) := goodIn_app (goodIn_of _ (by decide +kernel)) ggX6_saying_X6_isSaying
set_option maxRecDepth 20000 in
theorem ggX6_saying_X4_lengthOf : GoodIn wsX6_saying wsX4_lengthOf := goodIn_r _ [11, 12, 25, 26] (by decide +kernel) (by decide +kernel)
set_option maxRecDepth 20000 in
theorem gX6_saying_X4_lengthOf : GoodIn wsX6_saying (wsV RX6 74 RX4 yX4_lengthOf wsX4_lengthOf) := goodIn_app (goodIn_of _ (by decide +kernel)) ggX6_saying_X4_lengthOf
set_option maxRecDepth 20000 in
theorem ggX6_saying_X4_beatOf : GoodIn wsX6_saying wsX4_beatOf := goodIn_r _ [16, 17, 25, 26] (by decide +kernel) (by decide +kernel)
set_option maxRecDepth 20000 in
theorem gX6_saying_X4_beatOf : GoodIn wsX6_saying (wsV RX6 78 RX4 yX4_beatOf wsX4_beatOf) := goodIn_app (goodIn_of _ (by decide +kernel)) ggX6_saying_X4_beatOf
set_option maxRecDepth 20000 in
theorem ggX6_tap_X6_isKind : GoodIn wsX6_tap wsX6_isKind := goodIn_r _ [7] (by decide +kernel) (by decide +kernel)
set_option maxRecDepth 20000 in
theorem gX6_tap_X6_isKind : GoodIn wsX6_tap (va_wsS RX6 82 yX6_isKind wsX6_isKind) := goodIn_app (goodIn_of _ (by decide +kernel)) ggX6_tap_X6_isKind
set_option maxRecDepth 20000 in
theorem ggX6_tap_X6_isSaying : GoodIn wsX6_tap wsX6_isSaying := goodIn_r _ [10] (by decide +kernel) (by decide +kernel)
set_option maxRecDepth 20000 in
theorem gX6_tap_X6_isSaying : GoodIn wsX6_tap (va_wsS RX6 70 yX6_isSaying wsX6_isSaying) := goodIn_app (goodIn_of _ (by decide +kernel)) ggX6_tap_X6_isSaying
set_option maxRecDepth 20000 in
theorem ggX6_tap_X3_addTap : GoodIn wsX6_tap wsX3_addTap := goodIn_r _ [15, 16, 17, 18, 19, 14, 20, 21, 22, 23, 24, 25, 26, 27, 28, 29, 30, 38, 39, 40, 41, 42, 43, 44, 45, 46, 47] (by decide +kernel) (by decide +kernel)
set_option maxRecDepth 20000 in
theorem gX6_tap_X3_addTap : GoodIn wsX6_tap (wsV RX6 85 RX3 yX3_addTap wsX3_addTap) := goodIn_app (goodIn_of _ (by decide +kernel)) ggX6_tap_X3_addTap
set_option maxRecDepth 20000 in
theorem ggX6_about_X3_tapAt : GoodIn wsX6_about wsX3_tapAt := goodIn_r _ [6, 7, 8, 85, 86, 87, 88, 89] (by decide +kernel) (by decide +kernel)
set_option maxRecDepth 20000 in
theorem gX6_about_X3_tapAt : GoodIn wsX6_about (wsV RX6 89 RX3 yX3_tapAt wsX3_tapAt) := goodIn_app (goodIn_of _ (by decide +kernel)) ggX6_about_X3_tapAt
set_option maxRecDepth 20000 in
theorem ggX6_about_X6_aboutOf : GoodIn wsX6_about wsX6_aboutOf := goodIn_r _ [13, 14, 15, 16, 17, 18, 19, 20, 12, 21, 22, 23, 24, 25, 26, 27, 28, 29, 30, 31, 32, 33, 34, 35, 36, 37, 38, 39, 40, 41, 42, 43, 44, 45, 46, 47, 48, 49, 50, 51, 52, 53, 1, 54, 55, 56, 57, 58, 59, 60, 61, 62, 5, 63, 64, 65, 66, 67, 68, 69, 70, 71, 72, 73, 74, 75, 76, 77, 90, 91, 92, 93, 94, 78, 79, 80, 81, 82, 83, 84, 95, 96, 85, 86, 87, 88, 89, 97, 98, 99, 100] (by decide +kernel) (by decide +kernel)
set_option maxRecDepth 20000 in
theorem gX6_about_X6_aboutOf : GoodIn wsX6_about (wsV RX6 93 RX6 yX6_aboutOf wsX6_aboutOf) := goodIn_app (goodIn_of _ (by decide +kernel)) ggX6_about_X6_aboutOf
set_option maxRecDepth 20000 in
theorem ggX6_as_X3_tapAt : GoodIn wsX6_as wsX3_tapAt := goodIn_r _ [7, 8, 9, 26, 27, 28, 29, 30] (by decide +kernel) (by decide +kernel)
set_option maxRecDepth 20000 in
theorem gX6_as_X3_tapAt : GoodIn wsX6_as (wsV RX6 89 RX3 yX3_tapAt wsX3_tapAt) := goodIn_app (goodIn_of _ (by decide +kernel)) ggX6_as_X3_tapAt
set_option maxRecDepth 20000 in
theorem ggX6_as_X6_isKind : GoodIn wsX6_as wsX6_isKind := goodIn_r _ [13] (by decide +kernel) (by decide +kernel)
set_option maxRecDepth 20000 in
theorem gX6_as_X6_isKind : GoodIn wsX6_as (va_wsS RX6 82 yX6_isKind wsX6_isKind) := goodIn_app (goodIn_of _ (by decide +kernel)) ggX6_as_X6_isKind
set_option maxRecDepth 20000 in
theorem ggX6_drip_X3_tapAt : GoodIn wsX6_drip wsX3_tapAt := goodIn_r _ [6, 7, 8, 40, 41, 42, 43, 44] (by decide +kernel) (by decide +kernel)
set_option maxRecDepth 20000 in
theorem gX6_drip_X3_tapAt : GoodIn wsX6_drip (wsV RX6 89 RX3 yX3_tapAt wsX3_tapAt) := goodIn_app (goodIn_of _ (by decide +kernel)) ggX6_drip_X3_tapAt
set_option maxRecDepth 20000 in
theorem ggX6_drip_X6_dripOf : GoodIn wsX6_drip wsX6_dripOf := goodIn_r _ [13, 14, 15, 16, 17, 18, 19, 20, 21, 22, 23, 24, 25, 26, 27, 28, 29, 30, 31, 32, 33, 34, 35, 36, 37, 38, 39, 45, 46, 47, 48, 49, 50, 51] (by decide +kernel) (by decide +kernel)
set_option maxRecDepth 20000 in
theorem gX6_drip_X6_dripOf : GoodIn wsX6_drip (wsV RX6 102 RX6 yX6_dripOf wsX6_dripOf) := goodIn_app (goodIn_of _ (by decide +kernel)) ggX6_drip_X6_dripOf
set_option maxRecDepth 20000 in
theorem ggX6_listen_X3_tapAt : GoodIn wsX6_listen wsX3_tapAt := goodIn_r _ [8, 9, 10, 47, 48, 49, 50, 51] (by decide +kernel) (by decide +kernel)
set_option maxRecDepth 20000 in
theorem gX6_listen_X3_tapAt : GoodIn wsX6_listen (wsV RX6 89 RX3 yX3_tapAt wsX3_tapAt) := goodIn_app (goodIn_of _ (by decide +kernel)) ggX6_listen_X3_tapAt
set_option maxRecDepth 20000 in
theorem ggX6_listen_X6_dripOf : GoodIn wsX6_listen wsX6_dripOf := goodIn_r _ [15, 16, 17, 18, 19, 20, 21, 22, 23, 24, 25, 26, 27, 28, 29, 30, 31, 32, 33, 34, 35, 36, 37, 38, 39, 40, 41, 42, 43, 44, 45, 46, 52, 53] (by decide +kernel) (by decide +kernel)
set_option maxRecDepth 20000 in
theorem gX6_listen_X6_dripOf : GoodIn wsX6_listen (wsV RX6 102 RX6 yX6_dripOf wsX6_dripOf) := goodIn_app (goodIn_of _ (by decide +kernel)) ggX6_listen_X6_dripOf
set_option maxRecDepth 20000 in
theorem ggX6_washer_X3_tapAt : GoodIn wsX6_washer wsX3_tapAt := goodIn_r _ [8, 9, 10, 23, 24, 25, 26, 27] (by decide +kernel) (by decide +kernel)
set_option maxRecDepth 20000 in
theorem gX6_washer_X3_tapAt : GoodIn wsX6_washer (wsV RX6 89 RX3 yX3_tapAt wsX3_tapAt) := goodIn_app (goodIn_of _ (by decide +kernel)) ggX6_washer_X3_tapAt
set_option maxRecDepth 20000 in
theorem ggX6_teach_X3_tapAt : GoodIn wsX6_teach wsX3_tapAt := goodIn_r _ [8, 9, 10, 27, 28, 29, 30, 31] (by decide +kernel) (by decide +kernel)
set_option maxRecDepth 20000 in
theorem gX6_teach_X3_tapAt : GoodIn wsX6_teach (wsV RX6 89 RX3 yX3_tapAt wsX3_tapAt) := goodIn_app (goodIn_of _ (by decide +kernel)) ggX6_teach_X3_tapAt
set_option maxRecDepth 20000 in
theorem ggX6_teach_X6_isSaying : GoodIn wsX6_teach wsX6_isSaying := goodIn_r _ [14] (by decide +kernel) (by decide +kernel)
set_option maxRecDepth 20000 in
theorem gX6_teach_X6_isSaying : GoodIn wsX6_teach (va_wsS RX6 70 yX6_isSaying wsX6_isSaying) := goodIn_app (goodIn_of _ (by decide +kernel)) ggX6_teach_X6_isSaying
set_option maxRecDepth 20000 in
theorem ggX6_agree_X3_tapAt : GoodIn wsX6_agree wsX3_tapAt := goodIn_r _ [7, 8, 9, 46, 47, 48, 49, 50] (by decide +kernel) (by decide +kernel)
set_option maxRecDepth 20000 in
theorem gX6_agree_X3_tapAt : GoodIn wsX6_agree (wsV RX6 89 RX3 yX3_tapAt wsX3_tapAt) := goodIn_app (goodIn_of _ (by decide +kernel)) ggX6_agree_X3_tapAt
set_option maxRecDepth 20000 in
theorem ggX6_agree_X6_dripOf : GoodIn wsX6_agree wsX6_dripOf := goodIn_r _ [14, 15, 16, 17, 18, 19, 20, 21, 22, 23, 24, 25, 26, 27, 28, 29, 30, 31, 32, 33, 34, 35, 36, 37, 38, 39, 40, 41, 42, 43, 44, 45, 51, 52] (by decide +kernel) (by decide +kernel)
set_option maxRecDepth 20000 in
theorem gX6_agree_X6_dripOf : GoodIn wsX6_agree (wsV RX6 102 RX6 yX6_dripOf wsX6_dripOf) := goodIn_app (goodIn_of _ (by decide +kernel)) ggX6_agree_X6_dripOf
set_option maxRecDepth 20000 in
theorem ggX6_near_X3_tapAt : GoodIn wsX6_near wsX3_tapAt := goodIn_r _ [6, 7, 8, 50, 51, 52, 53, 54] (by decide +kernel) (by decide +kernel)
set_option maxRecDepth 20000 in
theorem gX6_near_X3_tapAt : GoodIn wsX6_near (wsV RX6 89 RX3 yX3_tapAt wsX3_tapAt) := goodIn_app (goodIn_of _ (by decide +kernel)) ggX6_near_X3_tapAt
set_option maxRecDepth 20000 in
theorem ggX6_near_X6_isSaying : GoodIn wsX6_near wsX6_isSaying := goodIn_r _ [12] (by decide +kernel) (by decide +kernel)
set_option maxRecDepth 20000 in
theorem gX6_near_X6_isSaying : GoodIn wsX6_near (va_wsS RX6 70 yX6_isSaying wsX6_isSaying) := goodIn_app (goodIn_of _ (by decide +kernel)) ggX6_near_X6_isSaying
set_option maxRecDepth 20000 in
theorem ggX6_near_X6_nearOf : GoodIn wsX6_near wsX6_nearOf := goodIn_r _ [16, 17, 18, 19, 20, 21, 22, 23, 11, 24, 25, 26, 27, 28, 29, 30, 31, 32, 33, 34, 35, 36, 37, 38, 39, 40, 41, 42, 43, 44, 45, 46, 47, 48, 49, 55, 56, 57, 58, 59, 60, 61] (by decide +kernel) (by decide +kernel)
set_option maxRecDepth 20000 in
theorem gX6_near_X6_nearOf : GoodIn wsX6_near (wsV RX6 117 RX6 yX6_nearOf wsX6_nearOf) := goodIn_app (goodIn_of _ (by decide +kernel)) ggX6_near_X6_nearOf
set_option maxRecDepth 20000 in
theorem ggX6_put_X3_tapAt : GoodIn wsX6_put wsX3_tapAt := goodIn_r _ [7, 8, 9, 38, 39, 40, 41, 42] (by decide +kernel) (by decide +kernel)
set_option maxRecDepth 20000 in
theorem gX6_put_X3_tapAt : GoodIn wsX6_put (wsV RX6 89 RX3 yX3_tapAt wsX3_tapAt) := goodIn_app (goodIn_of _ (by decide +kernel)) ggX6_put_X3_tapAt
set_option maxRecDepth 20000 in
theorem ggX6_put_X3_addNote : GoodIn wsX6_put wsX3_addNote := goodIn_r _ [13, 14, 15, 16, 17, 18, 19, 6, 20, 21, 22, 23, 24, 25, 26, 27, 28, 29, 30, 38, 39, 40, 41, 42, 43, 44, 45, 46, 47, 48, 49, 50, 51] (by decide +kernel) (by decide +kernel)
set_option maxRecDepth 20000 in
theorem gX6_put_X3_addNote : GoodIn wsX6_put (wsV RX6 124 RX3 yX3_addNote wsX3_addNote) := goodIn_app (goodIn_of _ (by decide +kernel)) ggX6_put_X3_addNote
set_option maxRecDepth 20000 in
theorem ggX6_nights_X3_tapAt : GoodIn wsX6_nights wsX3_tapAt := goodIn_r _ [9, 10, 11, 53, 54, 55, 56, 57] (by decide +kernel) (by decide +kernel)
set_option maxRecDepth 20000 in
theorem gX6_nights_X3_tapAt : GoodIn wsX6_nights (wsV RX6 89 RX3 yX3_tapAt wsX3_tapAt) := goodIn_app (goodIn_of _ (by decide +kernel)) ggX6_nights_X3_tapAt
set_option maxRecDepth 20000 in
theorem ggX6_nights_X6_nextSeed : GoodIn wsX6_nights wsX6_nextSeed := goodIn_r _ [15, 16, 17, 18] (by decide +kernel) (by decide +kernel)
set_option maxRecDepth 20000 in
theorem gX6_nights_X6_nextSeed : GoodIn wsX6_nights (va_wsS RX6 128 yX6_nextSeed wsX6_nextSeed) := goodIn_app (goodIn_of _ (by decide +kernel)) ggX6_nights_X6_nextSeed
set_option maxRecDepth 20000 in
theorem ggX6_nights_X6_drawOf : GoodIn wsX6_nights wsX6_drawOf := goodIn_r _ [21, 22] (by decide +kernel) (by decide +kernel)
set_option maxRecDepth 20000 in
theorem gX6_nights_X6_drawOf : GoodIn wsX6_nights (va_wsS RX6 131 yX6_drawOf wsX6_drawOf) := goodIn_app (goodIn_of _ (by decide +kernel)) ggX6_nights_X6_drawOf
set_option maxRecDepth 20000 in
theorem ggX6_nights_X6_dripOf : GoodIn wsX6_nights wsX6_dripOf := goodIn_r _ [26, 27, 28, 29, 30, 31, 32, 33, 34, 35, 36, 37, 38, 39, 40, 41, 42, 43, 44, 45, 46, 47, 48, 49, 50, 51, 52, 58, 59, 60, 61, 62, 63, 64] (by decide +kernel) (by decide +kernel)
set_option maxRecDepth 20000 in
theorem gX6_nights_X6_dripOf : GoodIn wsX6_nights (wsV RX6 102 RX6 yX6_dripOf wsX6_dripOf) := goodIn_app (goodIn_of _ (by decide +kernel)) ggX6_nights_X6_dripOf
set_option maxRecDepth 20000 in
theorem ggX6_image_X3_copyFrom : GoodIn wsX6_image wsX3_copyFrom := goodIn_r _ [10, 11, 12, 13, 14, 15, 16, 17, 18, 19, 20, 21, 22, 23, 24, 9, 25, 26, 27, 28, 29, 30, 31, 32, 33, 34, 35, 36, 37, 38, 39, 40, 41, 42, 43, 44, 45, 46, 47, 48, 49, 57, 58, 59, 60, 61, 62, 63, 64, 65, 66, 67, 68, 69, 70] (by decide +kernel) (by decide +kernel)
set_option maxRecDepth 20000 in
theorem gX6_image_X3_copyFrom : GoodIn wsX6_image (wsV RX6 134 RX3 yX3_copyFrom wsX3_copyFrom) := goodIn_app (goodIn_of _ (by decide +kernel)) ggX6_image_X3_copyFrom
set_option maxRecDepth 20000 in
theorem ggX6_restore_X3_copyFrom : GoodIn wsX6_restore wsX3_copyFrom := goodIn_r _ [9, 10, 11, 12, 13, 14, 15, 16, 17, 18, 19, 20, 21, 22, 23, 8, 24, 25, 26, 27, 28, 29, 30, 31, 32, 33, 34, 35, 36, 37, 38, 39, 40, 41, 42, 43, 44, 45, 46, 47, 48, 56, 57, 58, 59, 60, 61, 62, 63, 64, 65, 66, 67, 68, 69] (by decide +kernel) (by decide +kernel)
set_option maxRecDepth 20000 in
theorem gX6_restore_X3_copyFrom : GoodIn wsX6_restore (wsV RX6 134 RX3 yX3_copyFrom wsX3_copyFrom) := goodIn_app (goodIn_of _ (by decide +kernel)) ggX6_restore_X3_copyFrom
set_option maxRecDepth 20000 in
theorem ggX6_count_X6_countOf : GoodIn wsX6_count wsX6_countOf := goodIn_r _ [5, 6, 7, 8, 9, 10, 11, 12, 13, 14, 15, 16, 17, 18, 19, 20, 21, 22, 23, 24, 25, 26, 27, 28, 29, 30, 31, 32, 33, 34, 35, 36, 37, 38, 39, 40, 41, 42, 43, 44, 45, 46, 47, 48, 49, 50, 51, 52, 53, 54, 55, 56, 57, 58] (by decide +kernel) (by decide +kernel)
set_option maxRecDepth 20000 in
theorem gX6_count_X6_countOf : GoodIn wsX6_count (wsV RX6 138 RX6 yX6_countOf wsX6_countOf) := goodIn_app (goodIn_of _ (by decide +kernel)) ggX6_count_X6_countOf
set_option maxRecDepth 20000 in
theorem ggX6_digest_X6_digestSayings : GoodIn wsX6_digest wsX6_digestSayings := goodIn_r _ [12, 7, 13, 14, 15, 16, 17, 18, 19, 20, 21, 22, 23, 24, 137, 138, 139, 140, 141, 142, 143, 152, 153] (by decide +kernel) (by decide +kernel)
set_option maxRecDepth 20000 in
theorem gX6_digest_X6_digestSayings : GoodIn wsX6_digest (wsV RX6 143 RX6 yX6_digestSayings wsX6_digestSayings) := goodIn_app (goodIn_of _ (by decide +kernel)) ggX6_digest_X6_digestSayings
set_option maxRecDepth 20000 in
theorem ggX6_digest_X3_tapAt : GoodIn wsX6_digest wsX3_tapAt := goodIn_r _ [29, 30, 31, 144, 145, 146, 147, 148] (by decide +kernel) (by decide +kernel)
set_option maxRecDepth 20000 in
theorem gX6_digest_X3_tapAt : GoodIn wsX6_digest (wsV RX6 89 RX3 yX3_tapAt wsX3_tapAt) := goodIn_app (goodIn_of _ (by decide +kernel)) ggX6_digest_X3_tapAt
set_option maxRecDepth 20000 in
theorem ggX6_digest_X6_digestTap : GoodIn wsX6_digest wsX6_digestTap := goodIn_r _ [35, 7, 36, 37, 38, 11, 39, 40, 41, 42, 43, 44, 45, 46, 47, 48, 49, 50, 51, 52, 53, 54, 55, 13, 56, 57, 58, 17, 59, 60, 15, 16, 18, 19, 61, 21, 22, 23, 24, 62, 63, 64, 65, 66, 67, 68, 69, 3, 70, 71, 72, 73, 74, 75, 76, 77, 78, 28, 79, 80, 81, 82, 83, 84, 85, 86, 87, 88, 89, 90, 91, 92, 93, 94, 95, 96, 97, 98, 99, 100, 101, 102, 103, 104, 105, 106, 107, 108, 154, 155, 156, 157, 158, 137, 138, 139, 140, 141, 142, 143, 152, 153, 144, 145, 146, 147, 148, 159, 160, 161, 162] (by decide +kernel) (by decide +kernel)
set_option maxRecDepth 20000 in
theorem gX6_digest_X6_digestTap : GoodIn wsX6_digest (wsV RX6 147 RX6 yX6_digestTap wsX6_digestTap) := goodIn_app (goodIn_of _ (by decide +kernel)) ggX6_digest_X6_digestTap
set_option maxRecDepth 20000 in
theorem ggX6_digest_X1_codeAt : GoodIn wsX6_digest wsX1_codeAt := goodIn_r _ [113, 114, 115, 149, 150, 151] (by decide +kernel) (by decide +kernel)
set_option maxRecDepth 20000 in
theorem gX6_digest_X1_codeAt : GoodIn wsX6_digest (wsV RX6 153 RX1 yX1_codeAt wsX1_codeAt) := goodIn_app (goodIn_of _ (by decide +kernel)) ggX6_digest_X1_codeAt
set_option maxRecDepth 20000 in
theorem ggX6_digest_X6_countOf : GoodIn wsX6_digest wsX6_countOf := goodIn_r _ [119, 3, 4, 13, 120, 70, 5, 6, 121, 122, 123, 124, 17, 125, 19, 126, 127, 128, 28, 129, 30, 130, 131, 26, 27, 29, 31, 132, 133, 134, 135, 136, 137, 138, 139, 140, 141, 142, 143, 144, 145, 146, 147, 148, 149, 150, 151, 152, 153, 154, 155, 156, 157, 158] (by decide +kernel) (by decide +kernel)
set_option maxRecDepth 20000 in
theorem gX6_digest_X6_countOf : GoodIn wsX6_digest (wsV RX6 138 RX6 yX6_countOf wsX6_countOf) := goodIn_app (goodIn_of _ (by decide +kernel)) ggX6_digest_X6_countOf
set_option maxRecDepth 20000 in
theorem ggX6_readPage_X1_codeAt : GoodIn wsX6_readPage wsX1_codeAt := goodIn_r _ [9, 10, 11, 50, 51, 52] (by decide +kernel) (by decide +kernel)
set_option maxRecDepth 20000 in
theorem gX6_readPage_X1_codeAt : GoodIn wsX6_readPage (wsV RX6 153 RX1 yX1_codeAt wsX1_codeAt) := goodIn_app (goodIn_of _ (by decide +kernel)) ggX6_readPage_X1_codeAt
set_option maxRecDepth 20000 in
theorem ggX6_readPage_X4_addBeat : GoodIn wsX6_readPage wsX4_addBeat := goodIn_r _ [16, 17, 18, 53, 54] (by decide +kernel) (by decide +kernel)
set_option maxRecDepth 20000 in
theorem gX6_readPage_X4_addBeat : GoodIn wsX6_readPage (wsV RX6 156 RX4 yX4_addBeat wsX4_addBeat) := goodIn_app (goodIn_of _ (by decide +kernel)) ggX6_readPage_X4_addBeat
set_option maxRecDepth 20000 in
theorem ggX6_readPage_X6_kindOfLetter : GoodIn wsX6_readPage wsX6_kindOfLetter := goodIn_r _ [22] (by decide +kernel) (by decide +kernel)
set_option maxRecDepth 20000 in
theorem gX6_readPage_X6_kindOfLetter : GoodIn wsX6_readPage (va_wsS RX6 159 yX6_kindOfLetter wsX6_kindOfLetter) := goodIn_app (goodIn_of _ (by decide +kernel)) ggX6_readPage_X6_kindOfLetter
set_option maxRecDepth 20000 in
theorem ggX6_readPage_X3_addTap : GoodIn wsX6_readPage wsX3_addTap := goodIn_r _ [27, 28, 29, 30, 31, 26, 32, 33, 34, 35, 36, 37, 38, 39, 40, 41, 42, 55, 56, 57, 58, 59, 60, 61, 62, 63, 64] (by decide +kernel) (by decide +kernel)
set_option maxRecDepth 20000 in
theorem gX6_readPage_X3_addTap : GoodIn wsX6_readPage (wsV RX6 85 RX3 yX3_addTap wsX3_addTap) := goodIn_app (goodIn_of _ (by decide +kernel)) ggX6_readPage_X3_addTap
set_option maxRecDepth 20000 in
theorem ggX6_dripOf_X4_dripBy : GoodIn wsX6_dripOf wsX4_dripBy := goodIn_r _ [9, 10, 11, 12, 8, 13, 14, 15, 16, 17, 18, 19, 32, 33] (by decide +kernel) (by decide +kernel)
set_option maxRecDepth 20000 in
theorem gX6_dripOf_X4_dripBy : GoodIn wsX6_dripOf (wsV RX6 162 RX4 yX4_dripBy wsX4_dripBy) := goodIn_app (goodIn_of _ (by decide +kernel)) ggX6_dripOf_X4_dripBy
set_option maxRecDepth 20000 in
theorem ggX6_aboutOf_X6_sureOf : GoodIn wsX6_aboutOf wsX6_sureOf := goodIn_r _ [9, 10, 11, 12, 13, 14, 15, 16, 8, 17, 18, 1, 3, 4, 19, 20, 21, 22, 23, 24, 25, 26, 27, 28, 29, 30, 31, 32, 33, 73, 74, 75, 76, 77, 78, 79, 68, 69, 70, 71, 72, 80, 81] (by decide +kernel) (by decide +kernel)
set_option maxRecDepth 20000 in
theorem gX6_aboutOf_X6_sureOf : GoodIn wsX6_aboutOf (wsV RX6 166 RX6 yX6_sureOf wsX6_sureOf) := goodIn_app (goodIn_of _ (by decide +kernel)) ggX6_aboutOf_X6_sureOf
set_option maxRecDepth 20000 in
theorem ggX6_aboutOf_X6_saysOf : GoodIn wsX6_aboutOf wsX6_saysOf := goodIn_r _ [37, 38, 39, 40, 8, 41, 42, 43, 44, 45, 18, 1, 46, 47, 48, 49, 50, 51, 52, 53, 54, 55, 19, 20, 21, 22, 23, 24, 25, 26, 27, 28, 29, 30, 31, 32, 33, 73, 74, 75, 76, 77, 78, 79, 82, 83, 84, 85, 86, 87, 88, 89, 90, 68, 69, 70, 71, 72, 80, 81] (by decide +kernel) (by decide +kernel)
set_option maxRecDepth 20000 in
theorem gX6_aboutOf_X6_saysOf : GoodIn wsX6_aboutOf (wsV RX6 170 RX6 yX6_saysOf wsX6_saysOf) := goodIn_app (goodIn_of _ (by decide +kernel)) ggX6_aboutOf_X6_saysOf
set_option maxRecDepth 20000 in
theorem ggX6_aboutOf_X6_likelyOf : GoodIn wsX6_aboutOf wsX6_likelyOf := goodIn_r _ [59, 38, 39, 40, 8, 41, 42, 43, 44, 45, 18, 1, 46, 47, 48, 49, 50, 51, 52, 53, 54, 55, 19, 20, 21, 22, 23, 24, 25, 26, 27, 28, 29, 30, 31, 32, 33, 73, 74, 75, 76, 77, 78, 79, 82, 83, 84, 85, 86, 87, 88, 89, 90, 68, 69, 70, 71, 72, 80, 81] (by decide +kernel) (by decide +kernel)
set_option maxRecDepth 20000 in
theorem gX6_aboutOf_X6_likelyOf : GoodIn wsX6_aboutOf (wsV RX6 173 RX6 yX6_likelyOf wsX6_likelyOf) := goodIn_app (goodIn_of _ (by decide +kernel)) ggX6_aboutOf_X6_likelyOf
set_option maxRecDepth 20000 in
theorem ggX6_aboutOf_X6_slipsOf : GoodIn wsX6_aboutOf wsX6_slipsOf := goodIn_r _ [41, 42, 43, 44, 45, 18, 1, 46, 47, 48, 49, 50, 51, 52, 53, 54, 55, 19, 20, 21, 22, 23, 24, 25, 26, 27, 28, 29, 30, 31, 32, 33, 73, 74, 75, 76, 77, 78, 79, 82, 83, 84, 85, 86, 87, 88, 89, 90, 68, 69, 70, 71, 72, 80, 81] (by decide +kernel) (by decide +kernel)
set_option maxRecDepth 20000 in
theorem gX6_aboutOf_X6_slipsOf : GoodIn wsX6_aboutOf (wsV RX6 176 RX6 yX6_slipsOf wsX6_slipsOf) := goodIn_app (goodIn_of _ (by decide +kernel)) ggX6_aboutOf_X6_slipsOf
set_option maxRecDepth 20000 in
theorem ggX6_aboutOf_X6_bestToHear : GoodIn wsX6_aboutOf wsX6_bestToHear := goodIn_r _ [63, 64, 65, 66, 8, 67, 18, 1, 3, 4, 10, 11, 12, 13, 19, 20, 21, 22, 23, 24, 25, 26, 27, 28, 29, 30, 31, 32, 33, 73, 74, 75, 76, 77, 78, 79, 68, 69, 70, 71, 72, 80, 81] (by decide +kernel) (by decide +kernel)
set_option maxRecDepth 20000 in
theorem gX6_aboutOf_X6_bestToHear : GoodIn wsX6_aboutOf (wsV RX6 179 RX6 yX6_bestToHear wsX6_bestToHear) := goodIn_app (goodIn_of _ (by decide +kernel)) ggX6_aboutOf_X6_bestToHear
set_option maxRecDepth 20000 in
theorem ggX6_sureOf_X6_enoughToTell : GoodIn wsX6_sureOf wsX6_enoughToTell := goodIn_r _ [9, 10, 11, 12, 13, 14, 15, 16, 17, 18, 19, 20, 21, 22, 23, 24, 25, 26, 27, 28, 29, 30, 31, 32, 33, 34, 35, 36, 37, 38, 39, 40, 41, 42] (by decide +kernel) (by decide +kernel)
set_option maxRecDepth 20000 in
theorem gX6_sureOf_X6_enoughToTell : GoodIn wsX6_sureOf (wsV RX6 182 RX6 yX6_enoughToTell wsX6_enoughToTell) := goodIn_app (goodIn_of _ (by decide +kernel)) ggX6_sureOf_X6_enoughToTell
set_option maxRecDepth 20000 in
theorem ggX6_enoughToTell_X4_dripBy : GoodIn wsX6_enoughToTell wsX4_dripBy := goodIn_r _ [9, 10, 11, 12, 8, 13, 14, 15, 16, 17, 18, 19, 32, 33] (by decide +kernel) (by decide +kernel)
set_option maxRecDepth 20000 in
theorem gX6_enoughToTell_X4_dripBy : GoodIn wsX6_enoughToTell (wsV RX6 162 RX4 yX4_dripBy wsX4_dripBy) := goodIn_app (goodIn_of _ (by decide +kernel)) ggX6_enoughToTell_X4_dripBy
set_option maxRecDepth 20000 in
theorem ggX6_saysOf_X6_slipsOf : GoodIn wsX6_saysOf wsX6_slipsOf := goodIn_r _ [5, 6, 7, 8, 9, 10, 11, 12, 13, 14, 15, 16, 17, 18, 19, 20, 21, 22, 23, 24, 25, 26, 27, 28, 29, 30, 31, 32, 33, 34, 35, 36, 37, 38, 39, 40, 41, 42, 43, 44, 45, 46, 47, 48, 49, 50, 51, 52, 53, 54, 55, 56, 57, 58, 59] (by decide +kernel) (by decide +kernel)
set_option maxRecDepth 20000 in
theorem gX6_saysOf_X6_slipsOf : GoodIn wsX6_saysOf (wsV RX6 176 RX6 yX6_slipsOf wsX6_slipsOf) := goodIn_app (goodIn_of _ (by decide +kernel)) ggX6_saysOf_X6_slipsOf
set_option maxRecDepth 20000 in
theorem ggX6_likelyOf_X6_slipsOf : GoodIn wsX6_likelyOf wsX6_slipsOf := goodIn_r _ [5, 6, 7, 8, 9, 10, 11, 12, 13, 14, 15, 16, 17, 18, 19, 20, 21, 22, 23, 24, 25, 26, 27, 28, 29, 30, 31, 32, 33, 34, 35, 36, 37, 38, 39, 40, 41, 42, 43, 44, 45, 46, 47, 48, 49, 50, 51, 52, 53, 54, 55, 56, 57, 58, 59] (by decide +kernel) (by decide +kernel)
set_option maxRecDepth 20000 in
theorem gX6_likelyOf_X6_slipsOf : GoodIn wsX6_likelyOf (wsV RX6 176 RX6 yX6_slipsOf wsX6_slipsOf) := goodIn_app (goodIn_of _ (by decide +kernel)) ggX6_likelyOf_X6_slipsOf
set_option maxRecDepth 20000 in
theorem ggX6_slipsOf_X3_noteAt : GoodIn wsX6_slipsOf wsX3_noteAt := goodIn_r _ [14, 15, 16, 39, 40, 41, 42, 43] (by decide +kernel) (by decide +kernel)
set_option maxRecDepth 20000 in
theorem gX6_slipsOf_X3_noteAt : GoodIn wsX6_slipsOf (wsV RX6 190 RX3 yX3_noteAt wsX3_noteAt) := goodIn_app (goodIn_of _ (by decide +kernel)) ggX6_slipsOf_X3_noteAt
set_option maxRecDepth 20000 in
theorem ggX6_slipsOf_X4_dripBy : GoodIn wsX6_slipsOf wsX4_dripBy := goodIn_r _ [21, 22, 23, 24, 20, 25, 26, 27, 28, 29, 30, 31, 53, 54] (by decide +kernel) (by decide +kernel)
set_option maxRecDepth 20000 in
theorem gX6_slipsOf_X4_dripBy : GoodIn wsX6_slipsOf (wsV RX6 162 RX4 yX4_dripBy wsX4_dripBy) := goodIn_app (goodIn_of _ (by decide +kernel)) ggX6_slipsOf_X4_dripBy
set_option maxRecDepth 20000 in
theorem ggX6_bestToHear_X6_leftAtWorst : GoodIn wsX6_bestToHear wsX6_leftAtWorst := goodIn_r _ [5, 6, 7, 8, 9, 10, 11, 12, 13, 14, 15, 16, 17, 18, 19, 20, 21, 22, 23, 24, 25, 26, 27, 28, 29, 30, 31, 32, 33, 34, 35, 36, 37, 38, 39, 40, 41, 42] (by decide +kernel) (by decide +kernel)
set_option maxRecDepth 20000 in
theorem gX6_bestToHear_X6_leftAtWorst : GoodIn wsX6_bestToHear (wsV RX6 209 RX6 yX6_leftAtWorst wsX6_leftAtWorst) := goodIn_app (goodIn_of _ (by decide +kernel)) ggX6_bestToHear_X6_leftAtWorst
set_option maxRecDepth 20000 in
theorem ggX6_leftAtWorst_X4_dripBy : GoodIn wsX6_leftAtWorst wsX4_dripBy := goodIn_r _ [13, 14, 15, 16, 12, 17, 18, 19, 20, 21, 22, 23, 36, 37] (by decide +kernel) (by decide +kernel)
set_option maxRecDepth 20000 in
theorem gX6_leftAtWorst_X4_dripBy : GoodIn wsX6_leftAtWorst (wsV RX6 162 RX4 yX4_dripBy wsX4_dripBy) := goodIn_app (goodIn_of _ (by decide +kernel)) ggX6_leftAtWorst_X4_dripBy
set_option maxRecDepth 20000 in
theorem ggX6_nearOf_X6_unlikeOf : GoodIn wsX6_nearOf wsX6_unlikeOf := goodIn_r _ [9, 10, 11, 12, 13, 14, 15, 16, 17, 18, 19, 20, 21, 22, 23, 24, 25, 26, 27, 28, 29, 30, 31, 32, 33, 34, 35, 36, 37, 38, 39, 40, 41] (by decide +kernel) (by decide +kernel)
set_option maxRecDepth 20000 in
theorem gX6_nearOf_X6_unlikeOf : GoodIn wsX6_nearOf (wsV RX6 212 RX6 yX6_unlikeOf wsX6_unlikeOf) := goodIn_app (goodIn_of _ (by decide +kernel)) ggX6_nearOf_X6_unlikeOf
set_option maxRecDepth 20000 in
theorem ggX6_unlikeOf_X4_dripBy : GoodIn wsX6_unlikeOf wsX4_dripBy := goodIn_r _ [8, 9, 10, 11, 7, 12, 13, 14, 15, 16, 17, 18, 31, 32] (by decide +kernel) (by decide +kernel)
set_option maxRecDepth 20000 in
theorem gX6_unlikeOf_X4_dripBy : GoodIn wsX6_unlikeOf (wsV RX6 162 RX4 yX4_dripBy wsX4_dripBy) := goodIn_app (goodIn_of _ (by decide +kernel)) ggX6_unlikeOf_X4_dripBy
set_option maxRecDepth 20000 in
theorem ggX6_countOf_X4_beatCount : GoodIn wsX6_countOf wsX4_beatCount := goodIn_r _ [13, 14, 47, 48] (by decide +kernel) (by decide +kernel)
set_option maxRecDepth 20000 in
theorem gX6_countOf_X4_beatCount : GoodIn wsX6_countOf (wsV RX6 225 RX4 yX4_beatCount wsX4_beatCount) := goodIn_app (goodIn_of _ (by decide +kernel)) ggX6_countOf_X4_beatCount
set_option maxRecDepth 20000 in
theorem ggX6_countOf_X3_washerCount : GoodIn wsX6_countOf wsX3_washerCount := goodIn_r _ [19, 20, 21, 22, 23, 24, 18, 25, 26, 39, 40, 41, 42, 43, 49, 50, 51, 52, 53] (by decide +kernel) (by decide +kernel)
set_option maxRecDepth 20000 in
theorem gX6_countOf_X3_washerCount : GoodIn wsX6_countOf (wsV RX6 228 RX3 yX3_washerCount wsX3_washerCount) := goodIn_app (goodIn_of _ (by decide +kernel)) ggX6_countOf_X3_washerCount
set_option maxRecDepth 20000 in
theorem ggX6_countOf_X3_heardCount : GoodIn wsX6_countOf wsX3_heardCount := goodIn_r _ [30, 20, 31, 22, 23, 24, 18, 25, 26, 39, 40, 41, 42, 43, 49, 50, 51, 52, 53] (by decide +kernel) (by decide +kernel)
set_option maxRecDepth 20000 in
theorem gX6_countOf_X3_heardCount : GoodIn wsX6_countOf (wsV RX6 231 RX3 yX3_heardCount wsX3_heardCount) := goodIn_app (goodIn_of _ (by decide +kernel)) ggX6_countOf_X3_heardCount
set_option maxRecDepth 20000 in
theorem ggX6_digestSayings_X4_lengthOf : GoodIn wsX6_digestSayings wsX4_lengthOf := goodIn_r _ [7, 8, 21, 22] (by decide +kernel) (by decide +kernel)
set_option maxRecDepth 20000 in
theorem gX6_digestSayings_X4_lengthOf : GoodIn wsX6_digestSayings (wsV RX6 74 RX4 yX4_lengthOf wsX4_lengthOf) := goodIn_app (goodIn_of _ (by decide +kernel)) ggX6_digestSayings_X4_lengthOf
set_option maxRecDepth 20000 in
theorem ggX6_digestSayings_X4_beatOf : GoodIn wsX6_digestSayings wsX4_beatOf := goodIn_r _ [12, 13, 21, 22] (by decide +kernel) (by decide +kernel)
set_option maxRecDepth 20000 in
theorem gX6_digestSayings_X4_beatOf : GoodIn wsX6_digestSayings (wsV RX6 78 RX4 yX4_beatOf wsX4_beatOf) := goodIn_app (goodIn_of _ (by decide +kernel)) ggX6_digestSayings_X4_beatOf
set_option maxRecDepth 20000 in
theorem ggX6_digestTap_X6_aboutOf : GoodIn wsX6_digestTap wsX6_aboutOf := goodIn_r _ [6, 7, 8, 9, 10, 11, 12, 13, 5, 14, 15, 16, 17, 18, 19, 20, 21, 22, 23, 24, 25, 26, 27, 28, 29, 30, 31, 32, 33, 34, 35, 36, 37, 38, 39, 40, 41, 42, 43, 44, 45, 46, 47, 48, 49, 50, 51, 52, 53, 54, 55, 56, 57, 58, 59, 60, 61, 62, 63, 64, 65, 66, 67, 68, 69, 70, 71, 72, 88, 89, 90, 91, 92, 93, 94, 95, 96, 97, 98, 99, 100, 101, 102, 103, 104, 105, 106, 107, 108, 109, 110] (by decide +kernel) (by decide +kernel)
set_option maxRecDepth 20000 in
theorem gX6_digestTap_X6_aboutOf : GoodIn wsX6_digestTap (wsV RX6 93 RX6 yX6_aboutOf wsX6_aboutOf) := goodIn_app (goodIn_of _ (by decide +kernel)) ggX6_digestTap_X6_aboutOf
set_option maxRecDepth 20000 in
theorem ggX6_digestTap_X6_dripOf : GoodIn wsX6_digestTap wsX6_dripOf := goodIn_r _ [76, 23, 7, 8, 9, 24, 25, 26, 27, 28, 29, 30, 31, 32, 33, 34, 35, 36, 37, 38, 93, 94, 95, 96, 97, 98, 99, 88, 89, 90, 91, 92, 100, 101] (by decide +kernel) (by decide +kernel)
set_option maxRecDepth 20000 in
theorem gX6_digestTap_X6_dripOf : GoodIn wsX6_digestTap (wsV RX6 102 RX6 yX6_dripOf wsX6_dripOf) := goodIn_app (goodIn_of _ (by decide +kernel)) ggX6_digestTap_X6_dripOf
set_option maxRecDepth 20000 in
theorem ggX6_digestTap_X6_nearOf : GoodIn wsX6_digestTap wsX6_nearOf := goodIn_r _ [80, 81, 82, 17, 83, 84, 85, 86, 5, 87, 23, 7, 8, 24, 25, 26, 27, 28, 29, 30, 31, 32, 33, 34, 35, 36, 37, 38, 93, 94, 95, 96, 97, 98, 99, 88, 89, 90, 91, 92, 100, 101] (by decide +kernel) (by decide +kernel)
set_option maxRecDepth 20000 in
theorem gX6_digestTap_X6_nearOf : GoodIn wsX6_digestTap (wsV RX6 117 RX6 yX6_nearOf wsX6_nearOf) := goodIn_app (goodIn_of _ (by decide +kernel)) ggX6_digestTap_X6_nearOf
set_option maxRecDepth 20000 in
theorem ggX7_letter_X7_in : GoodIn wsX7_letter wsX7_in := goodIn_r _ [7] (by decide +kernel) (by decide +kernel)
set_option maxRecDepth 20000 in
theorem gX7_letter_X7_in : GoodIn wsX7_letter (va_wsS RX7 40 yX7_in wsX7_in) := goodIn_app (goodIn_of _ (by decide +kernel)) ggX7_letter_X7_in
set_option maxRecDepth 20000 in
theorem ggX7_goTap_X7_kindBy : GoodIn wsX7_goTap wsX7_kindBy := goodIn_r _ [9] (by decide +kernel) (by decide +kernel)
set_option maxRecDepth 20000 in
theorem gX7_goTap_X7_kindBy : GoodIn wsX7_goTap (va_wsS RX7 56 yX7_kindBy wsX7_kindBy) := goodIn_app (goodIn_of _ (by decide +kernel)) ggX7_goTap_X7_kindBy
set_option maxRecDepth 20000 in
theorem ggX7_goTap_X7_in : GoodIn wsX7_goTap wsX7_in := goodIn_r _ [12] (by decide +kernel) (by decide +kernel)
set_option maxRecDepth 20000 in
theorem gX7_goTap_X7_in : GoodIn wsX7_goTap (va_wsS RX7 40 yX7_in wsX7_in) := goodIn_app (goodIn_of _ (by decide +kernel)) ggX7_goTap_X7_in
set_option maxRecDepth 20000 in
theorem ggX7_faultOf_X7_goSaying : GoodIn wsX7_faultOf wsX7_goSaying := goodIn_r _ [11, 1, 2, 25, 26, 27, 28, 29, 30, 31, 32, 33, 34, 35, 36, 37, 38, 39, 40, 41, 42, 43, 44, 45, 46] (by decide +kernel) (by decide +kernel)
set_option maxRecDepth 20000 in
theorem gX7_faultOf_X7_goSaying : GoodIn wsX7_faultOf (wsV RX7 64 RX7 yX7_goSaying wsX7_goSaying) := goodIn_app (goodIn_of _ (by decide +kernel)) ggX7_faultOf_X7_goSaying
set_option maxRecDepth 20000 in
theorem ggX7_faultOf_X7_goTap : GoodIn wsX7_faultOf wsX7_goTap := goodIn_r _ [15, 4, 16, 3, 17, 18, 19, 20, 10, 21, 22, 23, 24, 25, 26, 27, 28, 29, 30, 31, 32, 33, 34, 35, 36, 37, 38, 39, 40, 41, 42, 43, 44, 45, 46] (by decide +kernel) (by decide +kernel)
set_option maxRecDepth 20000 in
theorem gX7_faultOf_X7_goTap : GoodIn wsX7_faultOf (wsV RX7 68 RX7 yX7_goTap wsX7_goTap) := goodIn_app (goodIn_of _ (by decide +kernel)) ggX7_faultOf_X7_goTap
set_option maxRecDepth 20000 in
theorem ggX7_fault_X7_faultOf : GoodIn wsX7_fault wsX7_faultOf := goodIn_r _ [5, 6, 7, 8, 9, 10, 11, 12, 13, 14, 4, 15, 16, 17, 18, 19, 20, 21, 22, 23, 24, 25, 26, 27, 28, 29, 30, 31, 32, 33, 34, 35, 36, 37, 38, 39, 40, 41, 42, 43, 44, 45, 46, 47, 48, 49, 50] (by decide +kernel) (by decide +kernel)
set_option maxRecDepth 20000 in
theorem gX7_fault_X7_faultOf : GoodIn wsX7_fault (wsV RX7 71 RX7 yX7_faultOf wsX7_faultOf) := goodIn_app (goodIn_of _ (by decide +kernel)) ggX7_fault_X7_faultOf
set_option maxRecDepth 20000 in
theorem ggX7_house_X7_faultOf : GoodIn wsX7_house wsX7_faultOf := goodIn_r _ [17, 2, 6, 4, 3, 1, 18, 19, 20, 21, 16, 22, 23, 24, 25, 26, 9, 27, 28, 29, 30, 31, 32, 33, 34, 38, 39, 40, 41, 42, 43, 44, 45, 46, 47, 48, 49, 50, 51, 52, 53, 54, 55, 56, 57, 58, 59] (by decide +kernel) (by decide +kernel)
set_option maxRecDepth 20000 in
theorem gX7_house_X7_faultOf : GoodIn wsX7_house (wsV RX7 71 RX7 yX7_faultOf wsX7_faultOf) := goodIn_app (goodIn_of _ (by decide +kernel)) ggX7_house_X7_faultOf
set_option maxRecDepth 20000 in
theorem ggX7_house_X7_copy : GoodIn wsX7_house wsX7_copy := goodIn_r _ [37] (by decide +kernel) (by decide +kernel)
set_option maxRecDepth 20000 in
theorem gX7_house_X7_copy : GoodIn wsX7_house (va_wsS RX7 78 yX7_copy wsX7_copy) := goodIn_app (goodIn_of _ (by decide +kernel)) ggX7_house_X7_copy
set_option maxRecDepth 20000 in
theorem ggX7_isTap_X7_in : GoodIn wsX7_isTap wsX7_in := goodIn_r _ [5] (by decide +kernel) (by decide +kernel)
set_option maxRecDepth 20000 in
theorem gX7_isTap_X7_in : GoodIn wsX7_isTap (va_wsS RX7 40 yX7_in wsX7_in) := goodIn_app (goodIn_of _ (by decide +kernel)) ggX7_isTap_X7_in
set_option maxRecDepth 20000 in
theorem ggX7_isSaying_X7_in : GoodIn wsX7_isSaying wsX7_in := goodIn_r _ [5] (by decide +kernel) (by decide +kernel)
set_option maxRecDepth 20000 in
theorem gX7_isSaying_X7_in : GoodIn wsX7_isSaying (va_wsS RX7 40 yX7_in wsX7_in) := goodIn_app (goodIn_of _ (by decide +kernel)) ggX7_isSaying_X7_in
set_option maxRecDepth 20000 in
theorem ggX7_tellSaying_X7_in : GoodIn wsX7_tellSaying wsX7_in := goodIn_r _ [7] (by decide +kernel) (by decide +kernel)
set_option maxRecDepth 20000 in
theorem gX7_tellSaying_X7_in : GoodIn wsX7_tellSaying (va_wsS RX7 40 yX7_in wsX7_in) := goodIn_app (goodIn_of _ (by decide +kernel)) ggX7_tellSaying_X7_in
set_option maxRecDepth 20000 in
theorem ggX7_saying_X7_lacks : GoodIn wsX7_saying wsX7_lacks := goodIn_r _ [5, 6, 21, 22, 23, 24, 25, 26, 27, 28, 29, 30, 31, 32, 33, 34, 35, 36, 37, 38, 39, 40, 41, 42] (by decide +kernel) (by decide +kernel)
set_option maxRecDepth 20000 in
theorem gX7_saying_X7_lacks : GoodIn wsX7_saying (wsV RX7 97 RX7 yX7_lacks wsX7_lacks) := goodIn_app (goodIn_of _ (by decide +kernel)) ggX7_saying_X7_lacks
set_option maxRecDepth 20000 in
theorem ggX7_saying_X7_isSaying : GoodIn wsX7_saying wsX7_isSaying := goodIn_r _ [9, 10, 11, 12, 4, 13] (by decide +kernel) (by decide +kernel)
set_option maxRecDepth 20000 in
theorem gX7_saying_X7_isSaying : GoodIn wsX7_saying (va_wsS RX7 101 yX7_isSaying wsX7_isSaying) := goodIn_app (goodIn_of _ (by decide +kernel)) ggX7_saying_X7_isSaying
set_option maxRecDepth 20000 in
theorem ggX7_saying_X7_tellSaying : GoodIn wsX7_saying wsX7_tellSaying := goodIn_r _ [17, 18, 19, 20, 11, 12, 4, 13, 21, 22, 23, 24, 25, 26, 27, 28, 29, 30, 31, 32, 33, 34, 35, 36, 37, 38, 39, 40, 41, 42] (by decide +kernel) (by decide +kernel)
set_option maxRecDepth 20000 in
theorem gX7_saying_X7_tellSaying : GoodIn wsX7_saying (wsV RX7 104 RX7 yX7_tellSaying wsX7_tellSaying) := goodIn_app (goodIn_of _ (by decide +kernel)) ggX7_saying_X7_tellSaying
set_option maxRecDepth 20000 in
theorem ggX7_dripAs_X7_dripBy : GoodIn wsX7_dripAs wsX7_dripBy := goodIn_r _ [6, 7, 8, 9, 10, 11, 12, 13, 14, 15, 16, 17, 18, 19, 20, 21, 22, 23, 24, 25, 26, 27, 28, 29] (by decide +kernel) (by decide +kernel)
set_option maxRecDepth 20000 in
theorem gX7_dripAs_X7_dripBy : GoodIn wsX7_dripAs (wsV RX7 108 RX7 yX7_dripBy wsX7_dripBy) := goodIn_app (goodIn_of _ (by decide +kernel)) ggX7_dripAs_X7_dripBy
set_option maxRecDepth 20000 in
theorem ggX7_dripOf_X7_dripAs : GoodIn wsX7_dripOf wsX7_dripAs := goodIn_r _ [6, 1, 7, 8, 9, 5, 10, 11, 12, 13, 14, 15, 16, 17, 18, 19, 20, 21, 22, 23, 24, 25, 26, 27, 28, 29, 30, 31, 32, 33] (by decide +kernel) (by decide +kernel)
set_option maxRecDepth 20000 in
theorem gX7_dripOf_X7_dripAs : GoodIn wsX7_dripOf (wsV RX7 112 RX7 yX7_dripAs wsX7_dripAs) := goodIn_app (goodIn_of _ (by decide +kernel)) ggX7_dripOf_X7_dripAs
set_option maxRecDepth 20000 in
theorem ggX7_tap_X7_in : GoodIn wsX7_tap wsX7_in := goodIn_r _ [7] (by decide +kernel) (by decide +kernel)
set_option maxRecDepth 20000 in
theorem gX7_tap_X7_in : GoodIn wsX7_tap (va_wsS RX7 40 yX7_in wsX7_in) := goodIn_app (goodIn_of _ (by decide +kernel)) ggX7_tap_X7_in
set_option maxRecDepth 20000 in
theorem ggX7_tap_X7_isSaying : GoodIn wsX7_tap wsX7_isSaying := goodIn_r _ [10, 11, 4, 5, 6, 7] (by decide +kernel) (by decide +kernel)
set_option maxRecDepth 20000 in
theorem gX7_tap_X7_isSaying : GoodIn wsX7_tap (va_wsS RX7 101 yX7_isSaying wsX7_isSaying) := goodIn_app (goodIn_of _ (by decide +kernel)) ggX7_tap_X7_isSaying
set_option maxRecDepth 20000 in
theorem ggX7_tap_X7_lacks : GoodIn wsX7_tap wsX7_lacks := goodIn_r _ [15, 2, 16, 17, 18, 19, 20, 21, 22, 23, 24, 25, 26, 27, 28, 29, 30, 31, 32, 33, 34, 35, 36, 37] (by decide +kernel) (by decide +kernel)
set_option maxRecDepth 20000 in
theorem gX7_tap_X7_lacks : GoodIn wsX7_tap (wsV RX7 97 RX7 yX7_lacks wsX7_lacks) := goodIn_app (goodIn_of _ (by decide +kernel)) ggX7_tap_X7_lacks
set_option maxRecDepth 20000 in
theorem ggX7_patternOf_X7_dripAs : GoodIn wsX7_patternOf wsX7_dripAs := goodIn_r _ [6, 1, 7, 8, 9, 5, 10, 11, 12, 13, 14, 15, 16, 17, 18, 19, 20, 21, 22, 23, 24, 25, 26, 27, 28, 29, 30, 31, 32, 33] (by decide +kernel) (by decide +kernel)
set_option maxRecDepth 20000 in
theorem gX7_patternOf_X7_dripAs : GoodIn wsX7_patternOf (wsV RX7 112 RX7 yX7_dripAs wsX7_dripAs) := goodIn_app (goodIn_of _ (by decide +kernel)) ggX7_patternOf_X7_dripAs
set_option maxRecDepth 20000 in
theorem ggX7_sureOf_X7_patternOf : GoodIn wsX7_sureOf wsX7_patternOf := goodIn_r _ [5, 6, 7, 8, 9, 4, 10, 11, 12, 13, 14, 15, 16, 17, 18, 19, 20, 21, 22, 23, 24, 25, 26, 27, 28, 29, 30, 31, 32, 33, 34, 35, 36, 37] (by decide +kernel) (by decide +kernel)
set_option maxRecDepth 20000 in
theorem gX7_sureOf_X7_patternOf : GoodIn wsX7_sureOf (wsV RX7 118 RX7 yX7_patternOf wsX7_patternOf) := goodIn_app (goodIn_of _ (by decide +kernel)) ggX7_sureOf_X7_patternOf
set_option maxRecDepth 20000 in
theorem ggX7_tell_X7_sureOf : GoodIn wsX7_tell wsX7_sureOf := goodIn_r _ [6, 7, 8, 9, 5, 10, 1, 11, 12, 13, 14, 15, 16, 17, 18, 19, 38, 39, 40, 41, 42, 43, 44, 45, 46, 47, 48, 49, 50, 51, 52, 53, 54, 55, 56, 57, 58, 59] (by decide +kernel) (by decide +kernel)
set_option maxRecDepth 20000 in
theorem gX7_tell_X7_sureOf : GoodIn wsX7_tell (wsV RX7 121 RX7 yX7_sureOf wsX7_sureOf) := goodIn_app (goodIn_of _ (by decide +kernel)) ggX7_tell_X7_sureOf
set_option maxRecDepth 20000 in
theorem ggX7_tell_X7_saysOf : GoodIn wsX7_tell wsX7_saysOf := goodIn_r _ [23, 24, 25, 26, 5, 27, 28, 1, 29, 15, 16, 17, 18, 19, 38, 39, 40, 41, 42, 43, 44, 45, 46, 47, 48, 49, 50, 51, 52, 53, 54, 55, 56, 57, 58, 59] (by decide +kernel) (by decide +kernel)
set_option maxRecDepth 20000 in
theorem gX7_tell_X7_saysOf : GoodIn wsX7_tell (wsV RX7 124 RX7 yX7_saysOf wsX7_saysOf) := goodIn_app (goodIn_of _ (by decide +kernel)) ggX7_tell_X7_saysOf
set_option maxRecDepth 20000 in
theorem ggX7_tell_X7_likelyOf : GoodIn wsX7_tell wsX7_likelyOf := goodIn_r _ [33, 24, 25, 26, 5, 27, 28, 1, 29, 15, 16, 17, 18, 19, 38, 39, 40, 41, 42, 43, 44, 45, 46, 47, 48, 49, 50, 51, 52, 53, 54, 55, 56, 57, 58, 59] (by decide +kernel) (by decide +kernel)
set_option maxRecDepth 20000 in
theorem gX7_tell_X7_likelyOf : GoodIn wsX7_tell (wsV RX7 127 RX7 yX7_likelyOf wsX7_likelyOf) := goodIn_app (goodIn_of _ (by decide +kernel)) ggX7_tell_X7_likelyOf
set_option maxRecDepth 20000 in
theorem ggX7_tell_X7_slipsBy : GoodIn wsX7_tell wsX7_slipsBy := goodIn_r _ [27, 28, 1, 29, 15, 16, 17, 5, 18, 19, 38, 39, 40, 41, 42, 43, 44, 45, 46, 47, 48, 49, 50, 51, 52, 53, 54, 55, 56, 57, 58, 59] (by decide +kernel) (by decide +kernel)
set_option maxRecDepth 20000 in
theorem gX7_tell_X7_slipsBy : GoodIn wsX7_tell (wsV RX7 130 RX7 yX7_slipsBy wsX7_slipsBy) := goodIn_app (goodIn_of _ (by decide +kernel)) ggX7_tell_X7_slipsBy
set_option maxRecDepth 20000 in
theorem ggX7_tell_X7_listenOf : GoodIn wsX7_tell wsX7_listenOf := goodIn_r _ [37, 1, 20, 21, 22, 5, 23, 24, 25, 26, 27, 28, 29, 15, 16, 17, 18, 19, 11, 12, 13, 14, 38, 39, 40, 41, 42, 43, 44, 45, 46, 47, 48, 49, 50, 51, 52, 53, 54, 55, 56, 57, 58, 59] (by decide +kernel) (by decide +kernel)
set_option maxRecDepth 20000 in
theorem gX7_tell_X7_listenOf : GoodIn wsX7_tell (wsV RX7 133 RX7 yX7_listenOf wsX7_listenOf) := goodIn_app (goodIn_of _ (by decide +kernel)) ggX7_tell_X7_listenOf
set_option maxRecDepth 20000 in
theorem ggX7_about_X7_isTap : GoodIn wsX7_about wsX7_isTap := goodIn_r _ [5, 6, 7, 8, 4, 9, 50, 51, 52, 53, 54, 55, 56, 57, 58, 59, 60, 61, 62, 63, 64, 65, 66, 67, 68, 69, 70, 71] (by decide +kernel) (by decide +kernel)
set_option maxRecDepth 20000 in
theorem gX7_about_X7_isTap : GoodIn wsX7_about (wsV RX7 136 RX7 yX7_isTap wsX7_isTap) := goodIn_app (goodIn_of _ (by decide +kernel)) ggX7_about_X7_isTap
set_option maxRecDepth 20000 in
theorem ggX7_about_X7_tell : GoodIn wsX7_about wsX7_tell := goodIn_r _ [13, 14, 15, 16, 17, 4, 18, 19, 20, 21, 22, 23, 24, 25, 26, 27, 28, 29, 30, 31, 32, 33, 34, 35, 36, 37, 38, 39, 40, 41, 42, 43, 44, 45, 46, 47, 48, 49, 50, 51, 52, 53, 54, 55, 56, 57, 58, 59, 60, 61, 62, 63, 64, 65, 66, 67, 68, 69, 70, 71] (by decide +kernel) (by decide +kernel)
set_option maxRecDepth 20000 in
theorem gX7_about_X7_tell : GoodIn wsX7_about (wsV RX7 139 RX7 yX7_tell wsX7_tell) := goodIn_app (goodIn_of _ (by decide +kernel)) ggX7_about_X7_tell
set_option maxRecDepth 20000 in
theorem ggX7_as_X7_isTap : GoodIn wsX7_as wsX7_isTap := goodIn_r _ [7, 8, 9, 10, 6, 11, 12, 13, 14, 15, 16, 17, 18, 19, 20, 21, 22, 23, 24, 25, 26, 27, 28, 29, 30, 31, 32, 33] (by decide +kernel) (by decide +kernel)
set_option maxRecDepth 20000 in
theorem gX7_as_X7_isTap : GoodIn wsX7_as (wsV RX7 136 RX7 yX7_isTap wsX7_isTap) := goodIn_app (goodIn_of _ (by decide +kernel)) ggX7_as_X7_isTap
set_option maxRecDepth 20000 in
theorem ggX7_as_X7_in : GoodIn wsX7_as wsX7_in := goodIn_r _ [11] (by decide +kernel) (by decide +kernel)
set_option maxRecDepth 20000 in
theorem gX7_as_X7_in : GoodIn wsX7_as (va_wsS RX7 40 yX7_in wsX7_in) := goodIn_app (goodIn_of _ (by decide +kernel)) ggX7_as_X7_in
set_option maxRecDepth 20000 in
theorem ggX7_drip_X7_isTap : GoodIn wsX7_drip wsX7_isTap := goodIn_r _ [6, 7, 8, 9, 5, 10, 25, 26, 27, 28, 29, 30, 31, 32, 33, 34, 35, 36, 37, 38, 39, 40, 41, 42, 43, 44, 45, 46] (by decide +kernel) (by decide +kernel)
set_option maxRecDepth 20000 in
theorem gX7_drip_X7_isTap : GoodIn wsX7_drip (wsV RX7 136 RX7 yX7_isTap wsX7_isTap) := goodIn_app (goodIn_of _ (by decide +kernel)) ggX7_drip_X7_isTap
set_option maxRecDepth 20000 in
theorem ggX7_drip_X7_in : GoodIn wsX7_drip wsX7_in := goodIn_r _ [10] (by decide +kernel) (by decide +kernel)
set_option maxRecDepth 20000 in
theorem gX7_drip_X7_in : GoodIn wsX7_drip (va_wsS RX7 40 yX7_in wsX7_in) := goodIn_app (goodIn_of _ (by decide +kernel)) ggX7_drip_X7_in
set_option maxRecDepth 20000 in
theorem ggX7_drip_X7_dripOf : GoodIn wsX7_drip wsX7_dripOf := goodIn_r _ [14, 15, 16, 17, 18, 5, 19, 20, 21, 22, 23, 24, 25, 26, 27, 28, 29, 30, 31, 32, 33, 34, 35, 36, 37, 38, 39, 40, 41, 42, 43, 44, 45, 46] (by decide +kernel) (by decide +kernel)
set_option maxRecDepth 20000 in
theorem gX7_drip_X7_dripOf : GoodIn wsX7_drip (wsV RX7 144 RX7 yX7_dripOf wsX7_dripOf) := goodIn_app (goodIn_of _ (by decide +kernel)) ggX7_drip_X7_dripOf
set_option maxRecDepth 20000 in
theorem ggX7_listen_X7_isTap : GoodIn wsX7_listen wsX7_isTap := goodIn_r _ [7, 8, 9, 10, 6, 11, 25, 26, 27, 28, 29, 30, 31, 32, 33, 34, 35, 36, 37, 38, 39, 40, 41, 42, 43, 44, 45, 46] (by decide +kernel) (by decide +kernel)
set_option maxRecDepth 20000 in
theorem gX7_listen_X7_isTap : GoodIn wsX7_listen (wsV RX7 136 RX7 yX7_isTap wsX7_isTap) := goodIn_app (goodIn_of _ (by decide +kernel)) ggX7_listen_X7_isTap
set_option maxRecDepth 20000 in
theorem ggX7_listen_X7_dripOf : GoodIn wsX7_listen wsX7_dripOf := goodIn_r _ [15, 1, 16, 17, 18, 6, 19, 20, 21, 22, 23, 24, 25, 26, 27, 28, 29, 30, 31, 32, 33, 34, 35, 36, 37, 38, 39, 40, 41, 42, 43, 44, 45, 46] (by decide +kernel) (by decide +kernel)
set_option maxRecDepth 20000 in
theorem gX7_listen_X7_dripOf : GoodIn wsX7_listen (wsV RX7 144 RX7 yX7_dripOf wsX7_dripOf) := goodIn_app (goodIn_of _ (by decide +kernel)) ggX7_listen_X7_dripOf
set_option maxRecDepth 20000 in
theorem ggX7_washer_X7_isTap : GoodIn wsX7_washer wsX7_isTap := goodIn_r _ [7, 8, 9, 10, 6, 11, 12, 13, 14, 15, 16, 17, 18, 19, 20, 21, 22, 23, 24, 25, 26, 27, 28, 29, 30, 31, 32, 33] (by decide +kernel) (by decide +kernel)
set_option maxRecDepth 20000 in
theorem gX7_washer_X7_isTap : GoodIn wsX7_washer (wsV RX7 136 RX7 yX7_isTap wsX7_isTap) := goodIn_app (goodIn_of _ (by decide +kernel)) ggX7_washer_X7_isTap
set_option maxRecDepth 20000 in
theorem ggX7_teach_X7_isTap : GoodIn wsX7_teach wsX7_isTap := goodIn_r _ [7, 8, 9, 10, 6, 11, 16, 17, 18, 19, 20, 21, 22, 23, 24, 25, 26, 27, 28, 29, 30, 31, 32, 33, 34, 35, 36, 37] (by decide +kernel) (by decide +kernel)
set_option maxRecDepth 20000 in
theorem gX7_teach_X7_isTap : GoodIn wsX7_teach (wsV RX7 136 RX7 yX7_isTap wsX7_isTap) := goodIn_app (goodIn_of _ (by decide +kernel)) ggX7_teach_X7_isTap
set_option maxRecDepth 20000 in
theorem ggX7_teach_X7_isSaying : GoodIn wsX7_teach wsX7_isSaying := goodIn_r _ [14, 15, 9, 10, 6, 11] (by decide +kernel) (by decide +kernel)
set_option maxRecDepth 20000 in
theorem gX7_teach_X7_isSaying : GoodIn wsX7_teach (va_wsS RX7 101 yX7_isSaying wsX7_isSaying) := goodIn_app (goodIn_of _ (by decide +kernel)) ggX7_teach_X7_isSaying
set_option maxRecDepth 20000 in
theorem ggX7_agreeOf_X7_dripOf : GoodIn wsX7_agreeOf wsX7_dripOf := goodIn_r _ [6, 1, 7, 8, 9, 5, 10, 11, 12, 13, 14, 15, 16, 17, 18, 19, 20, 21, 22, 23, 24, 25, 26, 27, 28, 29, 30, 31, 32, 33, 34, 35, 36, 37] (by decide +kernel) (by decide +kernel)
set_option maxRecDepth 20000 in
theorem gX7_agreeOf_X7_dripOf : GoodIn wsX7_agreeOf (wsV RX7 144 RX7 yX7_dripOf wsX7_dripOf) := goodIn_app (goodIn_of _ (by decide +kernel)) ggX7_agreeOf_X7_dripOf
set_option maxRecDepth 20000 in
theorem ggX7_agree_X7_isTap : GoodIn wsX7_agree wsX7_isTap := goodIn_r _ [5, 6, 7, 8, 4, 9, 28, 29, 30, 31, 32, 33, 34, 35, 36, 37, 38, 39, 40, 41, 42, 43, 44, 45, 46, 47, 48, 49] (by decide +kernel) (by decide +kernel)
set_option maxRecDepth 20000 in
theorem gX7_agree_X7_isTap : GoodIn wsX7_agree (wsV RX7 136 RX7 yX7_isTap wsX7_isTap) := goodIn_app (goodIn_of _ (by decide +kernel)) ggX7_agree_X7_isTap
set_option maxRecDepth 20000 in
theorem ggX7_agree_X7_agreeOf : GoodIn wsX7_agree wsX7_agreeOf := goodIn_r _ [13, 14, 15, 16, 17, 4, 18, 19, 20, 21, 22, 23, 24, 25, 26, 27, 28, 29, 30, 31, 32, 33, 34, 35, 36, 37, 38, 39, 40, 41, 42, 43, 44, 45, 46, 47, 48, 49] (by decide +kernel) (by decide +kernel)
set_option maxRecDepth 20000 in
theorem gX7_agree_X7_agreeOf : GoodIn wsX7_agree (wsV RX7 147 RX7 yX7_agreeOf wsX7_agreeOf) := goodIn_app (goodIn_of _ (by decide +kernel)) ggX7_agree_X7_agreeOf
set_option maxRecDepth 20000 in
theorem ggX7_unlikeBy_X7_dripBy : GoodIn wsX7_unlikeBy wsX7_dripBy := goodIn_r _ [6, 7, 8, 9, 10, 11, 12, 13, 14, 15, 16, 17, 18, 19, 20, 21, 22, 23, 24, 25, 26, 27, 28, 29] (by decide +kernel) (by decide +kernel)
set_option maxRecDepth 20000 in
theorem gX7_unlikeBy_X7_dripBy : GoodIn wsX7_unlikeBy (wsV RX7 108 RX7 yX7_dripBy wsX7_dripBy) := goodIn_app (goodIn_of _ (by decide +kernel)) ggX7_unlikeBy_X7_dripBy
set_option maxRecDepth 20000 in
theorem ggX7_nearOf_X7_unlikeBy : GoodIn wsX7_nearOf wsX7_unlikeBy := goodIn_r _ [5, 6, 7, 8, 9, 4, 10, 11, 12, 13, 14, 15, 16, 17, 18, 19, 20, 21, 22, 23, 24, 25, 26, 27, 28, 29, 30, 31, 32, 33] (by decide +kernel) (by decide +kernel)
set_option maxRecDepth 20000 in
theorem gX7_nearOf_X7_unlikeBy : GoodIn wsX7_nearOf (wsV RX7 150 RX7 yX7_unlikeBy wsX7_unlikeBy) := goodIn_app (goodIn_of _ (by decide +kernel)) ggX7_nearOf_X7_unlikeBy
set_option maxRecDepth 20000 in
theorem ggX7_near_X7_isTap : GoodIn wsX7_near wsX7_isTap := goodIn_r _ [5, 6, 7, 8, 4, 9, 28, 29, 30, 31, 32, 33, 34, 35, 36, 37, 38, 39, 40, 41, 42, 43, 44, 45, 46, 47, 48, 49] (by decide +kernel) (by decide +kernel)
set_option maxRecDepth 20000 in
theorem gX7_near_X7_isTap : GoodIn wsX7_near (wsV RX7 136 RX7 yX7_isTap wsX7_isTap) := goodIn_app (goodIn_of _ (by decide +kernel)) ggX7_near_X7_isTap
set_option maxRecDepth 20000 in
theorem ggX7_near_X7_isSaying : GoodIn wsX7_near wsX7_isSaying := goodIn_r _ [12, 13, 7, 8, 4, 9] (by decide +kernel) (by decide +kernel)
set_option maxRecDepth 20000 in
theorem gX7_near_X7_isSaying : GoodIn wsX7_near (va_wsS RX7 101 yX7_isSaying wsX7_isSaying) := goodIn_app (goodIn_of _ (by decide +kernel)) ggX7_near_X7_isSaying
set_option maxRecDepth 20000 in
theorem ggX7_near_X7_in : GoodIn wsX7_near wsX7_in := goodIn_r _ [9] (by decide +kernel) (by decide +kernel)
set_option maxRecDepth 20000 in
theorem gX7_near_X7_in : GoodIn wsX7_near (va_wsS RX7 40 yX7_in wsX7_in) := goodIn_app (goodIn_of _ (by decide +kernel)) ggX7_near_X7_in
set_option maxRecDepth 20000 in
theorem ggX7_near_X7_nearOf : GoodIn wsX7_near wsX7_nearOf := goodIn_r _ [17, 18, 19, 20, 4, 21, 22, 23, 24, 25, 26, 27, 28, 29, 30, 31, 32, 33, 34, 35, 36, 37, 38, 39, 40, 41, 42, 43, 44, 45, 46, 47, 48, 49] (by decide +kernel) (by decide +kernel)
set_option maxRecDepth 20000 in
theorem gX7_near_X7_nearOf : GoodIn wsX7_near (wsV RX7 153 RX7 yX7_nearOf wsX7_nearOf) := goodIn_app (goodIn_of _ (by decide +kernel)) ggX7_near_X7_nearOf
set_option maxRecDepth 20000 in
theorem ggX7_put_X7_isTap : GoodIn wsX7_put wsX7_isTap := goodIn_r _ [9, 10, 11, 12, 8, 13, 14, 15, 16, 17, 18, 19, 20, 21, 22, 23, 24, 25, 26, 27, 28, 29, 30, 31, 32, 33, 34, 35] (by decide +kernel) (by decide +kernel)
set_option maxRecDepth 20000 in
theorem gX7_put_X7_isTap : GoodIn wsX7_put (wsV RX7 136 RX7 yX7_isTap wsX7_isTap) := goodIn_app (goodIn_of _ (by decide +kernel)) ggX7_put_X7_isTap
set_option maxRecDepth 20000 in
theorem ggX7_put_X7_in : GoodIn wsX7_put wsX7_in := goodIn_r _ [13] (by decide +kernel) (by decide +kernel)
set_option maxRecDepth 20000 in
theorem gX7_put_X7_in : GoodIn wsX7_put (va_wsS RX7 40 yX7_in wsX7_in) := goodIn_app (goodIn_of _ (by decide +kernel)) ggX7_put_X7_in
set_option maxRecDepth 20000 in
theorem ggX7_slipsBy_X7_dripBy : GoodIn wsX7_slipsBy wsX7_dripBy := goodIn_r _ [8, 9, 10, 11, 12, 13, 14, 15, 16, 17, 18, 19, 20, 21, 22, 23, 24, 25, 26, 27, 28, 29, 30, 31] (by decide +kernel) (by decide +kernel)
set_option maxRecDepth 20000 in
theorem gX7_slipsBy_X7_dripBy : GoodIn wsX7_slipsBy (wsV RX7 108 RX7 yX7_dripBy wsX7_dripBy) := goodIn_app (goodIn_of _ (by decide +kernel)) ggX7_slipsBy_X7_dripBy
set_option maxRecDepth 20000 in
theorem ggX7_saysOf_X7_slipsBy : GoodIn wsX7_saysOf wsX7_slipsBy := goodIn_r _ [5, 6, 7, 8, 9, 10, 11, 4, 12, 13, 14, 15, 16, 17, 18, 19, 20, 21, 22, 23, 24, 25, 26, 27, 28, 29, 30, 31, 32, 33, 34, 35] (by decide +kernel) (by decide +kernel)
set_option maxRecDepth 20000 in
theorem gX7_saysOf_X7_slipsBy : GoodIn wsX7_saysOf (wsV RX7 130 RX7 yX7_slipsBy wsX7_slipsBy) := goodIn_app (goodIn_of _ (by decide +kernel)) ggX7_saysOf_X7_slipsBy
set_option maxRecDepth 20000 in
theorem ggX7_likelyOf_X7_slipsBy : GoodIn wsX7_likelyOf wsX7_slipsBy := goodIn_r _ [5, 6, 7, 8, 9, 10, 11, 4, 12, 13, 14, 15, 16, 17, 18, 19, 20, 21, 22, 23, 24, 25, 26, 27, 28, 29, 30, 31, 32, 33, 34, 35] (by decide +kernel) (by decide +kernel)
set_option maxRecDepth 20000 in
theorem gX7_likelyOf_X7_slipsBy : GoodIn wsX7_likelyOf (wsV RX7 130 RX7 yX7_slipsBy wsX7_slipsBy) := goodIn_app (goodIn_of _ (by decide +kernel)) ggX7_likelyOf_X7_slipsBy
set_option maxRecDepth 20000 in
theorem ggX7_listenOf_X7_saysOf : GoodIn wsX7_listenOf wsX7_saysOf := goodIn_r _ [6, 7, 8, 9, 5, 10, 11, 1, 12, 13, 14, 15, 16, 17, 22, 23, 24, 25, 26, 27, 28, 29, 30, 31, 32, 33, 34, 35, 36, 37, 38, 39, 40, 41, 42, 43] (by decide +kernel) (by decide +kernel)
set_option maxRecDepth 20000 in
theorem gX7_listenOf_X7_saysOf : GoodIn wsX7_listenOf (wsV RX7 124 RX7 yX7_saysOf wsX7_saysOf) := goodIn_app (goodIn_of _ (by decide +kernel)) ggX7_listenOf_X7_saysOf
set_option maxRecDepth 20000 in
theorem ggX7_listenOf_X7_dripAs : GoodIn wsX7_listenOf wsX7_dripAs := goodIn_r _ [21, 1, 13, 14, 15, 5, 16, 17, 22, 23, 24, 25, 26, 27, 28, 29, 30, 31, 32, 33, 34, 35, 36, 37, 38, 39, 40, 41, 42, 43] (by decide +kernel) (by decide +kernel)
set_option maxRecDepth 20000 in
theorem gX7_listenOf_X7_dripAs : GoodIn wsX7_listenOf (wsV RX7 112 RX7 yX7_dripAs wsX7_dripAs) := goodIn_app (goodIn_of _ (by decide +kernel)) ggX7_listenOf_X7_dripAs
set_option maxRecDepth 20000 in
theorem ggX7_nights_X7_in : GoodIn wsX7_nights wsX7_in := goodIn_r _ [9] (by decide +kernel) (by decide +kernel)
set_option maxRecDepth 20000 in
theorem gX7_nights_X7_in : GoodIn wsX7_nights (va_wsS RX7 40 yX7_in wsX7_in) := goodIn_app (goodIn_of _ (by decide +kernel)) ggX7_nights_X7_in
set_option maxRecDepth 20000 in
theorem ggX7_nights_X7_lacks : GoodIn wsX7_nights wsX7_lacks := goodIn_r _ [13, 4, 35, 36, 37, 38, 39, 40, 41, 42, 43, 44, 45, 46, 47, 48, 49, 50, 51, 52, 53, 54, 55, 56] (by decide +kernel) (by decide +kernel)
set_option maxRecDepth 20000 in
theorem gX7_nights_X7_lacks : GoodIn wsX7_nights (wsV RX7 97 RX7 yX7_lacks wsX7_lacks) := goodIn_app (goodIn_of _ (by decide +kernel)) ggX7_nights_X7_lacks
set_option maxRecDepth 20000 in
theorem ggX7_nights_X7_dripOf : GoodIn wsX7_nights wsX7_dripOf := goodIn_r _ [17, 5, 18, 19, 20, 8, 21, 22, 23, 24, 25, 26, 35, 36, 37, 38, 39, 40, 41, 42, 43, 44, 45, 46, 47, 48, 49, 50, 51, 52, 53, 54, 55, 56] (by decide +kernel) (by decide +kernel)
set_option maxRecDepth 20000 in
theorem gX7_nights_X7_dripOf : GoodIn wsX7_nights (wsV RX7 144 RX7 yX7_dripOf wsX7_dripOf) := goodIn_app (goodIn_of _ (by decide +kernel)) ggX7_nights_X7_dripOf
set_option maxRecDepth 20000 in
theorem ggX7_nights_X7_draw : GoodIn wsX7_nights wsX7_draw := goodIn_r _ [30, 31, 3, 32, 33, 34, 35, 36, 37, 38, 39, 40, 41, 42, 43, 44, 45, 46, 47, 48, 49, 50, 51, 52, 53, 54, 55, 56] (by decide +kernel) (by decide +kernel)
set_option maxRecDepth 20000 in
theorem gX7_nights_X7_draw : GoodIn wsX7_nights (wsV RX7 172 RX7 yX7_draw wsX7_draw) := goodIn_app (goodIn_of _ (by decide +kernel)) ggX7_nights_X7_draw
set_option maxRecDepth 20000 in
theorem ggX7_image_X7_lacks : GoodIn wsX7_image wsX7_lacks := goodIn_r _ [17, 5, 21, 22, 23, 24, 25, 26, 27, 28, 29, 30, 31, 32, 33, 34, 35, 36, 37, 38, 39, 40, 41, 42] (by decide +kernel) (by decide +kernel)
set_option maxRecDepth 20000 in
theorem gX7_image_X7_lacks : GoodIn wsX7_image (wsV RX7 97 RX7 yX7_lacks wsX7_lacks) := goodIn_app (goodIn_of _ (by decide +kernel)) ggX7_image_X7_lacks
set_option maxRecDepth 20000 in
theorem ggX7_image_X7_copy : GoodIn wsX7_image wsX7_copy := goodIn_r _ [20] (by decide +kernel) (by decide +kernel)
set_option maxRecDepth 20000 in
theorem gX7_image_X7_copy : GoodIn wsX7_image (va_wsS RX7 78 yX7_copy wsX7_copy) := goodIn_app (goodIn_of _ (by decide +kernel)) ggX7_image_X7_copy
set_option maxRecDepth 20000 in
theorem ggX7_restore_X7_copy : GoodIn wsX7_restore wsX7_copy := goodIn_r _ [16] (by decide +kernel) (by decide +kernel)
set_option maxRecDepth 20000 in
theorem gX7_restore_X7_copy : GoodIn wsX7_restore (va_wsS RX7 78 yX7_copy wsX7_copy) := goodIn_app (goodIn_of _ (by decide +kernel)) ggX7_restore_X7_copy
set_option maxRecDepth 20000 in
theorem ggX7_beatsAll_X7_lacks : GoodIn wsX7_beatsAll wsX7_lacks := goodIn_r _ [6, 7, 8, 9, 10, 11, 12, 13, 14, 15, 16, 17, 18, 19, 20, 21, 22, 23, 24, 25, 26, 27, 28, 29] (by decide +kernel) (by decide +kernel)
set_option maxRecDepth 20000 in
theorem gX7_beatsAll_X7_lacks : GoodIn wsX7_beatsAll (wsV RX7 97 RX7 yX7_lacks wsX7_lacks) := goodIn_app (goodIn_of _ (by decide +kernel)) ggX7_beatsAll_X7_lacks
set_option maxRecDepth 20000 in
theorem ggX7_countOf_X7_beatsAll : GoodIn wsX7_countOf wsX7_beatsAll := goodIn_r _ [10, 11, 12, 13, 14, 9, 15, 1, 21, 22, 23, 24, 25, 26, 27, 28, 29, 30, 31, 32, 33, 34, 35, 36, 37, 38, 39, 40, 41, 42] (by decide +kernel) (by decide +kernel)
set_option maxRecDepth 20000 in
theorem gX7_countOf_X7_beatsAll : GoodIn wsX7_countOf (wsV RX7 184 RX7 yX7_beatsAll wsX7_beatsAll) := goodIn_app (goodIn_of _ (by decide +kernel)) ggX7_countOf_X7_beatsAll
set_option maxRecDepth 20000 in
theorem ggX7_countOf_X7_sumAt : GoodIn wsX7_countOf wsX7_sumAt := goodIn_r _ [19, 1, 20, 21, 22, 23, 24, 25, 26, 27, 28, 29, 30, 31, 32, 33, 34, 35, 36, 37, 38, 39, 40, 41, 42] (by decide +kernel) (by decide +kernel)
set_option maxRecDepth 20000 in
theorem gX7_countOf_X7_sumAt : GoodIn wsX7_countOf (wsV RX7 187 RX7 yX7_sumAt wsX7_sumAt) := goodIn_app (goodIn_of _ (by decide +kernel)) ggX7_countOf_X7_sumAt
set_option maxRecDepth 20000 in
theorem ggX7_count_X7_countOf : GoodIn wsX7_count wsX7_countOf := goodIn_r _ [5, 6, 7, 8, 9, 10, 11, 12, 13, 4, 14, 15, 16, 17, 18, 19, 20, 21, 22, 23, 24, 25, 26, 27, 28, 29, 30, 31, 32, 33, 34, 35, 36, 37, 38, 39, 40, 41, 42, 43, 44, 45, 46] (by decide +kernel) (by decide +kernel)
set_option maxRecDepth 20000 in
theorem gX7_count_X7_countOf : GoodIn wsX7_count (wsV RX7 190 RX7 yX7_countOf wsX7_countOf) := goodIn_app (goodIn_of _ (by decide +kernel)) ggX7_count_X7_countOf
set_option maxRecDepth 20000 in
theorem ggX7_sayTap_X7_tell : GoodIn wsX7_sayTap wsX7_tell := goodIn_r _ [5, 6, 7, 8, 9, 4, 10, 11, 12, 13, 14, 15, 16, 17, 18, 19, 20, 21, 22, 23, 24, 25, 26, 27, 28, 29, 30, 31, 32, 33, 34, 35, 36, 37, 38, 39, 40, 41, 60, 61, 62, 63, 64, 65, 66, 67, 68, 69, 70, 71, 72, 73, 74, 75, 76, 77, 78, 79, 80, 81] (by decide +kernel) (by decide +kernel)
set_option maxRecDepth 20000 in
theorem gX7_sayTap_X7_tell : GoodIn wsX7_sayTap (wsV RX7 139 RX7 yX7_tell wsX7_tell) := goodIn_app (goodIn_of _ (by decide +kernel)) ggX7_sayTap_X7_tell
set_option maxRecDepth 20000 in
theorem ggX7_sayTap_X7_say : GoodIn wsX7_sayTap wsX7_say := goodIn_r _ [45, 46, 47, 60, 61, 62, 63, 64, 65, 66, 67, 68, 69, 70, 71, 72, 73, 74, 75, 76, 77, 78, 79, 80, 81] (by decide +kernel) (by decide +kernel)
set_option maxRecDepth 20000 in
theorem gX7_sayTap_X7_say : GoodIn wsX7_sayTap (wsV RX7 199 RX7 yX7_say wsX7_say) := goodIn_app (goodIn_of _ (by decide +kernel)) ggX7_sayTap_X7_say
set_option maxRecDepth 20000 in
theorem ggX7_sayTap_X7_dripOf : GoodIn wsX7_sayTap wsX7_dripOf := goodIn_r _ [51, 6, 15, 16, 17, 4, 18, 19, 20, 21, 22, 23, 60, 61, 62, 63, 64, 65, 66, 67, 68, 69, 70, 71, 72, 73, 74, 75, 76, 77, 78, 79, 80, 81] (by decide +kernel) (by decide +kernel)
set_option maxRecDepth 20000 in
theorem gX7_sayTap_X7_dripOf : GoodIn wsX7_sayTap (wsV RX7 144 RX7 yX7_dripOf wsX7_dripOf) := goodIn_app (goodIn_of _ (by decide +kernel)) ggX7_sayTap_X7_dripOf
set_option maxRecDepth 20000 in
theorem ggX7_sayTap_X7_nearOf : GoodIn wsX7_sayTap wsX7_nearOf := goodIn_r _ [55, 56, 57, 58, 4, 59, 6, 19, 20, 21, 22, 23, 60, 61, 62, 63, 64, 65, 66, 67, 68, 69, 70, 71, 72, 73, 74, 75, 76, 77, 78, 79, 80, 81] (by decide +kernel) (by decide +kernel)
set_option maxRecDepth 20000 in
theorem gX7_sayTap_X7_nearOf : GoodIn wsX7_sayTap (wsV RX7 153 RX7 yX7_nearOf wsX7_nearOf) := goodIn_app (goodIn_of _ (by decide +kernel)) ggX7_sayTap_X7_nearOf
set_option maxRecDepth 20000 in
theorem ggX7_digest_X7_lacks : GoodIn wsX7_digest wsX7_lacks := goodIn_r _ [10, 3, 95, 96, 97, 98, 99, 100, 101, 102, 103, 104, 105, 106, 107, 108, 109, 110, 111, 112, 113, 114, 115, 116] (by decide +kernel) (by decide +kernel)
set_option maxRecDepth 20000 in
theorem gX7_digest_X7_lacks : GoodIn wsX7_digest (wsV RX7 97 RX7 yX7_lacks wsX7_lacks) := goodIn_app (goodIn_of _ (by decide +kernel)) ggX7_digest_X7_lacks
set_option maxRecDepth 20000 in
theorem ggX7_digest_X7_tellSaying : GoodIn wsX7_digest wsX7_tellSaying := goodIn_r _ [14, 15, 16, 17, 18, 19, 9, 20, 95, 96, 97, 98, 99, 100, 101, 102, 103, 104, 105, 106, 107, 108, 109, 110, 111, 112, 113, 114, 115, 116] (by decide +kernel) (by decide +kernel)
set_option maxRecDepth 20000 in
theorem gX7_digest_X7_tellSaying : GoodIn wsX7_digest (wsV RX7 104 RX7 yX7_tellSaying wsX7_tellSaying) := goodIn_app (goodIn_of _ (by decide +kernel)) ggX7_digest_X7_tellSaying
set_option maxRecDepth 20000 in
theorem ggX7_digest_X7_say : GoodIn wsX7_digest wsX7_say := goodIn_r _ [24, 25, 2, 95, 96, 97, 98, 99, 100, 101, 102, 103, 104, 105, 106, 107, 108, 109, 110, 111, 112, 113, 114, 115, 116] (by decide +kernel) (by decide +kernel)
set_option maxRecDepth 20000 in
theorem gX7_digest_X7_say : GoodIn wsX7_digest (wsV RX7 199 RX7 yX7_say wsX7_say) := goodIn_app (goodIn_of _ (by decide +kernel)) ggX7_digest_X7_say
set_option maxRecDepth 20000 in
theorem ggX7_digest_X7_sayTap : GoodIn wsX7_digest wsX7_sayTap := goodIn_r _ [29, 30, 31, 32, 9, 33, 34, 35, 36, 37, 38, 39, 40, 41, 42, 43, 44, 45, 46, 47, 48, 49, 50, 15, 51, 52, 53, 54, 55, 56, 57, 58, 59, 60, 61, 62, 63, 64, 65, 66, 67, 68, 21, 22, 23, 24, 25, 2, 69, 70, 71, 72, 73, 74, 75, 76, 77, 78, 79, 80, 95, 96, 97, 98, 99, 100, 101, 102, 103, 104, 105, 106, 107, 108, 109, 110, 111, 112, 113, 114, 115, 116] (by decide +kernel) (by decide +kernel)
set_option maxRecDepth 20000 in
theorem gX7_digest_X7_sayTap : GoodIn wsX7_digest (wsV RX7 205 RX7 yX7_sayTap wsX7_sayTap) := goodIn_app (goodIn_of _ (by decide +kernel)) ggX7_digest_X7_sayTap
set_option maxRecDepth 20000 in
theorem ggX7_digest_X7_countOf : GoodIn wsX7_digest wsX7_countOf := goodIn_r _ [84, 3, 85, 59, 4, 86, 87, 88, 89, 9, 90, 15, 6, 7, 8, 10, 91, 92, 93, 94, 34, 95, 96, 97, 98, 99, 100, 101, 102, 103, 104, 105, 106, 107, 108, 109, 110, 111, 112, 113, 114, 115, 116] (by decide +kernel) (by decide +kernel)
set_option maxRecDepth 20000 in
theorem gX7_digest_X7_countOf : GoodIn wsX7_digest (wsV RX7 190 RX7 yX7_countOf wsX7_countOf) := goodIn_app (goodIn_of _ (by decide +kernel)) ggX7_digest_X7_countOf
set_option maxRecDepth 20000 in
theorem ggL_law_X6_init : GoodIn wsL_law wsX6_init := goodIn_r _ [8, 9, 10, 11, 12, 13, 14, 15, 16, 17, 18, 19, 20, 21, 22, 23, 24, 25, 26, 27, 28, 29, 30, 31, 32, 33, 34, 35, 36, 37, 38, 39, 40, 41, 42, 43, 44, 45, 46, 47, 48, 49, 50, 51, 52, 53, 54, 55, 56, 57, 58, 59, 60, 61, 62, 63, 654, 655, 656, 625, 626, 627, 628, 629, 630, 631, 657, 658, 659, 660, 661, 662, 663, 664, 665, 666, 667, 668, 669, 670, 671, 672, 673, 674, 675] (by decide +kernel) (by decide +kernel)
set_option maxRecDepth 20000 in
theorem gL_law_X6_init : GoodIn wsL_law (wsX6_init) := ggL_law_X6_init
set_option maxRecDepth 20000 in
theorem ggL_law_X7_init : GoodIn wsL_law wsX7_init := goodIn_r _ [66, 67, 10, 11, 29, 68, 69, 70, 71, 72, 73, 74, 75, 76, 632, 633, 634, 635, 636, 637, 638, 639, 640, 641, 642, 643, 644, 645, 646, 647, 648, 649, 650, 651, 652, 653] (by decide +kernel) (by decide +kernel)
set_option maxRecDepth 20000 in
theorem gL_law_X7_init : GoodIn wsL_law (wsX7_init) := ggL_law_X7_init
set_option maxRecDepth 20000 in
theorem ggL_law_X6_letter : GoodIn wsL_law wsX6_letter := goodIn_r _ [80, 15, 81, 82, 83, 84, 14, 85, 86, 30, 625, 626, 627, 628, 629, 630, 631, 654, 655, 656] (by decide +kernel) (by decide +kernel)
set_option maxRecDepth 20000 in
theorem gL_law_X6_letter : GoodIn wsL_law (wsV RL 13 RX6 yX6_letter wsX6_letter) := goodIn_app (goodIn_of _ (by decide +kernel)) ggL_law_X6_letter
set_option maxRecDepth 20000 in
theorem ggL_law_X7_letter : GoodIn wsL_law wsX7_letter := goodIn_r _ [90, 91, 92, 68, 93, 94, 5, 95, 632, 633, 634, 635, 636, 637, 638, 639, 640, 641, 642, 643, 644, 645, 646, 647, 648, 649, 650, 651, 652, 653] (by decide +kernel) (by decide +kernel)
set_option maxRecDepth 20000 in
theorem gL_law_X7_letter : GoodIn wsL_law (wsV RL 17 RX7 yX7_letter wsX7_letter) := goodIn_app (goodIn_of _ (by decide +kernel)) ggL_law_X7_letter
set_option maxRecDepth 20000 in
theorem ggL_law_X6_blank : GoodIn wsL_law wsX6_blank := goodIn_r _ [99, 15, 81, 100, 101, 102, 14, 103, 86, 625, 626, 627, 628, 629, 630, 631, 654, 655, 656] (by decide +kernel) (by decide +kernel)
set_option maxRecDepth 20000 in
theorem gL_law_X6_blank : GoodIn wsL_law (wsV RL 18 RX6 yX6_blank wsX6_blank) := goodIn_app (goodIn_of _ (by decide +kernel)) ggL_law_X6_blank
set_option maxRecDepth 20000 in
theorem ggL_law_X7_blank : GoodIn wsL_law wsX7_blank := goodIn_r _ [107, 92, 632, 633, 634, 635, 636, 637, 638, 639, 640, 641, 642, 643, 644, 645, 646, 647, 648, 649, 650, 651, 652, 653] (by decide +kernel) (by decide +kernel)
set_option maxRecDepth 20000 in
theorem gL_law_X7_blank : GoodIn wsL_law (wsV RL 22 RX7 yX7_blank wsX7_blank) := goodIn_app (goodIn_of _ (by decide +kernel)) ggL_law_X7_blank
set_option maxRecDepth 20000 in
theorem ggL_law_X6_fault : GoodIn wsL_law wsX6_fault := goodIn_r _ [111, 15, 112, 113, 114, 14, 115, 34, 86, 116, 117, 118, 33, 119, 120, 121, 122, 123, 124, 125, 126, 30, 127, 128, 129, 130, 131, 132, 133, 134, 135, 136, 137, 138, 139, 2, 140, 141, 142, 625, 626, 627, 628, 629, 630, 631, 654, 655, 656, 664, 665, 666] (by decide +kernel) (by decide +kernel)
set_option maxRecDepth 20000 in
theorem gL_law_X6_fault : GoodIn wsL_law (wsV RL 23 RX6 yX6_fault wsX6_fault) := goodIn_app (goodIn_of _ (by decide +kernel)) ggL_law_X6_fault
set_option maxRecDepth 20000 in
theorem ggL_law_X7_fault : GoodIn wsL_law wsX7_fault := goodIn_r _ [146, 147, 148, 149, 5, 150, 151, 69, 152, 153, 92, 68, 154, 155, 156, 157, 158, 159, 160, 161, 70, 162, 163, 164, 165, 166, 93, 94, 95, 632, 633, 634, 635, 636, 637, 638, 639, 640, 641, 642, 643, 644, 645, 646, 647, 648, 649, 650, 651, 652, 653] (by decide +kernel) (by decide +kernel)
set_option maxRecDepth 20000 in
theorem gL_law_X7_fault : GoodIn wsL_law (wsV RL 26 RX7 yX7_fault wsX7_fault) := goodIn_app (goodIn_of _ (by decide +kernel)) ggL_law_X7_fault
set_option maxRecDepth 20000 in
theorem ggL_law_X6_house : GoodIn wsL_law wsX6_house := goodIn_r _ [170, 15, 19, 23, 171, 172, 173, 174, 175, 176, 177, 14, 178, 86, 34, 179, 113, 114, 115, 116, 117, 118, 33, 119, 120, 121, 122, 123, 124, 125, 126, 30, 127, 128, 129, 130, 131, 132, 133, 134, 135, 136, 137, 138, 139, 2, 140, 141, 142, 180, 181, 182, 183, 184, 185, 186, 18, 187, 42, 43, 188, 189, 190, 22, 191, 192, 193, 194, 195, 196, 197, 198, 81, 199, 200, 201, 202, 203, 204, 205, 206, 207, 208, 209, 210, 211, 212, 49, 213, 214, 215, 51, 216, 217, 218, 219, 220, 100, 101, 102, 103, 625, 626, 627, 628, 629, 630, 631, 659, 660, 661, 662, 663, 654, 655, 656, 664, 665, 666, 657, 658, 667, 668, 669, 670, 671] (by decide +kernel) (by decide +kernel)
set_option maxRecDepth 20000 in
theorem gL_law_X6_house : GoodIn wsL_law (wsV RL 27 RX6 yX6_house wsX6_house) := goodIn_app (goodIn_of _ (by decide +kernel)) ggL_law_X6_house
set_option maxRecDepth 20000 in
theorem ggL_law_X7_house : GoodIn wsL_law wsX7_house := goodIn_r _ [224, 92, 151, 153, 152, 225, 69, 71, 72, 70, 226, 227, 228, 147, 148, 149, 5, 150, 68, 154, 155, 156, 157, 158, 159, 160, 161, 162, 163, 164, 165, 166, 93, 94, 95, 229, 230, 231, 632, 633, 634, 635, 636, 637, 638, 639, 640, 641, 642, 643, 644, 645, 646, 647, 648, 649, 650, 651, 652, 653] (by decide +kernel) (by decide +kernel)
set_option maxRecDepth 20000 in
theorem gL_law_X7_house : GoodIn wsL_law (wsV RL 30 RX7 yX7_house wsX7_house) := goodIn_app (goodIn_of _ (by decide +kernel)) ggL_law_X7_house
set_option maxRecDepth 20000 in
theorem ggL_law_X6_saying : GoodIn wsL_law wsX6_saying := goodIn_r _ [235, 171, 19, 236, 141, 2, 142, 237, 238, 239, 18, 240, 43, 241, 242, 243, 244, 42, 625, 626, 627, 628, 629, 630, 631, 657, 658] (by decide +kernel) (by decide +kernel)
set_option maxRecDepth 20000 in
theorem gL_law_X6_saying : GoodIn wsL_law (wsV RL 31 RX6 yX6_saying wsX6_saying) := goodIn_app (goodIn_of _ (by decide +kernel)) ggL_law_X6_saying
set_option maxRecDepth 20000 in
theorem ggL_law_X7_saying : GoodIn wsL_law wsX7_saying := goodIn_r _ [248, 249, 250, 251, 5, 252, 225, 253, 254, 255, 256, 93, 94, 95, 257, 258, 259, 260, 71, 261, 262, 632, 633, 634, 635, 636, 637, 638, 639, 640, 641, 642, 643, 644, 645, 646, 647, 648, 649, 650, 651, 652, 653] (by decide +kernel) (by decide +kernel)
set_option maxRecDepth 20000 in
theorem gL_law_X7_saying : GoodIn wsL_law (wsV RL 35 RX7 yX7_saying wsX7_saying) := goodIn_app (goodIn_of _ (by decide +kernel)) ggL_law_X7_saying
set_option maxRecDepth 20000 in
theorem ggL_law_X6_tap : GoodIn wsL_law wsX6_tap := goodIn_r _ [266, 171, 23, 174, 267, 268, 2, 269, 236, 141, 142, 205, 206, 207, 22, 208, 192, 209, 210, 211, 212, 49, 213, 214, 215, 51, 216, 217, 218, 219, 220, 625, 626, 627, 628, 629, 630, 631, 659, 660, 661, 662, 663, 667, 668, 669, 670, 671] (by decide +kernel) (by decide +kernel)
set_option maxRecDepth 20000 in
theorem gL_law_X6_tap : GoodIn wsL_law (wsV RL 36 RX6 yX6_tap wsX6_tap) := goodIn_app (goodIn_of _ (by decide +kernel)) ggL_law_X6_tap
set_option maxRecDepth 20000 in
theorem ggL_law_X7_tap : GoodIn wsL_law wsX7_tap := goodIn_r _ [273, 274, 225, 72, 93, 94, 5, 95, 253, 254, 255, 256, 249, 250, 251, 252, 632, 633, 634, 635, 636, 637, 638, 639, 640, 641, 642, 643, 644, 645, 646, 647, 648, 649, 650, 651, 652, 653] (by decide +kernel) (by decide +kernel)
set_option maxRecDepth 20000 in
theorem gL_law_X7_tap : GoodIn wsL_law (wsV RL 39 RX7 yX7_tap wsX7_tap) := goodIn_app (goodIn_of _ (by decide +kernel)) ggL_law_X7_tap
set_option maxRecDepth 20000 in
theorem ggL_law_X6_about : GoodIn wsL_law wsX6_about := goodIn_r _ [278, 23, 279, 210, 211, 22, 212, 192, 49, 280, 281, 282, 2, 283, 284, 285, 286, 287, 288, 289, 290, 291, 292, 293, 294, 295, 296, 297, 298, 299, 19, 300, 301, 302, 18, 303, 304, 238, 239, 240, 43, 305, 242, 243, 244, 42, 306, 307, 308, 309, 310, 311, 312, 313, 314, 315, 316, 317, 318, 319, 320, 321, 322, 323, 193, 53, 324, 325, 326, 327, 328, 329, 330, 331, 332, 333, 334, 335, 625, 626, 627, 628, 629, 630, 631, 659, 660, 661, 662, 663, 667, 668, 669, 670, 671, 657, 658, 672, 673, 674, 675] (by decide +kernel) (by decide +kernel)
set_option maxRecDepth 20000 in
theorem gL_law_X6_about : GoodIn wsL_law (wsV RL 40 RX6 yX6_about wsX6_about) := goodIn_app (goodIn_of _ (by decide +kernel)) ggL_law_X6_about
set_option maxRecDepth 20000 in
theorem ggL_law_X7_about : GoodIn wsL_law wsX7_about := goodIn_r _ [339, 340, 341, 342, 5, 343, 225, 93, 94, 95, 344, 345, 346, 347, 72, 348, 349, 350, 351, 352, 353, 354, 355, 356, 357, 358, 359, 360, 361, 362, 363, 71, 364, 365, 366, 367, 368, 369, 370, 371, 227, 73, 372, 373, 374, 375, 376, 377, 378, 379, 632, 633, 634, 635, 636, 637, 638, 639, 640, 641, 642, 643, 644, 645, 646, 647, 648, 649, 650, 651, 652, 653] (by decide +kernel) (by decide +kernel)
set_option maxRecDepth 20000 in
theorem gL_law_X7_about : GoodIn wsL_law (wsV RL 43 RX7 yX7_about wsX7_about) := goodIn_app (goodIn_of _ (by decide +kernel)) ggL_law_X7_about
set_option maxRecDepth 20000 in
theorem ggL_law_X6_as : GoodIn wsL_law wsX6_as := goodIn_r _ [383, 23, 284, 279, 210, 211, 22, 212, 192, 49, 267, 268, 2, 269, 625, 626, 627, 628, 629, 630, 631, 667, 668, 669, 670, 671, 659, 660, 661, 662, 663] (by decide +kernel) (by decide +kernel)
set_option maxRecDepth 20000 in
theorem gL_law_X6_as : GoodIn wsL_law (wsV RL 44 RX6 yX6_as wsX6_as) := goodIn_app (goodIn_of _ (by decide +kernel)) ggL_law_X6_as
set_option maxRecDepth 20000 in
theorem ggL_law_X7_as : GoodIn wsL_law wsX7_as := goodIn_r _ [387, 274, 72, 340, 341, 342, 5, 343, 225, 93, 94, 95, 632, 633, 634, 635, 636, 637, 638, 639, 640, 641, 642, 643, 644, 645, 646, 647, 648, 649, 650, 651, 652, 653] (by decide +kernel) (by decide +kernel)
set_option maxRecDepth 20000 in
theorem gL_law_X7_as : GoodIn wsL_law (wsV RL 47 RX7 yX7_as wsX7_as) := goodIn_app (goodIn_of _ (by decide +kernel)) ggL_law_X7_as
set_option maxRecDepth 20000 in
theorem ggL_law_X6_drip : GoodIn wsL_law wsX6_drip := goodIn_r _ [391, 23, 279, 210, 211, 22, 212, 192, 49, 392, 393, 394, 2, 395, 19, 284, 285, 286, 300, 301, 302, 18, 303, 304, 238, 239, 240, 43, 305, 242, 243, 244, 42, 625, 626, 627, 628, 629, 630, 631, 659, 660, 661, 662, 663, 667, 668, 669, 670, 671, 657, 658] (by decide +kernel) (by decide +kernel)
set_option maxRecDepth 20000 in
theorem gL_law_X6_drip : GoodIn wsL_law (wsV RL 48 RX6 yX6_drip wsX6_drip) := goodIn_app (goodIn_of _ (by decide +kernel)) ggL_law_X6_drip
set_option maxRecDepth 20000 in
theorem ggL_law_X7_drip : GoodIn wsL_law wsX7_drip := goodIn_r _ [399, 400, 340, 341, 342, 5, 343, 225, 93, 94, 95, 401, 402, 403, 404, 72, 356, 357, 358, 359, 360, 361, 362, 363, 71, 632, 633, 634, 635, 636, 637, 638, 639, 640, 641, 642, 643, 644, 645, 646, 647, 648, 649, 650, 651, 652, 653] (by decide +kernel) (by decide +kernel)
set_option maxRecDepth 20000 in
theorem gL_law_X7_drip : GoodIn wsL_law (wsV RL 51 RX7 yX7_drip wsX7_drip) := goodIn_app (goodIn_of _ (by decide +kernel)) ggL_law_X7_drip
set_option maxRecDepth 20000 in
theorem ggL_law_X6_listen : GoodIn wsL_law wsX6_listen := goodIn_r _ [408, 23, 287, 409, 279, 210, 211, 22, 212, 192, 49, 392, 393, 394, 2, 395, 19, 284, 285, 286, 300, 301, 302, 18, 303, 304, 238, 239, 240, 43, 305, 242, 243, 244, 42, 625, 626, 627, 628, 629, 630, 631, 667, 668, 669, 670, 671, 659, 660, 661, 662, 663, 657, 658] (by decide +kernel) (by decide +kernel)
set_option maxRecDepth 20000 in
theorem gL_law_X6_listen : GoodIn wsL_law (wsV RL 52 RX6 yX6_listen wsX6_listen) := goodIn_app (goodIn_of _ (by decide +kernel)) ggL_law_X6_listen
set_option maxRecDepth 20000 in
theorem ggL_law_X7_listen : GoodIn wsL_law wsX7_listen := goodIn_r _ [413, 72, 226, 340, 341, 342, 5, 343, 225, 93, 94, 95, 401, 402, 403, 404, 356, 357, 358, 359, 360, 361, 362, 363, 71, 632, 633, 634, 635, 636, 637, 638, 639, 640, 641, 642, 643, 644, 645, 646, 647, 648, 649, 650, 651, 652, 653] (by decide +kernel) (by decide +kernel)
set_option maxRecDepth 20000 in
theorem gL_law_X7_listen : GoodIn wsL_law (wsV RL 55 RX7 yX7_listen wsX7_listen) := goodIn_app (goodIn_of _ (by decide +kernel)) ggL_law_X7_listen
set_option maxRecDepth 20000 in
theorem ggL_law_X6_washer : GoodIn wsL_law wsX6_washer := goodIn_r _ [417, 23, 286, 409, 279, 210, 211, 22, 212, 192, 49, 625, 626, 627, 628, 629, 630, 631, 667, 668, 669, 670, 671, 659, 660, 661, 662, 663] (by decide +kernel) (by decide +kernel)
set_option maxRecDepth 20000 in
theorem gL_law_X6_washer : GoodIn wsL_law (wsV RL 56 RX6 yX6_washer wsX6_washer) := goodIn_app (goodIn_of _ (by decide +kernel)) ggL_law_X6_washer
set_option maxRecDepth 20000 in
theorem ggL_law_X7_washer : GoodIn wsL_law wsX7_washer := goodIn_r _ [421, 72, 226, 340, 341, 342, 5, 343, 225, 93, 94, 95, 632, 633, 634, 635, 636, 637, 638, 639, 640, 641, 642, 643, 644, 645, 646, 647, 648, 649, 650, 651, 652, 653] (by decide +kernel) (by decide +kernel)
set_option maxRecDepth 20000 in
theorem gL_law_X7_washer : GoodIn wsL_law (wsV RL 60 RX7 yX7_washer wsX7_washer) := goodIn_app (goodIn_of _ (by decide +kernel)) ggL_law_X7_washer
set_option maxRecDepth 20000 in
theorem ggL_law_X6_teach : GoodIn wsL_law wsX6_teach := goodIn_r _ [425, 23, 285, 409, 279, 210, 211, 22, 212, 192, 49, 236, 141, 2, 142, 625, 626, 627, 628, 629, 630, 631, 667, 668, 669, 670, 671, 659, 660, 661, 662, 663] (by decide +kernel) (by decide +kernel)
set_option maxRecDepth 20000 in
theorem gL_law_X6_teach : GoodIn wsL_law (wsV RL 61 RX6 yX6_teach wsX6_teach) := goodIn_app (goodIn_of _ (by decide +kernel)) ggL_law_X6_teach
set_option maxRecDepth 20000 in
theorem ggL_law_X7_teach : GoodIn wsL_law wsX7_teach := goodIn_r _ [429, 72, 226, 340, 341, 342, 5, 343, 225, 93, 94, 95, 253, 254, 255, 256, 632, 633, 634, 635, 636, 637, 638, 639, 640, 641, 642, 643, 644, 645, 646, 647, 648, 649, 650, 651, 652, 653] (by decide +kernel) (by decide +kernel)
set_option maxRecDepth 20000 in
theorem gL_law_X7_teach : GoodIn wsL_law (wsV RL 64 RX7 yX7_teach wsX7_teach) := goodIn_app (goodIn_of _ (by decide +kernel)) ggL_law_X7_teach
set_option maxRecDepth 20000 in
theorem ggL_law_X6_agree : GoodIn wsL_law wsX6_agree := goodIn_r _ [433, 23, 287, 279, 210, 211, 22, 212, 192, 49, 392, 393, 394, 2, 395, 19, 284, 285, 286, 300, 301, 302, 18, 303, 304, 238, 239, 240, 43, 305, 242, 243, 244, 42, 625, 626, 627, 628, 629, 630, 631, 667, 668, 669, 670, 671, 659, 660, 661, 662, 663, 657, 658] (by decide +kernel) (by decide +kernel)
set_option maxRecDepth 20000 in
theorem gL_law_X6_agree : GoodIn wsL_law (wsV RL 65 RX6 yX6_agree wsX6_agree) := goodIn_app (goodIn_of _ (by decide +kernel)) ggL_law_X6_agree
set_option maxRecDepth 20000 in
theorem ggL_law_X7_agree : GoodIn wsL_law wsX7_agree := goodIn_r _ [437, 340, 341, 342, 5, 343, 225, 93, 94, 95, 438, 439, 440, 441, 72, 401, 402, 403, 404, 356, 357, 358, 359, 360, 361, 362, 363, 71, 632, 633, 634, 635, 636, 637, 638, 639, 640, 641, 642, 643, 644, 645, 646, 647, 648, 649, 650, 651, 652, 653] (by decide +kernel) (by decide +kernel)
set_option maxRecDepth 20000 in
theorem gL_law_X7_agree : GoodIn wsL_law (wsV RL 68 RX7 yX7_agree wsX7_agree) := goodIn_app (goodIn_of _ (by decide +kernel)) ggL_law_X7_agree
set_option maxRecDepth 20000 in
theorem ggL_law_X6_near : GoodIn wsL_law wsX6_near := goodIn_r _ [445, 23, 279, 210, 211, 22, 212, 192, 49, 236, 141, 2, 142, 446, 447, 448, 449, 450, 451, 294, 452, 453, 454, 455, 456, 19, 284, 285, 300, 301, 302, 18, 303, 304, 238, 239, 240, 43, 305, 242, 243, 244, 42, 625, 626, 627, 628, 629, 630, 631, 659, 660, 661, 662, 663, 667, 668, 669, 670, 671, 657, 658] (by decide +kernel) (by decide +kernel)
set_option maxRecDepth 20000 in
theorem gL_law_X6_near : GoodIn wsL_law (wsV RL 69 RX6 yX6_near wsX6_near) := goodIn_app (goodIn_of _ (by decide +kernel)) ggL_law_X6_near
set_option maxRecDepth 20000 in
theorem ggL_law_X7_near : GoodIn wsL_law wsX7_near := goodIn_r _ [460, 340, 341, 342, 5, 343, 225, 93, 94, 95, 253, 254, 255, 256, 461, 462, 463, 464, 465, 466, 467, 468, 72, 360, 361, 362, 363, 71, 632, 633, 634, 635, 636, 637, 638, 639, 640, 641, 642, 643, 644, 645, 646, 647, 648, 649, 650, 651, 652, 653] (by decide +kernel) (by decide +kernel)
set_option maxRecDepth 20000 in
theorem gL_law_X7_near : GoodIn wsL_law (wsV RL 73 RX7 yX7_near wsX7_near) := goodIn_app (goodIn_of _ (by decide +kernel)) ggL_law_X7_near
set_option maxRecDepth 20000 in
theorem ggL_law_X6_put : GoodIn wsL_law wsX6_put := goodIn_r _ [472, 23, 314, 279, 210, 211, 22, 212, 192, 49, 473, 474, 475, 476, 193, 477, 478, 479, 321, 322, 323, 53, 480, 481, 482, 55, 483, 484, 485, 486, 487, 625, 626, 627, 628, 629, 630, 631, 659, 660, 661, 662, 663, 667, 668, 669, 670, 671, 672, 673, 674, 675] (by decide +kernel) (by decide +kernel)
set_option maxRecDepth 20000 in
theorem gL_law_X6_put : GoodIn wsL_law (wsV RL 74 RX6 yX6_put wsX6_put) := goodIn_app (goodIn_of _ (by decide +kernel)) ggL_law_X6_put
set_option maxRecDepth 20000 in
theorem ggL_law_X7_put : GoodIn wsL_law wsX7_put := goodIn_r _ [491, 492, 227, 73, 72, 340, 341, 342, 5, 343, 225, 93, 94, 95, 632, 633, 634, 635, 636, 637, 638, 639, 640, 641, 642, 643, 644, 645, 646, 647, 648, 649, 650, 651, 652, 653] (by decide +kernel) (by decide +kernel)
set_option maxRecDepth 20000 in
theorem gL_law_X7_put : GoodIn wsL_law (wsV RL 78 RX7 yX7_put wsX7_put) := goodIn_app (goodIn_of _ (by decide +kernel)) ggL_law_X7_put
set_option maxRecDepth 20000 in
theorem ggL_law_X6_forget : GoodIn wsL_law wsX6_forget := goodIn_r _ [496, 23, 314, 625, 626, 627, 628, 629, 630, 631, 659, 660, 661, 662, 663] (by decide +kernel) (by decide +kernel)
set_option maxRecDepth 20000 in
theorem gL_law_X6_forget : GoodIn wsL_law (wsV RL 79 RX6 yX6_forget wsX6_forget) := goodIn_app (goodIn_of _ (by decide +kernel)) ggL_law_X6_forget
set_option maxRecDepth 20000 in
theorem ggL_law_X7_forget : GoodIn wsL_law wsX7_forget := goodIn_r _ [500, 227, 632, 633, 634, 635, 636, 637, 638, 639, 640, 641, 642, 643, 644, 645, 646, 647, 648, 649, 650, 651, 652, 653] (by decide +kernel) (by decide +kernel)
set_option maxRecDepth 20000 in
theorem gL_law_X7_forget : GoodIn wsL_law (wsV RL 82 RX7 yX7_forget wsX7_forget) := goodIn_app (goodIn_of _ (by decide +kernel)) ggL_law_X7_forget
set_option maxRecDepth 20000 in
theorem ggL_law_X6_nights : GoodIn wsL_law wsX6_nights := goodIn_r _ [504, 171, 23, 174, 287, 279, 210, 211, 22, 212, 192, 49, 505, 506, 2, 507, 508, 509, 510, 511, 512, 513, 514, 392, 393, 394, 395, 19, 284, 285, 286, 300, 301, 302, 18, 303, 304, 238, 239, 240, 43, 305, 242, 243, 244, 42, 625, 626, 627, 628, 629, 630, 631, 659, 660, 661, 662, 663, 667, 668, 669, 670, 671, 657, 658] (by decide +kernel) (by decide +kernel)
set_option maxRecDepth 20000 in
theorem gL_law_X6_nights : GoodIn wsL_law (wsV RL 83 RX6 yX6_nights wsX6_nights) := goodIn_app (goodIn_of _ (by decide +kernel)) ggL_law_X6_nights
set_option maxRecDepth 20000 in
theorem ggL_law_X7_nights : GoodIn wsL_law wsX7_nights := goodIn_r _ [518, 519, 520, 521, 225, 72, 93, 94, 5, 95, 249, 250, 251, 252, 401, 402, 403, 404, 356, 357, 358, 359, 360, 361, 362, 363, 71, 522, 523, 524, 525, 526, 527, 528, 529, 632, 633, 634, 635, 636, 637, 638, 639, 640, 641, 642, 643, 644, 645, 646, 647, 648, 649, 650, 651, 652, 653] (by decide +kernel) (by decide +kernel)
set_option maxRecDepth 20000 in
theorem gL_law_X7_nights : GoodIn wsL_law (wsV RL 86 RX7 yX7_nights wsX7_nights) := goodIn_app (goodIn_of _ (by decide +kernel)) ggL_law_X7_nights
set_option maxRecDepth 20000 in
theorem ggL_law_X6_image : GoodIn wsL_law wsX6_image := goodIn_r _ [533, 171, 24, 23, 172, 409, 534, 535, 536, 22, 537, 192, 193, 194, 538, 539, 478, 540, 541, 542, 543, 544, 209, 210, 211, 212, 49, 213, 214, 215, 51, 216, 217, 218, 219, 220, 479, 321, 322, 323, 53, 480, 481, 482, 55, 483, 484, 485, 486, 487, 625, 626, 627, 628, 629, 630, 631, 659, 660, 661, 662, 663, 667, 668, 669, 670, 671, 672, 673, 674, 675] (by decide +kernel) (by decide +kernel)
set_option maxRecDepth 20000 in
theorem gL_law_X6_image : GoodIn wsL_law (wsV RL 87 RX6 yX6_image wsX6_image) := goodIn_app (goodIn_of _ (by decide +kernel)) ggL_law_X6_image
set_option maxRecDepth 20000 in
theorem ggL_law_X7_image : GoodIn wsL_law wsX7_image := goodIn_r _ [548, 72, 74, 73, 75, 225, 549, 226, 550, 227, 551, 228, 76, 249, 250, 251, 5, 252, 229, 230, 231, 632, 633, 634, 635, 636, 637, 638, 639, 640, 641, 642, 643, 644, 645, 646, 647, 648, 649, 650, 651, 652, 653] (by decide +kernel) (by decide +kernel)
set_option maxRecDepth 20000 in
theorem gL_law_X7_image : GoodIn wsL_law (wsV RL 90 RX7 yX7_image wsX7_image) := goodIn_app (goodIn_of _ (by decide +kernel)) ggL_law_X7_image
set_option maxRecDepth 20000 in
theorem ggL_law_X6_restore : GoodIn wsL_law wsX6_restore := goodIn_r _ [555, 172, 23, 24, 409, 534, 535, 536, 22, 537, 192, 193, 194, 538, 539, 478, 540, 541, 542, 543, 544, 209, 210, 211, 212, 49, 213, 214, 215, 51, 216, 217, 218, 219, 220, 479, 321, 322, 323, 53, 480, 481, 482, 55, 483, 484, 485, 486, 487, 625, 626, 627, 628, 629, 630, 631, 659, 660, 661, 662, 663, 667, 668, 669, 670, 671, 672, 673, 674, 675] (by decide +kernel) (by decide +kernel)
set_option maxRecDepth 20000 in
theorem gL_law_X6_restore : GoodIn wsL_law (wsV RL 91 RX6 yX6_restore wsX6_restore) := goodIn_app (goodIn_of _ (by decide +kernel)) ggL_law_X6_restore
set_option maxRecDepth 20000 in
theorem ggL_law_X7_restore : GoodIn wsL_law wsX7_restore := goodIn_r _ [559, 76, 228, 74, 72, 75, 73, 549, 225, 550, 226, 551, 227, 229, 230, 5, 231, 632, 633, 634, 635, 636, 637, 638, 639, 640, 641, 642, 643, 644, 645, 646, 647, 648, 649, 650, 651, 652, 653] (by decide +kernel) (by decide +kernel)
set_option maxRecDepth 20000 in
theorem gL_law_X7_restore : GoodIn wsL_law (wsV RL 94 RX7 yX7_restore wsX7_restore) := goodIn_app (goodIn_of _ (by decide +kernel)) ggL_law_X7_restore
set_option maxRecDepth 20000 in
theorem ggL_law_X6_count : GoodIn wsL_law wsX6_count := goodIn_r _ [563, 564, 565, 566, 2, 567, 23, 174, 19, 409, 314, 15, 81, 173, 568, 569, 570, 18, 571, 43, 572, 573, 574, 22, 575, 192, 478, 209, 210, 211, 212, 49, 576, 577, 578, 579, 540, 625, 626, 627, 628, 629, 630, 631, 659, 660, 661, 662, 663, 654, 655, 656, 657, 658, 667, 668, 669, 670, 671] (by decide +kernel) (by decide +kernel)
set_option maxRecDepth 20000 in
theorem gL_law_X6_count : GoodIn wsL_law (wsV RL 95 RX6 yX6_count wsX6_count) := goodIn_app (goodIn_of _ (by decide +kernel)) ggL_law_X6_count
set_option maxRecDepth 20000 in
theorem ggL_law_X7_count : GoodIn wsL_law wsX7_count := goodIn_r _ [583, 584, 585, 586, 5, 587, 225, 226, 227, 92, 228, 588, 589, 590, 591, 71, 249, 250, 251, 252, 592, 593, 594, 595, 72, 632, 633, 634, 635, 636, 637, 638, 639, 640, 641, 642, 643, 644, 645, 646, 647, 648, 649, 650, 651, 652, 653] (by decide +kernel) (by decide +kernel)
set_option maxRecDepth 20000 in
theorem gL_law_X7_count : GoodIn wsL_law (wsV RL 98 RX7 yX7_count wsX7_count) := goodIn_app (goodIn_of _ (by decide +kernel)) ggL_law_X7_count
set_option maxRecDepth 20000 in
theorem ggL_law_X6_digest : GoodIn wsL_law wsX6_digest := goodIn_r _ [599, 600, 171, 23, 174, 15, 81, 601, 602, 603, 604, 2, 605, 19, 237, 238, 239, 18, 240, 43, 241, 242, 243, 244, 42, 279, 210, 211, 22, 212, 192, 49, 606, 607, 608, 609, 280, 281, 282, 283, 284, 285, 286, 287, 288, 289, 290, 291, 292, 293, 294, 295, 296, 297, 298, 299, 300, 301, 302, 303, 304, 305, 306, 307, 308, 309, 310, 311, 312, 313, 314, 315, 316, 317, 318, 319, 320, 321, 322, 323, 193, 53, 324, 325, 326, 327, 328, 329, 330, 331, 332, 333, 334, 335, 392, 393, 394, 395, 446, 447, 448, 449, 450, 451, 452, 453, 454, 455, 456, 199, 124, 125, 14, 126, 86, 30, 564, 565, 566, 567, 409, 173, 568, 569, 570, 571, 572, 573, 574, 575, 478, 209, 576, 577, 578, 579, 540, 625, 626, 627, 628, 629, 630, 631, 659, 660, 661, 662, 663, 654, 655, 656, 657, 658, 667, 668, 669, 670, 671, 672, 673, 674, 675] (by decide +kernel) (by decide +kernel)
set_option maxRecDepth 20000 in
theorem gL_law_X6_digest : GoodIn wsL_law (wsV RL 99 RX6 yX6_digest wsX6_digest) := goodIn_app (goodIn_of _ (by decide +kernel)) ggL_law_X6_digest
set_option maxRecDepth 20000 in
theorem ggL_law_X7_digest : GoodIn wsL_law wsX7_digest := goodIn_r _ [613, 614, 615, 225, 92, 68, 249, 250, 251, 5, 252, 257, 258, 259, 260, 71, 261, 262, 93, 94, 95, 616, 617, 618, 619, 620, 621, 622, 623, 624, 344, 345, 346, 347, 72, 348, 349, 350, 351, 352, 353, 354, 355, 356, 357, 358, 359, 360, 361, 362, 363, 364, 365, 366, 367, 368, 369, 370, 371, 227, 73, 372, 373, 374, 375, 376, 377, 378, 379, 401, 402, 403, 404, 461, 462, 463, 464, 465, 466, 467, 468, 584, 585, 586, 587, 226, 228, 588, 589, 590, 591, 592, 593, 594, 595, 632, 633, 634, 635, 636, 637, 638, 639, 640, 641, 642, 643, 644, 645, 646, 647, 648, 649, 650, 651, 652, 653] (by decide +kernel) (by decide +kernel)
set_option maxRecDepth 20000 in
theorem gL_law_X7_digest : GoodIn wsL_law (wsV RL 103 RX7 yX7_digest wsX7_digest) := goodIn_app (goodIn_of _ (by decide +kernel)) ggL_law_X7_digest
abbrev vwCl : List vw_C := [(RX0, TX0, 4), (RX1, TX1, 3), (RX2, TX2, 3), (RX3, TX3, 5), (RX4, TX4, 2), (RX5, TX5, 5), (RX6, TX6, 7), (RX7, TX7, 22)]
