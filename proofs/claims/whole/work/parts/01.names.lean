-- ===== PART A: goes FIRST, ahead of the names: the tables' words, and 'selects' of the private methods out of them =====
/-- a private method of a class that the tables say can be made, by its rows of tables_1 -/
def lw_okq (q : MethodName × Nat) : Prop := (q.1.cls ≠ "java/lang/invoke/MethodHandle" ∧ q.1.cls ≠ "java/lang/invoke/VarHandle") ∧ Cond.instantiable q.1.cls q.2 ∈ tables_1 ∧ Cond.privateMethod q.1 ∈ tables_1 ∧ Cond.instanceMethod q.1 ∈ tables_1
theorem lw_p0 : lw_okq (⟨"DripSayings$Reader", "takesInSaying", "(I)Z"⟩, 3) := ⟨⟨by decide +kernel, by decide +kernel⟩, List.mem_of_getElem? (i := 25) (by decide +kernel), List.mem_of_getElem? (i := 210) (by decide +kernel), List.mem_of_getElem? (i := 211) (by decide +kernel)⟩
theorem lw_p1 : lw_okq (⟨"DripSayings$Reader", "takesInTap", "(I)Z"⟩, 3) := ⟨⟨by decide +kernel, by decide +kernel⟩, List.mem_of_getElem? (i := 25) (by decide +kernel), List.mem_of_getElem? (i := 214) (by decide +kernel), List.mem_of_getElem? (i := 215) (by decide +kernel)⟩
theorem lw_p2 : lw_okq (⟨"DripSayings", "readPage", "()V"⟩, 7) := ⟨⟨by decide +kernel, by decide +kernel⟩, List.mem_of_getElem? (i := 11) (by decide +kernel), List.mem_of_getElem? (i := 245) (by decide +kernel), List.mem_of_getElem? (i := 246) (by decide +kernel)⟩
theorem lw_p3 : lw_okq (⟨"DripSayings", "aboutOf", "(LDripSayings$Tap;I)I"⟩, 7) := ⟨⟨by decide +kernel, by decide +kernel⟩, List.mem_of_getElem? (i := 11) (by decide +kernel), List.mem_of_getElem? (i := 292) (by decide +kernel), List.mem_of_getElem? (i := 293) (by decide +kernel)⟩
theorem lw_p4 : lw_okq (⟨"DripSayings", "sureOf", "(LDripSayings$Tap;)I"⟩, 7) := ⟨⟨by decide +kernel, by decide +kernel⟩, List.mem_of_getElem? (i := 11) (by decide +kernel), List.mem_of_getElem? (i := 296) (by decide +kernel), List.mem_of_getElem? (i := 297) (by decide +kernel)⟩
theorem lw_p5 : lw_okq (⟨"DripSayings", "enoughToTell", "(LDripSayings$Tap;II)I"⟩, 7) := ⟨⟨by decide +kernel, by decide +kernel⟩, List.mem_of_getElem? (i := 11) (by decide +kernel), List.mem_of_getElem? (i := 300) (by decide +kernel), List.mem_of_getElem? (i := 301) (by decide +kernel)⟩
theorem lw_p6 : lw_okq (⟨"DripSayings", "saysOf", "(LDripSayings$Tap;)I"⟩, 7) := ⟨⟨by decide +kernel, by decide +kernel⟩, List.mem_of_getElem? (i := 11) (by decide +kernel), List.mem_of_getElem? (i := 313) (by decide +kernel), List.mem_of_getElem? (i := 314) (by decide +kernel)⟩
theorem lw_p7 : lw_okq (⟨"DripSayings", "slipsOf", "(LDripSayings$Tap;I)I"⟩, 7) := ⟨⟨by decide +kernel, by decide +kernel⟩, List.mem_of_getElem? (i := 11) (by decide +kernel), List.mem_of_getElem? (i := 317) (by decide +kernel), List.mem_of_getElem? (i := 318) (by decide +kernel)⟩
theorem lw_p8 : lw_okq (⟨"DripSayings", "likelyOf", "(LDripSayings$Tap;)I"⟩, 7) := ⟨⟨by decide +kernel, by decide +kernel⟩, List.mem_of_getElem? (i := 11) (by decide +kernel), List.mem_of_getElem? (i := 325) (by decide +kernel), List.mem_of_getElem? (i := 326) (by decide +kernel)⟩
theorem lw_p9 : lw_okq (⟨"DripSayings", "bestToHear", "(LDripSayings$Tap;I)I"⟩, 7) := ⟨⟨by decide +kernel, by decide +kernel⟩, List.mem_of_getElem? (i := 11) (by decide +kernel), List.mem_of_getElem? (i := 329) (by decide +kernel), List.mem_of_getElem? (i := 330) (by decide +kernel)⟩
theorem lw_p10 : lw_okq (⟨"DripSayings", "leftAtWorst", "(LDripSayings$Tap;II)I"⟩, 7) := ⟨⟨by decide +kernel, by decide +kernel⟩, List.mem_of_getElem? (i := 11) (by decide +kernel), List.mem_of_getElem? (i := 333) (by decide +kernel), List.mem_of_getElem? (i := 334) (by decide +kernel)⟩
theorem lw_p11 : lw_okq (⟨"DripSayings", "dripOf", "(LDripSayings$Tap;I)I"⟩, 7) := ⟨⟨by decide +kernel, by decide +kernel⟩, List.mem_of_getElem? (i := 11) (by decide +kernel), List.mem_of_getElem? (i := 345) (by decide +kernel), List.mem_of_getElem? (i := 346) (by decide +kernel)⟩
theorem lw_p12 : lw_okq (⟨"DripSayings", "nearOf", "(LDripSayings$Tap;II)I"⟩, 7) := ⟨⟨by decide +kernel, by decide +kernel⟩, List.mem_of_getElem? (i := 11) (by decide +kernel), List.mem_of_getElem? (i := 369) (by decide +kernel), List.mem_of_getElem? (i := 370) (by decide +kernel)⟩
theorem lw_p13 : lw_okq (⟨"DripSayings", "unlikeOf", "(LDripSayings$Tap;II)I"⟩, 7) := ⟨⟨by decide +kernel, by decide +kernel⟩, List.mem_of_getElem? (i := 11) (by decide +kernel), List.mem_of_getElem? (i := 373) (by decide +kernel), List.mem_of_getElem? (i := 374) (by decide +kernel)⟩
theorem lw_p14 : lw_okq (⟨"DripSayings", "countOf", "(I)I"⟩, 7) := ⟨⟨by decide +kernel, by decide +kernel⟩, List.mem_of_getElem? (i := 11) (by decide +kernel), List.mem_of_getElem? (i := 427) (by decide +kernel), List.mem_of_getElem? (i := 428) (by decide +kernel)⟩
theorem lw_p15 : lw_okq (⟨"DripSayings", "digestSayings", "(J)J"⟩, 7) := ⟨⟨by decide +kernel, by decide +kernel⟩, List.mem_of_getElem? (i := 11) (by decide +kernel), List.mem_of_getElem? (i := 448) (by decide +kernel), List.mem_of_getElem? (i := 449) (by decide +kernel)⟩
def lw_privs_1 : List (MethodName × Nat) := [(⟨"DripSayings$Reader", "takesInSaying", "(I)Z"⟩, 3), (⟨"DripSayings$Reader", "takesInTap", "(I)Z"⟩, 3), (⟨"DripSayings", "readPage", "()V"⟩, 7), (⟨"DripSayings", "aboutOf", "(LDripSayings$Tap;I)I"⟩, 7), (⟨"DripSayings", "sureOf", "(LDripSayings$Tap;)I"⟩, 7), (⟨"DripSayings", "enoughToTell", "(LDripSayings$Tap;II)I"⟩, 7), (⟨"DripSayings", "saysOf", "(LDripSayings$Tap;)I"⟩, 7), (⟨"DripSayings", "slipsOf", "(LDripSayings$Tap;I)I"⟩, 7), (⟨"DripSayings", "likelyOf", "(LDripSayings$Tap;)I"⟩, 7), (⟨"DripSayings", "bestToHear", "(LDripSayings$Tap;I)I"⟩, 7), (⟨"DripSayings", "leftAtWorst", "(LDripSayings$Tap;II)I"⟩, 7), (⟨"DripSayings", "dripOf", "(LDripSayings$Tap;I)I"⟩, 7), (⟨"DripSayings", "nearOf", "(LDripSayings$Tap;II)I"⟩, 7), (⟨"DripSayings", "unlikeOf", "(LDripSayings$Tap;II)I"⟩, 7), (⟨"DripSayings", "countOf", "(I)I"⟩, 7), (⟨"DripSayings", "digestSayings", "(J)J"⟩, 7)]
theorem lw_r1 : ∀ q ∈ lw_privs_1, lw_okq q := List.forall_mem_cons.mpr ⟨lw_p0, List.forall_mem_cons.mpr ⟨lw_p1, List.forall_mem_cons.mpr ⟨lw_p2, List.forall_mem_cons.mpr ⟨lw_p3, List.forall_mem_cons.mpr ⟨lw_p4, List.forall_mem_cons.mpr ⟨lw_p5, List.forall_mem_cons.mpr ⟨lw_p6, List.forall_mem_cons.mpr ⟨lw_p7, List.forall_mem_cons.mpr ⟨lw_p8, List.forall_mem_cons.mpr ⟨lw_p9, List.forall_mem_cons.mpr ⟨lw_p10, List.forall_mem_cons.mpr ⟨lw_p11, List.forall_mem_cons.mpr ⟨lw_p12, List.forall_mem_cons.mpr ⟨lw_p13, List.forall_mem_cons.mpr ⟨lw_p14, List.forall_mem_cons.mpr ⟨lw_p15, fun _ h => absurd h List.not_mem_nil⟩⟩⟩⟩⟩⟩⟩⟩⟩⟩⟩⟩⟩⟩⟩⟩
theorem lw_p16 : lw_okq (⟨"DripSayings", "digestTap", "(JLDripSayings$Tap;)J"⟩, 7) := ⟨⟨by decide +kernel, by decide +kernel⟩, List.mem_of_getElem? (i := 11) (by decide +kernel), List.mem_of_getElem? (i := 453) (by decide +kernel), List.mem_of_getElem? (i := 454) (by decide +kernel)⟩
theorem lw_p17 : lw_okq (⟨"DripSayingsModel", "faultOf", "()I"⟩, 22) := ⟨⟨by decide +kernel, by decide +kernel⟩, List.mem_of_getElem? (i := 457) (by decide +kernel), List.mem_of_getElem? (i := 546) (by decide +kernel), List.mem_of_getElem? (i := 547) (by decide +kernel)⟩
theorem lw_p18 : lw_okq (⟨"DripSayingsModel", "goSaying", "(I)Z"⟩, 22) := ⟨⟨by decide +kernel, by decide +kernel⟩, List.mem_of_getElem? (i := 457) (by decide +kernel), List.mem_of_getElem? (i := 550) (by decide +kernel), List.mem_of_getElem? (i := 551) (by decide +kernel)⟩
theorem lw_p19 : lw_okq (⟨"DripSayingsModel", "goTap", "(I)Z"⟩, 22) := ⟨⟨by decide +kernel, by decide +kernel⟩, List.mem_of_getElem? (i := 457) (by decide +kernel), List.mem_of_getElem? (i := 554) (by decide +kernel), List.mem_of_getElem? (i := 555) (by decide +kernel)⟩
theorem lw_p20 : lw_okq (⟨"DripSayingsModel", "lacks", "()Z"⟩, 22) := ⟨⟨by decide +kernel, by decide +kernel⟩, List.mem_of_getElem? (i := 457) (by decide +kernel), List.mem_of_getElem? (i := 574) (by decide +kernel), List.mem_of_getElem? (i := 575) (by decide +kernel)⟩
theorem lw_p21 : lw_okq (⟨"DripSayingsModel", "tellSaying", "(II)I"⟩, 22) := ⟨⟨by decide +kernel, by decide +kernel⟩, List.mem_of_getElem? (i := 457) (by decide +kernel), List.mem_of_getElem? (i := 582) (by decide +kernel), List.mem_of_getElem? (i := 583) (by decide +kernel)⟩
theorem lw_p22 : lw_okq (⟨"DripSayingsModel", "isTap", "(I)Z"⟩, 22) := ⟨⟨by decide +kernel, by decide +kernel⟩, List.mem_of_getElem? (i := 457) (by decide +kernel), List.mem_of_getElem? (i := 597) (by decide +kernel), List.mem_of_getElem? (i := 598) (by decide +kernel)⟩
theorem lw_p23 : lw_okq (⟨"DripSayingsModel", "tell", "(II)I"⟩, 22) := ⟨⟨by decide +kernel, by decide +kernel⟩, List.mem_of_getElem? (i := 457) (by decide +kernel), List.mem_of_getElem? (i := 601) (by decide +kernel), List.mem_of_getElem? (i := 602) (by decide +kernel)⟩
theorem lw_p24 : lw_okq (⟨"DripSayingsModel", "sureOf", "(I)I"⟩, 22) := ⟨⟨by decide +kernel, by decide +kernel⟩, List.mem_of_getElem? (i := 457) (by decide +kernel), List.mem_of_getElem? (i := 605) (by decide +kernel), List.mem_of_getElem? (i := 606) (by decide +kernel)⟩
theorem lw_p25 : lw_okq (⟨"DripSayingsModel", "patternOf", "(III)I"⟩, 22) := ⟨⟨by decide +kernel, by decide +kernel⟩, List.mem_of_getElem? (i := 457) (by decide +kernel), List.mem_of_getElem? (i := 609) (by decide +kernel), List.mem_of_getElem? (i := 610) (by decide +kernel)⟩
theorem lw_p26 : lw_okq (⟨"DripSayingsModel", "dripAs", "(III)I"⟩, 22) := ⟨⟨by decide +kernel, by decide +kernel⟩, List.mem_of_getElem? (i := 457) (by decide +kernel), List.mem_of_getElem? (i := 613) (by decide +kernel), List.mem_of_getElem? (i := 614) (by decide +kernel)⟩
theorem lw_p27 : lw_okq (⟨"DripSayingsModel", "dripBy", "(IIII)I"⟩, 22) := ⟨⟨by decide +kernel, by decide +kernel⟩, List.mem_of_getElem? (i := 457) (by decide +kernel), List.mem_of_getElem? (i := 617) (by decide +kernel), List.mem_of_getElem? (i := 618) (by decide +kernel)⟩
theorem lw_p28 : lw_okq (⟨"DripSayingsModel", "saysOf", "(I)I"⟩, 22) := ⟨⟨by decide +kernel, by decide +kernel⟩, List.mem_of_getElem? (i := 457) (by decide +kernel), List.mem_of_getElem? (i := 621) (by decide +kernel), List.mem_of_getElem? (i := 622) (by decide +kernel)⟩
theorem lw_p29 : lw_okq (⟨"DripSayingsModel", "slipsBy", "(II)I"⟩, 22) := ⟨⟨by decide +kernel, by decide +kernel⟩, List.mem_of_getElem? (i := 457) (by decide +kernel), List.mem_of_getElem? (i := 625) (by decide +kernel), List.mem_of_getElem? (i := 626) (by decide +kernel)⟩
theorem lw_p30 : lw_okq (⟨"DripSayingsModel", "likelyOf", "(I)I"⟩, 22) := ⟨⟨by decide +kernel, by decide +kernel⟩, List.mem_of_getElem? (i := 457) (by decide +kernel), List.mem_of_getElem? (i := 629) (by decide +kernel), List.mem_of_getElem? (i := 630) (by decide +kernel)⟩
theorem lw_p31 : lw_okq (⟨"DripSayingsModel", "listenOf", "(I)I"⟩, 22) := ⟨⟨by decide +kernel, by decide +kernel⟩, List.mem_of_getElem? (i := 457) (by decide +kernel), List.mem_of_getElem? (i := 633) (by decide +kernel), List.mem_of_getElem? (i := 634) (by decide +kernel)⟩
def lw_privs_2 : List (MethodName × Nat) := [(⟨"DripSayings", "digestTap", "(JLDripSayings$Tap;)J"⟩, 7), (⟨"DripSayingsModel", "faultOf", "()I"⟩, 22), (⟨"DripSayingsModel", "goSaying", "(I)Z"⟩, 22), (⟨"DripSayingsModel", "goTap", "(I)Z"⟩, 22), (⟨"DripSayingsModel", "lacks", "()Z"⟩, 22), (⟨"DripSayingsModel", "tellSaying", "(II)I"⟩, 22), (⟨"DripSayingsModel", "isTap", "(I)Z"⟩, 22), (⟨"DripSayingsModel", "tell", "(II)I"⟩, 22), (⟨"DripSayingsModel", "sureOf", "(I)I"⟩, 22), (⟨"DripSayingsModel", "patternOf", "(III)I"⟩, 22), (⟨"DripSayingsModel", "dripAs", "(III)I"⟩, 22), (⟨"DripSayingsModel", "dripBy", "(IIII)I"⟩, 22), (⟨"DripSayingsModel", "saysOf", "(I)I"⟩, 22), (⟨"DripSayingsModel", "slipsBy", "(II)I"⟩, 22), (⟨"DripSayingsModel", "likelyOf", "(I)I"⟩, 22), (⟨"DripSayingsModel", "listenOf", "(I)I"⟩, 22)]
theorem lw_r2 : ∀ q ∈ lw_privs_2, lw_okq q := List.forall_mem_cons.mpr ⟨lw_p16, List.forall_mem_cons.mpr ⟨lw_p17, List.forall_mem_cons.mpr ⟨lw_p18, List.forall_mem_cons.mpr ⟨lw_p19, List.forall_mem_cons.mpr ⟨lw_p20, List.forall_mem_cons.mpr ⟨lw_p21, List.forall_mem_cons.mpr ⟨lw_p22, List.forall_mem_cons.mpr ⟨lw_p23, List.forall_mem_cons.mpr ⟨lw_p24, List.forall_mem_cons.mpr ⟨lw_p25, List.forall_mem_cons.mpr ⟨lw_p26, List.forall_mem_cons.mpr ⟨lw_p27, List.forall_mem_cons.mpr ⟨lw_p28, List.forall_mem_cons.mpr ⟨lw_p29, List.forall_mem_cons.mpr ⟨lw_p30, List.forall_mem_cons.mpr ⟨lw_p31, fun _ h => absurd h List.not_mem_nil⟩⟩⟩⟩⟩⟩⟩⟩⟩⟩⟩⟩⟩⟩⟩⟩
theorem lw_p32 : lw_okq (⟨"DripSayingsModel", "dripOf", "(II)I"⟩, 22) := ⟨⟨by decide +kernel, by decide +kernel⟩, List.mem_of_getElem? (i := 457) (by decide +kernel), List.mem_of_getElem? (i := 646) (by decide +kernel), List.mem_of_getElem? (i := 647) (by decide +kernel)⟩
theorem lw_p33 : lw_okq (⟨"DripSayingsModel", "agreeOf", "(II)I"⟩, 22) := ⟨⟨by decide +kernel, by decide +kernel⟩, List.mem_of_getElem? (i := 457) (by decide +kernel), List.mem_of_getElem? (i := 666) (by decide +kernel), List.mem_of_getElem? (i := 667) (by decide +kernel)⟩
theorem lw_p34 : lw_okq (⟨"DripSayingsModel", "nearOf", "(III)I"⟩, 22) := ⟨⟨by decide +kernel, by decide +kernel⟩, List.mem_of_getElem? (i := 457) (by decide +kernel), List.mem_of_getElem? (i := 674) (by decide +kernel), List.mem_of_getElem? (i := 675) (by decide +kernel)⟩
theorem lw_p35 : lw_okq (⟨"DripSayingsModel", "unlikeBy", "(III)I"⟩, 22) := ⟨⟨by decide +kernel, by decide +kernel⟩, List.mem_of_getElem? (i := 457) (by decide +kernel), List.mem_of_getElem? (i := 678) (by decide +kernel), List.mem_of_getElem? (i := 679) (by decide +kernel)⟩
theorem lw_p36 : lw_okq (⟨"DripSayingsModel", "draw", "(I)I"⟩, 22) := ⟨⟨by decide +kernel, by decide +kernel⟩, List.mem_of_getElem? (i := 457) (by decide +kernel), List.mem_of_getElem? (i := 697) (by decide +kernel), List.mem_of_getElem? (i := 698) (by decide +kernel)⟩
theorem lw_p37 : lw_okq (⟨"DripSayingsModel", "countOf", "(I)I"⟩, 22) := ⟨⟨by decide +kernel, by decide +kernel⟩, List.mem_of_getElem? (i := 457) (by decide +kernel), List.mem_of_getElem? (i := 717) (by decide +kernel), List.mem_of_getElem? (i := 718) (by decide +kernel)⟩
theorem lw_p38 : lw_okq (⟨"DripSayingsModel", "beatsAll", "()I"⟩, 22) := ⟨⟨by decide +kernel, by decide +kernel⟩, List.mem_of_getElem? (i := 457) (by decide +kernel), List.mem_of_getElem? (i := 721) (by decide +kernel), List.mem_of_getElem? (i := 722) (by decide +kernel)⟩
theorem lw_p39 : lw_okq (⟨"DripSayingsModel", "sumAt", "(I)I"⟩, 22) := ⟨⟨by decide +kernel, by decide +kernel⟩, List.mem_of_getElem? (i := 457) (by decide +kernel), List.mem_of_getElem? (i := 725) (by decide +kernel), List.mem_of_getElem? (i := 726) (by decide +kernel)⟩
theorem lw_p40 : lw_okq (⟨"DripSayingsModel", "say", "(J)V"⟩, 22) := ⟨⟨by decide +kernel, by decide +kernel⟩, List.mem_of_getElem? (i := 457) (by decide +kernel), List.mem_of_getElem? (i := 734) (by decide +kernel), List.mem_of_getElem? (i := 735) (by decide +kernel)⟩
theorem lw_p41 : lw_okq (⟨"DripSayingsModel", "sayTap", "(I)V"⟩, 22) := ⟨⟨by decide +kernel, by decide +kernel⟩, List.mem_of_getElem? (i := 457) (by decide +kernel), List.mem_of_getElem? (i := 739) (by decide +kernel), List.mem_of_getElem? (i := 740) (by decide +kernel)⟩
def lw_privs_3 : List (MethodName × Nat) := [(⟨"DripSayingsModel", "dripOf", "(II)I"⟩, 22), (⟨"DripSayingsModel", "agreeOf", "(II)I"⟩, 22), (⟨"DripSayingsModel", "nearOf", "(III)I"⟩, 22), (⟨"DripSayingsModel", "unlikeBy", "(III)I"⟩, 22), (⟨"DripSayingsModel", "draw", "(I)I"⟩, 22), (⟨"DripSayingsModel", "countOf", "(I)I"⟩, 22), (⟨"DripSayingsModel", "beatsAll", "()I"⟩, 22), (⟨"DripSayingsModel", "sumAt", "(I)I"⟩, 22), (⟨"DripSayingsModel", "say", "(J)V"⟩, 22), (⟨"DripSayingsModel", "sayTap", "(I)V"⟩, 22)]
theorem lw_r3 : ∀ q ∈ lw_privs_3, lw_okq q := List.forall_mem_cons.mpr ⟨lw_p32, List.forall_mem_cons.mpr ⟨lw_p33, List.forall_mem_cons.mpr ⟨lw_p34, List.forall_mem_cons.mpr ⟨lw_p35, List.forall_mem_cons.mpr ⟨lw_p36, List.forall_mem_cons.mpr ⟨lw_p37, List.forall_mem_cons.mpr ⟨lw_p38, List.forall_mem_cons.mpr ⟨lw_p39, List.forall_mem_cons.mpr ⟨lw_p40, List.forall_mem_cons.mpr ⟨lw_p41, fun _ h => absurd h List.not_mem_nil⟩⟩⟩⟩⟩⟩⟩⟩⟩⟩
def lw_privs : List (MethodName × Nat) := lw_privs_1 ++ (lw_privs_2 ++ (lw_privs_3))
def lw_tbl : List Cond := k2_sels lw_privs ++ tables_1
theorem lw_privs_ok : ∀ q ∈ lw_privs, lw_okq q := by
  show ∀ q ∈ lw_privs_1 ++ (lw_privs_2 ++ (lw_privs_3)), lw_okq q
  exact List.forall_mem_append.mpr ⟨lw_r1, List.forall_mem_append.mpr ⟨lw_r2, lw_r3⟩⟩
-- ===== end of PART A
def RX0 : String := "DripSayings$Note"
def TX0 : u_T := fun k => match k with
  | 0 => ("DripSayings$Note", "tap", "I", false)
  | 1 => ("DripSayings$Note", "drip", "I", false)
  | 2 => ("DripSayings$Note", "beat", "I", false)
  | _ => ("DripSayings$Note", "washer", "I", false)
def tyX0 : Nat → FieldType := fun k => match k with
  | 0 => .int
  | 1 => .int
  | 2 => .int
  | _ => .int
theorem nmX0 : ∀ a, a < 4 → ∀ b, b < 4 → a ≠ b → (TX0 a).2.1 ≠ (TX0 b).2.1 := by decide +kernel
theorem tyX0_ok : ∀ k, k < 4 → parseFieldDescriptor (TX0 k).2.2.1 = some (tyX0 k) := by decide +kernel
abbrev cX0_init : ByteArray := prog_2_method_1_code
def yX0_init : MethodName := ⟨RX0, "<init>", "()V"⟩
abbrev cX0_become : ByteArray := prog_2_method_2_code
def yX0_become : MethodName := ⟨RX0, "become", "(IIII)V"⟩
def RX1 : String := "DripSayings$Page"
def TX1 : u_T := fun k => match k with
  | 0 => ("DripSayings$Page", "codes", "[I", true)
  | 1 => ("DripSayings$Page", "reader", "LDripSayings$Reader;", true)
  | _ => ("DripSayings$Page", "size", "I", false)
def tyX1 : Nat → FieldType := fun k => match k with
  | 0 => .array .int
  | 1 => .object "DripSayings$Reader"
  | _ => .int
theorem nmX1 : ∀ a, a < 3 → ∀ b, b < 3 → a ≠ b → (TX1 a).2.1 ≠ (TX1 b).2.1 := by decide +kernel
theorem tyX1_ok : ∀ k, k < 3 → parseFieldDescriptor (TX1 k).2.2.1 = some (tyX1 k) := by decide +kernel
abbrev cX1_init : ByteArray := prog_3_method_1_code
def yX1_init : MethodName := ⟨RX1, "<init>", "()V"⟩
abbrev cX1_clear : ByteArray := prog_3_method_2_code
def yX1_clear : MethodName := ⟨RX1, "clear", "()V"⟩
abbrev cX1_add : ByteArray := prog_3_method_3_code
def yX1_add : MethodName := ⟨RX1, "add", "(I)V"⟩
abbrev cX1_codeAt : ByteArray := prog_3_method_4_code
def yX1_codeAt : MethodName := ⟨RX1, "codeAt", "(I)I"⟩
abbrev cX1_firstFault : ByteArray := prog_3_method_5_code
def yX1_firstFault : MethodName := ⟨RX1, "firstFault", "()I"⟩
abbrev cX1_isHouse : ByteArray := prog_3_method_6_code
def yX1_isHouse : MethodName := ⟨RX1, "isHouse", "()Z"⟩
def RX2 : String := "DripSayings$Reader"
def TX2 : u_T := fun k => match k with
  | 0 => ("DripSayings$Reader", "saying", "I", false)
  | 1 => ("DripSayings$Reader", "taps", "I", false)
  | _ => ("DripSayings$Reader", "letters", "I", false)
def tyX2 : Nat → FieldType := fun k => match k with
  | 0 => .int
  | 1 => .int
  | _ => .int
theorem nmX2 : ∀ a, a < 3 → ∀ b, b < 3 → a ≠ b → (TX2 a).2.1 ≠ (TX2 b).2.1 := by decide +kernel
theorem tyX2_ok : ∀ k, k < 3 → parseFieldDescriptor (TX2 k).2.2.1 = some (tyX2 k) := by decide +kernel
abbrev cX2_init : ByteArray := prog_4_method_1_code
def yX2_init : MethodName := ⟨RX2, "<init>", "()V"⟩
abbrev cX2_begin : ByteArray := prog_4_method_2_code
def yX2_begin : MethodName := ⟨RX2, "begin", "()V"⟩
abbrev cX2_takes : ByteArray := prog_4_method_3_code
def yX2_takes : MethodName := ⟨RX2, "takes", "(I)Z"⟩
abbrev cX2_isAtEnd : ByteArray := prog_4_method_4_code
def yX2_isAtEnd : MethodName := ⟨RX2, "isAtEnd", "()Z"⟩
abbrev cX2_takesInSaying : ByteArray := prog_4_method_5_code
def yX2_takesInSaying : MethodName := ⟨RX2, "takesInSaying", "(I)Z"⟩
abbrev cX2_takesInTap : ByteArray := prog_4_method_6_code
def yX2_takesInTap : MethodName := ⟨RX2, "takesInTap", "(I)Z"⟩
def RX3 : String := "DripSayings$Room"
def TX3 : u_T := fun k => match k with
  | 0 => ("DripSayings$Room", "taps", "[LDripSayings$Tap;", true)
  | 1 => ("DripSayings$Room", "notes", "[LDripSayings$Note;", true)
  | 2 => ("DripSayings$Room", "tapCount", "I", false)
  | 3 => ("DripSayings$Room", "noteCount", "I", false)
  | _ => ("DripSayings$Room", "changes", "I", false)
def tyX3 : Nat → FieldType := fun k => match k with
  | 0 => .array (.object "DripSayings$Tap")
  | 1 => .array (.object "DripSayings$Note")
  | 2 => .int
  | 3 => .int
  | _ => .int
theorem nmX3 : ∀ a, a < 5 → ∀ b, b < 5 → a ≠ b → (TX3 a).2.1 ≠ (TX3 b).2.1 := by decide +kernel
theorem tyX3_ok : ∀ k, k < 5 → parseFieldDescriptor (TX3 k).2.2.1 = some (tyX3 k) := by decide +kernel
abbrev cX3_init : ByteArray := prog_5_method_1_code
def yX3_init : MethodName := ⟨RX3, "<init>", "()V"⟩
abbrev cX3_clear : ByteArray := prog_5_method_2_code
def yX3_clear : MethodName := ⟨RX3, "clear", "()V"⟩
abbrev cX3_tapAt : ByteArray := prog_5_method_3_code
def yX3_tapAt : MethodName := ⟨RX3, "tapAt", "(I)LDripSayings$Tap;"⟩
abbrev cX3_noteAt : ByteArray := prog_5_method_4_code
def yX3_noteAt : MethodName := ⟨RX3, "noteAt", "(I)LDripSayings$Note;"⟩
abbrev cX3_addTap : ByteArray := prog_5_method_5_code
def yX3_addTap : MethodName := ⟨RX3, "addTap", "(II)V"⟩
abbrev cX3_addNote : ByteArray := prog_5_method_6_code
def yX3_addNote : MethodName := ⟨RX3, "addNote", "(LDripSayings$Tap;II)V"⟩
abbrev cX3_copyFrom : ByteArray := prog_5_method_7_code
def yX3_copyFrom : MethodName := ⟨RX3, "copyFrom", "(LDripSayings$Room;)V"⟩
abbrev cX3_washerCount : ByteArray := prog_5_method_8_code
def yX3_washerCount : MethodName := ⟨RX3, "washerCount", "()I"⟩
abbrev cX3_heardCount : ByteArray := prog_5_method_9_code
def yX3_heardCount : MethodName := ⟨RX3, "heardCount", "()I"⟩
def RX4 : String := "DripSayings$Sayings"
def TX4 : u_T := fun k => match k with
  | 0 => ("DripSayings$Sayings", "beats", "[I", true)
  | _ => ("DripSayings$Sayings", "lengths", "[I", true)
def tyX4 : Nat → FieldType := fun k => match k with
  | 0 => .array .int
  | _ => .array .int
theorem nmX4 : ∀ a, a < 2 → ∀ b, b < 2 → a ≠ b → (TX4 a).2.1 ≠ (TX4 b).2.1 := by decide +kernel
theorem tyX4_ok : ∀ k, k < 2 → parseFieldDescriptor (TX4 k).2.2.1 = some (tyX4 k) := by decide +kernel
abbrev cX4_init : ByteArray := prog_6_method_1_code
def yX4_init : MethodName := ⟨RX4, "<init>", "()V"⟩
abbrev cX4_clear : ByteArray := prog_6_method_2_code
def yX4_clear : MethodName := ⟨RX4, "clear", "()V"⟩
abbrev cX4_addBeat : ByteArray := prog_6_method_3_code
def yX4_addBeat : MethodName := ⟨RX4, "addBeat", "(II)V"⟩
abbrev cX4_lengthOf : ByteArray := prog_6_method_4_code
def yX4_lengthOf : MethodName := ⟨RX4, "lengthOf", "(I)I"⟩
abbrev cX4_beatOf : ByteArray := prog_6_method_5_code
def yX4_beatOf : MethodName := ⟨RX4, "beatOf", "(II)I"⟩
abbrev cX4_beatCount : ByteArray := prog_6_method_6_code
def yX4_beatCount : MethodName := ⟨RX4, "beatCount", "()I"⟩
abbrev cX4_dripBy : ByteArray := prog_6_method_7_code
def yX4_dripBy : MethodName := ⟨RX4, "dripBy", "(IIII)I"⟩
def RX5 : String := "DripSayings$Tap"
def TX5 : u_T := fun k => match k with
  | 0 => ("DripSayings$Tap", "number", "I", true)
  | 1 => ("DripSayings$Tap", "kind", "I", false)
  | 2 => ("DripSayings$Tap", "saying", "I", false)
  | 3 => ("DripSayings$Tap", "washer", "I", false)
  | _ => ("DripSayings$Tap", "place", "I", false)
def tyX5 : Nat → FieldType := fun k => match k with
  | 0 => .int
  | 1 => .int
  | 2 => .int
  | 3 => .int
  | _ => .int
theorem nmX5 : ∀ a, a < 5 → ∀ b, b < 5 → a ≠ b → (TX5 a).2.1 ≠ (TX5 b).2.1 := by decide +kernel
theorem tyX5_ok : ∀ k, k < 5 → parseFieldDescriptor (TX5 k).2.2.1 = some (tyX5 k) := by decide +kernel
abbrev cX5_init : ByteArray := prog_7_method_1_code
def yX5_init : MethodName := ⟨RX5, "<init>", "(I)V"⟩
abbrev cX5_become : ByteArray := prog_7_method_2_code
def yX5_become : MethodName := ⟨RX5, "become", "(IIII)V"⟩
def RX6 : String := "DripSayings"
def TX6 : u_T := fun k => match k with
  | 0 => ("DripSayings", "page", "LDripSayings$Page;", true)
  | 1 => ("DripSayings", "sayings", "LDripSayings$Sayings;", true)
  | 2 => ("DripSayings", "room", "LDripSayings$Room;", true)
  | 3 => ("DripSayings", "kept", "LDripSayings$Room;", true)
  | 4 => ("DripSayings", "hasHouse", "Z", false)
  | 5 => ("DripSayings", "hasImage", "Z", false)
  | _ => ("DripSayings", "housesRead", "I", false)
def tyX6 : Nat → FieldType := fun k => match k with
  | 0 => .object "DripSayings$Page"
  | 1 => .object "DripSayings$Sayings"
  | 2 => .object "DripSayings$Room"
  | 3 => .object "DripSayings$Room"
  | 4 => .boolean
  | 5 => .boolean
  | _ => .int
theorem nmX6 : ∀ a, a < 7 → ∀ b, b < 7 → a ≠ b → (TX6 a).2.1 ≠ (TX6 b).2.1 := by decide +kernel
theorem tyX6_ok : ∀ k, k < 7 → parseFieldDescriptor (TX6 k).2.2.1 = some (tyX6 k) := by decide +kernel
abbrev cX6_init : ByteArray := prog_1_method_1_code
def yX6_init : MethodName := ⟨RX6, "<init>", "()V"⟩
abbrev cX6_letter : ByteArray := prog_1_method_2_code
def yX6_letter : MethodName := ⟨RX6, "letter", "(I)I"⟩
abbrev cX6_blank : ByteArray := prog_1_method_3_code
def yX6_blank : MethodName := ⟨RX6, "blank", "()I"⟩
abbrev cX6_fault : ByteArray := prog_1_method_4_code
def yX6_fault : MethodName := ⟨RX6, "fault", "()I"⟩
abbrev cX6_house : ByteArray := prog_1_method_5_code
def yX6_house : MethodName := ⟨RX6, "house", "()I"⟩
abbrev cX6_saying : ByteArray := prog_1_method_6_code
def yX6_saying : MethodName := ⟨RX6, "saying", "(II)I"⟩
abbrev cX6_tap : ByteArray := prog_1_method_7_code
def yX6_tap : MethodName := ⟨RX6, "tap", "(II)I"⟩
abbrev cX6_about : ByteArray := prog_1_method_8_code
def yX6_about : MethodName := ⟨RX6, "about", "(II)I"⟩
abbrev cX6_as : ByteArray := prog_1_method_9_code
def yX6_as : MethodName := ⟨RX6, "as", "(II)I"⟩
abbrev cX6_drip : ByteArray := prog_1_method_10_code
def yX6_drip : MethodName := ⟨RX6, "drip", "(II)I"⟩
abbrev cX6_listen : ByteArray := prog_1_method_11_code
def yX6_listen : MethodName := ⟨RX6, "listen", "(I)I"⟩
abbrev cX6_washer : ByteArray := prog_1_method_12_code
def yX6_washer : MethodName := ⟨RX6, "washer", "(IZ)I"⟩
abbrev cX6_teach : ByteArray := prog_1_method_13_code
def yX6_teach : MethodName := ⟨RX6, "teach", "(II)I"⟩
abbrev cX6_agree : ByteArray := prog_1_method_14_code
def yX6_agree : MethodName := ⟨RX6, "agree", "(II)I"⟩
abbrev cX6_near : ByteArray := prog_1_method_15_code
def yX6_near : MethodName := ⟨RX6, "near", "(III)I"⟩
abbrev cX6_put : ByteArray := prog_1_method_16_code
def yX6_put : MethodName := ⟨RX6, "put", "(IIZ)I"⟩
abbrev cX6_forget : ByteArray := prog_1_method_17_code
def yX6_forget : MethodName := ⟨RX6, "forget", "()I"⟩
abbrev cX6_nights : ByteArray := prog_1_method_18_code
def yX6_nights : MethodName := ⟨RX6, "nights", "(III)I"⟩
abbrev cX6_image : ByteArray := prog_1_method_19_code
def yX6_image : MethodName := ⟨RX6, "image", "()I"⟩
abbrev cX6_restore : ByteArray := prog_1_method_20_code
def yX6_restore : MethodName := ⟨RX6, "restore", "()I"⟩
abbrev cX6_count : ByteArray := prog_1_method_21_code
def yX6_count : MethodName := ⟨RX6, "count", "(I)I"⟩
abbrev cX6_digest : ByteArray := prog_1_method_22_code
def yX6_digest : MethodName := ⟨RX6, "digest", "()J"⟩
abbrev cX6_isKind : ByteArray := prog_1_method_23_code
def yX6_isKind : MethodName := ⟨RX6, "isKind", "(I)Z"⟩
abbrev cX6_isSaying : ByteArray := prog_1_method_24_code
def yX6_isSaying : MethodName := ⟨RX6, "isSaying", "(I)Z"⟩
abbrev cX6_kindOfLetter : ByteArray := prog_1_method_25_code
def yX6_kindOfLetter : MethodName := ⟨RX6, "kindOfLetter", "(I)I"⟩
abbrev cX6_readPage : ByteArray := prog_1_method_26_code
def yX6_readPage : MethodName := ⟨RX6, "readPage", "()V"⟩
abbrev cX6_dripOf : ByteArray := prog_1_method_27_code
def yX6_dripOf : MethodName := ⟨RX6, "dripOf", "(LDripSayings$Tap;I)I"⟩
abbrev cX6_aboutOf : ByteArray := prog_1_method_28_code
def yX6_aboutOf : MethodName := ⟨RX6, "aboutOf", "(LDripSayings$Tap;I)I"⟩
abbrev cX6_sureOf : ByteArray := prog_1_method_29_code
def yX6_sureOf : MethodName := ⟨RX6, "sureOf", "(LDripSayings$Tap;)I"⟩
abbrev cX6_enoughToTell : ByteArray := prog_1_method_30_code
def yX6_enoughToTell : MethodName := ⟨RX6, "enoughToTell", "(LDripSayings$Tap;II)I"⟩
abbrev cX6_saysOf : ByteArray := prog_1_method_31_code
def yX6_saysOf : MethodName := ⟨RX6, "saysOf", "(LDripSayings$Tap;)I"⟩
abbrev cX6_likelyOf : ByteArray := prog_1_method_32_code
def yX6_likelyOf : MethodName := ⟨RX6, "likelyOf", "(LDripSayings$Tap;)I"⟩
abbrev cX6_slipsOf : ByteArray := prog_1_method_33_code
def yX6_slipsOf : MethodName := ⟨RX6, "slipsOf", "(LDripSayings$Tap;I)I"⟩
abbrev cX6_bestToHear : ByteArray := prog_1_method_34_code
def yX6_bestToHear : MethodName := ⟨RX6, "bestToHear", "(LDripSayings$Tap;I)I"⟩
abbrev cX6_leftAtWorst : ByteArray := prog_1_method_35_code
def yX6_leftAtWorst : MethodName := ⟨RX6, "leftAtWorst", "(LDripSayings$Tap;II)I"⟩
abbrev cX6_nearOf : ByteArray := prog_1_method_36_code
def yX6_nearOf : MethodName := ⟨RX6, "nearOf", "(LDripSayings$Tap;II)I"⟩
abbrev cX6_unlikeOf : ByteArray := prog_1_method_37_code
def yX6_unlikeOf : MethodName := ⟨RX6, "unlikeOf", "(LDripSayings$Tap;II)I"⟩
abbrev cX6_nextSeed : ByteArray := prog_1_method_38_code
def yX6_nextSeed : MethodName := ⟨RX6, "nextSeed", "(I)I"⟩
abbrev cX6_drawOf : ByteArray := prog_1_method_39_code
def yX6_drawOf : MethodName := ⟨RX6, "drawOf", "(I)I"⟩
abbrev cX6_countOf : ByteArray := prog_1_method_40_code
def yX6_countOf : MethodName := ⟨RX6, "countOf", "(I)I"⟩
abbrev cX6_digestSayings : ByteArray := prog_1_method_41_code
def yX6_digestSayings : MethodName := ⟨RX6, "digestSayings", "(J)J"⟩
abbrev cX6_digestTap : ByteArray := prog_1_method_42_code
def yX6_digestTap : MethodName := ⟨RX6, "digestTap", "(JLDripSayings$Tap;)J"⟩
def RX7 : String := "DripSayingsModel"
def TX7 : u_T := fun k => match k with
  | 0 => ("DripSayingsModel", "page", "[I", true)
  | 1 => ("DripSayingsModel", "pageMany", "I", false)
  | 2 => ("DripSayingsModel", "part", "I", false)
  | 3 => ("DripSayingsModel", "readBeats", "[I", true)
  | 4 => ("DripSayingsModel", "readTaps", "[I", true)
  | 5 => ("DripSayingsModel", "readMany", "I", false)
  | 6 => ("DripSayingsModel", "step", "I", false)
  | 7 => ("DripSayingsModel", "taps", "I", false)
  | 8 => ("DripSayingsModel", "changes", "I", false)
  | 9 => ("DripSayingsModel", "housesRead", "I", false)
  | 10 => ("DripSayingsModel", "beats", "[I", true)
  | 11 => ("DripSayingsModel", "rows", "[I", true)
  | 12 => ("DripSayingsModel", "putMany", "I", false)
  | 13 => ("DripSayingsModel", "puts", "[I", true)
  | 14 => ("DripSayingsModel", "seedNow", "I", false)
  | 15 => ("DripSayingsModel", "keptHouse", "I", false)
  | 16 => ("DripSayingsModel", "keptTaps", "I", false)
  | 17 => ("DripSayingsModel", "keptChanges", "I", false)
  | 18 => ("DripSayingsModel", "keptPuts", "I", false)
  | 19 => ("DripSayingsModel", "keptRows", "[I", true)
  | 20 => ("DripSayingsModel", "keptPutRows", "[I", true)
  | _ => ("DripSayingsModel", "hash", "J", false)
def tyX7 : Nat → FieldType := fun k => match k with
  | 0 => .array .int
  | 1 => .int
  | 2 => .int
  | 3 => .array .int
  | 4 => .array .int
  | 5 => .int
  | 6 => .int
  | 7 => .int
  | 8 => .int
  | 9 => .int
  | 10 => .array .int
  | 11 => .array .int
  | 12 => .int
  | 13 => .array .int
  | 14 => .int
  | 15 => .int
  | 16 => .int
  | 17 => .int
  | 18 => .int
  | 19 => .array .int
  | 20 => .array .int
  | _ => .long
theorem nmX7 : ∀ a, a < 22 → ∀ b, b < 22 → a ≠ b → (TX7 a).2.1 ≠ (TX7 b).2.1 := by decide +kernel
theorem tyX7_ok : ∀ k, k < 22 → parseFieldDescriptor (TX7 k).2.2.1 = some (tyX7 k) := by decide +kernel
abbrev cX7_init : ByteArray := prog_9_method_1_code
def yX7_init : MethodName := ⟨RX7, "<init>", "()V"⟩
abbrev cX7_in : ByteArray := prog_9_method_2_code
def yX7_in : MethodName := ⟨RX7, "in", "(JJJ)Z"⟩
abbrev cX7_copy : ByteArray := prog_9_method_3_code
def yX7_copy : MethodName := ⟨RX7, "copy", "([I[I)V"⟩
abbrev cX7_letter : ByteArray := prog_9_method_4_code
def yX7_letter : MethodName := ⟨RX7, "letter", "(I)I"⟩
abbrev cX7_blank : ByteArray := prog_9_method_5_code
def yX7_blank : MethodName := ⟨RX7, "blank", "()I"⟩
abbrev cX7_kindBy : ByteArray := prog_9_method_6_code
def yX7_kindBy : MethodName := ⟨RX7, "kindBy", "(I)I"⟩
abbrev cX7_goSaying : ByteArray := prog_9_method_7_code
def yX7_goSaying : MethodName := ⟨RX7, "goSaying", "(I)Z"⟩
abbrev cX7_goTap : ByteArray := prog_9_method_8_code
def yX7_goTap : MethodName := ⟨RX7, "goTap", "(I)Z"⟩
abbrev cX7_faultOf : ByteArray := prog_9_method_9_code
def yX7_faultOf : MethodName := ⟨RX7, "faultOf", "()I"⟩
abbrev cX7_fault : ByteArray := prog_9_method_10_code
def yX7_fault : MethodName := ⟨RX7, "fault", "()I"⟩
abbrev cX7_house : ByteArray := prog_9_method_11_code
def yX7_house : MethodName := ⟨RX7, "house", "()I"⟩
abbrev cX7_lacks : ByteArray := prog_9_method_12_code
def yX7_lacks : MethodName := ⟨RX7, "lacks", "()Z"⟩
abbrev cX7_isTap : ByteArray := prog_9_method_13_code
def yX7_isTap : MethodName := ⟨RX7, "isTap", "(I)Z"⟩
abbrev cX7_isSaying : ByteArray := prog_9_method_14_code
def yX7_isSaying : MethodName := ⟨RX7, "isSaying", "(I)Z"⟩
abbrev cX7_tellSaying : ByteArray := prog_9_method_15_code
def yX7_tellSaying : MethodName := ⟨RX7, "tellSaying", "(II)I"⟩
abbrev cX7_saying : ByteArray := prog_9_method_16_code
def yX7_saying : MethodName := ⟨RX7, "saying", "(II)I"⟩
abbrev cX7_dripBy : ByteArray := prog_9_method_17_code
def yX7_dripBy : MethodName := ⟨RX7, "dripBy", "(IIII)I"⟩
abbrev cX7_dripAs : ByteArray := prog_9_method_18_code
def yX7_dripAs : MethodName := ⟨RX7, "dripAs", "(III)I"⟩
abbrev cX7_dripOf : ByteArray := prog_9_method_19_code
def yX7_dripOf : MethodName := ⟨RX7, "dripOf", "(II)I"⟩
abbrev cX7_tap : ByteArray := prog_9_method_20_code
def yX7_tap : MethodName := ⟨RX7, "tap", "(II)I"⟩
abbrev cX7_patternOf : ByteArray := prog_9_method_21_code
def yX7_patternOf : MethodName := ⟨RX7, "patternOf", "(III)I"⟩
abbrev cX7_sureOf : ByteArray := prog_9_method_22_code
def yX7_sureOf : MethodName := ⟨RX7, "sureOf", "(I)I"⟩
abbrev cX7_tell : ByteArray := prog_9_method_23_code
def yX7_tell : MethodName := ⟨RX7, "tell", "(II)I"⟩
abbrev cX7_about : ByteArray := prog_9_method_24_code
def yX7_about : MethodName := ⟨RX7, "about", "(II)I"⟩
abbrev cX7_as : ByteArray := prog_9_method_25_code
def yX7_as : MethodName := ⟨RX7, "as", "(II)I"⟩
abbrev cX7_drip : ByteArray := prog_9_method_26_code
def yX7_drip : MethodName := ⟨RX7, "drip", "(II)I"⟩
abbrev cX7_listen : ByteArray := prog_9_method_27_code
def yX7_listen : MethodName := ⟨RX7, "listen", "(I)I"⟩
abbrev cX7_washer : ByteArray := prog_9_method_28_code
def yX7_washer : MethodName := ⟨RX7, "washer", "(IZ)I"⟩
abbrev cX7_teach : ByteArray := prog_9_method_29_code
def yX7_teach : MethodName := ⟨RX7, "teach", "(II)I"⟩
abbrev cX7_agreeOf : ByteArray := prog_9_method_30_code
def yX7_agreeOf : MethodName := ⟨RX7, "agreeOf", "(II)I"⟩
abbrev cX7_agree : ByteArray := prog_9_method_31_code
def yX7_agree : MethodName := ⟨RX7, "agree", "(II)I"⟩
abbrev cX7_unlikeBy : ByteArray := prog_9_method_32_code
def yX7_unlikeBy : MethodName := ⟨RX7, "unlikeBy", "(III)I"⟩
abbrev cX7_nearOf : ByteArray := prog_9_method_33_code
def yX7_nearOf : MethodName := ⟨RX7, "nearOf", "(III)I"⟩
abbrev cX7_near : ByteArray := prog_9_method_34_code
def yX7_near : MethodName := ⟨RX7, "near", "(III)I"⟩
abbrev cX7_put : ByteArray := prog_9_method_35_code
def yX7_put : MethodName := ⟨RX7, "put", "(IIZ)I"⟩
abbrev cX7_forget : ByteArray := prog_9_method_36_code
def yX7_forget : MethodName := ⟨RX7, "forget", "()I"⟩
abbrev cX7_slipsBy : ByteArray := prog_9_method_37_code
def yX7_slipsBy : MethodName := ⟨RX7, "slipsBy", "(II)I"⟩
abbrev cX7_saysOf : ByteArray := prog_9_method_38_code
def yX7_saysOf : MethodName := ⟨RX7, "saysOf", "(I)I"⟩
abbrev cX7_likelyOf : ByteArray := prog_9_method_39_code
def yX7_likelyOf : MethodName := ⟨RX7, "likelyOf", "(I)I"⟩
abbrev cX7_listenOf : ByteArray := prog_9_method_40_code
def yX7_listenOf : MethodName := ⟨RX7, "listenOf", "(I)I"⟩
abbrev cX7_draw : ByteArray := prog_9_method_41_code
def yX7_draw : MethodName := ⟨RX7, "draw", "(I)I"⟩
abbrev cX7_nights : ByteArray := prog_9_method_42_code
def yX7_nights : MethodName := ⟨RX7, "nights", "(III)I"⟩
abbrev cX7_image : ByteArray := prog_9_method_43_code
def yX7_image : MethodName := ⟨RX7, "image", "()I"⟩
abbrev cX7_restore : ByteArray := prog_9_method_44_code
def yX7_restore : MethodName := ⟨RX7, "restore", "()I"⟩
abbrev cX7_beatsAll : ByteArray := prog_9_method_45_code
def yX7_beatsAll : MethodName := ⟨RX7, "beatsAll", "()I"⟩
abbrev cX7_sumAt : ByteArray := prog_9_method_46_code
def yX7_sumAt : MethodName := ⟨RX7, "sumAt", "(I)I"⟩
abbrev cX7_countOf : ByteArray := prog_9_method_47_code
def yX7_countOf : MethodName := ⟨RX7, "countOf", "(I)I"⟩
abbrev cX7_count : ByteArray := prog_9_method_48_code
def yX7_count : MethodName := ⟨RX7, "count", "(I)I"⟩
abbrev cX7_say : ByteArray := prog_9_method_49_code
def yX7_say : MethodName := ⟨RX7, "say", "(J)V"⟩
abbrev cX7_sayTap : ByteArray := prog_9_method_50_code
def yX7_sayTap : MethodName := ⟨RX7, "sayTap", "(I)V"⟩
abbrev cX7_digest : ByteArray := prog_9_method_51_code
def yX7_digest : MethodName := ⟨RX7, "digest", "()J"⟩
def RJ9 : String := "java/lang/Math"
def TJ9 : u_T := fun k => match k with
  | _ => ("", "", "", false)
def tyJ9 : Nat → FieldType := fun k => match k with
  | _ => .int
abbrev cJ9_max_7cf53 : ByteArray := prog_10_method_65_code
def yJ9_max_7cf53 : MethodName := ⟨RJ9, "max", "(II)I"⟩
abbrev cJ9_min_7cf53 : ByteArray := prog_10_method_69_code
def yJ9_min_7cf53 : MethodName := ⟨RJ9, "min", "(II)I"⟩
def RL : String := "DripSayingsLaw"
abbrev cL_law : ByteArray := code
def yL_law : MethodName := ⟨RL, "law", "([I)Z"⟩
abbrev vwCl : List vw_C := [(RX0, TX0, 4), (RX1, TX1, 3), (RX2, TX2, 3), (RX3, TX3, 5), (RX4, TX4, 2), (RX5, TX5, 5), (RX6, TX6, 7), (RX7, TX7, 22)]
