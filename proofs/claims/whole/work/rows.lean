section
-- ===== PART A: goes FIRST, ahead of the names: the tables' words, and 'selects' of the private methods out of them =====
/-- a private method of a class that the tables say can be made, by its rows of tables_1 -/
def lw_okq (q : MethodName × Nat) : Prop := (q.1.cls ≠ "java/lang/invoke/MethodHandle" ∧ q.1.cls ≠ "java/lang/invoke/VarHandle") ∧ Cond.instantiable q.1.cls q.2 ∈ tables_1 ∧ Cond.privateMethod q.1 ∈ tables_1 ∧ Cond.instanceMethod q.1 ∈ tables_1
theorem lw_p0 : lw_okq (⟨"DripSayings$Reader", "takesInSaying", "(I)Z"⟩, 3) := ⟨⟨by decide +kernel, by decide +kernel⟩, List.mem_of_getElem? (i := 25) (by decide +kernel), List.mem_of_getElem? (i := 210) (by decide +kernel), List.mem_of_getElem? (i := 211) (by decide +kernel)⟩
theorem lw_p1 : lw_okq (⟨"DripSayings$Reader", "takesInTap", "(I)Z"⟩, 3) := ⟨⟨by decide +kernel, by decide +kernel⟩, List.mem_of_getElem? (i := 25) (by decide +kernel), List.mem_of_getElem? (i := 214) (by decide +kernel), List.mem_of_getElem? (i := 215) (by decide +kernel)⟩
theorem lw_p2 : lw_okq (⟨"DripSayings", "readPage", "()V"⟩, 7) := ⟨⟨by decide +kernel, by decide +kernel⟩, List.mem_of_getElem? (i := 11) (by decide +kernel), List.mem_of_getElem? (i := 245) (by decide +kernel), List.mem_of_getElem? (i := 246) (by decide +kernel)⟩
theorem lw_p3 : lw_okq (⟨"DripSayings", "aboutOf", "(LDripSayings$Tap;I)I"⟩, 7) := ⟨⟨by decide +kernel, by decide +kernel⟩, List.mem_of_getElem? (i := 11) (by decide +kernel), List.mem_of_getElem? (i := 292) (by decide +kernel), List.mem_of_getElem? (i := 293) (by decide +kernel)⟩
theorem lw_p4 : lw_okq (⟨"DripSayings", "sureOf", "(LDripSayings$Tap;)I"⟩, 7) := ⟨⟨by decide +kernel, by decide +kernel⟩, List.mem_of_getElem? (i := 11) (by decide +kernel), List.mem_of_getElem? (i := 296) (by decide +kernel), List.mem_of_getElem? (i := 297) (by decide +kernel)⟩
theorem lw_p5 : lw_okq (⟨"DripSayings", "enoughToTell", "(LDripSayings$Tap;II)I"⟩, 7) := ⟨⟨by decide +kernel, by decide +kernel⟩, List.mem_of_getElem? (i := 11) (by decide +kernel), List.mem_of_getElem? (i := 300) (by decide +kernel), List.mem_of_getElem? (i := 301) (by decide +kernel)⟩
theorem lw_p6 : lw_okq (⟨"DripSayings", "saysOf", "(LDripSayings$Tap;)I"⟩, 7) := ⟨⟨by decide +kernel, by decide +kernel⟩, List.mem_of_getElem? (i := 11) (by decide +kernel), List.mem_of_getElem? (i := 313) (by decide +kernel), List.mem_of_getElem? (i := 314) (by decide +kernel)⟩
theorem lw_p7 : lw_okq (⟨"DripSayings", "slipsOf", "(LDripSayings$Tap;I)I"⟩, 7) := ⟨⟨by decide +kernel, by decide +kernel⟩, List.mem_of_getElem? (i := 11) (by decide +kernel), List.mem_of_getElem? (i := 317) (by decide +kernel), List.mem_of_getElem? (i := 318) (by decide +kernel)⟩
theorem lw_p8 : lw_okq (⟨"DripSayings", "likelyOf", "(LDripSayings$Tap;)I"⟩, 7) := ⟨⟨by decide +kernel, by decide +kernel⟩, List.mem_of_getElem? (i := 11) (by decide +kernel), List.mem_of_getElem? (i := 325) (by decide +kernel), List.mem_of_getElem? (i := 326) (by decide +kernel)⟩
theorem lw_p9 : lw_okq (⟨"DripSayings", "bestToHear", "(LDripSayings$Tap;I)I"⟩, 7) := ⟨⟨by decide +kernel, by decide +kernel⟩, List.mem_of_getElem? (i := 11) (by decide +kernel), List.mem_of_getElem? (i := 329) (by decide +kernel), List.mem_of_getElem? (i := 330) (by decide +kernel)⟩
theorem lw_p10 : lw_okq (⟨"DripSayings", "leftAtWorst", "(LDripSayings$Tap;II)I"⟩, 7) := ⟨⟨by decide +kernel, by decide +kernel⟩, List.mem_of_getElem? (i := 11) (by decide +kernel), List.mem_of_getElem? (i := 333) (by decide +kernel), List.mem_of_getElem? (i := 334) (by decide +kernel)⟩
theorem lw_p11 : lw_okq (⟨"DripSayings", "dripOf", "(LDripSayings$Tap;I)I"⟩, 7) := ⟨⟨by decide +kernel, by decide +kernel⟩, List.mem_of_getElem? (i := 11) (by decide +kernel), List.mem_of_getElem? (i := 345) (by decide +kernel), List.mem_of_getElem? (i := 346) (by decide +kernel)⟩
theorem lw_p12 : lw_okq (⟨"DripSayings", "nearOf", "(LDripSayings$Tap;II)I"⟩, 7) := ⟨⟨by decide +kernel, by decide +kernel⟩, List.mem_of_getElem? (i := 11) (by decide +kernel), List.mem_of_getElem? (i := 369) (by decide +kernel), List.mem_of_getElem? (i := 370) (by decide +kernel)⟩
theorem lw_p13 : lw_okq (⟨"DripSayings", "unlikeOf", "(LDripSayings$Tap;II)I"⟩, 7) := ⟨⟨by decide +kernel, by decide +kernel⟩, List.mem_of_getElem? (i := 11) (by decide +kernel), List.mem_of_getElem? (i := 373) (by decide +kernel), List.mem_of_getElem? (i := 374) (by decide +kernel)⟩
theorem lw_p14 : lw_okq (⟨"DripSayings", "countOf", "(I)I"⟩, 7) := ⟨⟨by decide +kernel, by decide +kernel⟩, List.mem_of_getElem? (i := 11) (by decide +kernel), List.mem_of_getElem? (i := 427) (by decide +kernel), List.mem_of_getElem? (i := 428) (by decide +kernel)⟩
theorem lw_p15 : lw_okq (⟨"DripSayings", "digestSayings", "(J)J"⟩, 7) := ⟨⟨by decide +kernel, by decide +kernel⟩, List.mem_of_getElem? (i := 11) (by decide +kernel), List.mem_of_getElem? (i := 448) (by decide +kernel), List.mem_of_getElem? (i := 449) (by decide +kernel)⟩
def lw_privs_1 : List (MethodName × Nat) := [(⟨"DripSayings$Reader", "takesInSaying", "(I)Z"⟩, 3), (⟨"DripSayings$Reader", "takesInTap", "(I)Z"⟩, 3), (⟨"DripSayings", "readPage", "()V"⟩, 7), (⟨"DripSayings", "aboutOf", "(LDripSayings$Tap;I)I"⟩, 7), (⟨"DripSayings", "sureOf", "(LDripSayings$Tap;)I"⟩, 7), (⟨"DripSayings", "enoughToTell", "(LDripSayings$Tap;II)I"⟩, 7), (⟨"DripSayings", "saysOf", "(LDripSayings$Tap;)I"⟩, 7), (⟨"DripSayings", "slipsOf", "(LDripSayings$Tap;I)I"⟩, 7), (⟨"DripSayings", "likelyOf", "(LDripSayings$Tap;)I"⟩, 7), (⟨"DripSayings", "bestToHear", "(LDripSayings$Tap;I)I"⟩, 7), (⟨"DripSayings", "leftAtWorst", "(LDripSayings$Tap;II)I"⟩, 7), (⟨"DripSayings", "dripOf", "(LDripSayings$Tap;I)I"⟩, 7), (⟨"DripSayings", "nearOf", "(LDripSayings$Tap;II)I"⟩, 7), (⟨"DripSayings", "unlikeOf", "(LDripSayings$Tap;II)I"⟩, 7), (⟨"DripSayings", "countOf", "(I)I"⟩, 7), (⟨"DripSayings", "digestSayings", "(J)J"⟩, 7)]
theorem lw_r1 : ∀ q ∈ lw_privs_1, lw_okq q := List.forall_mem_cons.mpr ⟨lw_p0, List.forall_mem_cons.mpr ⟨lw_p1, List.forall_mem_cons.mpr ⟨lw_p2, List.forall_mem_cons.mpr ⟨lw_p3, List.forall_mem_cons.mpr ⟨lw_p4, List.forall_mem_cons.mpr ⟨lw_p5, List.forall_mem_cons.mpr ⟨lw_p6, List.forall_mem_cons.mpr ⟨lw_p7, List.forall_mem_cons.mpr ⟨lw_p8, List.forall_mem_cons.mpr ⟨lw_p9, List.forall_mem_cons.mpr ⟨lw_p10, List.forall_mem_cons.mpr ⟨lw_p11, List.forall_mem_cons.mpr ⟨lw_p12, List.forall_mem_cons.mpr ⟨lw_p13, List.forall_mem_cons.mpr ⟨lw_p14, List.forall_mem_cons.mpr ⟨lw_p15, fun _ h => absurd h List.not_mem_nil⟩⟩⟩⟩⟩⟩⟩⟩⟩⟩⟩⟩⟩⟩⟩⟩
theorem lw_p16 : lw_okq (⟨"DripSayings", "digestTap", "(JLDripSayings$Tap;)J"⟩, 7) := ⟨⟨by decide +kernel, by decide +kernel⟩, List.mem_of_getElem? (i := 11) (by decide +kernel), List.mem_of_getElem? (i := 453) (by decide +kernel), List.mem_of_getElem? (i := 454) (by decide +kernel)⟩
theorem lw_p17 : lw_okq (⟨"DripSayingsModel", "faultOf", "()I"⟩, 22) := ⟨⟨by decide +kernel, by decide +kernel⟩, List.mem_of_getElem? (i := 457) (by decide +kernel), List.mem_of_getElem? (i := 546) (by decide +kernel), List.mem_of_getElem? (i := 547) (by decide +kernel)⟩
theorem lw_p18 : lw_okq (⟨"DripSayingsModel", "goSaying", "(I)Z"⟩, 22) := ⟨⟨by decide +kernel, by decide +kernel⟩, List.mem_of_getElem? (i := 457) (by decide +kernel), List.mem_of_getElem? (i := 550) (by decide +kernel), List.mem_of_getElem? (i := 551) (by decide +kernel)⟩
theorem lw_p19 : lw_okq (⟨"DripSayingsModel", "goTap", "(I)Z"⟩, 22) := ⟨⟨by decide +kernel, by decide +kernel⟩, List.mem_of_getElem? (i := 457) (by decide +kernel), List.mem_of_getElem? (i := 554) (by decide +kernel), List.mem_of_getElem? (i := 555) (by decide +kernel)⟩
theorem lw_p20 : lw_okq (⟨"DripSayingsModel", "lacks", "()Z"⟩, 22) := ⟨⟨by decide +kernel, by decide +kernel⟩, List.mem_of_getElem? (i := 457) (by decide +kernel), List.mem_of_getElem? (i := 574) (by decide +kernel), List.mem_of_getElem? (i := 575) (by decide +kernel)⟩
theorem lw_p21 : lw_okq (⟨"DripSayingsModel", "tellSaying", "(II)I"⟩, 22) := ⟨⟨by decide +kernel, by decide +kernel⟩, List.mem_of_getElem? (i := 457) (by decide +kernel), List.mem_of_getElem? (i := 582) (by decide +kernel), List.mem_of_getElem? (i := 583) (by decide +kernel)⟩
theorem lw_p22 : lw_okq (⟨"DripSayingsModel", "isTap", "(I)Z"⟩, 22) := ⟨⟨by decide +kernel, by decide +kernel⟩, List.mem_of_getElem? (i := 457) (by decide +kernel), List.mem_of_getElem? (i := 597) (by decide +kernel), List.mem_of_getElem? (i := 598) (by decide +kernel)⟩
theorem lw_p23 : lw_okq (⟨"DripSayingsModel", "tell", "(II)I"⟩, 22) := ⟨⟨by decide +kernel, by decide +kernel⟩, List.mem_of_getElem? (i := 457) (by decide +kernel), List.mem_of_getElem? (i := 601) (by decide +kernel), List.mem_of_getElem? (i := 602) (by decide +kernel)⟩
theorem lw_p24 : lw_okq (⟨"DripSayingsModel", "sureOf", "(I)I"⟩, 22) := ⟨⟨by decide +kernel, by decide +kernel⟩, List.mem_of_getElem? (i := 457) (by decide +kernel), List.mem_of_getElem? (i := 605) (by decide +kernel), List.mem_of_getElem? (i := 606) (by decide +kernel)⟩
theorem lw_p25 : lw_okq (⟨"DripSayingsModel", "patternOf", "(III)I"⟩, 22) := ⟨⟨by decide +kernel, by decide +kernel⟩, List.mem_of_getElem? (i := 457) (by decide +kernel), List.mem_of_getElem? (i := 609) (by decide +kernel), List.mem_of_getElem? (i := 610) (by decide +kernel)⟩
theorem lw_p26 : lw_okq (⟨"DripSayingsModel", "dripAs", "(III)I"⟩, 22) := ⟨⟨by decide +kernel, by decide +kernel⟩, List.mem_of_getElem? (i := 457) (by decide +kernel), List.mem_of_getElem? (i := 613) (by decide +kernel), List.mem_of_getElem? (i := 614) (by decide +kernel)⟩
theorem lw_p27 : lw_okq (⟨"DripSayingsModel", "dripBy", "(IIII)I"⟩, 22) := ⟨⟨by decide +kernel, by decide +kernel⟩, List.mem_of_getElem? (i := 457) (by decide +kernel), List.mem_of_getElem? (i := 617) (by decide +kernel), List.mem_of_getElem? (i := 618) (by decide +kernel)⟩
theorem lw_p28 : lw_okq (⟨"DripSayingsModel", "saysOf", "(I)I"⟩, 22) := ⟨⟨by decide +kernel, by decide +kernel⟩, List.mem_of_getElem? (i := 457) (by decide +kernel), List.mem_of_getElem? (i := 621) (by decide +kernel), List.mem_of_getElem? (i := 622) (by decide +kernel)⟩
theorem lw_p29 : lw_okq (⟨"DripSayingsModel", "slipsBy", "(II)I"⟩, 22) := ⟨⟨by decide +kernel, by decide +kernel⟩, List.mem_of_getElem? (i := 457) (by decide +kernel), List.mem_of_getElem? (i := 625) (by decide +kernel), List.mem_of_getElem? (i := 626) (by decide +kernel)⟩
theorem lw_p30 : lw_okq (⟨"DripSayingsModel", "likelyOf", "(I)I"⟩, 22) := ⟨⟨by decide +kernel, by decide +kernel⟩, List.mem_of_getElem? (i := 457) (by decide +kernel), List.mem_of_getElem? (i := 629) (by decide +kernel), List.mem_of_getElem? (i := 630) (by decide +kernel)⟩
theorem lw_p31 : lw_okq (⟨"DripSayingsModel", "listenOf", "(I)I"⟩, 22) := ⟨⟨by decide +kernel, by decide +kernel⟩, List.mem_of_getElem? (i := 457) (by decide +kernel), List.mem_of_getElem? (i := 633) (by decide +kernel), List.mem_of_getElem? (i := 634) (by decide +kernel)⟩
def lw_privs_2 : List (MethodName × Nat) := [(⟨"DripSayings", "digestTap", "(JLDripSayings$Tap;)J"⟩, 7), (⟨"DripSayingsModel", "faultOf", "()I"⟩, 22), (⟨"DripSayingsModel", "goSaying", "(I)Z"⟩, 22), (⟨"DripSayingsModel", "goTap", "(I)Z"⟩, 22), (⟨"DripSayingsModel", "lacks", "()Z"⟩, 22), (⟨"DripSayingsModel", "tellSaying", "(II)I"⟩, 22), (⟨"DripSayingsModel", "isTap", "(I)Z"⟩, 22), (⟨"DripSayingsModel", "tell", "(II)I"⟩, 22), (⟨"DripSayingsModel", "sureOf", "(I)I"⟩, 22), (⟨"DripSayingsModel", "patternOf", "(III)I"⟩, 22), (⟨"DripSayingsModel", "dripAs", "(III)I"⟩, 22), (⟨"DripSayingsModel", "dripBy", "(IIII)I"⟩, 22), (⟨"DripSayingsModel", "saysOf", "(I)I"⟩, 22), (⟨"DripSayingsModel", "slipsBy", "(II)I"⟩, 22), (⟨"DripSayingsModel", "likelyOf", "(I)I"⟩, 22), (⟨"DripSayingsModel", "listenOf", "(I)I"⟩, 22)]
theorem lw_r2 : ∀ q ∈ lw_privs_2, lw_okq q := List.forall_mem_cons.mpr ⟨lw_p16, List.forall_mem_cons.mpr ⟨lw_p17, List.forall_mem_cons.mpr ⟨lw_p18, List.forall_mem_cons.mpr ⟨lw_p19, List.forall_mem_cons.mpr ⟨lw_p20, List.forall_mem_cons.mpr ⟨lw_p21, List.forall_mem_cons.mpr ⟨lw_p22, List.forall_mem_cons.mpr ⟨lw_p23, List.forall_mem_cons.mpr ⟨lw_p24, List.forall_mem_cons.mpr ⟨lw_p25, List.forall_mem_cons.mpr ⟨lw_p26, List.forall_mem_cons.mpr ⟨lw_p27, List.forall_mem_cons.mpr ⟨lw_p28, List.forall_mem_cons.mpr ⟨lw_p29, List.forall_mem_cons.mpr ⟨lw_p30, List.forall_mem_cons.mpr ⟨lw_p31, fun _ h => absurd h List.not_mem_nil⟩⟩⟩⟩⟩⟩⟩⟩⟩⟩⟩⟩⟩⟩⟩⟩
theorem lw_p32 : lw_okq (⟨"DripSayingsModel", "dripOf", "(II)I"⟩, 22) := ⟨⟨by decide +kernel, by decide +kernel⟩, List.mem_of_getElem? (i := 457) (by decide +kernel), List.mem_of_getElem? (i := 646) (by decide +kernel), List.mem_of_getElem? (i := 647) (by decide +kernel)⟩
theorem lw_p33 : lw_okq (⟨"DripSayingsModel", "agreeOf", "(II)I"⟩, 22) := ⟨⟨by decide +kernel, by decide +kernel⟩, List.mem_of_getElem? (i := 457) (by decide +kernel), List.mem_of_getElem? (i := 666) (by decide +kernel), List.mem_of_getElem? (i := 667) (by decide +kernel)⟩
theorem lw_p34 : lw_okq (⟨"DripSayingsModel", "nearOf", "(III)I"⟩, 22) := ⟨⟨by decide +kernel, by decide +kernel⟩, List.mem_of_getElem? (i := 457) (by decide +kernel), List.mem_of_getElem? (i := 674) (by decide +kernel), List.mem_of_getElem? (i := 675) (by decide +kernel)⟩
theorem lw_p35 : lw_okq (⟨"DripSayingsModel", "unlikeBy", "(III)I"⟩, 22) := ⟨⟨by decide +kernel, by decide +kernel⟩, List.mem_of_getElem? (i := 457) (by decide +kernel), List.mem_of_getElem? (i := 678) (by decide +kernel), List.mem_of_getElem? (i := 679) (by decide +kernel)⟩
theorem lw_p36 : lw_okq (⟨"DripSayingsModel", "draw", "(I)I"⟩, 22) := ⟨⟨by decide +kernel, by decide +kernel⟩, List.mem_of_getElem? (i := 457) (by decide +kernel), List.mem_of_getElem? (i := 697) (by decide +kernel), List.mem_of_getElem? (i := 698) (by decide +kernel)⟩
theorem lw_p37 : lw_okq (⟨"DripSayingsModel", "countOf", "(I)I"⟩, 22) := ⟨⟨by decide +kernel, by decide +kernel⟩, List.mem_of_getElem? (i := 457) (by decide +kernel), List.mem_of_getElem? (i := 717) (by decide +kernel), List.mem_of_getElem? (i := 718) (by decide +kernel)⟩
theorem lw_p38 : lw_okq (⟨"DripSayingsModel", "beatsAll", "()I"⟩, 22) := ⟨⟨by decide +kernel, by decide +kernel⟩, List.mem_of_getElem? (i := 457) (by decide +kernel), List.mem_of_getElem? (i := 721) (by decide +kernel), List.mem_of_getElem? (i := 722) (by decide +kernel)⟩
theorem lw_p39 : lw_okq (⟨"DripSayingsModel", "sumAt", "(I)I"⟩, 22) := ⟨⟨by decide +kernel, by decide +kernel⟩, List.mem_of_getElem? (i := 457) (by decide +kernel), List.mem_of_getElem? (i := 725) (by decide +kernel), List.mem_of_getElem? (i := 726) (by decide +kernel)⟩
theorem lw_p40 : lw_okq (⟨"DripSayingsModel", "say", "(J)V"⟩, 22) := ⟨⟨by decide +kernel, by decide +kernel⟩, List.mem_of_getElem? (i := 457) (by decide +kernel), List.mem_of_getElem? (i := 734) (by decide +kernel), List.mem_of_getElem? (i := 735) (by decide +kernel)⟩
theorem lw_p41 : lw_okq (⟨"DripSayingsModel", "sayTap", "(I)V"⟩, 22) := ⟨⟨by decide +kernel, by decide +kernel⟩, List.mem_of_getElem? (i := 457) (by decide +kernel), List.mem_of_getElem? (i := 739) (by decide +kernel), List.mem_of_getElem? (i := 740) (by decide +kernel)⟩
def lw_privs_3 : List (MethodName × Nat) := [(⟨"DripSayingsModel", "dripOf", "(II)I"⟩, 22), (⟨"DripSayingsModel", "agreeOf", "(II)I"⟩, 22), (⟨"DripSayingsModel", "nearOf", "(III)I"⟩, 22), (⟨"DripSayingsModel", "unlikeBy", "(III)I"⟩, 22), (⟨"DripSayingsModel", "draw", "(I)I"⟩, 22), (⟨"DripSayingsModel", "countOf", "(I)I"⟩, 22), (⟨"DripSayingsModel", "beatsAll", "()I"⟩, 22), (⟨"DripSayingsModel", "sumAt", "(I)I"⟩, 22), (⟨"DripSayingsModel", "say", "(J)V"⟩, 22), (⟨"DripSayingsModel", "sayTap", "(I)V"⟩, 22)]
theorem lw_r3 : ∀ q ∈ lw_privs_3, lw_okq q := List.forall_mem_cons.mpr ⟨lw_p32, List.forall_mem_cons.mpr ⟨lw_p33, List.forall_mem_cons.mpr ⟨lw_p34, List.forall_mem_cons.mpr ⟨lw_p35, List.forall_mem_cons.mpr ⟨lw_p36, List.forall_mem_cons.mpr ⟨lw_p37, List.forall_mem_cons.mpr ⟨lw_p38, List.forall_mem_cons.mpr ⟨lw_p39, List.forall_mem_cons.mpr ⟨lw_p40, List.forall_mem_cons.mpr ⟨lw_p41, fun _ h => absurd h List.not_mem_nil⟩⟩⟩⟩⟩⟩⟩⟩⟩⟩
def lw_privs : List (MethodName × Nat) := lw_privs_1 ++ (lw_privs_2 ++ (lw_privs_3))
def lw_tbl : List Cond := k2_sels lw_privs ++ tables_1
theorem lw_privs_ok : ∀ q ∈ lw_privs, lw_okq q := by
  show ∀ q ∈ lw_privs_1 ++ (lw_privs_2 ++ (lw_privs_3)), lw_okq q
  exact List.forall_mem_append.mpr ⟨lw_r1, List.forall_mem_append.mpr ⟨lw_r2, lw_r3⟩⟩
-- ===== end of PART A
def RX0 : String := "DripSayings$Note"
def TX0 : u_T := fun k => match k with
  | 0 => ("DripSayings$Note", "tap", "I", false)
  | 1 => ("DripSayings$Note", "drip", "I", false)
  | 2 => ("DripSayings$Note", "beat", "I", false)
  | _ => ("DripSayings$Note", "washer", "I", false)
def tyX0 : Nat → FieldType := fun k => match k with
  | 0 => .int
  | 1 => .int
  | 2 => .int
  | _ => .int
theorem nmX0 : ∀ a, a < 4 → ∀ b, b < 4 → a ≠ b → (TX0 a).2.1 ≠ (TX0 b).2.1 := by decide +kernel
theorem tyX0_ok : ∀ k, k < 4 → parseFieldDescriptor (TX0 k).2.2.1 = some (tyX0 k) := by decide +kernel
abbrev cX0_init : ByteArray := prog_2_method_1_code
def yX0_init : MethodName := ⟨RX0, "<init>", "()V"⟩
abbrev cX0_become : ByteArray := prog_2_method_2_code
def yX0_become : MethodName := ⟨RX0, "become", "(IIII)V"⟩
def RX1 : String := "DripSayings$Page"
def TX1 : u_T := fun k => match k with
  | 0 => ("DripSayings$Page", "codes", "[I", true)
  | 1 => ("DripSayings$Page", "reader", "LDripSayings$Reader;", true)
  | _ => ("DripSayings$Page", "size", "I", false)
def tyX1 : Nat → FieldType := fun k => match k with
  | 0 => .array .int
  | 1 => .object "DripSayings$Reader"
  | _ => .int
theorem nmX1 : ∀ a, a < 3 → ∀ b, b < 3 → a ≠ b → (TX1 a).2.1 ≠ (TX1 b).2.1 := by decide +kernel
theorem tyX1_ok : ∀ k, k < 3 → parseFieldDescriptor (TX1 k).2.2.1 = some (tyX1 k) := by decide +kernel
abbrev cX1_init : ByteArray := prog_3_method_1_code
def yX1_init : MethodName := ⟨RX1, "<init>", "()V"⟩
abbrev cX1_clear : ByteArray := prog_3_method_2_code
def yX1_clear : MethodName := ⟨RX1, "clear", "()V"⟩
abbrev cX1_add : ByteArray := prog_3_method_3_code
def yX1_add : MethodName := ⟨RX1, "add", "(I)V"⟩
abbrev cX1_codeAt : ByteArray := prog_3_method_4_code
def yX1_codeAt : MethodName := ⟨RX1, "codeAt", "(I)I"⟩
abbrev cX1_firstFault : ByteArray := prog_3_method_5_code
def yX1_firstFault : MethodName := ⟨RX1, "firstFault", "()I"⟩
abbrev cX1_isHouse : ByteArray := prog_3_method_6_code
def yX1_isHouse : MethodName := ⟨RX1, "isHouse", "()Z"⟩
def RX2 : String := "DripSayings$Reader"
def TX2 : u_T := fun k => match k with
  | 0 => ("DripSayings$Reader", "saying", "I", false)
  | 1 => ("DripSayings$Reader", "taps", "I", false)
  | _ => ("DripSayings$Reader", "letters", "I", false)
def tyX2 : Nat → FieldType := fun k => match k with
  | 0 => .int
  | 1 => .int
  | _ => .int
theorem nmX2 : ∀ a, a < 3 → ∀ b, b < 3 → a ≠ b → (TX2 a).2.1 ≠ (TX2 b).2.1 := by decide +kernel
theorem tyX2_ok : ∀ k, k < 3 → parseFieldDescriptor (TX2 k).2.2.1 = some (tyX2 k) := by decide +kernel
abbrev cX2_init : ByteArray := prog_4_method_1_code
def yX2_init : MethodName := ⟨RX2, "<init>", "()V"⟩
abbrev cX2_begin : ByteArray := prog_4_method_2_code
def yX2_begin : MethodName := ⟨RX2, "begin", "()V"⟩
abbrev cX2_takes : ByteArray := prog_4_method_3_code
def yX2_takes : MethodName := ⟨RX2, "takes", "(I)Z"⟩
abbrev cX2_isAtEnd : ByteArray := prog_4_method_4_code
def yX2_isAtEnd : MethodName := ⟨RX2, "isAtEnd", "()Z"⟩
abbrev cX2_takesInSaying : ByteArray := prog_4_method_5_code
def yX2_takesInSaying : MethodName := ⟨RX2, "takesInSaying", "(I)Z"⟩
abbrev cX2_takesInTap : ByteArray := prog_4_method_6_code
def yX2_takesInTap : MethodName := ⟨RX2, "takesInTap", "(I)Z"⟩
def RX3 : String := "DripSayings$Room"
def TX3 : u_T := fun k => match k with
  | 0 => ("DripSayings$Room", "taps", "[LDripSayings$Tap;", true)
  | 1 => ("DripSayings$Room", "notes", "[LDripSayings$Note;", true)
  | 2 => ("DripSayings$Room", "tapCount", "I", false)
  | 3 => ("DripSayings$Room", "noteCount", "I", false)
  | _ => ("DripSayings$Room", "changes", "I", false)
def tyX3 : Nat → FieldType := fun k => match k with
  | 0 => .array (.object "DripSayings$Tap")
  | 1 => .array (.object "DripSayings$Note")
  | 2 => .int
  | 3 => .int
  | _ => .int
theorem nmX3 : ∀ a, a < 5 → ∀ b, b < 5 → a ≠ b → (TX3 a).2.1 ≠ (TX3 b).2.1 := by decide +kernel
theorem tyX3_ok : ∀ k, k < 5 → parseFieldDescriptor (TX3 k).2.2.1 = some (tyX3 k) := by decide +kernel
abbrev cX3_init : ByteArray := prog_5_method_1_code
def yX3_init : MethodName := ⟨RX3, "<init>", "()V"⟩
abbrev cX3_clear : ByteArray := prog_5_method_2_code
def yX3_clear : MethodName := ⟨RX3, "clear", "()V"⟩
abbrev cX3_tapAt : ByteArray := prog_5_method_3_code
def yX3_tapAt : MethodName := ⟨RX3, "tapAt", "(I)LDripSayings$Tap;"⟩
abbrev cX3_noteAt : ByteArray := prog_5_method_4_code
def yX3_noteAt : MethodName := ⟨RX3, "noteAt", "(I)LDripSayings$Note;"⟩
abbrev cX3_addTap : ByteArray := prog_5_method_5_code
def yX3_addTap : MethodName := ⟨RX3, "addTap", "(II)V"⟩
abbrev cX3_addNote : ByteArray := prog_5_method_6_code
def yX3_addNote : MethodName := ⟨RX3, "addNote", "(LDripSayings$Tap;II)V"⟩
abbrev cX3_copyFrom : ByteArray := prog_5_method_7_code
def yX3_copyFrom : MethodName := ⟨RX3, "copyFrom", "(LDripSayings$Room;)V"⟩
abbrev cX3_washerCount : ByteArray := prog_5_method_8_code
def yX3_washerCount : MethodName := ⟨RX3, "washerCount", "()I"⟩
abbrev cX3_heardCount : ByteArray := prog_5_method_9_code
def yX3_heardCount : MethodName := ⟨RX3, "heardCount", "()I"⟩
def RX4 : String := "DripSayings$Sayings"
def TX4 : u_T := fun k => match k with
  | 0 => ("DripSayings$Sayings", "beats", "[I", true)
  | _ => ("DripSayings$Sayings", "lengths", "[I", true)
def tyX4 : Nat → FieldType := fun k => match k with
  | 0 => .array .int
  | _ => .array .int
theorem nmX4 : ∀ a, a < 2 → ∀ b, b < 2 → a ≠ b → (TX4 a).2.1 ≠ (TX4 b).2.1 := by decide +kernel
theorem tyX4_ok : ∀ k, k < 2 → parseFieldDescriptor (TX4 k).2.2.1 = some (tyX4 k) := by decide +kernel
abbrev cX4_init : ByteArray := prog_6_method_1_code
def yX4_init : MethodName := ⟨RX4, "<init>", "()V"⟩
abbrev cX4_clear : ByteArray := prog_6_method_2_code
def yX4_clear : MethodName := ⟨RX4, "clear", "()V"⟩
abbrev cX4_addBeat : ByteArray := prog_6_method_3_code
def yX4_addBeat : MethodName := ⟨RX4, "addBeat", "(II)V"⟩
abbrev cX4_lengthOf : ByteArray := prog_6_method_4_code
def yX4_lengthOf : MethodName := ⟨RX4, "lengthOf", "(I)I"⟩
abbrev cX4_beatOf : ByteArray := prog_6_method_5_code
def yX4_beatOf : MethodName := ⟨RX4, "beatOf", "(II)I"⟩
abbrev cX4_beatCount : ByteArray := prog_6_method_6_code
def yX4_beatCount : MethodName := ⟨RX4, "beatCount", "()I"⟩
abbrev cX4_dripBy : ByteArray := prog_6_method_7_code
def yX4_dripBy : MethodName := ⟨RX4, "dripBy", "(IIII)I"⟩
def RX5 : String := "DripSayings$Tap"
def TX5 : u_T := fun k => match k with
  | 0 => ("DripSayings$Tap", "number", "I", true)
  | 1 => ("DripSayings$Tap", "kind", "I", false)
  | 2 => ("DripSayings$Tap", "saying", "I", false)
  | 3 => ("DripSayings$Tap", "washer", "I", false)
  | _ => ("DripSayings$Tap", "place", "I", false)
def tyX5 : Nat → FieldType := fun k => match k with
  | 0 => .int
  | 1 => .int
  | 2 => .int
  | 3 => .int
  | _ => .int
theorem nmX5 : ∀ a, a < 5 → ∀ b, b < 5 → a ≠ b → (TX5 a).2.1 ≠ (TX5 b).2.1 := by decide +kernel
theorem tyX5_ok : ∀ k, k < 5 → parseFieldDescriptor (TX5 k).2.2.1 = some (tyX5 k) := by decide +kernel
abbrev cX5_init : ByteArray := prog_7_method_1_code
def yX5_init : MethodName := ⟨RX5, "<init>", "(I)V"⟩
abbrev cX5_become : ByteArray := prog_7_method_2_code
def yX5_become : MethodName := ⟨RX5, "become", "(IIII)V"⟩
def RX6 : String := "DripSayings"
def TX6 : u_T := fun k => match k with
  | 0 => ("DripSayings", "page", "LDripSayings$Page;", true)
  | 1 => ("DripSayings", "sayings", "LDripSayings$Sayings;", true)
  | 2 => ("DripSayings", "room", "LDripSayings$Room;", true)
  | 3 => ("DripSayings", "kept", "LDripSayings$Room;", true)
  | 4 => ("DripSayings", "hasHouse", "Z", false)
  | 5 => ("DripSayings", "hasImage", "Z", false)
  | _ => ("DripSayings", "housesRead", "I", false)
def tyX6 : Nat → FieldType := fun k => match k with
  | 0 => .object "DripSayings$Page"
  | 1 => .object "DripSayings$Sayings"
  | 2 => .object "DripSayings$Room"
  | 3 => .object "DripSayings$Room"
  | 4 => .boolean
  | 5 => .boolean
  | _ => .int
theorem nmX6 : ∀ a, a < 7 → ∀ b, b < 7 → a ≠ b → (TX6 a).2.1 ≠ (TX6 b).2.1 := by decide +kernel
theorem tyX6_ok : ∀ k, k < 7 → parseFieldDescriptor (TX6 k).2.2.1 = some (tyX6 k) := by decide +kernel
abbrev cX6_init : ByteArray := prog_1_method_1_code
def yX6_init : MethodName := ⟨RX6, "<init>", "()V"⟩
abbrev cX6_letter : ByteArray := prog_1_method_2_code
def yX6_letter : MethodName := ⟨RX6, "letter", "(I)I"⟩
abbrev cX6_blank : ByteArray := prog_1_method_3_code
def yX6_blank : MethodName := ⟨RX6, "blank", "()I"⟩
abbrev cX6_fault : ByteArray := prog_1_method_4_code
def yX6_fault : MethodName := ⟨RX6, "fault", "()I"⟩
abbrev cX6_house : ByteArray := prog_1_method_5_code
def yX6_house : MethodName := ⟨RX6, "house", "()I"⟩
abbrev cX6_saying : ByteArray := prog_1_method_6_code
def yX6_saying : MethodName := ⟨RX6, "saying", "(II)I"⟩
abbrev cX6_tap : ByteArray := prog_1_method_7_code
def yX6_tap : MethodName := ⟨RX6, "tap", "(II)I"⟩
abbrev cX6_about : ByteArray := prog_1_method_8_code
def yX6_about : MethodName := ⟨RX6, "about", "(II)I"⟩
abbrev cX6_as : ByteArray := prog_1_method_9_code
def yX6_as : MethodName := ⟨RX6, "as", "(II)I"⟩
abbrev cX6_drip : ByteArray := prog_1_method_10_code
def yX6_drip : MethodName := ⟨RX6, "drip", "(II)I"⟩
abbrev cX6_listen : ByteArray := prog_1_method_11_code
def yX6_listen : MethodName := ⟨RX6, "listen", "(I)I"⟩
abbrev cX6_washer : ByteArray := prog_1_method_12_code
def yX6_washer : MethodName := ⟨RX6, "washer", "(IZ)I"⟩
abbrev cX6_teach : ByteArray := prog_1_method_13_code
def yX6_teach : MethodName := ⟨RX6, "teach", "(II)I"⟩
abbrev cX6_agree : ByteArray := prog_1_method_14_code
def yX6_agree : MethodName := ⟨RX6, "agree", "(II)I"⟩
abbrev cX6_near : ByteArray := prog_1_method_15_code
def yX6_near : MethodName := ⟨RX6, "near", "(III)I"⟩
abbrev cX6_put : ByteArray := prog_1_method_16_code
def yX6_put : MethodName := ⟨RX6, "put", "(IIZ)I"⟩
abbrev cX6_forget : ByteArray := prog_1_method_17_code
def yX6_forget : MethodName := ⟨RX6, "forget", "()I"⟩
abbrev cX6_nights : ByteArray := prog_1_method_18_code
def yX6_nights : MethodName := ⟨RX6, "nights", "(III)I"⟩
abbrev cX6_image : ByteArray := prog_1_method_19_code
def yX6_image : MethodName := ⟨RX6, "image", "()I"⟩
abbrev cX6_restore : ByteArray := prog_1_method_20_code
def yX6_restore : MethodName := ⟨RX6, "restore", "()I"⟩
abbrev cX6_count : ByteArray := prog_1_method_21_code
def yX6_count : MethodName := ⟨RX6, "count", "(I)I"⟩
abbrev cX6_digest : ByteArray := prog_1_method_22_code
def yX6_digest : MethodName := ⟨RX6, "digest", "()J"⟩
abbrev cX6_isKind : ByteArray := prog_1_method_23_code
def yX6_isKind : MethodName := ⟨RX6, "isKind", "(I)Z"⟩
abbrev cX6_isSaying : ByteArray := prog_1_method_24_code
def yX6_isSaying : MethodName := ⟨RX6, "isSaying", "(I)Z"⟩
abbrev cX6_kindOfLetter : ByteArray := prog_1_method_25_code
def yX6_kindOfLetter : MethodName := ⟨RX6, "kindOfLetter", "(I)I"⟩
abbrev cX6_readPage : ByteArray := prog_1_method_26_code
def yX6_readPage : MethodName := ⟨RX6, "readPage", "()V"⟩
abbrev cX6_dripOf : ByteArray := prog_1_method_27_code
def yX6_dripOf : MethodName := ⟨RX6, "dripOf", "(LDripSayings$Tap;I)I"⟩
abbrev cX6_aboutOf : ByteArray := prog_1_method_28_code
def yX6_aboutOf : MethodName := ⟨RX6, "aboutOf", "(LDripSayings$Tap;I)I"⟩
abbrev cX6_sureOf : ByteArray := prog_1_method_29_code
def yX6_sureOf : MethodName := ⟨RX6, "sureOf", "(LDripSayings$Tap;)I"⟩
abbrev cX6_enoughToTell : ByteArray := prog_1_method_30_code
def yX6_enoughToTell : MethodName := ⟨RX6, "enoughToTell", "(LDripSayings$Tap;II)I"⟩
abbrev cX6_saysOf : ByteArray := prog_1_method_31_code
def yX6_saysOf : MethodName := ⟨RX6, "saysOf", "(LDripSayings$Tap;)I"⟩
abbrev cX6_likelyOf : ByteArray := prog_1_method_32_code
def yX6_likelyOf : MethodName := ⟨RX6, "likelyOf", "(LDripSayings$Tap;)I"⟩
abbrev cX6_slipsOf : ByteArray := prog_1_method_33_code
def yX6_slipsOf : MethodName := ⟨RX6, "slipsOf", "(LDripSayings$Tap;I)I"⟩
abbrev cX6_bestToHear : ByteArray := prog_1_method_34_code
def yX6_bestToHear : MethodName := ⟨RX6, "bestToHear", "(LDripSayings$Tap;I)I"⟩
abbrev cX6_leftAtWorst : ByteArray := prog_1_method_35_code
def yX6_leftAtWorst : MethodName := ⟨RX6, "leftAtWorst", "(LDripSayings$Tap;II)I"⟩
abbrev cX6_nearOf : ByteArray := prog_1_method_36_code
def yX6_nearOf : MethodName := ⟨RX6, "nearOf", "(LDripSayings$Tap;II)I"⟩
abbrev cX6_unlikeOf : ByteArray := prog_1_method_37_code
def yX6_unlikeOf : MethodName := ⟨RX6, "unlikeOf", "(LDripSayings$Tap;II)I"⟩
abbrev cX6_nextSeed : ByteArray := prog_1_method_38_code
def yX6_nextSeed : MethodName := ⟨RX6, "nextSeed", "(I)I"⟩
abbrev cX6_drawOf : ByteArray := prog_1_method_39_code
def yX6_drawOf : MethodName := ⟨RX6, "drawOf", "(I)I"⟩
abbrev cX6_countOf : ByteArray := prog_1_method_40_code
def yX6_countOf : MethodName := ⟨RX6, "countOf", "(I)I"⟩
abbrev cX6_digestSayings : ByteArray := prog_1_method_41_code
def yX6_digestSayings : MethodName := ⟨RX6, "digestSayings", "(J)J"⟩
abbrev cX6_digestTap : ByteArray := prog_1_method_42_code
def yX6_digestTap : MethodName := ⟨RX6, "digestTap", "(JLDripSayings$Tap;)J"⟩
def RX7 : String := "DripSayingsModel"
def TX7 : u_T := fun k => match k with
  | 0 => ("DripSayingsModel", "page", "[I", true)
  | 1 => ("DripSayingsModel", "pageMany", "I", false)
  | 2 => ("DripSayingsModel", "part", "I", false)
  | 3 => ("DripSayingsModel", "readBeats", "[I", true)
  | 4 => ("DripSayingsModel", "readTaps", "[I", true)
  | 5 => ("DripSayingsModel", "readMany", "I", false)
  | 6 => ("DripSayingsModel", "step", "I", false)
  | 7 => ("DripSayingsModel", "taps", "I", false)
  | 8 => ("DripSayingsModel", "changes", "I", false)
  | 9 => ("DripSayingsModel", "housesRead", "I", false)
  | 10 => ("DripSayingsModel", "beats", "[I", true)
  | 11 => ("DripSayingsModel", "rows", "[I", true)
  | 12 => ("DripSayingsModel", "putMany", "I", false)
  | 13 => ("DripSayingsModel", "puts", "[I", true)
  | 14 => ("DripSayingsModel", "seedNow", "I", false)
  | 15 => ("DripSayingsModel", "keptHouse", "I", false)
  | 16 => ("DripSayingsModel", "keptTaps", "I", false)
  | 17 => ("DripSayingsModel", "keptChanges", "I", false)
  | 18 => ("DripSayingsModel", "keptPuts", "I", false)
  | 19 => ("DripSayingsModel", "keptRows", "[I", true)
  | 20 => ("DripSayingsModel", "keptPutRows", "[I", true)
  | _ => ("DripSayingsModel", "hash", "J", false)
def tyX7 : Nat → FieldType := fun k => match k with
  | 0 => .array .int
  | 1 => .int
  | 2 => .int
  | 3 => .array .int
  | 4 => .array .int
  | 5 => .int
  | 6 => .int
  | 7 => .int
  | 8 => .int
  | 9 => .int
  | 10 => .array .int
  | 11 => .array .int
  | 12 => .int
  | 13 => .array .int
  | 14 => .int
  | 15 => .int
  | 16 => .int
  | 17 => .int
  | 18 => .int
  | 19 => .array .int
  | 20 => .array .int
  | _ => .long
theorem nmX7 : ∀ a, a < 22 → ∀ b, b < 22 → a ≠ b → (TX7 a).2.1 ≠ (TX7 b).2.1 := by decide +kernel
theorem tyX7_ok : ∀ k, k < 22 → parseFieldDescriptor (TX7 k).2.2.1 = some (tyX7 k) := by decide +kernel
abbrev cX7_init : ByteArray := prog_9_method_1_code
def yX7_init : MethodName := ⟨RX7, "<init>", "()V"⟩
abbrev cX7_in : ByteArray := prog_9_method_2_code
def yX7_in : MethodName := ⟨RX7, "in", "(JJJ)Z"⟩
abbrev cX7_copy : ByteArray := prog_9_method_3_code
def yX7_copy : MethodName := ⟨RX7, "copy", "([I[I)V"⟩
abbrev cX7_letter : ByteArray := prog_9_method_4_code
def yX7_letter : MethodName := ⟨RX7, "letter", "(I)I"⟩
abbrev cX7_blank : ByteArray := prog_9_method_5_code
def yX7_blank : MethodName := ⟨RX7, "blank", "()I"⟩
abbrev cX7_kindBy : ByteArray := prog_9_method_6_code
def yX7_kindBy : MethodName := ⟨RX7, "kindBy", "(I)I"⟩
abbrev cX7_goSaying : ByteArray := prog_9_method_7_code
def yX7_goSaying : MethodName := ⟨RX7, "goSaying", "(I)Z"⟩
abbrev cX7_goTap : ByteArray := prog_9_method_8_code
def yX7_goTap : MethodName := ⟨RX7, "goTap", "(I)Z"⟩
abbrev cX7_faultOf : ByteArray := prog_9_method_9_code
def yX7_faultOf : MethodName := ⟨RX7, "faultOf", "()I"⟩
abbrev cX7_fault : ByteArray := prog_9_method_10_code
def yX7_fault : MethodName := ⟨RX7, "fault", "()I"⟩
abbrev cX7_house : ByteArray := prog_9_method_11_code
def yX7_house : MethodName := ⟨RX7, "house", "()I"⟩
abbrev cX7_lacks : ByteArray := prog_9_method_12_code
def yX7_lacks : MethodName := ⟨RX7, "lacks", "()Z"⟩
abbrev cX7_isTap : ByteArray := prog_9_method_13_code
def yX7_isTap : MethodName := ⟨RX7, "isTap", "(I)Z"⟩
abbrev cX7_isSaying : ByteArray := prog_9_method_14_code
def yX7_isSaying : MethodName := ⟨RX7, "isSaying", "(I)Z"⟩
abbrev cX7_tellSaying : ByteArray := prog_9_method_15_code
def yX7_tellSaying : MethodName := ⟨RX7, "tellSaying", "(II)I"⟩
abbrev cX7_saying : ByteArray := prog_9_method_16_code
def yX7_saying : MethodName := ⟨RX7, "saying", "(II)I"⟩
abbrev cX7_dripBy : ByteArray := prog_9_method_17_code
def yX7_dripBy : MethodName := ⟨RX7, "dripBy", "(IIII)I"⟩
abbrev cX7_dripAs : ByteArray := prog_9_method_18_code
def yX7_dripAs : MethodName := ⟨RX7, "dripAs", "(III)I"⟩
abbrev cX7_dripOf : ByteArray := prog_9_method_19_code
def yX7_dripOf : MethodName := ⟨RX7, "dripOf", "(II)I"⟩
abbrev cX7_tap : ByteArray := prog_9_method_20_code
def yX7_tap : MethodName := ⟨RX7, "tap", "(II)I"⟩
abbrev cX7_patternOf : ByteArray := prog_9_method_21_code
def yX7_patternOf : MethodName := ⟨RX7, "patternOf", "(III)I"⟩
abbrev cX7_sureOf : ByteArray := prog_9_method_22_code
def yX7_sureOf : MethodName := ⟨RX7, "sureOf", "(I)I"⟩
abbrev cX7_tell : ByteArray := prog_9_method_23_code
def yX7_tell : MethodName := ⟨RX7, "tell", "(II)I"⟩
abbrev cX7_about : ByteArray := prog_9_method_24_code
def yX7_about : MethodName := ⟨RX7, "about", "(II)I"⟩
abbrev cX7_as : ByteArray := prog_9_method_25_code
def yX7_as : MethodName := ⟨RX7, "as", "(II)I"⟩
abbrev cX7_drip : ByteArray := prog_9_method_26_code
def yX7_drip : MethodName := ⟨RX7, "drip", "(II)I"⟩
abbrev cX7_listen : ByteArray := prog_9_method_27_code
def yX7_listen : MethodName := ⟨RX7, "listen", "(I)I"⟩
abbrev cX7_washer : ByteArray := prog_9_method_28_code
def yX7_washer : MethodName := ⟨RX7, "washer", "(IZ)I"⟩
abbrev cX7_teach : ByteArray := prog_9_method_29_code
def yX7_teach : MethodName := ⟨RX7, "teach", "(II)I"⟩
abbrev cX7_agreeOf : ByteArray := prog_9_method_30_code
def yX7_agreeOf : MethodName := ⟨RX7, "agreeOf", "(II)I"⟩
abbrev cX7_agree : ByteArray := prog_9_method_31_code
def yX7_agree : MethodName := ⟨RX7, "agree", "(II)I"⟩
abbrev cX7_unlikeBy : ByteArray := prog_9_method_32_code
def yX7_unlikeBy : MethodName := ⟨RX7, "unlikeBy", "(III)I"⟩
abbrev cX7_nearOf : ByteArray := prog_9_method_33_code
def yX7_nearOf : MethodName := ⟨RX7, "nearOf", "(III)I"⟩
abbrev cX7_near : ByteArray := prog_9_method_34_code
def yX7_near : MethodName := ⟨RX7, "near", "(III)I"⟩
abbrev cX7_put : ByteArray := prog_9_method_35_code
def yX7_put : MethodName := ⟨RX7, "put", "(IIZ)I"⟩
abbrev cX7_forget : ByteArray := prog_9_method_36_code
def yX7_forget : MethodName := ⟨RX7, "forget", "()I"⟩
abbrev cX7_slipsBy : ByteArray := prog_9_method_37_code
def yX7_slipsBy : MethodName := ⟨RX7, "slipsBy", "(II)I"⟩
abbrev cX7_saysOf : ByteArray := prog_9_method_38_code
def yX7_saysOf : MethodName := ⟨RX7, "saysOf", "(I)I"⟩
abbrev cX7_likelyOf : ByteArray := prog_9_method_39_code
def yX7_likelyOf : MethodName := ⟨RX7, "likelyOf", "(I)I"⟩
abbrev cX7_listenOf : ByteArray := prog_9_method_40_code
def yX7_listenOf : MethodName := ⟨RX7, "listenOf", "(I)I"⟩
abbrev cX7_draw : ByteArray := prog_9_method_41_code
def yX7_draw : MethodName := ⟨RX7, "draw", "(I)I"⟩
abbrev cX7_nights : ByteArray := prog_9_method_42_code
def yX7_nights : MethodName := ⟨RX7, "nights", "(III)I"⟩
abbrev cX7_image : ByteArray := prog_9_method_43_code
def yX7_image : MethodName := ⟨RX7, "image", "()I"⟩
abbrev cX7_restore : ByteArray := prog_9_method_44_code
def yX7_restore : MethodName := ⟨RX7, "restore", "()I"⟩
abbrev cX7_beatsAll : ByteArray := prog_9_method_45_code
def yX7_beatsAll : MethodName := ⟨RX7, "beatsAll", "()I"⟩
abbrev cX7_sumAt : ByteArray := prog_9_method_46_code
def yX7_sumAt : MethodName := ⟨RX7, "sumAt", "(I)I"⟩
abbrev cX7_countOf : ByteArray := prog_9_method_47_code
def yX7_countOf : MethodName := ⟨RX7, "countOf", "(I)I"⟩
abbrev cX7_count : ByteArray := prog_9_method_48_code
def yX7_count : MethodName := ⟨RX7, "count", "(I)I"⟩
abbrev cX7_say : ByteArray := prog_9_method_49_code
def yX7_say : MethodName := ⟨RX7, "say", "(J)V"⟩
abbrev cX7_sayTap : ByteArray := prog_9_method_50_code
def yX7_sayTap : MethodName := ⟨RX7, "sayTap", "(I)V"⟩
abbrev cX7_digest : ByteArray := prog_9_method_51_code
def yX7_digest : MethodName := ⟨RX7, "digest", "()J"⟩
def RJ9 : String := "java/lang/Math"
def TJ9 : u_T := fun k => match k with
  | _ => ("", "", "", false)
def tyJ9 : Nat → FieldType := fun k => match k with
  | _ => .int
abbrev cJ9_max_7cf53 : ByteArray := prog_10_method_65_code
def yJ9_max_7cf53 : MethodName := ⟨RJ9, "max", "(II)I"⟩
abbrev cJ9_min_7cf53 : ByteArray := prog_10_method_69_code
def yJ9_min_7cf53 : MethodName := ⟨RJ9, "min", "(II)I"⟩
def RL : String := "DripSayingsLaw"
abbrev cL_law : ByteArray := code
def yL_law : MethodName := ⟨RL, "law", "([I)Z"⟩
abbrev vwCl : List vw_C := [(RX0, TX0, 4), (RX1, TX1, 3), (RX2, TX2, 3), (RX3, TX3, 5), (RX4, TX4, 2), (RX5, TX5, 5), (RX6, TX6, 7), (RX7, TX7, 22)]
end
section
/-- the tables' words that hold behind any warming -/
def wAll : List Cond := lw_tbl.filter goodWord
theorem wAll_in {w : Cond} (h : w ∈ wAll) : w ∈ lw_tbl := (List.mem_filter.mp h).1
theorem wAll_ok {w : Cond} (h : w ∈ wAll) : goodWord w = true := (List.mem_filter.mp h).2
theorem wA_t1 {w : Cond} (h : w ∈ tables_1_1) : w ∈ lw_tbl := List.mem_append_right _ (List.mem_append_left _ h)
theorem wA_t2 {w : Cond} (h : w ∈ tables_1_2) : w ∈ lw_tbl := List.mem_append_right _ (List.mem_append_right _ (List.mem_append_left _ h))
theorem wA_t3 {w : Cond} (h : w ∈ tables_1_3) : w ∈ lw_tbl := List.mem_append_right _ (List.mem_append_right _ (List.mem_append_right _ (List.mem_append_left _ h)))
theorem wA_t4 {w : Cond} (h : w ∈ tables_1_4) : w ∈ lw_tbl := List.mem_append_right _ (List.mem_append_right _ (List.mem_append_right _ (List.mem_append_right _ h)))
theorem wA_s {w : Cond} (h : w ∈ k2_sels lw_privs) : w ∈ lw_tbl := List.mem_append_left _ h
theorem wA_g {w : Cond} (h : w ∈ lw_tbl) (g : goodWord w = true) : w ∈ wAll := List.mem_filter.mpr ⟨h, g⟩
/-- a method's words: its code, and all the tables' -/
abbrev wA (y : MethodName) (b : ByteArray) (n : Nat) (r : Option FieldType) : List Cond := Cond.code y b n r :: wAll
theorem gA {y : MethodName} {b : ByteArray} {n : Nat} {r : Option FieldType} (h : Cond.code y b n r ∈ wAll) : GoodIn wAll (wA y b n r) := fun w hw => (List.mem_cons.mp hw).elim (fun e => e ▸ ⟨h, good_of_word (wAll_ok h)⟩) (fun q => ⟨q, good_of_word (wAll_ok q)⟩)
theorem gV {own C : String} {idx : Nat} {y : MethodName} {b : ByteArray} {n : Nat} {r : Option FieldType} (h1 : Cond.methodLink own idx y ∈ wAll) (h2 : Cond.instanceMethod y ∈ wAll) (h3 : Cond.selects C y y ∈ wAll) (h4 : Cond.initialized C ∈ wAll) (h : Cond.code y b n r ∈ wAll) : GoodIn wAll (wsV own idx C y (wA y b n r)) := fun w hw => (List.mem_append.mp hw).elim (fun q => by
  have hm : w ∈ wAll := by
    simp only [List.mem_cons, List.not_mem_nil, or_false] at q
    rcases q with q | q | q | q <;> (subst q; assumption)
  exact ⟨hm, good_of_word (wAll_ok hm)⟩) (gA h w)
theorem gS {own : String} {idx : Nat} {y : MethodName} {b : ByteArray} {n : Nat} {r : Option FieldType} (h1 : Cond.methodLink own idx y ∈ wAll) (h2 : Cond.static y ∈ wAll) (h4 : Cond.initialized own ∈ wAll) (h : Cond.code y b n r ∈ wAll) : GoodIn wAll (wsS own idx y (wA y b n r)) := fun w hw => (List.mem_append.mp hw).elim (fun q => by
  have hm : w ∈ wAll := by
    simp only [List.mem_cons, List.not_mem_nil, or_false] at q
    rcases q with q | q | q <;> (subst q; assumption)
  exact ⟨hm, good_of_word (wAll_ok hm)⟩) (gA h w)
theorem mg_0 : Cond.initialized RL ∈ wAll := wA_g (wA_t1 (List.mem_of_getElem? (i := 0) rfl)) rfl
theorem mg_1 : Cond.initialized RX6 ∈ wAll := wA_g (wA_t1 (List.mem_of_getElem? (i := 1) rfl)) rfl
theorem mg_2 : Cond.initialized RX1 ∈ wAll := wA_g (wA_t1 (List.mem_of_getElem? (i := 2) rfl)) rfl
theorem mg_3 : Cond.initialized RX2 ∈ wAll := wA_g (wA_t1 (List.mem_of_getElem? (i := 3) rfl)) rfl
theorem mg_4 : Cond.initialized RX4 ∈ wAll := wA_g (wA_t1 (List.mem_of_getElem? (i := 4) rfl)) rfl
theorem mg_5 : Cond.initialized RX3 ∈ wAll := wA_g (wA_t1 (List.mem_of_getElem? (i := 5) rfl)) rfl
theorem mg_6 : Cond.initialized RX5 ∈ wAll := wA_g (wA_t1 (List.mem_of_getElem? (i := 6) rfl)) rfl
theorem mg_7 : Cond.initialized RX0 ∈ wAll := wA_g (wA_t1 (List.mem_of_getElem? (i := 7) rfl)) rfl
theorem mg_8 : Cond.initialized RX7 ∈ wAll := wA_g (wA_t1 (List.mem_of_getElem? (i := 8) rfl)) rfl
theorem mg_9 : Cond.initialized RJ9 ∈ wAll := wA_g (wA_t1 (List.mem_of_getElem? (i := 9) rfl)) rfl
theorem mg_10 : Cond.classLink RL 7 RX6 ∈ wAll := wA_g (wA_t1 (List.mem_of_getElem? (i := 10) rfl)) rfl
theorem mg_11 : Cond.instantiable RX6 7 ∈ wAll := wA_g (wA_t1 (List.mem_of_getElem? (i := 11) rfl)) rfl
theorem mg_12 : Cond.methodLink RL 9 yX6_init ∈ wAll := wA_g (wA_t1 (List.mem_of_getElem? (i := 12) rfl)) rfl
theorem mg_13 : Cond.instanceMethod yX6_init ∈ wAll := wA_g (wA_t1 (List.mem_of_getElem? (i := 13) rfl)) rfl
theorem mg_14 : Cond.code yX6_init cX6_init 1 (Option.none : Option FieldType) ∈ wAll := wA_g (wA_t1 (List.mem_of_getElem? (i := 14) rfl)) rfl
theorem mg_15 : Cond.methodLink RX6 1 objectInit ∈ wAll := wA_g (wA_t1 (List.mem_of_getElem? (i := 15) rfl)) rfl
theorem mg_16 : Cond.instanceMethod objectInit ∈ wAll := wA_g (wA_t1 (List.mem_of_getElem? (i := 16) rfl)) rfl
theorem mg_17 : Cond.code objectInit object_method_1_code 1 (Option.none : Option FieldType) ∈ wAll := wA_g (wA_t1 (List.mem_of_getElem? (i := 17) rfl)) rfl
theorem mg_18 : Cond.classLink RX6 7 RX1 ∈ wAll := wA_g (wA_t1 (List.mem_of_getElem? (i := 18) rfl)) rfl
theorem mg_19 : Cond.instantiable RX1 3 ∈ wAll := wA_g (wA_t1 (List.mem_of_getElem? (i := 19) rfl)) rfl
theorem mg_20 : Cond.methodLink RX6 9 yX1_init ∈ wAll := wA_g (wA_t1 (List.mem_of_getElem? (i := 20) rfl)) rfl
theorem mg_21 : Cond.instanceMethod yX1_init ∈ wAll := wA_g (wA_t1 (List.mem_of_getElem? (i := 21) rfl)) rfl
theorem mg_22 : Cond.code yX1_init cX1_init 1 (Option.none : Option FieldType) ∈ wAll := wA_g (wA_t1 (List.mem_of_getElem? (i := 22) rfl)) rfl
theorem mg_23 : Cond.methodLink RX1 3 objectInit ∈ wAll := wA_g (wA_t1 (List.mem_of_getElem? (i := 23) rfl)) rfl
theorem mg_24 : Cond.classLink RX1 15 RX2 ∈ wAll := wA_g (wA_t1 (List.mem_of_getElem? (i := 24) rfl)) rfl
theorem mg_25 : Cond.instantiable RX2 3 ∈ wAll := wA_g (wA_t1 (List.mem_of_getElem? (i := 25) rfl)) rfl
theorem mt_26 : Cond.methodLinkNest RX1 17 yX2_init "DripSayings" ∈ lw_tbl := wA_t1 (List.mem_of_getElem? (i := 26) rfl)
theorem mg_27 : Cond.instanceMethod yX2_init ∈ wAll := wA_g (wA_t1 (List.mem_of_getElem? (i := 27) rfl)) rfl
theorem mg_28 : Cond.code yX2_init cX2_init 1 (Option.none : Option FieldType) ∈ wAll := wA_g (wA_t1 (List.mem_of_getElem? (i := 28) rfl)) rfl
theorem mg_29 : Cond.methodLink RX2 3 objectInit ∈ wAll := wA_g (wA_t1 (List.mem_of_getElem? (i := 29) rfl)) rfl
theorem mg_30 : Cond.fieldLink RX2 9 "DripSayings$Reader" "saying" "I" ∈ wAll := wA_g (wA_t1 (List.mem_of_getElem? (i := 30) rfl)) rfl
theorem mg_31 : Cond.fieldLink RX2 15 "DripSayings$Reader" "taps" "I" ∈ wAll := wA_g (wA_t1 (List.mem_of_getElem? (i := 31) rfl)) rfl
theorem mg_32 : Cond.fieldLink RX2 18 "DripSayings$Reader" "letters" "I" ∈ wAll := wA_g (wA_t1 (List.mem_of_getElem? (i := 32) rfl)) rfl
theorem mg_33 : Cond.lays RX2 "DripSayings$Reader" "saying" "I" ∈ wAll := wA_g (wA_t1 (List.mem_of_getElem? (i := 33) rfl)) rfl
theorem mg_35 : Cond.lays RX2 "DripSayings$Reader" "taps" "I" ∈ wAll := wA_g (wA_t1 (List.mem_of_getElem? (i := 35) rfl)) rfl
theorem mg_37 : Cond.lays RX2 "DripSayings$Reader" "letters" "I" ∈ wAll := wA_g (wA_t1 (List.mem_of_getElem? (i := 37) rfl)) rfl
theorem mg_40 : Cond.arrayClass FieldType.int ∈ wAll := wA_g (wA_t1 (List.mem_of_getElem? (i := 40) rfl)) rfl
theorem mg_41 : Cond.fieldLink RX1 9 "DripSayings$Page" "codes" "[I" ∈ wAll := wA_g (wA_t1 (List.mem_of_getElem? (i := 41) rfl)) rfl
theorem mg_42 : Cond.fieldLink RX1 18 "DripSayings$Page" "reader" "LDripSayings$Reader;" ∈ wAll := wA_g (wA_t1 (List.mem_of_getElem? (i := 42) rfl)) rfl
theorem mg_43 : Cond.fieldLink RX1 22 "DripSayings$Page" "size" "I" ∈ wAll := wA_g (wA_t1 (List.mem_of_getElem? (i := 43) rfl)) rfl
theorem mg_44 : Cond.fieldLink RX6 33 "DripSayings$Page" "size" "I" ∈ wAll := wA_g (wA_t1 (List.mem_of_getElem? (i := 44) rfl)) rfl
theorem mg_45 : Cond.laysFinal RX1 "DripSayings$Page" "codes" "[I" ∈ wAll := wA_g (wA_t1 (List.mem_of_getElem? (i := 45) rfl)) rfl
theorem mg_47 : Cond.laysFinal RX1 "DripSayings$Page" "reader" "LDripSayings$Reader;" ∈ wAll := wA_g (wA_t1 (List.mem_of_getElem? (i := 47) rfl)) rfl
theorem mg_49 : Cond.lays RX1 "DripSayings$Page" "size" "I" ∈ wAll := wA_g (wA_t1 (List.mem_of_getElem? (i := 49) rfl)) rfl
theorem mg_52 : Cond.classLink RX6 16 RX4 ∈ wAll := wA_g (wA_t1 (List.mem_of_getElem? (i := 52) rfl)) rfl
theorem mg_53 : Cond.instantiable RX4 2 ∈ wAll := wA_g (wA_t1 (List.mem_of_getElem? (i := 53) rfl)) rfl
theorem mg_54 : Cond.methodLink RX6 18 yX4_init ∈ wAll := wA_g (wA_t1 (List.mem_of_getElem? (i := 54) rfl)) rfl
theorem mg_55 : Cond.instanceMethod yX4_init ∈ wAll := wA_g (wA_t1 (List.mem_of_getElem? (i := 55) rfl)) rfl
theorem mg_56 : Cond.code yX4_init cX4_init 1 (Option.none : Option FieldType) ∈ wAll := wA_g (wA_t1 (List.mem_of_getElem? (i := 56) rfl)) rfl
theorem mg_57 : Cond.methodLink RX4 3 objectInit ∈ wAll := wA_g (wA_t1 (List.mem_of_getElem? (i := 57) rfl)) rfl
theorem mg_58 : Cond.fieldLink RX4 9 "DripSayings$Sayings" "beats" "[I" ∈ wAll := wA_g (wA_t1 (List.mem_of_getElem? (i := 58) rfl)) rfl
theorem mg_59 : Cond.fieldLink RX4 15 "DripSayings$Sayings" "lengths" "[I" ∈ wAll := wA_g (wA_t1 (List.mem_of_getElem? (i := 59) rfl)) rfl
theorem mg_60 : Cond.laysFinal RX4 "DripSayings$Sayings" "beats" "[I" ∈ wAll := wA_g (wA_t1 (List.mem_of_getElem? (i := 60) rfl)) rfl
theorem mg_62 : Cond.laysFinal RX4 "DripSayings$Sayings" "lengths" "[I" ∈ wAll := wA_g (wA_t1 (List.mem_of_getElem? (i := 62) rfl)) rfl
theorem mg_65 : Cond.classLink RX6 23 RX3 ∈ wAll := wA_g (wA_t1 (List.mem_of_getElem? (i := 65) rfl)) rfl
theorem mg_66 : Cond.instantiable RX3 5 ∈ wAll := wA_g (wA_t1 (List.mem_of_getElem? (i := 66) rfl)) rfl
theorem mg_67 : Cond.methodLink RX6 25 yX3_init ∈ wAll := wA_g (wA_t1 (List.mem_of_getElem? (i := 67) rfl)) rfl
theorem mg_68 : Cond.instanceMethod yX3_init ∈ wAll := wA_g (wA_t1 (List.mem_of_getElem? (i := 68) rfl)) rfl
theorem mg_69 : Cond.code yX3_init cX3_init 2 (Option.none : Option FieldType) ∈ wAll := wA_g (wA_t1 (List.mem_of_getElem? (i := 69) rfl)) rfl
theorem mg_70 : Cond.methodLink RX3 3 objectInit ∈ wAll := wA_g (wA_t1 (List.mem_of_getElem? (i := 70) rfl)) rfl
theorem mg_71 : Cond.classLink RX3 9 RX5 ∈ wAll := wA_g (wA_t1 (List.mem_of_getElem? (i := 71) rfl)) rfl
theorem mt_72 : Cond.arrayOver (FieldType.object "DripSayings$Tap") ∈ lw_tbl := wA_t1 (List.mem_of_getElem? (i := 72) rfl)
theorem mg_73 : Cond.instantiable RX5 5 ∈ wAll := wA_g (wA_t1 (List.mem_of_getElem? (i := 73) rfl)) rfl
theorem mg_74 : Cond.methodLink RX3 17 yX5_init ∈ wAll := wA_g (wA_t1 (List.mem_of_getElem? (i := 74) rfl)) rfl
theorem mg_75 : Cond.instanceMethod yX5_init ∈ wAll := wA_g (wA_t1 (List.mem_of_getElem? (i := 75) rfl)) rfl
theorem mg_76 : Cond.code yX5_init cX5_init 2 (Option.none : Option FieldType) ∈ wAll := wA_g (wA_t1 (List.mem_of_getElem? (i := 76) rfl)) rfl
theorem mg_77 : Cond.methodLink RX5 1 objectInit ∈ wAll := wA_g (wA_t1 (List.mem_of_getElem? (i := 77) rfl)) rfl
theorem mg_78 : Cond.fieldLink RX5 7 "DripSayings$Tap" "number" "I" ∈ wAll := wA_g (wA_t1 (List.mem_of_getElem? (i := 78) rfl)) rfl
theorem mg_79 : Cond.fieldLink RX3 49 "DripSayings$Tap" "number" "I" ∈ wAll := wA_g (wA_t1 (List.mem_of_getElem? (i := 79) rfl)) rfl
theorem mg_80 : Cond.fieldLink RX6 199 "DripSayings$Tap" "number" "I" ∈ wAll := wA_g (wA_t1 (List.mem_of_getElem? (i := 80) rfl)) rfl
theorem mg_81 : Cond.fieldLink RX5 13 "DripSayings$Tap" "kind" "I" ∈ wAll := wA_g (wA_t1 (List.mem_of_getElem? (i := 81) rfl)) rfl
theorem mg_82 : Cond.fieldLink RX3 56 "DripSayings$Tap" "kind" "I" ∈ wAll := wA_g (wA_t1 (List.mem_of_getElem? (i := 82) rfl)) rfl
theorem mg_83 : Cond.fieldLink RX6 97 "DripSayings$Tap" "kind" "I" ∈ wAll := wA_g (wA_t1 (List.mem_of_getElem? (i := 83) rfl)) rfl
theorem mg_84 : Cond.fieldLink RX5 16 "DripSayings$Tap" "saying" "I" ∈ wAll := wA_g (wA_t1 (List.mem_of_getElem? (i := 84) rfl)) rfl
theorem mg_85 : Cond.fieldLink RX3 59 "DripSayings$Tap" "saying" "I" ∈ wAll := wA_g (wA_t1 (List.mem_of_getElem? (i := 85) rfl)) rfl
theorem mg_86 : Cond.fieldLink RX6 114 "DripSayings$Tap" "saying" "I" ∈ wAll := wA_g (wA_t1 (List.mem_of_getElem? (i := 86) rfl)) rfl
theorem mg_87 : Cond.fieldLink RX5 19 "DripSayings$Tap" "washer" "I" ∈ wAll := wA_g (wA_t1 (List.mem_of_getElem? (i := 87) rfl)) rfl
theorem mg_88 : Cond.fieldLink RX3 52 "DripSayings$Tap" "washer" "I" ∈ wAll := wA_g (wA_t1 (List.mem_of_getElem? (i := 88) rfl)) rfl
theorem mg_89 : Cond.fieldLink RX6 111 "DripSayings$Tap" "washer" "I" ∈ wAll := wA_g (wA_t1 (List.mem_of_getElem? (i := 89) rfl)) rfl
theorem mg_90 : Cond.fieldLink RX5 22 "DripSayings$Tap" "place" "I" ∈ wAll := wA_g (wA_t1 (List.mem_of_getElem? (i := 90) rfl)) rfl
theorem mg_91 : Cond.fieldLink RX3 62 "DripSayings$Tap" "place" "I" ∈ wAll := wA_g (wA_t1 (List.mem_of_getElem? (i := 91) rfl)) rfl
theorem mg_92 : Cond.fieldLink RX6 105 "DripSayings$Tap" "place" "I" ∈ wAll := wA_g (wA_t1 (List.mem_of_getElem? (i := 92) rfl)) rfl
theorem mg_93 : Cond.laysFinal RX5 "DripSayings$Tap" "number" "I" ∈ wAll := wA_g (wA_t1 (List.mem_of_getElem? (i := 93) rfl)) rfl
theorem mg_95 : Cond.lays RX5 "DripSayings$Tap" "kind" "I" ∈ wAll := wA_g (wA_t1 (List.mem_of_getElem? (i := 95) rfl)) rfl
theorem mg_97 : Cond.lays RX5 "DripSayings$Tap" "saying" "I" ∈ wAll := wA_g (wA_t1 (List.mem_of_getElem? (i := 97) rfl)) rfl
theorem mg_99 : Cond.lays RX5 "DripSayings$Tap" "washer" "I" ∈ wAll := wA_g (wA_t1 (List.mem_of_getElem? (i := 99) rfl)) rfl
theorem mg_101 : Cond.lays RX5 "DripSayings$Tap" "place" "I" ∈ wAll := wA_g (wA_t1 (List.mem_of_getElem? (i := 101) rfl)) rfl
theorem mg_104 : Cond.classLink RX3 20 RX0 ∈ wAll := wA_g (wA_t1 (List.mem_of_getElem? (i := 104) rfl)) rfl
theorem mt_105 : Cond.arrayOver (FieldType.object "DripSayings$Note") ∈ lw_tbl := wA_t1 (List.mem_of_getElem? (i := 105) rfl)
theorem mg_106 : Cond.instantiable RX0 4 ∈ wAll := wA_g (wA_t1 (List.mem_of_getElem? (i := 106) rfl)) rfl
theorem mt_107 : Cond.methodLinkNest RX3 26 yX0_init "DripSayings" ∈ lw_tbl := wA_t1 (List.mem_of_getElem? (i := 107) rfl)
theorem mg_108 : Cond.instanceMethod yX0_init ∈ wAll := wA_g (wA_t1 (List.mem_of_getElem? (i := 108) rfl)) rfl
theorem mg_109 : Cond.code yX0_init cX0_init 1 (Option.none : Option FieldType) ∈ wAll := wA_g (wA_t1 (List.mem_of_getElem? (i := 109) rfl)) rfl
theorem mg_110 : Cond.methodLink RX0 1 objectInit ∈ wAll := wA_g (wA_t1 (List.mem_of_getElem? (i := 110) rfl)) rfl
theorem mg_111 : Cond.fieldLink RX0 7 "DripSayings$Note" "tap" "I" ∈ wAll := wA_g (wA_t1 (List.mem_of_getElem? (i := 111) rfl)) rfl
theorem mg_112 : Cond.fieldLink RX3 65 "DripSayings$Note" "tap" "I" ∈ wAll := wA_g (wA_t1 (List.mem_of_getElem? (i := 112) rfl)) rfl
theorem mg_113 : Cond.fieldLink RX6 194 "DripSayings$Note" "tap" "I" ∈ wAll := wA_g (wA_t1 (List.mem_of_getElem? (i := 113) rfl)) rfl
theorem mg_114 : Cond.fieldLink RX0 13 "DripSayings$Note" "drip" "I" ∈ wAll := wA_g (wA_t1 (List.mem_of_getElem? (i := 114) rfl)) rfl
theorem mg_115 : Cond.fieldLink RX3 68 "DripSayings$Note" "drip" "I" ∈ wAll := wA_g (wA_t1 (List.mem_of_getElem? (i := 115) rfl)) rfl
theorem mg_116 : Cond.fieldLink RX6 203 "DripSayings$Note" "drip" "I" ∈ wAll := wA_g (wA_t1 (List.mem_of_getElem? (i := 116) rfl)) rfl
theorem mg_117 : Cond.fieldLink RX0 16 "DripSayings$Note" "beat" "I" ∈ wAll := wA_g (wA_t1 (List.mem_of_getElem? (i := 117) rfl)) rfl
theorem mg_118 : Cond.fieldLink RX3 71 "DripSayings$Note" "beat" "I" ∈ wAll := wA_g (wA_t1 (List.mem_of_getElem? (i := 118) rfl)) rfl
theorem mg_119 : Cond.fieldLink RX6 206 "DripSayings$Note" "beat" "I" ∈ wAll := wA_g (wA_t1 (List.mem_of_getElem? (i := 119) rfl)) rfl
theorem mg_120 : Cond.fieldLink RX0 19 "DripSayings$Note" "washer" "I" ∈ wAll := wA_g (wA_t1 (List.mem_of_getElem? (i := 120) rfl)) rfl
theorem mg_121 : Cond.fieldLink RX3 74 "DripSayings$Note" "washer" "I" ∈ wAll := wA_g (wA_t1 (List.mem_of_getElem? (i := 121) rfl)) rfl
theorem mg_122 : Cond.fieldLink RX6 202 "DripSayings$Note" "washer" "I" ∈ wAll := wA_g (wA_t1 (List.mem_of_getElem? (i := 122) rfl)) rfl
theorem mg_123 : Cond.lays RX0 "DripSayings$Note" "tap" "I" ∈ wAll := wA_g (wA_t1 (List.mem_of_getElem? (i := 123) rfl)) rfl
theorem mg_125 : Cond.lays RX0 "DripSayings$Note" "drip" "I" ∈ wAll := wA_g (wA_t1 (List.mem_of_getElem? (i := 125) rfl)) rfl
theorem mg_127 : Cond.lays RX0 "DripSayings$Note" "beat" "I" ∈ wAll := wA_g (wA_t1 (List.mem_of_getElem? (i := 127) rfl)) rfl
theorem mg_129 : Cond.lays RX0 "DripSayings$Note" "washer" "I" ∈ wAll := wA_g (wA_t1 (List.mem_of_getElem? (i := 129) rfl)) rfl
theorem mg_132 : Cond.fieldLink RX3 11 "DripSayings$Room" "taps" "[LDripSayings$Tap;" ∈ wAll := wA_g (wA_t1 (List.mem_of_getElem? (i := 132) rfl)) rfl
theorem mg_133 : Cond.fieldLink RX3 22 "DripSayings$Room" "notes" "[LDripSayings$Note;" ∈ wAll := wA_g (wA_t1 (List.mem_of_getElem? (i := 133) rfl)) rfl
theorem mg_134 : Cond.fieldLink RX3 27 "DripSayings$Room" "tapCount" "I" ∈ wAll := wA_g (wA_t1 (List.mem_of_getElem? (i := 134) rfl)) rfl
theorem mg_135 : Cond.fieldLink RX6 67 "DripSayings$Room" "tapCount" "I" ∈ wAll := wA_g (wA_t1 (List.mem_of_getElem? (i := 135) rfl)) rfl
theorem mg_136 : Cond.fieldLink RX3 31 "DripSayings$Room" "noteCount" "I" ∈ wAll := wA_g (wA_t1 (List.mem_of_getElem? (i := 136) rfl)) rfl
theorem mg_137 : Cond.fieldLink RX6 121 "DripSayings$Room" "noteCount" "I" ∈ wAll := wA_g (wA_t1 (List.mem_of_getElem? (i := 137) rfl)) rfl
theorem mg_138 : Cond.fieldLink RX3 34 "DripSayings$Room" "changes" "I" ∈ wAll := wA_g (wA_t1 (List.mem_of_getElem? (i := 138) rfl)) rfl
theorem mg_139 : Cond.fieldLink RX6 108 "DripSayings$Room" "changes" "I" ∈ wAll := wA_g (wA_t1 (List.mem_of_getElem? (i := 139) rfl)) rfl
theorem mg_140 : Cond.laysFinal RX3 "DripSayings$Room" "taps" "[LDripSayings$Tap;" ∈ wAll := wA_g (wA_t1 (List.mem_of_getElem? (i := 140) rfl)) rfl
theorem mg_142 : Cond.laysFinal RX3 "DripSayings$Room" "notes" "[LDripSayings$Note;" ∈ wAll := wA_g (wA_t1 (List.mem_of_getElem? (i := 142) rfl)) rfl
theorem mg_144 : Cond.lays RX3 "DripSayings$Room" "tapCount" "I" ∈ wAll := wA_g (wA_t1 (List.mem_of_getElem? (i := 144) rfl)) rfl
theorem mg_146 : Cond.lays RX3 "DripSayings$Room" "noteCount" "I" ∈ wAll := wA_g (wA_t1 (List.mem_of_getElem? (i := 146) rfl)) rfl
theorem mg_148 : Cond.lays RX3 "DripSayings$Room" "changes" "I" ∈ wAll := wA_g (wA_t1 (List.mem_of_getElem? (i := 148) rfl)) rfl
theorem mg_151 : Cond.fieldLink RX6 10 "DripSayings" "page" "LDripSayings$Page;" ∈ wAll := wA_g (wA_t1 (List.mem_of_getElem? (i := 151) rfl)) rfl
theorem mg_152 : Cond.fieldLink RX6 19 "DripSayings" "sayings" "LDripSayings$Sayings;" ∈ wAll := wA_g (wA_t1 (List.mem_of_getElem? (i := 152) rfl)) rfl
theorem mg_153 : Cond.fieldLink RX6 26 "DripSayings" "room" "LDripSayings$Room;" ∈ wAll := wA_g (wA_t1 (List.mem_of_getElem? (i := 153) rfl)) rfl
theorem mg_154 : Cond.fieldLink RX6 30 "DripSayings" "kept" "LDripSayings$Room;" ∈ wAll := wA_g (wA_t1 (List.mem_of_getElem? (i := 154) rfl)) rfl
theorem mg_155 : Cond.fieldLink RX6 57 "DripSayings" "hasHouse" "Z" ∈ wAll := wA_g (wA_t1 (List.mem_of_getElem? (i := 155) rfl)) rfl
theorem mg_156 : Cond.fieldLink RX6 61 "DripSayings" "hasImage" "Z" ∈ wAll := wA_g (wA_t1 (List.mem_of_getElem? (i := 156) rfl)) rfl
theorem mg_157 : Cond.fieldLink RX6 64 "DripSayings" "housesRead" "I" ∈ wAll := wA_g (wA_t1 (List.mem_of_getElem? (i := 157) rfl)) rfl
theorem mg_158 : Cond.laysFinal RX6 "DripSayings" "page" "LDripSayings$Page;" ∈ wAll := wA_g (wA_t1 (List.mem_of_getElem? (i := 158) rfl)) rfl
theorem mg_160 : Cond.laysFinal RX6 "DripSayings" "sayings" "LDripSayings$Sayings;" ∈ wAll := wA_g (wA_t1 (List.mem_of_getElem? (i := 160) rfl)) rfl
theorem mg_162 : Cond.laysFinal RX6 "DripSayings" "room" "LDripSayings$Room;" ∈ wAll := wA_g (wA_t1 (List.mem_of_getElem? (i := 162) rfl)) rfl
theorem mg_164 : Cond.laysFinal RX6 "DripSayings" "kept" "LDripSayings$Room;" ∈ wAll := wA_g (wA_t1 (List.mem_of_getElem? (i := 164) rfl)) rfl
theorem mg_166 : Cond.lays RX6 "DripSayings" "hasHouse" "Z" ∈ wAll := wA_g (wA_t1 (List.mem_of_getElem? (i := 166) rfl)) rfl
theorem mg_168 : Cond.lays RX6 "DripSayings" "hasImage" "Z" ∈ wAll := wA_g (wA_t1 (List.mem_of_getElem? (i := 168) rfl)) rfl
theorem mg_170 : Cond.lays RX6 "DripSayings" "housesRead" "I" ∈ wAll := wA_g (wA_t1 (List.mem_of_getElem? (i := 170) rfl)) rfl
theorem mg_173 : Cond.methodLink RL 13 yX6_letter ∈ wAll := wA_g (wA_t1 (List.mem_of_getElem? (i := 173) rfl)) rfl
theorem mg_174 : Cond.instanceMethod yX6_letter ∈ wAll := wA_g (wA_t1 (List.mem_of_getElem? (i := 174) rfl)) rfl
theorem mg_175 : Cond.selects RX6 yX6_letter yX6_letter ∈ wAll := wA_g (wA_t1 (List.mem_of_getElem? (i := 175) rfl)) rfl
theorem mg_176 : Cond.code yX6_letter cX6_letter 2 (Option.some FieldType.int) ∈ wAll := wA_g (wA_t1 (List.mem_of_getElem? (i := 176) rfl)) rfl
theorem mg_177 : Cond.methodLink RX6 37 yX1_add ∈ wAll := wA_g (wA_t1 (List.mem_of_getElem? (i := 177) rfl)) rfl
theorem mg_178 : Cond.instanceMethod yX1_add ∈ wAll := wA_g (wA_t1 (List.mem_of_getElem? (i := 178) rfl)) rfl
theorem mg_179 : Cond.selects RX1 yX1_add yX1_add ∈ wAll := wA_g (wA_t1 (List.mem_of_getElem? (i := 179) rfl)) rfl
theorem mg_180 : Cond.code yX1_add cX1_add 2 (Option.none : Option FieldType) ∈ wAll := wA_g (wA_t1 (List.mem_of_getElem? (i := 180) rfl)) rfl
theorem mg_181 : Cond.methodLink RL 18 yX6_blank ∈ wAll := wA_g (wA_t1 (List.mem_of_getElem? (i := 181) rfl)) rfl
theorem mg_182 : Cond.instanceMethod yX6_blank ∈ wAll := wA_g (wA_t1 (List.mem_of_getElem? (i := 182) rfl)) rfl
theorem mg_183 : Cond.selects RX6 yX6_blank yX6_blank ∈ wAll := wA_g (wA_t1 (List.mem_of_getElem? (i := 183) rfl)) rfl
theorem mg_184 : Cond.code yX6_blank cX6_blank 2 (Option.some FieldType.int) ∈ wAll := wA_g (wA_t1 (List.mem_of_getElem? (i := 184) rfl)) rfl
theorem mg_185 : Cond.methodLink RX6 41 yX1_clear ∈ wAll := wA_g (wA_t1 (List.mem_of_getElem? (i := 185) rfl)) rfl
theorem mg_186 : Cond.instanceMethod yX1_clear ∈ wAll := wA_g (wA_t1 (List.mem_of_getElem? (i := 186) rfl)) rfl
theorem mg_187 : Cond.selects RX1 yX1_clear yX1_clear ∈ wAll := wA_g (wA_t1 (List.mem_of_getElem? (i := 187) rfl)) rfl
theorem mg_188 : Cond.code yX1_clear cX1_clear 1 (Option.none : Option FieldType) ∈ wAll := wA_g (wA_t1 (List.mem_of_getElem? (i := 188) rfl)) rfl
theorem mg_189 : Cond.methodLink RL 23 yX6_fault ∈ wAll := wA_g (wA_t1 (List.mem_of_getElem? (i := 189) rfl)) rfl
theorem mg_190 : Cond.instanceMethod yX6_fault ∈ wAll := wA_g (wA_t1 (List.mem_of_getElem? (i := 190) rfl)) rfl
theorem mg_191 : Cond.selects RX6 yX6_fault yX6_fault ∈ wAll := wA_g (wA_t1 (List.mem_of_getElem? (i := 191) rfl)) rfl
theorem mg_192 : Cond.code yX6_fault cX6_fault 1 (Option.some FieldType.int) ∈ wAll := wA_g (wA_t1 (List.mem_of_getElem? (i := 192) rfl)) rfl
theorem mg_193 : Cond.methodLink RX6 44 yX1_firstFault ∈ wAll := wA_g (wA_t1 (List.mem_of_getElem? (i := 193) rfl)) rfl
theorem mg_194 : Cond.instanceMethod yX1_firstFault ∈ wAll := wA_g (wA_t1 (List.mem_of_getElem? (i := 194) rfl)) rfl
theorem mg_195 : Cond.selects RX1 yX1_firstFault yX1_firstFault ∈ wAll := wA_g (wA_t1 (List.mem_of_getElem? (i := 195) rfl)) rfl
theorem mg_196 : Cond.code yX1_firstFault cX1_firstFault 2 (Option.some FieldType.int) ∈ wAll := wA_g (wA_t1 (List.mem_of_getElem? (i := 196) rfl)) rfl
theorem mg_197 : Cond.methodLink RX1 26 yX2_begin ∈ wAll := wA_g (wA_t1 (List.mem_of_getElem? (i := 197) rfl)) rfl
theorem mg_198 : Cond.instanceMethod yX2_begin ∈ wAll := wA_g (wA_t1 (List.mem_of_getElem? (i := 198) rfl)) rfl
theorem mg_199 : Cond.selects RX2 yX2_begin yX2_begin ∈ wAll := wA_g (wA_t1 (List.mem_of_getElem? (i := 199) rfl)) rfl
theorem mg_200 : Cond.code yX2_begin cX2_begin 1 (Option.none : Option FieldType) ∈ wAll := wA_g (wA_t1 (List.mem_of_getElem? (i := 200) rfl)) rfl
theorem mg_201 : Cond.methodLink RX1 29 yX1_codeAt ∈ wAll := wA_g (wA_t1 (List.mem_of_getElem? (i := 201) rfl)) rfl
theorem mg_202 : Cond.instanceMethod yX1_codeAt ∈ wAll := wA_g (wA_t1 (List.mem_of_getElem? (i := 202) rfl)) rfl
theorem mg_203 : Cond.selects RX1 yX1_codeAt yX1_codeAt ∈ wAll := wA_g (wA_t1 (List.mem_of_getElem? (i := 203) rfl)) rfl
theorem mg_204 : Cond.code yX1_codeAt cX1_codeAt 2 (Option.some FieldType.int) ∈ wAll := wA_g (wA_t1 (List.mem_of_getElem? (i := 204) rfl)) rfl
theorem mg_205 : Cond.methodLink RX1 33 yX2_takes ∈ wAll := wA_g (wA_t1 (List.mem_of_getElem? (i := 205) rfl)) rfl
theorem mg_206 : Cond.instanceMethod yX2_takes ∈ wAll := wA_g (wA_t1 (List.mem_of_getElem? (i := 206) rfl)) rfl
theorem mg_207 : Cond.selects RX2 yX2_takes yX2_takes ∈ wAll := wA_g (wA_t1 (List.mem_of_getElem? (i := 207) rfl)) rfl
theorem mg_208 : Cond.code yX2_takes cX2_takes 2 (Option.some FieldType.boolean) ∈ wAll := wA_g (wA_t1 (List.mem_of_getElem? (i := 208) rfl)) rfl
theorem mg_209 : Cond.methodLink RX2 21 yX2_takesInSaying ∈ wAll := wA_g (wA_t1 (List.mem_of_getElem? (i := 209) rfl)) rfl
theorem mg_211 : Cond.instanceMethod yX2_takesInSaying ∈ wAll := wA_g (wA_t1 (List.mem_of_getElem? (i := 211) rfl)) rfl
theorem mg_212 : Cond.code yX2_takesInSaying cX2_takesInSaying 3 (Option.some FieldType.boolean) ∈ wAll := wA_g (wA_t1 (List.mem_of_getElem? (i := 212) rfl)) rfl
theorem mg_213 : Cond.methodLink RX2 25 yX2_takesInTap ∈ wAll := wA_g (wA_t1 (List.mem_of_getElem? (i := 213) rfl)) rfl
theorem mg_215 : Cond.instanceMethod yX2_takesInTap ∈ wAll := wA_g (wA_t1 (List.mem_of_getElem? (i := 215) rfl)) rfl
theorem mg_216 : Cond.code yX2_takesInTap cX2_takesInTap 2 (Option.some FieldType.boolean) ∈ wAll := wA_g (wA_t1 (List.mem_of_getElem? (i := 216) rfl)) rfl
theorem mt_217 : Cond.methodLinkNest RX2 28 yX6_kindOfLetter "DripSayings" ∈ lw_tbl := wA_t1 (List.mem_of_getElem? (i := 217) rfl)
theorem mg_218 : Cond.static yX6_kindOfLetter ∈ wAll := wA_g (wA_t1 (List.mem_of_getElem? (i := 218) rfl)) rfl
theorem mg_219 : Cond.code yX6_kindOfLetter cX6_kindOfLetter 1 (Option.some FieldType.int) ∈ wAll := wA_g (wA_t1 (List.mem_of_getElem? (i := 219) rfl)) rfl
theorem mt_220 : Cond.methodLinkNest RX2 32 yX6_isSaying "DripSayings" ∈ lw_tbl := wA_t1 (List.mem_of_getElem? (i := 220) rfl)
theorem mg_221 : Cond.static yX6_isSaying ∈ wAll := wA_g (wA_t1 (List.mem_of_getElem? (i := 221) rfl)) rfl
theorem mg_222 : Cond.code yX6_isSaying cX6_isSaying 1 (Option.some FieldType.boolean) ∈ wAll := wA_g (wA_t1 (List.mem_of_getElem? (i := 222) rfl)) rfl
theorem mg_223 : Cond.methodLink RL 27 yX6_house ∈ wAll := wA_g (wA_t1 (List.mem_of_getElem? (i := 223) rfl)) rfl
theorem mg_224 : Cond.instanceMethod yX6_house ∈ wAll := wA_g (wA_t1 (List.mem_of_getElem? (i := 224) rfl)) rfl
theorem mg_225 : Cond.selects RX6 yX6_house yX6_house ∈ wAll := wA_g (wA_t1 (List.mem_of_getElem? (i := 225) rfl)) rfl
theorem mg_226 : Cond.code yX6_house cX6_house 1 (Option.some FieldType.int) ∈ wAll := wA_g (wA_t1 (List.mem_of_getElem? (i := 226) rfl)) rfl
theorem mg_227 : Cond.methodLink RX6 48 yX1_isHouse ∈ wAll := wA_g (wA_t1 (List.mem_of_getElem? (i := 227) rfl)) rfl
theorem mg_228 : Cond.instanceMethod yX1_isHouse ∈ wAll := wA_g (wA_t1 (List.mem_of_getElem? (i := 228) rfl)) rfl
theorem mg_229 : Cond.selects RX1 yX1_isHouse yX1_isHouse ∈ wAll := wA_g (wA_t1 (List.mem_of_getElem? (i := 229) rfl)) rfl
theorem mg_230 : Cond.code yX1_isHouse cX1_isHouse 1 (Option.some FieldType.boolean) ∈ wAll := wA_g (wA_t1 (List.mem_of_getElem? (i := 230) rfl)) rfl
theorem mg_231 : Cond.methodLink RX1 37 yX1_firstFault ∈ wAll := wA_g (wA_t1 (List.mem_of_getElem? (i := 231) rfl)) rfl
theorem mg_232 : Cond.methodLink RX1 41 yX2_isAtEnd ∈ wAll := wA_g (wA_t1 (List.mem_of_getElem? (i := 232) rfl)) rfl
theorem mg_233 : Cond.instanceMethod yX2_isAtEnd ∈ wAll := wA_g (wA_t1 (List.mem_of_getElem? (i := 233) rfl)) rfl
theorem mg_234 : Cond.selects RX2 yX2_isAtEnd yX2_isAtEnd ∈ wAll := wA_g (wA_t1 (List.mem_of_getElem? (i := 234) rfl)) rfl
theorem mg_235 : Cond.code yX2_isAtEnd cX2_isAtEnd 1 (Option.some FieldType.boolean) ∈ wAll := wA_g (wA_t1 (List.mem_of_getElem? (i := 235) rfl)) rfl
theorem mg_236 : Cond.methodLink RX6 52 yX4_clear ∈ wAll := wA_g (wA_t1 (List.mem_of_getElem? (i := 236) rfl)) rfl
theorem mg_237 : Cond.instanceMethod yX4_clear ∈ wAll := wA_g (wA_t1 (List.mem_of_getElem? (i := 237) rfl)) rfl
theorem mg_238 : Cond.selects RX4 yX4_clear yX4_clear ∈ wAll := wA_g (wA_t1 (List.mem_of_getElem? (i := 238) rfl)) rfl
theorem mg_239 : Cond.code yX4_clear cX4_clear 2 (Option.none : Option FieldType) ∈ wAll := wA_g (wA_t1 (List.mem_of_getElem? (i := 239) rfl)) rfl
theorem mg_240 : Cond.methodLink RX6 53 yX3_clear ∈ wAll := wA_g (wA_t2 (List.mem_of_getElem? (i := 0) rfl)) rfl
theorem mg_241 : Cond.instanceMethod yX3_clear ∈ wAll := wA_g (wA_t2 (List.mem_of_getElem? (i := 1) rfl)) rfl
theorem mg_242 : Cond.selects RX3 yX3_clear yX3_clear ∈ wAll := wA_g (wA_t2 (List.mem_of_getElem? (i := 2) rfl)) rfl
theorem mg_243 : Cond.code yX3_clear cX3_clear 1 (Option.none : Option FieldType) ∈ wAll := wA_g (wA_t2 (List.mem_of_getElem? (i := 3) rfl)) rfl
theorem mg_244 : Cond.methodLink RX6 54 yX6_readPage ∈ wAll := wA_g (wA_t2 (List.mem_of_getElem? (i := 4) rfl)) rfl
theorem mg_246 : Cond.instanceMethod yX6_readPage ∈ wAll := wA_g (wA_t2 (List.mem_of_getElem? (i := 6) rfl)) rfl
theorem mg_247 : Cond.code yX6_readPage cX6_readPage 6 (Option.none : Option FieldType) ∈ wAll := wA_g (wA_t2 (List.mem_of_getElem? (i := 7) rfl)) rfl
theorem mg_248 : Cond.methodLink RX6 153 yX1_codeAt ∈ wAll := wA_g (wA_t2 (List.mem_of_getElem? (i := 8) rfl)) rfl
theorem mg_249 : Cond.methodLink RX6 156 yX4_addBeat ∈ wAll := wA_g (wA_t2 (List.mem_of_getElem? (i := 9) rfl)) rfl
theorem mg_250 : Cond.instanceMethod yX4_addBeat ∈ wAll := wA_g (wA_t2 (List.mem_of_getElem? (i := 10) rfl)) rfl
theorem mg_251 : Cond.selects RX4 yX4_addBeat yX4_addBeat ∈ wAll := wA_g (wA_t2 (List.mem_of_getElem? (i := 11) rfl)) rfl
theorem mg_252 : Cond.code yX4_addBeat cX4_addBeat 4 (Option.none : Option FieldType) ∈ wAll := wA_g (wA_t2 (List.mem_of_getElem? (i := 12) rfl)) rfl
theorem mg_253 : Cond.methodLink RX6 159 yX6_kindOfLetter ∈ wAll := wA_g (wA_t2 (List.mem_of_getElem? (i := 13) rfl)) rfl
theorem mg_254 : Cond.methodLink RX6 85 yX3_addTap ∈ wAll := wA_g (wA_t2 (List.mem_of_getElem? (i := 14) rfl)) rfl
theorem mg_255 : Cond.instanceMethod yX3_addTap ∈ wAll := wA_g (wA_t2 (List.mem_of_getElem? (i := 15) rfl)) rfl
theorem mg_256 : Cond.selects RX3 yX3_addTap yX3_addTap ∈ wAll := wA_g (wA_t2 (List.mem_of_getElem? (i := 16) rfl)) rfl
theorem mg_257 : Cond.code yX3_addTap cX3_addTap 4 (Option.none : Option FieldType) ∈ wAll := wA_g (wA_t2 (List.mem_of_getElem? (i := 17) rfl)) rfl
theorem mg_258 : Cond.methodLink RX3 37 yX3_tapAt ∈ wAll := wA_g (wA_t2 (List.mem_of_getElem? (i := 18) rfl)) rfl
theorem mg_259 : Cond.instanceMethod yX3_tapAt ∈ wAll := wA_g (wA_t2 (List.mem_of_getElem? (i := 19) rfl)) rfl
theorem mg_260 : Cond.selects RX3 yX3_tapAt yX3_tapAt ∈ wAll := wA_g (wA_t2 (List.mem_of_getElem? (i := 20) rfl)) rfl
theorem mg_261 : Cond.code yX3_tapAt cX3_tapAt 2 (Option.some (FieldType.object "DripSayings$Tap")) ∈ wAll := wA_g (wA_t2 (List.mem_of_getElem? (i := 21) rfl)) rfl
theorem mg_262 : Cond.methodLink RX3 41 yX5_become ∈ wAll := wA_g (wA_t2 (List.mem_of_getElem? (i := 22) rfl)) rfl
theorem mg_263 : Cond.instanceMethod yX5_become ∈ wAll := wA_g (wA_t2 (List.mem_of_getElem? (i := 23) rfl)) rfl
theorem mg_264 : Cond.selects RX5 yX5_become yX5_become ∈ wAll := wA_g (wA_t2 (List.mem_of_getElem? (i := 24) rfl)) rfl
theorem mg_265 : Cond.code yX5_become cX5_become 5 (Option.none : Option FieldType) ∈ wAll := wA_g (wA_t2 (List.mem_of_getElem? (i := 25) rfl)) rfl
theorem mg_266 : Cond.methodLink RL 31 yX6_saying ∈ wAll := wA_g (wA_t2 (List.mem_of_getElem? (i := 26) rfl)) rfl
theorem mg_267 : Cond.instanceMethod yX6_saying ∈ wAll := wA_g (wA_t2 (List.mem_of_getElem? (i := 27) rfl)) rfl
theorem mg_268 : Cond.selects RX6 yX6_saying yX6_saying ∈ wAll := wA_g (wA_t2 (List.mem_of_getElem? (i := 28) rfl)) rfl
theorem mg_269 : Cond.code yX6_saying cX6_saying 3 (Option.some FieldType.int) ∈ wAll := wA_g (wA_t2 (List.mem_of_getElem? (i := 29) rfl)) rfl
theorem mg_270 : Cond.methodLink RX6 70 yX6_isSaying ∈ wAll := wA_g (wA_t2 (List.mem_of_getElem? (i := 30) rfl)) rfl
theorem mg_271 : Cond.methodLink RX6 74 yX4_lengthOf ∈ wAll := wA_g (wA_t2 (List.mem_of_getElem? (i := 31) rfl)) rfl
theorem mg_272 : Cond.instanceMethod yX4_lengthOf ∈ wAll := wA_g (wA_t2 (List.mem_of_getElem? (i := 32) rfl)) rfl
theorem mg_273 : Cond.selects RX4 yX4_lengthOf yX4_lengthOf ∈ wAll := wA_g (wA_t2 (List.mem_of_getElem? (i := 33) rfl)) rfl
theorem mg_274 : Cond.code yX4_lengthOf cX4_lengthOf 2 (Option.some FieldType.int) ∈ wAll := wA_g (wA_t2 (List.mem_of_getElem? (i := 34) rfl)) rfl
theorem mg_275 : Cond.methodLink RX6 78 yX4_beatOf ∈ wAll := wA_g (wA_t2 (List.mem_of_getElem? (i := 35) rfl)) rfl
theorem mg_276 : Cond.instanceMethod yX4_beatOf ∈ wAll := wA_g (wA_t2 (List.mem_of_getElem? (i := 36) rfl)) rfl
theorem mg_277 : Cond.selects RX4 yX4_beatOf yX4_beatOf ∈ wAll := wA_g (wA_t2 (List.mem_of_getElem? (i := 37) rfl)) rfl
theorem mg_278 : Cond.code yX4_beatOf cX4_beatOf 4 (Option.some FieldType.int) ∈ wAll := wA_g (wA_t2 (List.mem_of_getElem? (i := 38) rfl)) rfl
theorem mg_279 : Cond.methodLink RL 36 yX6_tap ∈ wAll := wA_g (wA_t2 (List.mem_of_getElem? (i := 39) rfl)) rfl
theorem mg_280 : Cond.instanceMethod yX6_tap ∈ wAll := wA_g (wA_t2 (List.mem_of_getElem? (i := 40) rfl)) rfl
theorem mg_281 : Cond.selects RX6 yX6_tap yX6_tap ∈ wAll := wA_g (wA_t2 (List.mem_of_getElem? (i := 41) rfl)) rfl
theorem mg_282 : Cond.code yX6_tap cX6_tap 3 (Option.some FieldType.int) ∈ wAll := wA_g (wA_t2 (List.mem_of_getElem? (i := 42) rfl)) rfl
theorem mg_283 : Cond.methodLink RX6 82 yX6_isKind ∈ wAll := wA_g (wA_t2 (List.mem_of_getElem? (i := 43) rfl)) rfl
theorem mg_284 : Cond.static yX6_isKind ∈ wAll := wA_g (wA_t2 (List.mem_of_getElem? (i := 44) rfl)) rfl
theorem mg_285 : Cond.code yX6_isKind cX6_isKind 1 (Option.some FieldType.boolean) ∈ wAll := wA_g (wA_t2 (List.mem_of_getElem? (i := 45) rfl)) rfl
theorem mg_286 : Cond.methodLink RL 40 yX6_about ∈ wAll := wA_g (wA_t2 (List.mem_of_getElem? (i := 46) rfl)) rfl
theorem mg_287 : Cond.instanceMethod yX6_about ∈ wAll := wA_g (wA_t2 (List.mem_of_getElem? (i := 47) rfl)) rfl
theorem mg_288 : Cond.selects RX6 yX6_about yX6_about ∈ wAll := wA_g (wA_t2 (List.mem_of_getElem? (i := 48) rfl)) rfl
theorem mg_289 : Cond.code yX6_about cX6_about 4 (Option.some FieldType.int) ∈ wAll := wA_g (wA_t2 (List.mem_of_getElem? (i := 49) rfl)) rfl
theorem mg_290 : Cond.methodLink RX6 89 yX3_tapAt ∈ wAll := wA_g (wA_t2 (List.mem_of_getElem? (i := 50) rfl)) rfl
theorem mg_291 : Cond.methodLink RX6 93 yX6_aboutOf ∈ wAll := wA_g (wA_t2 (List.mem_of_getElem? (i := 51) rfl)) rfl
theorem mg_293 : Cond.instanceMethod yX6_aboutOf ∈ wAll := wA_g (wA_t2 (List.mem_of_getElem? (i := 53) rfl)) rfl
theorem mg_294 : Cond.code yX6_aboutOf cX6_aboutOf 3 (Option.some FieldType.int) ∈ wAll := wA_g (wA_t2 (List.mem_of_getElem? (i := 54) rfl)) rfl
theorem mg_295 : Cond.methodLink RX6 166 yX6_sureOf ∈ wAll := wA_g (wA_t2 (List.mem_of_getElem? (i := 55) rfl)) rfl
theorem mg_297 : Cond.instanceMethod yX6_sureOf ∈ wAll := wA_g (wA_t2 (List.mem_of_getElem? (i := 57) rfl)) rfl
theorem mg_298 : Cond.code yX6_sureOf cX6_sureOf 6 (Option.some FieldType.int) ∈ wAll := wA_g (wA_t2 (List.mem_of_getElem? (i := 58) rfl)) rfl
theorem mg_299 : Cond.methodLink RX6 182 yX6_enoughToTell ∈ wAll := wA_g (wA_t2 (List.mem_of_getElem? (i := 59) rfl)) rfl
theorem mg_301 : Cond.instanceMethod yX6_enoughToTell ∈ wAll := wA_g (wA_t2 (List.mem_of_getElem? (i := 61) rfl)) rfl
theorem mg_302 : Cond.code yX6_enoughToTell cX6_enoughToTell 7 (Option.some FieldType.int) ∈ wAll := wA_g (wA_t2 (List.mem_of_getElem? (i := 62) rfl)) rfl
theorem mg_303 : Cond.methodLink RX6 162 yX4_dripBy ∈ wAll := wA_g (wA_t2 (List.mem_of_getElem? (i := 63) rfl)) rfl
theorem mg_304 : Cond.instanceMethod yX4_dripBy ∈ wAll := wA_g (wA_t2 (List.mem_of_getElem? (i := 64) rfl)) rfl
theorem mg_305 : Cond.selects RX4 yX4_dripBy yX4_dripBy ∈ wAll := wA_g (wA_t2 (List.mem_of_getElem? (i := 65) rfl)) rfl
theorem mg_306 : Cond.code yX4_dripBy cX4_dripBy 8 (Option.some FieldType.int) ∈ wAll := wA_g (wA_t2 (List.mem_of_getElem? (i := 66) rfl)) rfl
theorem mg_307 : Cond.methodLink RX4 18 yX4_lengthOf ∈ wAll := wA_g (wA_t2 (List.mem_of_getElem? (i := 67) rfl)) rfl
theorem mg_308 : Cond.methodLink RX4 22 yX4_beatOf ∈ wAll := wA_g (wA_t2 (List.mem_of_getElem? (i := 68) rfl)) rfl
theorem mg_309 : Cond.methodLink RX6 185 yJ9_max_7cf53 ∈ wAll := wA_g (wA_t2 (List.mem_of_getElem? (i := 69) rfl)) rfl
theorem mg_310 : Cond.static yJ9_max_7cf53 ∈ wAll := wA_g (wA_t2 (List.mem_of_getElem? (i := 70) rfl)) rfl
theorem mg_311 : Cond.code yJ9_max_7cf53 cJ9_max_7cf53 2 (Option.some FieldType.int) ∈ wAll := wA_g (wA_t2 (List.mem_of_getElem? (i := 71) rfl)) rfl
theorem mg_312 : Cond.methodLink RX6 170 yX6_saysOf ∈ wAll := wA_g (wA_t2 (List.mem_of_getElem? (i := 72) rfl)) rfl
theorem mg_314 : Cond.instanceMethod yX6_saysOf ∈ wAll := wA_g (wA_t2 (List.mem_of_getElem? (i := 74) rfl)) rfl
theorem mg_315 : Cond.code yX6_saysOf cX6_saysOf 4 (Option.some FieldType.int) ∈ wAll := wA_g (wA_t2 (List.mem_of_getElem? (i := 75) rfl)) rfl
theorem mg_316 : Cond.methodLink RX6 176 yX6_slipsOf ∈ wAll := wA_g (wA_t2 (List.mem_of_getElem? (i := 76) rfl)) rfl
theorem mg_318 : Cond.instanceMethod yX6_slipsOf ∈ wAll := wA_g (wA_t2 (List.mem_of_getElem? (i := 78) rfl)) rfl
theorem mg_319 : Cond.code yX6_slipsOf cX6_slipsOf 6 (Option.some FieldType.int) ∈ wAll := wA_g (wA_t2 (List.mem_of_getElem? (i := 79) rfl)) rfl
theorem mg_320 : Cond.methodLink RX6 190 yX3_noteAt ∈ wAll := wA_g (wA_t2 (List.mem_of_getElem? (i := 80) rfl)) rfl
theorem mg_321 : Cond.instanceMethod yX3_noteAt ∈ wAll := wA_g (wA_t2 (List.mem_of_getElem? (i := 81) rfl)) rfl
theorem mg_322 : Cond.selects RX3 yX3_noteAt yX3_noteAt ∈ wAll := wA_g (wA_t2 (List.mem_of_getElem? (i := 82) rfl)) rfl
theorem mg_323 : Cond.code yX3_noteAt cX3_noteAt 2 (Option.some (FieldType.object "DripSayings$Note")) ∈ wAll := wA_g (wA_t2 (List.mem_of_getElem? (i := 83) rfl)) rfl
theorem mg_324 : Cond.methodLink RX6 173 yX6_likelyOf ∈ wAll := wA_g (wA_t2 (List.mem_of_getElem? (i := 84) rfl)) rfl
theorem mg_326 : Cond.instanceMethod yX6_likelyOf ∈ wAll := wA_g (wA_t2 (List.mem_of_getElem? (i := 86) rfl)) rfl
theorem mg_327 : Cond.code yX6_likelyOf cX6_likelyOf 4 (Option.some FieldType.int) ∈ wAll := wA_g (wA_t2 (List.mem_of_getElem? (i := 87) rfl)) rfl
theorem mg_328 : Cond.methodLink RX6 179 yX6_bestToHear ∈ wAll := wA_g (wA_t2 (List.mem_of_getElem? (i := 88) rfl)) rfl
theorem mg_330 : Cond.instanceMethod yX6_bestToHear ∈ wAll := wA_g (wA_t2 (List.mem_of_getElem? (i := 90) rfl)) rfl
theorem mg_331 : Cond.code yX6_bestToHear cX6_bestToHear 5 (Option.some FieldType.int) ∈ wAll := wA_g (wA_t2 (List.mem_of_getElem? (i := 91) rfl)) rfl
theorem mg_332 : Cond.methodLink RX6 209 yX6_leftAtWorst ∈ wAll := wA_g (wA_t2 (List.mem_of_getElem? (i := 92) rfl)) rfl
theorem mg_334 : Cond.instanceMethod yX6_leftAtWorst ∈ wAll := wA_g (wA_t2 (List.mem_of_getElem? (i := 94) rfl)) rfl
theorem mg_335 : Cond.code yX6_leftAtWorst cX6_leftAtWorst 7 (Option.some FieldType.int) ∈ wAll := wA_g (wA_t2 (List.mem_of_getElem? (i := 95) rfl)) rfl
theorem mg_336 : Cond.methodLink RL 44 yX6_as ∈ wAll := wA_g (wA_t2 (List.mem_of_getElem? (i := 96) rfl)) rfl
theorem mg_337 : Cond.instanceMethod yX6_as ∈ wAll := wA_g (wA_t2 (List.mem_of_getElem? (i := 97) rfl)) rfl
theorem mg_338 : Cond.selects RX6 yX6_as yX6_as ∈ wAll := wA_g (wA_t2 (List.mem_of_getElem? (i := 98) rfl)) rfl
theorem mg_339 : Cond.code yX6_as cX6_as 5 (Option.some FieldType.int) ∈ wAll := wA_g (wA_t2 (List.mem_of_getElem? (i := 99) rfl)) rfl
theorem mg_340 : Cond.methodLink RL 48 yX6_drip ∈ wAll := wA_g (wA_t2 (List.mem_of_getElem? (i := 100) rfl)) rfl
theorem mg_341 : Cond.instanceMethod yX6_drip ∈ wAll := wA_g (wA_t2 (List.mem_of_getElem? (i := 101) rfl)) rfl
theorem mg_342 : Cond.selects RX6 yX6_drip yX6_drip ∈ wAll := wA_g (wA_t2 (List.mem_of_getElem? (i := 102) rfl)) rfl
theorem mg_343 : Cond.code yX6_drip cX6_drip 4 (Option.some FieldType.int) ∈ wAll := wA_g (wA_t2 (List.mem_of_getElem? (i := 103) rfl)) rfl
theorem mg_344 : Cond.methodLink RX6 102 yX6_dripOf ∈ wAll := wA_g (wA_t2 (List.mem_of_getElem? (i := 104) rfl)) rfl
theorem mg_346 : Cond.instanceMethod yX6_dripOf ∈ wAll := wA_g (wA_t2 (List.mem_of_getElem? (i := 106) rfl)) rfl
theorem mg_347 : Cond.code yX6_dripOf cX6_dripOf 3 (Option.some FieldType.int) ∈ wAll := wA_g (wA_t2 (List.mem_of_getElem? (i := 107) rfl)) rfl
theorem mg_348 : Cond.methodLink RL 52 yX6_listen ∈ wAll := wA_g (wA_t2 (List.mem_of_getElem? (i := 108) rfl)) rfl
theorem mg_349 : Cond.instanceMethod yX6_listen ∈ wAll := wA_g (wA_t2 (List.mem_of_getElem? (i := 109) rfl)) rfl
theorem mg_350 : Cond.selects RX6 yX6_listen yX6_listen ∈ wAll := wA_g (wA_t2 (List.mem_of_getElem? (i := 110) rfl)) rfl
theorem mg_351 : Cond.code yX6_listen cX6_listen 4 (Option.some FieldType.int) ∈ wAll := wA_g (wA_t2 (List.mem_of_getElem? (i := 111) rfl)) rfl
theorem mg_352 : Cond.methodLink RL 56 yX6_washer ∈ wAll := wA_g (wA_t2 (List.mem_of_getElem? (i := 112) rfl)) rfl
theorem mg_353 : Cond.instanceMethod yX6_washer ∈ wAll := wA_g (wA_t2 (List.mem_of_getElem? (i := 113) rfl)) rfl
theorem mg_354 : Cond.selects RX6 yX6_washer yX6_washer ∈ wAll := wA_g (wA_t2 (List.mem_of_getElem? (i := 114) rfl)) rfl
theorem mg_355 : Cond.code yX6_washer cX6_washer 5 (Option.some FieldType.int) ∈ wAll := wA_g (wA_t2 (List.mem_of_getElem? (i := 115) rfl)) rfl
theorem mg_356 : Cond.methodLink RL 61 yX6_teach ∈ wAll := wA_g (wA_t2 (List.mem_of_getElem? (i := 116) rfl)) rfl
theorem mg_357 : Cond.instanceMethod yX6_teach ∈ wAll := wA_g (wA_t2 (List.mem_of_getElem? (i := 117) rfl)) rfl
theorem mg_358 : Cond.selects RX6 yX6_teach yX6_teach ∈ wAll := wA_g (wA_t2 (List.mem_of_getElem? (i := 118) rfl)) rfl
theorem mg_359 : Cond.code yX6_teach cX6_teach 5 (Option.some FieldType.int) ∈ wAll := wA_g (wA_t2 (List.mem_of_getElem? (i := 119) rfl)) rfl
theorem mg_360 : Cond.methodLink RL 65 yX6_agree ∈ wAll := wA_g (wA_t2 (List.mem_of_getElem? (i := 120) rfl)) rfl
theorem mg_361 : Cond.instanceMethod yX6_agree ∈ wAll := wA_g (wA_t2 (List.mem_of_getElem? (i := 121) rfl)) rfl
theorem mg_362 : Cond.selects RX6 yX6_agree yX6_agree ∈ wAll := wA_g (wA_t2 (List.mem_of_getElem? (i := 122) rfl)) rfl
theorem mg_363 : Cond.code yX6_agree cX6_agree 7 (Option.some FieldType.int) ∈ wAll := wA_g (wA_t2 (List.mem_of_getElem? (i := 123) rfl)) rfl
theorem mg_364 : Cond.methodLink RL 69 yX6_near ∈ wAll := wA_g (wA_t2 (List.mem_of_getElem? (i := 124) rfl)) rfl
theorem mg_365 : Cond.instanceMethod yX6_near ∈ wAll := wA_g (wA_t2 (List.mem_of_getElem? (i := 125) rfl)) rfl
theorem mg_366 : Cond.selects RX6 yX6_near yX6_near ∈ wAll := wA_g (wA_t2 (List.mem_of_getElem? (i := 126) rfl)) rfl
theorem mg_367 : Cond.code yX6_near cX6_near 5 (Option.some FieldType.int) ∈ wAll := wA_g (wA_t2 (List.mem_of_getElem? (i := 127) rfl)) rfl
theorem mg_368 : Cond.methodLink RX6 117 yX6_nearOf ∈ wAll := wA_g (wA_t2 (List.mem_of_getElem? (i := 128) rfl)) rfl
theorem mg_370 : Cond.instanceMethod yX6_nearOf ∈ wAll := wA_g (wA_t2 (List.mem_of_getElem? (i := 130) rfl)) rfl
theorem mg_371 : Cond.code yX6_nearOf cX6_nearOf 6 (Option.some FieldType.int) ∈ wAll := wA_g (wA_t2 (List.mem_of_getElem? (i := 131) rfl)) rfl
theorem mg_372 : Cond.methodLink RX6 212 yX6_unlikeOf ∈ wAll := wA_g (wA_t2 (List.mem_of_getElem? (i := 132) rfl)) rfl
theorem mg_374 : Cond.instanceMethod yX6_unlikeOf ∈ wAll := wA_g (wA_t2 (List.mem_of_getElem? (i := 134) rfl)) rfl
theorem mg_375 : Cond.code yX6_unlikeOf cX6_unlikeOf 7 (Option.some FieldType.int) ∈ wAll := wA_g (wA_t2 (List.mem_of_getElem? (i := 135) rfl)) rfl
theorem mg_376 : Cond.methodLink RX6 215 yJ9_min_7cf53 ∈ wAll := wA_g (wA_t2 (List.mem_of_getElem? (i := 136) rfl)) rfl
theorem mg_377 : Cond.static yJ9_min_7cf53 ∈ wAll := wA_g (wA_t2 (List.mem_of_getElem? (i := 137) rfl)) rfl
theorem mg_378 : Cond.code yJ9_min_7cf53 cJ9_min_7cf53 2 (Option.some FieldType.int) ∈ wAll := wA_g (wA_t2 (List.mem_of_getElem? (i := 138) rfl)) rfl
theorem mg_379 : Cond.methodLink RL 74 yX6_put ∈ wAll := wA_g (wA_t2 (List.mem_of_getElem? (i := 139) rfl)) rfl
theorem mg_380 : Cond.instanceMethod yX6_put ∈ wAll := wA_g (wA_t2 (List.mem_of_getElem? (i := 140) rfl)) rfl
theorem mg_381 : Cond.selects RX6 yX6_put yX6_put ∈ wAll := wA_g (wA_t2 (List.mem_of_getElem? (i := 141) rfl)) rfl
theorem mg_382 : Cond.code yX6_put cX6_put 5 (Option.some FieldType.int) ∈ wAll := wA_g (wA_t2 (List.mem_of_getElem? (i := 142) rfl)) rfl
theorem mg_383 : Cond.methodLink RX6 124 yX3_addNote ∈ wAll := wA_g (wA_t2 (List.mem_of_getElem? (i := 143) rfl)) rfl
theorem mg_384 : Cond.instanceMethod yX3_addNote ∈ wAll := wA_g (wA_t2 (List.mem_of_getElem? (i := 144) rfl)) rfl
theorem mg_385 : Cond.selects RX3 yX3_addNote yX3_addNote ∈ wAll := wA_g (wA_t2 (List.mem_of_getElem? (i := 145) rfl)) rfl
theorem mg_386 : Cond.code yX3_addNote cX3_addNote 5 (Option.none : Option FieldType) ∈ wAll := wA_g (wA_t2 (List.mem_of_getElem? (i := 146) rfl)) rfl
theorem mg_387 : Cond.methodLink RX3 45 yX3_noteAt ∈ wAll := wA_g (wA_t2 (List.mem_of_getElem? (i := 147) rfl)) rfl
theorem mg_388 : Cond.methodLink RX3 55 yX0_become ∈ wAll := wA_g (wA_t2 (List.mem_of_getElem? (i := 148) rfl)) rfl
theorem mg_389 : Cond.instanceMethod yX0_become ∈ wAll := wA_g (wA_t2 (List.mem_of_getElem? (i := 149) rfl)) rfl
theorem mg_390 : Cond.selects RX0 yX0_become yX0_become ∈ wAll := wA_g (wA_t2 (List.mem_of_getElem? (i := 150) rfl)) rfl
theorem mg_391 : Cond.code yX0_become cX0_become 5 (Option.none : Option FieldType) ∈ wAll := wA_g (wA_t2 (List.mem_of_getElem? (i := 151) rfl)) rfl
theorem mg_392 : Cond.methodLink RL 79 yX6_forget ∈ wAll := wA_g (wA_t2 (List.mem_of_getElem? (i := 152) rfl)) rfl
theorem mg_393 : Cond.instanceMethod yX6_forget ∈ wAll := wA_g (wA_t2 (List.mem_of_getElem? (i := 153) rfl)) rfl
theorem mg_394 : Cond.selects RX6 yX6_forget yX6_forget ∈ wAll := wA_g (wA_t2 (List.mem_of_getElem? (i := 154) rfl)) rfl
theorem mg_395 : Cond.code yX6_forget cX6_forget 2 (Option.some FieldType.int) ∈ wAll := wA_g (wA_t2 (List.mem_of_getElem? (i := 155) rfl)) rfl
theorem mg_396 : Cond.methodLink RL 83 yX6_nights ∈ wAll := wA_g (wA_t2 (List.mem_of_getElem? (i := 156) rfl)) rfl
theorem mg_397 : Cond.instanceMethod yX6_nights ∈ wAll := wA_g (wA_t2 (List.mem_of_getElem? (i := 157) rfl)) rfl
theorem mg_398 : Cond.selects RX6 yX6_nights yX6_nights ∈ wAll := wA_g (wA_t2 (List.mem_of_getElem? (i := 158) rfl)) rfl
theorem mg_399 : Cond.code yX6_nights cX6_nights 11 (Option.some FieldType.int) ∈ wAll := wA_g (wA_t2 (List.mem_of_getElem? (i := 159) rfl)) rfl
theorem mg_400 : Cond.methodLink RX6 128 yX6_nextSeed ∈ wAll := wA_g (wA_t2 (List.mem_of_getElem? (i := 160) rfl)) rfl
theorem mg_401 : Cond.static yX6_nextSeed ∈ wAll := wA_g (wA_t2 (List.mem_of_getElem? (i := 161) rfl)) rfl
theorem mg_402 : Cond.code yX6_nextSeed cX6_nextSeed 1 (Option.some FieldType.int) ∈ wAll := wA_g (wA_t2 (List.mem_of_getElem? (i := 162) rfl)) rfl
theorem mg_403 : Cond.constantLong RX6 218 (1103515245 : Int64) ∈ wAll := wA_g (wA_t2 (List.mem_of_getElem? (i := 163) rfl)) rfl
theorem mg_404 : Cond.constantLong RX6 220 (12345 : Int64) ∈ wAll := wA_g (wA_t2 (List.mem_of_getElem? (i := 164) rfl)) rfl
theorem mg_405 : Cond.constantLong RX6 222 (2147483648 : Int64) ∈ wAll := wA_g (wA_t2 (List.mem_of_getElem? (i := 165) rfl)) rfl
theorem mg_406 : Cond.methodLink RX6 131 yX6_drawOf ∈ wAll := wA_g (wA_t2 (List.mem_of_getElem? (i := 166) rfl)) rfl
theorem mg_407 : Cond.static yX6_drawOf ∈ wAll := wA_g (wA_t2 (List.mem_of_getElem? (i := 167) rfl)) rfl
theorem mg_408 : Cond.code yX6_drawOf cX6_drawOf 1 (Option.some FieldType.int) ∈ wAll := wA_g (wA_t2 (List.mem_of_getElem? (i := 168) rfl)) rfl
theorem mg_409 : Cond.constant RX6 224 (65536 : Int32) ∈ wAll := wA_g (wA_t2 (List.mem_of_getElem? (i := 169) rfl)) rfl
theorem mg_410 : Cond.methodLink RL 87 yX6_image ∈ wAll := wA_g (wA_t2 (List.mem_of_getElem? (i := 170) rfl)) rfl
theorem mg_411 : Cond.instanceMethod yX6_image ∈ wAll := wA_g (wA_t2 (List.mem_of_getElem? (i := 171) rfl)) rfl
theorem mg_412 : Cond.selects RX6 yX6_image yX6_image ∈ wAll := wA_g (wA_t2 (List.mem_of_getElem? (i := 172) rfl)) rfl
theorem mg_413 : Cond.code yX6_image cX6_image 1 (Option.some FieldType.int) ∈ wAll := wA_g (wA_t2 (List.mem_of_getElem? (i := 173) rfl)) rfl
theorem mg_414 : Cond.methodLink RX6 134 yX3_copyFrom ∈ wAll := wA_g (wA_t2 (List.mem_of_getElem? (i := 174) rfl)) rfl
theorem mg_415 : Cond.instanceMethod yX3_copyFrom ∈ wAll := wA_g (wA_t2 (List.mem_of_getElem? (i := 175) rfl)) rfl
theorem mg_416 : Cond.selects RX3 yX3_copyFrom yX3_copyFrom ∈ wAll := wA_g (wA_t2 (List.mem_of_getElem? (i := 176) rfl)) rfl
theorem mg_417 : Cond.code yX3_copyFrom cX3_copyFrom 5 (Option.none : Option FieldType) ∈ wAll := wA_g (wA_t2 (List.mem_of_getElem? (i := 177) rfl)) rfl
theorem mg_418 : Cond.methodLink RL 91 yX6_restore ∈ wAll := wA_g (wA_t2 (List.mem_of_getElem? (i := 178) rfl)) rfl
theorem mg_419 : Cond.instanceMethod yX6_restore ∈ wAll := wA_g (wA_t2 (List.mem_of_getElem? (i := 179) rfl)) rfl
theorem mg_420 : Cond.selects RX6 yX6_restore yX6_restore ∈ wAll := wA_g (wA_t2 (List.mem_of_getElem? (i := 180) rfl)) rfl
theorem mg_421 : Cond.code yX6_restore cX6_restore 1 (Option.some FieldType.int) ∈ wAll := wA_g (wA_t2 (List.mem_of_getElem? (i := 181) rfl)) rfl
theorem mg_422 : Cond.methodLink RL 95 yX6_count ∈ wAll := wA_g (wA_t2 (List.mem_of_getElem? (i := 182) rfl)) rfl
theorem mg_423 : Cond.instanceMethod yX6_count ∈ wAll := wA_g (wA_t2 (List.mem_of_getElem? (i := 183) rfl)) rfl
theorem mg_424 : Cond.selects RX6 yX6_count yX6_count ∈ wAll := wA_g (wA_t2 (List.mem_of_getElem? (i := 184) rfl)) rfl
theorem mg_425 : Cond.code yX6_count cX6_count 2 (Option.some FieldType.int) ∈ wAll := wA_g (wA_t2 (List.mem_of_getElem? (i := 185) rfl)) rfl
theorem mg_426 : Cond.methodLink RX6 138 yX6_countOf ∈ wAll := wA_g (wA_t2 (List.mem_of_getElem? (i := 186) rfl)) rfl
theorem mg_428 : Cond.instanceMethod yX6_countOf ∈ wAll := wA_g (wA_t2 (List.mem_of_getElem? (i := 188) rfl)) rfl
theorem mg_429 : Cond.code yX6_countOf cX6_countOf 2 (Option.some FieldType.int) ∈ wAll := wA_g (wA_t2 (List.mem_of_getElem? (i := 189) rfl)) rfl
theorem mg_430 : Cond.methodLink RX6 225 yX4_beatCount ∈ wAll := wA_g (wA_t2 (List.mem_of_getElem? (i := 190) rfl)) rfl
theorem mg_431 : Cond.instanceMethod yX4_beatCount ∈ wAll := wA_g (wA_t2 (List.mem_of_getElem? (i := 191) rfl)) rfl
theorem mg_432 : Cond.selects RX4 yX4_beatCount yX4_beatCount ∈ wAll := wA_g (wA_t2 (List.mem_of_getElem? (i := 192) rfl)) rfl
theorem mg_433 : Cond.code yX4_beatCount cX4_beatCount 3 (Option.some FieldType.int) ∈ wAll := wA_g (wA_t2 (List.mem_of_getElem? (i := 193) rfl)) rfl
theorem mg_434 : Cond.methodLink RX6 228 yX3_washerCount ∈ wAll := wA_g (wA_t2 (List.mem_of_getElem? (i := 194) rfl)) rfl
theorem mg_435 : Cond.instanceMethod yX3_washerCount ∈ wAll := wA_g (wA_t2 (List.mem_of_getElem? (i := 195) rfl)) rfl
theorem mg_436 : Cond.selects RX3 yX3_washerCount yX3_washerCount ∈ wAll := wA_g (wA_t2 (List.mem_of_getElem? (i := 196) rfl)) rfl
theorem mg_437 : Cond.code yX3_washerCount cX3_washerCount 4 (Option.some FieldType.int) ∈ wAll := wA_g (wA_t2 (List.mem_of_getElem? (i := 197) rfl)) rfl
theorem mg_438 : Cond.methodLink RX6 231 yX3_heardCount ∈ wAll := wA_g (wA_t2 (List.mem_of_getElem? (i := 198) rfl)) rfl
theorem mg_439 : Cond.instanceMethod yX3_heardCount ∈ wAll := wA_g (wA_t2 (List.mem_of_getElem? (i := 199) rfl)) rfl
theorem mg_440 : Cond.selects RX3 yX3_heardCount yX3_heardCount ∈ wAll := wA_g (wA_t2 (List.mem_of_getElem? (i := 200) rfl)) rfl
theorem mg_441 : Cond.code yX3_heardCount cX3_heardCount 4 (Option.some FieldType.int) ∈ wAll := wA_g (wA_t2 (List.mem_of_getElem? (i := 201) rfl)) rfl
theorem mg_442 : Cond.methodLink RL 99 yX6_digest ∈ wAll := wA_g (wA_t2 (List.mem_of_getElem? (i := 202) rfl)) rfl
theorem mg_443 : Cond.instanceMethod yX6_digest ∈ wAll := wA_g (wA_t2 (List.mem_of_getElem? (i := 203) rfl)) rfl
theorem mg_444 : Cond.selects RX6 yX6_digest yX6_digest ∈ wAll := wA_g (wA_t2 (List.mem_of_getElem? (i := 204) rfl)) rfl
theorem mg_445 : Cond.code yX6_digest cX6_digest 5 (Option.some FieldType.long) ∈ wAll := wA_g (wA_t2 (List.mem_of_getElem? (i := 205) rfl)) rfl
theorem mg_446 : Cond.constantLong RX6 141 (1061 : Int64) ∈ wAll := wA_g (wA_t2 (List.mem_of_getElem? (i := 206) rfl)) rfl
theorem mg_447 : Cond.methodLink RX6 143 yX6_digestSayings ∈ wAll := wA_g (wA_t2 (List.mem_of_getElem? (i := 207) rfl)) rfl
theorem mg_449 : Cond.instanceMethod yX6_digestSayings ∈ wAll := wA_g (wA_t2 (List.mem_of_getElem? (i := 209) rfl)) rfl
theorem mg_450 : Cond.code yX6_digestSayings cX6_digestSayings 7 (Option.some FieldType.long) ∈ wAll := wA_g (wA_t2 (List.mem_of_getElem? (i := 210) rfl)) rfl
theorem mg_451 : Cond.constantLong RX6 151 (31 : Int64) ∈ wAll := wA_g (wA_t2 (List.mem_of_getElem? (i := 211) rfl)) rfl
theorem mg_452 : Cond.methodLink RX6 147 yX6_digestTap ∈ wAll := wA_g (wA_t2 (List.mem_of_getElem? (i := 212) rfl)) rfl
theorem mg_454 : Cond.instanceMethod yX6_digestTap ∈ wAll := wA_g (wA_t2 (List.mem_of_getElem? (i := 214) rfl)) rfl
theorem mg_455 : Cond.code yX6_digestTap cX6_digestTap 8 (Option.some FieldType.long) ∈ wAll := wA_g (wA_t2 (List.mem_of_getElem? (i := 215) rfl)) rfl
theorem mg_456 : Cond.classLink RL 10 RX7 ∈ wAll := wA_g (wA_t2 (List.mem_of_getElem? (i := 216) rfl)) rfl
theorem mg_457 : Cond.instantiable RX7 22 ∈ wAll := wA_g (wA_t2 (List.mem_of_getElem? (i := 217) rfl)) rfl
theorem mg_458 : Cond.methodLink RL 12 yX7_init ∈ wAll := wA_g (wA_t2 (List.mem_of_getElem? (i := 218) rfl)) rfl
theorem mg_459 : Cond.instanceMethod yX7_init ∈ wAll := wA_g (wA_t2 (List.mem_of_getElem? (i := 219) rfl)) rfl
theorem mg_460 : Cond.code yX7_init cX7_init 1 (Option.none : Option FieldType) ∈ wAll := wA_g (wA_t2 (List.mem_of_getElem? (i := 220) rfl)) rfl
theorem mg_461 : Cond.methodLink RX7 1 objectInit ∈ wAll := wA_g (wA_t2 (List.mem_of_getElem? (i := 221) rfl)) rfl
theorem mg_462 : Cond.fieldLink RX7 7 "DripSayingsModel" "page" "[I" ∈ wAll := wA_g (wA_t2 (List.mem_of_getElem? (i := 222) rfl)) rfl
theorem mg_463 : Cond.fieldLink RX7 44 "DripSayingsModel" "pageMany" "I" ∈ wAll := wA_g (wA_t2 (List.mem_of_getElem? (i := 223) rfl)) rfl
theorem mg_464 : Cond.fieldLink RX7 47 "DripSayingsModel" "part" "I" ∈ wAll := wA_g (wA_t2 (List.mem_of_getElem? (i := 224) rfl)) rfl
theorem mg_465 : Cond.fieldLink RX7 13 "DripSayingsModel" "readBeats" "[I" ∈ wAll := wA_g (wA_t2 (List.mem_of_getElem? (i := 225) rfl)) rfl
theorem mg_466 : Cond.fieldLink RX7 16 "DripSayingsModel" "readTaps" "[I" ∈ wAll := wA_g (wA_t2 (List.mem_of_getElem? (i := 226) rfl)) rfl
theorem mg_467 : Cond.fieldLink RX7 53 "DripSayingsModel" "readMany" "I" ∈ wAll := wA_g (wA_t2 (List.mem_of_getElem? (i := 227) rfl)) rfl
theorem mg_468 : Cond.fieldLink RX7 50 "DripSayingsModel" "step" "I" ∈ wAll := wA_g (wA_t2 (List.mem_of_getElem? (i := 228) rfl)) rfl
theorem mg_469 : Cond.fieldLink RX7 75 "DripSayingsModel" "taps" "I" ∈ wAll := wA_g (wA_t2 (List.mem_of_getElem? (i := 229) rfl)) rfl
theorem mg_470 : Cond.fieldLink RX7 82 "DripSayingsModel" "changes" "I" ∈ wAll := wA_g (wA_t2 (List.mem_of_getElem? (i := 230) rfl)) rfl
theorem mg_471 : Cond.fieldLink RX7 88 "DripSayingsModel" "housesRead" "I" ∈ wAll := wA_g (wA_t2 (List.mem_of_getElem? (i := 231) rfl)) rfl
theorem mg_472 : Cond.fieldLink RX7 19 "DripSayingsModel" "beats" "[I" ∈ wAll := wA_g (wA_t2 (List.mem_of_getElem? (i := 232) rfl)) rfl
theorem mg_473 : Cond.fieldLink RX7 22 "DripSayingsModel" "rows" "[I" ∈ wAll := wA_g (wA_t2 (List.mem_of_getElem? (i := 233) rfl)) rfl
theorem mg_474 : Cond.fieldLink RX7 85 "DripSayingsModel" "putMany" "I" ∈ wAll := wA_g (wA_t2 (List.mem_of_getElem? (i := 234) rfl)) rfl
theorem mg_475 : Cond.fieldLink RX7 25 "DripSayingsModel" "puts" "[I" ∈ wAll := wA_g (wA_t2 (List.mem_of_getElem? (i := 235) rfl)) rfl
theorem mg_476 : Cond.fieldLink RX7 160 "DripSayingsModel" "seedNow" "I" ∈ wAll := wA_g (wA_t2 (List.mem_of_getElem? (i := 236) rfl)) rfl
theorem mg_477 : Cond.fieldLink RX7 34 "DripSayingsModel" "keptHouse" "I" ∈ wAll := wA_g (wA_t2 (List.mem_of_getElem? (i := 237) rfl)) rfl
theorem mg_478 : Cond.fieldLink RX7 175 "DripSayingsModel" "keptTaps" "I" ∈ wAll := wA_g (wA_t2 (List.mem_of_getElem? (i := 238) rfl)) rfl
theorem mg_479 : Cond.fieldLink RX7 178 "DripSayingsModel" "keptChanges" "I" ∈ wAll := wA_g (wA_t2 (List.mem_of_getElem? (i := 239) rfl)) rfl
theorem mg_480 : Cond.fieldLink RX7 181 "DripSayingsModel" "keptPuts" "I" ∈ wAll := wA_g (wA_t3 (List.mem_of_getElem? (i := 0) rfl)) rfl
theorem mg_481 : Cond.fieldLink RX7 28 "DripSayingsModel" "keptRows" "[I" ∈ wAll := wA_g (wA_t3 (List.mem_of_getElem? (i := 1) rfl)) rfl
theorem mg_482 : Cond.fieldLink RX7 31 "DripSayingsModel" "keptPutRows" "[I" ∈ wAll := wA_g (wA_t3 (List.mem_of_getElem? (i := 2) rfl)) rfl
theorem mg_483 : Cond.fieldLink RX7 195 "DripSayingsModel" "hash" "J" ∈ wAll := wA_g (wA_t3 (List.mem_of_getElem? (i := 3) rfl)) rfl
theorem mg_484 : Cond.laysFinal RX7 "DripSayingsModel" "page" "[I" ∈ wAll := wA_g (wA_t3 (List.mem_of_getElem? (i := 4) rfl)) rfl
theorem mg_486 : Cond.lays RX7 "DripSayingsModel" "pageMany" "I" ∈ wAll := wA_g (wA_t3 (List.mem_of_getElem? (i := 6) rfl)) rfl
theorem mg_488 : Cond.lays RX7 "DripSayingsModel" "part" "I" ∈ wAll := wA_g (wA_t3 (List.mem_of_getElem? (i := 8) rfl)) rfl
theorem mg_490 : Cond.laysFinal RX7 "DripSayingsModel" "readBeats" "[I" ∈ wAll := wA_g (wA_t3 (List.mem_of_getElem? (i := 10) rfl)) rfl
theorem mg_492 : Cond.laysFinal RX7 "DripSayingsModel" "readTaps" "[I" ∈ wAll := wA_g (wA_t3 (List.mem_of_getElem? (i := 12) rfl)) rfl
theorem mg_494 : Cond.lays RX7 "DripSayingsModel" "readMany" "I" ∈ wAll := wA_g (wA_t3 (List.mem_of_getElem? (i := 14) rfl)) rfl
theorem mg_496 : Cond.lays RX7 "DripSayingsModel" "step" "I" ∈ wAll := wA_g (wA_t3 (List.mem_of_getElem? (i := 16) rfl)) rfl
theorem mg_498 : Cond.lays RX7 "DripSayingsModel" "taps" "I" ∈ wAll := wA_g (wA_t3 (List.mem_of_getElem? (i := 18) rfl)) rfl
theorem mg_500 : Cond.lays RX7 "DripSayingsModel" "changes" "I" ∈ wAll := wA_g (wA_t3 (List.mem_of_getElem? (i := 20) rfl)) rfl
theorem mg_502 : Cond.lays RX7 "DripSayingsModel" "housesRead" "I" ∈ wAll := wA_g (wA_t3 (List.mem_of_getElem? (i := 22) rfl)) rfl
theorem mg_504 : Cond.laysFinal RX7 "DripSayingsModel" "beats" "[I" ∈ wAll := wA_g (wA_t3 (List.mem_of_getElem? (i := 24) rfl)) rfl
theorem mg_506 : Cond.laysFinal RX7 "DripSayingsModel" "rows" "[I" ∈ wAll := wA_g (wA_t3 (List.mem_of_getElem? (i := 26) rfl)) rfl
theorem mg_508 : Cond.lays RX7 "DripSayingsModel" "putMany" "I" ∈ wAll := wA_g (wA_t3 (List.mem_of_getElem? (i := 28) rfl)) rfl
theorem mg_510 : Cond.laysFinal RX7 "DripSayingsModel" "puts" "[I" ∈ wAll := wA_g (wA_t3 (List.mem_of_getElem? (i := 30) rfl)) rfl
theorem mg_512 : Cond.lays RX7 "DripSayingsModel" "seedNow" "I" ∈ wAll := wA_g (wA_t3 (List.mem_of_getElem? (i := 32) rfl)) rfl
theorem mg_514 : Cond.lays RX7 "DripSayingsModel" "keptHouse" "I" ∈ wAll := wA_g (wA_t3 (List.mem_of_getElem? (i := 34) rfl)) rfl
theorem mg_516 : Cond.lays RX7 "DripSayingsModel" "keptTaps" "I" ∈ wAll := wA_g (wA_t3 (List.mem_of_getElem? (i := 36) rfl)) rfl
theorem mg_518 : Cond.lays RX7 "DripSayingsModel" "keptChanges" "I" ∈ wAll := wA_g (wA_t3 (List.mem_of_getElem? (i := 38) rfl)) rfl
theorem mg_520 : Cond.lays RX7 "DripSayingsModel" "keptPuts" "I" ∈ wAll := wA_g (wA_t3 (List.mem_of_getElem? (i := 40) rfl)) rfl
theorem mg_522 : Cond.laysFinal RX7 "DripSayingsModel" "keptRows" "[I" ∈ wAll := wA_g (wA_t3 (List.mem_of_getElem? (i := 42) rfl)) rfl
theorem mg_524 : Cond.laysFinal RX7 "DripSayingsModel" "keptPutRows" "[I" ∈ wAll := wA_g (wA_t3 (List.mem_of_getElem? (i := 44) rfl)) rfl
theorem mg_526 : Cond.lays RX7 "DripSayingsModel" "hash" "J" ∈ wAll := wA_g (wA_t3 (List.mem_of_getElem? (i := 46) rfl)) rfl
theorem mg_529 : Cond.methodLink RL 17 yX7_letter ∈ wAll := wA_g (wA_t3 (List.mem_of_getElem? (i := 49) rfl)) rfl
theorem mg_530 : Cond.instanceMethod yX7_letter ∈ wAll := wA_g (wA_t3 (List.mem_of_getElem? (i := 50) rfl)) rfl
theorem mg_531 : Cond.selects RX7 yX7_letter yX7_letter ∈ wAll := wA_g (wA_t3 (List.mem_of_getElem? (i := 51) rfl)) rfl
theorem mg_532 : Cond.code yX7_letter cX7_letter 2 (Option.some FieldType.int) ∈ wAll := wA_g (wA_t3 (List.mem_of_getElem? (i := 52) rfl)) rfl
theorem mg_533 : Cond.constantLong RX7 38 (126 : Int64) ∈ wAll := wA_g (wA_t3 (List.mem_of_getElem? (i := 53) rfl)) rfl
theorem mg_534 : Cond.methodLink RX7 40 yX7_in ∈ wAll := wA_g (wA_t3 (List.mem_of_getElem? (i := 54) rfl)) rfl
theorem mg_535 : Cond.static yX7_in ∈ wAll := wA_g (wA_t3 (List.mem_of_getElem? (i := 55) rfl)) rfl
theorem mg_536 : Cond.code yX7_in cX7_in 6 (Option.some FieldType.boolean) ∈ wAll := wA_g (wA_t3 (List.mem_of_getElem? (i := 56) rfl)) rfl
theorem mg_537 : Cond.methodLink RL 22 yX7_blank ∈ wAll := wA_g (wA_t3 (List.mem_of_getElem? (i := 57) rfl)) rfl
theorem mg_538 : Cond.instanceMethod yX7_blank ∈ wAll := wA_g (wA_t3 (List.mem_of_getElem? (i := 58) rfl)) rfl
theorem mg_539 : Cond.selects RX7 yX7_blank yX7_blank ∈ wAll := wA_g (wA_t3 (List.mem_of_getElem? (i := 59) rfl)) rfl
theorem mg_540 : Cond.code yX7_blank cX7_blank 2 (Option.some FieldType.int) ∈ wAll := wA_g (wA_t3 (List.mem_of_getElem? (i := 60) rfl)) rfl
theorem mg_541 : Cond.methodLink RL 26 yX7_fault ∈ wAll := wA_g (wA_t3 (List.mem_of_getElem? (i := 61) rfl)) rfl
theorem mg_542 : Cond.instanceMethod yX7_fault ∈ wAll := wA_g (wA_t3 (List.mem_of_getElem? (i := 62) rfl)) rfl
theorem mg_543 : Cond.selects RX7 yX7_fault yX7_fault ∈ wAll := wA_g (wA_t3 (List.mem_of_getElem? (i := 63) rfl)) rfl
theorem mg_544 : Cond.code yX7_fault cX7_fault 1 (Option.some FieldType.int) ∈ wAll := wA_g (wA_t3 (List.mem_of_getElem? (i := 64) rfl)) rfl
theorem mg_545 : Cond.methodLink RX7 71 yX7_faultOf ∈ wAll := wA_g (wA_t3 (List.mem_of_getElem? (i := 65) rfl)) rfl
theorem mg_547 : Cond.instanceMethod yX7_faultOf ∈ wAll := wA_g (wA_t3 (List.mem_of_getElem? (i := 67) rfl)) rfl
theorem mg_548 : Cond.code yX7_faultOf cX7_faultOf 2 (Option.some FieldType.int) ∈ wAll := wA_g (wA_t3 (List.mem_of_getElem? (i := 68) rfl)) rfl
theorem mg_549 : Cond.methodLink RX7 64 yX7_goSaying ∈ wAll := wA_g (wA_t3 (List.mem_of_getElem? (i := 69) rfl)) rfl
theorem mg_551 : Cond.instanceMethod yX7_goSaying ∈ wAll := wA_g (wA_t3 (List.mem_of_getElem? (i := 71) rfl)) rfl
theorem mg_552 : Cond.code yX7_goSaying cX7_goSaying 4 (Option.some FieldType.boolean) ∈ wAll := wA_g (wA_t3 (List.mem_of_getElem? (i := 72) rfl)) rfl
theorem mg_553 : Cond.methodLink RX7 68 yX7_goTap ∈ wAll := wA_g (wA_t3 (List.mem_of_getElem? (i := 73) rfl)) rfl
theorem mg_555 : Cond.instanceMethod yX7_goTap ∈ wAll := wA_g (wA_t3 (List.mem_of_getElem? (i := 75) rfl)) rfl
theorem mg_556 : Cond.code yX7_goTap cX7_goTap 3 (Option.some FieldType.boolean) ∈ wAll := wA_g (wA_t3 (List.mem_of_getElem? (i := 76) rfl)) rfl
theorem mg_557 : Cond.methodLink RX7 56 yX7_kindBy ∈ wAll := wA_g (wA_t3 (List.mem_of_getElem? (i := 77) rfl)) rfl
theorem mg_558 : Cond.static yX7_kindBy ∈ wAll := wA_g (wA_t3 (List.mem_of_getElem? (i := 78) rfl)) rfl
theorem mg_559 : Cond.code yX7_kindBy cX7_kindBy 1 (Option.some FieldType.int) ∈ wAll := wA_g (wA_t3 (List.mem_of_getElem? (i := 79) rfl)) rfl
theorem mg_560 : Cond.constantLong RX7 60 (48 : Int64) ∈ wAll := wA_g (wA_t3 (List.mem_of_getElem? (i := 80) rfl)) rfl
theorem mg_561 : Cond.constantLong RX7 62 (51 : Int64) ∈ wAll := wA_g (wA_t3 (List.mem_of_getElem? (i := 81) rfl)) rfl
theorem mg_562 : Cond.methodLink RL 30 yX7_house ∈ wAll := wA_g (wA_t3 (List.mem_of_getElem? (i := 82) rfl)) rfl
theorem mg_563 : Cond.instanceMethod yX7_house ∈ wAll := wA_g (wA_t3 (List.mem_of_getElem? (i := 83) rfl)) rfl
theorem mg_564 : Cond.selects RX7 yX7_house yX7_house ∈ wAll := wA_g (wA_t3 (List.mem_of_getElem? (i := 84) rfl)) rfl
theorem mg_565 : Cond.code yX7_house cX7_house 2 (Option.some FieldType.int) ∈ wAll := wA_g (wA_t3 (List.mem_of_getElem? (i := 85) rfl)) rfl
theorem mg_566 : Cond.methodLink RX7 78 yX7_copy ∈ wAll := wA_g (wA_t3 (List.mem_of_getElem? (i := 86) rfl)) rfl
theorem mg_567 : Cond.static yX7_copy ∈ wAll := wA_g (wA_t3 (List.mem_of_getElem? (i := 87) rfl)) rfl
theorem mg_568 : Cond.code yX7_copy cX7_copy 3 (Option.none : Option FieldType) ∈ wAll := wA_g (wA_t3 (List.mem_of_getElem? (i := 88) rfl)) rfl
theorem mg_569 : Cond.methodLink RL 35 yX7_saying ∈ wAll := wA_g (wA_t3 (List.mem_of_getElem? (i := 89) rfl)) rfl
theorem mg_570 : Cond.instanceMethod yX7_saying ∈ wAll := wA_g (wA_t3 (List.mem_of_getElem? (i := 90) rfl)) rfl
theorem mg_571 : Cond.selects RX7 yX7_saying yX7_saying ∈ wAll := wA_g (wA_t3 (List.mem_of_getElem? (i := 91) rfl)) rfl
theorem mg_572 : Cond.code yX7_saying cX7_saying 3 (Option.some FieldType.int) ∈ wAll := wA_g (wA_t3 (List.mem_of_getElem? (i := 92) rfl)) rfl
theorem mg_573 : Cond.methodLink RX7 97 yX7_lacks ∈ wAll := wA_g (wA_t3 (List.mem_of_getElem? (i := 93) rfl)) rfl
theorem mg_575 : Cond.instanceMethod yX7_lacks ∈ wAll := wA_g (wA_t3 (List.mem_of_getElem? (i := 95) rfl)) rfl
theorem mg_576 : Cond.code yX7_lacks cX7_lacks 1 (Option.some FieldType.boolean) ∈ wAll := wA_g (wA_t3 (List.mem_of_getElem? (i := 96) rfl)) rfl
theorem mg_577 : Cond.methodLink RX7 101 yX7_isSaying ∈ wAll := wA_g (wA_t3 (List.mem_of_getElem? (i := 97) rfl)) rfl
theorem mg_578 : Cond.static yX7_isSaying ∈ wAll := wA_g (wA_t3 (List.mem_of_getElem? (i := 98) rfl)) rfl
theorem mg_579 : Cond.code yX7_isSaying cX7_isSaying 1 (Option.some FieldType.boolean) ∈ wAll := wA_g (wA_t3 (List.mem_of_getElem? (i := 99) rfl)) rfl
theorem mg_580 : Cond.constantLong RX7 91 (3 : Int64) ∈ wAll := wA_g (wA_t3 (List.mem_of_getElem? (i := 100) rfl)) rfl
theorem mg_581 : Cond.methodLink RX7 104 yX7_tellSaying ∈ wAll := wA_g (wA_t3 (List.mem_of_getElem? (i := 101) rfl)) rfl
theorem mg_583 : Cond.instanceMethod yX7_tellSaying ∈ wAll := wA_g (wA_t3 (List.mem_of_getElem? (i := 103) rfl)) rfl
theorem mg_584 : Cond.code yX7_tellSaying cX7_tellSaying 3 (Option.some FieldType.int) ∈ wAll := wA_g (wA_t3 (List.mem_of_getElem? (i := 104) rfl)) rfl
theorem mg_585 : Cond.constantLong RX7 93 (10 : Int64) ∈ wAll := wA_g (wA_t3 (List.mem_of_getElem? (i := 105) rfl)) rfl
theorem mg_586 : Cond.constantLong RX7 95 (13 : Int64) ∈ wAll := wA_g (wA_t3 (List.mem_of_getElem? (i := 106) rfl)) rfl
theorem mg_587 : Cond.methodLink RL 39 yX7_tap ∈ wAll := wA_g (wA_t3 (List.mem_of_getElem? (i := 107) rfl)) rfl
theorem mg_588 : Cond.instanceMethod yX7_tap ∈ wAll := wA_g (wA_t3 (List.mem_of_getElem? (i := 108) rfl)) rfl
theorem mg_589 : Cond.selects RX7 yX7_tap yX7_tap ∈ wAll := wA_g (wA_t3 (List.mem_of_getElem? (i := 109) rfl)) rfl
theorem mg_590 : Cond.code yX7_tap cX7_tap 3 (Option.some FieldType.int) ∈ wAll := wA_g (wA_t3 (List.mem_of_getElem? (i := 110) rfl)) rfl
theorem mg_591 : Cond.constantLong RX7 116 (4 : Int64) ∈ wAll := wA_g (wA_t3 (List.mem_of_getElem? (i := 111) rfl)) rfl
theorem mg_592 : Cond.methodLink RL 43 yX7_about ∈ wAll := wA_g (wA_t3 (List.mem_of_getElem? (i := 112) rfl)) rfl
theorem mg_593 : Cond.instanceMethod yX7_about ∈ wAll := wA_g (wA_t3 (List.mem_of_getElem? (i := 113) rfl)) rfl
theorem mg_594 : Cond.selects RX7 yX7_about yX7_about ∈ wAll := wA_g (wA_t3 (List.mem_of_getElem? (i := 114) rfl)) rfl
theorem mg_595 : Cond.code yX7_about cX7_about 3 (Option.some FieldType.int) ∈ wAll := wA_g (wA_t3 (List.mem_of_getElem? (i := 115) rfl)) rfl
theorem mg_596 : Cond.methodLink RX7 136 yX7_isTap ∈ wAll := wA_g (wA_t3 (List.mem_of_getElem? (i := 116) rfl)) rfl
theorem mg_598 : Cond.instanceMethod yX7_isTap ∈ wAll := wA_g (wA_t3 (List.mem_of_getElem? (i := 118) rfl)) rfl
theorem mg_599 : Cond.code yX7_isTap cX7_isTap 2 (Option.some FieldType.boolean) ∈ wAll := wA_g (wA_t3 (List.mem_of_getElem? (i := 119) rfl)) rfl
theorem mg_600 : Cond.methodLink RX7 139 yX7_tell ∈ wAll := wA_g (wA_t3 (List.mem_of_getElem? (i := 120) rfl)) rfl
theorem mg_602 : Cond.instanceMethod yX7_tell ∈ wAll := wA_g (wA_t3 (List.mem_of_getElem? (i := 122) rfl)) rfl
theorem mg_603 : Cond.code yX7_tell cX7_tell 3 (Option.some FieldType.int) ∈ wAll := wA_g (wA_t3 (List.mem_of_getElem? (i := 123) rfl)) rfl
theorem mg_604 : Cond.methodLink RX7 121 yX7_sureOf ∈ wAll := wA_g (wA_t3 (List.mem_of_getElem? (i := 124) rfl)) rfl
theorem mg_606 : Cond.instanceMethod yX7_sureOf ∈ wAll := wA_g (wA_t3 (List.mem_of_getElem? (i := 126) rfl)) rfl
theorem mg_607 : Cond.code yX7_sureOf cX7_sureOf 6 (Option.some FieldType.int) ∈ wAll := wA_g (wA_t3 (List.mem_of_getElem? (i := 127) rfl)) rfl
theorem mg_608 : Cond.methodLink RX7 118 yX7_patternOf ∈ wAll := wA_g (wA_t3 (List.mem_of_getElem? (i := 128) rfl)) rfl
theorem mg_610 : Cond.instanceMethod yX7_patternOf ∈ wAll := wA_g (wA_t3 (List.mem_of_getElem? (i := 130) rfl)) rfl
theorem mg_611 : Cond.code yX7_patternOf cX7_patternOf 6 (Option.some FieldType.int) ∈ wAll := wA_g (wA_t3 (List.mem_of_getElem? (i := 131) rfl)) rfl
theorem mg_612 : Cond.methodLink RX7 112 yX7_dripAs ∈ wAll := wA_g (wA_t3 (List.mem_of_getElem? (i := 132) rfl)) rfl
theorem mg_614 : Cond.instanceMethod yX7_dripAs ∈ wAll := wA_g (wA_t3 (List.mem_of_getElem? (i := 134) rfl)) rfl
theorem mg_615 : Cond.code yX7_dripAs cX7_dripAs 4 (Option.some FieldType.int) ∈ wAll := wA_g (wA_t3 (List.mem_of_getElem? (i := 135) rfl)) rfl
theorem mg_616 : Cond.methodLink RX7 108 yX7_dripBy ∈ wAll := wA_g (wA_t3 (List.mem_of_getElem? (i := 136) rfl)) rfl
theorem mg_618 : Cond.instanceMethod yX7_dripBy ∈ wAll := wA_g (wA_t3 (List.mem_of_getElem? (i := 138) rfl)) rfl
theorem mg_619 : Cond.code yX7_dripBy cX7_dripBy 9 (Option.some FieldType.int) ∈ wAll := wA_g (wA_t3 (List.mem_of_getElem? (i := 139) rfl)) rfl
theorem mg_620 : Cond.methodLink RX7 124 yX7_saysOf ∈ wAll := wA_g (wA_t3 (List.mem_of_getElem? (i := 140) rfl)) rfl
theorem mg_622 : Cond.instanceMethod yX7_saysOf ∈ wAll := wA_g (wA_t3 (List.mem_of_getElem? (i := 142) rfl)) rfl
theorem mg_623 : Cond.code yX7_saysOf cX7_saysOf 4 (Option.some FieldType.int) ∈ wAll := wA_g (wA_t3 (List.mem_of_getElem? (i := 143) rfl)) rfl
theorem mg_624 : Cond.methodLink RX7 130 yX7_slipsBy ∈ wAll := wA_g (wA_t3 (List.mem_of_getElem? (i := 144) rfl)) rfl
theorem mg_626 : Cond.instanceMethod yX7_slipsBy ∈ wAll := wA_g (wA_t3 (List.mem_of_getElem? (i := 146) rfl)) rfl
theorem mg_627 : Cond.code yX7_slipsBy cX7_slipsBy 6 (Option.some FieldType.int) ∈ wAll := wA_g (wA_t3 (List.mem_of_getElem? (i := 147) rfl)) rfl
theorem mg_628 : Cond.methodLink RX7 127 yX7_likelyOf ∈ wAll := wA_g (wA_t3 (List.mem_of_getElem? (i := 148) rfl)) rfl
theorem mg_630 : Cond.instanceMethod yX7_likelyOf ∈ wAll := wA_g (wA_t3 (List.mem_of_getElem? (i := 150) rfl)) rfl
theorem mg_631 : Cond.code yX7_likelyOf cX7_likelyOf 4 (Option.some FieldType.int) ∈ wAll := wA_g (wA_t3 (List.mem_of_getElem? (i := 151) rfl)) rfl
theorem mg_632 : Cond.methodLink RX7 133 yX7_listenOf ∈ wAll := wA_g (wA_t3 (List.mem_of_getElem? (i := 152) rfl)) rfl
theorem mg_634 : Cond.instanceMethod yX7_listenOf ∈ wAll := wA_g (wA_t3 (List.mem_of_getElem? (i := 154) rfl)) rfl
theorem mg_635 : Cond.code yX7_listenOf cX7_listenOf 10 (Option.some FieldType.int) ∈ wAll := wA_g (wA_t3 (List.mem_of_getElem? (i := 155) rfl)) rfl
theorem mg_636 : Cond.methodLink RL 47 yX7_as ∈ wAll := wA_g (wA_t3 (List.mem_of_getElem? (i := 156) rfl)) rfl
theorem mg_637 : Cond.instanceMethod yX7_as ∈ wAll := wA_g (wA_t3 (List.mem_of_getElem? (i := 157) rfl)) rfl
theorem mg_638 : Cond.selects RX7 yX7_as yX7_as ∈ wAll := wA_g (wA_t3 (List.mem_of_getElem? (i := 158) rfl)) rfl
theorem mg_639 : Cond.code yX7_as cX7_as 5 (Option.some FieldType.int) ∈ wAll := wA_g (wA_t3 (List.mem_of_getElem? (i := 159) rfl)) rfl
theorem mg_640 : Cond.methodLink RL 51 yX7_drip ∈ wAll := wA_g (wA_t3 (List.mem_of_getElem? (i := 160) rfl)) rfl
theorem mg_641 : Cond.instanceMethod yX7_drip ∈ wAll := wA_g (wA_t3 (List.mem_of_getElem? (i := 161) rfl)) rfl
theorem mg_642 : Cond.selects RX7 yX7_drip yX7_drip ∈ wAll := wA_g (wA_t3 (List.mem_of_getElem? (i := 162) rfl)) rfl
theorem mg_643 : Cond.code yX7_drip cX7_drip 3 (Option.some FieldType.int) ∈ wAll := wA_g (wA_t3 (List.mem_of_getElem? (i := 163) rfl)) rfl
theorem mg_644 : Cond.constantLong RX7 142 (99 : Int64) ∈ wAll := wA_g (wA_t3 (List.mem_of_getElem? (i := 164) rfl)) rfl
theorem mg_645 : Cond.methodLink RX7 144 yX7_dripOf ∈ wAll := wA_g (wA_t3 (List.mem_of_getElem? (i := 165) rfl)) rfl
theorem mg_647 : Cond.instanceMethod yX7_dripOf ∈ wAll := wA_g (wA_t3 (List.mem_of_getElem? (i := 167) rfl)) rfl
theorem mg_648 : Cond.code yX7_dripOf cX7_dripOf 3 (Option.some FieldType.int) ∈ wAll := wA_g (wA_t3 (List.mem_of_getElem? (i := 168) rfl)) rfl
theorem mg_649 : Cond.methodLink RL 55 yX7_listen ∈ wAll := wA_g (wA_t3 (List.mem_of_getElem? (i := 169) rfl)) rfl
theorem mg_650 : Cond.instanceMethod yX7_listen ∈ wAll := wA_g (wA_t3 (List.mem_of_getElem? (i := 170) rfl)) rfl
theorem mg_651 : Cond.selects RX7 yX7_listen yX7_listen ∈ wAll := wA_g (wA_t3 (List.mem_of_getElem? (i := 171) rfl)) rfl
theorem mg_652 : Cond.code yX7_listen cX7_listen 3 (Option.some FieldType.int) ∈ wAll := wA_g (wA_t3 (List.mem_of_getElem? (i := 172) rfl)) rfl
theorem mg_653 : Cond.methodLink RL 60 yX7_washer ∈ wAll := wA_g (wA_t3 (List.mem_of_getElem? (i := 173) rfl)) rfl
theorem mg_654 : Cond.instanceMethod yX7_washer ∈ wAll := wA_g (wA_t3 (List.mem_of_getElem? (i := 174) rfl)) rfl
theorem mg_655 : Cond.selects RX7 yX7_washer yX7_washer ∈ wAll := wA_g (wA_t3 (List.mem_of_getElem? (i := 175) rfl)) rfl
theorem mg_656 : Cond.code yX7_washer cX7_washer 4 (Option.some FieldType.int) ∈ wAll := wA_g (wA_t3 (List.mem_of_getElem? (i := 176) rfl)) rfl
theorem mg_657 : Cond.methodLink RL 64 yX7_teach ∈ wAll := wA_g (wA_t3 (List.mem_of_getElem? (i := 177) rfl)) rfl
theorem mg_658 : Cond.instanceMethod yX7_teach ∈ wAll := wA_g (wA_t3 (List.mem_of_getElem? (i := 178) rfl)) rfl
theorem mg_659 : Cond.selects RX7 yX7_teach yX7_teach ∈ wAll := wA_g (wA_t3 (List.mem_of_getElem? (i := 179) rfl)) rfl
theorem mg_660 : Cond.code yX7_teach cX7_teach 4 (Option.some FieldType.int) ∈ wAll := wA_g (wA_t3 (List.mem_of_getElem? (i := 180) rfl)) rfl
theorem mg_661 : Cond.methodLink RL 68 yX7_agree ∈ wAll := wA_g (wA_t3 (List.mem_of_getElem? (i := 181) rfl)) rfl
theorem mg_662 : Cond.instanceMethod yX7_agree ∈ wAll := wA_g (wA_t3 (List.mem_of_getElem? (i := 182) rfl)) rfl
theorem mg_663 : Cond.selects RX7 yX7_agree yX7_agree ∈ wAll := wA_g (wA_t3 (List.mem_of_getElem? (i := 183) rfl)) rfl
theorem mg_664 : Cond.code yX7_agree cX7_agree 3 (Option.some FieldType.int) ∈ wAll := wA_g (wA_t3 (List.mem_of_getElem? (i := 184) rfl)) rfl
theorem mg_665 : Cond.methodLink RX7 147 yX7_agreeOf ∈ wAll := wA_g (wA_t3 (List.mem_of_getElem? (i := 185) rfl)) rfl
theorem mg_667 : Cond.instanceMethod yX7_agreeOf ∈ wAll := wA_g (wA_t3 (List.mem_of_getElem? (i := 187) rfl)) rfl
theorem mg_668 : Cond.code yX7_agreeOf cX7_agreeOf 5 (Option.some FieldType.int) ∈ wAll := wA_g (wA_t3 (List.mem_of_getElem? (i := 188) rfl)) rfl
theorem mg_669 : Cond.methodLink RL 73 yX7_near ∈ wAll := wA_g (wA_t3 (List.mem_of_getElem? (i := 189) rfl)) rfl
theorem mg_670 : Cond.instanceMethod yX7_near ∈ wAll := wA_g (wA_t3 (List.mem_of_getElem? (i := 190) rfl)) rfl
theorem mg_671 : Cond.selects RX7 yX7_near yX7_near ∈ wAll := wA_g (wA_t3 (List.mem_of_getElem? (i := 191) rfl)) rfl
theorem mg_672 : Cond.code yX7_near cX7_near 4 (Option.some FieldType.int) ∈ wAll := wA_g (wA_t3 (List.mem_of_getElem? (i := 192) rfl)) rfl
theorem mg_673 : Cond.methodLink RX7 153 yX7_nearOf ∈ wAll := wA_g (wA_t3 (List.mem_of_getElem? (i := 193) rfl)) rfl
theorem mg_675 : Cond.instanceMethod yX7_nearOf ∈ wAll := wA_g (wA_t3 (List.mem_of_getElem? (i := 195) rfl)) rfl
theorem mg_676 : Cond.code yX7_nearOf cX7_nearOf 7 (Option.some FieldType.int) ∈ wAll := wA_g (wA_t3 (List.mem_of_getElem? (i := 196) rfl)) rfl
theorem mg_677 : Cond.methodLink RX7 150 yX7_unlikeBy ∈ wAll := wA_g (wA_t3 (List.mem_of_getElem? (i := 197) rfl)) rfl
theorem mg_679 : Cond.instanceMethod yX7_unlikeBy ∈ wAll := wA_g (wA_t3 (List.mem_of_getElem? (i := 199) rfl)) rfl
theorem mg_680 : Cond.code yX7_unlikeBy cX7_unlikeBy 7 (Option.some FieldType.int) ∈ wAll := wA_g (wA_t3 (List.mem_of_getElem? (i := 200) rfl)) rfl
theorem mg_681 : Cond.methodLink RL 78 yX7_put ∈ wAll := wA_g (wA_t3 (List.mem_of_getElem? (i := 201) rfl)) rfl
theorem mg_682 : Cond.instanceMethod yX7_put ∈ wAll := wA_g (wA_t3 (List.mem_of_getElem? (i := 202) rfl)) rfl
theorem mg_683 : Cond.selects RX7 yX7_put yX7_put ∈ wAll := wA_g (wA_t3 (List.mem_of_getElem? (i := 203) rfl)) rfl
theorem mg_684 : Cond.code yX7_put cX7_put 4 (Option.some FieldType.int) ∈ wAll := wA_g (wA_t3 (List.mem_of_getElem? (i := 204) rfl)) rfl
theorem mg_685 : Cond.constantLong RX7 156 (59 : Int64) ∈ wAll := wA_g (wA_t3 (List.mem_of_getElem? (i := 205) rfl)) rfl
theorem mg_686 : Cond.methodLink RL 82 yX7_forget ∈ wAll := wA_g (wA_t3 (List.mem_of_getElem? (i := 206) rfl)) rfl
theorem mg_687 : Cond.instanceMethod yX7_forget ∈ wAll := wA_g (wA_t3 (List.mem_of_getElem? (i := 207) rfl)) rfl
theorem mg_688 : Cond.selects RX7 yX7_forget yX7_forget ∈ wAll := wA_g (wA_t3 (List.mem_of_getElem? (i := 208) rfl)) rfl
theorem mg_689 : Cond.code yX7_forget cX7_forget 2 (Option.some FieldType.int) ∈ wAll := wA_g (wA_t3 (List.mem_of_getElem? (i := 209) rfl)) rfl
theorem mg_690 : Cond.methodLink RL 86 yX7_nights ∈ wAll := wA_g (wA_t3 (List.mem_of_getElem? (i := 210) rfl)) rfl
theorem mg_691 : Cond.instanceMethod yX7_nights ∈ wAll := wA_g (wA_t3 (List.mem_of_getElem? (i := 211) rfl)) rfl
theorem mg_692 : Cond.selects RX7 yX7_nights yX7_nights ∈ wAll := wA_g (wA_t3 (List.mem_of_getElem? (i := 212) rfl)) rfl
theorem mg_693 : Cond.code yX7_nights cX7_nights 10 (Option.some FieldType.int) ∈ wAll := wA_g (wA_t3 (List.mem_of_getElem? (i := 213) rfl)) rfl
theorem mg_694 : Cond.constantLong RX7 168 (40 : Int64) ∈ wAll := wA_g (wA_t3 (List.mem_of_getElem? (i := 214) rfl)) rfl
theorem mg_695 : Cond.constantLong RX7 170 (2 : Int64) ∈ wAll := wA_g (wA_t3 (List.mem_of_getElem? (i := 215) rfl)) rfl
theorem mg_696 : Cond.methodLink RX7 172 yX7_draw ∈ wAll := wA_g (wA_t3 (List.mem_of_getElem? (i := 216) rfl)) rfl
theorem mg_698 : Cond.instanceMethod yX7_draw ∈ wAll := wA_g (wA_t3 (List.mem_of_getElem? (i := 218) rfl)) rfl
theorem mg_699 : Cond.code yX7_draw cX7_draw 2 (Option.some FieldType.int) ∈ wAll := wA_g (wA_t3 (List.mem_of_getElem? (i := 219) rfl)) rfl
theorem mg_700 : Cond.constantLong RX7 158 (1103515245 : Int64) ∈ wAll := wA_g (wA_t3 (List.mem_of_getElem? (i := 220) rfl)) rfl
theorem mg_701 : Cond.constantLong RX7 163 (12345 : Int64) ∈ wAll := wA_g (wA_t3 (List.mem_of_getElem? (i := 221) rfl)) rfl
theorem mg_702 : Cond.constantLong RX7 165 (2147483647 : Int64) ∈ wAll := wA_g (wA_t3 (List.mem_of_getElem? (i := 222) rfl)) rfl
theorem mg_703 : Cond.constant RX7 167 (65536 : Int32) ∈ wAll := wA_g (wA_t3 (List.mem_of_getElem? (i := 223) rfl)) rfl
theorem mg_704 : Cond.methodLink RL 90 yX7_image ∈ wAll := wA_g (wA_t3 (List.mem_of_getElem? (i := 224) rfl)) rfl
theorem mg_705 : Cond.instanceMethod yX7_image ∈ wAll := wA_g (wA_t3 (List.mem_of_getElem? (i := 225) rfl)) rfl
theorem mg_706 : Cond.selects RX7 yX7_image yX7_image ∈ wAll := wA_g (wA_t3 (List.mem_of_getElem? (i := 226) rfl)) rfl
theorem mg_707 : Cond.code yX7_image cX7_image 1 (Option.some FieldType.int) ∈ wAll := wA_g (wA_t3 (List.mem_of_getElem? (i := 227) rfl)) rfl
theorem mg_708 : Cond.methodLink RL 94 yX7_restore ∈ wAll := wA_g (wA_t3 (List.mem_of_getElem? (i := 228) rfl)) rfl
theorem mg_709 : Cond.instanceMethod yX7_restore ∈ wAll := wA_g (wA_t3 (List.mem_of_getElem? (i := 229) rfl)) rfl
theorem mg_710 : Cond.selects RX7 yX7_restore yX7_restore ∈ wAll := wA_g (wA_t3 (List.mem_of_getElem? (i := 230) rfl)) rfl
theorem mg_711 : Cond.code yX7_restore cX7_restore 1 (Option.some FieldType.int) ∈ wAll := wA_g (wA_t3 (List.mem_of_getElem? (i := 231) rfl)) rfl
theorem mg_712 : Cond.methodLink RL 98 yX7_count ∈ wAll := wA_g (wA_t3 (List.mem_of_getElem? (i := 232) rfl)) rfl
theorem mg_713 : Cond.instanceMethod yX7_count ∈ wAll := wA_g (wA_t3 (List.mem_of_getElem? (i := 233) rfl)) rfl
theorem mg_714 : Cond.selects RX7 yX7_count yX7_count ∈ wAll := wA_g (wA_t3 (List.mem_of_getElem? (i := 234) rfl)) rfl
theorem mg_715 : Cond.code yX7_count cX7_count 2 (Option.some FieldType.int) ∈ wAll := wA_g (wA_t3 (List.mem_of_getElem? (i := 235) rfl)) rfl
theorem mg_716 : Cond.methodLink RX7 190 yX7_countOf ∈ wAll := wA_g (wA_t3 (List.mem_of_getElem? (i := 236) rfl)) rfl
theorem mg_718 : Cond.instanceMethod yX7_countOf ∈ wAll := wA_g (wA_t3 (List.mem_of_getElem? (i := 238) rfl)) rfl
theorem mg_719 : Cond.code yX7_countOf cX7_countOf 2 (Option.some FieldType.int) ∈ wAll := wA_g (wA_t3 (List.mem_of_getElem? (i := 239) rfl)) rfl
theorem mg_720 : Cond.methodLink RX7 184 yX7_beatsAll ∈ wAll := wA_g (wA_t4 (List.mem_of_getElem? (i := 0) rfl)) rfl
theorem mg_722 : Cond.instanceMethod yX7_beatsAll ∈ wAll := wA_g (wA_t4 (List.mem_of_getElem? (i := 2) rfl)) rfl
theorem mg_723 : Cond.code yX7_beatsAll cX7_beatsAll 3 (Option.some FieldType.int) ∈ wAll := wA_g (wA_t4 (List.mem_of_getElem? (i := 3) rfl)) rfl
theorem mg_724 : Cond.methodLink RX7 187 yX7_sumAt ∈ wAll := wA_g (wA_t4 (List.mem_of_getElem? (i := 4) rfl)) rfl
theorem mg_726 : Cond.instanceMethod yX7_sumAt ∈ wAll := wA_g (wA_t4 (List.mem_of_getElem? (i := 6) rfl)) rfl
theorem mg_727 : Cond.code yX7_sumAt cX7_sumAt 4 (Option.some FieldType.int) ∈ wAll := wA_g (wA_t4 (List.mem_of_getElem? (i := 7) rfl)) rfl
theorem mg_728 : Cond.methodLink RL 103 yX7_digest ∈ wAll := wA_g (wA_t4 (List.mem_of_getElem? (i := 8) rfl)) rfl
theorem mg_729 : Cond.instanceMethod yX7_digest ∈ wAll := wA_g (wA_t4 (List.mem_of_getElem? (i := 9) rfl)) rfl
theorem mg_730 : Cond.selects RX7 yX7_digest yX7_digest ∈ wAll := wA_g (wA_t4 (List.mem_of_getElem? (i := 10) rfl)) rfl
theorem mg_731 : Cond.code yX7_digest cX7_digest 3 (Option.some FieldType.long) ∈ wAll := wA_g (wA_t4 (List.mem_of_getElem? (i := 11) rfl)) rfl
theorem mg_732 : Cond.constantLong RX7 203 (1061 : Int64) ∈ wAll := wA_g (wA_t4 (List.mem_of_getElem? (i := 12) rfl)) rfl
theorem mg_733 : Cond.methodLink RX7 199 yX7_say ∈ wAll := wA_g (wA_t4 (List.mem_of_getElem? (i := 13) rfl)) rfl
theorem mg_735 : Cond.instanceMethod yX7_say ∈ wAll := wA_g (wA_t4 (List.mem_of_getElem? (i := 15) rfl)) rfl
theorem mg_736 : Cond.code yX7_say cX7_say 3 (Option.none : Option FieldType) ∈ wAll := wA_g (wA_t4 (List.mem_of_getElem? (i := 16) rfl)) rfl
theorem mg_737 : Cond.constantLong RX7 193 (31 : Int64) ∈ wAll := wA_g (wA_t4 (List.mem_of_getElem? (i := 17) rfl)) rfl
theorem mg_738 : Cond.methodLink RX7 205 yX7_sayTap ∈ wAll := wA_g (wA_t4 (List.mem_of_getElem? (i := 18) rfl)) rfl
theorem mg_740 : Cond.instanceMethod yX7_sayTap ∈ wAll := wA_g (wA_t4 (List.mem_of_getElem? (i := 20) rfl)) rfl
theorem mg_741 : Cond.code yX7_sayTap cX7_sayTap 3 (Option.none : Option FieldType) ∈ wAll := wA_g (wA_t4 (List.mem_of_getElem? (i := 21) rfl)) rfl
theorem mg_1000 : Cond.selects RX2 yX2_takesInSaying yX2_takesInSaying ∈ wAll := wA_g (wA_s (List.mem_of_getElem? (i := 0) rfl)) rfl
theorem mg_1001 : Cond.selects RX2 yX2_takesInTap yX2_takesInTap ∈ wAll := wA_g (wA_s (List.mem_of_getElem? (i := 1) rfl)) rfl
theorem mg_1002 : Cond.selects RX6 yX6_readPage yX6_readPage ∈ wAll := wA_g (wA_s (List.mem_of_getElem? (i := 2) rfl)) rfl
theorem mg_1003 : Cond.selects RX6 yX6_aboutOf yX6_aboutOf ∈ wAll := wA_g (wA_s (List.mem_of_getElem? (i := 3) rfl)) rfl
theorem mg_1004 : Cond.selects RX6 yX6_sureOf yX6_sureOf ∈ wAll := wA_g (wA_s (List.mem_of_getElem? (i := 4) rfl)) rfl
theorem mg_1005 : Cond.selects RX6 yX6_enoughToTell yX6_enoughToTell ∈ wAll := wA_g (wA_s (List.mem_of_getElem? (i := 5) rfl)) rfl
theorem mg_1006 : Cond.selects RX6 yX6_saysOf yX6_saysOf ∈ wAll := wA_g (wA_s (List.mem_of_getElem? (i := 6) rfl)) rfl
theorem mg_1007 : Cond.selects RX6 yX6_slipsOf yX6_slipsOf ∈ wAll := wA_g (wA_s (List.mem_of_getElem? (i := 7) rfl)) rfl
theorem mg_1008 : Cond.selects RX6 yX6_likelyOf yX6_likelyOf ∈ wAll := wA_g (wA_s (List.mem_of_getElem? (i := 8) rfl)) rfl
theorem mg_1009 : Cond.selects RX6 yX6_bestToHear yX6_bestToHear ∈ wAll := wA_g (wA_s (List.mem_of_getElem? (i := 9) rfl)) rfl
theorem mg_1010 : Cond.selects RX6 yX6_leftAtWorst yX6_leftAtWorst ∈ wAll := wA_g (wA_s (List.mem_of_getElem? (i := 10) rfl)) rfl
theorem mg_1011 : Cond.selects RX6 yX6_dripOf yX6_dripOf ∈ wAll := wA_g (wA_s (List.mem_of_getElem? (i := 11) rfl)) rfl
theorem mg_1012 : Cond.selects RX6 yX6_nearOf yX6_nearOf ∈ wAll := wA_g (wA_s (List.mem_of_getElem? (i := 12) rfl)) rfl
theorem mg_1013 : Cond.selects RX6 yX6_unlikeOf yX6_unlikeOf ∈ wAll := wA_g (wA_s (List.mem_of_getElem? (i := 13) rfl)) rfl
theorem mg_1014 : Cond.selects RX6 yX6_countOf yX6_countOf ∈ wAll := wA_g (wA_s (List.mem_of_getElem? (i := 14) rfl)) rfl
theorem mg_1015 : Cond.selects RX6 yX6_digestSayings yX6_digestSayings ∈ wAll := wA_g (wA_s (List.mem_of_getElem? (i := 15) rfl)) rfl
theorem mg_1016 : Cond.selects RX6 yX6_digestTap yX6_digestTap ∈ wAll := wA_g (wA_s (List.mem_of_getElem? (i := 16) rfl)) rfl
theorem mg_1017 : Cond.selects RX7 yX7_faultOf yX7_faultOf ∈ wAll := wA_g (wA_s (List.mem_of_getElem? (i := 17) rfl)) rfl
theorem mg_1018 : Cond.selects RX7 yX7_goSaying yX7_goSaying ∈ wAll := wA_g (wA_s (List.mem_of_getElem? (i := 18) rfl)) rfl
theorem mg_1019 : Cond.selects RX7 yX7_goTap yX7_goTap ∈ wAll := wA_g (wA_s (List.mem_of_getElem? (i := 19) rfl)) rfl
theorem mg_1020 : Cond.selects RX7 yX7_lacks yX7_lacks ∈ wAll := wA_g (wA_s (List.mem_of_getElem? (i := 20) rfl)) rfl
theorem mg_1021 : Cond.selects RX7 yX7_tellSaying yX7_tellSaying ∈ wAll := wA_g (wA_s (List.mem_of_getElem? (i := 21) rfl)) rfl
theorem mg_1022 : Cond.selects RX7 yX7_isTap yX7_isTap ∈ wAll := wA_g (wA_s (List.mem_of_getElem? (i := 22) rfl)) rfl
theorem mg_1023 : Cond.selects RX7 yX7_tell yX7_tell ∈ wAll := wA_g (wA_s (List.mem_of_getElem? (i := 23) rfl)) rfl
theorem mg_1024 : Cond.selects RX7 yX7_sureOf yX7_sureOf ∈ wAll := wA_g (wA_s (List.mem_of_getElem? (i := 24) rfl)) rfl
theorem mg_1025 : Cond.selects RX7 yX7_patternOf yX7_patternOf ∈ wAll := wA_g (wA_s (List.mem_of_getElem? (i := 25) rfl)) rfl
theorem mg_1026 : Cond.selects RX7 yX7_dripAs yX7_dripAs ∈ wAll := wA_g (wA_s (List.mem_of_getElem? (i := 26) rfl)) rfl
theorem mg_1027 : Cond.selects RX7 yX7_dripBy yX7_dripBy ∈ wAll := wA_g (wA_s (List.mem_of_getElem? (i := 27) rfl)) rfl
theorem mg_1028 : Cond.selects RX7 yX7_saysOf yX7_saysOf ∈ wAll := wA_g (wA_s (List.mem_of_getElem? (i := 28) rfl)) rfl
theorem mg_1029 : Cond.selects RX7 yX7_slipsBy yX7_slipsBy ∈ wAll := wA_g (wA_s (List.mem_of_getElem? (i := 29) rfl)) rfl
theorem mg_1030 : Cond.selects RX7 yX7_likelyOf yX7_likelyOf ∈ wAll := wA_g (wA_s (List.mem_of_getElem? (i := 30) rfl)) rfl
theorem mg_1031 : Cond.selects RX7 yX7_listenOf yX7_listenOf ∈ wAll := wA_g (wA_s (List.mem_of_getElem? (i := 31) rfl)) rfl
theorem mg_1032 : Cond.selects RX7 yX7_dripOf yX7_dripOf ∈ wAll := wA_g (wA_s (List.mem_of_getElem? (i := 32) rfl)) rfl
theorem mg_1033 : Cond.selects RX7 yX7_agreeOf yX7_agreeOf ∈ wAll := wA_g (wA_s (List.mem_of_getElem? (i := 33) rfl)) rfl
theorem mg_1034 : Cond.selects RX7 yX7_nearOf yX7_nearOf ∈ wAll := wA_g (wA_s (List.mem_of_getElem? (i := 34) rfl)) rfl
theorem mg_1035 : Cond.selects RX7 yX7_unlikeBy yX7_unlikeBy ∈ wAll := wA_g (wA_s (List.mem_of_getElem? (i := 35) rfl)) rfl
theorem mg_1036 : Cond.selects RX7 yX7_draw yX7_draw ∈ wAll := wA_g (wA_s (List.mem_of_getElem? (i := 36) rfl)) rfl
theorem mg_1037 : Cond.selects RX7 yX7_countOf yX7_countOf ∈ wAll := wA_g (wA_s (List.mem_of_getElem? (i := 37) rfl)) rfl
theorem mg_1038 : Cond.selects RX7 yX7_beatsAll yX7_beatsAll ∈ wAll := wA_g (wA_s (List.mem_of_getElem? (i := 38) rfl)) rfl
theorem mg_1039 : Cond.selects RX7 yX7_sumAt yX7_sumAt ∈ wAll := wA_g (wA_s (List.mem_of_getElem? (i := 39) rfl)) rfl
theorem mg_1040 : Cond.selects RX7 yX7_say yX7_say ∈ wAll := wA_g (wA_s (List.mem_of_getElem? (i := 40) rfl)) rfl
theorem mg_1041 : Cond.selects RX7 yX7_sayTap yX7_sayTap ∈ wAll := wA_g (wA_s (List.mem_of_getElem? (i := 41) rfl)) rfl
theorem iX0 : ∀ w ∈ u_ws RX0 TX0 4, w ∈ wAll := List.forall_mem_cons.mpr ⟨mg_123, List.forall_mem_cons.mpr ⟨mg_125, List.forall_mem_cons.mpr ⟨mg_127, List.forall_mem_cons.mpr ⟨mg_129, fun _ h => absurd h List.not_mem_nil⟩⟩⟩⟩
theorem iX1 : ∀ w ∈ u_ws RX1 TX1 3, w ∈ wAll := List.forall_mem_cons.mpr ⟨mg_45, List.forall_mem_cons.mpr ⟨mg_47, List.forall_mem_cons.mpr ⟨mg_49, fun _ h => absurd h List.not_mem_nil⟩⟩⟩
theorem iX2 : ∀ w ∈ u_ws RX2 TX2 3, w ∈ wAll := List.forall_mem_cons.mpr ⟨mg_33, List.forall_mem_cons.mpr ⟨mg_35, List.forall_mem_cons.mpr ⟨mg_37, fun _ h => absurd h List.not_mem_nil⟩⟩⟩
theorem iX3 : ∀ w ∈ u_ws RX3 TX3 5, w ∈ wAll := List.forall_mem_cons.mpr ⟨mg_140, List.forall_mem_cons.mpr ⟨mg_142, List.forall_mem_cons.mpr ⟨mg_144, List.forall_mem_cons.mpr ⟨mg_146, List.forall_mem_cons.mpr ⟨mg_148, fun _ h => absurd h List.not_mem_nil⟩⟩⟩⟩⟩
theorem iX4 : ∀ w ∈ u_ws RX4 TX4 2, w ∈ wAll := List.forall_mem_cons.mpr ⟨mg_60, List.forall_mem_cons.mpr ⟨mg_62, fun _ h => absurd h List.not_mem_nil⟩⟩
theorem iX5 : ∀ w ∈ u_ws RX5 TX5 5, w ∈ wAll := List.forall_mem_cons.mpr ⟨mg_93, List.forall_mem_cons.mpr ⟨mg_95, List.forall_mem_cons.mpr ⟨mg_97, List.forall_mem_cons.mpr ⟨mg_99, List.forall_mem_cons.mpr ⟨mg_101, fun _ h => absurd h List.not_mem_nil⟩⟩⟩⟩⟩
theorem iX6 : ∀ w ∈ u_ws RX6 TX6 7, w ∈ wAll := List.forall_mem_cons.mpr ⟨mg_158, List.forall_mem_cons.mpr ⟨mg_160, List.forall_mem_cons.mpr ⟨mg_162, List.forall_mem_cons.mpr ⟨mg_164, List.forall_mem_cons.mpr ⟨mg_166, List.forall_mem_cons.mpr ⟨mg_168, List.forall_mem_cons.mpr ⟨mg_170, fun _ h => absurd h List.not_mem_nil⟩⟩⟩⟩⟩⟩⟩
theorem iX7 : ∀ w ∈ u_ws RX7 TX7 22, w ∈ wAll := List.forall_mem_cons.mpr ⟨mg_484, List.forall_mem_cons.mpr ⟨mg_486, List.forall_mem_cons.mpr ⟨mg_488, List.forall_mem_cons.mpr ⟨mg_490, List.forall_mem_cons.mpr ⟨mg_492, List.forall_mem_cons.mpr ⟨mg_494, List.forall_mem_cons.mpr ⟨mg_496, List.forall_mem_cons.mpr ⟨mg_498, List.forall_mem_cons.mpr ⟨mg_500, List.forall_mem_cons.mpr ⟨mg_502, List.forall_mem_cons.mpr ⟨mg_504, List.forall_mem_cons.mpr ⟨mg_506, List.forall_mem_cons.mpr ⟨mg_508, List.forall_mem_cons.mpr ⟨mg_510, List.forall_mem_cons.mpr ⟨mg_512, List.forall_mem_cons.mpr ⟨mg_514, List.forall_mem_cons.mpr ⟨mg_516, List.forall_mem_cons.mpr ⟨mg_518, List.forall_mem_cons.mpr ⟨mg_520, List.forall_mem_cons.mpr ⟨mg_522, List.forall_mem_cons.mpr ⟨mg_524, List.forall_mem_cons.mpr ⟨mg_526, fun _ h => absurd h List.not_mem_nil⟩⟩⟩⟩⟩⟩⟩⟩⟩⟩⟩⟩⟩⟩⟩⟩⟩⟩⟩⟩⟩⟩
end
section
/-! rows over Int and nI; contracts of methods that only read, and of methods that write; calls; worlds -/
theorem fr_lt {x y : Int32} {X Y : Int} (hx : x.toInt = X) (hy : y.toInt = Y) : x < y ↔ X < Y := by rw [← hx, ← hy]; exact Int32.lt_iff_toInt_lt
theorem fr_le {x y : Int32} {X Y : Int} (hx : x.toInt = X) (hy : y.toInt = Y) : x ≤ y ↔ X ≤ Y := by rw [← hx, ← hy]; exact Int32.le_iff_toInt_le
theorem fr_eq {x y : Int32} {X Y : Int} (hx : x.toInt = X) (hy : y.toInt = Y) : x = y ↔ X = Y := by rw [← hx, ← hy]; exact Int32.toInt_inj.symm
theorem fr_lt64 {x y : Int64} {X Y : Int} (hx : x.toInt = X) (hy : y.toInt = Y) : x < y ↔ X < Y := by rw [← hx, ← hy]; exact Int64.lt_iff_toInt_lt
theorem fr_le64 {x y : Int64} {X Y : Int} (hx : x.toInt = X) (hy : y.toInt = Y) : x ≤ y ↔ X ≤ Y := by rw [← hx, ← hy]; exact Int64.le_iff_toInt_le
theorem fr_0 : (0 : Int32).toInt = 0 := by decide
theorem fr_xor (a b : Nat) : nI a ^^^ nI b = nI (a ^^^ b) := by
  apply Int32.toBitVec_inj.1
  show BitVec.ofNat 32 a ^^^ BitVec.ofNat 32 b = BitVec.ofNat 32 (a ^^^ b)
  apply BitVec.eq_of_getLsbD_eq
  intro i hi
  simp [hi]
theorem fr_or (a b : Nat) : nI a ||| nI b = nI (a ||| b) := by
  apply Int32.toBitVec_inj.1
  show BitVec.ofNat 32 a ||| BitVec.ofNat 32 b = BitVec.ofNat 32 (a ||| b)
  apply BitVec.eq_of_getLsbD_eq
  intro i hi
  simp [hi]
theorem fr_and1 {a : Nat} (h : a < 2 ^ 32) : nI a &&& nI 1 = nI (a % 2) := pk_andN h 1 rfl
theorem fr_sm : ∀ n, n < 32 → ((nI n &&& 31).toBitVec.smod 32).toNat = n := by decide +kernel
theorem fr_inc1 (a : Nat) : nI a + Int32.ofInt 1 = nI (a + 1) := nI_add a 1
theorem fr_inc4 (a : Nat) : nI a + Int32.ofInt 4 = nI (a + 4) := nI_add a 4
theorem fr_upd {f : Nat → Int32} {k : Nat} {x : Int32} : upd f k x k = x := by simp [upd]
theorem fr_updn {f : Nat → Int32} {k j : Nat} {x : Int32} (h : j ≠ k) : upd f k x j = f j := by simp [upd, h]
section FRA
variable {p : Program} {l : Launch} {e : Env} {R : Room} {s : State} {m : MethodId} {args : Array Value} {below : List Frame} {meth : Method} {c : Code} {H : Heap} {locs : List Loc} {cells slots : Nat} {Q : State → Prop}
variable {cc : ByteArray} {pc : Nat} {ls : Array Slot} {rest : List Value}
theorem j_icmp_lt (hexec : p.tables.exec = Jvm.exec) (hb : c.code = cc) {x y : Int32} {X Y : Int} {off : Int} {tgt : Nat} (hdg : decode cc pc = .ok (.if_icmp .lt off, 3)) (ht : (pc : Int) + off = (tgt : Int)) (hx : x.toInt = X) (hy : y.toInt = Y) (kt : X < Y → W p l e R s m args below meth c H locs cells slots Q (F0 m tgt ls rest)) (kf : Y ≤ X → W p l e R s m args below meth c H locs cells slots Q (F0 m (pc + 3) ls rest)) : W p l e R s m args below meth c H locs cells slots Q (F0 m pc ls (.int y :: .int x :: rest)) := lv_icmp_lt hexec hb hdg ht (fun z => kt ((fr_lt hx hy).mp z)) (fun z => kf (Int.not_lt.mp (fun h => z ((fr_lt hx hy).mpr h))))
theorem j_if_lt (hexec : p.tables.exec = Jvm.exec) (hb : c.code = cc) {x : Int32} {X : Int} {off : Int} {tgt : Nat} (hdg : decode cc pc = .ok (.ifCond .lt off, 3)) (ht : (pc : Int) + off = (tgt : Int)) (hx : x.toInt = X) (kt : X < 0 → W p l e R s m args below meth c H locs cells slots Q (F0 m tgt ls rest)) (kf : 0 ≤ X → W p l e R s m args below meth c H locs cells slots Q (F0 m (pc + 3) ls rest)) : W p l e R s m args below meth c H locs cells slots Q (F0 m pc ls (.int x :: rest)) := lv_if_lt hexec hb hdg ht (fun z => kt ((fr_lt hx fr_0).mp z)) (fun z => kf (Int.not_lt.mp (fun h => z ((fr_lt hx fr_0).mpr h))))
theorem j_icmp_ge (hexec : p.tables.exec = Jvm.exec) (hb : c.code = cc) {x y : Int32} {X Y : Int} {off : Int} {tgt : Nat} (hdg : decode cc pc = .ok (.if_icmp .ge off, 3)) (ht : (pc : Int) + off = (tgt : Int)) (hx : x.toInt = X) (hy : y.toInt = Y) (kt : Y ≤ X → W p l e R s m args below meth c H locs cells slots Q (F0 m tgt ls rest)) (kf : X < Y → W p l e R s m args below meth c H locs cells slots Q (F0 m (pc + 3) ls rest)) : W p l e R s m args below meth c H locs cells slots Q (F0 m pc ls (.int y :: .int x :: rest)) := lv_icmp_ge hexec hb hdg ht (fun z => kt ((fr_le hy hx).mp z)) (fun z => kf (Int.not_le.mp (fun h => z ((fr_le hy hx).mpr h))))
theorem j_if_ge (hexec : p.tables.exec = Jvm.exec) (hb : c.code = cc) {x : Int32} {X : Int} {off : Int} {tgt : Nat} (hdg : decode cc pc = .ok (.ifCond .ge off, 3)) (ht : (pc : Int) + off = (tgt : Int)) (hx : x.toInt = X) (kt : 0 ≤ X → W p l e R s m args below meth c H locs cells slots Q (F0 m tgt ls rest)) (kf : X < 0 → W p l e R s m args below meth c H locs cells slots Q (F0 m (pc + 3) ls rest)) : W p l e R s m args below meth c H locs cells slots Q (F0 m pc ls (.int x :: rest)) := lv_if_ge hexec hb hdg ht (fun z => kt ((fr_le fr_0 hx).mp z)) (fun z => kf (Int.not_le.mp (fun h => z ((fr_le fr_0 hx).mpr h))))
theorem j_icmp_gt (hexec : p.tables.exec = Jvm.exec) (hb : c.code = cc) {x y : Int32} {X Y : Int} {off : Int} {tgt : Nat} (hdg : decode cc pc = .ok (.if_icmp .gt off, 3)) (ht : (pc : Int) + off = (tgt : Int)) (hx : x.toInt = X) (hy : y.toInt = Y) (kt : Y < X → W p l e R s m args below meth c H locs cells slots Q (F0 m tgt ls rest)) (kf : X ≤ Y → W p l e R s m args below meth c H locs cells slots Q (F0 m (pc + 3) ls rest)) : W p l e R s m args below meth c H locs cells slots Q (F0 m pc ls (.int y :: .int x :: rest)) := lv_icmp_gt hexec hb hdg ht (fun z => kt ((fr_lt hy hx).mp z)) (fun z => kf (Int.not_lt.mp (fun h => z ((fr_lt hy hx).mpr h))))
theorem j_if_gt (hexec : p.tables.exec = Jvm.exec) (hb : c.code = cc) {x : Int32} {X : Int} {off : Int} {tgt : Nat} (hdg : decode cc pc = .ok (.ifCond .gt off, 3)) (ht : (pc : Int) + off = (tgt : Int)) (hx : x.toInt = X) (kt : 0 < X → W p l e R s m args below meth c H locs cells slots Q (F0 m tgt ls rest)) (kf : X ≤ 0 → W p l e R s m args below meth c H locs cells slots Q (F0 m (pc + 3) ls rest)) : W p l e R s m args below meth c H locs cells slots Q (F0 m pc ls (.int x :: rest)) := lv_if_gt hexec hb hdg ht (fun z => kt ((fr_lt fr_0 hx).mp z)) (fun z => kf (Int.not_lt.mp (fun h => z ((fr_lt fr_0 hx).mpr h))))
theorem j_icmp_le (hexec : p.tables.exec = Jvm.exec) (hb : c.code = cc) {x y : Int32} {X Y : Int} {off : Int} {tgt : Nat} (hdg : decode cc pc = .ok (.if_icmp .le off, 3)) (ht : (pc : Int) + off = (tgt : Int)) (hx : x.toInt = X) (hy : y.toInt = Y) (kt : X ≤ Y → W p l e R s m args below meth c H locs cells slots Q (F0 m tgt ls rest)) (kf : Y < X → W p l e R s m args below meth c H locs cells slots Q (F0 m (pc + 3) ls rest)) : W p l e R s m args below meth c H locs cells slots Q (F0 m pc ls (.int y :: .int x :: rest)) := lv_icmp_le hexec hb hdg ht (fun z => kt ((fr_le hx hy).mp z)) (fun z => kf (Int.not_le.mp (fun h => z ((fr_le hx hy).mpr h))))
theorem j_if_le (hexec : p.tables.exec = Jvm.exec) (hb : c.code = cc) {x : Int32} {X : Int} {off : Int} {tgt : Nat} (hdg : decode cc pc = .ok (.ifCond .le off, 3)) (ht : (pc : Int) + off = (tgt : Int)) (hx : x.toInt = X) (kt : X ≤ 0 → W p l e R s m args below meth c H locs cells slots Q (F0 m tgt ls rest)) (kf : 0 < X → W p l e R s m args below meth c H locs cells slots Q (F0 m (pc + 3) ls rest)) : W p l e R s m args below meth c H locs cells slots Q (F0 m pc ls (.int x :: rest)) := lv_if_le hexec hb hdg ht (fun z => kt ((fr_le hx fr_0).mp z)) (fun z => kf (Int.not_le.mp (fun h => z ((fr_le hx fr_0).mpr h))))
theorem j_icmp_eq (hexec : p.tables.exec = Jvm.exec) (hb : c.code = cc) {x y : Int32} {X Y : Int} {off : Int} {tgt : Nat} (hdg : decode cc pc = .ok (.if_icmp .eq off, 3)) (ht : (pc : Int) + off = (tgt : Int)) (hx : x.toInt = X) (hy : y.toInt = Y) (kt : X = Y → W p l e R s m args below meth c H locs cells slots Q (F0 m tgt ls rest)) (kf : X ≠ Y → W p l e R s m args below meth c H locs cells slots Q (F0 m (pc + 3) ls rest)) : W p l e R s m args below meth c H locs cells slots Q (F0 m pc ls (.int y :: .int x :: rest)) := lv_icmp_eq hexec hb hdg ht (fun z => kt ((fr_eq hx hy).mp z)) (fun z => kf (fun h => z ((fr_eq hx hy).mpr h)))
theorem j_if_eq (hexec : p.tables.exec = Jvm.exec) (hb : c.code = cc) {x : Int32} {X : Int} {off : Int} {tgt : Nat} (hdg : decode cc pc = .ok (.ifCond .eq off, 3)) (ht : (pc : Int) + off = (tgt : Int)) (hx : x.toInt = X) (kt : X = 0 → W p l e R s m args below meth c H locs cells slots Q (F0 m tgt ls rest)) (kf : X ≠ 0 → W p l e R s m args below meth c H locs cells slots Q (F0 m (pc + 3) ls rest)) : W p l e R s m args below meth c H locs cells slots Q (F0 m pc ls (.int x :: rest)) := lv_if_eq hexec hb hdg ht (fun z => kt ((fr_eq hx fr_0).mp z)) (fun z => kf (fun h => z ((fr_eq hx fr_0).mpr h)))
theorem j_icmp_ne (hexec : p.tables.exec = Jvm.exec) (hb : c.code = cc) {x y : Int32} {X Y : Int} {off : Int} {tgt : Nat} (hdg : decode cc pc = .ok (.if_icmp .ne off, 3)) (ht : (pc : Int) + off = (tgt : Int)) (hx : x.toInt = X) (hy : y.toInt = Y) (kt : X ≠ Y → W p l e R s m args below meth c H locs cells slots Q (F0 m tgt ls rest)) (kf : X = Y → W p l e R s m args below meth c H locs cells slots Q (F0 m (pc + 3) ls rest)) : W p l e R s m args below meth c H locs cells slots Q (F0 m pc ls (.int y :: .int x :: rest)) := lv_icmp_ne hexec hb hdg ht (fun z => kt (fun h => z ((fr_eq hx hy).mpr h))) (fun z => kf ((fr_eq hx hy).mp z))
theorem j_if_ne (hexec : p.tables.exec = Jvm.exec) (hb : c.code = cc) {x : Int32} {X : Int} {off : Int} {tgt : Nat} (hdg : decode cc pc = .ok (.ifCond .ne off, 3)) (ht : (pc : Int) + off = (tgt : Int)) (hx : x.toInt = X) (kt : X ≠ 0 → W p l e R s m args below meth c H locs cells slots Q (F0 m tgt ls rest)) (kf : X = 0 → W p l e R s m args below meth c H locs cells slots Q (F0 m (pc + 3) ls rest)) : W p l e R s m args below meth c H locs cells slots Q (F0 m pc ls (.int x :: rest)) := lv_if_ne hexec hb hdg ht (fun z => kt (fun h => z ((fr_eq hx fr_0).mpr h))) (fun z => kf ((fr_eq hx fr_0).mp z))
theorem n_iadd (hexec : p.tables.exec = Jvm.exec) (hb : c.code = cc) {a b : Nat} (hdg : decode cc pc = .ok (.iadd, 1)) (k : W p l e R s m args below meth c H locs cells slots Q (F0 m (pc + 1) ls (.int (nI (a + b)) :: rest))) : W p l e R s m args below meth c H locs cells slots Q (F0 m pc ls (.int (nI b) :: .int (nI a) :: rest)) := lv_iadd hexec hb hdg (by rw [nI_add]; exact k)
theorem n_isub (hexec : p.tables.exec = Jvm.exec) (hb : c.code = cc) {a b : Nat} (hdg : decode cc pc = .ok (.isub, 1)) (h : b ≤ a) (k : W p l e R s m args below meth c H locs cells slots Q (F0 m (pc + 1) ls (.int (nI (a - b)) :: rest))) : W p l e R s m args below meth c H locs cells slots Q (F0 m pc ls (.int (nI b) :: .int (nI a) :: rest)) := lv_isub hexec hb hdg (by rw [pk_sub h]; exact k)
theorem n_imul (hexec : p.tables.exec = Jvm.exec) (hb : c.code = cc) {a b : Nat} (hdg : decode cc pc = .ok (.imul, 1)) (k : W p l e R s m args below meth c H locs cells slots Q (F0 m (pc + 1) ls (.int (nI (a * b)) :: rest))) : W p l e R s m args below meth c H locs cells slots Q (F0 m pc ls (.int (nI b) :: .int (nI a) :: rest)) := lv_imul hexec hb hdg (by rw [pk_mul]; exact k)
theorem n_ixor (hexec : p.tables.exec = Jvm.exec) (hb : c.code = cc) {a b : Nat} (hdg : decode cc pc = .ok (.ixor, 1)) (k : W p l e R s m args below meth c H locs cells slots Q (F0 m (pc + 1) ls (.int (nI (a ^^^ b)) :: rest))) : W p l e R s m args below meth c H locs cells slots Q (F0 m pc ls (.int (nI b) :: .int (nI a) :: rest)) := lv_ixor hexec hb hdg (by rw [fr_xor]; exact k)
theorem n_ior (hexec : p.tables.exec = Jvm.exec) (hb : c.code = cc) {a b : Nat} (hdg : decode cc pc = .ok (.ior, 1)) (k : W p l e R s m args below meth c H locs cells slots Q (F0 m (pc + 1) ls (.int (nI (a ||| b)) :: rest))) : W p l e R s m args below meth c H locs cells slots Q (F0 m pc ls (.int (nI b) :: .int (nI a) :: rest)) := lv_ior hexec hb hdg (by rw [fr_or]; exact k)
theorem n_irem (hexec : p.tables.exec = Jvm.exec) (hb : c.code = cc) {a b : Nat} (hdg : decode cc pc = .ok (.irem, 1)) (ha : a < 2 ^ 31) (h0 : 0 < b) (h1 : b < 2 ^ 31) (k : W p l e R s m args below meth c H locs cells slots Q (F0 m (pc + 1) ls (.int (nI (a % b)) :: rest))) : W p l e R s m args below meth c H locs cells slots Q (F0 m pc ls (.int (nI b) :: .int (nI a) :: rest)) := lv_irem hexec hb hdg (nI_ne0 h0 h1) (by rw [pk_rem ha h0 h1]; exact k)
theorem n_idiv (hexec : p.tables.exec = Jvm.exec) (hb : c.code = cc) {a b : Nat} (hdg : decode cc pc = .ok (.idiv, 1)) (ha : a < 2 ^ 31) (h0 : 0 < b) (h1 : b < 2 ^ 31) (k : W p l e R s m args below meth c H locs cells slots Q (F0 m (pc + 1) ls (.int (nI (a / b)) :: rest))) : W p l e R s m args below meth c H locs cells slots Q (F0 m pc ls (.int (nI b) :: .int (nI a) :: rest)) := lv_idiv hexec hb hdg (nI_ne0 h0 h1) (by rw [pk_div ha h0 h1]; exact k)
theorem n_ishl (hexec : p.tables.exec = Jvm.exec) (hb : c.code = cc) {a b : Nat} (hdg : decode cc pc = .ok (.ishl, 1)) (h0 : b < 32) (h1 : a * 2 ^ b < 2 ^ 32) (k : W p l e R s m args below meth c H locs cells slots Q (F0 m (pc + 1) ls (.int (nI (a * 2 ^ b)) :: rest))) : W p l e R s m args below meth c H locs cells slots Q (F0 m pc ls (.int (nI b) :: .int (nI a) :: rest)) := lv_ishl hexec hb hdg (by rw [pk_shlN (nI b &&& 31) b (fr_sm b h0) h1]; exact k)
theorem n_ishr (hexec : p.tables.exec = Jvm.exec) (hb : c.code = cc) {a b : Nat} (hdg : decode cc pc = .ok (.ishr, 1)) (h0 : b < 32) (h1 : a < 2 ^ 31) (k : W p l e R s m args below meth c H locs cells slots Q (F0 m (pc + 1) ls (.int (nI (a / 2 ^ b)) :: rest))) : W p l e R s m args below meth c H locs cells slots Q (F0 m pc ls (.int (nI b) :: .int (nI a) :: rest)) := lv_ishr hexec hb hdg (by rw [pk_shrN h1 (nI b &&& 31) b (fr_sm b h0)]; exact k)
theorem n_iand1 (hexec : p.tables.exec = Jvm.exec) (hb : c.code = cc) {a : Nat} (hdg : decode cc pc = .ok (.iand, 1)) (h : a < 2 ^ 32) (k : W p l e R s m args below meth c H locs cells slots Q (F0 m (pc + 1) ls (.int (nI (a % 2)) :: rest))) : W p l e R s m args below meth c H locs cells slots Q (F0 m pc ls (.int (nI 1) :: .int (nI a) :: rest)) := lv_iand hexec hb hdg (by rw [fr_and1 h]; exact k)
theorem n_top {x y : Int32} (h : x = y) (k : W p l e R s m args below meth c H locs cells slots Q (F0 m pc ls (.int y :: rest))) : W p l e R s m args below meth c H locs cells slots Q (F0 m pc ls (.int x :: rest)) := by subst h; exact k
theorem n_topl {x y : Int64} (h : x = y) (k : W p l e R s m args below meth c H locs cells slots Q (F0 m pc ls (.long y :: rest))) : W p l e R s m args below meth c H locs cells slots Q (F0 m pc ls (.long x :: rest)) := by subst h; exact k
theorem j_lc_lt (hexec : p.tables.exec = Jvm.exec) (hb : c.code = cc) {x y : Int64} {X Y : Int} {off : Int} {tgt : Nat} (hdg : decode cc pc = .ok (.lcmp, 1)) (hdg2 : decode cc (pc + 1) = .ok (.ifCond .lt off, 3)) (ht : ((pc + 1 : Nat) : Int) + off = (tgt : Int)) (hx : x.toInt = X) (hy : y.toInt = Y) (kt : X < Y → W p l e R s m args below meth c H locs cells slots Q (F0 m tgt ls rest)) (kf : Y ≤ X → W p l e R s m args below meth c H locs cells slots Q (F0 m (pc + 1 + 3) ls rest)) : W p l e R s m args below meth c H locs cells slots Q (F0 m pc ls (.long y :: .long x :: rest)) := W.lcmp hexec hb hdg (lv_if_lt hexec hb hdg2 ht (fun z => kt ((fr_lt64 hx hy).mp ((lg_cmp_lt x y).mp z))) (fun z => kf (Int.not_lt.mp (fun h => z ((lg_cmp_lt x y).mpr ((fr_lt64 hx hy).mpr h))))))
theorem j_lc_gt (hexec : p.tables.exec = Jvm.exec) (hb : c.code = cc) {x y : Int64} {X Y : Int} {off : Int} {tgt : Nat} (hdg : decode cc pc = .ok (.lcmp, 1)) (hdg2 : decode cc (pc + 1) = .ok (.ifCond .gt off, 3)) (ht : ((pc + 1 : Nat) : Int) + off = (tgt : Int)) (hx : x.toInt = X) (hy : y.toInt = Y) (kt : Y < X → W p l e R s m args below meth c H locs cells slots Q (F0 m tgt ls rest)) (kf : X ≤ Y → W p l e R s m args below meth c H locs cells slots Q (F0 m (pc + 1 + 3) ls rest)) : W p l e R s m args below meth c H locs cells slots Q (F0 m pc ls (.long y :: .long x :: rest)) := W.lcmp hexec hb hdg (lv_if_gt hexec hb hdg2 ht (fun z => kt ((fr_lt64 hy hx).mp ((lg_cmp_gt x y).mp z))) (fun z => kf (Int.not_lt.mp (fun h => z ((lg_cmp_gt x y).mpr ((fr_lt64 hy hx).mpr h))))))
end FRA
section FRB
variable {p : Program} {l : Launch} {e : Env} {R : Room} {s : State} {m : MethodId} {args : Array Value} {below : List Frame} {meth : Method} {c : Code} {H : Heap} {locs : List Loc} {cells slots : Nat} {Q : State → Prop}
variable {cc : ByteArray} {pc : Nat} {ls : Array Slot} {rest : List Value} {D : va_G} {cl : List vw_C} {A : Nat → Prop} {a : Nat} {tys : List (ClassId × FieldType)} {ws : va_W} {H0 : Heap}
theorem n_aldi (hexec : p.tables.exec = Jvm.exec) (hb : c.code = cc) (hK : va_K D cl tys s) (hP : va_P D cl ws H) (q0 t0 : Nat) {cA : ClassId} {n : Nat} {f : Nat → Int32} (ha : ws[q0]? = some (a, .inl (cA, n, .inl f))) (ht : tys[t0]? = some (cA, .int)) {i : Nat} (h1 : i < n) (h2 : n < 2 ^ 31) {v : Int32} (hv : f i = v) (hdg : decode cc pc = .ok (.iaload, 1)) (k : W p l e R s m args below meth c H locs cells slots Q (F0 m (pc + 1) ls (.int v :: rest))) : W p l e R s m args below meth c H locs cells slots Q (F0 m pc ls (.int (nI i) :: .ref a :: rest)) :=
  va_iald hexec hb hK hP q0 t0 ha ht (vp_in_nI h1 h2) hdg (by rw [nI_clamp (Nat.lt_trans h1 h2), hv]; exact k)
theorem n_aldq (hexec : p.tables.exec = Jvm.exec) (hb : c.code = cc) (hK : va_K D cl tys s) (hP : va_P D cl ws H) (q0 t0 : Nat) {cA : ClassId} {C : String} {n : Nat} {f : Nat → Option Nat} (ha : ws[q0]? = some (a, .inl (cA, n, .inr (.inr (.inr (.inr f)))))) (ht : tys[t0]? = some (cA, .object C)) {i : Nat} (h1 : i < n) (h2 : n < 2 ^ 31) {v : Value} (hv : va_rf (f i) = v) (hdg : decode cc pc = .ok (.aaload, 1)) (k : W p l e R s m args below meth c H locs cells slots Q (F0 m (pc + 1) ls (v :: rest))) : W p l e R s m args below meth c H locs cells slots Q (F0 m pc ls (.int (nI i) :: .ref a :: rest)) :=
  va_aldq hexec hb hK hP q0 t0 ha ht (vp_in_nI h1 h2) hdg (by rw [nI_clamp (Nat.lt_trans h1 h2), hv]; exact k)
theorem n_asti (hexec : p.tables.exec = Jvm.exec) (hb : c.code = cc) (hK : va_K D cl tys s) (hP : va_P D cl ws H) (hD : va_D A ws) (hS : va_S A H0 H locs) (q0 t0 : Nat) {cA : ClassId} {n : Nat} {f : Nat → Int32} (ha : ws[q0]? = some (a, .inl (cA, n, .inl f))) (ht : tys[t0]? = some (cA, .int)) {i : Nat} {x : Int32} (h1 : i < n) (h2 : n < 2 ^ 31) (hdg : decode cc pc = .ok (.iastore, 1))
    (kk : ∀ (H1 : Heap) (locs1 : List Loc), va_P D cl (ws.set q0 (a, .inl (cA, n, .inl (upd f i x)))) H1 → va_D A (ws.set q0 (a, .inl (cA, n, .inl (upd f i x)))) → va_S A H0 H1 locs1 → W p l e R s m args below meth c H1 locs1 cells slots Q (F0 m (pc + 1) ls rest)) : W p l e R s m args below meth c H locs cells slots Q (F0 m pc ls (.int x :: .int (nI i) :: .ref a :: rest)) :=
  va_iast hexec hb hK hP hD hS q0 t0 ha ht (vp_in_nI h1 h2) hdg (fun H1 l1 => by rw [nI_clamp (Nat.lt_trans h1 h2)]; exact kk H1 l1)
end FRB
/-- a world and the tables, for a method that only reads -/
def rP (D : va_G) (tys : List (ClassId × FieldType)) (ws : va_W) (U : State) : Prop := va_P D vwCl ws U.heap ∧ va_K D vwCl tys U
theorem rP_blind {av : List Value} {D : va_G} {tys : List (ClassId × FieldType)} {ws : va_W} : FrameBlind (va_Pc av (rP D tys ws)) := fun a U g mk q => ⟨q.1, q.2.1, va_K.moved (u := U) (U := U.calling g mk a) (Vm.Alike.refl U.vm) q.2.2⟩
abbrev ROi (l : Launch) (y : MethodName) (cw : List Cond) (rm : Room) (D : va_G) (tys : List (ClassId × FieldType)) (ws : va_W) (av : List Value) (r : Int32) : Prop := Met l y cw rm (va_Pc av (rP D tys ws)) (vp_Si (fun x => x = r)) 0 0 (fun _ => False)
abbrev ROl (l : Launch) (y : MethodName) (cw : List Cond) (rm : Room) (D : va_G) (tys : List (ClassId × FieldType)) (ws : va_W) (av : List Value) (r : Int64) : Prop := Met l y cw rm (va_Pc av (rP D tys ws)) (vp_Sl (fun x => x = r)) 0 0 (fun _ => False)
abbrev ROq (l : Launch) (y : MethodName) (cw : List Cond) (rm : Room) (D : va_G) (tys : List (ClassId × FieldType)) (ws : va_W) (av : List Value) (r : Option Nat) : Prop := Met l y cw rm (va_Pc av (rP D tys ws)) (va_Sq (fun x => x = r)) 0 0 (fun _ => False)
/-- a world and the tables, for a method that writes -/
def wP (D : va_G) (tys : List (ClassId × FieldType)) (ws : va_W) (sz : Nat) (U : State) : Prop := U.heap.size = sz ∧ va_P D vwCl ws U.heap ∧ va_K D vwCl tys U ∧ va_D (fun _ => True) ws
theorem wP_blind {av : List Value} {D : va_G} {tys : List (ClassId × FieldType)} {ws : va_W} {sz : Nat} : FrameBlind (va_Pc av (wP D tys ws sz)) := fun a U g mk q => ⟨q.1, q.2.1, q.2.2.1, va_K.moved (u := U) (U := U.calling g mk a) (Vm.Alike.refl U.vm) q.2.2.2.1, q.2.2.2.2⟩
def wB (D : va_G) (tys : List (ClassId × FieldType)) (A : Nat → Prop) (ws : va_W) (t : State) : Prop := va_P D vwCl ws t.heap ∧ va_K D vwCl tys t ∧ va_D A ws
abbrev WI {S : Type} (l : Launch) (y : MethodName) (cw : List Cond) (rm : Room) (D : va_G) (tys : List (ClassId × FieldType)) (ws : va_W) (sz : Nat) (av : List Value) (post : Int32 → S → Prop) (wp : S → va_W) : Prop := Met l y cw rm (va_Pc av (wP D tys ws sz)) (va_Qi post (fun u t => wB D tys (va_A ws sz) (wp u) t) (va_A ws sz)) 0 0 (va_A ws sz)
abbrev WL {S : Type} (l : Launch) (y : MethodName) (cw : List Cond) (rm : Room) (D : va_G) (tys : List (ClassId × FieldType)) (ws : va_W) (sz : Nat) (av : List Value) (post : Int64 → S → Prop) (wp : S → va_W) : Prop := Met l y cw rm (va_Pc av (wP D tys ws sz)) (va_Ql post (fun u t => wB D tys (va_A ws sz) (wp u) t) (va_A ws sz)) 0 0 (va_A ws sz)
abbrev WV {S : Type} (l : Launch) (y : MethodName) (cw : List Cond) (rm : Room) (D : va_G) (tys : List (ClassId × FieldType)) (ws : va_W) (sz : Nat) (av : List Value) (post : S → Prop) (wp : S → va_W) : Prop := Met l y cw rm (va_Pc av (wP D tys ws sz)) (va_Qv post (fun u t => wB D tys (va_A ws sz) (wp u) t) (va_A ws sz)) 0 0 (va_A ws sz)
theorem vaP_l {D : va_G} {cl : List vw_C} {a b : va_W} {H : Heap} (h : va_P D cl (a ++ b) H) : va_P D cl a H := fun k q hk => h k q (by rw [List.getElem?_append_left (List.getElem?_eq_some_iff.mp hk).1]; exact hk)
theorem vaP_r {D : va_G} {cl : List vw_C} {a b : va_W} {H : Heap} (h : va_P D cl (a ++ b) H) : va_P D cl b H := fun k q hk => h (a.length + k) q (by rw [List.getElem?_append_right (Nat.le_add_right _ _), Nat.add_sub_cancel_left]; exact hk)
theorem vaD_l {A : Nat → Prop} {a b : va_W} (h : va_D A (a ++ b)) : va_D A a := ⟨fun i j p q hi hj e => h.1 i j p q (by rw [List.getElem?_append_left (List.getElem?_eq_some_iff.mp hi).1]; exact hi) (by rw [List.getElem?_append_left (List.getElem?_eq_some_iff.mp hj).1]; exact hj) e, fun k q hk => h.2 k q (by rw [List.getElem?_append_left (List.getElem?_eq_some_iff.mp hk).1]; exact hk)⟩
theorem vaD_r {A : Nat → Prop} {a b : va_W} (h : va_D A (a ++ b)) : va_D A b := ⟨fun i j p q hi hj e => by
    have := h.1 (a.length + i) (a.length + j) p q (by rw [List.getElem?_append_right (Nat.le_add_right _ _), Nat.add_sub_cancel_left]; exact hi) (by rw [List.getElem?_append_right (Nat.le_add_right _ _), Nat.add_sub_cancel_left]; exact hj) e
    omega, fun k q hk => h.2 (a.length + k) q (by rw [List.getElem?_append_right (Nat.le_add_right _ _), Nat.add_sub_cancel_left]; exact hk)⟩
theorem vaD_ne {A : Nat → Prop} {a b : va_W} (h : va_D A (a ++ b)) {i j : Nat} {p q : Nat × va_E} (hi : a[i]? = some p) (hj : b[j]? = some q) : p.1 ≠ q.1 := fun e => by
  have hl := (List.getElem?_eq_some_iff.mp hi).1
  have := h.1 i (a.length + j) p q (by rw [List.getElem?_append_left hl]; exact hi) (by rw [List.getElem?_append_right (Nat.le_add_right _ _), Nat.add_sub_cancel_left]; exact hj) e
  omega
/-- behind a call: what stood ahead of the callee's world, its new world, and what stood behind -/
theorem fr_join {A0 : Nat → Prop} {D : va_G} {cl : List vw_C} {X ws Y w1 : va_W} {H H1 : Heap} (hP : va_P D cl (X ++ (ws ++ Y)) H) (hD : va_D A0 (X ++ (ws ++ Y))) (hF : ∀ q, va_A ws H.size q → A0 q) (hk : ∀ q : Nat, q < H.size → ¬ va_A ws H.size q → H1[q]? = H[q]?) (hP1 : va_P D cl w1 H1) (hD1 : va_D (va_A ws H.size) w1) : va_P D cl (X ++ (w1 ++ Y)) H1 ∧ va_D A0 (X ++ (w1 ++ Y)) := by
  have out1 : ∀ (k : Nat) (q : Nat × va_E), X[k]? = some q → q.1 < H.size ∧ ¬ va_A ws H.size q.1 := by
    intro k q hq
    have hl := (vaP_l hP k q hq).lt
    refine ⟨hl, fun h => ?_⟩
    rcases h with ⟨k2, e, h⟩ | h
    · refine vaD_ne hD hq (j := k2) (q := (q.1, e)) ?_ rfl
      rw [List.getElem?_append_left (List.getElem?_eq_some_iff.mp h).1]; exact h
    · omega
  have out2 : ∀ (k : Nat) (q : Nat × va_E), Y[k]? = some q → q.1 < H.size ∧ ¬ va_A ws H.size q.1 := by
    intro k q hq
    have hl := (vaP_r (vaP_r hP) k q hq).lt
    refine ⟨hl, fun h => ?_⟩
    rcases h with ⟨k2, e, h⟩ | h
    · exact vaD_ne (vaD_r hD) h hq rfl
    · omega
  refine ⟨va_P.app (fun k q hq => ?_) (va_P.app hP1 (fun k q hq => ?_)), va_D.app (vaD_l hD) (va_D.app (hD1.weaken (fun k q _ h => hF q.1 h)) (vaD_r (vaD_r hD)) (fun i j x y hx hy hxy => ?_)) (fun i j x y hx hy hxy => ?_)⟩
  · exact (vaP_l hP k q hq).kept (hk q.1 (out1 k q hq).1 (out1 k q hq).2)
  · exact (vaP_r (vaP_r hP) k q hq).kept (hk q.1 (out2 k q hq).1 (out2 k q hq).2)
  · exact (out2 j y hy).2 (by rw [← hxy]; exact hD1.2 i x hx)
  · rcases Nat.lt_or_ge j w1.length with hj | hj
    · rw [List.getElem?_append_left hj] at hy
      exact (out1 i x hx).2 (by rw [hxy]; exact hD1.2 j y hy)
    · rw [List.getElem?_append_right hj] at hy
      exact vaD_ne hD hx (j := ws.length + (j - w1.length)) (q := y) (by rw [List.getElem?_append_right (Nat.le_add_right _ _), Nat.add_sub_cancel_left]; exact hy) hxy
section FRC
variable {p : Program} {l : Launch} {e : Env} {R : Room} {s : State} {m : MethodId} {args : Array Value} {below : List Frame} {meth : Method} {c : Code} {H : Heap} {locs : List Loc} {cells slots : Nat} {Q : State → Prop}
variable {cc : ByteArray} {pc : Nat} {ls : Array Slot} {rest st : List Value} {D : va_G} {tys : List (ClassId × FieldType)} {ws X Y : va_W} {Ts cw : List Cond} {own C : String} {y : MethodName} {bytes : ByteArray} {maxL index n nL : Nat} {ret : Option FieldType} {rm : Room} {b : Nat} {As : List Value} {A0 : Nat → Prop} {H0 : Heap}
theorem ro_iV {r : Int32} (S : CallFix p m c cc nL s args Ts own) (hM : ROi l y cw rm D tys ws (.ref b :: As) r) (hc : CallW R s args own C index y bytes maxL ret cw rm 0 0 n) (hrecv : ∃ cellB : Cell, H[b]? = some cellB ∧ cellB.vm.isStatics = false ∧ s.vm.findClass C = some cellB.cls) (hK : va_K D vwCl tys s) (hP : va_P D vwCl ws H) (hn : As.length = n) (hsize : ls.size = nL) (hst : st = As.reverse ++ .ref b :: rest) (hW : (rest.map fun v => v.category).sum ≤ 8) (hdg : decode cc pc = .ok (.invokevirtual index, 3)) (hf : cells ≤ R.cells ∧ slots ≤ R.slots) (k : W p l e R s m args below meth c H locs cells slots Q (F0 m (pc + 3) ls (.int r :: rest))) : W p l e R s m args below meth c H locs cells slots Q (F0 m pc ls st) :=
  vp_callSi (W.runV (mc := 0) (ms := 0) S hM hc ⟨rP_blind, hrecv, fun U hU hW => ⟨rfl, by rw [hU]; exact hP, va_K.moved hW.alike hK⟩⟩ rfl hn hsize hst (lv_room hW) hdg hf) (fun x hx => by subst hx; exact k)
theorem ro_lV {r : Int64} (S : CallFix p m c cc nL s args Ts own) (hM : ROl l y cw rm D tys ws (.ref b :: As) r) (hc : CallW R s args own C index y bytes maxL ret cw rm 0 0 n) (hrecv : ∃ cellB : Cell, H[b]? = some cellB ∧ cellB.vm.isStatics = false ∧ s.vm.findClass C = some cellB.cls) (hK : va_K D vwCl tys s) (hP : va_P D vwCl ws H) (hn : As.length = n) (hsize : ls.size = nL) (hst : st = As.reverse ++ .ref b :: rest) (hW : (rest.map fun v => v.category).sum ≤ 8) (hdg : decode cc pc = .ok (.invokevirtual index, 3)) (hf : cells ≤ R.cells ∧ slots ≤ R.slots) (k : W p l e R s m args below meth c H locs cells slots Q (F0 m (pc + 3) ls (.long r :: rest))) : W p l e R s m args below meth c H locs cells slots Q (F0 m pc ls st) :=
  vp_callSl (W.runV (mc := 0) (ms := 0) S hM hc ⟨rP_blind, hrecv, fun U hU hW => ⟨rfl, by rw [hU]; exact hP, va_K.moved hW.alike hK⟩⟩ rfl hn hsize hst (lv_room hW) hdg hf) (fun x hx => by subst hx; exact k)
theorem ro_qV {r : Option Nat} (S : CallFix p m c cc nL s args Ts own) (hM : ROq l y cw rm D tys ws (.ref b :: As) r) (hc : CallW R s args own C index y bytes maxL ret cw rm 0 0 n) (hrecv : ∃ cellB : Cell, H[b]? = some cellB ∧ cellB.vm.isStatics = false ∧ s.vm.findClass C = some cellB.cls) (hK : va_K D vwCl tys s) (hP : va_P D vwCl ws H) (hn : As.length = n) (hsize : ls.size = nL) (hst : st = As.reverse ++ .ref b :: rest) (hW : (rest.map fun v => v.category).sum ≤ 8) (hdg : decode cc pc = .ok (.invokevirtual index, 3)) (hf : cells ≤ R.cells ∧ slots ≤ R.slots) (k : W p l e R s m args below meth c H locs cells slots Q (F0 m (pc + 3) ls (va_rf r :: rest))) : W p l e R s m args below meth c H locs cells slots Q (F0 m pc ls st) :=
  va_csq (W.runV (mc := 0) (ms := 0) S hM hc ⟨rP_blind, hrecv, fun U hU hW => ⟨rfl, by rw [hU]; exact hP, va_K.moved hW.alike hK⟩⟩ rfl hn hsize hst (lv_room hW) hdg hf) (fun x hx => by subst hx; exact k)
theorem ro_iS {r : Int32} (S : CallFix p m c cc nL s args Ts own) (hM : ROi l y cw rm D tys ws As r) (hc : CallB R s args own index y bytes maxL ret cw rm 0 0 n ∧ (Cond.static y).before args s = true) (hK : va_K D vwCl tys s) (hP : va_P D vwCl ws H) (hn : As.length = n) (hsize : ls.size = nL) (hst : st = As.reverse ++ rest) (hW : (rest.map fun v => v.category).sum ≤ 8) (hdg : decode cc pc = .ok (.invokestatic index, 3)) (hf : cells ≤ R.cells ∧ slots ≤ R.slots) (k : W p l e R s m args below meth c H locs cells slots Q (F0 m (pc + 3) ls (.int r :: rest))) : W p l e R s m args below meth c H locs cells slots Q (F0 m pc ls st) :=
  vp_callSi (W.runS (mc := 0) (ms := 0) S hM hc ⟨rP_blind, fun U hU hW => ⟨rfl, by rw [hU]; exact hP, va_K.moved hW.alike hK⟩⟩ rfl hn hsize hst (lv_room hW) hdg hf) (fun x hx => by subst hx; exact k)
theorem ro_lS {r : Int64} (S : CallFix p m c cc nL s args Ts own) (hM : ROl l y cw rm D tys ws As r) (hc : CallB R s args own index y bytes maxL ret cw rm 0 0 n ∧ (Cond.static y).before args s = true) (hK : va_K D vwCl tys s) (hP : va_P D vwCl ws H) (hn : As.length = n) (hsize : ls.size = nL) (hst : st = As.reverse ++ rest) (hW : (rest.map fun v => v.category).sum ≤ 8) (hdg : decode cc pc = .ok (.invokestatic index, 3)) (hf : cells ≤ R.cells ∧ slots ≤ R.slots) (k : W p l e R s m args below meth c H locs cells slots Q (F0 m (pc + 3) ls (.long r :: rest))) : W p l e R s m args below meth c H locs cells slots Q (F0 m pc ls st) :=
  vp_callSl (W.runS (mc := 0) (ms := 0) S hM hc ⟨rP_blind, fun U hU hW => ⟨rfl, by rw [hU]; exact hP, va_K.moved hW.alike hK⟩⟩ rfl hn hsize hst (lv_room hW) hdg hf) (fun x hx => by subst hx; exact k)
theorem ro_qS {r : Option Nat} (S : CallFix p m c cc nL s args Ts own) (hM : ROq l y cw rm D tys ws As r) (hc : CallB R s args own index y bytes maxL ret cw rm 0 0 n ∧ (Cond.static y).before args s = true) (hK : va_K D vwCl tys s) (hP : va_P D vwCl ws H) (hn : As.length = n) (hsize : ls.size = nL) (hst : st = As.reverse ++ rest) (hW : (rest.map fun v => v.category).sum ≤ 8) (hdg : decode cc pc = .ok (.invokestatic index, 3)) (hf : cells ≤ R.cells ∧ slots ≤ R.slots) (k : W p l e R s m args below meth c H locs cells slots Q (F0 m (pc + 3) ls (va_rf r :: rest))) : W p l e R s m args below meth c H locs cells slots Q (F0 m pc ls st) :=
  va_csq (W.runS (mc := 0) (ms := 0) S hM hc ⟨rP_blind, fun U hU hW => ⟨rfl, by rw [hU]; exact hP, va_K.moved hW.alike hK⟩⟩ rfl hn hsize hst (lv_room hW) hdg hf) (fun x hx => by subst hx; exact k)
theorem rw_iV {S : Type} {post : Int32 → S → Prop} {wp : S → va_W} (hS9 : CallFix p m c cc nL s args Ts own) (hM : WI l y cw rm D tys ws H.size (.ref b :: As) post wp) (hc : CallW R s args own C index y bytes maxL ret cw rm 0 0 n) (hrecv : ∃ cellB : Cell, H[b]? = some cellB ∧ cellB.vm.isStatics = false ∧ s.vm.findClass C = some cellB.cls) (hK : va_K D vwCl tys s) (hP : va_P D vwCl (X ++ (ws ++ Y)) H) (hD : va_D A0 (X ++ (ws ++ Y))) (hS : va_S A0 H0 H locs) (hA : ∀ q, H0.size ≤ q → A0 q) (hn : As.length = n) (hsize : ls.size = nL) (hst : st = As.reverse ++ .ref b :: rest) (hW : (rest.map fun v => v.category).sum ≤ 8) (hdg : decode cc pc = .ok (.invokevirtual index, 3)) (hf : cells ≤ R.cells ∧ slots ≤ R.slots) (k : ∀ (r : Int32) (u : S) (H1 : Heap) (locs1 : List Loc), post r u → va_P D vwCl (X ++ (wp u ++ Y)) H1 → va_D A0 (X ++ (wp u ++ Y)) → va_S A0 H0 H1 locs1 → W p l e R s m args below meth c H1 locs1 cells slots Q (F0 m (pc + 3) ls (.int r :: rest))) : W p l e R s m args below meth c H locs cells slots Q (F0 m pc ls st) := by
  have hF : ∀ q, va_A ws H.size q → A0 q := by
    intro q h
    rcases h with ⟨k, e, h⟩ | h
    · exact (vaD_l (vaD_r hD)).2 k (q, e) h
    · exact hA q (Nat.le_trans hS.1 h)
  refine va_calli (va_runV (mc := 0) (ms := 0) hS9 hM hc ⟨wP_blind, hrecv, fun U hU hW => ⟨rfl, by rw [hU], by rw [hU]; exact vaP_l (vaP_r hP), va_K.moved hW.alike hK, (vaD_l (vaD_r hD)).weaken (fun _ _ _ _ => trivial)⟩⟩ rfl hn hsize hst (lv_room hW) hdg hf) hS (fun q _ h => hF q h) hF (fun r u t H1 locs1 ht hvm hw hB hz hk hS1 => ?_)
  obtain ⟨hP1, hK1, hD1⟩ := hB
  rw [ht] at hP1
  obtain ⟨hP2, hD2⟩ := fr_join hP hD hF hk hP1 hD1
  exact k r u H1 locs1 hw hP2 hD2 hS1
theorem rw_lV {S : Type} {post : Int64 → S → Prop} {wp : S → va_W} (hS9 : CallFix p m c cc nL s args Ts own) (hM : WL l y cw rm D tys ws H.size (.ref b :: As) post wp) (hc : CallW R s args own C index y bytes maxL ret cw rm 0 0 n) (hrecv : ∃ cellB : Cell, H[b]? = some cellB ∧ cellB.vm.isStatics = false ∧ s.vm.findClass C = some cellB.cls) (hK : va_K D vwCl tys s) (hP : va_P D vwCl (X ++ (ws ++ Y)) H) (hD : va_D A0 (X ++ (ws ++ Y))) (hS : va_S A0 H0 H locs) (hA : ∀ q, H0.size ≤ q → A0 q) (hn : As.length = n) (hsize : ls.size = nL) (hst : st = As.reverse ++ .ref b :: rest) (hW : (rest.map fun v => v.category).sum ≤ 8) (hdg : decode cc pc = .ok (.invokevirtual index, 3)) (hf : cells ≤ R.cells ∧ slots ≤ R.slots) (k : ∀ (r : Int64) (u : S) (H1 : Heap) (locs1 : List Loc), post r u → va_P D vwCl (X ++ (wp u ++ Y)) H1 → va_D A0 (X ++ (wp u ++ Y)) → va_S A0 H0 H1 locs1 → W p l e R s m args below meth c H1 locs1 cells slots Q (F0 m (pc + 3) ls (.long r :: rest))) : W p l e R s m args below meth c H locs cells slots Q (F0 m pc ls st) := by
  have hF : ∀ q, va_A ws H.size q → A0 q := by
    intro q h
    rcases h with ⟨k, e, h⟩ | h
    · exact (vaD_l (vaD_r hD)).2 k (q, e) h
    · exact hA q (Nat.le_trans hS.1 h)
  refine va_calll (va_runV (mc := 0) (ms := 0) hS9 hM hc ⟨wP_blind, hrecv, fun U hU hW => ⟨rfl, by rw [hU], by rw [hU]; exact vaP_l (vaP_r hP), va_K.moved hW.alike hK, (vaD_l (vaD_r hD)).weaken (fun _ _ _ _ => trivial)⟩⟩ rfl hn hsize hst (lv_room hW) hdg hf) hS (fun q _ h => hF q h) hF (fun r u t H1 locs1 ht hvm hw hB hz hk hS1 => ?_)
  obtain ⟨hP1, hK1, hD1⟩ := hB
  rw [ht] at hP1
  obtain ⟨hP2, hD2⟩ := fr_join hP hD hF hk hP1 hD1
  exact k r u H1 locs1 hw hP2 hD2 hS1
theorem rw_vV {S : Type} {post : S → Prop} {wp : S → va_W} (hS9 : CallFix p m c cc nL s args Ts own) (hM : WV l y cw rm D tys ws H.size (.ref b :: As) post wp) (hc : CallW R s args own C index y bytes maxL ret cw rm 0 0 n) (hrecv : ∃ cellB : Cell, H[b]? = some cellB ∧ cellB.vm.isStatics = false ∧ s.vm.findClass C = some cellB.cls) (hK : va_K D vwCl tys s) (hP : va_P D vwCl (X ++ (ws ++ Y)) H) (hD : va_D A0 (X ++ (ws ++ Y))) (hS : va_S A0 H0 H locs) (hA : ∀ q, H0.size ≤ q → A0 q) (hn : As.length = n) (hsize : ls.size = nL) (hst : st = As.reverse ++ .ref b :: rest) (hW : (rest.map fun v => v.category).sum ≤ 8) (hdg : decode cc pc = .ok (.invokevirtual index, 3)) (hf : cells ≤ R.cells ∧ slots ≤ R.slots) (k : ∀ (u : S) (H1 : Heap) (locs1 : List Loc), post u → va_P D vwCl (X ++ (wp u ++ Y)) H1 → va_D A0 (X ++ (wp u ++ Y)) → va_S A0 H0 H1 locs1 → W p l e R s m args below meth c H1 locs1 cells slots Q (F0 m (pc + 3) ls rest)) : W p l e R s m args below meth c H locs cells slots Q (F0 m pc ls st) := by
  have hF : ∀ q, va_A ws H.size q → A0 q := by
    intro q h
    rcases h with ⟨k, e, h⟩ | h
    · exact (vaD_l (vaD_r hD)).2 k (q, e) h
    · exact hA q (Nat.le_trans hS.1 h)
  refine va_callv (va_runV (mc := 0) (ms := 0) hS9 hM hc ⟨wP_blind, hrecv, fun U hU hW => ⟨rfl, by rw [hU], by rw [hU]; exact vaP_l (vaP_r hP), va_K.moved hW.alike hK, (vaD_l (vaD_r hD)).weaken (fun _ _ _ _ => trivial)⟩⟩ rfl hn hsize hst (lv_room hW) hdg hf) hS (fun q _ h => hF q h) hF (fun u t H1 locs1 ht hvm hw hB hz hk hS1 => ?_)
  obtain ⟨hP1, hK1, hD1⟩ := hB
  rw [ht] at hP1
  obtain ⟨hP2, hD2⟩ := fr_join hP hD hF hk hP1 hD1
  exact k u H1 locs1 hw hP2 hD2 hS1
theorem rw_iS {S : Type} {post : Int32 → S → Prop} {wp : S → va_W} (hS9 : CallFix p m c cc nL s args Ts own) (hM : WI l y cw rm D tys ws H.size As post wp) (hc : CallB R s args own index y bytes maxL ret cw rm 0 0 n ∧ (Cond.static y).before args s = true) (hK : va_K D vwCl tys s) (hP : va_P D vwCl (X ++ (ws ++ Y)) H) (hD : va_D A0 (X ++ (ws ++ Y))) (hS : va_S A0 H0 H locs) (hA : ∀ q, H0.size ≤ q → A0 q) (hn : As.length = n) (hsize : ls.size = nL) (hst : st = As.reverse ++ rest) (hW : (rest.map fun v => v.category).sum ≤ 8) (hdg : decode cc pc = .ok (.invokestatic index, 3)) (hf : cells ≤ R.cells ∧ slots ≤ R.slots) (k : ∀ (r : Int32) (u : S) (H1 : Heap) (locs1 : List Loc), post r u → va_P D vwCl (X ++ (wp u ++ Y)) H1 → va_D A0 (X ++ (wp u ++ Y)) → va_S A0 H0 H1 locs1 → W p l e R s m args below meth c H1 locs1 cells slots Q (F0 m (pc + 3) ls (.int r :: rest))) : W p l e R s m args below meth c H locs cells slots Q (F0 m pc ls st) := by
  have hF : ∀ q, va_A ws H.size q → A0 q := by
    intro q h
    rcases h with ⟨k, e, h⟩ | h
    · exact (vaD_l (vaD_r hD)).2 k (q, e) h
    · exact hA q (Nat.le_trans hS.1 h)
  refine va_calli (va_runS (mc := 0) (ms := 0) hS9 hM hc ⟨wP_blind, fun U hU hW => ⟨rfl, by rw [hU], by rw [hU]; exact vaP_l (vaP_r hP), va_K.moved hW.alike hK, (vaD_l (vaD_r hD)).weaken (fun _ _ _ _ => trivial)⟩⟩ rfl hn hsize hst (lv_room hW) hdg hf) hS (fun q _ h => hF q h) hF (fun r u t H1 locs1 ht hvm hw hB hz hk hS1 => ?_)
  obtain ⟨hP1, hK1, hD1⟩ := hB
  rw [ht] at hP1
  obtain ⟨hP2, hD2⟩ := fr_join hP hD hF hk hP1 hD1
  exact k r u H1 locs1 hw hP2 hD2 hS1
theorem rw_lS {S : Type} {post : Int64 → S → Prop} {wp : S → va_W} (hS9 : CallFix p m c cc nL s args Ts own) (hM : WL l y cw rm D tys ws H.size As post wp) (hc : CallB R s args own index y bytes maxL ret cw rm 0 0 n ∧ (Cond.static y).before args s = true) (hK : va_K D vwCl tys s) (hP : va_P D vwCl (X ++ (ws ++ Y)) H) (hD : va_D A0 (X ++ (ws ++ Y))) (hS : va_S A0 H0 H locs) (hA : ∀ q, H0.size ≤ q → A0 q) (hn : As.length = n) (hsize : ls.size = nL) (hst : st = As.reverse ++ rest) (hW : (rest.map fun v => v.category).sum ≤ 8) (hdg : decode cc pc = .ok (.invokestatic index, 3)) (hf : cells ≤ R.cells ∧ slots ≤ R.slots) (k : ∀ (r : Int64) (u : S) (H1 : Heap) (locs1 : List Loc), post r u → va_P D vwCl (X ++ (wp u ++ Y)) H1 → va_D A0 (X ++ (wp u ++ Y)) → va_S A0 H0 H1 locs1 → W p l e R s m args below meth c H1 locs1 cells slots Q (F0 m (pc + 3) ls (.long r :: rest))) : W p l e R s m args below meth c H locs cells slots Q (F0 m pc ls st) := by
  have hF : ∀ q, va_A ws H.size q → A0 q := by
    intro q h
    rcases h with ⟨k, e, h⟩ | h
    · exact (vaD_l (vaD_r hD)).2 k (q, e) h
    · exact hA q (Nat.le_trans hS.1 h)
  refine va_calll (va_runS (mc := 0) (ms := 0) hS9 hM hc ⟨wP_blind, fun U hU hW => ⟨rfl, by rw [hU], by rw [hU]; exact vaP_l (vaP_r hP), va_K.moved hW.alike hK, (vaD_l (vaD_r hD)).weaken (fun _ _ _ _ => trivial)⟩⟩ rfl hn hsize hst (lv_room hW) hdg hf) hS (fun q _ h => hF q h) hF (fun r u t H1 locs1 ht hvm hw hB hz hk hS1 => ?_)
  obtain ⟨hP1, hK1, hD1⟩ := hB
  rw [ht] at hP1
  obtain ⟨hP2, hD2⟩ := fr_join hP hD hF hk hP1 hD1
  exact k r u H1 locs1 hw hP2 hD2 hS1
theorem rw_vS {S : Type} {post : S → Prop} {wp : S → va_W} (hS9 : CallFix p m c cc nL s args Ts own) (hM : WV l y cw rm D tys ws H.size As post wp) (hc : CallB R s args own index y bytes maxL ret cw rm 0 0 n ∧ (Cond.static y).before args s = true) (hK : va_K D vwCl tys s) (hP : va_P D vwCl (X ++ (ws ++ Y)) H) (hD : va_D A0 (X ++ (ws ++ Y))) (hS : va_S A0 H0 H locs) (hA : ∀ q, H0.size ≤ q → A0 q) (hn : As.length = n) (hsize : ls.size = nL) (hst : st = As.reverse ++ rest) (hW : (rest.map fun v => v.category).sum ≤ 8) (hdg : decode cc pc = .ok (.invokestatic index, 3)) (hf : cells ≤ R.cells ∧ slots ≤ R.slots) (k : ∀ (u : S) (H1 : Heap) (locs1 : List Loc), post u → va_P D vwCl (X ++ (wp u ++ Y)) H1 → va_D A0 (X ++ (wp u ++ Y)) → va_S A0 H0 H1 locs1 → W p l e R s m args below meth c H1 locs1 cells slots Q (F0 m (pc + 3) ls rest)) : W p l e R s m args below meth c H locs cells slots Q (F0 m pc ls st) := by
  have hF : ∀ q, va_A ws H.size q → A0 q := by
    intro q h
    rcases h with ⟨k, e, h⟩ | h
    · exact (vaD_l (vaD_r hD)).2 k (q, e) h
    · exact hA q (Nat.le_trans hS.1 h)
  refine va_callv (va_runS (mc := 0) (ms := 0) hS9 hM hc ⟨wP_blind, fun U hU hW => ⟨rfl, by rw [hU], by rw [hU]; exact vaP_l (vaP_r hP), va_K.moved hW.alike hK, (vaD_l (vaD_r hD)).weaken (fun _ _ _ _ => trivial)⟩⟩ rfl hn hsize hst (lv_room hW) hdg hf) hS (fun q _ h => hF q h) hF (fun u t H1 locs1 ht hvm hw hB hz hk hS1 => ?_)
  obtain ⟨hP1, hK1, hD1⟩ := hB
  rw [ht] at hP1
  obtain ⟨hP2, hD2⟩ := fr_join hP hD hF hk hP1 hD1
  exact k u H1 locs1 hw hP2 hD2 hS1
theorem ro_iret {v r : Int32} (hexec : p.tables.exec = Jvm.exec) (hb : c.code = cc) (hr : meth.sig.returnType = some .int) (hlocks : meth.locks = false) (hv : v = r) (hdg : decode cc pc = .ok (.ireturn, 1)) : W p l e R s m args below meth c s.heap [] 0 0 (MQ below (vp_Si (fun x => x = r)) args s 0 0 (fun _ => False)) (F0 m pc ls [.int v]) :=
  W.iret hexec hb hr (fun t ht _ => ⟨v, rfl, hv, ht⟩) (fun _ h => by cases h) hdg hlocks
theorem ro_lret {v r : Int64} (hexec : p.tables.exec = Jvm.exec) (hb : c.code = cc) (hr : meth.sig.returnType = some .long) (hlocks : meth.locks = false) (hv : v = r) (hdg : decode cc pc = .ok (.lreturn, 1)) : W p l e R s m args below meth c s.heap [] 0 0 (MQ below (vp_Sl (fun x => x = r)) args s 0 0 (fun _ => False)) (F0 m pc ls [.long v]) :=
  W.lret hexec hb hr (fun t ht _ => ⟨v, rfl, hv, ht⟩) (fun _ h => by cases h) hdg hlocks
theorem ro_zret {v r : Int32} (hexec : p.tables.exec = Jvm.exec) (hb : c.code = cc) (hr : meth.sig.returnType = some .boolean) (hnar : narrow .boolean (.int v) = .int v) (hlocks : meth.locks = false) (hv : v = r) (hdg : decode cc pc = .ok (.ireturn, 1)) : W p l e R s m args below meth c s.heap [] 0 0 (MQ below (vp_Si (fun x => x = r)) args s 0 0 (fun _ => False)) (F0 m pc ls [.int v]) :=
  W.zret hexec hb hr hnar (fun t ht _ => ⟨v, rfl, hv, ht⟩) (fun _ h => by cases h) hdg hlocks
theorem ro_aret {v : Value} {r : Option Nat} {C2 : String} (hexec : p.tables.exec = Jvm.exec) (hb : c.code = cc) (hr : meth.sig.returnType = some (.object C2)) (hlocks : meth.locks = false) (hv : v = va_rf r) (hdg : decode cc pc = .ok (.areturn, 1)) : W p l e R s m args below meth c s.heap [] 0 0 (MQ below (va_Sq (fun x => x = r)) args s 0 0 (fun _ => False)) (F0 m pc ls [v]) := by
  subst hv
  exact W.aret hexec hb hr (Or.inl ⟨_, rfl⟩) (va_rf_or r) (fun t ht _ => ⟨r, rfl, rfl, ht⟩) (fun _ h => by cases h) hdg hlocks
theorem rw_iret {S : Type} {post : Int32 → S → Prop} {wp : S → va_W} {w1 : va_W} {v : Int32} (u : S) (hexec : p.tables.exec = Jvm.exec) (hb : c.code = cc) (hr : meth.sig.returnType = some .int) (hlocks : meth.locks = false) (hK : va_K D vwCl tys s) (hP : va_P D vwCl w1 H) (hD : va_D A0 w1) (hS : va_S A0 s.heap H locs) (hw : w1 = wp u) (hv : post v u) (hdg : decode cc pc = .ok (.ireturn, 1)) : W p l e R s m args below meth c H locs 0 0 (MQ below (va_Qi post (fun u t => wB D tys A0 (wp u) t) A0) args s 0 0 A0) (F0 m pc ls [.int v]) := by
  subst hw
  exact W.iret hexec hb hr (fun t ht hW => ⟨⟨v, u, rfl, hv, by rw [ht]; exact hP, va_K.moved hW.alike hK, hD⟩, hS.F ht⟩) hS.2.2 hdg hlocks
theorem rw_lret {S : Type} {post : Int64 → S → Prop} {wp : S → va_W} {w1 : va_W} {v : Int64} (u : S) (hexec : p.tables.exec = Jvm.exec) (hb : c.code = cc) (hr : meth.sig.returnType = some .long) (hlocks : meth.locks = false) (hK : va_K D vwCl tys s) (hP : va_P D vwCl w1 H) (hD : va_D A0 w1) (hS : va_S A0 s.heap H locs) (hw : w1 = wp u) (hv : post v u) (hdg : decode cc pc = .ok (.lreturn, 1)) : W p l e R s m args below meth c H locs 0 0 (MQ below (va_Ql post (fun u t => wB D tys A0 (wp u) t) A0) args s 0 0 A0) (F0 m pc ls [.long v]) := by
  subst hw
  exact W.lret hexec hb hr (fun t ht hW => ⟨⟨v, u, rfl, hv, by rw [ht]; exact hP, va_K.moved hW.alike hK, hD⟩, hS.F ht⟩) hS.2.2 hdg hlocks
theorem rw_zret {S : Type} {post : Int32 → S → Prop} {wp : S → va_W} {w1 : va_W} {v : Int32} (u : S) (hexec : p.tables.exec = Jvm.exec) (hb : c.code = cc) (hr : meth.sig.returnType = some .boolean) (hnar : narrow .boolean (.int v) = .int v) (hlocks : meth.locks = false) (hK : va_K D vwCl tys s) (hP : va_P D vwCl w1 H) (hD : va_D A0 w1) (hS : va_S A0 s.heap H locs) (hw : w1 = wp u) (hv : post v u) (hdg : decode cc pc = .ok (.ireturn, 1)) : W p l e R s m args below meth c H locs 0 0 (MQ below (va_Qi post (fun u t => wB D tys A0 (wp u) t) A0) args s 0 0 A0) (F0 m pc ls [.int v]) := by
  subst hw
  exact W.zret hexec hb hr hnar (fun t ht hW => ⟨⟨v, u, rfl, hv, by rw [ht]; exact hP, va_K.moved hW.alike hK, hD⟩, hS.F ht⟩) hS.2.2 hdg hlocks
theorem rw_vret {S : Type} {post : S → Prop} {wp : S → va_W} {w1 : va_W} (u : S) (hexec : p.tables.exec = Jvm.exec) (hb : c.code = cc) (hr : meth.sig.returnType = none) (hlocks : meth.locks = false) (hK : va_K D vwCl tys s) (hP : va_P D vwCl w1 H) (hD : va_D A0 w1) (hS : va_S A0 s.heap H locs) (hw : w1 = wp u) (hv : post u) (hdg : decode cc pc = .ok (.return_, 1)) : W p l e R s m args below meth c H locs 0 0 (MQ below (va_Qv post (fun u t => wB D tys A0 (wp u) t) A0) args s 0 0 A0) (F0 m pc ls []) := by
  subst hw
  exact W.vret hexec hb hr (fun t ht hW => ⟨⟨u, rfl, hv, by rw [ht]; exact hP, va_K.moved hW.alike hK, hD⟩, hS.F ht⟩) hS.2.2 hdg hlocks
end FRC
/-! worlds: the class's room, sayings, page; the whole class; the reference -/
abbrev RS : Type := Nat × Nat × Int32 × (Nat → Nat → Nat) × (Nat → Nat → Nat)
abbrev tapC (r : Nat → Nat) (t : Nat → Nat → Nat) (i : Nat) : Nat × va_E := (r (3 + i), .inr (5, [.int (nI i), .int (nI (t i 0)), .int (nI (t i 1)), .int (nI (t i 2)), .int (nI (t i 3))]))
abbrev noteC (r : Nat → Nat) (p : Nat → Nat → Nat) (i : Nat) : Nat × va_E := (r (8 + i), .inr (0, [.int (nI (p i 0)), .int (nI (p i 1)), .int (nI (p i 2)), .int (nI (p i 3))]))
abbrev rW (r : Nat → Nat) (cT cN : ClassId) (q : RS) : va_W := [(r 0, .inr (3, [.ref (r 1), .ref (r 2), .int (nI q.1), .int (nI q.2.1), .int q.2.2.1])), (r 1, .inl (cT, 5, .inr (.inr (.inr (.inr (fun i => some (r (3 + i)))))))), (r 2, .inl (cN, 8, .inr (.inr (.inr (.inr (fun i => some (r (8 + i)))))))), tapC r q.2.2.2.1 0, tapC r q.2.2.2.1 1, tapC r q.2.2.2.1 2, tapC r q.2.2.2.1 3, tapC r q.2.2.2.1 4, noteC r q.2.2.2.2 0, noteC r q.2.2.2.2 1, noteC r q.2.2.2.2 2, noteC r q.2.2.2.2 3, noteC r q.2.2.2.2 4, noteC r q.2.2.2.2 5, noteC r q.2.2.2.2 6, noteC r q.2.2.2.2 7]
abbrev sW (a : Nat → Nat) (cI : ClassId) (B L : Nat → Int32) : va_W := [(a 4, .inr (4, [.ref (a 5), .ref (a 6)])), (a 5, .inl (cI, 16, .inl B)), (a 6, .inl (cI, 4, .inl L))]
abbrev pW (a : Nat → Nat) (cI : ClassId) (pn : Nat) (pc : Nat → Int32) (rd : Nat × Nat × Nat) : va_W := [(a 1, .inr (1, [.ref (a 2), .ref (a 3), .int (nI pn)])), (a 2, .inl (cI, 30, .inl pc)), (a 3, .inr (2, [.int (nI rd.1), .int (nI rd.2.1), .int (nI rd.2.2)]))]
abbrev mainC (a r k : Nat → Nat) (hh hi hr : Nat) : Nat × va_E := (a 0, .inr (6, [.ref (a 1), .ref (a 4), .ref (r 0), .ref (k 0), .int (nI hh), .int (nI hi), .int (nI hr)]))
abbrev cW (a r k : Nat → Nat) (cI cT cN : ClassId) (hh hi hr pn : Nat) (pc : Nat → Int32) (rd : Nat × Nat × Nat) (B L : Nat → Int32) (q kq : RS) : va_W := [mainC a r k hh hi hr] ++ (pW a cI pn pc rd ++ (sW a cI B L ++ (rW r cT cN q ++ rW k cT cN kq)))
abbrev mW (h : Nat) (A : Nat → Nat) (cI : ClassId) (I : Nat → Int32) (hv : Int64) (F : Nat → Nat → Int32) : va_W := [(h, .inr (7, [.ref (A 0), .int (I 1), .int (I 2), .ref (A 3), .ref (A 4), .int (I 5), .int (I 6), .int (I 7), .int (I 8), .int (I 9), .ref (A 10), .ref (A 11), .int (I 12), .ref (A 13), .int (I 14), .int (I 15), .int (I 16), .int (I 17), .int (I 18), .ref (A 19), .ref (A 20), .long hv])), (A 0, .inl (cI, 30, .inl (F 0))), (A 3, .inl (cI, 25, .inl (F 3))), (A 4, .inl (cI, 12, .inl (F 4))), (A 10, .inl (cI, 25, .inl (F 10))), (A 11, .inl (cI, 20, .inl (F 11))), (A 13, .inl (cI, 32, .inl (F 13))), (A 19, .inl (cI, 20, .inl (F 19))), (A 20, .inl (cI, 32, .inl (F 20)))]
abbrev cTys (cI cT cN : ClassId) : List (ClassId × FieldType) := [(cI, .int), (cT, .object "DripSayings$Tap"), (cN, .object "DripSayings$Note")]
abbrev iTys (cI : ClassId) : List (ClassId × FieldType) := [(cI, .int)]
abbrev updF (F : Nat → Nat → Int32) (k : Nat) (g : Nat → Int32) : Nat → Nat → Int32 := fun j => if j = k then g else F j
abbrev up2 (t : Nat → Nat → Nat) (i k v : Nat) : Nat → Nat → Nat := fun x y => if x = i then (if y = k then v else t x y) else t x y
theorem rW_tap {r : Nat → Nat} {cT cN : ClassId} {q : RS} {i : Nat} (h : i < 5) : (rW r cT cN q)[3 + i]? = some (tapC r q.2.2.2.1 i) := by
  match i, h with
  | 0, _ => rfl
  | 1, _ => rfl
  | 2, _ => rfl
  | 3, _ => rfl
  | 4, _ => rfl
theorem rW_note {r : Nat → Nat} {cT cN : ClassId} {q : RS} {i : Nat} (h : i < 8) : (rW r cT cN q)[8 + i]? = some (noteC r q.2.2.2.2 i) := by
  match i, h with
  | 0, _ => rfl
  | 1, _ => rfl
  | 2, _ => rfl
  | 3, _ => rfl
  | 4, _ => rfl
  | 5, _ => rfl
  | 6, _ => rfl
  | 7, _ => rfl
theorem cW_p {a r k : Nat → Nat} {cI cT cN : ClassId} {hh hi hr pn : Nat} {pc : Nat → Int32} {rd : Nat × Nat × Nat} {B L : Nat → Int32} {q kq : RS} {D : va_G} {cl : List vw_C} {H : Heap} (h : va_P D cl (cW a r k cI cT cN hh hi hr pn pc rd B L q kq) H) : va_P D cl (pW a cI pn pc rd) H := vaP_l (vaP_r h)
theorem cW_s {a r k : Nat → Nat} {cI cT cN : ClassId} {hh hi hr pn : Nat} {pc : Nat → Int32} {rd : Nat × Nat × Nat} {B L : Nat → Int32} {q kq : RS} {D : va_G} {cl : List vw_C} {H : Heap} (h : va_P D cl (cW a r k cI cT cN hh hi hr pn pc rd B L q kq) H) : va_P D cl (sW a cI B L) H := vaP_l (vaP_r (vaP_r h))
theorem cW_r {a r k : Nat → Nat} {cI cT cN : ClassId} {hh hi hr pn : Nat} {pc : Nat → Int32} {rd : Nat × Nat × Nat} {B L : Nat → Int32} {q kq : RS} {D : va_G} {cl : List vw_C} {H : Heap} (h : va_P D cl (cW a r k cI cT cN hh hi hr pn pc rd B L q kq) H) : va_P D cl (rW r cT cN q) H := vaP_l (vaP_r (vaP_r (vaP_r h)))
theorem cW_k {a r k : Nat → Nat} {cI cT cN : ClassId} {hh hi hr pn : Nat} {pc : Nat → Int32} {rd : Nat × Nat × Nat} {B L : Nat → Int32} {q kq : RS} {D : va_G} {cl : List vw_C} {H : Heap} (h : va_P D cl (cW a r k cI cT cN hh hi hr pn pc rd B L q kq) H) : va_P D cl (rW k cT cN kq) H := vaP_r (vaP_r (vaP_r (vaP_r h)))
end
section
theorem dX0_init_0 : decode cX0_init 0 = .ok (.aload_n 0, 1) := by decide +kernel
theorem dX0_init_1 : decode cX0_init 1 = .ok (.invokespecial 1, 3) := by decide +kernel
theorem dX0_init_4 : decode cX0_init 4 = .ok (.return_, 1) := by decide +kernel
theorem dX0_become_0 : decode cX0_become 0 = .ok (.aload_n 0, 1) := by decide +kernel
theorem dX0_become_1 : decode cX0_become 1 = .ok (.iload_n 1, 1) := by decide +kernel
theorem dX0_become_2 : decode cX0_become 2 = .ok (.putfield 7, 3) := by decide +kernel
theorem dX0_become_5 : decode cX0_become 5 = .ok (.aload_n 0, 1) := by decide +kernel
theorem dX0_become_6 : decode cX0_become 6 = .ok (.iload_n 2, 1) := by decide +kernel
theorem dX0_become_7 : decode cX0_become 7 = .ok (.putfield 13, 3) := by decide +kernel
theorem dX0_become_10 : decode cX0_become 10 = .ok (.aload_n 0, 1) := by decide +kernel
theorem dX0_become_11 : decode cX0_become 11 = .ok (.iload_n 3, 1) := by decide +kernel
theorem dX0_become_12 : decode cX0_become 12 = .ok (.putfield 16, 3) := by decide +kernel
theorem dX0_become_15 : decode cX0_become 15 = .ok (.aload_n 0, 1) := by decide +kernel
theorem dX0_become_16 : decode cX0_become 16 = .ok (.iload 4, 2) := by decide +kernel
theorem dX0_become_18 : decode cX0_become 18 = .ok (.putfield 19, 3) := by decide +kernel
theorem dX0_become_21 : decode cX0_become 21 = .ok (.return_, 1) := by decide +kernel
theorem dX1_init_0 : decode cX1_init 0 = .ok (.aload_n 0, 1) := by decide +kernel
theorem dX1_init_1 : decode cX1_init 1 = .ok (.invokespecial 3, 3) := by decide +kernel
theorem dX1_init_4 : decode cX1_init 4 = .ok (.aload_n 0, 1) := by decide +kernel
theorem dX1_init_5 : decode cX1_init 5 = .ok (.bipush 30, 2) := by decide +kernel
theorem dX1_init_7 : decode cX1_init 7 = .ok (.newarray .int, 2) := by decide +kernel
theorem dX1_init_9 : decode cX1_init 9 = .ok (.putfield 9, 3) := by decide +kernel
theorem dX1_init_12 : decode cX1_init 12 = .ok (.aload_n 0, 1) := by decide +kernel
theorem dX1_init_13 : decode cX1_init 13 = .ok (.new 15, 3) := by decide +kernel
theorem dX1_init_16 : decode cX1_init 16 = .ok (.dup, 1) := by decide +kernel
theorem dX1_init_17 : decode cX1_init 17 = .ok (.invokespecial 17, 3) := by decide +kernel
theorem dX1_init_20 : decode cX1_init 20 = .ok (.putfield 18, 3) := by decide +kernel
theorem dX1_init_23 : decode cX1_init 23 = .ok (.return_, 1) := by decide +kernel
theorem dX1_clear_0 : decode cX1_clear 0 = .ok (.aload_n 0, 1) := by decide +kernel
theorem dX1_clear_1 : decode cX1_clear 1 = .ok (.iconst 0, 1) := by decide +kernel
theorem dX1_clear_2 : decode cX1_clear 2 = .ok (.putfield 22, 3) := by decide +kernel
theorem dX1_clear_5 : decode cX1_clear 5 = .ok (.return_, 1) := by decide +kernel
theorem dX1_add_0 : decode cX1_add 0 = .ok (.aload_n 0, 1) := by decide +kernel
theorem dX1_add_1 : decode cX1_add 1 = .ok (.getfield 22, 3) := by decide +kernel
theorem dX1_add_4 : decode cX1_add 4 = .ok (.ifCond .lt 15, 3) := by decide +kernel
theorem dX1_add_7 : decode cX1_add 7 = .ok (.aload_n 0, 1) := by decide +kernel
theorem dX1_add_8 : decode cX1_add 8 = .ok (.getfield 22, 3) := by decide +kernel
theorem dX1_add_11 : decode cX1_add 11 = .ok (.aload_n 0, 1) := by decide +kernel
theorem dX1_add_12 : decode cX1_add 12 = .ok (.getfield 9, 3) := by decide +kernel
theorem dX1_add_15 : decode cX1_add 15 = .ok (.arraylength, 1) := by decide +kernel
theorem dX1_add_16 : decode cX1_add 16 = .ok (.if_icmp .lt 4, 3) := by decide +kernel
theorem dX1_add_19 : decode cX1_add 19 = .ok (.return_, 1) := by decide +kernel
theorem dX1_add_20 : decode cX1_add 20 = .ok (.aload_n 0, 1) := by decide +kernel
theorem dX1_add_21 : decode cX1_add 21 = .ok (.getfield 9, 3) := by decide +kernel
theorem dX1_add_24 : decode cX1_add 24 = .ok (.aload_n 0, 1) := by decide +kernel
theorem dX1_add_25 : decode cX1_add 25 = .ok (.getfield 22, 3) := by decide +kernel
theorem dX1_add_28 : decode cX1_add 28 = .ok (.iload_n 1, 1) := by decide +kernel
theorem dX1_add_29 : decode cX1_add 29 = .ok (.iastore, 1) := by decide +kernel
theorem dX1_add_30 : decode cX1_add 30 = .ok (.aload_n 0, 1) := by decide +kernel
theorem dX1_add_31 : decode cX1_add 31 = .ok (.dup, 1) := by decide +kernel
theorem dX1_add_32 : decode cX1_add 32 = .ok (.getfield 22, 3) := by decide +kernel
theorem dX1_add_35 : decode cX1_add 35 = .ok (.iconst 1, 1) := by decide +kernel
theorem dX1_add_36 : decode cX1_add 36 = .ok (.iadd, 1) := by decide +kernel
theorem dX1_add_37 : decode cX1_add 37 = .ok (.putfield 22, 3) := by decide +kernel
theorem dX1_add_40 : decode cX1_add 40 = .ok (.return_, 1) := by decide +kernel
theorem dX1_codeAt_0 : decode cX1_codeAt 0 = .ok (.iload_n 1, 1) := by decide +kernel
theorem dX1_codeAt_1 : decode cX1_codeAt 1 = .ok (.ifCond .lt 29, 3) := by decide +kernel
theorem dX1_codeAt_4 : decode cX1_codeAt 4 = .ok (.iload_n 1, 1) := by decide +kernel
theorem dX1_codeAt_5 : decode cX1_codeAt 5 = .ok (.aload_n 0, 1) := by decide +kernel
theorem dX1_codeAt_6 : decode cX1_codeAt 6 = .ok (.getfield 22, 3) := by decide +kernel
theorem dX1_codeAt_9 : decode cX1_codeAt 9 = .ok (.if_icmp .ge 21, 3) := by decide +kernel
theorem dX1_codeAt_12 : decode cX1_codeAt 12 = .ok (.iload_n 1, 1) := by decide +kernel
theorem dX1_codeAt_13 : decode cX1_codeAt 13 = .ok (.aload_n 0, 1) := by decide +kernel
theorem dX1_codeAt_14 : decode cX1_codeAt 14 = .ok (.getfield 9, 3) := by decide +kernel
theorem dX1_codeAt_17 : decode cX1_codeAt 17 = .ok (.arraylength, 1) := by decide +kernel
theorem dX1_codeAt_18 : decode cX1_codeAt 18 = .ok (.if_icmp .ge 12, 3) := by decide +kernel
theorem dX1_codeAt_21 : decode cX1_codeAt 21 = .ok (.aload_n 0, 1) := by decide +kernel
theorem dX1_codeAt_22 : decode cX1_codeAt 22 = .ok (.getfield 9, 3) := by decide +kernel
theorem dX1_codeAt_25 : decode cX1_codeAt 25 = .ok (.iload_n 1, 1) := by decide +kernel
theorem dX1_codeAt_26 : decode cX1_codeAt 26 = .ok (.iaload, 1) := by decide +kernel
theorem dX1_codeAt_27 : decode cX1_codeAt 27 = .ok (.goto 4, 3) := by decide +kernel
theorem dX1_codeAt_30 : decode cX1_codeAt 30 = .ok (.iconst (-1), 1) := by decide +kernel
theorem dX1_codeAt_31 : decode cX1_codeAt 31 = .ok (.ireturn, 1) := by decide +kernel
theorem dX1_firstFault_0 : decode cX1_firstFault 0 = .ok (.aload_n 0, 1) := by decide +kernel
theorem dX1_firstFault_1 : decode cX1_firstFault 1 = .ok (.getfield 18, 3) := by decide +kernel
theorem dX1_firstFault_4 : decode cX1_firstFault 4 = .ok (.invokevirtual 26, 3) := by decide +kernel
theorem dX1_firstFault_7 : decode cX1_firstFault 7 = .ok (.iconst 0, 1) := by decide +kernel
theorem dX1_firstFault_8 : decode cX1_firstFault 8 = .ok (.istore_n 1, 1) := by decide +kernel
theorem dX1_firstFault_9 : decode cX1_firstFault 9 = .ok (.iload_n 1, 1) := by decide +kernel
theorem dX1_firstFault_10 : decode cX1_firstFault 10 = .ok (.aload_n 0, 1) := by decide +kernel
theorem dX1_firstFault_11 : decode cX1_firstFault 11 = .ok (.getfield 22, 3) := by decide +kernel
theorem dX1_firstFault_14 : decode cX1_firstFault 14 = .ok (.if_icmp .ge 26, 3) := by decide +kernel
theorem dX1_firstFault_17 : decode cX1_firstFault 17 = .ok (.aload_n 0, 1) := by decide +kernel
theorem dX1_firstFault_18 : decode cX1_firstFault 18 = .ok (.getfield 18, 3) := by decide +kernel
theorem dX1_firstFault_21 : decode cX1_firstFault 21 = .ok (.aload_n 0, 1) := by decide +kernel
theorem dX1_firstFault_22 : decode cX1_firstFault 22 = .ok (.iload_n 1, 1) := by decide +kernel
theorem dX1_firstFault_23 : decode cX1_firstFault 23 = .ok (.invokevirtual 29, 3) := by decide +kernel
theorem dX1_firstFault_26 : decode cX1_firstFault 26 = .ok (.invokevirtual 33, 3) := by decide +kernel
theorem dX1_firstFault_29 : decode cX1_firstFault 29 = .ok (.ifCond .ne 5, 3) := by decide +kernel
theorem dX1_firstFault_32 : decode cX1_firstFault 32 = .ok (.iload_n 1, 1) := by decide +kernel
theorem dX1_firstFault_33 : decode cX1_firstFault 33 = .ok (.ireturn, 1) := by decide +kernel
theorem dX1_firstFault_34 : decode cX1_firstFault 34 = .ok (.iinc 1 1, 3) := by decide +kernel
theorem dX1_firstFault_37 : decode cX1_firstFault 37 = .ok (.goto (-28), 3) := by decide +kernel
theorem dX1_firstFault_40 : decode cX1_firstFault 40 = .ok (.aload_n 0, 1) := by decide +kernel
theorem dX1_firstFault_41 : decode cX1_firstFault 41 = .ok (.getfield 22, 3) := by decide +kernel
theorem dX1_firstFault_44 : decode cX1_firstFault 44 = .ok (.ireturn, 1) := by decide +kernel
theorem dX1_isHouse_0 : decode cX1_isHouse 0 = .ok (.aload_n 0, 1) := by decide +kernel
theorem dX1_isHouse_1 : decode cX1_isHouse 1 = .ok (.invokevirtual 37, 3) := by decide +kernel
theorem dX1_isHouse_4 : decode cX1_isHouse 4 = .ok (.aload_n 0, 1) := by decide +kernel
theorem dX1_isHouse_5 : decode cX1_isHouse 5 = .ok (.getfield 22, 3) := by decide +kernel
theorem dX1_isHouse_8 : decode cX1_isHouse 8 = .ok (.if_icmp .ne 17, 3) := by decide +kernel
theorem dX1_isHouse_11 : decode cX1_isHouse 11 = .ok (.aload_n 0, 1) := by decide +kernel
theorem dX1_isHouse_12 : decode cX1_isHouse 12 = .ok (.getfield 18, 3) := by decide +kernel
theorem dX1_isHouse_15 : decode cX1_isHouse 15 = .ok (.invokevirtual 41, 3) := by decide +kernel
theorem dX1_isHouse_18 : decode cX1_isHouse 18 = .ok (.ifCond .eq 7, 3) := by decide +kernel
theorem dX1_isHouse_21 : decode cX1_isHouse 21 = .ok (.iconst 1, 1) := by decide +kernel
theorem dX1_isHouse_22 : decode cX1_isHouse 22 = .ok (.goto 4, 3) := by decide +kernel
theorem dX1_isHouse_25 : decode cX1_isHouse 25 = .ok (.iconst 0, 1) := by decide +kernel
theorem dX1_isHouse_26 : decode cX1_isHouse 26 = .ok (.ireturn, 1) := by decide +kernel
theorem dX2_init_0 : decode cX2_init 0 = .ok (.aload_n 0, 1) := by decide +kernel
theorem dX2_init_1 : decode cX2_init 1 = .ok (.invokespecial 3, 3) := by decide +kernel
theorem dX2_init_4 : decode cX2_init 4 = .ok (.return_, 1) := by decide +kernel
theorem dX2_begin_0 : decode cX2_begin 0 = .ok (.aload_n 0, 1) := by decide +kernel
theorem dX2_begin_1 : decode cX2_begin 1 = .ok (.iconst 0, 1) := by decide +kernel
theorem dX2_begin_2 : decode cX2_begin 2 = .ok (.putfield 9, 3) := by decide +kernel
theorem dX2_begin_5 : decode cX2_begin 5 = .ok (.aload_n 0, 1) := by decide +kernel
theorem dX2_begin_6 : decode cX2_begin 6 = .ok (.iconst 0, 1) := by decide +kernel
theorem dX2_begin_7 : decode cX2_begin 7 = .ok (.putfield 15, 3) := by decide +kernel
theorem dX2_begin_10 : decode cX2_begin 10 = .ok (.aload_n 0, 1) := by decide +kernel
theorem dX2_begin_11 : decode cX2_begin 11 = .ok (.iconst 0, 1) := by decide +kernel
theorem dX2_begin_12 : decode cX2_begin 12 = .ok (.putfield 18, 3) := by decide +kernel
theorem dX2_begin_15 : decode cX2_begin 15 = .ok (.return_, 1) := by decide +kernel
theorem dX2_takes_0 : decode cX2_takes 0 = .ok (.aload_n 0, 1) := by decide +kernel
theorem dX2_takes_1 : decode cX2_takes 1 = .ok (.getfield 9, 3) := by decide +kernel
theorem dX2_takes_4 : decode cX2_takes 4 = .ok (.iconst 4, 1) := by decide +kernel
theorem dX2_takes_5 : decode cX2_takes 5 = .ok (.if_icmp .ge 11, 3) := by decide +kernel
theorem dX2_takes_8 : decode cX2_takes 8 = .ok (.aload_n 0, 1) := by decide +kernel
theorem dX2_takes_9 : decode cX2_takes 9 = .ok (.iload_n 1, 1) := by decide +kernel
theorem dX2_takes_10 : decode cX2_takes 10 = .ok (.invokevirtual 21, 3) := by decide +kernel
theorem dX2_takes_13 : decode cX2_takes 13 = .ok (.goto 8, 3) := by decide +kernel
theorem dX2_takes_16 : decode cX2_takes 16 = .ok (.aload_n 0, 1) := by decide +kernel
theorem dX2_takes_17 : decode cX2_takes 17 = .ok (.iload_n 1, 1) := by decide +kernel
theorem dX2_takes_18 : decode cX2_takes 18 = .ok (.invokevirtual 25, 3) := by decide +kernel
theorem dX2_takes_21 : decode cX2_takes 21 = .ok (.ireturn, 1) := by decide +kernel
theorem dX2_isAtEnd_0 : decode cX2_isAtEnd 0 = .ok (.aload_n 0, 1) := by decide +kernel
theorem dX2_isAtEnd_1 : decode cX2_isAtEnd 1 = .ok (.getfield 9, 3) := by decide +kernel
theorem dX2_isAtEnd_4 : decode cX2_isAtEnd 4 = .ok (.iconst 4, 1) := by decide +kernel
theorem dX2_isAtEnd_5 : decode cX2_isAtEnd 5 = .ok (.if_icmp .ne 15, 3) := by decide +kernel
theorem dX2_isAtEnd_8 : decode cX2_isAtEnd 8 = .ok (.aload_n 0, 1) := by decide +kernel
theorem dX2_isAtEnd_9 : decode cX2_isAtEnd 9 = .ok (.getfield 18, 3) := by decide +kernel
theorem dX2_isAtEnd_12 : decode cX2_isAtEnd 12 = .ok (.iconst 2, 1) := by decide +kernel
theorem dX2_isAtEnd_13 : decode cX2_isAtEnd 13 = .ok (.if_icmp .ne 7, 3) := by decide +kernel
theorem dX2_isAtEnd_16 : decode cX2_isAtEnd 16 = .ok (.iconst 1, 1) := by decide +kernel
theorem dX2_isAtEnd_17 : decode cX2_isAtEnd 17 = .ok (.goto 4, 3) := by decide +kernel
theorem dX2_isAtEnd_20 : decode cX2_isAtEnd 20 = .ok (.iconst 0, 1) := by decide +kernel
theorem dX2_isAtEnd_21 : decode cX2_isAtEnd 21 = .ok (.ireturn, 1) := by decide +kernel
theorem dX2_takesInSaying_0 : decode cX2_takesInSaying 0 = .ok (.iload_n 1, 1) := by decide +kernel
theorem dX2_takesInSaying_1 : decode cX2_takesInSaying 1 = .ok (.bipush 115, 2) := by decide +kernel
theorem dX2_takesInSaying_3 : decode cX2_takesInSaying 3 = .ok (.if_icmp .eq 9, 3) := by decide +kernel
theorem dX2_takesInSaying_6 : decode cX2_takesInSaying 6 = .ok (.iload_n 1, 1) := by decide +kernel
theorem dX2_takesInSaying_7 : decode cX2_takesInSaying 7 = .ok (.bipush 108, 2) := by decide +kernel
theorem dX2_takesInSaying_9 : decode cX2_takesInSaying 9 = .ok (.if_icmp .ne 27, 3) := by decide +kernel
theorem dX2_takesInSaying_12 : decode cX2_takesInSaying 12 = .ok (.aload_n 0, 1) := by decide +kernel
theorem dX2_takesInSaying_13 : decode cX2_takesInSaying 13 = .ok (.dup, 1) := by decide +kernel
theorem dX2_takesInSaying_14 : decode cX2_takesInSaying 14 = .ok (.getfield 18, 3) := by decide +kernel
theorem dX2_takesInSaying_17 : decode cX2_takesInSaying 17 = .ok (.iconst 1, 1) := by decide +kernel
theorem dX2_takesInSaying_18 : decode cX2_takesInSaying 18 = .ok (.iadd, 1) := by decide +kernel
theorem dX2_takesInSaying_19 : decode cX2_takesInSaying 19 = .ok (.putfield 18, 3) := by decide +kernel
theorem dX2_takesInSaying_22 : decode cX2_takesInSaying 22 = .ok (.aload_n 0, 1) := by decide +kernel
theorem dX2_takesInSaying_23 : decode cX2_takesInSaying 23 = .ok (.getfield 18, 3) := by decide +kernel
theorem dX2_takesInSaying_26 : decode cX2_takesInSaying 26 = .ok (.iconst 4, 1) := by decide +kernel
theorem dX2_takesInSaying_27 : decode cX2_takesInSaying 27 = .ok (.if_icmp .gt 7, 3) := by decide +kernel
theorem dX2_takesInSaying_30 : decode cX2_takesInSaying 30 = .ok (.iconst 1, 1) := by decide +kernel
theorem dX2_takesInSaying_31 : decode cX2_takesInSaying 31 = .ok (.goto 4, 3) := by decide +kernel
theorem dX2_takesInSaying_34 : decode cX2_takesInSaying 34 = .ok (.iconst 0, 1) := by decide +kernel
theorem dX2_takesInSaying_35 : decode cX2_takesInSaying 35 = .ok (.ireturn, 1) := by decide +kernel
theorem dX2_takesInSaying_36 : decode cX2_takesInSaying 36 = .ok (.aload_n 0, 1) := by decide +kernel
theorem dX2_takesInSaying_37 : decode cX2_takesInSaying 37 = .ok (.getfield 9, 3) := by decide +kernel
theorem dX2_takesInSaying_40 : decode cX2_takesInSaying 40 = .ok (.iconst 3, 1) := by decide +kernel
theorem dX2_takesInSaying_41 : decode cX2_takesInSaying 41 = .ok (.if_icmp .ne 8, 3) := by decide +kernel
theorem dX2_takesInSaying_44 : decode cX2_takesInSaying 44 = .ok (.bipush 59, 2) := by decide +kernel
theorem dX2_takesInSaying_46 : decode cX2_takesInSaying 46 = .ok (.goto 5, 3) := by decide +kernel
theorem dX2_takesInSaying_49 : decode cX2_takesInSaying 49 = .ok (.bipush 44, 2) := by decide +kernel
theorem dX2_takesInSaying_51 : decode cX2_takesInSaying 51 = .ok (.istore_n 2, 1) := by decide +kernel
theorem dX2_takesInSaying_52 : decode cX2_takesInSaying 52 = .ok (.aload_n 0, 1) := by decide +kernel
theorem dX2_takesInSaying_53 : decode cX2_takesInSaying 53 = .ok (.getfield 18, 3) := by decide +kernel
theorem dX2_takesInSaying_56 : decode cX2_takesInSaying 56 = .ok (.ifCond .eq 8, 3) := by decide +kernel
theorem dX2_takesInSaying_59 : decode cX2_takesInSaying 59 = .ok (.iload_n 1, 1) := by decide +kernel
theorem dX2_takesInSaying_60 : decode cX2_takesInSaying 60 = .ok (.iload_n 2, 1) := by decide +kernel
theorem dX2_takesInSaying_61 : decode cX2_takesInSaying 61 = .ok (.if_icmp .eq 5, 3) := by decide +kernel
theorem dX2_takesInSaying_64 : decode cX2_takesInSaying 64 = .ok (.iconst 0, 1) := by decide +kernel
theorem dX2_takesInSaying_65 : decode cX2_takesInSaying 65 = .ok (.ireturn, 1) := by decide +kernel
theorem dX2_takesInSaying_66 : decode cX2_takesInSaying 66 = .ok (.aload_n 0, 1) := by decide +kernel
theorem dX2_takesInSaying_67 : decode cX2_takesInSaying 67 = .ok (.dup, 1) := by decide +kernel
theorem dX2_takesInSaying_68 : decode cX2_takesInSaying 68 = .ok (.getfield 9, 3) := by decide +kernel
theorem dX2_takesInSaying_71 : decode cX2_takesInSaying 71 = .ok (.iconst 1, 1) := by decide +kernel
theorem dX2_takesInSaying_72 : decode cX2_takesInSaying 72 = .ok (.iadd, 1) := by decide +kernel
theorem dX2_takesInSaying_73 : decode cX2_takesInSaying 73 = .ok (.putfield 9, 3) := by decide +kernel
theorem dX2_takesInSaying_76 : decode cX2_takesInSaying 76 = .ok (.aload_n 0, 1) := by decide +kernel
theorem dX2_takesInSaying_77 : decode cX2_takesInSaying 77 = .ok (.iconst 0, 1) := by decide +kernel
theorem dX2_takesInSaying_78 : decode cX2_takesInSaying 78 = .ok (.putfield 18, 3) := by decide +kernel
theorem dX2_takesInSaying_81 : decode cX2_takesInSaying 81 = .ok (.iconst 1, 1) := by decide +kernel
theorem dX2_takesInSaying_82 : decode cX2_takesInSaying 82 = .ok (.ireturn, 1) := by decide +kernel
theorem dX2_takesInTap_0 : decode cX2_takesInTap 0 = .ok (.aload_n 0, 1) := by decide +kernel
theorem dX2_takesInTap_1 : decode cX2_takesInTap 1 = .ok (.getfield 18, 3) := by decide +kernel
theorem dX2_takesInTap_4 : decode cX2_takesInTap 4 = .ok (.ifCond .ne 22, 3) := by decide +kernel
theorem dX2_takesInTap_7 : decode cX2_takesInTap 7 = .ok (.aload_n 0, 1) := by decide +kernel
theorem dX2_takesInTap_8 : decode cX2_takesInTap 8 = .ok (.iconst 1, 1) := by decide +kernel
theorem dX2_takesInTap_9 : decode cX2_takesInTap 9 = .ok (.putfield 18, 3) := by decide +kernel
theorem dX2_takesInTap_12 : decode cX2_takesInTap 12 = .ok (.iload_n 1, 1) := by decide +kernel
theorem dX2_takesInTap_13 : decode cX2_takesInTap 13 = .ok (.invokestatic 28, 3) := by decide +kernel
theorem dX2_takesInTap_16 : decode cX2_takesInTap 16 = .ok (.iconst (-1), 1) := by decide +kernel
theorem dX2_takesInTap_17 : decode cX2_takesInTap 17 = .ok (.if_icmp .eq 7, 3) := by decide +kernel
theorem dX2_takesInTap_20 : decode cX2_takesInTap 20 = .ok (.iconst 1, 1) := by decide +kernel
theorem dX2_takesInTap_21 : decode cX2_takesInTap 21 = .ok (.goto 4, 3) := by decide +kernel
theorem dX2_takesInTap_24 : decode cX2_takesInTap 24 = .ok (.iconst 0, 1) := by decide +kernel
theorem dX2_takesInTap_25 : decode cX2_takesInTap 25 = .ok (.ireturn, 1) := by decide +kernel
theorem dX2_takesInTap_26 : decode cX2_takesInTap 26 = .ok (.aload_n 0, 1) := by decide +kernel
theorem dX2_takesInTap_27 : decode cX2_takesInTap 27 = .ok (.getfield 18, 3) := by decide +kernel
theorem dX2_takesInTap_30 : decode cX2_takesInTap 30 = .ok (.iconst 1, 1) := by decide +kernel
theorem dX2_takesInTap_31 : decode cX2_takesInTap 31 = .ok (.if_icmp .ne 26, 3) := by decide +kernel
theorem dX2_takesInTap_34 : decode cX2_takesInTap 34 = .ok (.aload_n 0, 1) := by decide +kernel
theorem dX2_takesInTap_35 : decode cX2_takesInTap 35 = .ok (.iconst 2, 1) := by decide +kernel
theorem dX2_takesInTap_36 : decode cX2_takesInTap 36 = .ok (.putfield 18, 3) := by decide +kernel
theorem dX2_takesInTap_39 : decode cX2_takesInTap 39 = .ok (.aload_n 0, 1) := by decide +kernel
theorem dX2_takesInTap_40 : decode cX2_takesInTap 40 = .ok (.dup, 1) := by decide +kernel
theorem dX2_takesInTap_41 : decode cX2_takesInTap 41 = .ok (.getfield 15, 3) := by decide +kernel
theorem dX2_takesInTap_44 : decode cX2_takesInTap 44 = .ok (.iconst 1, 1) := by decide +kernel
theorem dX2_takesInTap_45 : decode cX2_takesInTap 45 = .ok (.iadd, 1) := by decide +kernel
theorem dX2_takesInTap_46 : decode cX2_takesInTap 46 = .ok (.putfield 15, 3) := by decide +kernel
theorem dX2_takesInTap_49 : decode cX2_takesInTap 49 = .ok (.iload_n 1, 1) := by decide +kernel
theorem dX2_takesInTap_50 : decode cX2_takesInTap 50 = .ok (.bipush 48, 2) := by decide +kernel
theorem dX2_takesInTap_52 : decode cX2_takesInTap 52 = .ok (.isub, 1) := by decide +kernel
theorem dX2_takesInTap_53 : decode cX2_takesInTap 53 = .ok (.invokestatic 32, 3) := by decide +kernel
theorem dX2_takesInTap_56 : decode cX2_takesInTap 56 = .ok (.ireturn, 1) := by decide +kernel
theorem dX2_takesInTap_57 : decode cX2_takesInTap 57 = .ok (.aload_n 0, 1) := by decide +kernel
theorem dX2_takesInTap_58 : decode cX2_takesInTap 58 = .ok (.iconst 0, 1) := by decide +kernel
theorem dX2_takesInTap_59 : decode cX2_takesInTap 59 = .ok (.putfield 18, 3) := by decide +kernel
theorem dX2_takesInTap_62 : decode cX2_takesInTap 62 = .ok (.iload_n 1, 1) := by decide +kernel
theorem dX2_takesInTap_63 : decode cX2_takesInTap 63 = .ok (.bipush 44, 2) := by decide +kernel
theorem dX2_takesInTap_65 : decode cX2_takesInTap 65 = .ok (.if_icmp .ne 15, 3) := by decide +kernel
theorem dX2_takesInTap_68 : decode cX2_takesInTap 68 = .ok (.aload_n 0, 1) := by decide +kernel
theorem dX2_takesInTap_69 : decode cX2_takesInTap 69 = .ok (.getfield 15, 3) := by decide +kernel
theorem dX2_takesInTap_72 : decode cX2_takesInTap 72 = .ok (.iconst 3, 1) := by decide +kernel
theorem dX2_takesInTap_73 : decode cX2_takesInTap 73 = .ok (.if_icmp .ge 7, 3) := by decide +kernel
theorem dX2_takesInTap_76 : decode cX2_takesInTap 76 = .ok (.iconst 1, 1) := by decide +kernel
theorem dX2_takesInTap_77 : decode cX2_takesInTap 77 = .ok (.goto 4, 3) := by decide +kernel
theorem dX2_takesInTap_80 : decode cX2_takesInTap 80 = .ok (.iconst 0, 1) := by decide +kernel
theorem dX2_takesInTap_81 : decode cX2_takesInTap 81 = .ok (.ireturn, 1) := by decide +kernel
theorem dX3_init_0 : decode cX3_init 0 = .ok (.aload_n 0, 1) := by decide +kernel
theorem dX3_init_1 : decode cX3_init 1 = .ok (.invokespecial 3, 3) := by decide +kernel
theorem dX3_init_4 : decode cX3_init 4 = .ok (.aload_n 0, 1) := by decide +kernel
theorem dX3_init_5 : decode cX3_init 5 = .ok (.iconst 5, 1) := by decide +kernel
theorem dX3_init_6 : decode cX3_init 6 = .ok (.anewarray 9, 3) := by decide +kernel
theorem dX3_init_9 : decode cX3_init 9 = .ok (.putfield 11, 3) := by decide +kernel
theorem dX3_init_12 : decode cX3_init 12 = .ok (.iconst 0, 1) := by decide +kernel
theorem dX3_init_13 : decode cX3_init 13 = .ok (.istore_n 1, 1) := by decide +kernel
theorem dX3_init_14 : decode cX3_init 14 = .ok (.iload_n 1, 1) := by decide +kernel
theorem dX3_init_15 : decode cX3_init 15 = .ok (.aload_n 0, 1) := by decide +kernel
theorem dX3_init_16 : decode cX3_init 16 = .ok (.getfield 11, 3) := by decide +kernel
theorem dX3_init_19 : decode cX3_init 19 = .ok (.arraylength, 1) := by decide +kernel
theorem dX3_init_20 : decode cX3_init 20 = .ok (.if_icmp .ge 23, 3) := by decide +kernel
theorem dX3_init_23 : decode cX3_init 23 = .ok (.aload_n 0, 1) := by decide +kernel
theorem dX3_init_24 : decode cX3_init 24 = .ok (.getfield 11, 3) := by decide +kernel
theorem dX3_init_27 : decode cX3_init 27 = .ok (.iload_n 1, 1) := by decide +kernel
theorem dX3_init_28 : decode cX3_init 28 = .ok (.new 9, 3) := by decide +kernel
theorem dX3_init_31 : decode cX3_init 31 = .ok (.dup, 1) := by decide +kernel
theorem dX3_init_32 : decode cX3_init 32 = .ok (.iload_n 1, 1) := by decide +kernel
theorem dX3_init_33 : decode cX3_init 33 = .ok (.invokespecial 17, 3) := by decide +kernel
theorem dX3_init_36 : decode cX3_init 36 = .ok (.aastore, 1) := by decide +kernel
theorem dX3_init_37 : decode cX3_init 37 = .ok (.iinc 1 1, 3) := by decide +kernel
theorem dX3_init_40 : decode cX3_init 40 = .ok (.goto (-26), 3) := by decide +kernel
theorem dX3_init_43 : decode cX3_init 43 = .ok (.aload_n 0, 1) := by decide +kernel
theorem dX3_init_44 : decode cX3_init 44 = .ok (.bipush 8, 2) := by decide +kernel
theorem dX3_init_46 : decode cX3_init 46 = .ok (.anewarray 20, 3) := by decide +kernel
theorem dX3_init_49 : decode cX3_init 49 = .ok (.putfield 22, 3) := by decide +kernel
theorem dX3_init_52 : decode cX3_init 52 = .ok (.iconst 0, 1) := by decide +kernel
theorem dX3_init_53 : decode cX3_init 53 = .ok (.istore_n 1, 1) := by decide +kernel
theorem dX3_init_54 : decode cX3_init 54 = .ok (.iload_n 1, 1) := by decide +kernel
theorem dX3_init_55 : decode cX3_init 55 = .ok (.aload_n 0, 1) := by decide +kernel
theorem dX3_init_56 : decode cX3_init 56 = .ok (.getfield 22, 3) := by decide +kernel
theorem dX3_init_59 : decode cX3_init 59 = .ok (.arraylength, 1) := by decide +kernel
theorem dX3_init_60 : decode cX3_init 60 = .ok (.if_icmp .ge 22, 3) := by decide +kernel
theorem dX3_init_63 : decode cX3_init 63 = .ok (.aload_n 0, 1) := by decide +kernel
theorem dX3_init_64 : decode cX3_init 64 = .ok (.getfield 22, 3) := by decide +kernel
theorem dX3_init_67 : decode cX3_init 67 = .ok (.iload_n 1, 1) := by decide +kernel
theorem dX3_init_68 : decode cX3_init 68 = .ok (.new 20, 3) := by decide +kernel
theorem dX3_init_71 : decode cX3_init 71 = .ok (.dup, 1) := by decide +kernel
theorem dX3_init_72 : decode cX3_init 72 = .ok (.invokespecial 26, 3) := by decide +kernel
theorem dX3_init_75 : decode cX3_init 75 = .ok (.aastore, 1) := by decide +kernel
theorem dX3_init_76 : decode cX3_init 76 = .ok (.iinc 1 1, 3) := by decide +kernel
theorem dX3_init_79 : decode cX3_init 79 = .ok (.goto (-25), 3) := by decide +kernel
theorem dX3_init_82 : decode cX3_init 82 = .ok (.return_, 1) := by decide +kernel
theorem dX3_clear_0 : decode cX3_clear 0 = .ok (.aload_n 0, 1) := by decide +kernel
theorem dX3_clear_1 : decode cX3_clear 1 = .ok (.iconst 0, 1) := by decide +kernel
theorem dX3_clear_2 : decode cX3_clear 2 = .ok (.putfield 27, 3) := by decide +kernel
theorem dX3_clear_5 : decode cX3_clear 5 = .ok (.aload_n 0, 1) := by decide +kernel
theorem dX3_clear_6 : decode cX3_clear 6 = .ok (.iconst 0, 1) := by decide +kernel
theorem dX3_clear_7 : decode cX3_clear 7 = .ok (.putfield 31, 3) := by decide +kernel
theorem dX3_clear_10 : decode cX3_clear 10 = .ok (.aload_n 0, 1) := by decide +kernel
theorem dX3_clear_11 : decode cX3_clear 11 = .ok (.iconst 0, 1) := by decide +kernel
theorem dX3_clear_12 : decode cX3_clear 12 = .ok (.putfield 34, 3) := by decide +kernel
theorem dX3_clear_15 : decode cX3_clear 15 = .ok (.return_, 1) := by decide +kernel
theorem dX3_tapAt_0 : decode cX3_tapAt 0 = .ok (.iload_n 1, 1) := by decide +kernel
theorem dX3_tapAt_1 : decode cX3_tapAt 1 = .ok (.ifCond .lt 29, 3) := by decide +kernel
theorem dX3_tapAt_4 : decode cX3_tapAt 4 = .ok (.iload_n 1, 1) := by decide +kernel
theorem dX3_tapAt_5 : decode cX3_tapAt 5 = .ok (.aload_n 0, 1) := by decide +kernel
theorem dX3_tapAt_6 : decode cX3_tapAt 6 = .ok (.getfield 27, 3) := by decide +kernel
theorem dX3_tapAt_9 : decode cX3_tapAt 9 = .ok (.if_icmp .ge 21, 3) := by decide +kernel
theorem dX3_tapAt_12 : decode cX3_tapAt 12 = .ok (.iload_n 1, 1) := by decide +kernel
theorem dX3_tapAt_13 : decode cX3_tapAt 13 = .ok (.aload_n 0, 1) := by decide +kernel
theorem dX3_tapAt_14 : decode cX3_tapAt 14 = .ok (.getfield 11, 3) := by decide +kernel
theorem dX3_tapAt_17 : decode cX3_tapAt 17 = .ok (.arraylength, 1) := by decide +kernel
theorem dX3_tapAt_18 : decode cX3_tapAt 18 = .ok (.if_icmp .ge 12, 3) := by decide +kernel
theorem dX3_tapAt_21 : decode cX3_tapAt 21 = .ok (.aload_n 0, 1) := by decide +kernel
theorem dX3_tapAt_22 : decode cX3_tapAt 22 = .ok (.getfield 11, 3) := by decide +kernel
theorem dX3_tapAt_25 : decode cX3_tapAt 25 = .ok (.iload_n 1, 1) := by decide +kernel
theorem dX3_tapAt_26 : decode cX3_tapAt 26 = .ok (.aaload, 1) := by decide +kernel
theorem dX3_tapAt_27 : decode cX3_tapAt 27 = .ok (.goto 4, 3) := by decide +kernel
theorem dX3_tapAt_30 : decode cX3_tapAt 30 = .ok (.aconst_null, 1) := by decide +kernel
theorem dX3_tapAt_31 : decode cX3_tapAt 31 = .ok (.areturn, 1) := by decide +kernel
theorem dX3_noteAt_0 : decode cX3_noteAt 0 = .ok (.iload_n 1, 1) := by decide +kernel
theorem dX3_noteAt_1 : decode cX3_noteAt 1 = .ok (.ifCond .lt 29, 3) := by decide +kernel
theorem dX3_noteAt_4 : decode cX3_noteAt 4 = .ok (.iload_n 1, 1) := by decide +kernel
theorem dX3_noteAt_5 : decode cX3_noteAt 5 = .ok (.aload_n 0, 1) := by decide +kernel
theorem dX3_noteAt_6 : decode cX3_noteAt 6 = .ok (.getfield 31, 3) := by decide +kernel
theorem dX3_noteAt_9 : decode cX3_noteAt 9 = .ok (.if_icmp .ge 21, 3) := by decide +kernel
theorem dX3_noteAt_12 : decode cX3_noteAt 12 = .ok (.iload_n 1, 1) := by decide +kernel
theorem dX3_noteAt_13 : decode cX3_noteAt 13 = .ok (.aload_n 0, 1) := by decide +kernel
theorem dX3_noteAt_14 : decode cX3_noteAt 14 = .ok (.getfield 22, 3) := by decide +kernel
theorem dX3_noteAt_17 : decode cX3_noteAt 17 = .ok (.arraylength, 1) := by decide +kernel
theorem dX3_noteAt_18 : decode cX3_noteAt 18 = .ok (.if_icmp .ge 12, 3) := by decide +kernel
theorem dX3_noteAt_21 : decode cX3_noteAt 21 = .ok (.aload_n 0, 1) := by decide +kernel
theorem dX3_noteAt_22 : decode cX3_noteAt 22 = .ok (.getfield 22, 3) := by decide +kernel
theorem dX3_noteAt_25 : decode cX3_noteAt 25 = .ok (.iload_n 1, 1) := by decide +kernel
theorem dX3_noteAt_26 : decode cX3_noteAt 26 = .ok (.aaload, 1) := by decide +kernel
theorem dX3_noteAt_27 : decode cX3_noteAt 27 = .ok (.goto 4, 3) := by decide +kernel
theorem dX3_noteAt_30 : decode cX3_noteAt 30 = .ok (.aconst_null, 1) := by decide +kernel
theorem dX3_noteAt_31 : decode cX3_noteAt 31 = .ok (.areturn, 1) := by decide +kernel
theorem dX3_addTap_0 : decode cX3_addTap 0 = .ok (.aload_n 0, 1) := by decide +kernel
theorem dX3_addTap_1 : decode cX3_addTap 1 = .ok (.getfield 27, 3) := by decide +kernel
theorem dX3_addTap_4 : decode cX3_addTap 4 = .ok (.iconst 5, 1) := by decide +kernel
theorem dX3_addTap_5 : decode cX3_addTap 5 = .ok (.if_icmp .lt 4, 3) := by decide +kernel
theorem dX3_addTap_8 : decode cX3_addTap 8 = .ok (.return_, 1) := by decide +kernel
theorem dX3_addTap_9 : decode cX3_addTap 9 = .ok (.aload_n 0, 1) := by decide +kernel
theorem dX3_addTap_10 : decode cX3_addTap 10 = .ok (.dup, 1) := by decide +kernel
theorem dX3_addTap_11 : decode cX3_addTap 11 = .ok (.getfield 27, 3) := by decide +kernel
theorem dX3_addTap_14 : decode cX3_addTap 14 = .ok (.iconst 1, 1) := by decide +kernel
theorem dX3_addTap_15 : decode cX3_addTap 15 = .ok (.iadd, 1) := by decide +kernel
theorem dX3_addTap_16 : decode cX3_addTap 16 = .ok (.putfield 27, 3) := by decide +kernel
theorem dX3_addTap_19 : decode cX3_addTap 19 = .ok (.aload_n 0, 1) := by decide +kernel
theorem dX3_addTap_20 : decode cX3_addTap 20 = .ok (.aload_n 0, 1) := by decide +kernel
theorem dX3_addTap_21 : decode cX3_addTap 21 = .ok (.getfield 27, 3) := by decide +kernel
theorem dX3_addTap_24 : decode cX3_addTap 24 = .ok (.iconst 1, 1) := by decide +kernel
theorem dX3_addTap_25 : decode cX3_addTap 25 = .ok (.isub, 1) := by decide +kernel
theorem dX3_addTap_26 : decode cX3_addTap 26 = .ok (.invokevirtual 37, 3) := by decide +kernel
theorem dX3_addTap_29 : decode cX3_addTap 29 = .ok (.astore_n 3, 1) := by decide +kernel
theorem dX3_addTap_30 : decode cX3_addTap 30 = .ok (.aload_n 3, 1) := by decide +kernel
theorem dX3_addTap_31 : decode cX3_addTap 31 = .ok (.ifnull 11, 3) := by decide +kernel
theorem dX3_addTap_34 : decode cX3_addTap 34 = .ok (.aload_n 3, 1) := by decide +kernel
theorem dX3_addTap_35 : decode cX3_addTap 35 = .ok (.iload_n 1, 1) := by decide +kernel
theorem dX3_addTap_36 : decode cX3_addTap 36 = .ok (.iload_n 2, 1) := by decide +kernel
theorem dX3_addTap_37 : decode cX3_addTap 37 = .ok (.iconst 0, 1) := by decide +kernel
theorem dX3_addTap_38 : decode cX3_addTap 38 = .ok (.iconst 0, 1) := by decide +kernel
theorem dX3_addTap_39 : decode cX3_addTap 39 = .ok (.invokevirtual 41, 3) := by decide +kernel
theorem dX3_addTap_42 : decode cX3_addTap 42 = .ok (.return_, 1) := by decide +kernel
theorem dX3_addNote_0 : decode cX3_addNote 0 = .ok (.aload_n 0, 1) := by decide +kernel
theorem dX3_addNote_1 : decode cX3_addNote 1 = .ok (.getfield 31, 3) := by decide +kernel
theorem dX3_addNote_4 : decode cX3_addNote 4 = .ok (.bipush 8, 2) := by decide +kernel
theorem dX3_addNote_6 : decode cX3_addNote 6 = .ok (.if_icmp .lt 4, 3) := by decide +kernel
theorem dX3_addNote_9 : decode cX3_addNote 9 = .ok (.return_, 1) := by decide +kernel
theorem dX3_addNote_10 : decode cX3_addNote 10 = .ok (.aload_n 0, 1) := by decide +kernel
theorem dX3_addNote_11 : decode cX3_addNote 11 = .ok (.dup, 1) := by decide +kernel
theorem dX3_addNote_12 : decode cX3_addNote 12 = .ok (.getfield 31, 3) := by decide +kernel
theorem dX3_addNote_15 : decode cX3_addNote 15 = .ok (.iconst 1, 1) := by decide +kernel
theorem dX3_addNote_16 : decode cX3_addNote 16 = .ok (.iadd, 1) := by decide +kernel
theorem dX3_addNote_17 : decode cX3_addNote 17 = .ok (.putfield 31, 3) := by decide +kernel
theorem dX3_addNote_20 : decode cX3_addNote 20 = .ok (.aload_n 0, 1) := by decide +kernel
theorem dX3_addNote_21 : decode cX3_addNote 21 = .ok (.aload_n 0, 1) := by decide +kernel
theorem dX3_addNote_22 : decode cX3_addNote 22 = .ok (.getfield 31, 3) := by decide +kernel
theorem dX3_addNote_25 : decode cX3_addNote 25 = .ok (.iconst 1, 1) := by decide +kernel
theorem dX3_addNote_26 : decode cX3_addNote 26 = .ok (.isub, 1) := by decide +kernel
theorem dX3_addNote_27 : decode cX3_addNote 27 = .ok (.invokevirtual 45, 3) := by decide +kernel
theorem dX3_addNote_30 : decode cX3_addNote 30 = .ok (.astore 4, 2) := by decide +kernel
theorem dX3_addNote_32 : decode cX3_addNote 32 = .ok (.aload 4, 2) := by decide +kernel
theorem dX3_addNote_34 : decode cX3_addNote 34 = .ok (.ifnull 18, 3) := by decide +kernel
theorem dX3_addNote_37 : decode cX3_addNote 37 = .ok (.aload 4, 2) := by decide +kernel
theorem dX3_addNote_39 : decode cX3_addNote 39 = .ok (.aload_n 1, 1) := by decide +kernel
theorem dX3_addNote_40 : decode cX3_addNote 40 = .ok (.getfield 49, 3) := by decide +kernel
theorem dX3_addNote_43 : decode cX3_addNote 43 = .ok (.iload_n 2, 1) := by decide +kernel
theorem dX3_addNote_44 : decode cX3_addNote 44 = .ok (.iload_n 3, 1) := by decide +kernel
theorem dX3_addNote_45 : decode cX3_addNote 45 = .ok (.aload_n 1, 1) := by decide +kernel
theorem dX3_addNote_46 : decode cX3_addNote 46 = .ok (.getfield 52, 3) := by decide +kernel
theorem dX3_addNote_49 : decode cX3_addNote 49 = .ok (.invokevirtual 55, 3) := by decide +kernel
theorem dX3_addNote_52 : decode cX3_addNote 52 = .ok (.return_, 1) := by decide +kernel
theorem dX3_copyFrom_0 : decode cX3_copyFrom 0 = .ok (.aload_n 0, 1) := by decide +kernel
theorem dX3_copyFrom_1 : decode cX3_copyFrom 1 = .ok (.aload_n 1, 1) := by decide +kernel
theorem dX3_copyFrom_2 : decode cX3_copyFrom 2 = .ok (.getfield 27, 3) := by decide +kernel
theorem dX3_copyFrom_5 : decode cX3_copyFrom 5 = .ok (.putfield 27, 3) := by decide +kernel
theorem dX3_copyFrom_8 : decode cX3_copyFrom 8 = .ok (.aload_n 0, 1) := by decide +kernel
theorem dX3_copyFrom_9 : decode cX3_copyFrom 9 = .ok (.aload_n 1, 1) := by decide +kernel
theorem dX3_copyFrom_10 : decode cX3_copyFrom 10 = .ok (.getfield 31, 3) := by decide +kernel
theorem dX3_copyFrom_13 : decode cX3_copyFrom 13 = .ok (.putfield 31, 3) := by decide +kernel
theorem dX3_copyFrom_16 : decode cX3_copyFrom 16 = .ok (.aload_n 0, 1) := by decide +kernel
theorem dX3_copyFrom_17 : decode cX3_copyFrom 17 = .ok (.aload_n 1, 1) := by decide +kernel
theorem dX3_copyFrom_18 : decode cX3_copyFrom 18 = .ok (.getfield 34, 3) := by decide +kernel
theorem dX3_copyFrom_21 : decode cX3_copyFrom 21 = .ok (.putfield 34, 3) := by decide +kernel
theorem dX3_copyFrom_24 : decode cX3_copyFrom 24 = .ok (.iconst 0, 1) := by decide +kernel
theorem dX3_copyFrom_25 : decode cX3_copyFrom 25 = .ok (.istore_n 2, 1) := by decide +kernel
theorem dX3_copyFrom_26 : decode cX3_copyFrom 26 = .ok (.iload_n 2, 1) := by decide +kernel
theorem dX3_copyFrom_27 : decode cX3_copyFrom 27 = .ok (.aload_n 0, 1) := by decide +kernel
theorem dX3_copyFrom_28 : decode cX3_copyFrom 28 = .ok (.getfield 27, 3) := by decide +kernel
theorem dX3_copyFrom_31 : decode cX3_copyFrom 31 = .ok (.if_icmp .ge 58, 3) := by decide +kernel
theorem dX3_copyFrom_34 : decode cX3_copyFrom 34 = .ok (.aload_n 0, 1) := by decide +kernel
theorem dX3_copyFrom_35 : decode cX3_copyFrom 35 = .ok (.iload_n 2, 1) := by decide +kernel
theorem dX3_copyFrom_36 : decode cX3_copyFrom 36 = .ok (.invokevirtual 37, 3) := by decide +kernel
theorem dX3_copyFrom_39 : decode cX3_copyFrom 39 = .ok (.astore_n 3, 1) := by decide +kernel
theorem dX3_copyFrom_40 : decode cX3_copyFrom 40 = .ok (.aload_n 1, 1) := by decide +kernel
theorem dX3_copyFrom_41 : decode cX3_copyFrom 41 = .ok (.iload_n 2, 1) := by decide +kernel
theorem dX3_copyFrom_42 : decode cX3_copyFrom 42 = .ok (.invokevirtual 37, 3) := by decide +kernel
theorem dX3_copyFrom_45 : decode cX3_copyFrom 45 = .ok (.astore 4, 2) := by decide +kernel
theorem dX3_copyFrom_47 : decode cX3_copyFrom 47 = .ok (.aload_n 3, 1) := by decide +kernel
theorem dX3_copyFrom_48 : decode cX3_copyFrom 48 = .ok (.ifnull 35, 3) := by decide +kernel
theorem dX3_copyFrom_51 : decode cX3_copyFrom 51 = .ok (.aload 4, 2) := by decide +kernel
theorem dX3_copyFrom_53 : decode cX3_copyFrom 53 = .ok (.ifnonnull 6, 3) := by decide +kernel
theorem dX3_copyFrom_56 : decode cX3_copyFrom 56 = .ok (.goto 27, 3) := by decide +kernel
theorem dX3_copyFrom_59 : decode cX3_copyFrom 59 = .ok (.aload_n 3, 1) := by decide +kernel
theorem dX3_copyFrom_60 : decode cX3_copyFrom 60 = .ok (.aload 4, 2) := by decide +kernel
theorem dX3_copyFrom_62 : decode cX3_copyFrom 62 = .ok (.getfield 56, 3) := by decide +kernel
theorem dX3_copyFrom_65 : decode cX3_copyFrom 65 = .ok (.aload 4, 2) := by decide +kernel
theorem dX3_copyFrom_67 : decode cX3_copyFrom 67 = .ok (.getfield 59, 3) := by decide +kernel
theorem dX3_copyFrom_70 : decode cX3_copyFrom 70 = .ok (.aload 4, 2) := by decide +kernel
theorem dX3_copyFrom_72 : decode cX3_copyFrom 72 = .ok (.getfield 52, 3) := by decide +kernel
theorem dX3_copyFrom_75 : decode cX3_copyFrom 75 = .ok (.aload 4, 2) := by decide +kernel
theorem dX3_copyFrom_77 : decode cX3_copyFrom 77 = .ok (.getfield 62, 3) := by decide +kernel
theorem dX3_copyFrom_80 : decode cX3_copyFrom 80 = .ok (.invokevirtual 41, 3) := by decide +kernel
theorem dX3_copyFrom_83 : decode cX3_copyFrom 83 = .ok (.iinc 2 1, 3) := by decide +kernel
theorem dX3_copyFrom_86 : decode cX3_copyFrom 86 = .ok (.goto (-60), 3) := by decide +kernel
theorem dX3_copyFrom_89 : decode cX3_copyFrom 89 = .ok (.iconst 0, 1) := by decide +kernel
theorem dX3_copyFrom_90 : decode cX3_copyFrom 90 = .ok (.istore_n 2, 1) := by decide +kernel
theorem dX3_copyFrom_91 : decode cX3_copyFrom 91 = .ok (.iload_n 2, 1) := by decide +kernel
theorem dX3_copyFrom_92 : decode cX3_copyFrom 92 = .ok (.aload_n 0, 1) := by decide +kernel
theorem dX3_copyFrom_93 : decode cX3_copyFrom 93 = .ok (.getfield 31, 3) := by decide +kernel
theorem dX3_copyFrom_96 : decode cX3_copyFrom 96 = .ok (.if_icmp .ge 58, 3) := by decide +kernel
theorem dX3_copyFrom_99 : decode cX3_copyFrom 99 = .ok (.aload_n 0, 1) := by decide +kernel
theorem dX3_copyFrom_100 : decode cX3_copyFrom 100 = .ok (.iload_n 2, 1) := by decide +kernel
theorem dX3_copyFrom_101 : decode cX3_copyFrom 101 = .ok (.invokevirtual 45, 3) := by decide +kernel
theorem dX3_copyFrom_104 : decode cX3_copyFrom 104 = .ok (.astore_n 3, 1) := by decide +kernel
theorem dX3_copyFrom_105 : decode cX3_copyFrom 105 = .ok (.aload_n 1, 1) := by decide +kernel
theorem dX3_copyFrom_106 : decode cX3_copyFrom 106 = .ok (.iload_n 2, 1) := by decide +kernel
theorem dX3_copyFrom_107 : decode cX3_copyFrom 107 = .ok (.invokevirtual 45, 3) := by decide +kernel
theorem dX3_copyFrom_110 : decode cX3_copyFrom 110 = .ok (.astore 4, 2) := by decide +kernel
theorem dX3_copyFrom_112 : decode cX3_copyFrom 112 = .ok (.aload_n 3, 1) := by decide +kernel
theorem dX3_copyFrom_113 : decode cX3_copyFrom 113 = .ok (.ifnull 35, 3) := by decide +kernel
theorem dX3_copyFrom_116 : decode cX3_copyFrom 116 = .ok (.aload 4, 2) := by decide +kernel
theorem dX3_copyFrom_118 : decode cX3_copyFrom 118 = .ok (.ifnonnull 6, 3) := by decide +kernel
theorem dX3_copyFrom_121 : decode cX3_copyFrom 121 = .ok (.goto 27, 3) := by decide +kernel
theorem dX3_copyFrom_124 : decode cX3_copyFrom 124 = .ok (.aload_n 3, 1) := by decide +kernel
theorem dX3_copyFrom_125 : decode cX3_copyFrom 125 = .ok (.aload 4, 2) := by decide +kernel
theorem dX3_copyFrom_127 : decode cX3_copyFrom 127 = .ok (.getfield 65, 3) := by decide +kernel
theorem dX3_copyFrom_130 : decode cX3_copyFrom 130 = .ok (.aload 4, 2) := by decide +kernel
theorem dX3_copyFrom_132 : decode cX3_copyFrom 132 = .ok (.getfield 68, 3) := by decide +kernel
theorem dX3_copyFrom_135 : decode cX3_copyFrom 135 = .ok (.aload 4, 2) := by decide +kernel
theorem dX3_copyFrom_137 : decode cX3_copyFrom 137 = .ok (.getfield 71, 3) := by decide +kernel
theorem dX3_copyFrom_140 : decode cX3_copyFrom 140 = .ok (.aload 4, 2) := by decide +kernel
theorem dX3_copyFrom_142 : decode cX3_copyFrom 142 = .ok (.getfield 74, 3) := by decide +kernel
theorem dX3_copyFrom_145 : decode cX3_copyFrom 145 = .ok (.invokevirtual 55, 3) := by decide +kernel
theorem dX3_copyFrom_148 : decode cX3_copyFrom 148 = .ok (.iinc 2 1, 3) := by decide +kernel
theorem dX3_copyFrom_151 : decode cX3_copyFrom 151 = .ok (.goto (-60), 3) := by decide +kernel
theorem dX3_copyFrom_154 : decode cX3_copyFrom 154 = .ok (.return_, 1) := by decide +kernel
theorem dX3_washerCount_0 : decode cX3_washerCount 0 = .ok (.iconst 0, 1) := by decide +kernel
theorem dX3_washerCount_1 : decode cX3_washerCount 1 = .ok (.istore_n 1, 1) := by decide +kernel
theorem dX3_washerCount_2 : decode cX3_washerCount 2 = .ok (.iconst 0, 1) := by decide +kernel
theorem dX3_washerCount_3 : decode cX3_washerCount 3 = .ok (.istore_n 2, 1) := by decide +kernel
theorem dX3_washerCount_4 : decode cX3_washerCount 4 = .ok (.iload_n 2, 1) := by decide +kernel
theorem dX3_washerCount_5 : decode cX3_washerCount 5 = .ok (.aload_n 0, 1) := by decide +kernel
theorem dX3_washerCount_6 : decode cX3_washerCount 6 = .ok (.getfield 27, 3) := by decide +kernel
theorem dX3_washerCount_9 : decode cX3_washerCount 9 = .ok (.if_icmp .ge 26, 3) := by decide +kernel
theorem dX3_washerCount_12 : decode cX3_washerCount 12 = .ok (.aload_n 0, 1) := by decide +kernel
theorem dX3_washerCount_13 : decode cX3_washerCount 13 = .ok (.iload_n 2, 1) := by decide +kernel
theorem dX3_washerCount_14 : decode cX3_washerCount 14 = .ok (.invokevirtual 37, 3) := by decide +kernel
theorem dX3_washerCount_17 : decode cX3_washerCount 17 = .ok (.astore_n 3, 1) := by decide +kernel
theorem dX3_washerCount_18 : decode cX3_washerCount 18 = .ok (.aload_n 3, 1) := by decide +kernel
theorem dX3_washerCount_19 : decode cX3_washerCount 19 = .ok (.ifnull 10, 3) := by decide +kernel
theorem dX3_washerCount_22 : decode cX3_washerCount 22 = .ok (.iload_n 1, 1) := by decide +kernel
theorem dX3_washerCount_23 : decode cX3_washerCount 23 = .ok (.aload_n 3, 1) := by decide +kernel
theorem dX3_washerCount_24 : decode cX3_washerCount 24 = .ok (.getfield 52, 3) := by decide +kernel
theorem dX3_washerCount_27 : decode cX3_washerCount 27 = .ok (.iadd, 1) := by decide +kernel
theorem dX3_washerCount_28 : decode cX3_washerCount 28 = .ok (.istore_n 1, 1) := by decide +kernel
theorem dX3_washerCount_29 : decode cX3_washerCount 29 = .ok (.iinc 2 1, 3) := by decide +kernel
theorem dX3_washerCount_32 : decode cX3_washerCount 32 = .ok (.goto (-28), 3) := by decide +kernel
theorem dX3_washerCount_35 : decode cX3_washerCount 35 = .ok (.iload_n 1, 1) := by decide +kernel
theorem dX3_washerCount_36 : decode cX3_washerCount 36 = .ok (.ireturn, 1) := by decide +kernel
theorem dX3_heardCount_0 : decode cX3_heardCount 0 = .ok (.iconst 0, 1) := by decide +kernel
theorem dX3_heardCount_1 : decode cX3_heardCount 1 = .ok (.istore_n 1, 1) := by decide +kernel
theorem dX3_heardCount_2 : decode cX3_heardCount 2 = .ok (.iconst 0, 1) := by decide +kernel
theorem dX3_heardCount_3 : decode cX3_heardCount 3 = .ok (.istore_n 2, 1) := by decide +kernel
theorem dX3_heardCount_4 : decode cX3_heardCount 4 = .ok (.iload_n 2, 1) := by decide +kernel
theorem dX3_heardCount_5 : decode cX3_heardCount 5 = .ok (.aload_n 0, 1) := by decide +kernel
theorem dX3_heardCount_6 : decode cX3_heardCount 6 = .ok (.getfield 27, 3) := by decide +kernel
theorem dX3_heardCount_9 : decode cX3_heardCount 9 = .ok (.if_icmp .ge 26, 3) := by decide +kernel
theorem dX3_heardCount_12 : decode cX3_heardCount 12 = .ok (.aload_n 0, 1) := by decide +kernel
theorem dX3_heardCount_13 : decode cX3_heardCount 13 = .ok (.iload_n 2, 1) := by decide +kernel
theorem dX3_heardCount_14 : decode cX3_heardCount 14 = .ok (.invokevirtual 37, 3) := by decide +kernel
theorem dX3_heardCount_17 : decode cX3_heardCount 17 = .ok (.astore_n 3, 1) := by decide +kernel
theorem dX3_heardCount_18 : decode cX3_heardCount 18 = .ok (.aload_n 3, 1) := by decide +kernel
theorem dX3_heardCount_19 : decode cX3_heardCount 19 = .ok (.ifnull 10, 3) := by decide +kernel
theorem dX3_heardCount_22 : decode cX3_heardCount 22 = .ok (.iload_n 1, 1) := by decide +kernel
theorem dX3_heardCount_23 : decode cX3_heardCount 23 = .ok (.aload_n 3, 1) := by decide +kernel
theorem dX3_heardCount_24 : decode cX3_heardCount 24 = .ok (.getfield 62, 3) := by decide +kernel
theorem dX3_heardCount_27 : decode cX3_heardCount 27 = .ok (.iadd, 1) := by decide +kernel
theorem dX3_heardCount_28 : decode cX3_heardCount 28 = .ok (.istore_n 1, 1) := by decide +kernel
theorem dX3_heardCount_29 : decode cX3_heardCount 29 = .ok (.iinc 2 1, 3) := by decide +kernel
theorem dX3_heardCount_32 : decode cX3_heardCount 32 = .ok (.goto (-28), 3) := by decide +kernel
theorem dX3_heardCount_35 : decode cX3_heardCount 35 = .ok (.iload_n 1, 1) := by decide +kernel
theorem dX3_heardCount_36 : decode cX3_heardCount 36 = .ok (.ireturn, 1) := by decide +kernel
theorem dX4_init_0 : decode cX4_init 0 = .ok (.aload_n 0, 1) := by decide +kernel
theorem dX4_init_1 : decode cX4_init 1 = .ok (.invokespecial 3, 3) := by decide +kernel
theorem dX4_init_4 : decode cX4_init 4 = .ok (.aload_n 0, 1) := by decide +kernel
theorem dX4_init_5 : decode cX4_init 5 = .ok (.bipush 16, 2) := by decide +kernel
theorem dX4_init_7 : decode cX4_init 7 = .ok (.newarray .int, 2) := by decide +kernel
theorem dX4_init_9 : decode cX4_init 9 = .ok (.putfield 9, 3) := by decide +kernel
theorem dX4_init_12 : decode cX4_init 12 = .ok (.aload_n 0, 1) := by decide +kernel
theorem dX4_init_13 : decode cX4_init 13 = .ok (.iconst 4, 1) := by decide +kernel
theorem dX4_init_14 : decode cX4_init 14 = .ok (.newarray .int, 2) := by decide +kernel
theorem dX4_init_16 : decode cX4_init 16 = .ok (.putfield 15, 3) := by decide +kernel
theorem dX4_init_19 : decode cX4_init 19 = .ok (.return_, 1) := by decide +kernel
theorem dX4_clear_0 : decode cX4_clear 0 = .ok (.iconst 0, 1) := by decide +kernel
theorem dX4_clear_1 : decode cX4_clear 1 = .ok (.istore_n 1, 1) := by decide +kernel
theorem dX4_clear_2 : decode cX4_clear 2 = .ok (.iload_n 1, 1) := by decide +kernel
theorem dX4_clear_3 : decode cX4_clear 3 = .ok (.aload_n 0, 1) := by decide +kernel
theorem dX4_clear_4 : decode cX4_clear 4 = .ok (.getfield 9, 3) := by decide +kernel
theorem dX4_clear_7 : decode cX4_clear 7 = .ok (.arraylength, 1) := by decide +kernel
theorem dX4_clear_8 : decode cX4_clear 8 = .ok (.if_icmp .ge 16, 3) := by decide +kernel
theorem dX4_clear_11 : decode cX4_clear 11 = .ok (.aload_n 0, 1) := by decide +kernel
theorem dX4_clear_12 : decode cX4_clear 12 = .ok (.getfield 9, 3) := by decide +kernel
theorem dX4_clear_15 : decode cX4_clear 15 = .ok (.iload_n 1, 1) := by decide +kernel
theorem dX4_clear_16 : decode cX4_clear 16 = .ok (.iconst (-1), 1) := by decide +kernel
theorem dX4_clear_17 : decode cX4_clear 17 = .ok (.iastore, 1) := by decide +kernel
theorem dX4_clear_18 : decode cX4_clear 18 = .ok (.iinc 1 1, 3) := by decide +kernel
theorem dX4_clear_21 : decode cX4_clear 21 = .ok (.goto (-19), 3) := by decide +kernel
theorem dX4_clear_24 : decode cX4_clear 24 = .ok (.iconst 0, 1) := by decide +kernel
theorem dX4_clear_25 : decode cX4_clear 25 = .ok (.istore_n 1, 1) := by decide +kernel
theorem dX4_clear_26 : decode cX4_clear 26 = .ok (.iload_n 1, 1) := by decide +kernel
theorem dX4_clear_27 : decode cX4_clear 27 = .ok (.aload_n 0, 1) := by decide +kernel
theorem dX4_clear_28 : decode cX4_clear 28 = .ok (.getfield 15, 3) := by decide +kernel
theorem dX4_clear_31 : decode cX4_clear 31 = .ok (.arraylength, 1) := by decide +kernel
theorem dX4_clear_32 : decode cX4_clear 32 = .ok (.if_icmp .ge 16, 3) := by decide +kernel
theorem dX4_clear_35 : decode cX4_clear 35 = .ok (.aload_n 0, 1) := by decide +kernel
theorem dX4_clear_36 : decode cX4_clear 36 = .ok (.getfield 15, 3) := by decide +kernel
theorem dX4_clear_39 : decode cX4_clear 39 = .ok (.iload_n 1, 1) := by decide +kernel
theorem dX4_clear_40 : decode cX4_clear 40 = .ok (.iconst 0, 1) := by decide +kernel
theorem dX4_clear_41 : decode cX4_clear 41 = .ok (.iastore, 1) := by decide +kernel
theorem dX4_clear_42 : decode cX4_clear 42 = .ok (.iinc 1 1, 3) := by decide +kernel
theorem dX4_clear_45 : decode cX4_clear 45 = .ok (.goto (-19), 3) := by decide +kernel
theorem dX4_clear_48 : decode cX4_clear 48 = .ok (.return_, 1) := by decide +kernel
theorem dX4_addBeat_0 : decode cX4_addBeat 0 = .ok (.iload_n 1, 1) := by decide +kernel
theorem dX4_addBeat_1 : decode cX4_addBeat 1 = .ok (.ifCond .lt 12, 3) := by decide +kernel
theorem dX4_addBeat_4 : decode cX4_addBeat 4 = .ok (.iload_n 1, 1) := by decide +kernel
theorem dX4_addBeat_5 : decode cX4_addBeat 5 = .ok (.aload_n 0, 1) := by decide +kernel
theorem dX4_addBeat_6 : decode cX4_addBeat 6 = .ok (.getfield 15, 3) := by decide +kernel
theorem dX4_addBeat_9 : decode cX4_addBeat 9 = .ok (.arraylength, 1) := by decide +kernel
theorem dX4_addBeat_10 : decode cX4_addBeat 10 = .ok (.if_icmp .lt 4, 3) := by decide +kernel
theorem dX4_addBeat_13 : decode cX4_addBeat 13 = .ok (.return_, 1) := by decide +kernel
theorem dX4_addBeat_14 : decode cX4_addBeat 14 = .ok (.iload_n 1, 1) := by decide +kernel
theorem dX4_addBeat_15 : decode cX4_addBeat 15 = .ok (.iconst 4, 1) := by decide +kernel
theorem dX4_addBeat_16 : decode cX4_addBeat 16 = .ok (.imul, 1) := by decide +kernel
theorem dX4_addBeat_17 : decode cX4_addBeat 17 = .ok (.aload_n 0, 1) := by decide +kernel
theorem dX4_addBeat_18 : decode cX4_addBeat 18 = .ok (.getfield 15, 3) := by decide +kernel
theorem dX4_addBeat_21 : decode cX4_addBeat 21 = .ok (.iload_n 1, 1) := by decide +kernel
theorem dX4_addBeat_22 : decode cX4_addBeat 22 = .ok (.iaload, 1) := by decide +kernel
theorem dX4_addBeat_23 : decode cX4_addBeat 23 = .ok (.iadd, 1) := by decide +kernel
theorem dX4_addBeat_24 : decode cX4_addBeat 24 = .ok (.istore_n 3, 1) := by decide +kernel
theorem dX4_addBeat_25 : decode cX4_addBeat 25 = .ok (.aload_n 0, 1) := by decide +kernel
theorem dX4_addBeat_26 : decode cX4_addBeat 26 = .ok (.getfield 15, 3) := by decide +kernel
theorem dX4_addBeat_29 : decode cX4_addBeat 29 = .ok (.iload_n 1, 1) := by decide +kernel
theorem dX4_addBeat_30 : decode cX4_addBeat 30 = .ok (.iaload, 1) := by decide +kernel
theorem dX4_addBeat_31 : decode cX4_addBeat 31 = .ok (.iconst 4, 1) := by decide +kernel
theorem dX4_addBeat_32 : decode cX4_addBeat 32 = .ok (.if_icmp .ge 16, 3) := by decide +kernel
theorem dX4_addBeat_35 : decode cX4_addBeat 35 = .ok (.iload_n 3, 1) := by decide +kernel
theorem dX4_addBeat_36 : decode cX4_addBeat 36 = .ok (.ifCond .lt 12, 3) := by decide +kernel
theorem dX4_addBeat_39 : decode cX4_addBeat 39 = .ok (.iload_n 3, 1) := by decide +kernel
theorem dX4_addBeat_40 : decode cX4_addBeat 40 = .ok (.aload_n 0, 1) := by decide +kernel
theorem dX4_addBeat_41 : decode cX4_addBeat 41 = .ok (.getfield 9, 3) := by decide +kernel
theorem dX4_addBeat_44 : decode cX4_addBeat 44 = .ok (.arraylength, 1) := by decide +kernel
theorem dX4_addBeat_45 : decode cX4_addBeat 45 = .ok (.if_icmp .lt 4, 3) := by decide +kernel
theorem dX4_addBeat_48 : decode cX4_addBeat 48 = .ok (.return_, 1) := by decide +kernel
theorem dX4_addBeat_49 : decode cX4_addBeat 49 = .ok (.aload_n 0, 1) := by decide +kernel
theorem dX4_addBeat_50 : decode cX4_addBeat 50 = .ok (.getfield 9, 3) := by decide +kernel
theorem dX4_addBeat_53 : decode cX4_addBeat 53 = .ok (.iload_n 3, 1) := by decide +kernel
theorem dX4_addBeat_54 : decode cX4_addBeat 54 = .ok (.iload_n 2, 1) := by decide +kernel
theorem dX4_addBeat_55 : decode cX4_addBeat 55 = .ok (.iastore, 1) := by decide +kernel
theorem dX4_addBeat_56 : decode cX4_addBeat 56 = .ok (.aload_n 0, 1) := by decide +kernel
theorem dX4_addBeat_57 : decode cX4_addBeat 57 = .ok (.getfield 15, 3) := by decide +kernel
theorem dX4_addBeat_60 : decode cX4_addBeat 60 = .ok (.iload_n 1, 1) := by decide +kernel
theorem dX4_addBeat_61 : decode cX4_addBeat 61 = .ok (.dup2, 1) := by decide +kernel
theorem dX4_addBeat_62 : decode cX4_addBeat 62 = .ok (.iaload, 1) := by decide +kernel
theorem dX4_addBeat_63 : decode cX4_addBeat 63 = .ok (.iconst 1, 1) := by decide +kernel
theorem dX4_addBeat_64 : decode cX4_addBeat 64 = .ok (.iadd, 1) := by decide +kernel
theorem dX4_addBeat_65 : decode cX4_addBeat 65 = .ok (.iastore, 1) := by decide +kernel
theorem dX4_addBeat_66 : decode cX4_addBeat 66 = .ok (.return_, 1) := by decide +kernel
theorem dX4_lengthOf_0 : decode cX4_lengthOf 0 = .ok (.iload_n 1, 1) := by decide +kernel
theorem dX4_lengthOf_1 : decode cX4_lengthOf 1 = .ok (.ifCond .lt 21, 3) := by decide +kernel
theorem dX4_lengthOf_4 : decode cX4_lengthOf 4 = .ok (.iload_n 1, 1) := by decide +kernel
theorem dX4_lengthOf_5 : decode cX4_lengthOf 5 = .ok (.aload_n 0, 1) := by decide +kernel
theorem dX4_lengthOf_6 : decode cX4_lengthOf 6 = .ok (.getfield 15, 3) := by decide +kernel
theorem dX4_lengthOf_9 : decode cX4_lengthOf 9 = .ok (.arraylength, 1) := by decide +kernel
theorem dX4_lengthOf_10 : decode cX4_lengthOf 10 = .ok (.if_icmp .ge 12, 3) := by decide +kernel
theorem dX4_lengthOf_13 : decode cX4_lengthOf 13 = .ok (.aload_n 0, 1) := by decide +kernel
theorem dX4_lengthOf_14 : decode cX4_lengthOf 14 = .ok (.getfield 15, 3) := by decide +kernel
theorem dX4_lengthOf_17 : decode cX4_lengthOf 17 = .ok (.iload_n 1, 1) := by decide +kernel
theorem dX4_lengthOf_18 : decode cX4_lengthOf 18 = .ok (.iaload, 1) := by decide +kernel
theorem dX4_lengthOf_19 : decode cX4_lengthOf 19 = .ok (.goto 4, 3) := by decide +kernel
theorem dX4_lengthOf_22 : decode cX4_lengthOf 22 = .ok (.iconst 0, 1) := by decide +kernel
theorem dX4_lengthOf_23 : decode cX4_lengthOf 23 = .ok (.ireturn, 1) := by decide +kernel
theorem dX4_beatOf_0 : decode cX4_beatOf 0 = .ok (.iload_n 1, 1) := by decide +kernel
theorem dX4_beatOf_1 : decode cX4_beatOf 1 = .ok (.ifCond .lt 17, 3) := by decide +kernel
theorem dX4_beatOf_4 : decode cX4_beatOf 4 = .ok (.iload_n 1, 1) := by decide +kernel
theorem dX4_beatOf_5 : decode cX4_beatOf 5 = .ok (.iconst 4, 1) := by decide +kernel
theorem dX4_beatOf_6 : decode cX4_beatOf 6 = .ok (.if_icmp .ge 12, 3) := by decide +kernel
theorem dX4_beatOf_9 : decode cX4_beatOf 9 = .ok (.iload_n 2, 1) := by decide +kernel
theorem dX4_beatOf_10 : decode cX4_beatOf 10 = .ok (.ifCond .lt 8, 3) := by decide +kernel
theorem dX4_beatOf_13 : decode cX4_beatOf 13 = .ok (.iload_n 2, 1) := by decide +kernel
theorem dX4_beatOf_14 : decode cX4_beatOf 14 = .ok (.iconst 4, 1) := by decide +kernel
theorem dX4_beatOf_15 : decode cX4_beatOf 15 = .ok (.if_icmp .lt 5, 3) := by decide +kernel
theorem dX4_beatOf_18 : decode cX4_beatOf 18 = .ok (.iconst (-1), 1) := by decide +kernel
theorem dX4_beatOf_19 : decode cX4_beatOf 19 = .ok (.ireturn, 1) := by decide +kernel
theorem dX4_beatOf_20 : decode cX4_beatOf 20 = .ok (.iload_n 1, 1) := by decide +kernel
theorem dX4_beatOf_21 : decode cX4_beatOf 21 = .ok (.iconst 4, 1) := by decide +kernel
theorem dX4_beatOf_22 : decode cX4_beatOf 22 = .ok (.imul, 1) := by decide +kernel
theorem dX4_beatOf_23 : decode cX4_beatOf 23 = .ok (.iload_n 2, 1) := by decide +kernel
theorem dX4_beatOf_24 : decode cX4_beatOf 24 = .ok (.iadd, 1) := by decide +kernel
theorem dX4_beatOf_25 : decode cX4_beatOf 25 = .ok (.istore_n 3, 1) := by decide +kernel
theorem dX4_beatOf_26 : decode cX4_beatOf 26 = .ok (.iload_n 3, 1) := by decide +kernel
theorem dX4_beatOf_27 : decode cX4_beatOf 27 = .ok (.aload_n 0, 1) := by decide +kernel
theorem dX4_beatOf_28 : decode cX4_beatOf 28 = .ok (.getfield 9, 3) := by decide +kernel
theorem dX4_beatOf_31 : decode cX4_beatOf 31 = .ok (.arraylength, 1) := by decide +kernel
theorem dX4_beatOf_32 : decode cX4_beatOf 32 = .ok (.if_icmp .ge 12, 3) := by decide +kernel
theorem dX4_beatOf_35 : decode cX4_beatOf 35 = .ok (.aload_n 0, 1) := by decide +kernel
theorem dX4_beatOf_36 : decode cX4_beatOf 36 = .ok (.getfield 9, 3) := by decide +kernel
theorem dX4_beatOf_39 : decode cX4_beatOf 39 = .ok (.iload_n 3, 1) := by decide +kernel
theorem dX4_beatOf_40 : decode cX4_beatOf 40 = .ok (.iaload, 1) := by decide +kernel
theorem dX4_beatOf_41 : decode cX4_beatOf 41 = .ok (.goto 4, 3) := by decide +kernel
theorem dX4_beatOf_44 : decode cX4_beatOf 44 = .ok (.iconst (-1), 1) := by decide +kernel
theorem dX4_beatOf_45 : decode cX4_beatOf 45 = .ok (.ireturn, 1) := by decide +kernel
theorem dX4_beatCount_0 : decode cX4_beatCount 0 = .ok (.iconst 0, 1) := by decide +kernel
theorem dX4_beatCount_1 : decode cX4_beatCount 1 = .ok (.istore_n 1, 1) := by decide +kernel
theorem dX4_beatCount_2 : decode cX4_beatCount 2 = .ok (.iconst 0, 1) := by decide +kernel
theorem dX4_beatCount_3 : decode cX4_beatCount 3 = .ok (.istore_n 2, 1) := by decide +kernel
theorem dX4_beatCount_4 : decode cX4_beatCount 4 = .ok (.iload_n 2, 1) := by decide +kernel
theorem dX4_beatCount_5 : decode cX4_beatCount 5 = .ok (.aload_n 0, 1) := by decide +kernel
theorem dX4_beatCount_6 : decode cX4_beatCount 6 = .ok (.getfield 15, 3) := by decide +kernel
theorem dX4_beatCount_9 : decode cX4_beatCount 9 = .ok (.arraylength, 1) := by decide +kernel
theorem dX4_beatCount_10 : decode cX4_beatCount 10 = .ok (.if_icmp .ge 18, 3) := by decide +kernel
theorem dX4_beatCount_13 : decode cX4_beatCount 13 = .ok (.iload_n 1, 1) := by decide +kernel
theorem dX4_beatCount_14 : decode cX4_beatCount 14 = .ok (.aload_n 0, 1) := by decide +kernel
theorem dX4_beatCount_15 : decode cX4_beatCount 15 = .ok (.getfield 15, 3) := by decide +kernel
theorem dX4_beatCount_18 : decode cX4_beatCount 18 = .ok (.iload_n 2, 1) := by decide +kernel
theorem dX4_beatCount_19 : decode cX4_beatCount 19 = .ok (.iaload, 1) := by decide +kernel
theorem dX4_beatCount_20 : decode cX4_beatCount 20 = .ok (.iadd, 1) := by decide +kernel
theorem dX4_beatCount_21 : decode cX4_beatCount 21 = .ok (.istore_n 1, 1) := by decide +kernel
theorem dX4_beatCount_22 : decode cX4_beatCount 22 = .ok (.iinc 2 1, 3) := by decide +kernel
theorem dX4_beatCount_25 : decode cX4_beatCount 25 = .ok (.goto (-21), 3) := by decide +kernel
theorem dX4_beatCount_28 : decode cX4_beatCount 28 = .ok (.iload_n 1, 1) := by decide +kernel
theorem dX4_beatCount_29 : decode cX4_beatCount 29 = .ok (.ireturn, 1) := by decide +kernel
theorem dX4_dripBy_0 : decode cX4_dripBy 0 = .ok (.aload_n 0, 1) := by decide +kernel
theorem dX4_dripBy_1 : decode cX4_dripBy 1 = .ok (.iload_n 2, 1) := by decide +kernel
theorem dX4_dripBy_2 : decode cX4_dripBy 2 = .ok (.invokevirtual 18, 3) := by decide +kernel
theorem dX4_dripBy_5 : decode cX4_dripBy 5 = .ok (.istore 5, 2) := by decide +kernel
theorem dX4_dripBy_7 : decode cX4_dripBy 7 = .ok (.iload 5, 2) := by decide +kernel
theorem dX4_dripBy_9 : decode cX4_dripBy 9 = .ok (.iconst 1, 1) := by decide +kernel
theorem dX4_dripBy_10 : decode cX4_dripBy 10 = .ok (.if_icmp .lt 8, 3) := by decide +kernel
theorem dX4_dripBy_13 : decode cX4_dripBy 13 = .ok (.iload 4, 2) := by decide +kernel
theorem dX4_dripBy_15 : decode cX4_dripBy 15 = .ok (.ifCond .ge 5, 3) := by decide +kernel
theorem dX4_dripBy_18 : decode cX4_dripBy 18 = .ok (.iconst 0, 1) := by decide +kernel
theorem dX4_dripBy_19 : decode cX4_dripBy 19 = .ok (.ireturn, 1) := by decide +kernel
theorem dX4_dripBy_20 : decode cX4_dripBy 20 = .ok (.iload 4, 2) := by decide +kernel
theorem dX4_dripBy_22 : decode cX4_dripBy 22 = .ok (.iload 5, 2) := by decide +kernel
theorem dX4_dripBy_24 : decode cX4_dripBy 24 = .ok (.irem, 1) := by decide +kernel
theorem dX4_dripBy_25 : decode cX4_dripBy 25 = .ok (.istore 6, 2) := by decide +kernel
theorem dX4_dripBy_27 : decode cX4_dripBy 27 = .ok (.iload 5, 2) := by decide +kernel
theorem dX4_dripBy_29 : decode cX4_dripBy 29 = .ok (.iconst 1, 1) := by decide +kernel
theorem dX4_dripBy_30 : decode cX4_dripBy 30 = .ok (.isub, 1) := by decide +kernel
theorem dX4_dripBy_31 : decode cX4_dripBy 31 = .ok (.iload 6, 2) := by decide +kernel
theorem dX4_dripBy_33 : decode cX4_dripBy 33 = .ok (.isub, 1) := by decide +kernel
theorem dX4_dripBy_34 : decode cX4_dripBy 34 = .ok (.istore 7, 2) := by decide +kernel
theorem dX4_dripBy_36 : decode cX4_dripBy 36 = .ok (.iload_n 1, 1) := by decide +kernel
theorem dX4_dripBy_37 : decode cX4_dripBy 37 = .ok (.tableswitch 94 1 4 #[31, 41, 63, 82], 31) := by decide +kernel
theorem dX4_dripBy_68 : decode cX4_dripBy 68 = .ok (.aload_n 0, 1) := by decide +kernel
theorem dX4_dripBy_69 : decode cX4_dripBy 69 = .ok (.iload_n 2, 1) := by decide +kernel
theorem dX4_dripBy_70 : decode cX4_dripBy 70 = .ok (.iload 7, 2) := by decide +kernel
theorem dX4_dripBy_72 : decode cX4_dripBy 72 = .ok (.invokevirtual 22, 3) := by decide +kernel
theorem dX4_dripBy_75 : decode cX4_dripBy 75 = .ok (.iload_n 3, 1) := by decide +kernel
theorem dX4_dripBy_76 : decode cX4_dripBy 76 = .ok (.ixor, 1) := by decide +kernel
theorem dX4_dripBy_77 : decode cX4_dripBy 77 = .ok (.ireturn, 1) := by decide +kernel
theorem dX4_dripBy_78 : decode cX4_dripBy 78 = .ok (.iload 4, 2) := by decide +kernel
theorem dX4_dripBy_80 : decode cX4_dripBy 80 = .ok (.iconst 2, 1) := by decide +kernel
theorem dX4_dripBy_81 : decode cX4_dripBy 81 = .ok (.irem, 1) := by decide +kernel
theorem dX4_dripBy_82 : decode cX4_dripBy 82 = .ok (.iconst 1, 1) := by decide +kernel
theorem dX4_dripBy_83 : decode cX4_dripBy 83 = .ok (.if_icmp .ne 7, 3) := by decide +kernel
theorem dX4_dripBy_86 : decode cX4_dripBy 86 = .ok (.iconst 0, 1) := by decide +kernel
theorem dX4_dripBy_87 : decode cX4_dripBy 87 = .ok (.goto 10, 3) := by decide +kernel
theorem dX4_dripBy_90 : decode cX4_dripBy 90 = .ok (.aload_n 0, 1) := by decide +kernel
theorem dX4_dripBy_91 : decode cX4_dripBy 91 = .ok (.iload_n 2, 1) := by decide +kernel
theorem dX4_dripBy_92 : decode cX4_dripBy 92 = .ok (.iload 6, 2) := by decide +kernel
theorem dX4_dripBy_94 : decode cX4_dripBy 94 = .ok (.invokevirtual 22, 3) := by decide +kernel
theorem dX4_dripBy_97 : decode cX4_dripBy 97 = .ok (.iload_n 3, 1) := by decide +kernel
theorem dX4_dripBy_98 : decode cX4_dripBy 98 = .ok (.ixor, 1) := by decide +kernel
theorem dX4_dripBy_99 : decode cX4_dripBy 99 = .ok (.ireturn, 1) := by decide +kernel
theorem dX4_dripBy_100 : decode cX4_dripBy 100 = .ok (.iload 6, 2) := by decide +kernel
theorem dX4_dripBy_102 : decode cX4_dripBy 102 = .ok (.ifCond .ne 7, 3) := by decide +kernel
theorem dX4_dripBy_105 : decode cX4_dripBy 105 = .ok (.iconst 1, 1) := by decide +kernel
theorem dX4_dripBy_106 : decode cX4_dripBy 106 = .ok (.goto 10, 3) := by decide +kernel
theorem dX4_dripBy_109 : decode cX4_dripBy 109 = .ok (.aload_n 0, 1) := by decide +kernel
theorem dX4_dripBy_110 : decode cX4_dripBy 110 = .ok (.iload_n 2, 1) := by decide +kernel
theorem dX4_dripBy_111 : decode cX4_dripBy 111 = .ok (.iload 6, 2) := by decide +kernel
theorem dX4_dripBy_113 : decode cX4_dripBy 113 = .ok (.invokevirtual 22, 3) := by decide +kernel
theorem dX4_dripBy_116 : decode cX4_dripBy 116 = .ok (.iload_n 3, 1) := by decide +kernel
theorem dX4_dripBy_117 : decode cX4_dripBy 117 = .ok (.ixor, 1) := by decide +kernel
theorem dX4_dripBy_118 : decode cX4_dripBy 118 = .ok (.ireturn, 1) := by decide +kernel
theorem dX4_dripBy_119 : decode cX4_dripBy 119 = .ok (.aload_n 0, 1) := by decide +kernel
theorem dX4_dripBy_120 : decode cX4_dripBy 120 = .ok (.iload_n 2, 1) := by decide +kernel
theorem dX4_dripBy_121 : decode cX4_dripBy 121 = .ok (.iload 7, 2) := by decide +kernel
theorem dX4_dripBy_123 : decode cX4_dripBy 123 = .ok (.invokevirtual 22, 3) := by decide +kernel
theorem dX4_dripBy_126 : decode cX4_dripBy 126 = .ok (.iconst 1, 1) := by decide +kernel
theorem dX4_dripBy_127 : decode cX4_dripBy 127 = .ok (.ixor, 1) := by decide +kernel
theorem dX4_dripBy_128 : decode cX4_dripBy 128 = .ok (.iload_n 3, 1) := by decide +kernel
theorem dX4_dripBy_129 : decode cX4_dripBy 129 = .ok (.ixor, 1) := by decide +kernel
theorem dX4_dripBy_130 : decode cX4_dripBy 130 = .ok (.ireturn, 1) := by decide +kernel
theorem dX4_dripBy_131 : decode cX4_dripBy 131 = .ok (.aload_n 0, 1) := by decide +kernel
theorem dX4_dripBy_132 : decode cX4_dripBy 132 = .ok (.iload_n 2, 1) := by decide +kernel
theorem dX4_dripBy_133 : decode cX4_dripBy 133 = .ok (.iload 6, 2) := by decide +kernel
theorem dX4_dripBy_135 : decode cX4_dripBy 135 = .ok (.invokevirtual 22, 3) := by decide +kernel
theorem dX4_dripBy_138 : decode cX4_dripBy 138 = .ok (.iload_n 3, 1) := by decide +kernel
theorem dX4_dripBy_139 : decode cX4_dripBy 139 = .ok (.ixor, 1) := by decide +kernel
theorem dX4_dripBy_140 : decode cX4_dripBy 140 = .ok (.ireturn, 1) := by decide +kernel
theorem dX5_init_0 : decode cX5_init 0 = .ok (.aload_n 0, 1) := by decide +kernel
theorem dX5_init_1 : decode cX5_init 1 = .ok (.invokespecial 1, 3) := by decide +kernel
theorem dX5_init_4 : decode cX5_init 4 = .ok (.aload_n 0, 1) := by decide +kernel
theorem dX5_init_5 : decode cX5_init 5 = .ok (.iload_n 1, 1) := by decide +kernel
theorem dX5_init_6 : decode cX5_init 6 = .ok (.putfield 7, 3) := by decide +kernel
theorem dX5_init_9 : decode cX5_init 9 = .ok (.return_, 1) := by decide +kernel
theorem dX5_become_0 : decode cX5_become 0 = .ok (.aload_n 0, 1) := by decide +kernel
theorem dX5_become_1 : decode cX5_become 1 = .ok (.iload_n 1, 1) := by decide +kernel
theorem dX5_become_2 : decode cX5_become 2 = .ok (.putfield 13, 3) := by decide +kernel
theorem dX5_become_5 : decode cX5_become 5 = .ok (.aload_n 0, 1) := by decide +kernel
theorem dX5_become_6 : decode cX5_become 6 = .ok (.iload_n 2, 1) := by decide +kernel
theorem dX5_become_7 : decode cX5_become 7 = .ok (.putfield 16, 3) := by decide +kernel
theorem dX5_become_10 : decode cX5_become 10 = .ok (.aload_n 0, 1) := by decide +kernel
theorem dX5_become_11 : decode cX5_become 11 = .ok (.iload_n 3, 1) := by decide +kernel
theorem dX5_become_12 : decode cX5_become 12 = .ok (.putfield 19, 3) := by decide +kernel
theorem dX5_become_15 : decode cX5_become 15 = .ok (.aload_n 0, 1) := by decide +kernel
theorem dX5_become_16 : decode cX5_become 16 = .ok (.iload 4, 2) := by decide +kernel
theorem dX5_become_18 : decode cX5_become 18 = .ok (.putfield 22, 3) := by decide +kernel
theorem dX5_become_21 : decode cX5_become 21 = .ok (.return_, 1) := by decide +kernel
theorem dX6_init_0 : decode cX6_init 0 = .ok (.aload_n 0, 1) := by decide +kernel
theorem dX6_init_1 : decode cX6_init 1 = .ok (.invokespecial 1, 3) := by decide +kernel
theorem dX6_init_4 : decode cX6_init 4 = .ok (.aload_n 0, 1) := by decide +kernel
theorem dX6_init_5 : decode cX6_init 5 = .ok (.new 7, 3) := by decide +kernel
theorem dX6_init_8 : decode cX6_init 8 = .ok (.dup, 1) := by decide +kernel
theorem dX6_init_9 : decode cX6_init 9 = .ok (.invokespecial 9, 3) := by decide +kernel
theorem dX6_init_12 : decode cX6_init 12 = .ok (.putfield 10, 3) := by decide +kernel
theorem dX6_init_15 : decode cX6_init 15 = .ok (.aload_n 0, 1) := by decide +kernel
theorem dX6_init_16 : decode cX6_init 16 = .ok (.new 16, 3) := by decide +kernel
theorem dX6_init_19 : decode cX6_init 19 = .ok (.dup, 1) := by decide +kernel
theorem dX6_init_20 : decode cX6_init 20 = .ok (.invokespecial 18, 3) := by decide +kernel
theorem dX6_init_23 : decode cX6_init 23 = .ok (.putfield 19, 3) := by decide +kernel
theorem dX6_init_26 : decode cX6_init 26 = .ok (.aload_n 0, 1) := by decide +kernel
theorem dX6_init_27 : decode cX6_init 27 = .ok (.new 23, 3) := by decide +kernel
theorem dX6_init_30 : decode cX6_init 30 = .ok (.dup, 1) := by decide +kernel
theorem dX6_init_31 : decode cX6_init 31 = .ok (.invokespecial 25, 3) := by decide +kernel
theorem dX6_init_34 : decode cX6_init 34 = .ok (.putfield 26, 3) := by decide +kernel
theorem dX6_init_37 : decode cX6_init 37 = .ok (.aload_n 0, 1) := by decide +kernel
theorem dX6_init_38 : decode cX6_init 38 = .ok (.new 23, 3) := by decide +kernel
theorem dX6_init_41 : decode cX6_init 41 = .ok (.dup, 1) := by decide +kernel
theorem dX6_init_42 : decode cX6_init 42 = .ok (.invokespecial 25, 3) := by decide +kernel
theorem dX6_init_45 : decode cX6_init 45 = .ok (.putfield 30, 3) := by decide +kernel
theorem dX6_init_48 : decode cX6_init 48 = .ok (.return_, 1) := by decide +kernel
theorem dX6_letter_0 : decode cX6_letter 0 = .ok (.iload_n 1, 1) := by decide +kernel
theorem dX6_letter_1 : decode cX6_letter 1 = .ok (.iconst 1, 1) := by decide +kernel
theorem dX6_letter_2 : decode cX6_letter 2 = .ok (.if_icmp .lt 9, 3) := by decide +kernel
theorem dX6_letter_5 : decode cX6_letter 5 = .ok (.iload_n 1, 1) := by decide +kernel
theorem dX6_letter_6 : decode cX6_letter 6 = .ok (.bipush 126, 2) := by decide +kernel
theorem dX6_letter_8 : decode cX6_letter 8 = .ok (.if_icmp .le 6, 3) := by decide +kernel
theorem dX6_letter_11 : decode cX6_letter 11 = .ok (.bipush (-102), 2) := by decide +kernel
theorem dX6_letter_13 : decode cX6_letter 13 = .ok (.ireturn, 1) := by decide +kernel
theorem dX6_letter_14 : decode cX6_letter 14 = .ok (.aload_n 0, 1) := by decide +kernel
theorem dX6_letter_15 : decode cX6_letter 15 = .ok (.getfield 10, 3) := by decide +kernel
theorem dX6_letter_18 : decode cX6_letter 18 = .ok (.getfield 33, 3) := by decide +kernel
theorem dX6_letter_21 : decode cX6_letter 21 = .ok (.bipush 30, 2) := by decide +kernel
theorem dX6_letter_23 : decode cX6_letter 23 = .ok (.if_icmp .lt 6, 3) := by decide +kernel
theorem dX6_letter_26 : decode cX6_letter 26 = .ok (.bipush (-104), 2) := by decide +kernel
theorem dX6_letter_28 : decode cX6_letter 28 = .ok (.ireturn, 1) := by decide +kernel
theorem dX6_letter_29 : decode cX6_letter 29 = .ok (.aload_n 0, 1) := by decide +kernel
theorem dX6_letter_30 : decode cX6_letter 30 = .ok (.getfield 10, 3) := by decide +kernel
theorem dX6_letter_33 : decode cX6_letter 33 = .ok (.iload_n 1, 1) := by decide +kernel
theorem dX6_letter_34 : decode cX6_letter 34 = .ok (.invokevirtual 37, 3) := by decide +kernel
theorem dX6_letter_37 : decode cX6_letter 37 = .ok (.aload_n 0, 1) := by decide +kernel
theorem dX6_letter_38 : decode cX6_letter 38 = .ok (.getfield 10, 3) := by decide +kernel
theorem dX6_letter_41 : decode cX6_letter 41 = .ok (.getfield 33, 3) := by decide +kernel
theorem dX6_letter_44 : decode cX6_letter 44 = .ok (.ireturn, 1) := by decide +kernel
theorem dX6_blank_0 : decode cX6_blank 0 = .ok (.aload_n 0, 1) := by decide +kernel
theorem dX6_blank_1 : decode cX6_blank 1 = .ok (.getfield 10, 3) := by decide +kernel
theorem dX6_blank_4 : decode cX6_blank 4 = .ok (.getfield 33, 3) := by decide +kernel
theorem dX6_blank_7 : decode cX6_blank 7 = .ok (.istore_n 1, 1) := by decide +kernel
theorem dX6_blank_8 : decode cX6_blank 8 = .ok (.aload_n 0, 1) := by decide +kernel
theorem dX6_blank_9 : decode cX6_blank 9 = .ok (.getfield 10, 3) := by decide +kernel
theorem dX6_blank_12 : decode cX6_blank 12 = .ok (.invokevirtual 41, 3) := by decide +kernel
theorem dX6_blank_15 : decode cX6_blank 15 = .ok (.iload_n 1, 1) := by decide +kernel
theorem dX6_blank_16 : decode cX6_blank 16 = .ok (.ireturn, 1) := by decide +kernel
theorem dX6_fault_0 : decode cX6_fault 0 = .ok (.aload_n 0, 1) := by decide +kernel
theorem dX6_fault_1 : decode cX6_fault 1 = .ok (.getfield 10, 3) := by decide +kernel
theorem dX6_fault_4 : decode cX6_fault 4 = .ok (.invokevirtual 44, 3) := by decide +kernel
theorem dX6_fault_7 : decode cX6_fault 7 = .ok (.ireturn, 1) := by decide +kernel
theorem dX6_house_0 : decode cX6_house 0 = .ok (.aload_n 0, 1) := by decide +kernel
theorem dX6_house_1 : decode cX6_house 1 = .ok (.getfield 10, 3) := by decide +kernel
theorem dX6_house_4 : decode cX6_house 4 = .ok (.invokevirtual 48, 3) := by decide +kernel
theorem dX6_house_7 : decode cX6_house 7 = .ok (.ifCond .ne 6, 3) := by decide +kernel
theorem dX6_house_10 : decode cX6_house 10 = .ok (.bipush (-103), 2) := by decide +kernel
theorem dX6_house_12 : decode cX6_house 12 = .ok (.ireturn, 1) := by decide +kernel
theorem dX6_house_13 : decode cX6_house 13 = .ok (.aload_n 0, 1) := by decide +kernel
theorem dX6_house_14 : decode cX6_house 14 = .ok (.getfield 19, 3) := by decide +kernel
theorem dX6_house_17 : decode cX6_house 17 = .ok (.invokevirtual 52, 3) := by decide +kernel
theorem dX6_house_20 : decode cX6_house 20 = .ok (.aload_n 0, 1) := by decide +kernel
theorem dX6_house_21 : decode cX6_house 21 = .ok (.getfield 26, 3) := by decide +kernel
theorem dX6_house_24 : decode cX6_house 24 = .ok (.invokevirtual 53, 3) := by decide +kernel
theorem dX6_house_27 : decode cX6_house 27 = .ok (.aload_n 0, 1) := by decide +kernel
theorem dX6_house_28 : decode cX6_house 28 = .ok (.invokevirtual 54, 3) := by decide +kernel
theorem dX6_house_31 : decode cX6_house 31 = .ok (.aload_n 0, 1) := by decide +kernel
theorem dX6_house_32 : decode cX6_house 32 = .ok (.getfield 10, 3) := by decide +kernel
theorem dX6_house_35 : decode cX6_house 35 = .ok (.invokevirtual 41, 3) := by decide +kernel
theorem dX6_house_38 : decode cX6_house 38 = .ok (.aload_n 0, 1) := by decide +kernel
theorem dX6_house_39 : decode cX6_house 39 = .ok (.iconst 1, 1) := by decide +kernel
theorem dX6_house_40 : decode cX6_house 40 = .ok (.putfield 57, 3) := by decide +kernel
theorem dX6_house_43 : decode cX6_house 43 = .ok (.aload_n 0, 1) := by decide +kernel
theorem dX6_house_44 : decode cX6_house 44 = .ok (.iconst 0, 1) := by decide +kernel
theorem dX6_house_45 : decode cX6_house 45 = .ok (.putfield 61, 3) := by decide +kernel
theorem dX6_house_48 : decode cX6_house 48 = .ok (.aload_n 0, 1) := by decide +kernel
theorem dX6_house_49 : decode cX6_house 49 = .ok (.dup, 1) := by decide +kernel
theorem dX6_house_50 : decode cX6_house 50 = .ok (.getfield 64, 3) := by decide +kernel
theorem dX6_house_53 : decode cX6_house 53 = .ok (.iconst 1, 1) := by decide +kernel
theorem dX6_house_54 : decode cX6_house 54 = .ok (.iadd, 1) := by decide +kernel
theorem dX6_house_55 : decode cX6_house 55 = .ok (.putfield 64, 3) := by decide +kernel
theorem dX6_house_58 : decode cX6_house 58 = .ok (.aload_n 0, 1) := by decide +kernel
theorem dX6_house_59 : decode cX6_house 59 = .ok (.getfield 26, 3) := by decide +kernel
theorem dX6_house_62 : decode cX6_house 62 = .ok (.getfield 67, 3) := by decide +kernel
theorem dX6_house_65 : decode cX6_house 65 = .ok (.ireturn, 1) := by decide +kernel
theorem dX6_saying_0 : decode cX6_saying 0 = .ok (.aload_n 0, 1) := by decide +kernel
theorem dX6_saying_1 : decode cX6_saying 1 = .ok (.getfield 57, 3) := by decide +kernel
theorem dX6_saying_4 : decode cX6_saying 4 = .ok (.ifCond .eq 10, 3) := by decide +kernel
theorem dX6_saying_7 : decode cX6_saying 7 = .ok (.iload_n 1, 1) := by decide +kernel
theorem dX6_saying_8 : decode cX6_saying 8 = .ok (.invokestatic 70, 3) := by decide +kernel
theorem dX6_saying_11 : decode cX6_saying 11 = .ok (.ifCond .ne 6, 3) := by decide +kernel
theorem dX6_saying_14 : decode cX6_saying 14 = .ok (.bipush (-101), 2) := by decide +kernel
theorem dX6_saying_16 : decode cX6_saying 16 = .ok (.ireturn, 1) := by decide +kernel
theorem dX6_saying_17 : decode cX6_saying 17 = .ok (.iload_n 2, 1) := by decide +kernel
theorem dX6_saying_18 : decode cX6_saying 18 = .ok (.ifCond .ne 12, 3) := by decide +kernel
theorem dX6_saying_21 : decode cX6_saying 21 = .ok (.aload_n 0, 1) := by decide +kernel
theorem dX6_saying_22 : decode cX6_saying 22 = .ok (.getfield 19, 3) := by decide +kernel
theorem dX6_saying_25 : decode cX6_saying 25 = .ok (.iload_n 1, 1) := by decide +kernel
theorem dX6_saying_26 : decode cX6_saying 26 = .ok (.invokevirtual 74, 3) := by decide +kernel
theorem dX6_saying_29 : decode cX6_saying 29 = .ok (.ireturn, 1) := by decide +kernel
theorem dX6_saying_30 : decode cX6_saying 30 = .ok (.iload_n 2, 1) := by decide +kernel
theorem dX6_saying_31 : decode cX6_saying 31 = .ok (.bipush 10, 2) := by decide +kernel
theorem dX6_saying_33 : decode cX6_saying 33 = .ok (.if_icmp .lt 9, 3) := by decide +kernel
theorem dX6_saying_36 : decode cX6_saying 36 = .ok (.iload_n 2, 1) := by decide +kernel
theorem dX6_saying_37 : decode cX6_saying 37 = .ok (.bipush 14, 2) := by decide +kernel
theorem dX6_saying_39 : decode cX6_saying 39 = .ok (.if_icmp .lt 6, 3) := by decide +kernel
theorem dX6_saying_42 : decode cX6_saying 42 = .ok (.bipush (-102), 2) := by decide +kernel
theorem dX6_saying_44 : decode cX6_saying 44 = .ok (.ireturn, 1) := by decide +kernel
theorem dX6_saying_45 : decode cX6_saying 45 = .ok (.aload_n 0, 1) := by decide +kernel
theorem dX6_saying_46 : decode cX6_saying 46 = .ok (.getfield 19, 3) := by decide +kernel
theorem dX6_saying_49 : decode cX6_saying 49 = .ok (.iload_n 1, 1) := by decide +kernel
theorem dX6_saying_50 : decode cX6_saying 50 = .ok (.iload_n 2, 1) := by decide +kernel
theorem dX6_saying_51 : decode cX6_saying 51 = .ok (.bipush 10, 2) := by decide +kernel
theorem dX6_saying_53 : decode cX6_saying 53 = .ok (.isub, 1) := by decide +kernel
theorem dX6_saying_54 : decode cX6_saying 54 = .ok (.invokevirtual 78, 3) := by decide +kernel
theorem dX6_saying_57 : decode cX6_saying 57 = .ok (.ireturn, 1) := by decide +kernel
theorem dX6_tap_0 : decode cX6_tap 0 = .ok (.iload_n 1, 1) := by decide +kernel
theorem dX6_tap_1 : decode cX6_tap 1 = .ok (.invokestatic 82, 3) := by decide +kernel
theorem dX6_tap_4 : decode cX6_tap 4 = .ok (.ifCond .eq 10, 3) := by decide +kernel
theorem dX6_tap_7 : decode cX6_tap 7 = .ok (.iload_n 2, 1) := by decide +kernel
theorem dX6_tap_8 : decode cX6_tap 8 = .ok (.invokestatic 70, 3) := by decide +kernel
theorem dX6_tap_11 : decode cX6_tap 11 = .ok (.ifCond .ne 6, 3) := by decide +kernel
theorem dX6_tap_14 : decode cX6_tap 14 = .ok (.bipush (-102), 2) := by decide +kernel
theorem dX6_tap_16 : decode cX6_tap 16 = .ok (.ireturn, 1) := by decide +kernel
theorem dX6_tap_17 : decode cX6_tap 17 = .ok (.aload_n 0, 1) := by decide +kernel
theorem dX6_tap_18 : decode cX6_tap 18 = .ok (.getfield 57, 3) := by decide +kernel
theorem dX6_tap_21 : decode cX6_tap 21 = .ok (.ifCond .ne 6, 3) := by decide +kernel
theorem dX6_tap_24 : decode cX6_tap 24 = .ok (.bipush (-103), 2) := by decide +kernel
theorem dX6_tap_26 : decode cX6_tap 26 = .ok (.ireturn, 1) := by decide +kernel
theorem dX6_tap_27 : decode cX6_tap 27 = .ok (.aload_n 0, 1) := by decide +kernel
theorem dX6_tap_28 : decode cX6_tap 28 = .ok (.getfield 26, 3) := by decide +kernel
theorem dX6_tap_31 : decode cX6_tap 31 = .ok (.getfield 67, 3) := by decide +kernel
theorem dX6_tap_34 : decode cX6_tap 34 = .ok (.iconst 5, 1) := by decide +kernel
theorem dX6_tap_35 : decode cX6_tap 35 = .ok (.if_icmp .lt 6, 3) := by decide +kernel
theorem dX6_tap_38 : decode cX6_tap 38 = .ok (.bipush (-104), 2) := by decide +kernel
theorem dX6_tap_40 : decode cX6_tap 40 = .ok (.ireturn, 1) := by decide +kernel
theorem dX6_tap_41 : decode cX6_tap 41 = .ok (.aload_n 0, 1) := by decide +kernel
theorem dX6_tap_42 : decode cX6_tap 42 = .ok (.getfield 26, 3) := by decide +kernel
theorem dX6_tap_45 : decode cX6_tap 45 = .ok (.iload_n 1, 1) := by decide +kernel
theorem dX6_tap_46 : decode cX6_tap 46 = .ok (.iload_n 2, 1) := by decide +kernel
theorem dX6_tap_47 : decode cX6_tap 47 = .ok (.invokevirtual 85, 3) := by decide +kernel
theorem dX6_tap_50 : decode cX6_tap 50 = .ok (.aload_n 0, 1) := by decide +kernel
theorem dX6_tap_51 : decode cX6_tap 51 = .ok (.getfield 26, 3) := by decide +kernel
theorem dX6_tap_54 : decode cX6_tap 54 = .ok (.getfield 67, 3) := by decide +kernel
theorem dX6_tap_57 : decode cX6_tap 57 = .ok (.iconst 1, 1) := by decide +kernel
theorem dX6_tap_58 : decode cX6_tap 58 = .ok (.isub, 1) := by decide +kernel
theorem dX6_tap_59 : decode cX6_tap 59 = .ok (.ireturn, 1) := by decide +kernel
theorem dX6_about_0 : decode cX6_about 0 = .ok (.aload_n 0, 1) := by decide +kernel
theorem dX6_about_1 : decode cX6_about 1 = .ok (.getfield 26, 3) := by decide +kernel
theorem dX6_about_4 : decode cX6_about 4 = .ok (.iload_n 1, 1) := by decide +kernel
theorem dX6_about_5 : decode cX6_about 5 = .ok (.invokevirtual 89, 3) := by decide +kernel
theorem dX6_about_8 : decode cX6_about 8 = .ok (.astore_n 3, 1) := by decide +kernel
theorem dX6_about_9 : decode cX6_about 9 = .ok (.aload_n 3, 1) := by decide +kernel
theorem dX6_about_10 : decode cX6_about 10 = .ok (.ifnonnull 6, 3) := by decide +kernel
theorem dX6_about_13 : decode cX6_about 13 = .ok (.bipush (-101), 2) := by decide +kernel
theorem dX6_about_15 : decode cX6_about 15 = .ok (.ireturn, 1) := by decide +kernel
theorem dX6_about_16 : decode cX6_about 16 = .ok (.iload_n 2, 1) := by decide +kernel
theorem dX6_about_17 : decode cX6_about 17 = .ok (.ifCond .lt 9, 3) := by decide +kernel
theorem dX6_about_20 : decode cX6_about 20 = .ok (.iload_n 2, 1) := by decide +kernel
theorem dX6_about_21 : decode cX6_about 21 = .ok (.bipush 8, 2) := by decide +kernel
theorem dX6_about_23 : decode cX6_about 23 = .ok (.if_icmp .le 6, 3) := by decide +kernel
theorem dX6_about_26 : decode cX6_about 26 = .ok (.bipush (-102), 2) := by decide +kernel
theorem dX6_about_28 : decode cX6_about 28 = .ok (.ireturn, 1) := by decide +kernel
theorem dX6_about_29 : decode cX6_about 29 = .ok (.aload_n 0, 1) := by decide +kernel
theorem dX6_about_30 : decode cX6_about 30 = .ok (.aload_n 3, 1) := by decide +kernel
theorem dX6_about_31 : decode cX6_about 31 = .ok (.iload_n 2, 1) := by decide +kernel
theorem dX6_about_32 : decode cX6_about 32 = .ok (.invokevirtual 93, 3) := by decide +kernel
theorem dX6_about_35 : decode cX6_about 35 = .ok (.ireturn, 1) := by decide +kernel
theorem dX6_as_0 : decode cX6_as 0 = .ok (.aload_n 0, 1) := by decide +kernel
theorem dX6_as_1 : decode cX6_as 1 = .ok (.getfield 26, 3) := by decide +kernel
theorem dX6_as_4 : decode cX6_as 4 = .ok (.iload_n 1, 1) := by decide +kernel
theorem dX6_as_5 : decode cX6_as 5 = .ok (.invokevirtual 89, 3) := by decide +kernel
theorem dX6_as_8 : decode cX6_as 8 = .ok (.astore_n 3, 1) := by decide +kernel
theorem dX6_as_9 : decode cX6_as 9 = .ok (.aload_n 3, 1) := by decide +kernel
theorem dX6_as_10 : decode cX6_as 10 = .ok (.ifnonnull 6, 3) := by decide +kernel
theorem dX6_as_13 : decode cX6_as 13 = .ok (.bipush (-101), 2) := by decide +kernel
theorem dX6_as_15 : decode cX6_as 15 = .ok (.ireturn, 1) := by decide +kernel
theorem dX6_as_16 : decode cX6_as 16 = .ok (.iload_n 2, 1) := by decide +kernel
theorem dX6_as_17 : decode cX6_as 17 = .ok (.invokestatic 82, 3) := by decide +kernel
theorem dX6_as_20 : decode cX6_as 20 = .ok (.ifCond .ne 6, 3) := by decide +kernel
theorem dX6_as_23 : decode cX6_as 23 = .ok (.bipush (-102), 2) := by decide +kernel
theorem dX6_as_25 : decode cX6_as 25 = .ok (.ireturn, 1) := by decide +kernel
theorem dX6_as_26 : decode cX6_as 26 = .ok (.iload_n 2, 1) := by decide +kernel
theorem dX6_as_27 : decode cX6_as 27 = .ok (.ifCond .eq 24, 3) := by decide +kernel
theorem dX6_as_30 : decode cX6_as 30 = .ok (.iload_n 2, 1) := by decide +kernel
theorem dX6_as_31 : decode cX6_as 31 = .ok (.aload_n 3, 1) := by decide +kernel
theorem dX6_as_32 : decode cX6_as 32 = .ok (.getfield 97, 3) := by decide +kernel
theorem dX6_as_35 : decode cX6_as 35 = .ok (.if_icmp .eq 16, 3) := by decide +kernel
theorem dX6_as_38 : decode cX6_as 38 = .ok (.iload_n 2, 1) := by decide +kernel
theorem dX6_as_39 : decode cX6_as 39 = .ok (.iconst 1, 1) := by decide +kernel
theorem dX6_as_40 : decode cX6_as 40 = .ok (.if_icmp .ne 15, 3) := by decide +kernel
theorem dX6_as_43 : decode cX6_as 43 = .ok (.aload_n 3, 1) := by decide +kernel
theorem dX6_as_44 : decode cX6_as 44 = .ok (.getfield 97, 3) := by decide +kernel
theorem dX6_as_47 : decode cX6_as 47 = .ok (.iconst 4, 1) := by decide +kernel
theorem dX6_as_48 : decode cX6_as 48 = .ok (.if_icmp .ne 7, 3) := by decide +kernel
theorem dX6_as_51 : decode cX6_as 51 = .ok (.iconst 1, 1) := by decide +kernel
theorem dX6_as_52 : decode cX6_as 52 = .ok (.goto 4, 3) := by decide +kernel
theorem dX6_as_55 : decode cX6_as 55 = .ok (.iconst 0, 1) := by decide +kernel
theorem dX6_as_56 : decode cX6_as 56 = .ok (.istore 4, 2) := by decide +kernel
theorem dX6_as_58 : decode cX6_as 58 = .ok (.iload 4, 2) := by decide +kernel
theorem dX6_as_60 : decode cX6_as 60 = .ok (.ifCond .eq 7, 3) := by decide +kernel
theorem dX6_as_63 : decode cX6_as 63 = .ok (.iload_n 1, 1) := by decide +kernel
theorem dX6_as_64 : decode cX6_as 64 = .ok (.goto 4, 3) := by decide +kernel
theorem dX6_as_67 : decode cX6_as 67 = .ok (.iconst (-1), 1) := by decide +kernel
theorem dX6_as_68 : decode cX6_as 68 = .ok (.ireturn, 1) := by decide +kernel
theorem dX6_drip_0 : decode cX6_drip 0 = .ok (.aload_n 0, 1) := by decide +kernel
theorem dX6_drip_1 : decode cX6_drip 1 = .ok (.getfield 26, 3) := by decide +kernel
theorem dX6_drip_4 : decode cX6_drip 4 = .ok (.iload_n 1, 1) := by decide +kernel
theorem dX6_drip_5 : decode cX6_drip 5 = .ok (.invokevirtual 89, 3) := by decide +kernel
theorem dX6_drip_8 : decode cX6_drip 8 = .ok (.astore_n 3, 1) := by decide +kernel
theorem dX6_drip_9 : decode cX6_drip 9 = .ok (.aload_n 3, 1) := by decide +kernel
theorem dX6_drip_10 : decode cX6_drip 10 = .ok (.ifnonnull 6, 3) := by decide +kernel
theorem dX6_drip_13 : decode cX6_drip 13 = .ok (.bipush (-101), 2) := by decide +kernel
theorem dX6_drip_15 : decode cX6_drip 15 = .ok (.ireturn, 1) := by decide +kernel
theorem dX6_drip_16 : decode cX6_drip 16 = .ok (.iload_n 2, 1) := by decide +kernel
theorem dX6_drip_17 : decode cX6_drip 17 = .ok (.ifCond .lt 9, 3) := by decide +kernel
theorem dX6_drip_20 : decode cX6_drip 20 = .ok (.iload_n 2, 1) := by decide +kernel
theorem dX6_drip_21 : decode cX6_drip 21 = .ok (.bipush 99, 2) := by decide +kernel
theorem dX6_drip_23 : decode cX6_drip 23 = .ok (.if_icmp .le 6, 3) := by decide +kernel
theorem dX6_drip_26 : decode cX6_drip 26 = .ok (.bipush (-102), 2) := by decide +kernel
theorem dX6_drip_28 : decode cX6_drip 28 = .ok (.ireturn, 1) := by decide +kernel
theorem dX6_drip_29 : decode cX6_drip 29 = .ok (.aload_n 0, 1) := by decide +kernel
theorem dX6_drip_30 : decode cX6_drip 30 = .ok (.aload_n 3, 1) := by decide +kernel
theorem dX6_drip_31 : decode cX6_drip 31 = .ok (.iload_n 2, 1) := by decide +kernel
theorem dX6_drip_32 : decode cX6_drip 32 = .ok (.invokevirtual 102, 3) := by decide +kernel
theorem dX6_drip_35 : decode cX6_drip 35 = .ok (.ireturn, 1) := by decide +kernel
theorem dX6_listen_0 : decode cX6_listen 0 = .ok (.aload_n 0, 1) := by decide +kernel
theorem dX6_listen_1 : decode cX6_listen 1 = .ok (.getfield 26, 3) := by decide +kernel
theorem dX6_listen_4 : decode cX6_listen 4 = .ok (.iload_n 1, 1) := by decide +kernel
theorem dX6_listen_5 : decode cX6_listen 5 = .ok (.invokevirtual 89, 3) := by decide +kernel
theorem dX6_listen_8 : decode cX6_listen 8 = .ok (.astore_n 2, 1) := by decide +kernel
theorem dX6_listen_9 : decode cX6_listen 9 = .ok (.aload_n 2, 1) := by decide +kernel
theorem dX6_listen_10 : decode cX6_listen 10 = .ok (.ifnonnull 6, 3) := by decide +kernel
theorem dX6_listen_13 : decode cX6_listen 13 = .ok (.bipush (-101), 2) := by decide +kernel
theorem dX6_listen_15 : decode cX6_listen 15 = .ok (.ireturn, 1) := by decide +kernel
theorem dX6_listen_16 : decode cX6_listen 16 = .ok (.aload_n 2, 1) := by decide +kernel
theorem dX6_listen_17 : decode cX6_listen 17 = .ok (.getfield 105, 3) := by decide +kernel
theorem dX6_listen_20 : decode cX6_listen 20 = .ok (.bipush 60, 2) := by decide +kernel
theorem dX6_listen_22 : decode cX6_listen 22 = .ok (.if_icmp .lt 6, 3) := by decide +kernel
theorem dX6_listen_25 : decode cX6_listen 25 = .ok (.bipush (-103), 2) := by decide +kernel
theorem dX6_listen_27 : decode cX6_listen 27 = .ok (.ireturn, 1) := by decide +kernel
theorem dX6_listen_28 : decode cX6_listen 28 = .ok (.aload_n 0, 1) := by decide +kernel
theorem dX6_listen_29 : decode cX6_listen 29 = .ok (.aload_n 2, 1) := by decide +kernel
theorem dX6_listen_30 : decode cX6_listen 30 = .ok (.aload_n 2, 1) := by decide +kernel
theorem dX6_listen_31 : decode cX6_listen 31 = .ok (.getfield 105, 3) := by decide +kernel
theorem dX6_listen_34 : decode cX6_listen 34 = .ok (.invokevirtual 102, 3) := by decide +kernel
theorem dX6_listen_37 : decode cX6_listen 37 = .ok (.istore_n 3, 1) := by decide +kernel
theorem dX6_listen_38 : decode cX6_listen 38 = .ok (.aload_n 2, 1) := by decide +kernel
theorem dX6_listen_39 : decode cX6_listen 39 = .ok (.dup, 1) := by decide +kernel
theorem dX6_listen_40 : decode cX6_listen 40 = .ok (.getfield 105, 3) := by decide +kernel
theorem dX6_listen_43 : decode cX6_listen 43 = .ok (.iconst 1, 1) := by decide +kernel
theorem dX6_listen_44 : decode cX6_listen 44 = .ok (.iadd, 1) := by decide +kernel
theorem dX6_listen_45 : decode cX6_listen 45 = .ok (.putfield 105, 3) := by decide +kernel
theorem dX6_listen_48 : decode cX6_listen 48 = .ok (.aload_n 0, 1) := by decide +kernel
theorem dX6_listen_49 : decode cX6_listen 49 = .ok (.getfield 26, 3) := by decide +kernel
theorem dX6_listen_52 : decode cX6_listen 52 = .ok (.dup, 1) := by decide +kernel
theorem dX6_listen_53 : decode cX6_listen 53 = .ok (.getfield 108, 3) := by decide +kernel
theorem dX6_listen_56 : decode cX6_listen 56 = .ok (.iconst 1, 1) := by decide +kernel
theorem dX6_listen_57 : decode cX6_listen 57 = .ok (.iadd, 1) := by decide +kernel
theorem dX6_listen_58 : decode cX6_listen 58 = .ok (.putfield 108, 3) := by decide +kernel
theorem dX6_listen_61 : decode cX6_listen 61 = .ok (.iload_n 3, 1) := by decide +kernel
theorem dX6_listen_62 : decode cX6_listen 62 = .ok (.ireturn, 1) := by decide +kernel
theorem dX6_washer_0 : decode cX6_washer 0 = .ok (.aload_n 0, 1) := by decide +kernel
theorem dX6_washer_1 : decode cX6_washer 1 = .ok (.getfield 26, 3) := by decide +kernel
theorem dX6_washer_4 : decode cX6_washer 4 = .ok (.iload_n 1, 1) := by decide +kernel
theorem dX6_washer_5 : decode cX6_washer 5 = .ok (.invokevirtual 89, 3) := by decide +kernel
theorem dX6_washer_8 : decode cX6_washer 8 = .ok (.astore_n 3, 1) := by decide +kernel
theorem dX6_washer_9 : decode cX6_washer 9 = .ok (.aload_n 3, 1) := by decide +kernel
theorem dX6_washer_10 : decode cX6_washer 10 = .ok (.ifnonnull 6, 3) := by decide +kernel
theorem dX6_washer_13 : decode cX6_washer 13 = .ok (.bipush (-101), 2) := by decide +kernel
theorem dX6_washer_15 : decode cX6_washer 15 = .ok (.ireturn, 1) := by decide +kernel
theorem dX6_washer_16 : decode cX6_washer 16 = .ok (.aload_n 3, 1) := by decide +kernel
theorem dX6_washer_17 : decode cX6_washer 17 = .ok (.getfield 111, 3) := by decide +kernel
theorem dX6_washer_20 : decode cX6_washer 20 = .ok (.istore 4, 2) := by decide +kernel
theorem dX6_washer_22 : decode cX6_washer 22 = .ok (.aload_n 3, 1) := by decide +kernel
theorem dX6_washer_23 : decode cX6_washer 23 = .ok (.iload_n 2, 1) := by decide +kernel
theorem dX6_washer_24 : decode cX6_washer 24 = .ok (.ifCond .eq 7, 3) := by decide +kernel
theorem dX6_washer_27 : decode cX6_washer 27 = .ok (.iconst 1, 1) := by decide +kernel
theorem dX6_washer_28 : decode cX6_washer 28 = .ok (.goto 4, 3) := by decide +kernel
theorem dX6_washer_31 : decode cX6_washer 31 = .ok (.iconst 0, 1) := by decide +kernel
theorem dX6_washer_32 : decode cX6_washer 32 = .ok (.putfield 111, 3) := by decide +kernel
theorem dX6_washer_35 : decode cX6_washer 35 = .ok (.aload_n 0, 1) := by decide +kernel
theorem dX6_washer_36 : decode cX6_washer 36 = .ok (.getfield 26, 3) := by decide +kernel
theorem dX6_washer_39 : decode cX6_washer 39 = .ok (.dup, 1) := by decide +kernel
theorem dX6_washer_40 : decode cX6_washer 40 = .ok (.getfield 108, 3) := by decide +kernel
theorem dX6_washer_43 : decode cX6_washer 43 = .ok (.iconst 1, 1) := by decide +kernel
theorem dX6_washer_44 : decode cX6_washer 44 = .ok (.iadd, 1) := by decide +kernel
theorem dX6_washer_45 : decode cX6_washer 45 = .ok (.putfield 108, 3) := by decide +kernel
theorem dX6_washer_48 : decode cX6_washer 48 = .ok (.iload 4, 2) := by decide +kernel
theorem dX6_washer_50 : decode cX6_washer 50 = .ok (.ireturn, 1) := by decide +kernel
theorem dX6_teach_0 : decode cX6_teach 0 = .ok (.aload_n 0, 1) := by decide +kernel
theorem dX6_teach_1 : decode cX6_teach 1 = .ok (.getfield 26, 3) := by decide +kernel
theorem dX6_teach_4 : decode cX6_teach 4 = .ok (.iload_n 1, 1) := by decide +kernel
theorem dX6_teach_5 : decode cX6_teach 5 = .ok (.invokevirtual 89, 3) := by decide +kernel
theorem dX6_teach_8 : decode cX6_teach 8 = .ok (.astore_n 3, 1) := by decide +kernel
theorem dX6_teach_9 : decode cX6_teach 9 = .ok (.aload_n 3, 1) := by decide +kernel
theorem dX6_teach_10 : decode cX6_teach 10 = .ok (.ifnonnull 6, 3) := by decide +kernel
theorem dX6_teach_13 : decode cX6_teach 13 = .ok (.bipush (-101), 2) := by decide +kernel
theorem dX6_teach_15 : decode cX6_teach 15 = .ok (.ireturn, 1) := by decide +kernel
theorem dX6_teach_16 : decode cX6_teach 16 = .ok (.iload_n 2, 1) := by decide +kernel
theorem dX6_teach_17 : decode cX6_teach 17 = .ok (.invokestatic 70, 3) := by decide +kernel
theorem dX6_teach_20 : decode cX6_teach 20 = .ok (.ifCond .ne 6, 3) := by decide +kernel
theorem dX6_teach_23 : decode cX6_teach 23 = .ok (.bipush (-102), 2) := by decide +kernel
theorem dX6_teach_25 : decode cX6_teach 25 = .ok (.ireturn, 1) := by decide +kernel
theorem dX6_teach_26 : decode cX6_teach 26 = .ok (.aload_n 3, 1) := by decide +kernel
theorem dX6_teach_27 : decode cX6_teach 27 = .ok (.getfield 114, 3) := by decide +kernel
theorem dX6_teach_30 : decode cX6_teach 30 = .ok (.istore 4, 2) := by decide +kernel
theorem dX6_teach_32 : decode cX6_teach 32 = .ok (.aload_n 3, 1) := by decide +kernel
theorem dX6_teach_33 : decode cX6_teach 33 = .ok (.iload_n 2, 1) := by decide +kernel
theorem dX6_teach_34 : decode cX6_teach 34 = .ok (.putfield 114, 3) := by decide +kernel
theorem dX6_teach_37 : decode cX6_teach 37 = .ok (.aload_n 0, 1) := by decide +kernel
theorem dX6_teach_38 : decode cX6_teach 38 = .ok (.getfield 26, 3) := by decide +kernel
theorem dX6_teach_41 : decode cX6_teach 41 = .ok (.dup, 1) := by decide +kernel
theorem dX6_teach_42 : decode cX6_teach 42 = .ok (.getfield 108, 3) := by decide +kernel
theorem dX6_teach_45 : decode cX6_teach 45 = .ok (.iconst 1, 1) := by decide +kernel
theorem dX6_teach_46 : decode cX6_teach 46 = .ok (.iadd, 1) := by decide +kernel
theorem dX6_teach_47 : decode cX6_teach 47 = .ok (.putfield 108, 3) := by decide +kernel
theorem dX6_teach_50 : decode cX6_teach 50 = .ok (.iload 4, 2) := by decide +kernel
theorem dX6_teach_52 : decode cX6_teach 52 = .ok (.ireturn, 1) := by decide +kernel
theorem dX6_agree_0 : decode cX6_agree 0 = .ok (.aload_n 0, 1) := by decide +kernel
theorem dX6_agree_1 : decode cX6_agree 1 = .ok (.getfield 26, 3) := by decide +kernel
theorem dX6_agree_4 : decode cX6_agree 4 = .ok (.iload_n 1, 1) := by decide +kernel
theorem dX6_agree_5 : decode cX6_agree 5 = .ok (.invokevirtual 89, 3) := by decide +kernel
theorem dX6_agree_8 : decode cX6_agree 8 = .ok (.astore_n 3, 1) := by decide +kernel
theorem dX6_agree_9 : decode cX6_agree 9 = .ok (.aload_n 0, 1) := by decide +kernel
theorem dX6_agree_10 : decode cX6_agree 10 = .ok (.getfield 26, 3) := by decide +kernel
theorem dX6_agree_13 : decode cX6_agree 13 = .ok (.iload_n 2, 1) := by decide +kernel
theorem dX6_agree_14 : decode cX6_agree 14 = .ok (.invokevirtual 89, 3) := by decide +kernel
theorem dX6_agree_17 : decode cX6_agree 17 = .ok (.astore 4, 2) := by decide +kernel
theorem dX6_agree_19 : decode cX6_agree 19 = .ok (.aload_n 3, 1) := by decide +kernel
theorem dX6_agree_20 : decode cX6_agree 20 = .ok (.ifnull 13, 3) := by decide +kernel
theorem dX6_agree_23 : decode cX6_agree 23 = .ok (.aload 4, 2) := by decide +kernel
theorem dX6_agree_25 : decode cX6_agree 25 = .ok (.ifnull 8, 3) := by decide +kernel
theorem dX6_agree_28 : decode cX6_agree 28 = .ok (.iload_n 1, 1) := by decide +kernel
theorem dX6_agree_29 : decode cX6_agree 29 = .ok (.iload_n 2, 1) := by decide +kernel
theorem dX6_agree_30 : decode cX6_agree 30 = .ok (.if_icmp .ne 6, 3) := by decide +kernel
theorem dX6_agree_33 : decode cX6_agree 33 = .ok (.bipush (-101), 2) := by decide +kernel
theorem dX6_agree_35 : decode cX6_agree 35 = .ok (.ireturn, 1) := by decide +kernel
theorem dX6_agree_36 : decode cX6_agree 36 = .ok (.iconst 0, 1) := by decide +kernel
theorem dX6_agree_37 : decode cX6_agree 37 = .ok (.istore 5, 2) := by decide +kernel
theorem dX6_agree_39 : decode cX6_agree 39 = .ok (.iconst 0, 1) := by decide +kernel
theorem dX6_agree_40 : decode cX6_agree 40 = .ok (.istore 6, 2) := by decide +kernel
theorem dX6_agree_42 : decode cX6_agree 42 = .ok (.iload 6, 2) := by decide +kernel
theorem dX6_agree_44 : decode cX6_agree 44 = .ok (.bipush 16, 2) := by decide +kernel
theorem dX6_agree_46 : decode cX6_agree 46 = .ok (.if_icmp .ge 41, 3) := by decide +kernel
theorem dX6_agree_49 : decode cX6_agree 49 = .ok (.aload_n 0, 1) := by decide +kernel
theorem dX6_agree_50 : decode cX6_agree 50 = .ok (.aload_n 3, 1) := by decide +kernel
theorem dX6_agree_51 : decode cX6_agree 51 = .ok (.aload_n 3, 1) := by decide +kernel
theorem dX6_agree_52 : decode cX6_agree 52 = .ok (.getfield 105, 3) := by decide +kernel
theorem dX6_agree_55 : decode cX6_agree 55 = .ok (.iload 6, 2) := by decide +kernel
theorem dX6_agree_57 : decode cX6_agree 57 = .ok (.iadd, 1) := by decide +kernel
theorem dX6_agree_58 : decode cX6_agree 58 = .ok (.invokevirtual 102, 3) := by decide +kernel
theorem dX6_agree_61 : decode cX6_agree 61 = .ok (.aload_n 0, 1) := by decide +kernel
theorem dX6_agree_62 : decode cX6_agree 62 = .ok (.aload 4, 2) := by decide +kernel
theorem dX6_agree_64 : decode cX6_agree 64 = .ok (.aload 4, 2) := by decide +kernel
theorem dX6_agree_66 : decode cX6_agree 66 = .ok (.getfield 105, 3) := by decide +kernel
theorem dX6_agree_69 : decode cX6_agree 69 = .ok (.iload 6, 2) := by decide +kernel
theorem dX6_agree_71 : decode cX6_agree 71 = .ok (.iadd, 1) := by decide +kernel
theorem dX6_agree_72 : decode cX6_agree 72 = .ok (.invokevirtual 102, 3) := by decide +kernel
theorem dX6_agree_75 : decode cX6_agree 75 = .ok (.if_icmp .ne 6, 3) := by decide +kernel
theorem dX6_agree_78 : decode cX6_agree 78 = .ok (.iinc 5 1, 3) := by decide +kernel
theorem dX6_agree_81 : decode cX6_agree 81 = .ok (.iinc 6 1, 3) := by decide +kernel
theorem dX6_agree_84 : decode cX6_agree 84 = .ok (.goto (-42), 3) := by decide +kernel
theorem dX6_agree_87 : decode cX6_agree 87 = .ok (.iload 5, 2) := by decide +kernel
theorem dX6_agree_89 : decode cX6_agree 89 = .ok (.ireturn, 1) := by decide +kernel
theorem dX6_near_0 : decode cX6_near 0 = .ok (.aload_n 0, 1) := by decide +kernel
theorem dX6_near_1 : decode cX6_near 1 = .ok (.getfield 26, 3) := by decide +kernel
theorem dX6_near_4 : decode cX6_near 4 = .ok (.iload_n 1, 1) := by decide +kernel
theorem dX6_near_5 : decode cX6_near 5 = .ok (.invokevirtual 89, 3) := by decide +kernel
theorem dX6_near_8 : decode cX6_near 8 = .ok (.astore 4, 2) := by decide +kernel
theorem dX6_near_10 : decode cX6_near 10 = .ok (.aload 4, 2) := by decide +kernel
theorem dX6_near_12 : decode cX6_near 12 = .ok (.ifnonnull 6, 3) := by decide +kernel
theorem dX6_near_15 : decode cX6_near 15 = .ok (.bipush (-101), 2) := by decide +kernel
theorem dX6_near_17 : decode cX6_near 17 = .ok (.ireturn, 1) := by decide +kernel
theorem dX6_near_18 : decode cX6_near 18 = .ok (.iload_n 2, 1) := by decide +kernel
theorem dX6_near_19 : decode cX6_near 19 = .ok (.invokestatic 70, 3) := by decide +kernel
theorem dX6_near_22 : decode cX6_near 22 = .ok (.ifCond .eq 12, 3) := by decide +kernel
theorem dX6_near_25 : decode cX6_near 25 = .ok (.iload_n 3, 1) := by decide +kernel
theorem dX6_near_26 : decode cX6_near 26 = .ok (.ifCond .lt 8, 3) := by decide +kernel
theorem dX6_near_29 : decode cX6_near 29 = .ok (.iload_n 3, 1) := by decide +kernel
theorem dX6_near_30 : decode cX6_near 30 = .ok (.iconst 1, 1) := by decide +kernel
theorem dX6_near_31 : decode cX6_near 31 = .ok (.if_icmp .le 6, 3) := by decide +kernel
theorem dX6_near_34 : decode cX6_near 34 = .ok (.bipush (-102), 2) := by decide +kernel
theorem dX6_near_36 : decode cX6_near 36 = .ok (.ireturn, 1) := by decide +kernel
theorem dX6_near_37 : decode cX6_near 37 = .ok (.aload_n 0, 1) := by decide +kernel
theorem dX6_near_38 : decode cX6_near 38 = .ok (.aload 4, 2) := by decide +kernel
theorem dX6_near_40 : decode cX6_near 40 = .ok (.iload_n 2, 1) := by decide +kernel
theorem dX6_near_41 : decode cX6_near 41 = .ok (.iload_n 3, 1) := by decide +kernel
theorem dX6_near_42 : decode cX6_near 42 = .ok (.invokevirtual 117, 3) := by decide +kernel
theorem dX6_near_45 : decode cX6_near 45 = .ok (.ireturn, 1) := by decide +kernel
theorem dX6_put_0 : decode cX6_put 0 = .ok (.aload_n 0, 1) := by decide +kernel
theorem dX6_put_1 : decode cX6_put 1 = .ok (.getfield 26, 3) := by decide +kernel
theorem dX6_put_4 : decode cX6_put 4 = .ok (.iload_n 1, 1) := by decide +kernel
theorem dX6_put_5 : decode cX6_put 5 = .ok (.invokevirtual 89, 3) := by decide +kernel
theorem dX6_put_8 : decode cX6_put 8 = .ok (.astore 4, 2) := by decide +kernel
theorem dX6_put_10 : decode cX6_put 10 = .ok (.aload 4, 2) := by decide +kernel
theorem dX6_put_12 : decode cX6_put 12 = .ok (.ifnonnull 6, 3) := by decide +kernel
theorem dX6_put_15 : decode cX6_put 15 = .ok (.bipush (-101), 2) := by decide +kernel
theorem dX6_put_17 : decode cX6_put 17 = .ok (.ireturn, 1) := by decide +kernel
theorem dX6_put_18 : decode cX6_put 18 = .ok (.iload_n 2, 1) := by decide +kernel
theorem dX6_put_19 : decode cX6_put 19 = .ok (.ifCond .lt 9, 3) := by decide +kernel
theorem dX6_put_22 : decode cX6_put 22 = .ok (.iload_n 2, 1) := by decide +kernel
theorem dX6_put_23 : decode cX6_put 23 = .ok (.bipush 59, 2) := by decide +kernel
theorem dX6_put_25 : decode cX6_put 25 = .ok (.if_icmp .le 6, 3) := by decide +kernel
theorem dX6_put_28 : decode cX6_put 28 = .ok (.bipush (-102), 2) := by decide +kernel
theorem dX6_put_30 : decode cX6_put 30 = .ok (.ireturn, 1) := by decide +kernel
theorem dX6_put_31 : decode cX6_put 31 = .ok (.aload_n 0, 1) := by decide +kernel
theorem dX6_put_32 : decode cX6_put 32 = .ok (.getfield 26, 3) := by decide +kernel
theorem dX6_put_35 : decode cX6_put 35 = .ok (.getfield 121, 3) := by decide +kernel
theorem dX6_put_38 : decode cX6_put 38 = .ok (.bipush 8, 2) := by decide +kernel
theorem dX6_put_40 : decode cX6_put 40 = .ok (.if_icmp .lt 6, 3) := by decide +kernel
theorem dX6_put_43 : decode cX6_put 43 = .ok (.bipush (-104), 2) := by decide +kernel
theorem dX6_put_45 : decode cX6_put 45 = .ok (.ireturn, 1) := by decide +kernel
theorem dX6_put_46 : decode cX6_put 46 = .ok (.aload_n 0, 1) := by decide +kernel
theorem dX6_put_47 : decode cX6_put 47 = .ok (.getfield 26, 3) := by decide +kernel
theorem dX6_put_50 : decode cX6_put 50 = .ok (.aload 4, 2) := by decide +kernel
theorem dX6_put_52 : decode cX6_put 52 = .ok (.iload_n 2, 1) := by decide +kernel
theorem dX6_put_53 : decode cX6_put 53 = .ok (.iload_n 3, 1) := by decide +kernel
theorem dX6_put_54 : decode cX6_put 54 = .ok (.ifCond .eq 7, 3) := by decide +kernel
theorem dX6_put_57 : decode cX6_put 57 = .ok (.iconst 1, 1) := by decide +kernel
theorem dX6_put_58 : decode cX6_put 58 = .ok (.goto 4, 3) := by decide +kernel
theorem dX6_put_61 : decode cX6_put 61 = .ok (.iconst 0, 1) := by decide +kernel
theorem dX6_put_62 : decode cX6_put 62 = .ok (.invokevirtual 124, 3) := by decide +kernel
theorem dX6_put_65 : decode cX6_put 65 = .ok (.aload_n 0, 1) := by decide +kernel
theorem dX6_put_66 : decode cX6_put 66 = .ok (.getfield 26, 3) := by decide +kernel
theorem dX6_put_69 : decode cX6_put 69 = .ok (.getfield 121, 3) := by decide +kernel
theorem dX6_put_72 : decode cX6_put 72 = .ok (.ireturn, 1) := by decide +kernel
theorem dX6_forget_0 : decode cX6_forget 0 = .ok (.aload_n 0, 1) := by decide +kernel
theorem dX6_forget_1 : decode cX6_forget 1 = .ok (.getfield 26, 3) := by decide +kernel
theorem dX6_forget_4 : decode cX6_forget 4 = .ok (.getfield 121, 3) := by decide +kernel
theorem dX6_forget_7 : decode cX6_forget 7 = .ok (.istore_n 1, 1) := by decide +kernel
theorem dX6_forget_8 : decode cX6_forget 8 = .ok (.aload_n 0, 1) := by decide +kernel
theorem dX6_forget_9 : decode cX6_forget 9 = .ok (.getfield 26, 3) := by decide +kernel
theorem dX6_forget_12 : decode cX6_forget 12 = .ok (.iconst 0, 1) := by decide +kernel
theorem dX6_forget_13 : decode cX6_forget 13 = .ok (.putfield 121, 3) := by decide +kernel
theorem dX6_forget_16 : decode cX6_forget 16 = .ok (.iload_n 1, 1) := by decide +kernel
theorem dX6_forget_17 : decode cX6_forget 17 = .ok (.ireturn, 1) := by decide +kernel
theorem dX6_nights_0 : decode cX6_nights 0 = .ok (.iload_n 1, 1) := by decide +kernel
theorem dX6_nights_1 : decode cX6_nights 1 = .ok (.iconst 1, 1) := by decide +kernel
theorem dX6_nights_2 : decode cX6_nights 2 = .ok (.if_icmp .lt 22, 3) := by decide +kernel
theorem dX6_nights_5 : decode cX6_nights 5 = .ok (.iload_n 1, 1) := by decide +kernel
theorem dX6_nights_6 : decode cX6_nights 6 = .ok (.bipush 40, 2) := by decide +kernel
theorem dX6_nights_8 : decode cX6_nights 8 = .ok (.if_icmp .gt 16, 3) := by decide +kernel
theorem dX6_nights_11 : decode cX6_nights 11 = .ok (.iload_n 2, 1) := by decide +kernel
theorem dX6_nights_12 : decode cX6_nights 12 = .ok (.ifCond .lt 12, 3) := by decide +kernel
theorem dX6_nights_15 : decode cX6_nights 15 = .ok (.iload_n 3, 1) := by decide +kernel
theorem dX6_nights_16 : decode cX6_nights 16 = .ok (.ifCond .lt 8, 3) := by decide +kernel
theorem dX6_nights_19 : decode cX6_nights 19 = .ok (.iload_n 3, 1) := by decide +kernel
theorem dX6_nights_20 : decode cX6_nights 20 = .ok (.iconst 2, 1) := by decide +kernel
theorem dX6_nights_21 : decode cX6_nights 21 = .ok (.if_icmp .le 6, 3) := by decide +kernel
theorem dX6_nights_24 : decode cX6_nights 24 = .ok (.bipush (-102), 2) := by decide +kernel
theorem dX6_nights_26 : decode cX6_nights 26 = .ok (.ireturn, 1) := by decide +kernel
theorem dX6_nights_27 : decode cX6_nights 27 = .ok (.aload_n 0, 1) := by decide +kernel
theorem dX6_nights_28 : decode cX6_nights 28 = .ok (.getfield 57, 3) := by decide +kernel
theorem dX6_nights_31 : decode cX6_nights 31 = .ok (.ifCond .ne 6, 3) := by decide +kernel
theorem dX6_nights_34 : decode cX6_nights 34 = .ok (.bipush (-103), 2) := by decide +kernel
theorem dX6_nights_36 : decode cX6_nights 36 = .ok (.ireturn, 1) := by decide +kernel
theorem dX6_nights_37 : decode cX6_nights 37 = .ok (.iconst 0, 1) := by decide +kernel
theorem dX6_nights_38 : decode cX6_nights 38 = .ok (.istore 4, 2) := by decide +kernel
theorem dX6_nights_40 : decode cX6_nights 40 = .ok (.iconst 0, 1) := by decide +kernel
theorem dX6_nights_41 : decode cX6_nights 41 = .ok (.istore 5, 2) := by decide +kernel
theorem dX6_nights_43 : decode cX6_nights 43 = .ok (.iload_n 2, 1) := by decide +kernel
theorem dX6_nights_44 : decode cX6_nights 44 = .ok (.istore 6, 2) := by decide +kernel
theorem dX6_nights_46 : decode cX6_nights 46 = .ok (.iconst 0, 1) := by decide +kernel
theorem dX6_nights_47 : decode cX6_nights 47 = .ok (.istore 7, 2) := by decide +kernel
theorem dX6_nights_49 : decode cX6_nights 49 = .ok (.iload 7, 2) := by decide +kernel
theorem dX6_nights_51 : decode cX6_nights 51 = .ok (.iload_n 1, 1) := by decide +kernel
theorem dX6_nights_52 : decode cX6_nights 52 = .ok (.if_icmp .ge 100, 3) := by decide +kernel
theorem dX6_nights_55 : decode cX6_nights 55 = .ok (.iconst 0, 1) := by decide +kernel
theorem dX6_nights_56 : decode cX6_nights 56 = .ok (.istore 8, 2) := by decide +kernel
theorem dX6_nights_58 : decode cX6_nights 58 = .ok (.iload 8, 2) := by decide +kernel
theorem dX6_nights_60 : decode cX6_nights 60 = .ok (.aload_n 0, 1) := by decide +kernel
theorem dX6_nights_61 : decode cX6_nights 61 = .ok (.getfield 26, 3) := by decide +kernel
theorem dX6_nights_64 : decode cX6_nights 64 = .ok (.getfield 67, 3) := by decide +kernel
theorem dX6_nights_67 : decode cX6_nights 67 = .ok (.if_icmp .ge 79, 3) := by decide +kernel
theorem dX6_nights_70 : decode cX6_nights 70 = .ok (.aload_n 0, 1) := by decide +kernel
theorem dX6_nights_71 : decode cX6_nights 71 = .ok (.getfield 26, 3) := by decide +kernel
theorem dX6_nights_74 : decode cX6_nights 74 = .ok (.iload 8, 2) := by decide +kernel
theorem dX6_nights_76 : decode cX6_nights 76 = .ok (.invokevirtual 89, 3) := by decide +kernel
theorem dX6_nights_79 : decode cX6_nights 79 = .ok (.astore 9, 2) := by decide +kernel
theorem dX6_nights_81 : decode cX6_nights 81 = .ok (.aload 9, 2) := by decide +kernel
theorem dX6_nights_83 : decode cX6_nights 83 = .ok (.ifnonnull 6, 3) := by decide +kernel
theorem dX6_nights_86 : decode cX6_nights 86 = .ok (.goto 54, 3) := by decide +kernel
theorem dX6_nights_89 : decode cX6_nights 89 = .ok (.iload 6, 2) := by decide +kernel
theorem dX6_nights_91 : decode cX6_nights 91 = .ok (.invokestatic 128, 3) := by decide +kernel
theorem dX6_nights_94 : decode cX6_nights 94 = .ok (.istore 6, 2) := by decide +kernel
theorem dX6_nights_96 : decode cX6_nights 96 = .ok (.iload 6, 2) := by decide +kernel
theorem dX6_nights_98 : decode cX6_nights 98 = .ok (.invokestatic 131, 3) := by decide +kernel
theorem dX6_nights_101 : decode cX6_nights 101 = .ok (.ifCond .ne 7, 3) := by decide +kernel
theorem dX6_nights_104 : decode cX6_nights 104 = .ok (.iconst 1, 1) := by decide +kernel
theorem dX6_nights_105 : decode cX6_nights 105 = .ok (.goto 4, 3) := by decide +kernel
theorem dX6_nights_108 : decode cX6_nights 108 = .ok (.iconst 0, 1) := by decide +kernel
theorem dX6_nights_109 : decode cX6_nights 109 = .ok (.istore 10, 2) := by decide +kernel
theorem dX6_nights_111 : decode cX6_nights 111 = .ok (.iload 5, 2) := by decide +kernel
theorem dX6_nights_113 : decode cX6_nights 113 = .ok (.iload 10, 2) := by decide +kernel
theorem dX6_nights_115 : decode cX6_nights 115 = .ok (.iadd, 1) := by decide +kernel
theorem dX6_nights_116 : decode cX6_nights 116 = .ok (.istore 5, 2) := by decide +kernel
theorem dX6_nights_118 : decode cX6_nights 118 = .ok (.iload 4, 2) := by decide +kernel
theorem dX6_nights_120 : decode cX6_nights 120 = .ok (.aload_n 0, 1) := by decide +kernel
theorem dX6_nights_121 : decode cX6_nights 121 = .ok (.aload 9, 2) := by decide +kernel
theorem dX6_nights_123 : decode cX6_nights 123 = .ok (.aload 9, 2) := by decide +kernel
theorem dX6_nights_125 : decode cX6_nights 125 = .ok (.getfield 105, 3) := by decide +kernel
theorem dX6_nights_128 : decode cX6_nights 128 = .ok (.iload 7, 2) := by decide +kernel
theorem dX6_nights_130 : decode cX6_nights 130 = .ok (.iadd, 1) := by decide +kernel
theorem dX6_nights_131 : decode cX6_nights 131 = .ok (.invokevirtual 102, 3) := by decide +kernel
theorem dX6_nights_134 : decode cX6_nights 134 = .ok (.iload 10, 2) := by decide +kernel
theorem dX6_nights_136 : decode cX6_nights 136 = .ok (.ixor, 1) := by decide +kernel
theorem dX6_nights_137 : decode cX6_nights 137 = .ok (.iadd, 1) := by decide +kernel
theorem dX6_nights_138 : decode cX6_nights 138 = .ok (.istore 4, 2) := by decide +kernel
theorem dX6_nights_140 : decode cX6_nights 140 = .ok (.iinc 8 1, 3) := by decide +kernel
theorem dX6_nights_143 : decode cX6_nights 143 = .ok (.goto (-85), 3) := by decide +kernel
theorem dX6_nights_146 : decode cX6_nights 146 = .ok (.iinc 7 1, 3) := by decide +kernel
theorem dX6_nights_149 : decode cX6_nights 149 = .ok (.goto (-100), 3) := by decide +kernel
theorem dX6_nights_152 : decode cX6_nights 152 = .ok (.iload_n 3, 1) := by decide +kernel
theorem dX6_nights_153 : decode cX6_nights 153 = .ok (.ifCond .ne 8, 3) := by decide +kernel
theorem dX6_nights_156 : decode cX6_nights 156 = .ok (.iload 4, 2) := by decide +kernel
theorem dX6_nights_158 : decode cX6_nights 158 = .ok (.goto 15, 3) := by decide +kernel
theorem dX6_nights_161 : decode cX6_nights 161 = .ok (.iload_n 3, 1) := by decide +kernel
theorem dX6_nights_162 : decode cX6_nights 162 = .ok (.iconst 1, 1) := by decide +kernel
theorem dX6_nights_163 : decode cX6_nights 163 = .ok (.if_icmp .ne 8, 3) := by decide +kernel
theorem dX6_nights_166 : decode cX6_nights 166 = .ok (.iload 5, 2) := by decide +kernel
theorem dX6_nights_168 : decode cX6_nights 168 = .ok (.goto 5, 3) := by decide +kernel
theorem dX6_nights_171 : decode cX6_nights 171 = .ok (.iload 6, 2) := by decide +kernel
theorem dX6_nights_173 : decode cX6_nights 173 = .ok (.ireturn, 1) := by decide +kernel
theorem dX6_image_0 : decode cX6_image 0 = .ok (.aload_n 0, 1) := by decide +kernel
theorem dX6_image_1 : decode cX6_image 1 = .ok (.getfield 57, 3) := by decide +kernel
theorem dX6_image_4 : decode cX6_image 4 = .ok (.ifCond .ne 6, 3) := by decide +kernel
theorem dX6_image_7 : decode cX6_image 7 = .ok (.bipush (-103), 2) := by decide +kernel
theorem dX6_image_9 : decode cX6_image 9 = .ok (.ireturn, 1) := by decide +kernel
theorem dX6_image_10 : decode cX6_image 10 = .ok (.aload_n 0, 1) := by decide +kernel
theorem dX6_image_11 : decode cX6_image 11 = .ok (.getfield 30, 3) := by decide +kernel
theorem dX6_image_14 : decode cX6_image 14 = .ok (.aload_n 0, 1) := by decide +kernel
theorem dX6_image_15 : decode cX6_image 15 = .ok (.getfield 26, 3) := by decide +kernel
theorem dX6_image_18 : decode cX6_image 18 = .ok (.invokevirtual 134, 3) := by decide +kernel
theorem dX6_image_21 : decode cX6_image 21 = .ok (.aload_n 0, 1) := by decide +kernel
theorem dX6_image_22 : decode cX6_image 22 = .ok (.iconst 1, 1) := by decide +kernel
theorem dX6_image_23 : decode cX6_image 23 = .ok (.putfield 61, 3) := by decide +kernel
theorem dX6_image_26 : decode cX6_image 26 = .ok (.aload_n 0, 1) := by decide +kernel
theorem dX6_image_27 : decode cX6_image 27 = .ok (.getfield 26, 3) := by decide +kernel
theorem dX6_image_30 : decode cX6_image 30 = .ok (.getfield 108, 3) := by decide +kernel
theorem dX6_image_33 : decode cX6_image 33 = .ok (.ireturn, 1) := by decide +kernel
theorem dX6_restore_0 : decode cX6_restore 0 = .ok (.aload_n 0, 1) := by decide +kernel
theorem dX6_restore_1 : decode cX6_restore 1 = .ok (.getfield 61, 3) := by decide +kernel
theorem dX6_restore_4 : decode cX6_restore 4 = .ok (.ifCond .ne 6, 3) := by decide +kernel
theorem dX6_restore_7 : decode cX6_restore 7 = .ok (.bipush (-103), 2) := by decide +kernel
theorem dX6_restore_9 : decode cX6_restore 9 = .ok (.ireturn, 1) := by decide +kernel
theorem dX6_restore_10 : decode cX6_restore 10 = .ok (.aload_n 0, 1) := by decide +kernel
theorem dX6_restore_11 : decode cX6_restore 11 = .ok (.getfield 26, 3) := by decide +kernel
theorem dX6_restore_14 : decode cX6_restore 14 = .ok (.aload_n 0, 1) := by decide +kernel
theorem dX6_restore_15 : decode cX6_restore 15 = .ok (.getfield 30, 3) := by decide +kernel
theorem dX6_restore_18 : decode cX6_restore 18 = .ok (.invokevirtual 134, 3) := by decide +kernel
theorem dX6_restore_21 : decode cX6_restore 21 = .ok (.aload_n 0, 1) := by decide +kernel
theorem dX6_restore_22 : decode cX6_restore 22 = .ok (.getfield 26, 3) := by decide +kernel
theorem dX6_restore_25 : decode cX6_restore 25 = .ok (.getfield 108, 3) := by decide +kernel
theorem dX6_restore_28 : decode cX6_restore 28 = .ok (.ireturn, 1) := by decide +kernel
theorem dX6_count_0 : decode cX6_count 0 = .ok (.iload_n 1, 1) := by decide +kernel
theorem dX6_count_1 : decode cX6_count 1 = .ok (.ifCond .lt 9, 3) := by decide +kernel
theorem dX6_count_4 : decode cX6_count 4 = .ok (.iload_n 1, 1) := by decide +kernel
theorem dX6_count_5 : decode cX6_count 5 = .ok (.bipush 7, 2) := by decide +kernel
theorem dX6_count_7 : decode cX6_count 7 = .ok (.if_icmp .le 6, 3) := by decide +kernel
theorem dX6_count_10 : decode cX6_count 10 = .ok (.bipush (-102), 2) := by decide +kernel
theorem dX6_count_12 : decode cX6_count 12 = .ok (.ireturn, 1) := by decide +kernel
theorem dX6_count_13 : decode cX6_count 13 = .ok (.aload_n 0, 1) := by decide +kernel
theorem dX6_count_14 : decode cX6_count 14 = .ok (.iload_n 1, 1) := by decide +kernel
theorem dX6_count_15 : decode cX6_count 15 = .ok (.invokevirtual 138, 3) := by decide +kernel
theorem dX6_count_18 : decode cX6_count 18 = .ok (.ireturn, 1) := by decide +kernel
theorem dX6_digest_0 : decode cX6_digest 0 = .ok (.ldc2_w 141, 3) := by decide +kernel
theorem dX6_digest_3 : decode cX6_digest 3 = .ok (.lstore_n 1, 1) := by decide +kernel
theorem dX6_digest_4 : decode cX6_digest 4 = .ok (.aload_n 0, 1) := by decide +kernel
theorem dX6_digest_5 : decode cX6_digest 5 = .ok (.getfield 57, 3) := by decide +kernel
theorem dX6_digest_8 : decode cX6_digest 8 = .ok (.ifCond .eq 9, 3) := by decide +kernel
theorem dX6_digest_11 : decode cX6_digest 11 = .ok (.aload_n 0, 1) := by decide +kernel
theorem dX6_digest_12 : decode cX6_digest 12 = .ok (.lload_n 1, 1) := by decide +kernel
theorem dX6_digest_13 : decode cX6_digest 13 = .ok (.invokevirtual 143, 3) := by decide +kernel
theorem dX6_digest_16 : decode cX6_digest 16 = .ok (.lstore_n 1, 1) := by decide +kernel
theorem dX6_digest_17 : decode cX6_digest 17 = .ok (.iconst 0, 1) := by decide +kernel
theorem dX6_digest_18 : decode cX6_digest 18 = .ok (.istore_n 3, 1) := by decide +kernel
theorem dX6_digest_19 : decode cX6_digest 19 = .ok (.iload_n 3, 1) := by decide +kernel
theorem dX6_digest_20 : decode cX6_digest 20 = .ok (.aload_n 0, 1) := by decide +kernel
theorem dX6_digest_21 : decode cX6_digest 21 = .ok (.getfield 26, 3) := by decide +kernel
theorem dX6_digest_24 : decode cX6_digest 24 = .ok (.getfield 67, 3) := by decide +kernel
theorem dX6_digest_27 : decode cX6_digest 27 = .ok (.if_icmp .ge 32, 3) := by decide +kernel
theorem dX6_digest_30 : decode cX6_digest 30 = .ok (.aload_n 0, 1) := by decide +kernel
theorem dX6_digest_31 : decode cX6_digest 31 = .ok (.getfield 26, 3) := by decide +kernel
theorem dX6_digest_34 : decode cX6_digest 34 = .ok (.iload_n 3, 1) := by decide +kernel
theorem dX6_digest_35 : decode cX6_digest 35 = .ok (.invokevirtual 89, 3) := by decide +kernel
theorem dX6_digest_38 : decode cX6_digest 38 = .ok (.astore 4, 2) := by decide +kernel
theorem dX6_digest_40 : decode cX6_digest 40 = .ok (.aload 4, 2) := by decide +kernel
theorem dX6_digest_42 : decode cX6_digest 42 = .ok (.ifnull 11, 3) := by decide +kernel
theorem dX6_digest_45 : decode cX6_digest 45 = .ok (.aload_n 0, 1) := by decide +kernel
theorem dX6_digest_46 : decode cX6_digest 46 = .ok (.lload_n 1, 1) := by decide +kernel
theorem dX6_digest_47 : decode cX6_digest 47 = .ok (.aload 4, 2) := by decide +kernel
theorem dX6_digest_49 : decode cX6_digest 49 = .ok (.invokevirtual 147, 3) := by decide +kernel
theorem dX6_digest_52 : decode cX6_digest 52 = .ok (.lstore_n 1, 1) := by decide +kernel
theorem dX6_digest_53 : decode cX6_digest 53 = .ok (.iinc 3 1, 3) := by decide +kernel
theorem dX6_digest_56 : decode cX6_digest 56 = .ok (.goto (-37), 3) := by decide +kernel
theorem dX6_digest_59 : decode cX6_digest 59 = .ok (.iconst 0, 1) := by decide +kernel
theorem dX6_digest_60 : decode cX6_digest 60 = .ok (.istore_n 3, 1) := by decide +kernel
theorem dX6_digest_61 : decode cX6_digest 61 = .ok (.iload_n 3, 1) := by decide +kernel
theorem dX6_digest_62 : decode cX6_digest 62 = .ok (.aload_n 0, 1) := by decide +kernel
theorem dX6_digest_63 : decode cX6_digest 63 = .ok (.getfield 10, 3) := by decide +kernel
theorem dX6_digest_66 : decode cX6_digest 66 = .ok (.getfield 33, 3) := by decide +kernel
theorem dX6_digest_69 : decode cX6_digest 69 = .ok (.if_icmp .ge 25, 3) := by decide +kernel
theorem dX6_digest_72 : decode cX6_digest 72 = .ok (.ldc2_w 151, 3) := by decide +kernel
theorem dX6_digest_75 : decode cX6_digest 75 = .ok (.lload_n 1, 1) := by decide +kernel
theorem dX6_digest_76 : decode cX6_digest 76 = .ok (.lmul, 1) := by decide +kernel
theorem dX6_digest_77 : decode cX6_digest 77 = .ok (.aload_n 0, 1) := by decide +kernel
theorem dX6_digest_78 : decode cX6_digest 78 = .ok (.getfield 10, 3) := by decide +kernel
theorem dX6_digest_81 : decode cX6_digest 81 = .ok (.iload_n 3, 1) := by decide +kernel
theorem dX6_digest_82 : decode cX6_digest 82 = .ok (.invokevirtual 153, 3) := by decide +kernel
theorem dX6_digest_85 : decode cX6_digest 85 = .ok (.i2l, 1) := by decide +kernel
theorem dX6_digest_86 : decode cX6_digest 86 = .ok (.ladd, 1) := by decide +kernel
theorem dX6_digest_87 : decode cX6_digest 87 = .ok (.lstore_n 1, 1) := by decide +kernel
theorem dX6_digest_88 : decode cX6_digest 88 = .ok (.iinc 3 1, 3) := by decide +kernel
theorem dX6_digest_91 : decode cX6_digest 91 = .ok (.goto (-30), 3) := by decide +kernel
theorem dX6_digest_94 : decode cX6_digest 94 = .ok (.iconst 0, 1) := by decide +kernel
theorem dX6_digest_95 : decode cX6_digest 95 = .ok (.istore_n 3, 1) := by decide +kernel
theorem dX6_digest_96 : decode cX6_digest 96 = .ok (.iload_n 3, 1) := by decide +kernel
theorem dX6_digest_97 : decode cX6_digest 97 = .ok (.bipush 7, 2) := by decide +kernel
theorem dX6_digest_99 : decode cX6_digest 99 = .ok (.if_icmp .gt 22, 3) := by decide +kernel
theorem dX6_digest_102 : decode cX6_digest 102 = .ok (.ldc2_w 151, 3) := by decide +kernel
theorem dX6_digest_105 : decode cX6_digest 105 = .ok (.lload_n 1, 1) := by decide +kernel
theorem dX6_digest_106 : decode cX6_digest 106 = .ok (.lmul, 1) := by decide +kernel
theorem dX6_digest_107 : decode cX6_digest 107 = .ok (.aload_n 0, 1) := by decide +kernel
theorem dX6_digest_108 : decode cX6_digest 108 = .ok (.iload_n 3, 1) := by decide +kernel
theorem dX6_digest_109 : decode cX6_digest 109 = .ok (.invokevirtual 138, 3) := by decide +kernel
theorem dX6_digest_112 : decode cX6_digest 112 = .ok (.i2l, 1) := by decide +kernel
theorem dX6_digest_113 : decode cX6_digest 113 = .ok (.ladd, 1) := by decide +kernel
theorem dX6_digest_114 : decode cX6_digest 114 = .ok (.lstore_n 1, 1) := by decide +kernel
theorem dX6_digest_115 : decode cX6_digest 115 = .ok (.iinc 3 1, 3) := by decide +kernel
theorem dX6_digest_118 : decode cX6_digest 118 = .ok (.goto (-22), 3) := by decide +kernel
theorem dX6_digest_121 : decode cX6_digest 121 = .ok (.lload_n 1, 1) := by decide +kernel
theorem dX6_digest_122 : decode cX6_digest 122 = .ok (.lreturn, 1) := by decide +kernel
theorem dX6_isKind_0 : decode cX6_isKind 0 = .ok (.iload_n 0, 1) := by decide +kernel
theorem dX6_isKind_1 : decode cX6_isKind 1 = .ok (.ifCond .lt 12, 3) := by decide +kernel
theorem dX6_isKind_4 : decode cX6_isKind 4 = .ok (.iload_n 0, 1) := by decide +kernel
theorem dX6_isKind_5 : decode cX6_isKind 5 = .ok (.iconst 5, 1) := by decide +kernel
theorem dX6_isKind_6 : decode cX6_isKind 6 = .ok (.if_icmp .ge 7, 3) := by decide +kernel
theorem dX6_isKind_9 : decode cX6_isKind 9 = .ok (.iconst 1, 1) := by decide +kernel
theorem dX6_isKind_10 : decode cX6_isKind 10 = .ok (.goto 4, 3) := by decide +kernel
theorem dX6_isKind_13 : decode cX6_isKind 13 = .ok (.iconst 0, 1) := by decide +kernel
theorem dX6_isKind_14 : decode cX6_isKind 14 = .ok (.ireturn, 1) := by decide +kernel
theorem dX6_isSaying_0 : decode cX6_isSaying 0 = .ok (.iload_n 0, 1) := by decide +kernel
theorem dX6_isSaying_1 : decode cX6_isSaying 1 = .ok (.ifCond .lt 12, 3) := by decide +kernel
theorem dX6_isSaying_4 : decode cX6_isSaying 4 = .ok (.iload_n 0, 1) := by decide +kernel
theorem dX6_isSaying_5 : decode cX6_isSaying 5 = .ok (.iconst 4, 1) := by decide +kernel
theorem dX6_isSaying_6 : decode cX6_isSaying 6 = .ok (.if_icmp .ge 7, 3) := by decide +kernel
theorem dX6_isSaying_9 : decode cX6_isSaying 9 = .ok (.iconst 1, 1) := by decide +kernel
theorem dX6_isSaying_10 : decode cX6_isSaying 10 = .ok (.goto 4, 3) := by decide +kernel
theorem dX6_isSaying_13 : decode cX6_isSaying 13 = .ok (.iconst 0, 1) := by decide +kernel
theorem dX6_isSaying_14 : decode cX6_isSaying 14 = .ok (.ireturn, 1) := by decide +kernel
theorem dX6_kindOfLetter_0 : decode cX6_kindOfLetter 0 = .ok (.iload_n 0, 1) := by decide +kernel
theorem dX6_kindOfLetter_1 : decode cX6_kindOfLetter 1 = .ok (.lookupswitch 61 #[(98, 53), (101, 59), (111, 57), (116, 51), (119, 55)], 51) := by decide +kernel
theorem dX6_kindOfLetter_52 : decode cX6_kindOfLetter 52 = .ok (.iconst 0, 1) := by decide +kernel
theorem dX6_kindOfLetter_53 : decode cX6_kindOfLetter 53 = .ok (.ireturn, 1) := by decide +kernel
theorem dX6_kindOfLetter_54 : decode cX6_kindOfLetter 54 = .ok (.iconst 1, 1) := by decide +kernel
theorem dX6_kindOfLetter_55 : decode cX6_kindOfLetter 55 = .ok (.ireturn, 1) := by decide +kernel
theorem dX6_kindOfLetter_56 : decode cX6_kindOfLetter 56 = .ok (.iconst 2, 1) := by decide +kernel
theorem dX6_kindOfLetter_57 : decode cX6_kindOfLetter 57 = .ok (.ireturn, 1) := by decide +kernel
theorem dX6_kindOfLetter_58 : decode cX6_kindOfLetter 58 = .ok (.iconst 3, 1) := by decide +kernel
theorem dX6_kindOfLetter_59 : decode cX6_kindOfLetter 59 = .ok (.ireturn, 1) := by decide +kernel
theorem dX6_kindOfLetter_60 : decode cX6_kindOfLetter 60 = .ok (.iconst 4, 1) := by decide +kernel
theorem dX6_kindOfLetter_61 : decode cX6_kindOfLetter 61 = .ok (.ireturn, 1) := by decide +kernel
theorem dX6_kindOfLetter_62 : decode cX6_kindOfLetter 62 = .ok (.iconst (-1), 1) := by decide +kernel
theorem dX6_kindOfLetter_63 : decode cX6_kindOfLetter 63 = .ok (.ireturn, 1) := by decide +kernel
theorem dX6_readPage_0 : decode cX6_readPage 0 = .ok (.iconst 0, 1) := by decide +kernel
theorem dX6_readPage_1 : decode cX6_readPage 1 = .ok (.istore_n 1, 1) := by decide +kernel
theorem dX6_readPage_2 : decode cX6_readPage 2 = .ok (.iconst 0, 1) := by decide +kernel
theorem dX6_readPage_3 : decode cX6_readPage 3 = .ok (.istore_n 2, 1) := by decide +kernel
theorem dX6_readPage_4 : decode cX6_readPage 4 = .ok (.iconst 0, 1) := by decide +kernel
theorem dX6_readPage_5 : decode cX6_readPage 5 = .ok (.istore_n 3, 1) := by decide +kernel
theorem dX6_readPage_6 : decode cX6_readPage 6 = .ok (.iconst 0, 1) := by decide +kernel
theorem dX6_readPage_7 : decode cX6_readPage 7 = .ok (.istore 4, 2) := by decide +kernel
theorem dX6_readPage_9 : decode cX6_readPage 9 = .ok (.iload 4, 2) := by decide +kernel
theorem dX6_readPage_11 : decode cX6_readPage 11 = .ok (.aload_n 0, 1) := by decide +kernel
theorem dX6_readPage_12 : decode cX6_readPage 12 = .ok (.getfield 10, 3) := by decide +kernel
theorem dX6_readPage_15 : decode cX6_readPage 15 = .ok (.getfield 33, 3) := by decide +kernel
theorem dX6_readPage_18 : decode cX6_readPage 18 = .ok (.if_icmp .ge 103, 3) := by decide +kernel
theorem dX6_readPage_21 : decode cX6_readPage 21 = .ok (.aload_n 0, 1) := by decide +kernel
theorem dX6_readPage_22 : decode cX6_readPage 22 = .ok (.getfield 10, 3) := by decide +kernel
theorem dX6_readPage_25 : decode cX6_readPage 25 = .ok (.iload 4, 2) := by decide +kernel
theorem dX6_readPage_27 : decode cX6_readPage 27 = .ok (.invokevirtual 153, 3) := by decide +kernel
theorem dX6_readPage_30 : decode cX6_readPage 30 = .ok (.istore 5, 2) := by decide +kernel
theorem dX6_readPage_32 : decode cX6_readPage 32 = .ok (.iload 5, 2) := by decide +kernel
theorem dX6_readPage_34 : decode cX6_readPage 34 = .ok (.bipush 44, 2) := by decide +kernel
theorem dX6_readPage_36 : decode cX6_readPage 36 = .ok (.if_icmp .ne 9, 3) := by decide +kernel
theorem dX6_readPage_39 : decode cX6_readPage 39 = .ok (.iinc 2 1, 3) := by decide +kernel
theorem dX6_readPage_42 : decode cX6_readPage 42 = .ok (.goto 73, 3) := by decide +kernel
theorem dX6_readPage_45 : decode cX6_readPage 45 = .ok (.iload 5, 2) := by decide +kernel
theorem dX6_readPage_47 : decode cX6_readPage 47 = .ok (.bipush 59, 2) := by decide +kernel
theorem dX6_readPage_49 : decode cX6_readPage 49 = .ok (.if_icmp .ne 8, 3) := by decide +kernel
theorem dX6_readPage_52 : decode cX6_readPage 52 = .ok (.iconst 1, 1) := by decide +kernel
theorem dX6_readPage_53 : decode cX6_readPage 53 = .ok (.istore_n 1, 1) := by decide +kernel
theorem dX6_readPage_54 : decode cX6_readPage 54 = .ok (.goto 61, 3) := by decide +kernel
theorem dX6_readPage_57 : decode cX6_readPage 57 = .ok (.iload_n 1, 1) := by decide +kernel
theorem dX6_readPage_58 : decode cX6_readPage 58 = .ok (.ifCond .ne 26, 3) := by decide +kernel
theorem dX6_readPage_61 : decode cX6_readPage 61 = .ok (.aload_n 0, 1) := by decide +kernel
theorem dX6_readPage_62 : decode cX6_readPage 62 = .ok (.getfield 19, 3) := by decide +kernel
theorem dX6_readPage_65 : decode cX6_readPage 65 = .ok (.iload_n 2, 1) := by decide +kernel
theorem dX6_readPage_66 : decode cX6_readPage 66 = .ok (.iload 5, 2) := by decide +kernel
theorem dX6_readPage_68 : decode cX6_readPage 68 = .ok (.bipush 108, 2) := by decide +kernel
theorem dX6_readPage_70 : decode cX6_readPage 70 = .ok (.if_icmp .ne 7, 3) := by decide +kernel
theorem dX6_readPage_73 : decode cX6_readPage 73 = .ok (.iconst 1, 1) := by decide +kernel
theorem dX6_readPage_74 : decode cX6_readPage 74 = .ok (.goto 4, 3) := by decide +kernel
theorem dX6_readPage_77 : decode cX6_readPage 77 = .ok (.iconst 0, 1) := by decide +kernel
theorem dX6_readPage_78 : decode cX6_readPage 78 = .ok (.invokevirtual 156, 3) := by decide +kernel
theorem dX6_readPage_81 : decode cX6_readPage 81 = .ok (.goto 34, 3) := by decide +kernel
theorem dX6_readPage_84 : decode cX6_readPage 84 = .ok (.iload 5, 2) := by decide +kernel
theorem dX6_readPage_86 : decode cX6_readPage 86 = .ok (.invokestatic 159, 3) := by decide +kernel
theorem dX6_readPage_89 : decode cX6_readPage 89 = .ok (.iconst (-1), 1) := by decide +kernel
theorem dX6_readPage_90 : decode cX6_readPage 90 = .ok (.if_icmp .eq 12, 3) := by decide +kernel
theorem dX6_readPage_93 : decode cX6_readPage 93 = .ok (.iload 5, 2) := by decide +kernel
theorem dX6_readPage_95 : decode cX6_readPage 95 = .ok (.invokestatic 159, 3) := by decide +kernel
theorem dX6_readPage_98 : decode cX6_readPage 98 = .ok (.istore_n 3, 1) := by decide +kernel
theorem dX6_readPage_99 : decode cX6_readPage 99 = .ok (.goto 16, 3) := by decide +kernel
theorem dX6_readPage_102 : decode cX6_readPage 102 = .ok (.aload_n 0, 1) := by decide +kernel
theorem dX6_readPage_103 : decode cX6_readPage 103 = .ok (.getfield 26, 3) := by decide +kernel
theorem dX6_readPage_106 : decode cX6_readPage 106 = .ok (.iload_n 3, 1) := by decide +kernel
theorem dX6_readPage_107 : decode cX6_readPage 107 = .ok (.iload 5, 2) := by decide +kernel
theorem dX6_readPage_109 : decode cX6_readPage 109 = .ok (.bipush 48, 2) := by decide +kernel
theorem dX6_readPage_111 : decode cX6_readPage 111 = .ok (.isub, 1) := by decide +kernel
theorem dX6_readPage_112 : decode cX6_readPage 112 = .ok (.invokevirtual 85, 3) := by decide +kernel
theorem dX6_readPage_115 : decode cX6_readPage 115 = .ok (.iinc 4 1, 3) := by decide +kernel
theorem dX6_readPage_118 : decode cX6_readPage 118 = .ok (.goto (-109), 3) := by decide +kernel
theorem dX6_readPage_121 : decode cX6_readPage 121 = .ok (.return_, 1) := by decide +kernel
theorem dX6_dripOf_0 : decode cX6_dripOf 0 = .ok (.aload_n 0, 1) := by decide +kernel
theorem dX6_dripOf_1 : decode cX6_dripOf 1 = .ok (.getfield 19, 3) := by decide +kernel
theorem dX6_dripOf_4 : decode cX6_dripOf 4 = .ok (.aload_n 1, 1) := by decide +kernel
theorem dX6_dripOf_5 : decode cX6_dripOf 5 = .ok (.getfield 97, 3) := by decide +kernel
theorem dX6_dripOf_8 : decode cX6_dripOf 8 = .ok (.aload_n 1, 1) := by decide +kernel
theorem dX6_dripOf_9 : decode cX6_dripOf 9 = .ok (.getfield 114, 3) := by decide +kernel
theorem dX6_dripOf_12 : decode cX6_dripOf 12 = .ok (.aload_n 1, 1) := by decide +kernel
theorem dX6_dripOf_13 : decode cX6_dripOf 13 = .ok (.getfield 111, 3) := by decide +kernel
theorem dX6_dripOf_16 : decode cX6_dripOf 16 = .ok (.iload_n 2, 1) := by decide +kernel
theorem dX6_dripOf_17 : decode cX6_dripOf 17 = .ok (.invokevirtual 162, 3) := by decide +kernel
theorem dX6_dripOf_20 : decode cX6_dripOf 20 = .ok (.ireturn, 1) := by decide +kernel
theorem dX6_aboutOf_0 : decode cX6_aboutOf 0 = .ok (.iload_n 2, 1) := by decide +kernel
theorem dX6_aboutOf_1 : decode cX6_aboutOf 1 = .ok (.tableswitch 96 0 7 #[47, 52, 57, 62, 67, 73, 79, 85], 47) := by decide +kernel
theorem dX6_aboutOf_48 : decode cX6_aboutOf 48 = .ok (.aload_n 1, 1) := by decide +kernel
theorem dX6_aboutOf_49 : decode cX6_aboutOf 49 = .ok (.getfield 97, 3) := by decide +kernel
theorem dX6_aboutOf_52 : decode cX6_aboutOf 52 = .ok (.ireturn, 1) := by decide +kernel
theorem dX6_aboutOf_53 : decode cX6_aboutOf 53 = .ok (.aload_n 1, 1) := by decide +kernel
theorem dX6_aboutOf_54 : decode cX6_aboutOf 54 = .ok (.getfield 114, 3) := by decide +kernel
theorem dX6_aboutOf_57 : decode cX6_aboutOf 57 = .ok (.ireturn, 1) := by decide +kernel
theorem dX6_aboutOf_58 : decode cX6_aboutOf 58 = .ok (.aload_n 1, 1) := by decide +kernel
theorem dX6_aboutOf_59 : decode cX6_aboutOf 59 = .ok (.getfield 111, 3) := by decide +kernel
theorem dX6_aboutOf_62 : decode cX6_aboutOf 62 = .ok (.ireturn, 1) := by decide +kernel
theorem dX6_aboutOf_63 : decode cX6_aboutOf 63 = .ok (.aload_n 1, 1) := by decide +kernel
theorem dX6_aboutOf_64 : decode cX6_aboutOf 64 = .ok (.getfield 105, 3) := by decide +kernel
theorem dX6_aboutOf_67 : decode cX6_aboutOf 67 = .ok (.ireturn, 1) := by decide +kernel
theorem dX6_aboutOf_68 : decode cX6_aboutOf 68 = .ok (.aload_n 0, 1) := by decide +kernel
theorem dX6_aboutOf_69 : decode cX6_aboutOf 69 = .ok (.aload_n 1, 1) := by decide +kernel
theorem dX6_aboutOf_70 : decode cX6_aboutOf 70 = .ok (.invokevirtual 166, 3) := by decide +kernel
theorem dX6_aboutOf_73 : decode cX6_aboutOf 73 = .ok (.ireturn, 1) := by decide +kernel
theorem dX6_aboutOf_74 : decode cX6_aboutOf 74 = .ok (.aload_n 0, 1) := by decide +kernel
theorem dX6_aboutOf_75 : decode cX6_aboutOf 75 = .ok (.aload_n 1, 1) := by decide +kernel
theorem dX6_aboutOf_76 : decode cX6_aboutOf 76 = .ok (.invokevirtual 170, 3) := by decide +kernel
theorem dX6_aboutOf_79 : decode cX6_aboutOf 79 = .ok (.ireturn, 1) := by decide +kernel
theorem dX6_aboutOf_80 : decode cX6_aboutOf 80 = .ok (.aload_n 0, 1) := by decide +kernel
theorem dX6_aboutOf_81 : decode cX6_aboutOf 81 = .ok (.aload_n 1, 1) := by decide +kernel
theorem dX6_aboutOf_82 : decode cX6_aboutOf 82 = .ok (.invokevirtual 173, 3) := by decide +kernel
theorem dX6_aboutOf_85 : decode cX6_aboutOf 85 = .ok (.ireturn, 1) := by decide +kernel
theorem dX6_aboutOf_86 : decode cX6_aboutOf 86 = .ok (.aload_n 0, 1) := by decide +kernel
theorem dX6_aboutOf_87 : decode cX6_aboutOf 87 = .ok (.aload_n 1, 1) := by decide +kernel
theorem dX6_aboutOf_88 : decode cX6_aboutOf 88 = .ok (.aload_n 0, 1) := by decide +kernel
theorem dX6_aboutOf_89 : decode cX6_aboutOf 89 = .ok (.aload_n 1, 1) := by decide +kernel
theorem dX6_aboutOf_90 : decode cX6_aboutOf 90 = .ok (.invokevirtual 173, 3) := by decide +kernel
theorem dX6_aboutOf_93 : decode cX6_aboutOf 93 = .ok (.invokevirtual 176, 3) := by decide +kernel
theorem dX6_aboutOf_96 : decode cX6_aboutOf 96 = .ok (.ireturn, 1) := by decide +kernel
theorem dX6_aboutOf_97 : decode cX6_aboutOf 97 = .ok (.aload_n 0, 1) := by decide +kernel
theorem dX6_aboutOf_98 : decode cX6_aboutOf 98 = .ok (.aload_n 1, 1) := by decide +kernel
theorem dX6_aboutOf_99 : decode cX6_aboutOf 99 = .ok (.aload_n 0, 1) := by decide +kernel
theorem dX6_aboutOf_100 : decode cX6_aboutOf 100 = .ok (.aload_n 1, 1) := by decide +kernel
theorem dX6_aboutOf_101 : decode cX6_aboutOf 101 = .ok (.invokevirtual 170, 3) := by decide +kernel
theorem dX6_aboutOf_104 : decode cX6_aboutOf 104 = .ok (.invokevirtual 179, 3) := by decide +kernel
theorem dX6_aboutOf_107 : decode cX6_aboutOf 107 = .ok (.ireturn, 1) := by decide +kernel
theorem dX6_sureOf_0 : decode cX6_sureOf 0 = .ok (.iconst 0, 1) := by decide +kernel
theorem dX6_sureOf_1 : decode cX6_sureOf 1 = .ok (.istore_n 2, 1) := by decide +kernel
theorem dX6_sureOf_2 : decode cX6_sureOf 2 = .ok (.iconst 0, 1) := by decide +kernel
theorem dX6_sureOf_3 : decode cX6_sureOf 3 = .ok (.istore_n 3, 1) := by decide +kernel
theorem dX6_sureOf_4 : decode cX6_sureOf 4 = .ok (.iload_n 3, 1) := by decide +kernel
theorem dX6_sureOf_5 : decode cX6_sureOf 5 = .ok (.iconst 4, 1) := by decide +kernel
theorem dX6_sureOf_6 : decode cX6_sureOf 6 = .ok (.if_icmp .ge 51, 3) := by decide +kernel
theorem dX6_sureOf_9 : decode cX6_sureOf 9 = .ok (.iload_n 3, 1) := by decide +kernel
theorem dX6_sureOf_10 : decode cX6_sureOf 10 = .ok (.iconst 1, 1) := by decide +kernel
theorem dX6_sureOf_11 : decode cX6_sureOf 11 = .ok (.iadd, 1) := by decide +kernel
theorem dX6_sureOf_12 : decode cX6_sureOf 12 = .ok (.istore 4, 2) := by decide +kernel
theorem dX6_sureOf_14 : decode cX6_sureOf 14 = .ok (.iload 4, 2) := by decide +kernel
theorem dX6_sureOf_16 : decode cX6_sureOf 16 = .ok (.iconst 4, 1) := by decide +kernel
theorem dX6_sureOf_17 : decode cX6_sureOf 17 = .ok (.if_icmp .ge 34, 3) := by decide +kernel
theorem dX6_sureOf_20 : decode cX6_sureOf 20 = .ok (.aload_n 0, 1) := by decide +kernel
theorem dX6_sureOf_21 : decode cX6_sureOf 21 = .ok (.aload_n 1, 1) := by decide +kernel
theorem dX6_sureOf_22 : decode cX6_sureOf 22 = .ok (.iload_n 3, 1) := by decide +kernel
theorem dX6_sureOf_23 : decode cX6_sureOf 23 = .ok (.iload 4, 2) := by decide +kernel
theorem dX6_sureOf_25 : decode cX6_sureOf 25 = .ok (.invokevirtual 182, 3) := by decide +kernel
theorem dX6_sureOf_28 : decode cX6_sureOf 28 = .ok (.istore 5, 2) := by decide +kernel
theorem dX6_sureOf_30 : decode cX6_sureOf 30 = .ok (.iload 5, 2) := by decide +kernel
theorem dX6_sureOf_32 : decode cX6_sureOf 32 = .ok (.iconst (-1), 1) := by decide +kernel
theorem dX6_sureOf_33 : decode cX6_sureOf 33 = .ok (.if_icmp .ne 5, 3) := by decide +kernel
theorem dX6_sureOf_36 : decode cX6_sureOf 36 = .ok (.iconst (-1), 1) := by decide +kernel
theorem dX6_sureOf_37 : decode cX6_sureOf 37 = .ok (.ireturn, 1) := by decide +kernel
theorem dX6_sureOf_38 : decode cX6_sureOf 38 = .ok (.iload_n 2, 1) := by decide +kernel
theorem dX6_sureOf_39 : decode cX6_sureOf 39 = .ok (.iload 5, 2) := by decide +kernel
theorem dX6_sureOf_41 : decode cX6_sureOf 41 = .ok (.invokestatic 185, 3) := by decide +kernel
theorem dX6_sureOf_44 : decode cX6_sureOf 44 = .ok (.istore_n 2, 1) := by decide +kernel
theorem dX6_sureOf_45 : decode cX6_sureOf 45 = .ok (.iinc 4 1, 3) := by decide +kernel
theorem dX6_sureOf_48 : decode cX6_sureOf 48 = .ok (.goto (-34), 3) := by decide +kernel
theorem dX6_sureOf_51 : decode cX6_sureOf 51 = .ok (.iinc 3 1, 3) := by decide +kernel
theorem dX6_sureOf_54 : decode cX6_sureOf 54 = .ok (.goto (-50), 3) := by decide +kernel
theorem dX6_sureOf_57 : decode cX6_sureOf 57 = .ok (.iload_n 2, 1) := by decide +kernel
theorem dX6_sureOf_58 : decode cX6_sureOf 58 = .ok (.ireturn, 1) := by decide +kernel
theorem dX6_enoughToTell_0 : decode cX6_enoughToTell 0 = .ok (.iconst 0, 1) := by decide +kernel
theorem dX6_enoughToTell_1 : decode cX6_enoughToTell 1 = .ok (.istore 4, 2) := by decide +kernel
theorem dX6_enoughToTell_3 : decode cX6_enoughToTell 3 = .ok (.iload 4, 2) := by decide +kernel
theorem dX6_enoughToTell_5 : decode cX6_enoughToTell 5 = .ok (.bipush 16, 2) := by decide +kernel
theorem dX6_enoughToTell_7 : decode cX6_enoughToTell 7 = .ok (.if_icmp .ge 71, 3) := by decide +kernel
theorem dX6_enoughToTell_10 : decode cX6_enoughToTell 10 = .ok (.aload_n 0, 1) := by decide +kernel
theorem dX6_enoughToTell_11 : decode cX6_enoughToTell 11 = .ok (.getfield 19, 3) := by decide +kernel
theorem dX6_enoughToTell_14 : decode cX6_enoughToTell 14 = .ok (.aload_n 1, 1) := by decide +kernel
theorem dX6_enoughToTell_15 : decode cX6_enoughToTell 15 = .ok (.getfield 97, 3) := by decide +kernel
theorem dX6_enoughToTell_18 : decode cX6_enoughToTell 18 = .ok (.iload_n 2, 1) := by decide +kernel
theorem dX6_enoughToTell_19 : decode cX6_enoughToTell 19 = .ok (.aload_n 1, 1) := by decide +kernel
theorem dX6_enoughToTell_20 : decode cX6_enoughToTell 20 = .ok (.getfield 111, 3) := by decide +kernel
theorem dX6_enoughToTell_23 : decode cX6_enoughToTell 23 = .ok (.aload_n 1, 1) := by decide +kernel
theorem dX6_enoughToTell_24 : decode cX6_enoughToTell 24 = .ok (.getfield 105, 3) := by decide +kernel
theorem dX6_enoughToTell_27 : decode cX6_enoughToTell 27 = .ok (.iload 4, 2) := by decide +kernel
theorem dX6_enoughToTell_29 : decode cX6_enoughToTell 29 = .ok (.iadd, 1) := by decide +kernel
theorem dX6_enoughToTell_30 : decode cX6_enoughToTell 30 = .ok (.invokevirtual 162, 3) := by decide +kernel
theorem dX6_enoughToTell_33 : decode cX6_enoughToTell 33 = .ok (.istore 5, 2) := by decide +kernel
theorem dX6_enoughToTell_35 : decode cX6_enoughToTell 35 = .ok (.aload_n 0, 1) := by decide +kernel
theorem dX6_enoughToTell_36 : decode cX6_enoughToTell 36 = .ok (.getfield 19, 3) := by decide +kernel
theorem dX6_enoughToTell_39 : decode cX6_enoughToTell 39 = .ok (.aload_n 1, 1) := by decide +kernel
theorem dX6_enoughToTell_40 : decode cX6_enoughToTell 40 = .ok (.getfield 97, 3) := by decide +kernel
theorem dX6_enoughToTell_43 : decode cX6_enoughToTell 43 = .ok (.iload_n 3, 1) := by decide +kernel
theorem dX6_enoughToTell_44 : decode cX6_enoughToTell 44 = .ok (.aload_n 1, 1) := by decide +kernel
theorem dX6_enoughToTell_45 : decode cX6_enoughToTell 45 = .ok (.getfield 111, 3) := by decide +kernel
theorem dX6_enoughToTell_48 : decode cX6_enoughToTell 48 = .ok (.aload_n 1, 1) := by decide +kernel
theorem dX6_enoughToTell_49 : decode cX6_enoughToTell 49 = .ok (.getfield 105, 3) := by decide +kernel
theorem dX6_enoughToTell_52 : decode cX6_enoughToTell 52 = .ok (.iload 4, 2) := by decide +kernel
theorem dX6_enoughToTell_54 : decode cX6_enoughToTell 54 = .ok (.iadd, 1) := by decide +kernel
theorem dX6_enoughToTell_55 : decode cX6_enoughToTell 55 = .ok (.invokevirtual 162, 3) := by decide +kernel
theorem dX6_enoughToTell_58 : decode cX6_enoughToTell 58 = .ok (.istore 6, 2) := by decide +kernel
theorem dX6_enoughToTell_60 : decode cX6_enoughToTell 60 = .ok (.iload 5, 2) := by decide +kernel
theorem dX6_enoughToTell_62 : decode cX6_enoughToTell 62 = .ok (.iload 6, 2) := by decide +kernel
theorem dX6_enoughToTell_64 : decode cX6_enoughToTell 64 = .ok (.if_icmp .eq 8, 3) := by decide +kernel
theorem dX6_enoughToTell_67 : decode cX6_enoughToTell 67 = .ok (.iload 4, 2) := by decide +kernel
theorem dX6_enoughToTell_69 : decode cX6_enoughToTell 69 = .ok (.iconst 1, 1) := by decide +kernel
theorem dX6_enoughToTell_70 : decode cX6_enoughToTell 70 = .ok (.iadd, 1) := by decide +kernel
theorem dX6_enoughToTell_71 : decode cX6_enoughToTell 71 = .ok (.ireturn, 1) := by decide +kernel
theorem dX6_enoughToTell_72 : decode cX6_enoughToTell 72 = .ok (.iinc 4 1, 3) := by decide +kernel
theorem dX6_enoughToTell_75 : decode cX6_enoughToTell 75 = .ok (.goto (-72), 3) := by decide +kernel
theorem dX6_enoughToTell_78 : decode cX6_enoughToTell 78 = .ok (.iconst (-1), 1) := by decide +kernel
theorem dX6_enoughToTell_79 : decode cX6_enoughToTell 79 = .ok (.ireturn, 1) := by decide +kernel
theorem dX6_saysOf_0 : decode cX6_saysOf 0 = .ok (.iconst 0, 1) := by decide +kernel
theorem dX6_saysOf_1 : decode cX6_saysOf 1 = .ok (.istore_n 2, 1) := by decide +kernel
theorem dX6_saysOf_2 : decode cX6_saysOf 2 = .ok (.iconst 0, 1) := by decide +kernel
theorem dX6_saysOf_3 : decode cX6_saysOf 3 = .ok (.istore_n 3, 1) := by decide +kernel
theorem dX6_saysOf_4 : decode cX6_saysOf 4 = .ok (.iload_n 3, 1) := by decide +kernel
theorem dX6_saysOf_5 : decode cX6_saysOf 5 = .ok (.iconst 4, 1) := by decide +kernel
theorem dX6_saysOf_6 : decode cX6_saysOf 6 = .ok (.if_icmp .ge 24, 3) := by decide +kernel
theorem dX6_saysOf_9 : decode cX6_saysOf 9 = .ok (.aload_n 0, 1) := by decide +kernel
theorem dX6_saysOf_10 : decode cX6_saysOf 10 = .ok (.aload_n 1, 1) := by decide +kernel
theorem dX6_saysOf_11 : decode cX6_saysOf 11 = .ok (.iload_n 3, 1) := by decide +kernel
theorem dX6_saysOf_12 : decode cX6_saysOf 12 = .ok (.invokevirtual 176, 3) := by decide +kernel
theorem dX6_saysOf_15 : decode cX6_saysOf 15 = .ok (.ifCond .ne 9, 3) := by decide +kernel
theorem dX6_saysOf_18 : decode cX6_saysOf 18 = .ok (.iload_n 2, 1) := by decide +kernel
theorem dX6_saysOf_19 : decode cX6_saysOf 19 = .ok (.iconst 1, 1) := by decide +kernel
theorem dX6_saysOf_20 : decode cX6_saysOf 20 = .ok (.iload_n 3, 1) := by decide +kernel
theorem dX6_saysOf_21 : decode cX6_saysOf 21 = .ok (.ishl, 1) := by decide +kernel
theorem dX6_saysOf_22 : decode cX6_saysOf 22 = .ok (.ior, 1) := by decide +kernel
theorem dX6_saysOf_23 : decode cX6_saysOf 23 = .ok (.istore_n 2, 1) := by decide +kernel
theorem dX6_saysOf_24 : decode cX6_saysOf 24 = .ok (.iinc 3 1, 3) := by decide +kernel
theorem dX6_saysOf_27 : decode cX6_saysOf 27 = .ok (.goto (-23), 3) := by decide +kernel
theorem dX6_saysOf_30 : decode cX6_saysOf 30 = .ok (.iload_n 2, 1) := by decide +kernel
theorem dX6_saysOf_31 : decode cX6_saysOf 31 = .ok (.ireturn, 1) := by decide +kernel
theorem dX6_likelyOf_0 : decode cX6_likelyOf 0 = .ok (.iconst 0, 1) := by decide +kernel
theorem dX6_likelyOf_1 : decode cX6_likelyOf 1 = .ok (.istore_n 2, 1) := by decide +kernel
theorem dX6_likelyOf_2 : decode cX6_likelyOf 2 = .ok (.iconst 1, 1) := by decide +kernel
theorem dX6_likelyOf_3 : decode cX6_likelyOf 3 = .ok (.istore_n 3, 1) := by decide +kernel
theorem dX6_likelyOf_4 : decode cX6_likelyOf 4 = .ok (.iload_n 3, 1) := by decide +kernel
theorem dX6_likelyOf_5 : decode cX6_likelyOf 5 = .ok (.iconst 4, 1) := by decide +kernel
theorem dX6_likelyOf_6 : decode cX6_likelyOf 6 = .ok (.if_icmp .ge 26, 3) := by decide +kernel
theorem dX6_likelyOf_9 : decode cX6_likelyOf 9 = .ok (.aload_n 0, 1) := by decide +kernel
theorem dX6_likelyOf_10 : decode cX6_likelyOf 10 = .ok (.aload_n 1, 1) := by decide +kernel
theorem dX6_likelyOf_11 : decode cX6_likelyOf 11 = .ok (.iload_n 3, 1) := by decide +kernel
theorem dX6_likelyOf_12 : decode cX6_likelyOf 12 = .ok (.invokevirtual 176, 3) := by decide +kernel
theorem dX6_likelyOf_15 : decode cX6_likelyOf 15 = .ok (.aload_n 0, 1) := by decide +kernel
theorem dX6_likelyOf_16 : decode cX6_likelyOf 16 = .ok (.aload_n 1, 1) := by decide +kernel
theorem dX6_likelyOf_17 : decode cX6_likelyOf 17 = .ok (.iload_n 2, 1) := by decide +kernel
theorem dX6_likelyOf_18 : decode cX6_likelyOf 18 = .ok (.invokevirtual 176, 3) := by decide +kernel
theorem dX6_likelyOf_21 : decode cX6_likelyOf 21 = .ok (.if_icmp .ge 5, 3) := by decide +kernel
theorem dX6_likelyOf_24 : decode cX6_likelyOf 24 = .ok (.iload_n 3, 1) := by decide +kernel
theorem dX6_likelyOf_25 : decode cX6_likelyOf 25 = .ok (.istore_n 2, 1) := by decide +kernel
theorem dX6_likelyOf_26 : decode cX6_likelyOf 26 = .ok (.iinc 3 1, 3) := by decide +kernel
theorem dX6_likelyOf_29 : decode cX6_likelyOf 29 = .ok (.goto (-25), 3) := by decide +kernel
theorem dX6_likelyOf_32 : decode cX6_likelyOf 32 = .ok (.iload_n 2, 1) := by decide +kernel
theorem dX6_likelyOf_33 : decode cX6_likelyOf 33 = .ok (.ireturn, 1) := by decide +kernel
theorem dX6_slipsOf_0 : decode cX6_slipsOf 0 = .ok (.iconst 0, 1) := by decide +kernel
theorem dX6_slipsOf_1 : decode cX6_slipsOf 1 = .ok (.istore_n 3, 1) := by decide +kernel
theorem dX6_slipsOf_2 : decode cX6_slipsOf 2 = .ok (.iconst 0, 1) := by decide +kernel
theorem dX6_slipsOf_3 : decode cX6_slipsOf 3 = .ok (.istore 4, 2) := by decide +kernel
theorem dX6_slipsOf_5 : decode cX6_slipsOf 5 = .ok (.iload 4, 2) := by decide +kernel
theorem dX6_slipsOf_7 : decode cX6_slipsOf 7 = .ok (.aload_n 0, 1) := by decide +kernel
theorem dX6_slipsOf_8 : decode cX6_slipsOf 8 = .ok (.getfield 26, 3) := by decide +kernel
theorem dX6_slipsOf_11 : decode cX6_slipsOf 11 = .ok (.getfield 121, 3) := by decide +kernel
theorem dX6_slipsOf_14 : decode cX6_slipsOf 14 = .ok (.if_icmp .ge 73, 3) := by decide +kernel
theorem dX6_slipsOf_17 : decode cX6_slipsOf 17 = .ok (.aload_n 0, 1) := by decide +kernel
theorem dX6_slipsOf_18 : decode cX6_slipsOf 18 = .ok (.getfield 26, 3) := by decide +kernel
theorem dX6_slipsOf_21 : decode cX6_slipsOf 21 = .ok (.iload 4, 2) := by decide +kernel
theorem dX6_slipsOf_23 : decode cX6_slipsOf 23 = .ok (.invokevirtual 190, 3) := by decide +kernel
theorem dX6_slipsOf_26 : decode cX6_slipsOf 26 = .ok (.astore 5, 2) := by decide +kernel
theorem dX6_slipsOf_28 : decode cX6_slipsOf 28 = .ok (.aload 5, 2) := by decide +kernel
theorem dX6_slipsOf_30 : decode cX6_slipsOf 30 = .ok (.ifnull 51, 3) := by decide +kernel
theorem dX6_slipsOf_33 : decode cX6_slipsOf 33 = .ok (.aload 5, 2) := by decide +kernel
theorem dX6_slipsOf_35 : decode cX6_slipsOf 35 = .ok (.getfield 194, 3) := by decide +kernel
theorem dX6_slipsOf_38 : decode cX6_slipsOf 38 = .ok (.aload_n 1, 1) := by decide +kernel
theorem dX6_slipsOf_39 : decode cX6_slipsOf 39 = .ok (.getfield 199, 3) := by decide +kernel
theorem dX6_slipsOf_42 : decode cX6_slipsOf 42 = .ok (.if_icmp .eq 6, 3) := by decide +kernel
theorem dX6_slipsOf_45 : decode cX6_slipsOf 45 = .ok (.goto 36, 3) := by decide +kernel
theorem dX6_slipsOf_48 : decode cX6_slipsOf 48 = .ok (.aload_n 0, 1) := by decide +kernel
theorem dX6_slipsOf_49 : decode cX6_slipsOf 49 = .ok (.getfield 19, 3) := by decide +kernel
theorem dX6_slipsOf_52 : decode cX6_slipsOf 52 = .ok (.aload_n 1, 1) := by decide +kernel
theorem dX6_slipsOf_53 : decode cX6_slipsOf 53 = .ok (.getfield 97, 3) := by decide +kernel
theorem dX6_slipsOf_56 : decode cX6_slipsOf 56 = .ok (.iload_n 2, 1) := by decide +kernel
theorem dX6_slipsOf_57 : decode cX6_slipsOf 57 = .ok (.aload 5, 2) := by decide +kernel
theorem dX6_slipsOf_59 : decode cX6_slipsOf 59 = .ok (.getfield 202, 3) := by decide +kernel
theorem dX6_slipsOf_62 : decode cX6_slipsOf 62 = .ok (.aload 5, 2) := by decide +kernel
theorem dX6_slipsOf_64 : decode cX6_slipsOf 64 = .ok (.getfield 203, 3) := by decide +kernel
theorem dX6_slipsOf_67 : decode cX6_slipsOf 67 = .ok (.invokevirtual 162, 3) := by decide +kernel
theorem dX6_slipsOf_70 : decode cX6_slipsOf 70 = .ok (.aload 5, 2) := by decide +kernel
theorem dX6_slipsOf_72 : decode cX6_slipsOf 72 = .ok (.getfield 206, 3) := by decide +kernel
theorem dX6_slipsOf_75 : decode cX6_slipsOf 75 = .ok (.if_icmp .eq 6, 3) := by decide +kernel
theorem dX6_slipsOf_78 : decode cX6_slipsOf 78 = .ok (.iinc 3 1, 3) := by decide +kernel
theorem dX6_slipsOf_81 : decode cX6_slipsOf 81 = .ok (.iinc 4 1, 3) := by decide +kernel
theorem dX6_slipsOf_84 : decode cX6_slipsOf 84 = .ok (.goto (-79), 3) := by decide +kernel
theorem dX6_slipsOf_87 : decode cX6_slipsOf 87 = .ok (.iload_n 3, 1) := by decide +kernel
theorem dX6_slipsOf_88 : decode cX6_slipsOf 88 = .ok (.ireturn, 1) := by decide +kernel
theorem dX6_bestToHear_0 : decode cX6_bestToHear 0 = .ok (.iload_n 2, 1) := by decide +kernel
theorem dX6_bestToHear_1 : decode cX6_bestToHear 1 = .ok (.ifCond .ne 5, 3) := by decide +kernel
theorem dX6_bestToHear_4 : decode cX6_bestToHear 4 = .ok (.iconst (-1), 1) := by decide +kernel
theorem dX6_bestToHear_5 : decode cX6_bestToHear 5 = .ok (.ireturn, 1) := by decide +kernel
theorem dX6_bestToHear_6 : decode cX6_bestToHear 6 = .ok (.iconst 0, 1) := by decide +kernel
theorem dX6_bestToHear_7 : decode cX6_bestToHear 7 = .ok (.istore_n 3, 1) := by decide +kernel
theorem dX6_bestToHear_8 : decode cX6_bestToHear 8 = .ok (.iconst 1, 1) := by decide +kernel
theorem dX6_bestToHear_9 : decode cX6_bestToHear 9 = .ok (.istore 4, 2) := by decide +kernel
theorem dX6_bestToHear_11 : decode cX6_bestToHear 11 = .ok (.iload 4, 2) := by decide +kernel
theorem dX6_bestToHear_13 : decode cX6_bestToHear 13 = .ok (.bipush 8, 2) := by decide +kernel
theorem dX6_bestToHear_15 : decode cX6_bestToHear 15 = .ok (.if_icmp .ge 30, 3) := by decide +kernel
theorem dX6_bestToHear_18 : decode cX6_bestToHear 18 = .ok (.aload_n 0, 1) := by decide +kernel
theorem dX6_bestToHear_19 : decode cX6_bestToHear 19 = .ok (.aload_n 1, 1) := by decide +kernel
theorem dX6_bestToHear_20 : decode cX6_bestToHear 20 = .ok (.iload_n 2, 1) := by decide +kernel
theorem dX6_bestToHear_21 : decode cX6_bestToHear 21 = .ok (.iload 4, 2) := by decide +kernel
theorem dX6_bestToHear_23 : decode cX6_bestToHear 23 = .ok (.invokevirtual 209, 3) := by decide +kernel
theorem dX6_bestToHear_26 : decode cX6_bestToHear 26 = .ok (.aload_n 0, 1) := by decide +kernel
theorem dX6_bestToHear_27 : decode cX6_bestToHear 27 = .ok (.aload_n 1, 1) := by decide +kernel
theorem dX6_bestToHear_28 : decode cX6_bestToHear 28 = .ok (.iload_n 2, 1) := by decide +kernel
theorem dX6_bestToHear_29 : decode cX6_bestToHear 29 = .ok (.iload_n 3, 1) := by decide +kernel
theorem dX6_bestToHear_30 : decode cX6_bestToHear 30 = .ok (.invokevirtual 209, 3) := by decide +kernel
theorem dX6_bestToHear_33 : decode cX6_bestToHear 33 = .ok (.if_icmp .ge 6, 3) := by decide +kernel
theorem dX6_bestToHear_36 : decode cX6_bestToHear 36 = .ok (.iload 4, 2) := by decide +kernel
theorem dX6_bestToHear_38 : decode cX6_bestToHear 38 = .ok (.istore_n 3, 1) := by decide +kernel
theorem dX6_bestToHear_39 : decode cX6_bestToHear 39 = .ok (.iinc 4 1, 3) := by decide +kernel
theorem dX6_bestToHear_42 : decode cX6_bestToHear 42 = .ok (.goto (-31), 3) := by decide +kernel
theorem dX6_bestToHear_45 : decode cX6_bestToHear 45 = .ok (.iload_n 3, 1) := by decide +kernel
theorem dX6_bestToHear_46 : decode cX6_bestToHear 46 = .ok (.ireturn, 1) := by decide +kernel
theorem dX6_leftAtWorst_0 : decode cX6_leftAtWorst 0 = .ok (.iconst 0, 1) := by decide +kernel
theorem dX6_leftAtWorst_1 : decode cX6_leftAtWorst 1 = .ok (.istore 4, 2) := by decide +kernel
theorem dX6_leftAtWorst_3 : decode cX6_leftAtWorst 3 = .ok (.iconst 0, 1) := by decide +kernel
theorem dX6_leftAtWorst_4 : decode cX6_leftAtWorst 4 = .ok (.istore 5, 2) := by decide +kernel
theorem dX6_leftAtWorst_6 : decode cX6_leftAtWorst 6 = .ok (.iconst 0, 1) := by decide +kernel
theorem dX6_leftAtWorst_7 : decode cX6_leftAtWorst 7 = .ok (.istore 6, 2) := by decide +kernel
theorem dX6_leftAtWorst_9 : decode cX6_leftAtWorst 9 = .ok (.iload 6, 2) := by decide +kernel
theorem dX6_leftAtWorst_11 : decode cX6_leftAtWorst 11 = .ok (.iconst 4, 1) := by decide +kernel
theorem dX6_leftAtWorst_12 : decode cX6_leftAtWorst 12 = .ok (.if_icmp .ge 57, 3) := by decide +kernel
theorem dX6_leftAtWorst_15 : decode cX6_leftAtWorst 15 = .ok (.iload_n 2, 1) := by decide +kernel
theorem dX6_leftAtWorst_16 : decode cX6_leftAtWorst 16 = .ok (.iload 6, 2) := by decide +kernel
theorem dX6_leftAtWorst_18 : decode cX6_leftAtWorst 18 = .ok (.ishr, 1) := by decide +kernel
theorem dX6_leftAtWorst_19 : decode cX6_leftAtWorst 19 = .ok (.iconst 1, 1) := by decide +kernel
theorem dX6_leftAtWorst_20 : decode cX6_leftAtWorst 20 = .ok (.iand, 1) := by decide +kernel
theorem dX6_leftAtWorst_21 : decode cX6_leftAtWorst 21 = .ok (.ifCond .ne 6, 3) := by decide +kernel
theorem dX6_leftAtWorst_24 : decode cX6_leftAtWorst 24 = .ok (.goto 39, 3) := by decide +kernel
theorem dX6_leftAtWorst_27 : decode cX6_leftAtWorst 27 = .ok (.aload_n 0, 1) := by decide +kernel
theorem dX6_leftAtWorst_28 : decode cX6_leftAtWorst 28 = .ok (.getfield 19, 3) := by decide +kernel
theorem dX6_leftAtWorst_31 : decode cX6_leftAtWorst 31 = .ok (.aload_n 1, 1) := by decide +kernel
theorem dX6_leftAtWorst_32 : decode cX6_leftAtWorst 32 = .ok (.getfield 97, 3) := by decide +kernel
theorem dX6_leftAtWorst_35 : decode cX6_leftAtWorst 35 = .ok (.iload 6, 2) := by decide +kernel
theorem dX6_leftAtWorst_37 : decode cX6_leftAtWorst 37 = .ok (.aload_n 1, 1) := by decide +kernel
theorem dX6_leftAtWorst_38 : decode cX6_leftAtWorst 38 = .ok (.getfield 111, 3) := by decide +kernel
theorem dX6_leftAtWorst_41 : decode cX6_leftAtWorst 41 = .ok (.aload_n 1, 1) := by decide +kernel
theorem dX6_leftAtWorst_42 : decode cX6_leftAtWorst 42 = .ok (.getfield 105, 3) := by decide +kernel
theorem dX6_leftAtWorst_45 : decode cX6_leftAtWorst 45 = .ok (.iload_n 3, 1) := by decide +kernel
theorem dX6_leftAtWorst_46 : decode cX6_leftAtWorst 46 = .ok (.iadd, 1) := by decide +kernel
theorem dX6_leftAtWorst_47 : decode cX6_leftAtWorst 47 = .ok (.invokevirtual 162, 3) := by decide +kernel
theorem dX6_leftAtWorst_50 : decode cX6_leftAtWorst 50 = .ok (.iconst 1, 1) := by decide +kernel
theorem dX6_leftAtWorst_51 : decode cX6_leftAtWorst 51 = .ok (.if_icmp .ne 9, 3) := by decide +kernel
theorem dX6_leftAtWorst_54 : decode cX6_leftAtWorst 54 = .ok (.iinc 5 1, 3) := by decide +kernel
theorem dX6_leftAtWorst_57 : decode cX6_leftAtWorst 57 = .ok (.goto 6, 3) := by decide +kernel
theorem dX6_leftAtWorst_60 : decode cX6_leftAtWorst 60 = .ok (.iinc 4 1, 3) := by decide +kernel
theorem dX6_leftAtWorst_63 : decode cX6_leftAtWorst 63 = .ok (.iinc 6 1, 3) := by decide +kernel
theorem dX6_leftAtWorst_66 : decode cX6_leftAtWorst 66 = .ok (.goto (-57), 3) := by decide +kernel
theorem dX6_leftAtWorst_69 : decode cX6_leftAtWorst 69 = .ok (.iload 4, 2) := by decide +kernel
theorem dX6_leftAtWorst_71 : decode cX6_leftAtWorst 71 = .ok (.iload 5, 2) := by decide +kernel
theorem dX6_leftAtWorst_73 : decode cX6_leftAtWorst 73 = .ok (.invokestatic 185, 3) := by decide +kernel
theorem dX6_leftAtWorst_76 : decode cX6_leftAtWorst 76 = .ok (.ireturn, 1) := by decide +kernel
theorem dX6_nearOf_0 : decode cX6_nearOf 0 = .ok (.aload_n 0, 1) := by decide +kernel
theorem dX6_nearOf_1 : decode cX6_nearOf 1 = .ok (.aload_n 1, 1) := by decide +kernel
theorem dX6_nearOf_2 : decode cX6_nearOf 2 = .ok (.iconst 0, 1) := by decide +kernel
theorem dX6_nearOf_3 : decode cX6_nearOf 3 = .ok (.iload_n 2, 1) := by decide +kernel
theorem dX6_nearOf_4 : decode cX6_nearOf 4 = .ok (.invokevirtual 212, 3) := by decide +kernel
theorem dX6_nearOf_7 : decode cX6_nearOf 7 = .ok (.istore 4, 2) := by decide +kernel
theorem dX6_nearOf_9 : decode cX6_nearOf 9 = .ok (.aload_n 0, 1) := by decide +kernel
theorem dX6_nearOf_10 : decode cX6_nearOf 10 = .ok (.aload_n 1, 1) := by decide +kernel
theorem dX6_nearOf_11 : decode cX6_nearOf 11 = .ok (.iconst 1, 1) := by decide +kernel
theorem dX6_nearOf_12 : decode cX6_nearOf 12 = .ok (.iload_n 2, 1) := by decide +kernel
theorem dX6_nearOf_13 : decode cX6_nearOf 13 = .ok (.invokevirtual 212, 3) := by decide +kernel
theorem dX6_nearOf_16 : decode cX6_nearOf 16 = .ok (.istore 5, 2) := by decide +kernel
theorem dX6_nearOf_18 : decode cX6_nearOf 18 = .ok (.iload_n 3, 1) := by decide +kernel
theorem dX6_nearOf_19 : decode cX6_nearOf 19 = .ok (.ifCond .ne 16, 3) := by decide +kernel
theorem dX6_nearOf_22 : decode cX6_nearOf 22 = .ok (.iload 5, 2) := by decide +kernel
theorem dX6_nearOf_24 : decode cX6_nearOf 24 = .ok (.iload 4, 2) := by decide +kernel
theorem dX6_nearOf_26 : decode cX6_nearOf 26 = .ok (.if_icmp .ge 7, 3) := by decide +kernel
theorem dX6_nearOf_29 : decode cX6_nearOf 29 = .ok (.iconst 1, 1) := by decide +kernel
theorem dX6_nearOf_30 : decode cX6_nearOf 30 = .ok (.goto 4, 3) := by decide +kernel
theorem dX6_nearOf_33 : decode cX6_nearOf 33 = .ok (.iconst 0, 1) := by decide +kernel
theorem dX6_nearOf_34 : decode cX6_nearOf 34 = .ok (.ireturn, 1) := by decide +kernel
theorem dX6_nearOf_35 : decode cX6_nearOf 35 = .ok (.iload 5, 2) := by decide +kernel
theorem dX6_nearOf_37 : decode cX6_nearOf 37 = .ok (.iload 4, 2) := by decide +kernel
theorem dX6_nearOf_39 : decode cX6_nearOf 39 = .ok (.invokestatic 215, 3) := by decide +kernel
theorem dX6_nearOf_42 : decode cX6_nearOf 42 = .ok (.ireturn, 1) := by decide +kernel
theorem dX6_unlikeOf_0 : decode cX6_unlikeOf 0 = .ok (.iconst 0, 1) := by decide +kernel
theorem dX6_unlikeOf_1 : decode cX6_unlikeOf 1 = .ok (.istore 4, 2) := by decide +kernel
theorem dX6_unlikeOf_3 : decode cX6_unlikeOf 3 = .ok (.iconst 0, 1) := by decide +kernel
theorem dX6_unlikeOf_4 : decode cX6_unlikeOf 4 = .ok (.istore 5, 2) := by decide +kernel
theorem dX6_unlikeOf_6 : decode cX6_unlikeOf 6 = .ok (.iload 5, 2) := by decide +kernel
theorem dX6_unlikeOf_8 : decode cX6_unlikeOf 8 = .ok (.bipush 12, 2) := by decide +kernel
theorem dX6_unlikeOf_10 : decode cX6_unlikeOf 10 = .ok (.if_icmp .ge 49, 3) := by decide +kernel
theorem dX6_unlikeOf_13 : decode cX6_unlikeOf 13 = .ok (.aload_n 0, 1) := by decide +kernel
theorem dX6_unlikeOf_14 : decode cX6_unlikeOf 14 = .ok (.getfield 19, 3) := by decide +kernel
theorem dX6_unlikeOf_17 : decode cX6_unlikeOf 17 = .ok (.aload_n 1, 1) := by decide +kernel
theorem dX6_unlikeOf_18 : decode cX6_unlikeOf 18 = .ok (.getfield 97, 3) := by decide +kernel
theorem dX6_unlikeOf_21 : decode cX6_unlikeOf 21 = .ok (.aload_n 1, 1) := by decide +kernel
theorem dX6_unlikeOf_22 : decode cX6_unlikeOf 22 = .ok (.getfield 114, 3) := by decide +kernel
theorem dX6_unlikeOf_25 : decode cX6_unlikeOf 25 = .ok (.iload_n 2, 1) := by decide +kernel
theorem dX6_unlikeOf_26 : decode cX6_unlikeOf 26 = .ok (.iload 5, 2) := by decide +kernel
theorem dX6_unlikeOf_28 : decode cX6_unlikeOf 28 = .ok (.invokevirtual 162, 3) := by decide +kernel
theorem dX6_unlikeOf_31 : decode cX6_unlikeOf 31 = .ok (.istore 6, 2) := by decide +kernel
theorem dX6_unlikeOf_33 : decode cX6_unlikeOf 33 = .ok (.iload 6, 2) := by decide +kernel
theorem dX6_unlikeOf_35 : decode cX6_unlikeOf 35 = .ok (.aload_n 0, 1) := by decide +kernel
theorem dX6_unlikeOf_36 : decode cX6_unlikeOf 36 = .ok (.getfield 19, 3) := by decide +kernel
theorem dX6_unlikeOf_39 : decode cX6_unlikeOf 39 = .ok (.iconst 0, 1) := by decide +kernel
theorem dX6_unlikeOf_40 : decode cX6_unlikeOf 40 = .ok (.iload_n 3, 1) := by decide +kernel
theorem dX6_unlikeOf_41 : decode cX6_unlikeOf 41 = .ok (.iconst 0, 1) := by decide +kernel
theorem dX6_unlikeOf_42 : decode cX6_unlikeOf 42 = .ok (.iload 5, 2) := by decide +kernel
theorem dX6_unlikeOf_44 : decode cX6_unlikeOf 44 = .ok (.invokevirtual 162, 3) := by decide +kernel
theorem dX6_unlikeOf_47 : decode cX6_unlikeOf 47 = .ok (.if_icmp .eq 6, 3) := by decide +kernel
theorem dX6_unlikeOf_50 : decode cX6_unlikeOf 50 = .ok (.iinc 4 1, 3) := by decide +kernel
theorem dX6_unlikeOf_53 : decode cX6_unlikeOf 53 = .ok (.iinc 5 1, 3) := by decide +kernel
theorem dX6_unlikeOf_56 : decode cX6_unlikeOf 56 = .ok (.goto (-50), 3) := by decide +kernel
theorem dX6_unlikeOf_59 : decode cX6_unlikeOf 59 = .ok (.iload 4, 2) := by decide +kernel
theorem dX6_unlikeOf_61 : decode cX6_unlikeOf 61 = .ok (.ireturn, 1) := by decide +kernel
theorem dX6_nextSeed_0 : decode cX6_nextSeed 0 = .ok (.ldc2_w 218, 3) := by decide +kernel
theorem dX6_nextSeed_3 : decode cX6_nextSeed 3 = .ok (.iload_n 0, 1) := by decide +kernel
theorem dX6_nextSeed_4 : decode cX6_nextSeed 4 = .ok (.i2l, 1) := by decide +kernel
theorem dX6_nextSeed_5 : decode cX6_nextSeed 5 = .ok (.lmul, 1) := by decide +kernel
theorem dX6_nextSeed_6 : decode cX6_nextSeed 6 = .ok (.ldc2_w 220, 3) := by decide +kernel
theorem dX6_nextSeed_9 : decode cX6_nextSeed 9 = .ok (.ladd, 1) := by decide +kernel
theorem dX6_nextSeed_10 : decode cX6_nextSeed 10 = .ok (.ldc2_w 222, 3) := by decide +kernel
theorem dX6_nextSeed_13 : decode cX6_nextSeed 13 = .ok (.lrem, 1) := by decide +kernel
theorem dX6_nextSeed_14 : decode cX6_nextSeed 14 = .ok (.l2i, 1) := by decide +kernel
theorem dX6_nextSeed_15 : decode cX6_nextSeed 15 = .ok (.ireturn, 1) := by decide +kernel
theorem dX6_drawOf_0 : decode cX6_drawOf 0 = .ok (.iload_n 0, 1) := by decide +kernel
theorem dX6_drawOf_1 : decode cX6_drawOf 1 = .ok (.ldc 224, 2) := by decide +kernel
theorem dX6_drawOf_3 : decode cX6_drawOf 3 = .ok (.idiv, 1) := by decide +kernel
theorem dX6_drawOf_4 : decode cX6_drawOf 4 = .ok (.bipush 8, 2) := by decide +kernel
theorem dX6_drawOf_6 : decode cX6_drawOf 6 = .ok (.irem, 1) := by decide +kernel
theorem dX6_drawOf_7 : decode cX6_drawOf 7 = .ok (.ireturn, 1) := by decide +kernel
theorem dX6_countOf_0 : decode cX6_countOf 0 = .ok (.iload_n 1, 1) := by decide +kernel
theorem dX6_countOf_1 : decode cX6_countOf 1 = .ok (.tableswitch 99 0 6 #[43, 51, 59, 67, 75, 83, 91], 43) := by decide +kernel
theorem dX6_countOf_44 : decode cX6_countOf 44 = .ok (.aload_n 0, 1) := by decide +kernel
theorem dX6_countOf_45 : decode cX6_countOf 45 = .ok (.getfield 26, 3) := by decide +kernel
theorem dX6_countOf_48 : decode cX6_countOf 48 = .ok (.getfield 67, 3) := by decide +kernel
theorem dX6_countOf_51 : decode cX6_countOf 51 = .ok (.ireturn, 1) := by decide +kernel
theorem dX6_countOf_52 : decode cX6_countOf 52 = .ok (.aload_n 0, 1) := by decide +kernel
theorem dX6_countOf_53 : decode cX6_countOf 53 = .ok (.getfield 19, 3) := by decide +kernel
theorem dX6_countOf_56 : decode cX6_countOf 56 = .ok (.invokevirtual 225, 3) := by decide +kernel
theorem dX6_countOf_59 : decode cX6_countOf 59 = .ok (.ireturn, 1) := by decide +kernel
theorem dX6_countOf_60 : decode cX6_countOf 60 = .ok (.aload_n 0, 1) := by decide +kernel
theorem dX6_countOf_61 : decode cX6_countOf 61 = .ok (.getfield 26, 3) := by decide +kernel
theorem dX6_countOf_64 : decode cX6_countOf 64 = .ok (.invokevirtual 228, 3) := by decide +kernel
theorem dX6_countOf_67 : decode cX6_countOf 67 = .ok (.ireturn, 1) := by decide +kernel
theorem dX6_countOf_68 : decode cX6_countOf 68 = .ok (.aload_n 0, 1) := by decide +kernel
theorem dX6_countOf_69 : decode cX6_countOf 69 = .ok (.getfield 26, 3) := by decide +kernel
theorem dX6_countOf_72 : decode cX6_countOf 72 = .ok (.invokevirtual 231, 3) := by decide +kernel
theorem dX6_countOf_75 : decode cX6_countOf 75 = .ok (.ireturn, 1) := by decide +kernel
theorem dX6_countOf_76 : decode cX6_countOf 76 = .ok (.aload_n 0, 1) := by decide +kernel
theorem dX6_countOf_77 : decode cX6_countOf 77 = .ok (.getfield 26, 3) := by decide +kernel
theorem dX6_countOf_80 : decode cX6_countOf 80 = .ok (.getfield 108, 3) := by decide +kernel
theorem dX6_countOf_83 : decode cX6_countOf 83 = .ok (.ireturn, 1) := by decide +kernel
theorem dX6_countOf_84 : decode cX6_countOf 84 = .ok (.aload_n 0, 1) := by decide +kernel
theorem dX6_countOf_85 : decode cX6_countOf 85 = .ok (.getfield 26, 3) := by decide +kernel
theorem dX6_countOf_88 : decode cX6_countOf 88 = .ok (.getfield 121, 3) := by decide +kernel
theorem dX6_countOf_91 : decode cX6_countOf 91 = .ok (.ireturn, 1) := by decide +kernel
theorem dX6_countOf_92 : decode cX6_countOf 92 = .ok (.aload_n 0, 1) := by decide +kernel
theorem dX6_countOf_93 : decode cX6_countOf 93 = .ok (.getfield 10, 3) := by decide +kernel
theorem dX6_countOf_96 : decode cX6_countOf 96 = .ok (.getfield 33, 3) := by decide +kernel
theorem dX6_countOf_99 : decode cX6_countOf 99 = .ok (.ireturn, 1) := by decide +kernel
theorem dX6_countOf_100 : decode cX6_countOf 100 = .ok (.aload_n 0, 1) := by decide +kernel
theorem dX6_countOf_101 : decode cX6_countOf 101 = .ok (.getfield 64, 3) := by decide +kernel
theorem dX6_countOf_104 : decode cX6_countOf 104 = .ok (.ireturn, 1) := by decide +kernel
theorem dX6_digestSayings_0 : decode cX6_digestSayings 0 = .ok (.lload_n 1, 1) := by decide +kernel
theorem dX6_digestSayings_1 : decode cX6_digestSayings 1 = .ok (.lstore_n 3, 1) := by decide +kernel
theorem dX6_digestSayings_2 : decode cX6_digestSayings 2 = .ok (.iconst 0, 1) := by decide +kernel
theorem dX6_digestSayings_3 : decode cX6_digestSayings 3 = .ok (.istore 5, 2) := by decide +kernel
theorem dX6_digestSayings_5 : decode cX6_digestSayings 5 = .ok (.iload 5, 2) := by decide +kernel
theorem dX6_digestSayings_7 : decode cX6_digestSayings 7 = .ok (.iconst 4, 1) := by decide +kernel
theorem dX6_digestSayings_8 : decode cX6_digestSayings 8 = .ok (.if_icmp .ge 60, 3) := by decide +kernel
theorem dX6_digestSayings_11 : decode cX6_digestSayings 11 = .ok (.ldc2_w 151, 3) := by decide +kernel
theorem dX6_digestSayings_14 : decode cX6_digestSayings 14 = .ok (.lload_n 3, 1) := by decide +kernel
theorem dX6_digestSayings_15 : decode cX6_digestSayings 15 = .ok (.lmul, 1) := by decide +kernel
theorem dX6_digestSayings_16 : decode cX6_digestSayings 16 = .ok (.aload_n 0, 1) := by decide +kernel
theorem dX6_digestSayings_17 : decode cX6_digestSayings 17 = .ok (.getfield 19, 3) := by decide +kernel
theorem dX6_digestSayings_20 : decode cX6_digestSayings 20 = .ok (.iload 5, 2) := by decide +kernel
theorem dX6_digestSayings_22 : decode cX6_digestSayings 22 = .ok (.invokevirtual 74, 3) := by decide +kernel
theorem dX6_digestSayings_25 : decode cX6_digestSayings 25 = .ok (.i2l, 1) := by decide +kernel
theorem dX6_digestSayings_26 : decode cX6_digestSayings 26 = .ok (.ladd, 1) := by decide +kernel
theorem dX6_digestSayings_27 : decode cX6_digestSayings 27 = .ok (.lstore_n 3, 1) := by decide +kernel
theorem dX6_digestSayings_28 : decode cX6_digestSayings 28 = .ok (.iconst 0, 1) := by decide +kernel
theorem dX6_digestSayings_29 : decode cX6_digestSayings 29 = .ok (.istore 6, 2) := by decide +kernel
theorem dX6_digestSayings_31 : decode cX6_digestSayings 31 = .ok (.iload 6, 2) := by decide +kernel
theorem dX6_digestSayings_33 : decode cX6_digestSayings 33 = .ok (.iconst 4, 1) := by decide +kernel
theorem dX6_digestSayings_34 : decode cX6_digestSayings 34 = .ok (.if_icmp .ge 28, 3) := by decide +kernel
theorem dX6_digestSayings_37 : decode cX6_digestSayings 37 = .ok (.ldc2_w 151, 3) := by decide +kernel
theorem dX6_digestSayings_40 : decode cX6_digestSayings 40 = .ok (.lload_n 3, 1) := by decide +kernel
theorem dX6_digestSayings_41 : decode cX6_digestSayings 41 = .ok (.lmul, 1) := by decide +kernel
theorem dX6_digestSayings_42 : decode cX6_digestSayings 42 = .ok (.aload_n 0, 1) := by decide +kernel
theorem dX6_digestSayings_43 : decode cX6_digestSayings 43 = .ok (.getfield 19, 3) := by decide +kernel
theorem dX6_digestSayings_46 : decode cX6_digestSayings 46 = .ok (.iload 5, 2) := by decide +kernel
theorem dX6_digestSayings_48 : decode cX6_digestSayings 48 = .ok (.iload 6, 2) := by decide +kernel
theorem dX6_digestSayings_50 : decode cX6_digestSayings 50 = .ok (.invokevirtual 78, 3) := by decide +kernel
theorem dX6_digestSayings_53 : decode cX6_digestSayings 53 = .ok (.i2l, 1) := by decide +kernel
theorem dX6_digestSayings_54 : decode cX6_digestSayings 54 = .ok (.ladd, 1) := by decide +kernel
theorem dX6_digestSayings_55 : decode cX6_digestSayings 55 = .ok (.lstore_n 3, 1) := by decide +kernel
theorem dX6_digestSayings_56 : decode cX6_digestSayings 56 = .ok (.iinc 6 1, 3) := by decide +kernel
theorem dX6_digestSayings_59 : decode cX6_digestSayings 59 = .ok (.goto (-28), 3) := by decide +kernel
theorem dX6_digestSayings_62 : decode cX6_digestSayings 62 = .ok (.iinc 5 1, 3) := by decide +kernel
theorem dX6_digestSayings_65 : decode cX6_digestSayings 65 = .ok (.goto (-60), 3) := by decide +kernel
theorem dX6_digestSayings_68 : decode cX6_digestSayings 68 = .ok (.lload_n 3, 1) := by decide +kernel
theorem dX6_digestSayings_69 : decode cX6_digestSayings 69 = .ok (.lreturn, 1) := by decide +kernel
theorem dX6_digestTap_0 : decode cX6_digestTap 0 = .ok (.lload_n 1, 1) := by decide +kernel
theorem dX6_digestTap_1 : decode cX6_digestTap 1 = .ok (.lstore 4, 2) := by decide +kernel
theorem dX6_digestTap_3 : decode cX6_digestTap 3 = .ok (.iconst 0, 1) := by decide +kernel
theorem dX6_digestTap_4 : decode cX6_digestTap 4 = .ok (.istore 6, 2) := by decide +kernel
theorem dX6_digestTap_6 : decode cX6_digestTap 6 = .ok (.iload 6, 2) := by decide +kernel
theorem dX6_digestTap_8 : decode cX6_digestTap 8 = .ok (.bipush 8, 2) := by decide +kernel
theorem dX6_digestTap_10 : decode cX6_digestTap 10 = .ok (.if_icmp .gt 26, 3) := by decide +kernel
theorem dX6_digestTap_13 : decode cX6_digestTap 13 = .ok (.ldc2_w 151, 3) := by decide +kernel
theorem dX6_digestTap_16 : decode cX6_digestTap 16 = .ok (.lload 4, 2) := by decide +kernel
theorem dX6_digestTap_18 : decode cX6_digestTap 18 = .ok (.lmul, 1) := by decide +kernel
theorem dX6_digestTap_19 : decode cX6_digestTap 19 = .ok (.aload_n 0, 1) := by decide +kernel
theorem dX6_digestTap_20 : decode cX6_digestTap 20 = .ok (.aload_n 3, 1) := by decide +kernel
theorem dX6_digestTap_21 : decode cX6_digestTap 21 = .ok (.iload 6, 2) := by decide +kernel
theorem dX6_digestTap_23 : decode cX6_digestTap 23 = .ok (.invokevirtual 93, 3) := by decide +kernel
theorem dX6_digestTap_26 : decode cX6_digestTap 26 = .ok (.i2l, 1) := by decide +kernel
theorem dX6_digestTap_27 : decode cX6_digestTap 27 = .ok (.ladd, 1) := by decide +kernel
theorem dX6_digestTap_28 : decode cX6_digestTap 28 = .ok (.lstore 4, 2) := by decide +kernel
theorem dX6_digestTap_30 : decode cX6_digestTap 30 = .ok (.iinc 6 1, 3) := by decide +kernel
theorem dX6_digestTap_33 : decode cX6_digestTap 33 = .ok (.goto (-27), 3) := by decide +kernel
theorem dX6_digestTap_36 : decode cX6_digestTap 36 = .ok (.iconst 0, 1) := by decide +kernel
theorem dX6_digestTap_37 : decode cX6_digestTap 37 = .ok (.istore 6, 2) := by decide +kernel
theorem dX6_digestTap_39 : decode cX6_digestTap 39 = .ok (.iload 6, 2) := by decide +kernel
theorem dX6_digestTap_41 : decode cX6_digestTap 41 = .ok (.bipush 8, 2) := by decide +kernel
theorem dX6_digestTap_43 : decode cX6_digestTap 43 = .ok (.if_icmp .ge 26, 3) := by decide +kernel
theorem dX6_digestTap_46 : decode cX6_digestTap 46 = .ok (.ldc2_w 151, 3) := by decide +kernel
theorem dX6_digestTap_49 : decode cX6_digestTap 49 = .ok (.lload 4, 2) := by decide +kernel
theorem dX6_digestTap_51 : decode cX6_digestTap 51 = .ok (.lmul, 1) := by decide +kernel
theorem dX6_digestTap_52 : decode cX6_digestTap 52 = .ok (.aload_n 0, 1) := by decide +kernel
theorem dX6_digestTap_53 : decode cX6_digestTap 53 = .ok (.aload_n 3, 1) := by decide +kernel
theorem dX6_digestTap_54 : decode cX6_digestTap 54 = .ok (.iload 6, 2) := by decide +kernel
theorem dX6_digestTap_56 : decode cX6_digestTap 56 = .ok (.invokevirtual 102, 3) := by decide +kernel
theorem dX6_digestTap_59 : decode cX6_digestTap 59 = .ok (.i2l, 1) := by decide +kernel
theorem dX6_digestTap_60 : decode cX6_digestTap 60 = .ok (.ladd, 1) := by decide +kernel
theorem dX6_digestTap_61 : decode cX6_digestTap 61 = .ok (.lstore 4, 2) := by decide +kernel
theorem dX6_digestTap_63 : decode cX6_digestTap 63 = .ok (.iinc 6 1, 3) := by decide +kernel
theorem dX6_digestTap_66 : decode cX6_digestTap 66 = .ok (.goto (-27), 3) := by decide +kernel
theorem dX6_digestTap_69 : decode cX6_digestTap 69 = .ok (.iconst 0, 1) := by decide +kernel
theorem dX6_digestTap_70 : decode cX6_digestTap 70 = .ok (.istore 6, 2) := by decide +kernel
theorem dX6_digestTap_72 : decode cX6_digestTap 72 = .ok (.iload 6, 2) := by decide +kernel
theorem dX6_digestTap_74 : decode cX6_digestTap 74 = .ok (.iconst 4, 1) := by decide +kernel
theorem dX6_digestTap_75 : decode cX6_digestTap 75 = .ok (.if_icmp .ge 43, 3) := by decide +kernel
theorem dX6_digestTap_78 : decode cX6_digestTap 78 = .ok (.iconst 0, 1) := by decide +kernel
theorem dX6_digestTap_79 : decode cX6_digestTap 79 = .ok (.istore 7, 2) := by decide +kernel
theorem dX6_digestTap_81 : decode cX6_digestTap 81 = .ok (.iload 7, 2) := by decide +kernel
theorem dX6_digestTap_83 : decode cX6_digestTap 83 = .ok (.iconst 1, 1) := by decide +kernel
theorem dX6_digestTap_84 : decode cX6_digestTap 84 = .ok (.if_icmp .gt 28, 3) := by decide +kernel
theorem dX6_digestTap_87 : decode cX6_digestTap 87 = .ok (.ldc2_w 151, 3) := by decide +kernel
theorem dX6_digestTap_90 : decode cX6_digestTap 90 = .ok (.lload 4, 2) := by decide +kernel
theorem dX6_digestTap_92 : decode cX6_digestTap 92 = .ok (.lmul, 1) := by decide +kernel
theorem dX6_digestTap_93 : decode cX6_digestTap 93 = .ok (.aload_n 0, 1) := by decide +kernel
theorem dX6_digestTap_94 : decode cX6_digestTap 94 = .ok (.aload_n 3, 1) := by decide +kernel
theorem dX6_digestTap_95 : decode cX6_digestTap 95 = .ok (.iload 6, 2) := by decide +kernel
theorem dX6_digestTap_97 : decode cX6_digestTap 97 = .ok (.iload 7, 2) := by decide +kernel
theorem dX6_digestTap_99 : decode cX6_digestTap 99 = .ok (.invokevirtual 117, 3) := by decide +kernel
theorem dX6_digestTap_102 : decode cX6_digestTap 102 = .ok (.i2l, 1) := by decide +kernel
theorem dX6_digestTap_103 : decode cX6_digestTap 103 = .ok (.ladd, 1) := by decide +kernel
theorem dX6_digestTap_104 : decode cX6_digestTap 104 = .ok (.lstore 4, 2) := by decide +kernel
theorem dX6_digestTap_106 : decode cX6_digestTap 106 = .ok (.iinc 7 1, 3) := by decide +kernel
theorem dX6_digestTap_109 : decode cX6_digestTap 109 = .ok (.goto (-28), 3) := by decide +kernel
theorem dX6_digestTap_112 : decode cX6_digestTap 112 = .ok (.iinc 6 1, 3) := by decide +kernel
theorem dX6_digestTap_115 : decode cX6_digestTap 115 = .ok (.goto (-43), 3) := by decide +kernel
theorem dX6_digestTap_118 : decode cX6_digestTap 118 = .ok (.lload 4, 2) := by decide +kernel
theorem dX6_digestTap_120 : decode cX6_digestTap 120 = .ok (.lreturn, 1) := by decide +kernel
theorem dJ9_max_7cf53_0 : decode cJ9_max_7cf53 0 = .ok (.iload_n 0, 1) := by decide +kernel
theorem dJ9_max_7cf53_1 : decode cJ9_max_7cf53 1 = .ok (.iload_n 1, 1) := by decide +kernel
theorem dJ9_max_7cf53_2 : decode cJ9_max_7cf53 2 = .ok (.if_icmp .lt 7, 3) := by decide +kernel
theorem dJ9_max_7cf53_5 : decode cJ9_max_7cf53 5 = .ok (.iload_n 0, 1) := by decide +kernel
theorem dJ9_max_7cf53_6 : decode cJ9_max_7cf53 6 = .ok (.goto 4, 3) := by decide +kernel
theorem dJ9_max_7cf53_9 : decode cJ9_max_7cf53 9 = .ok (.iload_n 1, 1) := by decide +kernel
theorem dJ9_max_7cf53_10 : decode cJ9_max_7cf53 10 = .ok (.ireturn, 1) := by decide +kernel
theorem dJ9_min_7cf53_0 : decode cJ9_min_7cf53 0 = .ok (.iload_n 0, 1) := by decide +kernel
theorem dJ9_min_7cf53_1 : decode cJ9_min_7cf53 1 = .ok (.iload_n 1, 1) := by decide +kernel
theorem dJ9_min_7cf53_2 : decode cJ9_min_7cf53 2 = .ok (.if_icmp .gt 7, 3) := by decide +kernel
theorem dJ9_min_7cf53_5 : decode cJ9_min_7cf53 5 = .ok (.iload_n 0, 1) := by decide +kernel
theorem dJ9_min_7cf53_6 : decode cJ9_min_7cf53 6 = .ok (.goto 4, 3) := by decide +kernel
theorem dJ9_min_7cf53_9 : decode cJ9_min_7cf53 9 = .ok (.iload_n 1, 1) := by decide +kernel
theorem dJ9_min_7cf53_10 : decode cJ9_min_7cf53 10 = .ok (.ireturn, 1) := by decide +kernel
end
section
theorem dX7_init_0 : decode cX7_init 0 = .ok (.aload_n 0, 1) := by decide +kernel
theorem dX7_init_1 : decode cX7_init 1 = .ok (.invokespecial 1, 3) := by decide +kernel
theorem dX7_init_4 : decode cX7_init 4 = .ok (.aload_n 0, 1) := by decide +kernel
theorem dX7_init_5 : decode cX7_init 5 = .ok (.bipush 30, 2) := by decide +kernel
theorem dX7_init_7 : decode cX7_init 7 = .ok (.newarray .int, 2) := by decide +kernel
theorem dX7_init_9 : decode cX7_init 9 = .ok (.putfield 7, 3) := by decide +kernel
theorem dX7_init_12 : decode cX7_init 12 = .ok (.aload_n 0, 1) := by decide +kernel
theorem dX7_init_13 : decode cX7_init 13 = .ok (.bipush 25, 2) := by decide +kernel
theorem dX7_init_15 : decode cX7_init 15 = .ok (.newarray .int, 2) := by decide +kernel
theorem dX7_init_17 : decode cX7_init 17 = .ok (.putfield 13, 3) := by decide +kernel
theorem dX7_init_20 : decode cX7_init 20 = .ok (.aload_n 0, 1) := by decide +kernel
theorem dX7_init_21 : decode cX7_init 21 = .ok (.bipush 12, 2) := by decide +kernel
theorem dX7_init_23 : decode cX7_init 23 = .ok (.newarray .int, 2) := by decide +kernel
theorem dX7_init_25 : decode cX7_init 25 = .ok (.putfield 16, 3) := by decide +kernel
theorem dX7_init_28 : decode cX7_init 28 = .ok (.aload_n 0, 1) := by decide +kernel
theorem dX7_init_29 : decode cX7_init 29 = .ok (.bipush 25, 2) := by decide +kernel
theorem dX7_init_31 : decode cX7_init 31 = .ok (.newarray .int, 2) := by decide +kernel
theorem dX7_init_33 : decode cX7_init 33 = .ok (.putfield 19, 3) := by decide +kernel
theorem dX7_init_36 : decode cX7_init 36 = .ok (.aload_n 0, 1) := by decide +kernel
theorem dX7_init_37 : decode cX7_init 37 = .ok (.bipush 20, 2) := by decide +kernel
theorem dX7_init_39 : decode cX7_init 39 = .ok (.newarray .int, 2) := by decide +kernel
theorem dX7_init_41 : decode cX7_init 41 = .ok (.putfield 22, 3) := by decide +kernel
theorem dX7_init_44 : decode cX7_init 44 = .ok (.aload_n 0, 1) := by decide +kernel
theorem dX7_init_45 : decode cX7_init 45 = .ok (.bipush 32, 2) := by decide +kernel
theorem dX7_init_47 : decode cX7_init 47 = .ok (.newarray .int, 2) := by decide +kernel
theorem dX7_init_49 : decode cX7_init 49 = .ok (.putfield 25, 3) := by decide +kernel
theorem dX7_init_52 : decode cX7_init 52 = .ok (.aload_n 0, 1) := by decide +kernel
theorem dX7_init_53 : decode cX7_init 53 = .ok (.bipush 20, 2) := by decide +kernel
theorem dX7_init_55 : decode cX7_init 55 = .ok (.newarray .int, 2) := by decide +kernel
theorem dX7_init_57 : decode cX7_init 57 = .ok (.putfield 28, 3) := by decide +kernel
theorem dX7_init_60 : decode cX7_init 60 = .ok (.aload_n 0, 1) := by decide +kernel
theorem dX7_init_61 : decode cX7_init 61 = .ok (.bipush 32, 2) := by decide +kernel
theorem dX7_init_63 : decode cX7_init 63 = .ok (.newarray .int, 2) := by decide +kernel
theorem dX7_init_65 : decode cX7_init 65 = .ok (.putfield 31, 3) := by decide +kernel
theorem dX7_init_68 : decode cX7_init 68 = .ok (.aload_n 0, 1) := by decide +kernel
theorem dX7_init_69 : decode cX7_init 69 = .ok (.iconst (-1), 1) := by decide +kernel
theorem dX7_init_70 : decode cX7_init 70 = .ok (.putfield 34, 3) := by decide +kernel
theorem dX7_init_73 : decode cX7_init 73 = .ok (.return_, 1) := by decide +kernel
theorem dX7_in_0 : decode cX7_in 0 = .ok (.lload_n 0, 1) := by decide +kernel
theorem dX7_in_1 : decode cX7_in 1 = .ok (.lload_n 2, 1) := by decide +kernel
theorem dX7_in_2 : decode cX7_in 2 = .ok (.lcmp, 1) := by decide +kernel
theorem dX7_in_3 : decode cX7_in 3 = .ok (.ifCond .lt 14, 3) := by decide +kernel
theorem dX7_in_6 : decode cX7_in 6 = .ok (.lload_n 0, 1) := by decide +kernel
theorem dX7_in_7 : decode cX7_in 7 = .ok (.lload 4, 2) := by decide +kernel
theorem dX7_in_9 : decode cX7_in 9 = .ok (.lcmp, 1) := by decide +kernel
theorem dX7_in_10 : decode cX7_in 10 = .ok (.ifCond .gt 7, 3) := by decide +kernel
theorem dX7_in_13 : decode cX7_in 13 = .ok (.iconst 1, 1) := by decide +kernel
theorem dX7_in_14 : decode cX7_in 14 = .ok (.goto 4, 3) := by decide +kernel
theorem dX7_in_17 : decode cX7_in 17 = .ok (.iconst 0, 1) := by decide +kernel
theorem dX7_in_18 : decode cX7_in 18 = .ok (.ireturn, 1) := by decide +kernel
theorem dX7_copy_0 : decode cX7_copy 0 = .ok (.iconst 0, 1) := by decide +kernel
theorem dX7_copy_1 : decode cX7_copy 1 = .ok (.istore_n 2, 1) := by decide +kernel
theorem dX7_copy_2 : decode cX7_copy 2 = .ok (.iload_n 2, 1) := by decide +kernel
theorem dX7_copy_3 : decode cX7_copy 3 = .ok (.aload_n 0, 1) := by decide +kernel
theorem dX7_copy_4 : decode cX7_copy 4 = .ok (.arraylength, 1) := by decide +kernel
theorem dX7_copy_5 : decode cX7_copy 5 = .ok (.if_icmp .ge 15, 3) := by decide +kernel
theorem dX7_copy_8 : decode cX7_copy 8 = .ok (.aload_n 1, 1) := by decide +kernel
theorem dX7_copy_9 : decode cX7_copy 9 = .ok (.iload_n 2, 1) := by decide +kernel
theorem dX7_copy_10 : decode cX7_copy 10 = .ok (.aload_n 0, 1) := by decide +kernel
theorem dX7_copy_11 : decode cX7_copy 11 = .ok (.iload_n 2, 1) := by decide +kernel
theorem dX7_copy_12 : decode cX7_copy 12 = .ok (.iaload, 1) := by decide +kernel
theorem dX7_copy_13 : decode cX7_copy 13 = .ok (.iastore, 1) := by decide +kernel
theorem dX7_copy_14 : decode cX7_copy 14 = .ok (.iinc 2 1, 3) := by decide +kernel
theorem dX7_copy_17 : decode cX7_copy 17 = .ok (.goto (-15), 3) := by decide +kernel
theorem dX7_copy_20 : decode cX7_copy 20 = .ok (.return_, 1) := by decide +kernel
theorem dX7_letter_0 : decode cX7_letter 0 = .ok (.iload_n 1, 1) := by decide +kernel
theorem dX7_letter_1 : decode cX7_letter 1 = .ok (.i2l, 1) := by decide +kernel
theorem dX7_letter_2 : decode cX7_letter 2 = .ok (.lconst 1, 1) := by decide +kernel
theorem dX7_letter_3 : decode cX7_letter 3 = .ok (.ldc2_w 38, 3) := by decide +kernel
theorem dX7_letter_6 : decode cX7_letter 6 = .ok (.invokestatic 40, 3) := by decide +kernel
theorem dX7_letter_9 : decode cX7_letter 9 = .ok (.ifCond .ne 6, 3) := by decide +kernel
theorem dX7_letter_12 : decode cX7_letter 12 = .ok (.bipush (-102), 2) := by decide +kernel
theorem dX7_letter_14 : decode cX7_letter 14 = .ok (.ireturn, 1) := by decide +kernel
theorem dX7_letter_15 : decode cX7_letter 15 = .ok (.aload_n 0, 1) := by decide +kernel
theorem dX7_letter_16 : decode cX7_letter 16 = .ok (.getfield 44, 3) := by decide +kernel
theorem dX7_letter_19 : decode cX7_letter 19 = .ok (.bipush 30, 2) := by decide +kernel
theorem dX7_letter_21 : decode cX7_letter 21 = .ok (.if_icmp .ne 6, 3) := by decide +kernel
theorem dX7_letter_24 : decode cX7_letter 24 = .ok (.bipush (-104), 2) := by decide +kernel
theorem dX7_letter_26 : decode cX7_letter 26 = .ok (.ireturn, 1) := by decide +kernel
theorem dX7_letter_27 : decode cX7_letter 27 = .ok (.aload_n 0, 1) := by decide +kernel
theorem dX7_letter_28 : decode cX7_letter 28 = .ok (.getfield 7, 3) := by decide +kernel
theorem dX7_letter_31 : decode cX7_letter 31 = .ok (.aload_n 0, 1) := by decide +kernel
theorem dX7_letter_32 : decode cX7_letter 32 = .ok (.getfield 44, 3) := by decide +kernel
theorem dX7_letter_35 : decode cX7_letter 35 = .ok (.iload_n 1, 1) := by decide +kernel
theorem dX7_letter_36 : decode cX7_letter 36 = .ok (.iastore, 1) := by decide +kernel
theorem dX7_letter_37 : decode cX7_letter 37 = .ok (.aload_n 0, 1) := by decide +kernel
theorem dX7_letter_38 : decode cX7_letter 38 = .ok (.dup, 1) := by decide +kernel
theorem dX7_letter_39 : decode cX7_letter 39 = .ok (.getfield 44, 3) := by decide +kernel
theorem dX7_letter_42 : decode cX7_letter 42 = .ok (.iconst 1, 1) := by decide +kernel
theorem dX7_letter_43 : decode cX7_letter 43 = .ok (.iadd, 1) := by decide +kernel
theorem dX7_letter_44 : decode cX7_letter 44 = .ok (.putfield 44, 3) := by decide +kernel
theorem dX7_letter_47 : decode cX7_letter 47 = .ok (.aload_n 0, 1) := by decide +kernel
theorem dX7_letter_48 : decode cX7_letter 48 = .ok (.getfield 44, 3) := by decide +kernel
theorem dX7_letter_51 : decode cX7_letter 51 = .ok (.ireturn, 1) := by decide +kernel
theorem dX7_blank_0 : decode cX7_blank 0 = .ok (.aload_n 0, 1) := by decide +kernel
theorem dX7_blank_1 : decode cX7_blank 1 = .ok (.getfield 44, 3) := by decide +kernel
theorem dX7_blank_4 : decode cX7_blank 4 = .ok (.istore_n 1, 1) := by decide +kernel
theorem dX7_blank_5 : decode cX7_blank 5 = .ok (.aload_n 0, 1) := by decide +kernel
theorem dX7_blank_6 : decode cX7_blank 6 = .ok (.iconst 0, 1) := by decide +kernel
theorem dX7_blank_7 : decode cX7_blank 7 = .ok (.putfield 44, 3) := by decide +kernel
theorem dX7_blank_10 : decode cX7_blank 10 = .ok (.iload_n 1, 1) := by decide +kernel
theorem dX7_blank_11 : decode cX7_blank 11 = .ok (.ireturn, 1) := by decide +kernel
theorem dX7_kindBy_0 : decode cX7_kindBy 0 = .ok (.iload_n 0, 1) := by decide +kernel
theorem dX7_kindBy_1 : decode cX7_kindBy 1 = .ok (.bipush 116, 2) := by decide +kernel
theorem dX7_kindBy_3 : decode cX7_kindBy 3 = .ok (.if_icmp .ne 7, 3) := by decide +kernel
theorem dX7_kindBy_6 : decode cX7_kindBy 6 = .ok (.iconst 0, 1) := by decide +kernel
theorem dX7_kindBy_7 : decode cX7_kindBy 7 = .ok (.goto 44, 3) := by decide +kernel
theorem dX7_kindBy_10 : decode cX7_kindBy 10 = .ok (.iload_n 0, 1) := by decide +kernel
theorem dX7_kindBy_11 : decode cX7_kindBy 11 = .ok (.bipush 98, 2) := by decide +kernel
theorem dX7_kindBy_13 : decode cX7_kindBy 13 = .ok (.if_icmp .ne 7, 3) := by decide +kernel
theorem dX7_kindBy_16 : decode cX7_kindBy 16 = .ok (.iconst 1, 1) := by decide +kernel
theorem dX7_kindBy_17 : decode cX7_kindBy 17 = .ok (.goto 34, 3) := by decide +kernel
theorem dX7_kindBy_20 : decode cX7_kindBy 20 = .ok (.iload_n 0, 1) := by decide +kernel
theorem dX7_kindBy_21 : decode cX7_kindBy 21 = .ok (.bipush 119, 2) := by decide +kernel
theorem dX7_kindBy_23 : decode cX7_kindBy 23 = .ok (.if_icmp .ne 7, 3) := by decide +kernel
theorem dX7_kindBy_26 : decode cX7_kindBy 26 = .ok (.iconst 2, 1) := by decide +kernel
theorem dX7_kindBy_27 : decode cX7_kindBy 27 = .ok (.goto 24, 3) := by decide +kernel
theorem dX7_kindBy_30 : decode cX7_kindBy 30 = .ok (.iload_n 0, 1) := by decide +kernel
theorem dX7_kindBy_31 : decode cX7_kindBy 31 = .ok (.bipush 111, 2) := by decide +kernel
theorem dX7_kindBy_33 : decode cX7_kindBy 33 = .ok (.if_icmp .ne 7, 3) := by decide +kernel
theorem dX7_kindBy_36 : decode cX7_kindBy 36 = .ok (.iconst 3, 1) := by decide +kernel
theorem dX7_kindBy_37 : decode cX7_kindBy 37 = .ok (.goto 14, 3) := by decide +kernel
theorem dX7_kindBy_40 : decode cX7_kindBy 40 = .ok (.iload_n 0, 1) := by decide +kernel
theorem dX7_kindBy_41 : decode cX7_kindBy 41 = .ok (.bipush 101, 2) := by decide +kernel
theorem dX7_kindBy_43 : decode cX7_kindBy 43 = .ok (.if_icmp .ne 7, 3) := by decide +kernel
theorem dX7_kindBy_46 : decode cX7_kindBy 46 = .ok (.iconst 4, 1) := by decide +kernel
theorem dX7_kindBy_47 : decode cX7_kindBy 47 = .ok (.goto 4, 3) := by decide +kernel
theorem dX7_kindBy_50 : decode cX7_kindBy 50 = .ok (.iconst (-1), 1) := by decide +kernel
theorem dX7_kindBy_51 : decode cX7_kindBy 51 = .ok (.ireturn, 1) := by decide +kernel
theorem dX7_goSaying_0 : decode cX7_goSaying 0 = .ok (.iconst 5, 1) := by decide +kernel
theorem dX7_goSaying_1 : decode cX7_goSaying 1 = .ok (.aload_n 0, 1) := by decide +kernel
theorem dX7_goSaying_2 : decode cX7_goSaying 2 = .ok (.getfield 47, 3) := by decide +kernel
theorem dX7_goSaying_5 : decode cX7_goSaying 5 = .ok (.imul, 1) := by decide +kernel
theorem dX7_goSaying_6 : decode cX7_goSaying 6 = .ok (.istore_n 2, 1) := by decide +kernel
theorem dX7_goSaying_7 : decode cX7_goSaying 7 = .ok (.iload_n 1, 1) := by decide +kernel
theorem dX7_goSaying_8 : decode cX7_goSaying 8 = .ok (.bipush 44, 2) := by decide +kernel
theorem dX7_goSaying_10 : decode cX7_goSaying 10 = .ok (.if_icmp .eq 9, 3) := by decide +kernel
theorem dX7_goSaying_13 : decode cX7_goSaying 13 = .ok (.iload_n 1, 1) := by decide +kernel
theorem dX7_goSaying_14 : decode cX7_goSaying 14 = .ok (.bipush 59, 2) := by decide +kernel
theorem dX7_goSaying_16 : decode cX7_goSaying 16 = .ok (.if_icmp .ne 69, 3) := by decide +kernel
theorem dX7_goSaying_19 : decode cX7_goSaying 19 = .ok (.aload_n 0, 1) := by decide +kernel
theorem dX7_goSaying_20 : decode cX7_goSaying 20 = .ok (.getfield 13, 3) := by decide +kernel
theorem dX7_goSaying_23 : decode cX7_goSaying 23 = .ok (.iload_n 2, 1) := by decide +kernel
theorem dX7_goSaying_24 : decode cX7_goSaying 24 = .ok (.iaload, 1) := by decide +kernel
theorem dX7_goSaying_25 : decode cX7_goSaying 25 = .ok (.ifCond .le 34, 3) := by decide +kernel
theorem dX7_goSaying_28 : decode cX7_goSaying 28 = .ok (.iload_n 1, 1) := by decide +kernel
theorem dX7_goSaying_29 : decode cX7_goSaying 29 = .ok (.bipush 59, 2) := by decide +kernel
theorem dX7_goSaying_31 : decode cX7_goSaying 31 = .ok (.if_icmp .ne 7, 3) := by decide +kernel
theorem dX7_goSaying_34 : decode cX7_goSaying 34 = .ok (.iconst 1, 1) := by decide +kernel
theorem dX7_goSaying_35 : decode cX7_goSaying 35 = .ok (.goto 4, 3) := by decide +kernel
theorem dX7_goSaying_38 : decode cX7_goSaying 38 = .ok (.iconst 0, 1) := by decide +kernel
theorem dX7_goSaying_39 : decode cX7_goSaying 39 = .ok (.aload_n 0, 1) := by decide +kernel
theorem dX7_goSaying_40 : decode cX7_goSaying 40 = .ok (.getfield 47, 3) := by decide +kernel
theorem dX7_goSaying_43 : decode cX7_goSaying 43 = .ok (.iconst 3, 1) := by decide +kernel
theorem dX7_goSaying_44 : decode cX7_goSaying 44 = .ok (.if_icmp .ne 7, 3) := by decide +kernel
theorem dX7_goSaying_47 : decode cX7_goSaying 47 = .ok (.iconst 1, 1) := by decide +kernel
theorem dX7_goSaying_48 : decode cX7_goSaying 48 = .ok (.goto 4, 3) := by decide +kernel
theorem dX7_goSaying_51 : decode cX7_goSaying 51 = .ok (.iconst 0, 1) := by decide +kernel
theorem dX7_goSaying_52 : decode cX7_goSaying 52 = .ok (.if_icmp .ne 7, 3) := by decide +kernel
theorem dX7_goSaying_55 : decode cX7_goSaying 55 = .ok (.iconst 1, 1) := by decide +kernel
theorem dX7_goSaying_56 : decode cX7_goSaying 56 = .ok (.goto 4, 3) := by decide +kernel
theorem dX7_goSaying_59 : decode cX7_goSaying 59 = .ok (.iconst 0, 1) := by decide +kernel
theorem dX7_goSaying_60 : decode cX7_goSaying 60 = .ok (.istore_n 3, 1) := by decide +kernel
theorem dX7_goSaying_61 : decode cX7_goSaying 61 = .ok (.aload_n 0, 1) := by decide +kernel
theorem dX7_goSaying_62 : decode cX7_goSaying 62 = .ok (.dup, 1) := by decide +kernel
theorem dX7_goSaying_63 : decode cX7_goSaying 63 = .ok (.getfield 47, 3) := by decide +kernel
theorem dX7_goSaying_66 : decode cX7_goSaying 66 = .ok (.iconst 1, 1) := by decide +kernel
theorem dX7_goSaying_67 : decode cX7_goSaying 67 = .ok (.iadd, 1) := by decide +kernel
theorem dX7_goSaying_68 : decode cX7_goSaying 68 = .ok (.putfield 47, 3) := by decide +kernel
theorem dX7_goSaying_71 : decode cX7_goSaying 71 = .ok (.aload_n 0, 1) := by decide +kernel
theorem dX7_goSaying_72 : decode cX7_goSaying 72 = .ok (.getfield 13, 3) := by decide +kernel
theorem dX7_goSaying_75 : decode cX7_goSaying 75 = .ok (.iconst 5, 1) := by decide +kernel
theorem dX7_goSaying_76 : decode cX7_goSaying 76 = .ok (.aload_n 0, 1) := by decide +kernel
theorem dX7_goSaying_77 : decode cX7_goSaying 77 = .ok (.getfield 47, 3) := by decide +kernel
theorem dX7_goSaying_80 : decode cX7_goSaying 80 = .ok (.imul, 1) := by decide +kernel
theorem dX7_goSaying_81 : decode cX7_goSaying 81 = .ok (.iconst 0, 1) := by decide +kernel
theorem dX7_goSaying_82 : decode cX7_goSaying 82 = .ok (.iastore, 1) := by decide +kernel
theorem dX7_goSaying_83 : decode cX7_goSaying 83 = .ok (.iload_n 3, 1) := by decide +kernel
theorem dX7_goSaying_84 : decode cX7_goSaying 84 = .ok (.ireturn, 1) := by decide +kernel
theorem dX7_goSaying_85 : decode cX7_goSaying 85 = .ok (.iload_n 1, 1) := by decide +kernel
theorem dX7_goSaying_86 : decode cX7_goSaying 86 = .ok (.bipush 115, 2) := by decide +kernel
theorem dX7_goSaying_88 : decode cX7_goSaying 88 = .ok (.if_icmp .eq 9, 3) := by decide +kernel
theorem dX7_goSaying_91 : decode cX7_goSaying 91 = .ok (.iload_n 1, 1) := by decide +kernel
theorem dX7_goSaying_92 : decode cX7_goSaying 92 = .ok (.bipush 108, 2) := by decide +kernel
theorem dX7_goSaying_94 : decode cX7_goSaying 94 = .ok (.if_icmp .ne 13, 3) := by decide +kernel
theorem dX7_goSaying_97 : decode cX7_goSaying 97 = .ok (.aload_n 0, 1) := by decide +kernel
theorem dX7_goSaying_98 : decode cX7_goSaying 98 = .ok (.getfield 13, 3) := by decide +kernel
theorem dX7_goSaying_101 : decode cX7_goSaying 101 = .ok (.iload_n 2, 1) := by decide +kernel
theorem dX7_goSaying_102 : decode cX7_goSaying 102 = .ok (.iaload, 1) := by decide +kernel
theorem dX7_goSaying_103 : decode cX7_goSaying 103 = .ok (.iconst 4, 1) := by decide +kernel
theorem dX7_goSaying_104 : decode cX7_goSaying 104 = .ok (.if_icmp .ne 5, 3) := by decide +kernel
theorem dX7_goSaying_107 : decode cX7_goSaying 107 = .ok (.iconst 0, 1) := by decide +kernel
theorem dX7_goSaying_108 : decode cX7_goSaying 108 = .ok (.ireturn, 1) := by decide +kernel
theorem dX7_goSaying_109 : decode cX7_goSaying 109 = .ok (.aload_n 0, 1) := by decide +kernel
theorem dX7_goSaying_110 : decode cX7_goSaying 110 = .ok (.getfield 13, 3) := by decide +kernel
theorem dX7_goSaying_113 : decode cX7_goSaying 113 = .ok (.iload_n 2, 1) := by decide +kernel
theorem dX7_goSaying_114 : decode cX7_goSaying 114 = .ok (.dup2, 1) := by decide +kernel
theorem dX7_goSaying_115 : decode cX7_goSaying 115 = .ok (.iaload, 1) := by decide +kernel
theorem dX7_goSaying_116 : decode cX7_goSaying 116 = .ok (.iconst 1, 1) := by decide +kernel
theorem dX7_goSaying_117 : decode cX7_goSaying 117 = .ok (.iadd, 1) := by decide +kernel
theorem dX7_goSaying_118 : decode cX7_goSaying 118 = .ok (.iastore, 1) := by decide +kernel
theorem dX7_goSaying_119 : decode cX7_goSaying 119 = .ok (.aload_n 0, 1) := by decide +kernel
theorem dX7_goSaying_120 : decode cX7_goSaying 120 = .ok (.getfield 13, 3) := by decide +kernel
theorem dX7_goSaying_123 : decode cX7_goSaying 123 = .ok (.iload_n 2, 1) := by decide +kernel
theorem dX7_goSaying_124 : decode cX7_goSaying 124 = .ok (.aload_n 0, 1) := by decide +kernel
theorem dX7_goSaying_125 : decode cX7_goSaying 125 = .ok (.getfield 13, 3) := by decide +kernel
theorem dX7_goSaying_128 : decode cX7_goSaying 128 = .ok (.iload_n 2, 1) := by decide +kernel
theorem dX7_goSaying_129 : decode cX7_goSaying 129 = .ok (.iaload, 1) := by decide +kernel
theorem dX7_goSaying_130 : decode cX7_goSaying 130 = .ok (.iadd, 1) := by decide +kernel
theorem dX7_goSaying_131 : decode cX7_goSaying 131 = .ok (.iload_n 1, 1) := by decide +kernel
theorem dX7_goSaying_132 : decode cX7_goSaying 132 = .ok (.bipush 108, 2) := by decide +kernel
theorem dX7_goSaying_134 : decode cX7_goSaying 134 = .ok (.if_icmp .ne 7, 3) := by decide +kernel
theorem dX7_goSaying_137 : decode cX7_goSaying 137 = .ok (.iconst 1, 1) := by decide +kernel
theorem dX7_goSaying_138 : decode cX7_goSaying 138 = .ok (.goto 4, 3) := by decide +kernel
theorem dX7_goSaying_141 : decode cX7_goSaying 141 = .ok (.iconst 0, 1) := by decide +kernel
theorem dX7_goSaying_142 : decode cX7_goSaying 142 = .ok (.iastore, 1) := by decide +kernel
theorem dX7_goSaying_143 : decode cX7_goSaying 143 = .ok (.iconst 1, 1) := by decide +kernel
theorem dX7_goSaying_144 : decode cX7_goSaying 144 = .ok (.ireturn, 1) := by decide +kernel
theorem dX7_goTap_0 : decode cX7_goTap 0 = .ok (.aload_n 0, 1) := by decide +kernel
theorem dX7_goTap_1 : decode cX7_goTap 1 = .ok (.getfield 50, 3) := by decide +kernel
theorem dX7_goTap_4 : decode cX7_goTap 4 = .ok (.istore_n 2, 1) := by decide +kernel
theorem dX7_goTap_5 : decode cX7_goTap 5 = .ok (.aload_n 0, 1) := by decide +kernel
theorem dX7_goTap_6 : decode cX7_goTap 6 = .ok (.aload_n 0, 1) := by decide +kernel
theorem dX7_goTap_7 : decode cX7_goTap 7 = .ok (.getfield 50, 3) := by decide +kernel
theorem dX7_goTap_10 : decode cX7_goTap 10 = .ok (.iconst 1, 1) := by decide +kernel
theorem dX7_goTap_11 : decode cX7_goTap 11 = .ok (.iadd, 1) := by decide +kernel
theorem dX7_goTap_12 : decode cX7_goTap 12 = .ok (.iconst 3, 1) := by decide +kernel
theorem dX7_goTap_13 : decode cX7_goTap 13 = .ok (.irem, 1) := by decide +kernel
theorem dX7_goTap_14 : decode cX7_goTap 14 = .ok (.putfield 50, 3) := by decide +kernel
theorem dX7_goTap_17 : decode cX7_goTap 17 = .ok (.iload_n 2, 1) := by decide +kernel
theorem dX7_goTap_18 : decode cX7_goTap 18 = .ok (.ifCond .ne 32, 3) := by decide +kernel
theorem dX7_goTap_21 : decode cX7_goTap 21 = .ok (.aload_n 0, 1) := by decide +kernel
theorem dX7_goTap_22 : decode cX7_goTap 22 = .ok (.getfield 16, 3) := by decide +kernel
theorem dX7_goTap_25 : decode cX7_goTap 25 = .ok (.iconst 4, 1) := by decide +kernel
theorem dX7_goTap_26 : decode cX7_goTap 26 = .ok (.aload_n 0, 1) := by decide +kernel
theorem dX7_goTap_27 : decode cX7_goTap 27 = .ok (.getfield 53, 3) := by decide +kernel
theorem dX7_goTap_30 : decode cX7_goTap 30 = .ok (.imul, 1) := by decide +kernel
theorem dX7_goTap_31 : decode cX7_goTap 31 = .ok (.iload_n 1, 1) := by decide +kernel
theorem dX7_goTap_32 : decode cX7_goTap 32 = .ok (.invokestatic 56, 3) := by decide +kernel
theorem dX7_goTap_35 : decode cX7_goTap 35 = .ok (.iastore, 1) := by decide +kernel
theorem dX7_goTap_36 : decode cX7_goTap 36 = .ok (.iload_n 1, 1) := by decide +kernel
theorem dX7_goTap_37 : decode cX7_goTap 37 = .ok (.invokestatic 56, 3) := by decide +kernel
theorem dX7_goTap_40 : decode cX7_goTap 40 = .ok (.iconst (-1), 1) := by decide +kernel
theorem dX7_goTap_41 : decode cX7_goTap 41 = .ok (.if_icmp .eq 7, 3) := by decide +kernel
theorem dX7_goTap_44 : decode cX7_goTap 44 = .ok (.iconst 1, 1) := by decide +kernel
theorem dX7_goTap_45 : decode cX7_goTap 45 = .ok (.goto 4, 3) := by decide +kernel
theorem dX7_goTap_48 : decode cX7_goTap 48 = .ok (.iconst 0, 1) := by decide +kernel
theorem dX7_goTap_49 : decode cX7_goTap 49 = .ok (.ireturn, 1) := by decide +kernel
theorem dX7_goTap_50 : decode cX7_goTap 50 = .ok (.iload_n 2, 1) := by decide +kernel
theorem dX7_goTap_51 : decode cX7_goTap 51 = .ok (.iconst 1, 1) := by decide +kernel
theorem dX7_goTap_52 : decode cX7_goTap 52 = .ok (.if_icmp .ne 42, 3) := by decide +kernel
theorem dX7_goTap_55 : decode cX7_goTap 55 = .ok (.aload_n 0, 1) := by decide +kernel
theorem dX7_goTap_56 : decode cX7_goTap 56 = .ok (.getfield 16, 3) := by decide +kernel
theorem dX7_goTap_59 : decode cX7_goTap 59 = .ok (.iconst 4, 1) := by decide +kernel
theorem dX7_goTap_60 : decode cX7_goTap 60 = .ok (.aload_n 0, 1) := by decide +kernel
theorem dX7_goTap_61 : decode cX7_goTap 61 = .ok (.getfield 53, 3) := by decide +kernel
theorem dX7_goTap_64 : decode cX7_goTap 64 = .ok (.imul, 1) := by decide +kernel
theorem dX7_goTap_65 : decode cX7_goTap 65 = .ok (.iconst 1, 1) := by decide +kernel
theorem dX7_goTap_66 : decode cX7_goTap 66 = .ok (.iadd, 1) := by decide +kernel
theorem dX7_goTap_67 : decode cX7_goTap 67 = .ok (.iload_n 1, 1) := by decide +kernel
theorem dX7_goTap_68 : decode cX7_goTap 68 = .ok (.bipush 48, 2) := by decide +kernel
theorem dX7_goTap_70 : decode cX7_goTap 70 = .ok (.isub, 1) := by decide +kernel
theorem dX7_goTap_71 : decode cX7_goTap 71 = .ok (.iastore, 1) := by decide +kernel
theorem dX7_goTap_72 : decode cX7_goTap 72 = .ok (.aload_n 0, 1) := by decide +kernel
theorem dX7_goTap_73 : decode cX7_goTap 73 = .ok (.dup, 1) := by decide +kernel
theorem dX7_goTap_74 : decode cX7_goTap 74 = .ok (.getfield 53, 3) := by decide +kernel
theorem dX7_goTap_77 : decode cX7_goTap 77 = .ok (.iconst 1, 1) := by decide +kernel
theorem dX7_goTap_78 : decode cX7_goTap 78 = .ok (.iadd, 1) := by decide +kernel
theorem dX7_goTap_79 : decode cX7_goTap 79 = .ok (.putfield 53, 3) := by decide +kernel
theorem dX7_goTap_82 : decode cX7_goTap 82 = .ok (.iload_n 1, 1) := by decide +kernel
theorem dX7_goTap_83 : decode cX7_goTap 83 = .ok (.i2l, 1) := by decide +kernel
theorem dX7_goTap_84 : decode cX7_goTap 84 = .ok (.ldc2_w 60, 3) := by decide +kernel
theorem dX7_goTap_87 : decode cX7_goTap 87 = .ok (.ldc2_w 62, 3) := by decide +kernel
theorem dX7_goTap_90 : decode cX7_goTap 90 = .ok (.invokestatic 40, 3) := by decide +kernel
theorem dX7_goTap_93 : decode cX7_goTap 93 = .ok (.ireturn, 1) := by decide +kernel
theorem dX7_goTap_94 : decode cX7_goTap 94 = .ok (.iload_n 1, 1) := by decide +kernel
theorem dX7_goTap_95 : decode cX7_goTap 95 = .ok (.bipush 44, 2) := by decide +kernel
theorem dX7_goTap_97 : decode cX7_goTap 97 = .ok (.if_icmp .ne 15, 3) := by decide +kernel
theorem dX7_goTap_100 : decode cX7_goTap 100 = .ok (.aload_n 0, 1) := by decide +kernel
theorem dX7_goTap_101 : decode cX7_goTap 101 = .ok (.getfield 53, 3) := by decide +kernel
theorem dX7_goTap_104 : decode cX7_goTap 104 = .ok (.iconst 3, 1) := by decide +kernel
theorem dX7_goTap_105 : decode cX7_goTap 105 = .ok (.if_icmp .ge 7, 3) := by decide +kernel
theorem dX7_goTap_108 : decode cX7_goTap 108 = .ok (.iconst 1, 1) := by decide +kernel
theorem dX7_goTap_109 : decode cX7_goTap 109 = .ok (.goto 4, 3) := by decide +kernel
theorem dX7_goTap_112 : decode cX7_goTap 112 = .ok (.iconst 0, 1) := by decide +kernel
theorem dX7_goTap_113 : decode cX7_goTap 113 = .ok (.ireturn, 1) := by decide +kernel
theorem dX7_faultOf_0 : decode cX7_faultOf 0 = .ok (.aload_n 0, 1) := by decide +kernel
theorem dX7_faultOf_1 : decode cX7_faultOf 1 = .ok (.iconst 0, 1) := by decide +kernel
theorem dX7_faultOf_2 : decode cX7_faultOf 2 = .ok (.putfield 47, 3) := by decide +kernel
theorem dX7_faultOf_5 : decode cX7_faultOf 5 = .ok (.aload_n 0, 1) := by decide +kernel
theorem dX7_faultOf_6 : decode cX7_faultOf 6 = .ok (.getfield 13, 3) := by decide +kernel
theorem dX7_faultOf_9 : decode cX7_faultOf 9 = .ok (.iconst 0, 1) := by decide +kernel
theorem dX7_faultOf_10 : decode cX7_faultOf 10 = .ok (.iconst 0, 1) := by decide +kernel
theorem dX7_faultOf_11 : decode cX7_faultOf 11 = .ok (.iastore, 1) := by decide +kernel
theorem dX7_faultOf_12 : decode cX7_faultOf 12 = .ok (.aload_n 0, 1) := by decide +kernel
theorem dX7_faultOf_13 : decode cX7_faultOf 13 = .ok (.iconst 0, 1) := by decide +kernel
theorem dX7_faultOf_14 : decode cX7_faultOf 14 = .ok (.putfield 53, 3) := by decide +kernel
theorem dX7_faultOf_17 : decode cX7_faultOf 17 = .ok (.aload_n 0, 1) := by decide +kernel
theorem dX7_faultOf_18 : decode cX7_faultOf 18 = .ok (.iconst 0, 1) := by decide +kernel
theorem dX7_faultOf_19 : decode cX7_faultOf 19 = .ok (.putfield 50, 3) := by decide +kernel
theorem dX7_faultOf_22 : decode cX7_faultOf 22 = .ok (.iconst 0, 1) := by decide +kernel
theorem dX7_faultOf_23 : decode cX7_faultOf 23 = .ok (.istore_n 1, 1) := by decide +kernel
theorem dX7_faultOf_24 : decode cX7_faultOf 24 = .ok (.iload_n 1, 1) := by decide +kernel
theorem dX7_faultOf_25 : decode cX7_faultOf 25 = .ok (.aload_n 0, 1) := by decide +kernel
theorem dX7_faultOf_26 : decode cX7_faultOf 26 = .ok (.getfield 44, 3) := by decide +kernel
theorem dX7_faultOf_29 : decode cX7_faultOf 29 = .ok (.if_icmp .ge 46, 3) := by decide +kernel
theorem dX7_faultOf_32 : decode cX7_faultOf 32 = .ok (.aload_n 0, 1) := by decide +kernel
theorem dX7_faultOf_33 : decode cX7_faultOf 33 = .ok (.getfield 47, 3) := by decide +kernel
theorem dX7_faultOf_36 : decode cX7_faultOf 36 = .ok (.iconst 4, 1) := by decide +kernel
theorem dX7_faultOf_37 : decode cX7_faultOf 37 = .ok (.if_icmp .ge 19, 3) := by decide +kernel
theorem dX7_faultOf_40 : decode cX7_faultOf 40 = .ok (.aload_n 0, 1) := by decide +kernel
theorem dX7_faultOf_41 : decode cX7_faultOf 41 = .ok (.aload_n 0, 1) := by decide +kernel
theorem dX7_faultOf_42 : decode cX7_faultOf 42 = .ok (.getfield 7, 3) := by decide +kernel
theorem dX7_faultOf_45 : decode cX7_faultOf 45 = .ok (.iload_n 1, 1) := by decide +kernel
theorem dX7_faultOf_46 : decode cX7_faultOf 46 = .ok (.iaload, 1) := by decide +kernel
theorem dX7_faultOf_47 : decode cX7_faultOf 47 = .ok (.invokevirtual 64, 3) := by decide +kernel
theorem dX7_faultOf_50 : decode cX7_faultOf 50 = .ok (.ifCond .eq 25, 3) := by decide +kernel
theorem dX7_faultOf_53 : decode cX7_faultOf 53 = .ok (.goto 16, 3) := by decide +kernel
theorem dX7_faultOf_56 : decode cX7_faultOf 56 = .ok (.aload_n 0, 1) := by decide +kernel
theorem dX7_faultOf_57 : decode cX7_faultOf 57 = .ok (.aload_n 0, 1) := by decide +kernel
theorem dX7_faultOf_58 : decode cX7_faultOf 58 = .ok (.getfield 7, 3) := by decide +kernel
theorem dX7_faultOf_61 : decode cX7_faultOf 61 = .ok (.iload_n 1, 1) := by decide +kernel
theorem dX7_faultOf_62 : decode cX7_faultOf 62 = .ok (.iaload, 1) := by decide +kernel
theorem dX7_faultOf_63 : decode cX7_faultOf 63 = .ok (.invokevirtual 68, 3) := by decide +kernel
theorem dX7_faultOf_66 : decode cX7_faultOf 66 = .ok (.ifCond .eq 9, 3) := by decide +kernel
theorem dX7_faultOf_69 : decode cX7_faultOf 69 = .ok (.iinc 1 1, 3) := by decide +kernel
theorem dX7_faultOf_72 : decode cX7_faultOf 72 = .ok (.goto (-48), 3) := by decide +kernel
theorem dX7_faultOf_75 : decode cX7_faultOf 75 = .ok (.iload_n 1, 1) := by decide +kernel
theorem dX7_faultOf_76 : decode cX7_faultOf 76 = .ok (.ireturn, 1) := by decide +kernel
theorem dX7_fault_0 : decode cX7_fault 0 = .ok (.aload_n 0, 1) := by decide +kernel
theorem dX7_fault_1 : decode cX7_fault 1 = .ok (.invokevirtual 71, 3) := by decide +kernel
theorem dX7_fault_4 : decode cX7_fault 4 = .ok (.ireturn, 1) := by decide +kernel
theorem dX7_house_0 : decode cX7_house 0 = .ok (.aload_n 0, 1) := by decide +kernel
theorem dX7_house_1 : decode cX7_house 1 = .ok (.invokevirtual 71, 3) := by decide +kernel
theorem dX7_house_4 : decode cX7_house 4 = .ok (.aload_n 0, 1) := by decide +kernel
theorem dX7_house_5 : decode cX7_house 5 = .ok (.getfield 44, 3) := by decide +kernel
theorem dX7_house_8 : decode cX7_house 8 = .ok (.if_icmp .lt 19, 3) := by decide +kernel
theorem dX7_house_11 : decode cX7_house 11 = .ok (.aload_n 0, 1) := by decide +kernel
theorem dX7_house_12 : decode cX7_house 12 = .ok (.getfield 47, 3) := by decide +kernel
theorem dX7_house_15 : decode cX7_house 15 = .ok (.iconst 4, 1) := by decide +kernel
theorem dX7_house_16 : decode cX7_house 16 = .ok (.if_icmp .lt 11, 3) := by decide +kernel
theorem dX7_house_19 : decode cX7_house 19 = .ok (.aload_n 0, 1) := by decide +kernel
theorem dX7_house_20 : decode cX7_house 20 = .ok (.getfield 50, 3) := by decide +kernel
theorem dX7_house_23 : decode cX7_house 23 = .ok (.iconst 2, 1) := by decide +kernel
theorem dX7_house_24 : decode cX7_house 24 = .ok (.if_icmp .eq 6, 3) := by decide +kernel
theorem dX7_house_27 : decode cX7_house 27 = .ok (.bipush (-103), 2) := by decide +kernel
theorem dX7_house_29 : decode cX7_house 29 = .ok (.ireturn, 1) := by decide +kernel
theorem dX7_house_30 : decode cX7_house 30 = .ok (.aload_n 0, 1) := by decide +kernel
theorem dX7_house_31 : decode cX7_house 31 = .ok (.aload_n 0, 1) := by decide +kernel
theorem dX7_house_32 : decode cX7_house 32 = .ok (.getfield 53, 3) := by decide +kernel
theorem dX7_house_35 : decode cX7_house 35 = .ok (.putfield 75, 3) := by decide +kernel
theorem dX7_house_38 : decode cX7_house 38 = .ok (.aload_n 0, 1) := by decide +kernel
theorem dX7_house_39 : decode cX7_house 39 = .ok (.getfield 13, 3) := by decide +kernel
theorem dX7_house_42 : decode cX7_house 42 = .ok (.aload_n 0, 1) := by decide +kernel
theorem dX7_house_43 : decode cX7_house 43 = .ok (.getfield 19, 3) := by decide +kernel
theorem dX7_house_46 : decode cX7_house 46 = .ok (.invokestatic 78, 3) := by decide +kernel
theorem dX7_house_49 : decode cX7_house 49 = .ok (.iconst 0, 1) := by decide +kernel
theorem dX7_house_50 : decode cX7_house 50 = .ok (.istore_n 1, 1) := by decide +kernel
theorem dX7_house_51 : decode cX7_house 51 = .ok (.iload_n 1, 1) := by decide +kernel
theorem dX7_house_52 : decode cX7_house 52 = .ok (.aload_n 0, 1) := by decide +kernel
theorem dX7_house_53 : decode cX7_house 53 = .ok (.getfield 75, 3) := by decide +kernel
theorem dX7_house_56 : decode cX7_house 56 = .ok (.if_icmp .ge 67, 3) := by decide +kernel
theorem dX7_house_59 : decode cX7_house 59 = .ok (.aload_n 0, 1) := by decide +kernel
theorem dX7_house_60 : decode cX7_house 60 = .ok (.getfield 22, 3) := by decide +kernel
theorem dX7_house_63 : decode cX7_house 63 = .ok (.iconst 4, 1) := by decide +kernel
theorem dX7_house_64 : decode cX7_house 64 = .ok (.iload_n 1, 1) := by decide +kernel
theorem dX7_house_65 : decode cX7_house 65 = .ok (.imul, 1) := by decide +kernel
theorem dX7_house_66 : decode cX7_house 66 = .ok (.aload_n 0, 1) := by decide +kernel
theorem dX7_house_67 : decode cX7_house 67 = .ok (.getfield 16, 3) := by decide +kernel
theorem dX7_house_70 : decode cX7_house 70 = .ok (.iconst 4, 1) := by decide +kernel
theorem dX7_house_71 : decode cX7_house 71 = .ok (.iload_n 1, 1) := by decide +kernel
theorem dX7_house_72 : decode cX7_house 72 = .ok (.imul, 1) := by decide +kernel
theorem dX7_house_73 : decode cX7_house 73 = .ok (.iaload, 1) := by decide +kernel
theorem dX7_house_74 : decode cX7_house 74 = .ok (.iastore, 1) := by decide +kernel
theorem dX7_house_75 : decode cX7_house 75 = .ok (.aload_n 0, 1) := by decide +kernel
theorem dX7_house_76 : decode cX7_house 76 = .ok (.getfield 22, 3) := by decide +kernel
theorem dX7_house_79 : decode cX7_house 79 = .ok (.iconst 4, 1) := by decide +kernel
theorem dX7_house_80 : decode cX7_house 80 = .ok (.iload_n 1, 1) := by decide +kernel
theorem dX7_house_81 : decode cX7_house 81 = .ok (.imul, 1) := by decide +kernel
theorem dX7_house_82 : decode cX7_house 82 = .ok (.iconst 1, 1) := by decide +kernel
theorem dX7_house_83 : decode cX7_house 83 = .ok (.iadd, 1) := by decide +kernel
theorem dX7_house_84 : decode cX7_house 84 = .ok (.aload_n 0, 1) := by decide +kernel
theorem dX7_house_85 : decode cX7_house 85 = .ok (.getfield 16, 3) := by decide +kernel
theorem dX7_house_88 : decode cX7_house 88 = .ok (.iconst 4, 1) := by decide +kernel
theorem dX7_house_89 : decode cX7_house 89 = .ok (.iload_n 1, 1) := by decide +kernel
theorem dX7_house_90 : decode cX7_house 90 = .ok (.imul, 1) := by decide +kernel
theorem dX7_house_91 : decode cX7_house 91 = .ok (.iconst 1, 1) := by decide +kernel
theorem dX7_house_92 : decode cX7_house 92 = .ok (.iadd, 1) := by decide +kernel
theorem dX7_house_93 : decode cX7_house 93 = .ok (.iaload, 1) := by decide +kernel
theorem dX7_house_94 : decode cX7_house 94 = .ok (.iastore, 1) := by decide +kernel
theorem dX7_house_95 : decode cX7_house 95 = .ok (.aload_n 0, 1) := by decide +kernel
theorem dX7_house_96 : decode cX7_house 96 = .ok (.getfield 22, 3) := by decide +kernel
theorem dX7_house_99 : decode cX7_house 99 = .ok (.iconst 4, 1) := by decide +kernel
theorem dX7_house_100 : decode cX7_house 100 = .ok (.iload_n 1, 1) := by decide +kernel
theorem dX7_house_101 : decode cX7_house 101 = .ok (.imul, 1) := by decide +kernel
theorem dX7_house_102 : decode cX7_house 102 = .ok (.iconst 2, 1) := by decide +kernel
theorem dX7_house_103 : decode cX7_house 103 = .ok (.iadd, 1) := by decide +kernel
theorem dX7_house_104 : decode cX7_house 104 = .ok (.iconst 0, 1) := by decide +kernel
theorem dX7_house_105 : decode cX7_house 105 = .ok (.iastore, 1) := by decide +kernel
theorem dX7_house_106 : decode cX7_house 106 = .ok (.aload_n 0, 1) := by decide +kernel
theorem dX7_house_107 : decode cX7_house 107 = .ok (.getfield 22, 3) := by decide +kernel
theorem dX7_house_110 : decode cX7_house 110 = .ok (.iconst 4, 1) := by decide +kernel
theorem dX7_house_111 : decode cX7_house 111 = .ok (.iload_n 1, 1) := by decide +kernel
theorem dX7_house_112 : decode cX7_house 112 = .ok (.imul, 1) := by decide +kernel
theorem dX7_house_113 : decode cX7_house 113 = .ok (.iconst 3, 1) := by decide +kernel
theorem dX7_house_114 : decode cX7_house 114 = .ok (.iadd, 1) := by decide +kernel
theorem dX7_house_115 : decode cX7_house 115 = .ok (.iconst 0, 1) := by decide +kernel
theorem dX7_house_116 : decode cX7_house 116 = .ok (.iastore, 1) := by decide +kernel
theorem dX7_house_117 : decode cX7_house 117 = .ok (.iinc 1 1, 3) := by decide +kernel
theorem dX7_house_120 : decode cX7_house 120 = .ok (.goto (-69), 3) := by decide +kernel
theorem dX7_house_123 : decode cX7_house 123 = .ok (.aload_n 0, 1) := by decide +kernel
theorem dX7_house_124 : decode cX7_house 124 = .ok (.iconst 0, 1) := by decide +kernel
theorem dX7_house_125 : decode cX7_house 125 = .ok (.putfield 82, 3) := by decide +kernel
theorem dX7_house_128 : decode cX7_house 128 = .ok (.aload_n 0, 1) := by decide +kernel
theorem dX7_house_129 : decode cX7_house 129 = .ok (.iconst 0, 1) := by decide +kernel
theorem dX7_house_130 : decode cX7_house 130 = .ok (.putfield 85, 3) := by decide +kernel
theorem dX7_house_133 : decode cX7_house 133 = .ok (.aload_n 0, 1) := by decide +kernel
theorem dX7_house_134 : decode cX7_house 134 = .ok (.dup, 1) := by decide +kernel
theorem dX7_house_135 : decode cX7_house 135 = .ok (.getfield 88, 3) := by decide +kernel
theorem dX7_house_138 : decode cX7_house 138 = .ok (.iconst 1, 1) := by decide +kernel
theorem dX7_house_139 : decode cX7_house 139 = .ok (.iadd, 1) := by decide +kernel
theorem dX7_house_140 : decode cX7_house 140 = .ok (.putfield 88, 3) := by decide +kernel
theorem dX7_house_143 : decode cX7_house 143 = .ok (.aload_n 0, 1) := by decide +kernel
theorem dX7_house_144 : decode cX7_house 144 = .ok (.iconst 0, 1) := by decide +kernel
theorem dX7_house_145 : decode cX7_house 145 = .ok (.putfield 44, 3) := by decide +kernel
theorem dX7_house_148 : decode cX7_house 148 = .ok (.aload_n 0, 1) := by decide +kernel
theorem dX7_house_149 : decode cX7_house 149 = .ok (.getfield 75, 3) := by decide +kernel
theorem dX7_house_152 : decode cX7_house 152 = .ok (.ireturn, 1) := by decide +kernel
theorem dX7_lacks_0 : decode cX7_lacks 0 = .ok (.aload_n 0, 1) := by decide +kernel
theorem dX7_lacks_1 : decode cX7_lacks 1 = .ok (.getfield 75, 3) := by decide +kernel
theorem dX7_lacks_4 : decode cX7_lacks 4 = .ok (.ifCond .ne 7, 3) := by decide +kernel
theorem dX7_lacks_7 : decode cX7_lacks 7 = .ok (.iconst 1, 1) := by decide +kernel
theorem dX7_lacks_8 : decode cX7_lacks 8 = .ok (.goto 4, 3) := by decide +kernel
theorem dX7_lacks_11 : decode cX7_lacks 11 = .ok (.iconst 0, 1) := by decide +kernel
theorem dX7_lacks_12 : decode cX7_lacks 12 = .ok (.ireturn, 1) := by decide +kernel
theorem dX7_isTap_0 : decode cX7_isTap 0 = .ok (.iload_n 1, 1) := by decide +kernel
theorem dX7_isTap_1 : decode cX7_isTap 1 = .ok (.i2l, 1) := by decide +kernel
theorem dX7_isTap_2 : decode cX7_isTap 2 = .ok (.lconst 0, 1) := by decide +kernel
theorem dX7_isTap_3 : decode cX7_isTap 3 = .ok (.aload_n 0, 1) := by decide +kernel
theorem dX7_isTap_4 : decode cX7_isTap 4 = .ok (.getfield 75, 3) := by decide +kernel
theorem dX7_isTap_7 : decode cX7_isTap 7 = .ok (.iconst 1, 1) := by decide +kernel
theorem dX7_isTap_8 : decode cX7_isTap 8 = .ok (.isub, 1) := by decide +kernel
theorem dX7_isTap_9 : decode cX7_isTap 9 = .ok (.i2l, 1) := by decide +kernel
theorem dX7_isTap_10 : decode cX7_isTap 10 = .ok (.invokestatic 40, 3) := by decide +kernel
theorem dX7_isTap_13 : decode cX7_isTap 13 = .ok (.ireturn, 1) := by decide +kernel
theorem dX7_isSaying_0 : decode cX7_isSaying 0 = .ok (.iload_n 0, 1) := by decide +kernel
theorem dX7_isSaying_1 : decode cX7_isSaying 1 = .ok (.i2l, 1) := by decide +kernel
theorem dX7_isSaying_2 : decode cX7_isSaying 2 = .ok (.lconst 0, 1) := by decide +kernel
theorem dX7_isSaying_3 : decode cX7_isSaying 3 = .ok (.ldc2_w 91, 3) := by decide +kernel
theorem dX7_isSaying_6 : decode cX7_isSaying 6 = .ok (.invokestatic 40, 3) := by decide +kernel
theorem dX7_isSaying_9 : decode cX7_isSaying 9 = .ok (.ireturn, 1) := by decide +kernel
theorem dX7_tellSaying_0 : decode cX7_tellSaying 0 = .ok (.iload_n 2, 1) := by decide +kernel
theorem dX7_tellSaying_1 : decode cX7_tellSaying 1 = .ok (.ifCond .ne 12, 3) := by decide +kernel
theorem dX7_tellSaying_4 : decode cX7_tellSaying 4 = .ok (.aload_n 0, 1) := by decide +kernel
theorem dX7_tellSaying_5 : decode cX7_tellSaying 5 = .ok (.getfield 19, 3) := by decide +kernel
theorem dX7_tellSaying_8 : decode cX7_tellSaying 8 = .ok (.iconst 5, 1) := by decide +kernel
theorem dX7_tellSaying_9 : decode cX7_tellSaying 9 = .ok (.iload_n 1, 1) := by decide +kernel
theorem dX7_tellSaying_10 : decode cX7_tellSaying 10 = .ok (.imul, 1) := by decide +kernel
theorem dX7_tellSaying_11 : decode cX7_tellSaying 11 = .ok (.iaload, 1) := by decide +kernel
theorem dX7_tellSaying_12 : decode cX7_tellSaying 12 = .ok (.ireturn, 1) := by decide +kernel
theorem dX7_tellSaying_13 : decode cX7_tellSaying 13 = .ok (.iload_n 2, 1) := by decide +kernel
theorem dX7_tellSaying_14 : decode cX7_tellSaying 14 = .ok (.i2l, 1) := by decide +kernel
theorem dX7_tellSaying_15 : decode cX7_tellSaying 15 = .ok (.ldc2_w 93, 3) := by decide +kernel
theorem dX7_tellSaying_18 : decode cX7_tellSaying 18 = .ok (.ldc2_w 95, 3) := by decide +kernel
theorem dX7_tellSaying_21 : decode cX7_tellSaying 21 = .ok (.invokestatic 40, 3) := by decide +kernel
theorem dX7_tellSaying_24 : decode cX7_tellSaying 24 = .ok (.ifCond .ne 6, 3) := by decide +kernel
theorem dX7_tellSaying_27 : decode cX7_tellSaying 27 = .ok (.bipush (-102), 2) := by decide +kernel
theorem dX7_tellSaying_29 : decode cX7_tellSaying 29 = .ok (.ireturn, 1) := by decide +kernel
theorem dX7_tellSaying_30 : decode cX7_tellSaying 30 = .ok (.iload_n 2, 1) := by decide +kernel
theorem dX7_tellSaying_31 : decode cX7_tellSaying 31 = .ok (.bipush 10, 2) := by decide +kernel
theorem dX7_tellSaying_33 : decode cX7_tellSaying 33 = .ok (.isub, 1) := by decide +kernel
theorem dX7_tellSaying_34 : decode cX7_tellSaying 34 = .ok (.aload_n 0, 1) := by decide +kernel
theorem dX7_tellSaying_35 : decode cX7_tellSaying 35 = .ok (.getfield 19, 3) := by decide +kernel
theorem dX7_tellSaying_38 : decode cX7_tellSaying 38 = .ok (.iconst 5, 1) := by decide +kernel
theorem dX7_tellSaying_39 : decode cX7_tellSaying 39 = .ok (.iload_n 1, 1) := by decide +kernel
theorem dX7_tellSaying_40 : decode cX7_tellSaying 40 = .ok (.imul, 1) := by decide +kernel
theorem dX7_tellSaying_41 : decode cX7_tellSaying 41 = .ok (.iaload, 1) := by decide +kernel
theorem dX7_tellSaying_42 : decode cX7_tellSaying 42 = .ok (.if_icmp .ge 19, 3) := by decide +kernel
theorem dX7_tellSaying_45 : decode cX7_tellSaying 45 = .ok (.aload_n 0, 1) := by decide +kernel
theorem dX7_tellSaying_46 : decode cX7_tellSaying 46 = .ok (.getfield 19, 3) := by decide +kernel
theorem dX7_tellSaying_49 : decode cX7_tellSaying 49 = .ok (.iconst 5, 1) := by decide +kernel
theorem dX7_tellSaying_50 : decode cX7_tellSaying 50 = .ok (.iload_n 1, 1) := by decide +kernel
theorem dX7_tellSaying_51 : decode cX7_tellSaying 51 = .ok (.imul, 1) := by decide +kernel
theorem dX7_tellSaying_52 : decode cX7_tellSaying 52 = .ok (.iload_n 2, 1) := by decide +kernel
theorem dX7_tellSaying_53 : decode cX7_tellSaying 53 = .ok (.iadd, 1) := by decide +kernel
theorem dX7_tellSaying_54 : decode cX7_tellSaying 54 = .ok (.bipush 9, 2) := by decide +kernel
theorem dX7_tellSaying_56 : decode cX7_tellSaying 56 = .ok (.isub, 1) := by decide +kernel
theorem dX7_tellSaying_57 : decode cX7_tellSaying 57 = .ok (.iaload, 1) := by decide +kernel
theorem dX7_tellSaying_58 : decode cX7_tellSaying 58 = .ok (.goto 4, 3) := by decide +kernel
theorem dX7_tellSaying_61 : decode cX7_tellSaying 61 = .ok (.iconst (-1), 1) := by decide +kernel
theorem dX7_tellSaying_62 : decode cX7_tellSaying 62 = .ok (.ireturn, 1) := by decide +kernel
theorem dX7_saying_0 : decode cX7_saying 0 = .ok (.aload_n 0, 1) := by decide +kernel
theorem dX7_saying_1 : decode cX7_saying 1 = .ok (.invokevirtual 97, 3) := by decide +kernel
theorem dX7_saying_4 : decode cX7_saying 4 = .ok (.ifCond .ne 19, 3) := by decide +kernel
theorem dX7_saying_7 : decode cX7_saying 7 = .ok (.iload_n 1, 1) := by decide +kernel
theorem dX7_saying_8 : decode cX7_saying 8 = .ok (.invokestatic 101, 3) := by decide +kernel
theorem dX7_saying_11 : decode cX7_saying 11 = .ok (.ifCond .eq 12, 3) := by decide +kernel
theorem dX7_saying_14 : decode cX7_saying 14 = .ok (.aload_n 0, 1) := by decide +kernel
theorem dX7_saying_15 : decode cX7_saying 15 = .ok (.iload_n 1, 1) := by decide +kernel
theorem dX7_saying_16 : decode cX7_saying 16 = .ok (.iload_n 2, 1) := by decide +kernel
theorem dX7_saying_17 : decode cX7_saying 17 = .ok (.invokevirtual 104, 3) := by decide +kernel
theorem dX7_saying_20 : decode cX7_saying 20 = .ok (.goto 5, 3) := by decide +kernel
theorem dX7_saying_23 : decode cX7_saying 23 = .ok (.bipush (-101), 2) := by decide +kernel
theorem dX7_saying_25 : decode cX7_saying 25 = .ok (.ireturn, 1) := by decide +kernel
theorem dX7_dripBy_0 : decode cX7_dripBy 0 = .ok (.aload_n 0, 1) := by decide +kernel
theorem dX7_dripBy_1 : decode cX7_dripBy 1 = .ok (.getfield 19, 3) := by decide +kernel
theorem dX7_dripBy_4 : decode cX7_dripBy 4 = .ok (.iconst 5, 1) := by decide +kernel
theorem dX7_dripBy_5 : decode cX7_dripBy 5 = .ok (.iload_n 3, 1) := by decide +kernel
theorem dX7_dripBy_6 : decode cX7_dripBy 6 = .ok (.imul, 1) := by decide +kernel
theorem dX7_dripBy_7 : decode cX7_dripBy 7 = .ok (.iaload, 1) := by decide +kernel
theorem dX7_dripBy_8 : decode cX7_dripBy 8 = .ok (.istore 5, 2) := by decide +kernel
theorem dX7_dripBy_10 : decode cX7_dripBy 10 = .ok (.iload 4, 2) := by decide +kernel
theorem dX7_dripBy_12 : decode cX7_dripBy 12 = .ok (.iload 5, 2) := by decide +kernel
theorem dX7_dripBy_14 : decode cX7_dripBy 14 = .ok (.irem, 1) := by decide +kernel
theorem dX7_dripBy_15 : decode cX7_dripBy 15 = .ok (.istore 6, 2) := by decide +kernel
theorem dX7_dripBy_17 : decode cX7_dripBy 17 = .ok (.iload_n 1, 1) := by decide +kernel
theorem dX7_dripBy_18 : decode cX7_dripBy 18 = .ok (.iconst 1, 1) := by decide +kernel
theorem dX7_dripBy_19 : decode cX7_dripBy 19 = .ok (.if_icmp .eq 8, 3) := by decide +kernel
theorem dX7_dripBy_22 : decode cX7_dripBy 22 = .ok (.iload_n 1, 1) := by decide +kernel
theorem dX7_dripBy_23 : decode cX7_dripBy 23 = .ok (.iconst 4, 1) := by decide +kernel
theorem dX7_dripBy_24 : decode cX7_dripBy 24 = .ok (.if_icmp .ne 13, 3) := by decide +kernel
theorem dX7_dripBy_27 : decode cX7_dripBy 27 = .ok (.iload 5, 2) := by decide +kernel
theorem dX7_dripBy_29 : decode cX7_dripBy 29 = .ok (.iconst 1, 1) := by decide +kernel
theorem dX7_dripBy_30 : decode cX7_dripBy 30 = .ok (.isub, 1) := by decide +kernel
theorem dX7_dripBy_31 : decode cX7_dripBy 31 = .ok (.iload 6, 2) := by decide +kernel
theorem dX7_dripBy_33 : decode cX7_dripBy 33 = .ok (.isub, 1) := by decide +kernel
theorem dX7_dripBy_34 : decode cX7_dripBy 34 = .ok (.goto 5, 3) := by decide +kernel
theorem dX7_dripBy_37 : decode cX7_dripBy 37 = .ok (.iload 6, 2) := by decide +kernel
theorem dX7_dripBy_39 : decode cX7_dripBy 39 = .ok (.istore 7, 2) := by decide +kernel
theorem dX7_dripBy_41 : decode cX7_dripBy 41 = .ok (.aload_n 0, 1) := by decide +kernel
theorem dX7_dripBy_42 : decode cX7_dripBy 42 = .ok (.getfield 19, 3) := by decide +kernel
theorem dX7_dripBy_45 : decode cX7_dripBy 45 = .ok (.iconst 5, 1) := by decide +kernel
theorem dX7_dripBy_46 : decode cX7_dripBy 46 = .ok (.iload_n 3, 1) := by decide +kernel
theorem dX7_dripBy_47 : decode cX7_dripBy 47 = .ok (.imul, 1) := by decide +kernel
theorem dX7_dripBy_48 : decode cX7_dripBy 48 = .ok (.iconst 1, 1) := by decide +kernel
theorem dX7_dripBy_49 : decode cX7_dripBy 49 = .ok (.iadd, 1) := by decide +kernel
theorem dX7_dripBy_50 : decode cX7_dripBy 50 = .ok (.iload 7, 2) := by decide +kernel
theorem dX7_dripBy_52 : decode cX7_dripBy 52 = .ok (.iadd, 1) := by decide +kernel
theorem dX7_dripBy_53 : decode cX7_dripBy 53 = .ok (.iaload, 1) := by decide +kernel
theorem dX7_dripBy_54 : decode cX7_dripBy 54 = .ok (.istore 8, 2) := by decide +kernel
theorem dX7_dripBy_56 : decode cX7_dripBy 56 = .ok (.iload_n 1, 1) := by decide +kernel
theorem dX7_dripBy_57 : decode cX7_dripBy 57 = .ok (.iconst 2, 1) := by decide +kernel
theorem dX7_dripBy_58 : decode cX7_dripBy 58 = .ok (.if_icmp .ne 14, 3) := by decide +kernel
theorem dX7_dripBy_61 : decode cX7_dripBy 61 = .ok (.iload 4, 2) := by decide +kernel
theorem dX7_dripBy_63 : decode cX7_dripBy 63 = .ok (.iconst 2, 1) := by decide +kernel
theorem dX7_dripBy_64 : decode cX7_dripBy 64 = .ok (.irem, 1) := by decide +kernel
theorem dX7_dripBy_65 : decode cX7_dripBy 65 = .ok (.iconst 1, 1) := by decide +kernel
theorem dX7_dripBy_66 : decode cX7_dripBy 66 = .ok (.if_icmp .ne 6, 3) := by decide +kernel
theorem dX7_dripBy_69 : decode cX7_dripBy 69 = .ok (.iconst 0, 1) := by decide +kernel
theorem dX7_dripBy_70 : decode cX7_dripBy 70 = .ok (.istore 8, 2) := by decide +kernel
theorem dX7_dripBy_72 : decode cX7_dripBy 72 = .ok (.iload_n 1, 1) := by decide +kernel
theorem dX7_dripBy_73 : decode cX7_dripBy 73 = .ok (.iconst 3, 1) := by decide +kernel
theorem dX7_dripBy_74 : decode cX7_dripBy 74 = .ok (.if_icmp .ne 11, 3) := by decide +kernel
theorem dX7_dripBy_77 : decode cX7_dripBy 77 = .ok (.iload 6, 2) := by decide +kernel
theorem dX7_dripBy_79 : decode cX7_dripBy 79 = .ok (.ifCond .ne 6, 3) := by decide +kernel
theorem dX7_dripBy_82 : decode cX7_dripBy 82 = .ok (.iconst 1, 1) := by decide +kernel
theorem dX7_dripBy_83 : decode cX7_dripBy 83 = .ok (.istore 8, 2) := by decide +kernel
theorem dX7_dripBy_85 : decode cX7_dripBy 85 = .ok (.iload_n 1, 1) := by decide +kernel
theorem dX7_dripBy_86 : decode cX7_dripBy 86 = .ok (.iconst 4, 1) := by decide +kernel
theorem dX7_dripBy_87 : decode cX7_dripBy 87 = .ok (.if_icmp .ne 9, 3) := by decide +kernel
theorem dX7_dripBy_90 : decode cX7_dripBy 90 = .ok (.iconst 1, 1) := by decide +kernel
theorem dX7_dripBy_91 : decode cX7_dripBy 91 = .ok (.iload 8, 2) := by decide +kernel
theorem dX7_dripBy_93 : decode cX7_dripBy 93 = .ok (.isub, 1) := by decide +kernel
theorem dX7_dripBy_94 : decode cX7_dripBy 94 = .ok (.istore 8, 2) := by decide +kernel
theorem dX7_dripBy_96 : decode cX7_dripBy 96 = .ok (.iload_n 2, 1) := by decide +kernel
theorem dX7_dripBy_97 : decode cX7_dripBy 97 = .ok (.iconst 1, 1) := by decide +kernel
theorem dX7_dripBy_98 : decode cX7_dripBy 98 = .ok (.if_icmp .ne 10, 3) := by decide +kernel
theorem dX7_dripBy_101 : decode cX7_dripBy 101 = .ok (.iconst 1, 1) := by decide +kernel
theorem dX7_dripBy_102 : decode cX7_dripBy 102 = .ok (.iload 8, 2) := by decide +kernel
theorem dX7_dripBy_104 : decode cX7_dripBy 104 = .ok (.isub, 1) := by decide +kernel
theorem dX7_dripBy_105 : decode cX7_dripBy 105 = .ok (.goto 5, 3) := by decide +kernel
theorem dX7_dripBy_108 : decode cX7_dripBy 108 = .ok (.iload 8, 2) := by decide +kernel
theorem dX7_dripBy_110 : decode cX7_dripBy 110 = .ok (.ireturn, 1) := by decide +kernel
theorem dX7_dripAs_0 : decode cX7_dripAs 0 = .ok (.aload_n 0, 1) := by decide +kernel
theorem dX7_dripAs_1 : decode cX7_dripAs 1 = .ok (.aload_n 0, 1) := by decide +kernel
theorem dX7_dripAs_2 : decode cX7_dripAs 2 = .ok (.getfield 22, 3) := by decide +kernel
theorem dX7_dripAs_5 : decode cX7_dripAs 5 = .ok (.iconst 4, 1) := by decide +kernel
theorem dX7_dripAs_6 : decode cX7_dripAs 6 = .ok (.iload_n 1, 1) := by decide +kernel
theorem dX7_dripAs_7 : decode cX7_dripAs 7 = .ok (.imul, 1) := by decide +kernel
theorem dX7_dripAs_8 : decode cX7_dripAs 8 = .ok (.iaload, 1) := by decide +kernel
theorem dX7_dripAs_9 : decode cX7_dripAs 9 = .ok (.aload_n 0, 1) := by decide +kernel
theorem dX7_dripAs_10 : decode cX7_dripAs 10 = .ok (.getfield 22, 3) := by decide +kernel
theorem dX7_dripAs_13 : decode cX7_dripAs 13 = .ok (.iconst 4, 1) := by decide +kernel
theorem dX7_dripAs_14 : decode cX7_dripAs 14 = .ok (.iload_n 1, 1) := by decide +kernel
theorem dX7_dripAs_15 : decode cX7_dripAs 15 = .ok (.imul, 1) := by decide +kernel
theorem dX7_dripAs_16 : decode cX7_dripAs 16 = .ok (.iconst 2, 1) := by decide +kernel
theorem dX7_dripAs_17 : decode cX7_dripAs 17 = .ok (.iadd, 1) := by decide +kernel
theorem dX7_dripAs_18 : decode cX7_dripAs 18 = .ok (.iaload, 1) := by decide +kernel
theorem dX7_dripAs_19 : decode cX7_dripAs 19 = .ok (.iload_n 2, 1) := by decide +kernel
theorem dX7_dripAs_20 : decode cX7_dripAs 20 = .ok (.iload_n 3, 1) := by decide +kernel
theorem dX7_dripAs_21 : decode cX7_dripAs 21 = .ok (.invokevirtual 108, 3) := by decide +kernel
theorem dX7_dripAs_24 : decode cX7_dripAs 24 = .ok (.ireturn, 1) := by decide +kernel
theorem dX7_dripOf_0 : decode cX7_dripOf 0 = .ok (.aload_n 0, 1) := by decide +kernel
theorem dX7_dripOf_1 : decode cX7_dripOf 1 = .ok (.iload_n 1, 1) := by decide +kernel
theorem dX7_dripOf_2 : decode cX7_dripOf 2 = .ok (.aload_n 0, 1) := by decide +kernel
theorem dX7_dripOf_3 : decode cX7_dripOf 3 = .ok (.getfield 22, 3) := by decide +kernel
theorem dX7_dripOf_6 : decode cX7_dripOf 6 = .ok (.iconst 4, 1) := by decide +kernel
theorem dX7_dripOf_7 : decode cX7_dripOf 7 = .ok (.iload_n 1, 1) := by decide +kernel
theorem dX7_dripOf_8 : decode cX7_dripOf 8 = .ok (.imul, 1) := by decide +kernel
theorem dX7_dripOf_9 : decode cX7_dripOf 9 = .ok (.iconst 1, 1) := by decide +kernel
theorem dX7_dripOf_10 : decode cX7_dripOf 10 = .ok (.iadd, 1) := by decide +kernel
theorem dX7_dripOf_11 : decode cX7_dripOf 11 = .ok (.iaload, 1) := by decide +kernel
theorem dX7_dripOf_12 : decode cX7_dripOf 12 = .ok (.iload_n 2, 1) := by decide +kernel
theorem dX7_dripOf_13 : decode cX7_dripOf 13 = .ok (.invokevirtual 112, 3) := by decide +kernel
theorem dX7_dripOf_16 : decode cX7_dripOf 16 = .ok (.ireturn, 1) := by decide +kernel
theorem dX7_tap_0 : decode cX7_tap 0 = .ok (.iload_n 1, 1) := by decide +kernel
theorem dX7_tap_1 : decode cX7_tap 1 = .ok (.i2l, 1) := by decide +kernel
theorem dX7_tap_2 : decode cX7_tap 2 = .ok (.lconst 0, 1) := by decide +kernel
theorem dX7_tap_3 : decode cX7_tap 3 = .ok (.ldc2_w 116, 3) := by decide +kernel
theorem dX7_tap_6 : decode cX7_tap 6 = .ok (.invokestatic 40, 3) := by decide +kernel
theorem dX7_tap_9 : decode cX7_tap 9 = .ok (.ifCond .eq 10, 3) := by decide +kernel
theorem dX7_tap_12 : decode cX7_tap 12 = .ok (.iload_n 2, 1) := by decide +kernel
theorem dX7_tap_13 : decode cX7_tap 13 = .ok (.invokestatic 101, 3) := by decide +kernel
theorem dX7_tap_16 : decode cX7_tap 16 = .ok (.ifCond .ne 6, 3) := by decide +kernel
theorem dX7_tap_19 : decode cX7_tap 19 = .ok (.bipush (-102), 2) := by decide +kernel
theorem dX7_tap_21 : decode cX7_tap 21 = .ok (.ireturn, 1) := by decide +kernel
theorem dX7_tap_22 : decode cX7_tap 22 = .ok (.aload_n 0, 1) := by decide +kernel
theorem dX7_tap_23 : decode cX7_tap 23 = .ok (.invokevirtual 97, 3) := by decide +kernel
theorem dX7_tap_26 : decode cX7_tap 26 = .ok (.ifCond .eq 6, 3) := by decide +kernel
theorem dX7_tap_29 : decode cX7_tap 29 = .ok (.bipush (-103), 2) := by decide +kernel
theorem dX7_tap_31 : decode cX7_tap 31 = .ok (.ireturn, 1) := by decide +kernel
theorem dX7_tap_32 : decode cX7_tap 32 = .ok (.aload_n 0, 1) := by decide +kernel
theorem dX7_tap_33 : decode cX7_tap 33 = .ok (.getfield 75, 3) := by decide +kernel
theorem dX7_tap_36 : decode cX7_tap 36 = .ok (.iconst 5, 1) := by decide +kernel
theorem dX7_tap_37 : decode cX7_tap 37 = .ok (.if_icmp .ne 6, 3) := by decide +kernel
theorem dX7_tap_40 : decode cX7_tap 40 = .ok (.bipush (-104), 2) := by decide +kernel
theorem dX7_tap_42 : decode cX7_tap 42 = .ok (.ireturn, 1) := by decide +kernel
theorem dX7_tap_43 : decode cX7_tap 43 = .ok (.aload_n 0, 1) := by decide +kernel
theorem dX7_tap_44 : decode cX7_tap 44 = .ok (.getfield 22, 3) := by decide +kernel
theorem dX7_tap_47 : decode cX7_tap 47 = .ok (.iconst 4, 1) := by decide +kernel
theorem dX7_tap_48 : decode cX7_tap 48 = .ok (.aload_n 0, 1) := by decide +kernel
theorem dX7_tap_49 : decode cX7_tap 49 = .ok (.getfield 75, 3) := by decide +kernel
theorem dX7_tap_52 : decode cX7_tap 52 = .ok (.imul, 1) := by decide +kernel
theorem dX7_tap_53 : decode cX7_tap 53 = .ok (.iload_n 1, 1) := by decide +kernel
theorem dX7_tap_54 : decode cX7_tap 54 = .ok (.iastore, 1) := by decide +kernel
theorem dX7_tap_55 : decode cX7_tap 55 = .ok (.aload_n 0, 1) := by decide +kernel
theorem dX7_tap_56 : decode cX7_tap 56 = .ok (.getfield 22, 3) := by decide +kernel
theorem dX7_tap_59 : decode cX7_tap 59 = .ok (.iconst 4, 1) := by decide +kernel
theorem dX7_tap_60 : decode cX7_tap 60 = .ok (.aload_n 0, 1) := by decide +kernel
theorem dX7_tap_61 : decode cX7_tap 61 = .ok (.getfield 75, 3) := by decide +kernel
theorem dX7_tap_64 : decode cX7_tap 64 = .ok (.imul, 1) := by decide +kernel
theorem dX7_tap_65 : decode cX7_tap 65 = .ok (.iconst 1, 1) := by decide +kernel
theorem dX7_tap_66 : decode cX7_tap 66 = .ok (.iadd, 1) := by decide +kernel
theorem dX7_tap_67 : decode cX7_tap 67 = .ok (.iload_n 2, 1) := by decide +kernel
theorem dX7_tap_68 : decode cX7_tap 68 = .ok (.iastore, 1) := by decide +kernel
theorem dX7_tap_69 : decode cX7_tap 69 = .ok (.aload_n 0, 1) := by decide +kernel
theorem dX7_tap_70 : decode cX7_tap 70 = .ok (.getfield 22, 3) := by decide +kernel
theorem dX7_tap_73 : decode cX7_tap 73 = .ok (.iconst 4, 1) := by decide +kernel
theorem dX7_tap_74 : decode cX7_tap 74 = .ok (.aload_n 0, 1) := by decide +kernel
theorem dX7_tap_75 : decode cX7_tap 75 = .ok (.getfield 75, 3) := by decide +kernel
theorem dX7_tap_78 : decode cX7_tap 78 = .ok (.imul, 1) := by decide +kernel
theorem dX7_tap_79 : decode cX7_tap 79 = .ok (.iconst 2, 1) := by decide +kernel
theorem dX7_tap_80 : decode cX7_tap 80 = .ok (.iadd, 1) := by decide +kernel
theorem dX7_tap_81 : decode cX7_tap 81 = .ok (.iconst 0, 1) := by decide +kernel
theorem dX7_tap_82 : decode cX7_tap 82 = .ok (.iastore, 1) := by decide +kernel
theorem dX7_tap_83 : decode cX7_tap 83 = .ok (.aload_n 0, 1) := by decide +kernel
theorem dX7_tap_84 : decode cX7_tap 84 = .ok (.getfield 22, 3) := by decide +kernel
theorem dX7_tap_87 : decode cX7_tap 87 = .ok (.iconst 4, 1) := by decide +kernel
theorem dX7_tap_88 : decode cX7_tap 88 = .ok (.aload_n 0, 1) := by decide +kernel
theorem dX7_tap_89 : decode cX7_tap 89 = .ok (.getfield 75, 3) := by decide +kernel
theorem dX7_tap_92 : decode cX7_tap 92 = .ok (.imul, 1) := by decide +kernel
theorem dX7_tap_93 : decode cX7_tap 93 = .ok (.iconst 3, 1) := by decide +kernel
theorem dX7_tap_94 : decode cX7_tap 94 = .ok (.iadd, 1) := by decide +kernel
theorem dX7_tap_95 : decode cX7_tap 95 = .ok (.iconst 0, 1) := by decide +kernel
theorem dX7_tap_96 : decode cX7_tap 96 = .ok (.iastore, 1) := by decide +kernel
theorem dX7_tap_97 : decode cX7_tap 97 = .ok (.aload_n 0, 1) := by decide +kernel
theorem dX7_tap_98 : decode cX7_tap 98 = .ok (.dup, 1) := by decide +kernel
theorem dX7_tap_99 : decode cX7_tap 99 = .ok (.getfield 75, 3) := by decide +kernel
theorem dX7_tap_102 : decode cX7_tap 102 = .ok (.iconst 1, 1) := by decide +kernel
theorem dX7_tap_103 : decode cX7_tap 103 = .ok (.iadd, 1) := by decide +kernel
theorem dX7_tap_104 : decode cX7_tap 104 = .ok (.putfield 75, 3) := by decide +kernel
theorem dX7_tap_107 : decode cX7_tap 107 = .ok (.aload_n 0, 1) := by decide +kernel
theorem dX7_tap_108 : decode cX7_tap 108 = .ok (.getfield 75, 3) := by decide +kernel
theorem dX7_tap_111 : decode cX7_tap 111 = .ok (.iconst 1, 1) := by decide +kernel
theorem dX7_tap_112 : decode cX7_tap 112 = .ok (.isub, 1) := by decide +kernel
theorem dX7_tap_113 : decode cX7_tap 113 = .ok (.ireturn, 1) := by decide +kernel
theorem dX7_patternOf_0 : decode cX7_patternOf 0 = .ok (.iconst 0, 1) := by decide +kernel
theorem dX7_patternOf_1 : decode cX7_patternOf 1 = .ok (.istore 4, 2) := by decide +kernel
theorem dX7_patternOf_3 : decode cX7_patternOf 3 = .ok (.iconst 0, 1) := by decide +kernel
theorem dX7_patternOf_4 : decode cX7_patternOf 4 = .ok (.istore 5, 2) := by decide +kernel
theorem dX7_patternOf_6 : decode cX7_patternOf 6 = .ok (.iload 5, 2) := by decide +kernel
theorem dX7_patternOf_8 : decode cX7_patternOf 8 = .ok (.iload_n 3, 1) := by decide +kernel
theorem dX7_patternOf_9 : decode cX7_patternOf 9 = .ok (.if_icmp .ge 36, 3) := by decide +kernel
theorem dX7_patternOf_12 : decode cX7_patternOf 12 = .ok (.iload 4, 2) := by decide +kernel
theorem dX7_patternOf_14 : decode cX7_patternOf 14 = .ok (.aload_n 0, 1) := by decide +kernel
theorem dX7_patternOf_15 : decode cX7_patternOf 15 = .ok (.iload_n 1, 1) := by decide +kernel
theorem dX7_patternOf_16 : decode cX7_patternOf 16 = .ok (.iload_n 2, 1) := by decide +kernel
theorem dX7_patternOf_17 : decode cX7_patternOf 17 = .ok (.aload_n 0, 1) := by decide +kernel
theorem dX7_patternOf_18 : decode cX7_patternOf 18 = .ok (.getfield 22, 3) := by decide +kernel
theorem dX7_patternOf_21 : decode cX7_patternOf 21 = .ok (.iconst 4, 1) := by decide +kernel
theorem dX7_patternOf_22 : decode cX7_patternOf 22 = .ok (.iload_n 1, 1) := by decide +kernel
theorem dX7_patternOf_23 : decode cX7_patternOf 23 = .ok (.imul, 1) := by decide +kernel
theorem dX7_patternOf_24 : decode cX7_patternOf 24 = .ok (.iconst 3, 1) := by decide +kernel
theorem dX7_patternOf_25 : decode cX7_patternOf 25 = .ok (.iadd, 1) := by decide +kernel
theorem dX7_patternOf_26 : decode cX7_patternOf 26 = .ok (.iaload, 1) := by decide +kernel
theorem dX7_patternOf_27 : decode cX7_patternOf 27 = .ok (.iload 5, 2) := by decide +kernel
theorem dX7_patternOf_29 : decode cX7_patternOf 29 = .ok (.iadd, 1) := by decide +kernel
theorem dX7_patternOf_30 : decode cX7_patternOf 30 = .ok (.invokevirtual 112, 3) := by decide +kernel
theorem dX7_patternOf_33 : decode cX7_patternOf 33 = .ok (.iload 5, 2) := by decide +kernel
theorem dX7_patternOf_35 : decode cX7_patternOf 35 = .ok (.ishl, 1) := by decide +kernel
theorem dX7_patternOf_36 : decode cX7_patternOf 36 = .ok (.ior, 1) := by decide +kernel
theorem dX7_patternOf_37 : decode cX7_patternOf 37 = .ok (.istore 4, 2) := by decide +kernel
theorem dX7_patternOf_39 : decode cX7_patternOf 39 = .ok (.iinc 5 1, 3) := by decide +kernel
theorem dX7_patternOf_42 : decode cX7_patternOf 42 = .ok (.goto (-36), 3) := by decide +kernel
theorem dX7_patternOf_45 : decode cX7_patternOf 45 = .ok (.iload 4, 2) := by decide +kernel
theorem dX7_patternOf_47 : decode cX7_patternOf 47 = .ok (.ireturn, 1) := by decide +kernel
theorem dX7_sureOf_0 : decode cX7_sureOf 0 = .ok (.iconst 1, 1) := by decide +kernel
theorem dX7_sureOf_1 : decode cX7_sureOf 1 = .ok (.istore_n 2, 1) := by decide +kernel
theorem dX7_sureOf_2 : decode cX7_sureOf 2 = .ok (.iload_n 2, 1) := by decide +kernel
theorem dX7_sureOf_3 : decode cX7_sureOf 3 = .ok (.bipush 17, 2) := by decide +kernel
theorem dX7_sureOf_5 : decode cX7_sureOf 5 = .ok (.if_icmp .ge 77, 3) := by decide +kernel
theorem dX7_sureOf_8 : decode cX7_sureOf 8 = .ok (.iconst 1, 1) := by decide +kernel
theorem dX7_sureOf_9 : decode cX7_sureOf 9 = .ok (.istore_n 3, 1) := by decide +kernel
theorem dX7_sureOf_10 : decode cX7_sureOf 10 = .ok (.iconst 0, 1) := by decide +kernel
theorem dX7_sureOf_11 : decode cX7_sureOf 11 = .ok (.istore 4, 2) := by decide +kernel
theorem dX7_sureOf_13 : decode cX7_sureOf 13 = .ok (.iload 4, 2) := by decide +kernel
theorem dX7_sureOf_15 : decode cX7_sureOf 15 = .ok (.iconst 4, 1) := by decide +kernel
theorem dX7_sureOf_16 : decode cX7_sureOf 16 = .ok (.if_icmp .ge 54, 3) := by decide +kernel
theorem dX7_sureOf_19 : decode cX7_sureOf 19 = .ok (.iconst 0, 1) := by decide +kernel
theorem dX7_sureOf_20 : decode cX7_sureOf 20 = .ok (.istore 5, 2) := by decide +kernel
theorem dX7_sureOf_22 : decode cX7_sureOf 22 = .ok (.iload 5, 2) := by decide +kernel
theorem dX7_sureOf_24 : decode cX7_sureOf 24 = .ok (.iload 4, 2) := by decide +kernel
theorem dX7_sureOf_26 : decode cX7_sureOf 26 = .ok (.if_icmp .ge 38, 3) := by decide +kernel
theorem dX7_sureOf_29 : decode cX7_sureOf 29 = .ok (.iload_n 3, 1) := by decide +kernel
theorem dX7_sureOf_30 : decode cX7_sureOf 30 = .ok (.ifCond .eq 26, 3) := by decide +kernel
theorem dX7_sureOf_33 : decode cX7_sureOf 33 = .ok (.aload_n 0, 1) := by decide +kernel
theorem dX7_sureOf_34 : decode cX7_sureOf 34 = .ok (.iload_n 1, 1) := by decide +kernel
theorem dX7_sureOf_35 : decode cX7_sureOf 35 = .ok (.iload 4, 2) := by decide +kernel
theorem dX7_sureOf_37 : decode cX7_sureOf 37 = .ok (.iload_n 2, 1) := by decide +kernel
theorem dX7_sureOf_38 : decode cX7_sureOf 38 = .ok (.invokevirtual 118, 3) := by decide +kernel
theorem dX7_sureOf_41 : decode cX7_sureOf 41 = .ok (.aload_n 0, 1) := by decide +kernel
theorem dX7_sureOf_42 : decode cX7_sureOf 42 = .ok (.iload_n 1, 1) := by decide +kernel
theorem dX7_sureOf_43 : decode cX7_sureOf 43 = .ok (.iload 5, 2) := by decide +kernel
theorem dX7_sureOf_45 : decode cX7_sureOf 45 = .ok (.iload_n 2, 1) := by decide +kernel
theorem dX7_sureOf_46 : decode cX7_sureOf 46 = .ok (.invokevirtual 118, 3) := by decide +kernel
theorem dX7_sureOf_49 : decode cX7_sureOf 49 = .ok (.if_icmp .eq 7, 3) := by decide +kernel
theorem dX7_sureOf_52 : decode cX7_sureOf 52 = .ok (.iconst 1, 1) := by decide +kernel
theorem dX7_sureOf_53 : decode cX7_sureOf 53 = .ok (.goto 4, 3) := by decide +kernel
theorem dX7_sureOf_56 : decode cX7_sureOf 56 = .ok (.iconst 0, 1) := by decide +kernel
theorem dX7_sureOf_57 : decode cX7_sureOf 57 = .ok (.istore_n 3, 1) := by decide +kernel
theorem dX7_sureOf_58 : decode cX7_sureOf 58 = .ok (.iinc 5 1, 3) := by decide +kernel
theorem dX7_sureOf_61 : decode cX7_sureOf 61 = .ok (.goto (-39), 3) := by decide +kernel
theorem dX7_sureOf_64 : decode cX7_sureOf 64 = .ok (.iinc 4 1, 3) := by decide +kernel
theorem dX7_sureOf_67 : decode cX7_sureOf 67 = .ok (.goto (-54), 3) := by decide +kernel
theorem dX7_sureOf_70 : decode cX7_sureOf 70 = .ok (.iload_n 3, 1) := by decide +kernel
theorem dX7_sureOf_71 : decode cX7_sureOf 71 = .ok (.ifCond .eq 5, 3) := by decide +kernel
theorem dX7_sureOf_74 : decode cX7_sureOf 74 = .ok (.iload_n 2, 1) := by decide +kernel
theorem dX7_sureOf_75 : decode cX7_sureOf 75 = .ok (.ireturn, 1) := by decide +kernel
theorem dX7_sureOf_76 : decode cX7_sureOf 76 = .ok (.iinc 2 1, 3) := by decide +kernel
theorem dX7_sureOf_79 : decode cX7_sureOf 79 = .ok (.goto (-77), 3) := by decide +kernel
theorem dX7_sureOf_82 : decode cX7_sureOf 82 = .ok (.iconst (-1), 1) := by decide +kernel
theorem dX7_sureOf_83 : decode cX7_sureOf 83 = .ok (.ireturn, 1) := by decide +kernel
theorem dX7_tell_0 : decode cX7_tell 0 = .ok (.iload_n 2, 1) := by decide +kernel
theorem dX7_tell_1 : decode cX7_tell 1 = .ok (.tableswitch 97 0 8 #[51, 51, 51, 51, 62, 68, 74, 80, 91], 51) := by decide +kernel
theorem dX7_tell_52 : decode cX7_tell 52 = .ok (.aload_n 0, 1) := by decide +kernel
theorem dX7_tell_53 : decode cX7_tell 53 = .ok (.getfield 22, 3) := by decide +kernel
theorem dX7_tell_56 : decode cX7_tell 56 = .ok (.iconst 4, 1) := by decide +kernel
theorem dX7_tell_57 : decode cX7_tell 57 = .ok (.iload_n 1, 1) := by decide +kernel
theorem dX7_tell_58 : decode cX7_tell 58 = .ok (.imul, 1) := by decide +kernel
theorem dX7_tell_59 : decode cX7_tell 59 = .ok (.iload_n 2, 1) := by decide +kernel
theorem dX7_tell_60 : decode cX7_tell 60 = .ok (.iadd, 1) := by decide +kernel
theorem dX7_tell_61 : decode cX7_tell 61 = .ok (.iaload, 1) := by decide +kernel
theorem dX7_tell_62 : decode cX7_tell 62 = .ok (.ireturn, 1) := by decide +kernel
theorem dX7_tell_63 : decode cX7_tell 63 = .ok (.aload_n 0, 1) := by decide +kernel
theorem dX7_tell_64 : decode cX7_tell 64 = .ok (.iload_n 1, 1) := by decide +kernel
theorem dX7_tell_65 : decode cX7_tell 65 = .ok (.invokevirtual 121, 3) := by decide +kernel
theorem dX7_tell_68 : decode cX7_tell 68 = .ok (.ireturn, 1) := by decide +kernel
theorem dX7_tell_69 : decode cX7_tell 69 = .ok (.aload_n 0, 1) := by decide +kernel
theorem dX7_tell_70 : decode cX7_tell 70 = .ok (.iload_n 1, 1) := by decide +kernel
theorem dX7_tell_71 : decode cX7_tell 71 = .ok (.invokevirtual 124, 3) := by decide +kernel
theorem dX7_tell_74 : decode cX7_tell 74 = .ok (.ireturn, 1) := by decide +kernel
theorem dX7_tell_75 : decode cX7_tell 75 = .ok (.aload_n 0, 1) := by decide +kernel
theorem dX7_tell_76 : decode cX7_tell 76 = .ok (.iload_n 1, 1) := by decide +kernel
theorem dX7_tell_77 : decode cX7_tell 77 = .ok (.invokevirtual 127, 3) := by decide +kernel
theorem dX7_tell_80 : decode cX7_tell 80 = .ok (.ireturn, 1) := by decide +kernel
theorem dX7_tell_81 : decode cX7_tell 81 = .ok (.aload_n 0, 1) := by decide +kernel
theorem dX7_tell_82 : decode cX7_tell 82 = .ok (.iload_n 1, 1) := by decide +kernel
theorem dX7_tell_83 : decode cX7_tell 83 = .ok (.aload_n 0, 1) := by decide +kernel
theorem dX7_tell_84 : decode cX7_tell 84 = .ok (.iload_n 1, 1) := by decide +kernel
theorem dX7_tell_85 : decode cX7_tell 85 = .ok (.invokevirtual 127, 3) := by decide +kernel
theorem dX7_tell_88 : decode cX7_tell 88 = .ok (.invokevirtual 130, 3) := by decide +kernel
theorem dX7_tell_91 : decode cX7_tell 91 = .ok (.ireturn, 1) := by decide +kernel
theorem dX7_tell_92 : decode cX7_tell 92 = .ok (.aload_n 0, 1) := by decide +kernel
theorem dX7_tell_93 : decode cX7_tell 93 = .ok (.iload_n 1, 1) := by decide +kernel
theorem dX7_tell_94 : decode cX7_tell 94 = .ok (.invokevirtual 133, 3) := by decide +kernel
theorem dX7_tell_97 : decode cX7_tell 97 = .ok (.ireturn, 1) := by decide +kernel
theorem dX7_tell_98 : decode cX7_tell 98 = .ok (.bipush (-102), 2) := by decide +kernel
theorem dX7_tell_100 : decode cX7_tell 100 = .ok (.ireturn, 1) := by decide +kernel
theorem dX7_about_0 : decode cX7_about 0 = .ok (.aload_n 0, 1) := by decide +kernel
theorem dX7_about_1 : decode cX7_about 1 = .ok (.iload_n 1, 1) := by decide +kernel
theorem dX7_about_2 : decode cX7_about 2 = .ok (.invokevirtual 136, 3) := by decide +kernel
theorem dX7_about_5 : decode cX7_about 5 = .ok (.ifCond .eq 12, 3) := by decide +kernel
theorem dX7_about_8 : decode cX7_about 8 = .ok (.aload_n 0, 1) := by decide +kernel
theorem dX7_about_9 : decode cX7_about 9 = .ok (.iload_n 1, 1) := by decide +kernel
theorem dX7_about_10 : decode cX7_about 10 = .ok (.iload_n 2, 1) := by decide +kernel
theorem dX7_about_11 : decode cX7_about 11 = .ok (.invokevirtual 139, 3) := by decide +kernel
theorem dX7_about_14 : decode cX7_about 14 = .ok (.goto 5, 3) := by decide +kernel
theorem dX7_about_17 : decode cX7_about 17 = .ok (.bipush (-101), 2) := by decide +kernel
theorem dX7_about_19 : decode cX7_about 19 = .ok (.ireturn, 1) := by decide +kernel
theorem dX7_as_0 : decode cX7_as 0 = .ok (.aload_n 0, 1) := by decide +kernel
theorem dX7_as_1 : decode cX7_as 1 = .ok (.iload_n 1, 1) := by decide +kernel
theorem dX7_as_2 : decode cX7_as 2 = .ok (.invokevirtual 136, 3) := by decide +kernel
theorem dX7_as_5 : decode cX7_as 5 = .ok (.ifCond .ne 6, 3) := by decide +kernel
theorem dX7_as_8 : decode cX7_as 8 = .ok (.bipush (-101), 2) := by decide +kernel
theorem dX7_as_10 : decode cX7_as 10 = .ok (.ireturn, 1) := by decide +kernel
theorem dX7_as_11 : decode cX7_as 11 = .ok (.iload_n 2, 1) := by decide +kernel
theorem dX7_as_12 : decode cX7_as 12 = .ok (.i2l, 1) := by decide +kernel
theorem dX7_as_13 : decode cX7_as 13 = .ok (.lconst 0, 1) := by decide +kernel
theorem dX7_as_14 : decode cX7_as 14 = .ok (.ldc2_w 116, 3) := by decide +kernel
theorem dX7_as_17 : decode cX7_as 17 = .ok (.invokestatic 40, 3) := by decide +kernel
theorem dX7_as_20 : decode cX7_as 20 = .ok (.ifCond .ne 6, 3) := by decide +kernel
theorem dX7_as_23 : decode cX7_as 23 = .ok (.bipush (-102), 2) := by decide +kernel
theorem dX7_as_25 : decode cX7_as 25 = .ok (.ireturn, 1) := by decide +kernel
theorem dX7_as_26 : decode cX7_as 26 = .ok (.aload_n 0, 1) := by decide +kernel
theorem dX7_as_27 : decode cX7_as 27 = .ok (.getfield 22, 3) := by decide +kernel
theorem dX7_as_30 : decode cX7_as 30 = .ok (.iconst 4, 1) := by decide +kernel
theorem dX7_as_31 : decode cX7_as 31 = .ok (.iload_n 1, 1) := by decide +kernel
theorem dX7_as_32 : decode cX7_as 32 = .ok (.imul, 1) := by decide +kernel
theorem dX7_as_33 : decode cX7_as 33 = .ok (.iaload, 1) := by decide +kernel
theorem dX7_as_34 : decode cX7_as 34 = .ok (.istore_n 3, 1) := by decide +kernel
theorem dX7_as_35 : decode cX7_as 35 = .ok (.iload_n 2, 1) := by decide +kernel
theorem dX7_as_36 : decode cX7_as 36 = .ok (.ifCond .eq 18, 3) := by decide +kernel
theorem dX7_as_39 : decode cX7_as 39 = .ok (.iload_n 2, 1) := by decide +kernel
theorem dX7_as_40 : decode cX7_as 40 = .ok (.iload_n 3, 1) := by decide +kernel
theorem dX7_as_41 : decode cX7_as 41 = .ok (.if_icmp .eq 13, 3) := by decide +kernel
theorem dX7_as_44 : decode cX7_as 44 = .ok (.iload_n 2, 1) := by decide +kernel
theorem dX7_as_45 : decode cX7_as 45 = .ok (.iconst 1, 1) := by decide +kernel
theorem dX7_as_46 : decode cX7_as 46 = .ok (.if_icmp .ne 12, 3) := by decide +kernel
theorem dX7_as_49 : decode cX7_as 49 = .ok (.iload_n 3, 1) := by decide +kernel
theorem dX7_as_50 : decode cX7_as 50 = .ok (.iconst 4, 1) := by decide +kernel
theorem dX7_as_51 : decode cX7_as 51 = .ok (.if_icmp .ne 7, 3) := by decide +kernel
theorem dX7_as_54 : decode cX7_as 54 = .ok (.iconst 1, 1) := by decide +kernel
theorem dX7_as_55 : decode cX7_as 55 = .ok (.goto 4, 3) := by decide +kernel
theorem dX7_as_58 : decode cX7_as 58 = .ok (.iconst 0, 1) := by decide +kernel
theorem dX7_as_59 : decode cX7_as 59 = .ok (.istore 4, 2) := by decide +kernel
theorem dX7_as_61 : decode cX7_as 61 = .ok (.iload 4, 2) := by decide +kernel
theorem dX7_as_63 : decode cX7_as 63 = .ok (.ifCond .eq 7, 3) := by decide +kernel
theorem dX7_as_66 : decode cX7_as 66 = .ok (.iload_n 1, 1) := by decide +kernel
theorem dX7_as_67 : decode cX7_as 67 = .ok (.goto 4, 3) := by decide +kernel
theorem dX7_as_70 : decode cX7_as 70 = .ok (.iconst (-1), 1) := by decide +kernel
theorem dX7_as_71 : decode cX7_as 71 = .ok (.ireturn, 1) := by decide +kernel
theorem dX7_drip_0 : decode cX7_drip 0 = .ok (.aload_n 0, 1) := by decide +kernel
theorem dX7_drip_1 : decode cX7_drip 1 = .ok (.iload_n 1, 1) := by decide +kernel
theorem dX7_drip_2 : decode cX7_drip 2 = .ok (.invokevirtual 136, 3) := by decide +kernel
theorem dX7_drip_5 : decode cX7_drip 5 = .ok (.ifCond .ne 6, 3) := by decide +kernel
theorem dX7_drip_8 : decode cX7_drip 8 = .ok (.bipush (-101), 2) := by decide +kernel
theorem dX7_drip_10 : decode cX7_drip 10 = .ok (.ireturn, 1) := by decide +kernel
theorem dX7_drip_11 : decode cX7_drip 11 = .ok (.iload_n 2, 1) := by decide +kernel
theorem dX7_drip_12 : decode cX7_drip 12 = .ok (.i2l, 1) := by decide +kernel
theorem dX7_drip_13 : decode cX7_drip 13 = .ok (.lconst 0, 1) := by decide +kernel
theorem dX7_drip_14 : decode cX7_drip 14 = .ok (.ldc2_w 142, 3) := by decide +kernel
theorem dX7_drip_17 : decode cX7_drip 17 = .ok (.invokestatic 40, 3) := by decide +kernel
theorem dX7_drip_20 : decode cX7_drip 20 = .ok (.ifCond .eq 12, 3) := by decide +kernel
theorem dX7_drip_23 : decode cX7_drip 23 = .ok (.aload_n 0, 1) := by decide +kernel
theorem dX7_drip_24 : decode cX7_drip 24 = .ok (.iload_n 1, 1) := by decide +kernel
theorem dX7_drip_25 : decode cX7_drip 25 = .ok (.iload_n 2, 1) := by decide +kernel
theorem dX7_drip_26 : decode cX7_drip 26 = .ok (.invokevirtual 144, 3) := by decide +kernel
theorem dX7_drip_29 : decode cX7_drip 29 = .ok (.goto 5, 3) := by decide +kernel
theorem dX7_drip_32 : decode cX7_drip 32 = .ok (.bipush (-102), 2) := by decide +kernel
theorem dX7_drip_34 : decode cX7_drip 34 = .ok (.ireturn, 1) := by decide +kernel
theorem dX7_listen_0 : decode cX7_listen 0 = .ok (.aload_n 0, 1) := by decide +kernel
theorem dX7_listen_1 : decode cX7_listen 1 = .ok (.iload_n 1, 1) := by decide +kernel
theorem dX7_listen_2 : decode cX7_listen 2 = .ok (.invokevirtual 136, 3) := by decide +kernel
theorem dX7_listen_5 : decode cX7_listen 5 = .ok (.ifCond .ne 6, 3) := by decide +kernel
theorem dX7_listen_8 : decode cX7_listen 8 = .ok (.bipush (-101), 2) := by decide +kernel
theorem dX7_listen_10 : decode cX7_listen 10 = .ok (.ireturn, 1) := by decide +kernel
theorem dX7_listen_11 : decode cX7_listen 11 = .ok (.aload_n 0, 1) := by decide +kernel
theorem dX7_listen_12 : decode cX7_listen 12 = .ok (.getfield 22, 3) := by decide +kernel
theorem dX7_listen_15 : decode cX7_listen 15 = .ok (.iconst 4, 1) := by decide +kernel
theorem dX7_listen_16 : decode cX7_listen 16 = .ok (.iload_n 1, 1) := by decide +kernel
theorem dX7_listen_17 : decode cX7_listen 17 = .ok (.imul, 1) := by decide +kernel
theorem dX7_listen_18 : decode cX7_listen 18 = .ok (.iconst 3, 1) := by decide +kernel
theorem dX7_listen_19 : decode cX7_listen 19 = .ok (.iadd, 1) := by decide +kernel
theorem dX7_listen_20 : decode cX7_listen 20 = .ok (.iaload, 1) := by decide +kernel
theorem dX7_listen_21 : decode cX7_listen 21 = .ok (.bipush 60, 2) := by decide +kernel
theorem dX7_listen_23 : decode cX7_listen 23 = .ok (.if_icmp .ne 6, 3) := by decide +kernel
theorem dX7_listen_26 : decode cX7_listen 26 = .ok (.bipush (-103), 2) := by decide +kernel
theorem dX7_listen_28 : decode cX7_listen 28 = .ok (.ireturn, 1) := by decide +kernel
theorem dX7_listen_29 : decode cX7_listen 29 = .ok (.aload_n 0, 1) := by decide +kernel
theorem dX7_listen_30 : decode cX7_listen 30 = .ok (.iload_n 1, 1) := by decide +kernel
theorem dX7_listen_31 : decode cX7_listen 31 = .ok (.aload_n 0, 1) := by decide +kernel
theorem dX7_listen_32 : decode cX7_listen 32 = .ok (.getfield 22, 3) := by decide +kernel
theorem dX7_listen_35 : decode cX7_listen 35 = .ok (.iconst 4, 1) := by decide +kernel
theorem dX7_listen_36 : decode cX7_listen 36 = .ok (.iload_n 1, 1) := by decide +kernel
theorem dX7_listen_37 : decode cX7_listen 37 = .ok (.imul, 1) := by decide +kernel
theorem dX7_listen_38 : decode cX7_listen 38 = .ok (.iconst 3, 1) := by decide +kernel
theorem dX7_listen_39 : decode cX7_listen 39 = .ok (.iadd, 1) := by decide +kernel
theorem dX7_listen_40 : decode cX7_listen 40 = .ok (.iaload, 1) := by decide +kernel
theorem dX7_listen_41 : decode cX7_listen 41 = .ok (.invokevirtual 144, 3) := by decide +kernel
theorem dX7_listen_44 : decode cX7_listen 44 = .ok (.istore_n 2, 1) := by decide +kernel
theorem dX7_listen_45 : decode cX7_listen 45 = .ok (.aload_n 0, 1) := by decide +kernel
theorem dX7_listen_46 : decode cX7_listen 46 = .ok (.getfield 22, 3) := by decide +kernel
theorem dX7_listen_49 : decode cX7_listen 49 = .ok (.iconst 4, 1) := by decide +kernel
theorem dX7_listen_50 : decode cX7_listen 50 = .ok (.iload_n 1, 1) := by decide +kernel
theorem dX7_listen_51 : decode cX7_listen 51 = .ok (.imul, 1) := by decide +kernel
theorem dX7_listen_52 : decode cX7_listen 52 = .ok (.iconst 3, 1) := by decide +kernel
theorem dX7_listen_53 : decode cX7_listen 53 = .ok (.iadd, 1) := by decide +kernel
theorem dX7_listen_54 : decode cX7_listen 54 = .ok (.dup2, 1) := by decide +kernel
theorem dX7_listen_55 : decode cX7_listen 55 = .ok (.iaload, 1) := by decide +kernel
theorem dX7_listen_56 : decode cX7_listen 56 = .ok (.iconst 1, 1) := by decide +kernel
theorem dX7_listen_57 : decode cX7_listen 57 = .ok (.iadd, 1) := by decide +kernel
theorem dX7_listen_58 : decode cX7_listen 58 = .ok (.iastore, 1) := by decide +kernel
theorem dX7_listen_59 : decode cX7_listen 59 = .ok (.aload_n 0, 1) := by decide +kernel
theorem dX7_listen_60 : decode cX7_listen 60 = .ok (.dup, 1) := by decide +kernel
theorem dX7_listen_61 : decode cX7_listen 61 = .ok (.getfield 82, 3) := by decide +kernel
theorem dX7_listen_64 : decode cX7_listen 64 = .ok (.iconst 1, 1) := by decide +kernel
theorem dX7_listen_65 : decode cX7_listen 65 = .ok (.iadd, 1) := by decide +kernel
theorem dX7_listen_66 : decode cX7_listen 66 = .ok (.putfield 82, 3) := by decide +kernel
theorem dX7_listen_69 : decode cX7_listen 69 = .ok (.iload_n 2, 1) := by decide +kernel
theorem dX7_listen_70 : decode cX7_listen 70 = .ok (.ireturn, 1) := by decide +kernel
theorem dX7_washer_0 : decode cX7_washer 0 = .ok (.aload_n 0, 1) := by decide +kernel
theorem dX7_washer_1 : decode cX7_washer 1 = .ok (.iload_n 1, 1) := by decide +kernel
theorem dX7_washer_2 : decode cX7_washer 2 = .ok (.invokevirtual 136, 3) := by decide +kernel
theorem dX7_washer_5 : decode cX7_washer 5 = .ok (.ifCond .ne 6, 3) := by decide +kernel
theorem dX7_washer_8 : decode cX7_washer 8 = .ok (.bipush (-101), 2) := by decide +kernel
theorem dX7_washer_10 : decode cX7_washer 10 = .ok (.ireturn, 1) := by decide +kernel
theorem dX7_washer_11 : decode cX7_washer 11 = .ok (.aload_n 0, 1) := by decide +kernel
theorem dX7_washer_12 : decode cX7_washer 12 = .ok (.getfield 22, 3) := by decide +kernel
theorem dX7_washer_15 : decode cX7_washer 15 = .ok (.iconst 4, 1) := by decide +kernel
theorem dX7_washer_16 : decode cX7_washer 16 = .ok (.iload_n 1, 1) := by decide +kernel
theorem dX7_washer_17 : decode cX7_washer 17 = .ok (.imul, 1) := by decide +kernel
theorem dX7_washer_18 : decode cX7_washer 18 = .ok (.iconst 2, 1) := by decide +kernel
theorem dX7_washer_19 : decode cX7_washer 19 = .ok (.iadd, 1) := by decide +kernel
theorem dX7_washer_20 : decode cX7_washer 20 = .ok (.iaload, 1) := by decide +kernel
theorem dX7_washer_21 : decode cX7_washer 21 = .ok (.istore_n 3, 1) := by decide +kernel
theorem dX7_washer_22 : decode cX7_washer 22 = .ok (.aload_n 0, 1) := by decide +kernel
theorem dX7_washer_23 : decode cX7_washer 23 = .ok (.getfield 22, 3) := by decide +kernel
theorem dX7_washer_26 : decode cX7_washer 26 = .ok (.iconst 4, 1) := by decide +kernel
theorem dX7_washer_27 : decode cX7_washer 27 = .ok (.iload_n 1, 1) := by decide +kernel
theorem dX7_washer_28 : decode cX7_washer 28 = .ok (.imul, 1) := by decide +kernel
theorem dX7_washer_29 : decode cX7_washer 29 = .ok (.iconst 2, 1) := by decide +kernel
theorem dX7_washer_30 : decode cX7_washer 30 = .ok (.iadd, 1) := by decide +kernel
theorem dX7_washer_31 : decode cX7_washer 31 = .ok (.iload_n 2, 1) := by decide +kernel
theorem dX7_washer_32 : decode cX7_washer 32 = .ok (.ifCond .eq 7, 3) := by decide +kernel
theorem dX7_washer_35 : decode cX7_washer 35 = .ok (.iconst 1, 1) := by decide +kernel
theorem dX7_washer_36 : decode cX7_washer 36 = .ok (.goto 4, 3) := by decide +kernel
theorem dX7_washer_39 : decode cX7_washer 39 = .ok (.iconst 0, 1) := by decide +kernel
theorem dX7_washer_40 : decode cX7_washer 40 = .ok (.iastore, 1) := by decide +kernel
theorem dX7_washer_41 : decode cX7_washer 41 = .ok (.aload_n 0, 1) := by decide +kernel
theorem dX7_washer_42 : decode cX7_washer 42 = .ok (.dup, 1) := by decide +kernel
theorem dX7_washer_43 : decode cX7_washer 43 = .ok (.getfield 82, 3) := by decide +kernel
theorem dX7_washer_46 : decode cX7_washer 46 = .ok (.iconst 1, 1) := by decide +kernel
theorem dX7_washer_47 : decode cX7_washer 47 = .ok (.iadd, 1) := by decide +kernel
theorem dX7_washer_48 : decode cX7_washer 48 = .ok (.putfield 82, 3) := by decide +kernel
theorem dX7_washer_51 : decode cX7_washer 51 = .ok (.iload_n 3, 1) := by decide +kernel
theorem dX7_washer_52 : decode cX7_washer 52 = .ok (.ireturn, 1) := by decide +kernel
theorem dX7_teach_0 : decode cX7_teach 0 = .ok (.aload_n 0, 1) := by decide +kernel
theorem dX7_teach_1 : decode cX7_teach 1 = .ok (.iload_n 1, 1) := by decide +kernel
theorem dX7_teach_2 : decode cX7_teach 2 = .ok (.invokevirtual 136, 3) := by decide +kernel
theorem dX7_teach_5 : decode cX7_teach 5 = .ok (.ifCond .ne 6, 3) := by decide +kernel
theorem dX7_teach_8 : decode cX7_teach 8 = .ok (.bipush (-101), 2) := by decide +kernel
theorem dX7_teach_10 : decode cX7_teach 10 = .ok (.ireturn, 1) := by decide +kernel
theorem dX7_teach_11 : decode cX7_teach 11 = .ok (.iload_n 2, 1) := by decide +kernel
theorem dX7_teach_12 : decode cX7_teach 12 = .ok (.invokestatic 101, 3) := by decide +kernel
theorem dX7_teach_15 : decode cX7_teach 15 = .ok (.ifCond .ne 6, 3) := by decide +kernel
theorem dX7_teach_18 : decode cX7_teach 18 = .ok (.bipush (-102), 2) := by decide +kernel
theorem dX7_teach_20 : decode cX7_teach 20 = .ok (.ireturn, 1) := by decide +kernel
theorem dX7_teach_21 : decode cX7_teach 21 = .ok (.aload_n 0, 1) := by decide +kernel
theorem dX7_teach_22 : decode cX7_teach 22 = .ok (.getfield 22, 3) := by decide +kernel
theorem dX7_teach_25 : decode cX7_teach 25 = .ok (.iconst 4, 1) := by decide +kernel
theorem dX7_teach_26 : decode cX7_teach 26 = .ok (.iload_n 1, 1) := by decide +kernel
theorem dX7_teach_27 : decode cX7_teach 27 = .ok (.imul, 1) := by decide +kernel
theorem dX7_teach_28 : decode cX7_teach 28 = .ok (.iconst 1, 1) := by decide +kernel
theorem dX7_teach_29 : decode cX7_teach 29 = .ok (.iadd, 1) := by decide +kernel
theorem dX7_teach_30 : decode cX7_teach 30 = .ok (.iaload, 1) := by decide +kernel
theorem dX7_teach_31 : decode cX7_teach 31 = .ok (.istore_n 3, 1) := by decide +kernel
theorem dX7_teach_32 : decode cX7_teach 32 = .ok (.aload_n 0, 1) := by decide +kernel
theorem dX7_teach_33 : decode cX7_teach 33 = .ok (.getfield 22, 3) := by decide +kernel
theorem dX7_teach_36 : decode cX7_teach 36 = .ok (.iconst 4, 1) := by decide +kernel
theorem dX7_teach_37 : decode cX7_teach 37 = .ok (.iload_n 1, 1) := by decide +kernel
theorem dX7_teach_38 : decode cX7_teach 38 = .ok (.imul, 1) := by decide +kernel
theorem dX7_teach_39 : decode cX7_teach 39 = .ok (.iconst 1, 1) := by decide +kernel
theorem dX7_teach_40 : decode cX7_teach 40 = .ok (.iadd, 1) := by decide +kernel
theorem dX7_teach_41 : decode cX7_teach 41 = .ok (.iload_n 2, 1) := by decide +kernel
theorem dX7_teach_42 : decode cX7_teach 42 = .ok (.iastore, 1) := by decide +kernel
theorem dX7_teach_43 : decode cX7_teach 43 = .ok (.aload_n 0, 1) := by decide +kernel
theorem dX7_teach_44 : decode cX7_teach 44 = .ok (.dup, 1) := by decide +kernel
theorem dX7_teach_45 : decode cX7_teach 45 = .ok (.getfield 82, 3) := by decide +kernel
theorem dX7_teach_48 : decode cX7_teach 48 = .ok (.iconst 1, 1) := by decide +kernel
theorem dX7_teach_49 : decode cX7_teach 49 = .ok (.iadd, 1) := by decide +kernel
theorem dX7_teach_50 : decode cX7_teach 50 = .ok (.putfield 82, 3) := by decide +kernel
theorem dX7_teach_53 : decode cX7_teach 53 = .ok (.iload_n 3, 1) := by decide +kernel
theorem dX7_teach_54 : decode cX7_teach 54 = .ok (.ireturn, 1) := by decide +kernel
theorem dX7_agreeOf_0 : decode cX7_agreeOf 0 = .ok (.iconst 0, 1) := by decide +kernel
theorem dX7_agreeOf_1 : decode cX7_agreeOf 1 = .ok (.istore_n 3, 1) := by decide +kernel
theorem dX7_agreeOf_2 : decode cX7_agreeOf 2 = .ok (.iconst 0, 1) := by decide +kernel
theorem dX7_agreeOf_3 : decode cX7_agreeOf 3 = .ok (.istore 4, 2) := by decide +kernel
theorem dX7_agreeOf_5 : decode cX7_agreeOf 5 = .ok (.iload 4, 2) := by decide +kernel
theorem dX7_agreeOf_7 : decode cX7_agreeOf 7 = .ok (.bipush 16, 2) := by decide +kernel
theorem dX7_agreeOf_9 : decode cX7_agreeOf 9 = .ok (.if_icmp .ge 56, 3) := by decide +kernel
theorem dX7_agreeOf_12 : decode cX7_agreeOf 12 = .ok (.iload_n 3, 1) := by decide +kernel
theorem dX7_agreeOf_13 : decode cX7_agreeOf 13 = .ok (.aload_n 0, 1) := by decide +kernel
theorem dX7_agreeOf_14 : decode cX7_agreeOf 14 = .ok (.iload_n 1, 1) := by decide +kernel
theorem dX7_agreeOf_15 : decode cX7_agreeOf 15 = .ok (.aload_n 0, 1) := by decide +kernel
theorem dX7_agreeOf_16 : decode cX7_agreeOf 16 = .ok (.getfield 22, 3) := by decide +kernel
theorem dX7_agreeOf_19 : decode cX7_agreeOf 19 = .ok (.iconst 4, 1) := by decide +kernel
theorem dX7_agreeOf_20 : decode cX7_agreeOf 20 = .ok (.iload_n 1, 1) := by decide +kernel
theorem dX7_agreeOf_21 : decode cX7_agreeOf 21 = .ok (.imul, 1) := by decide +kernel
theorem dX7_agreeOf_22 : decode cX7_agreeOf 22 = .ok (.iconst 3, 1) := by decide +kernel
theorem dX7_agreeOf_23 : decode cX7_agreeOf 23 = .ok (.iadd, 1) := by decide +kernel
theorem dX7_agreeOf_24 : decode cX7_agreeOf 24 = .ok (.iaload, 1) := by decide +kernel
theorem dX7_agreeOf_25 : decode cX7_agreeOf 25 = .ok (.iload 4, 2) := by decide +kernel
theorem dX7_agreeOf_27 : decode cX7_agreeOf 27 = .ok (.iadd, 1) := by decide +kernel
theorem dX7_agreeOf_28 : decode cX7_agreeOf 28 = .ok (.invokevirtual 144, 3) := by decide +kernel
theorem dX7_agreeOf_31 : decode cX7_agreeOf 31 = .ok (.aload_n 0, 1) := by decide +kernel
theorem dX7_agreeOf_32 : decode cX7_agreeOf 32 = .ok (.iload_n 2, 1) := by decide +kernel
theorem dX7_agreeOf_33 : decode cX7_agreeOf 33 = .ok (.aload_n 0, 1) := by decide +kernel
theorem dX7_agreeOf_34 : decode cX7_agreeOf 34 = .ok (.getfield 22, 3) := by decide +kernel
theorem dX7_agreeOf_37 : decode cX7_agreeOf 37 = .ok (.iconst 4, 1) := by decide +kernel
theorem dX7_agreeOf_38 : decode cX7_agreeOf 38 = .ok (.iload_n 2, 1) := by decide +kernel
theorem dX7_agreeOf_39 : decode cX7_agreeOf 39 = .ok (.imul, 1) := by decide +kernel
theorem dX7_agreeOf_40 : decode cX7_agreeOf 40 = .ok (.iconst 3, 1) := by decide +kernel
theorem dX7_agreeOf_41 : decode cX7_agreeOf 41 = .ok (.iadd, 1) := by decide +kernel
theorem dX7_agreeOf_42 : decode cX7_agreeOf 42 = .ok (.iaload, 1) := by decide +kernel
theorem dX7_agreeOf_43 : decode cX7_agreeOf 43 = .ok (.iload 4, 2) := by decide +kernel
theorem dX7_agreeOf_45 : decode cX7_agreeOf 45 = .ok (.iadd, 1) := by decide +kernel
theorem dX7_agreeOf_46 : decode cX7_agreeOf 46 = .ok (.invokevirtual 144, 3) := by decide +kernel
theorem dX7_agreeOf_49 : decode cX7_agreeOf 49 = .ok (.if_icmp .ne 7, 3) := by decide +kernel
theorem dX7_agreeOf_52 : decode cX7_agreeOf 52 = .ok (.iconst 1, 1) := by decide +kernel
theorem dX7_agreeOf_53 : decode cX7_agreeOf 53 = .ok (.goto 4, 3) := by decide +kernel
theorem dX7_agreeOf_56 : decode cX7_agreeOf 56 = .ok (.iconst 0, 1) := by decide +kernel
theorem dX7_agreeOf_57 : decode cX7_agreeOf 57 = .ok (.iadd, 1) := by decide +kernel
theorem dX7_agreeOf_58 : decode cX7_agreeOf 58 = .ok (.istore_n 3, 1) := by decide +kernel
theorem dX7_agreeOf_59 : decode cX7_agreeOf 59 = .ok (.iinc 4 1, 3) := by decide +kernel
theorem dX7_agreeOf_62 : decode cX7_agreeOf 62 = .ok (.goto (-57), 3) := by decide +kernel
theorem dX7_agreeOf_65 : decode cX7_agreeOf 65 = .ok (.iload_n 3, 1) := by decide +kernel
theorem dX7_agreeOf_66 : decode cX7_agreeOf 66 = .ok (.ireturn, 1) := by decide +kernel
theorem dX7_agree_0 : decode cX7_agree 0 = .ok (.aload_n 0, 1) := by decide +kernel
theorem dX7_agree_1 : decode cX7_agree 1 = .ok (.iload_n 1, 1) := by decide +kernel
theorem dX7_agree_2 : decode cX7_agree 2 = .ok (.invokevirtual 136, 3) := by decide +kernel
theorem dX7_agree_5 : decode cX7_agree 5 = .ok (.ifCond .eq 25, 3) := by decide +kernel
theorem dX7_agree_8 : decode cX7_agree 8 = .ok (.aload_n 0, 1) := by decide +kernel
theorem dX7_agree_9 : decode cX7_agree 9 = .ok (.iload_n 2, 1) := by decide +kernel
theorem dX7_agree_10 : decode cX7_agree 10 = .ok (.invokevirtual 136, 3) := by decide +kernel
theorem dX7_agree_13 : decode cX7_agree 13 = .ok (.ifCond .eq 17, 3) := by decide +kernel
theorem dX7_agree_16 : decode cX7_agree 16 = .ok (.iload_n 1, 1) := by decide +kernel
theorem dX7_agree_17 : decode cX7_agree 17 = .ok (.iload_n 2, 1) := by decide +kernel
theorem dX7_agree_18 : decode cX7_agree 18 = .ok (.if_icmp .eq 12, 3) := by decide +kernel
theorem dX7_agree_21 : decode cX7_agree 21 = .ok (.aload_n 0, 1) := by decide +kernel
theorem dX7_agree_22 : decode cX7_agree 22 = .ok (.iload_n 1, 1) := by decide +kernel
theorem dX7_agree_23 : decode cX7_agree 23 = .ok (.iload_n 2, 1) := by decide +kernel
theorem dX7_agree_24 : decode cX7_agree 24 = .ok (.invokevirtual 147, 3) := by decide +kernel
theorem dX7_agree_27 : decode cX7_agree 27 = .ok (.goto 5, 3) := by decide +kernel
theorem dX7_agree_30 : decode cX7_agree 30 = .ok (.bipush (-101), 2) := by decide +kernel
theorem dX7_agree_32 : decode cX7_agree 32 = .ok (.ireturn, 1) := by decide +kernel
theorem dX7_unlikeBy_0 : decode cX7_unlikeBy 0 = .ok (.iconst 0, 1) := by decide +kernel
theorem dX7_unlikeBy_1 : decode cX7_unlikeBy 1 = .ok (.istore 4, 2) := by decide +kernel
theorem dX7_unlikeBy_3 : decode cX7_unlikeBy 3 = .ok (.iconst 0, 1) := by decide +kernel
theorem dX7_unlikeBy_4 : decode cX7_unlikeBy 4 = .ok (.istore 5, 2) := by decide +kernel
theorem dX7_unlikeBy_6 : decode cX7_unlikeBy 6 = .ok (.iload 5, 2) := by decide +kernel
theorem dX7_unlikeBy_8 : decode cX7_unlikeBy 8 = .ok (.bipush 12, 2) := by decide +kernel
theorem dX7_unlikeBy_10 : decode cX7_unlikeBy 10 = .ok (.if_icmp .ge 60, 3) := by decide +kernel
theorem dX7_unlikeBy_13 : decode cX7_unlikeBy 13 = .ok (.aload_n 0, 1) := by decide +kernel
theorem dX7_unlikeBy_14 : decode cX7_unlikeBy 14 = .ok (.aload_n 0, 1) := by decide +kernel
theorem dX7_unlikeBy_15 : decode cX7_unlikeBy 15 = .ok (.getfield 22, 3) := by decide +kernel
theorem dX7_unlikeBy_18 : decode cX7_unlikeBy 18 = .ok (.iconst 4, 1) := by decide +kernel
theorem dX7_unlikeBy_19 : decode cX7_unlikeBy 19 = .ok (.iload_n 1, 1) := by decide +kernel
theorem dX7_unlikeBy_20 : decode cX7_unlikeBy 20 = .ok (.imul, 1) := by decide +kernel
theorem dX7_unlikeBy_21 : decode cX7_unlikeBy 21 = .ok (.iaload, 1) := by decide +kernel
theorem dX7_unlikeBy_22 : decode cX7_unlikeBy 22 = .ok (.iload_n 3, 1) := by decide +kernel
theorem dX7_unlikeBy_23 : decode cX7_unlikeBy 23 = .ok (.aload_n 0, 1) := by decide +kernel
theorem dX7_unlikeBy_24 : decode cX7_unlikeBy 24 = .ok (.getfield 22, 3) := by decide +kernel
theorem dX7_unlikeBy_27 : decode cX7_unlikeBy 27 = .ok (.iconst 4, 1) := by decide +kernel
theorem dX7_unlikeBy_28 : decode cX7_unlikeBy 28 = .ok (.iload_n 1, 1) := by decide +kernel
theorem dX7_unlikeBy_29 : decode cX7_unlikeBy 29 = .ok (.imul, 1) := by decide +kernel
theorem dX7_unlikeBy_30 : decode cX7_unlikeBy 30 = .ok (.iconst 1, 1) := by decide +kernel
theorem dX7_unlikeBy_31 : decode cX7_unlikeBy 31 = .ok (.iadd, 1) := by decide +kernel
theorem dX7_unlikeBy_32 : decode cX7_unlikeBy 32 = .ok (.iaload, 1) := by decide +kernel
theorem dX7_unlikeBy_33 : decode cX7_unlikeBy 33 = .ok (.iload 5, 2) := by decide +kernel
theorem dX7_unlikeBy_35 : decode cX7_unlikeBy 35 = .ok (.invokevirtual 108, 3) := by decide +kernel
theorem dX7_unlikeBy_38 : decode cX7_unlikeBy 38 = .ok (.istore 6, 2) := by decide +kernel
theorem dX7_unlikeBy_40 : decode cX7_unlikeBy 40 = .ok (.iload 4, 2) := by decide +kernel
theorem dX7_unlikeBy_42 : decode cX7_unlikeBy 42 = .ok (.iload 6, 2) := by decide +kernel
theorem dX7_unlikeBy_44 : decode cX7_unlikeBy 44 = .ok (.aload_n 0, 1) := by decide +kernel
theorem dX7_unlikeBy_45 : decode cX7_unlikeBy 45 = .ok (.iconst 0, 1) := by decide +kernel
theorem dX7_unlikeBy_46 : decode cX7_unlikeBy 46 = .ok (.iconst 0, 1) := by decide +kernel
theorem dX7_unlikeBy_47 : decode cX7_unlikeBy 47 = .ok (.iload_n 2, 1) := by decide +kernel
theorem dX7_unlikeBy_48 : decode cX7_unlikeBy 48 = .ok (.iload 5, 2) := by decide +kernel
theorem dX7_unlikeBy_50 : decode cX7_unlikeBy 50 = .ok (.invokevirtual 108, 3) := by decide +kernel
theorem dX7_unlikeBy_53 : decode cX7_unlikeBy 53 = .ok (.if_icmp .ne 7, 3) := by decide +kernel
theorem dX7_unlikeBy_56 : decode cX7_unlikeBy 56 = .ok (.iconst 0, 1) := by decide +kernel
theorem dX7_unlikeBy_57 : decode cX7_unlikeBy 57 = .ok (.goto 4, 3) := by decide +kernel
theorem dX7_unlikeBy_60 : decode cX7_unlikeBy 60 = .ok (.iconst 1, 1) := by decide +kernel
theorem dX7_unlikeBy_61 : decode cX7_unlikeBy 61 = .ok (.iadd, 1) := by decide +kernel
theorem dX7_unlikeBy_62 : decode cX7_unlikeBy 62 = .ok (.istore 4, 2) := by decide +kernel
theorem dX7_unlikeBy_64 : decode cX7_unlikeBy 64 = .ok (.iinc 5 1, 3) := by decide +kernel
theorem dX7_unlikeBy_67 : decode cX7_unlikeBy 67 = .ok (.goto (-61), 3) := by decide +kernel
theorem dX7_unlikeBy_70 : decode cX7_unlikeBy 70 = .ok (.iload 4, 2) := by decide +kernel
theorem dX7_unlikeBy_72 : decode cX7_unlikeBy 72 = .ok (.ireturn, 1) := by decide +kernel
theorem dX7_nearOf_0 : decode cX7_nearOf 0 = .ok (.aload_n 0, 1) := by decide +kernel
theorem dX7_nearOf_1 : decode cX7_nearOf 1 = .ok (.iload_n 1, 1) := by decide +kernel
theorem dX7_nearOf_2 : decode cX7_nearOf 2 = .ok (.iload_n 2, 1) := by decide +kernel
theorem dX7_nearOf_3 : decode cX7_nearOf 3 = .ok (.iconst 0, 1) := by decide +kernel
theorem dX7_nearOf_4 : decode cX7_nearOf 4 = .ok (.invokevirtual 150, 3) := by decide +kernel
theorem dX7_nearOf_7 : decode cX7_nearOf 7 = .ok (.istore 4, 2) := by decide +kernel
theorem dX7_nearOf_9 : decode cX7_nearOf 9 = .ok (.aload_n 0, 1) := by decide +kernel
theorem dX7_nearOf_10 : decode cX7_nearOf 10 = .ok (.iload_n 1, 1) := by decide +kernel
theorem dX7_nearOf_11 : decode cX7_nearOf 11 = .ok (.iload_n 2, 1) := by decide +kernel
theorem dX7_nearOf_12 : decode cX7_nearOf 12 = .ok (.iconst 1, 1) := by decide +kernel
theorem dX7_nearOf_13 : decode cX7_nearOf 13 = .ok (.invokevirtual 150, 3) := by decide +kernel
theorem dX7_nearOf_16 : decode cX7_nearOf 16 = .ok (.istore 5, 2) := by decide +kernel
theorem dX7_nearOf_18 : decode cX7_nearOf 18 = .ok (.iload 5, 2) := by decide +kernel
theorem dX7_nearOf_20 : decode cX7_nearOf 20 = .ok (.iload 4, 2) := by decide +kernel
theorem dX7_nearOf_22 : decode cX7_nearOf 22 = .ok (.if_icmp .ge 7, 3) := by decide +kernel
theorem dX7_nearOf_25 : decode cX7_nearOf 25 = .ok (.iconst 1, 1) := by decide +kernel
theorem dX7_nearOf_26 : decode cX7_nearOf 26 = .ok (.goto 4, 3) := by decide +kernel
theorem dX7_nearOf_29 : decode cX7_nearOf 29 = .ok (.iconst 0, 1) := by decide +kernel
theorem dX7_nearOf_30 : decode cX7_nearOf 30 = .ok (.istore 6, 2) := by decide +kernel
theorem dX7_nearOf_32 : decode cX7_nearOf 32 = .ok (.iload_n 3, 1) := by decide +kernel
theorem dX7_nearOf_33 : decode cX7_nearOf 33 = .ok (.ifCond .ne 16, 3) := by decide +kernel
theorem dX7_nearOf_36 : decode cX7_nearOf 36 = .ok (.iload 6, 2) := by decide +kernel
theorem dX7_nearOf_38 : decode cX7_nearOf 38 = .ok (.ifCond .eq 7, 3) := by decide +kernel
theorem dX7_nearOf_41 : decode cX7_nearOf 41 = .ok (.iconst 1, 1) := by decide +kernel
theorem dX7_nearOf_42 : decode cX7_nearOf 42 = .ok (.goto 19, 3) := by decide +kernel
theorem dX7_nearOf_45 : decode cX7_nearOf 45 = .ok (.iconst 0, 1) := by decide +kernel
theorem dX7_nearOf_46 : decode cX7_nearOf 46 = .ok (.goto 15, 3) := by decide +kernel
theorem dX7_nearOf_49 : decode cX7_nearOf 49 = .ok (.iload 6, 2) := by decide +kernel
theorem dX7_nearOf_51 : decode cX7_nearOf 51 = .ok (.ifCond .eq 8, 3) := by decide +kernel
theorem dX7_nearOf_54 : decode cX7_nearOf 54 = .ok (.iload 5, 2) := by decide +kernel
theorem dX7_nearOf_56 : decode cX7_nearOf 56 = .ok (.goto 5, 3) := by decide +kernel
theorem dX7_nearOf_59 : decode cX7_nearOf 59 = .ok (.iload 4, 2) := by decide +kernel
theorem dX7_nearOf_61 : decode cX7_nearOf 61 = .ok (.ireturn, 1) := by decide +kernel
theorem dX7_near_0 : decode cX7_near 0 = .ok (.aload_n 0, 1) := by decide +kernel
theorem dX7_near_1 : decode cX7_near 1 = .ok (.iload_n 1, 1) := by decide +kernel
theorem dX7_near_2 : decode cX7_near 2 = .ok (.invokevirtual 136, 3) := by decide +kernel
theorem dX7_near_5 : decode cX7_near 5 = .ok (.ifCond .ne 6, 3) := by decide +kernel
theorem dX7_near_8 : decode cX7_near 8 = .ok (.bipush (-101), 2) := by decide +kernel
theorem dX7_near_10 : decode cX7_near 10 = .ok (.ireturn, 1) := by decide +kernel
theorem dX7_near_11 : decode cX7_near 11 = .ok (.iload_n 2, 1) := by decide +kernel
theorem dX7_near_12 : decode cX7_near 12 = .ok (.invokestatic 101, 3) := by decide +kernel
theorem dX7_near_15 : decode cX7_near 15 = .ok (.ifCond .eq 23, 3) := by decide +kernel
theorem dX7_near_18 : decode cX7_near 18 = .ok (.iload_n 3, 1) := by decide +kernel
theorem dX7_near_19 : decode cX7_near 19 = .ok (.i2l, 1) := by decide +kernel
theorem dX7_near_20 : decode cX7_near 20 = .ok (.lconst 0, 1) := by decide +kernel
theorem dX7_near_21 : decode cX7_near 21 = .ok (.lconst 1, 1) := by decide +kernel
theorem dX7_near_22 : decode cX7_near 22 = .ok (.invokestatic 40, 3) := by decide +kernel
theorem dX7_near_25 : decode cX7_near 25 = .ok (.ifCond .eq 13, 3) := by decide +kernel
theorem dX7_near_28 : decode cX7_near 28 = .ok (.aload_n 0, 1) := by decide +kernel
theorem dX7_near_29 : decode cX7_near 29 = .ok (.iload_n 1, 1) := by decide +kernel
theorem dX7_near_30 : decode cX7_near 30 = .ok (.iload_n 2, 1) := by decide +kernel
theorem dX7_near_31 : decode cX7_near 31 = .ok (.iload_n 3, 1) := by decide +kernel
theorem dX7_near_32 : decode cX7_near 32 = .ok (.invokevirtual 153, 3) := by decide +kernel
theorem dX7_near_35 : decode cX7_near 35 = .ok (.goto 5, 3) := by decide +kernel
theorem dX7_near_38 : decode cX7_near 38 = .ok (.bipush (-102), 2) := by decide +kernel
theorem dX7_near_40 : decode cX7_near 40 = .ok (.ireturn, 1) := by decide +kernel
theorem dX7_put_0 : decode cX7_put 0 = .ok (.aload_n 0, 1) := by decide +kernel
theorem dX7_put_1 : decode cX7_put 1 = .ok (.iload_n 1, 1) := by decide +kernel
theorem dX7_put_2 : decode cX7_put 2 = .ok (.invokevirtual 136, 3) := by decide +kernel
theorem dX7_put_5 : decode cX7_put 5 = .ok (.ifCond .ne 6, 3) := by decide +kernel
theorem dX7_put_8 : decode cX7_put 8 = .ok (.bipush (-101), 2) := by decide +kernel
theorem dX7_put_10 : decode cX7_put 10 = .ok (.ireturn, 1) := by decide +kernel
theorem dX7_put_11 : decode cX7_put 11 = .ok (.iload_n 2, 1) := by decide +kernel
theorem dX7_put_12 : decode cX7_put 12 = .ok (.i2l, 1) := by decide +kernel
theorem dX7_put_13 : decode cX7_put 13 = .ok (.lconst 0, 1) := by decide +kernel
theorem dX7_put_14 : decode cX7_put 14 = .ok (.ldc2_w 156, 3) := by decide +kernel
theorem dX7_put_17 : decode cX7_put 17 = .ok (.invokestatic 40, 3) := by decide +kernel
theorem dX7_put_20 : decode cX7_put 20 = .ok (.ifCond .ne 6, 3) := by decide +kernel
theorem dX7_put_23 : decode cX7_put 23 = .ok (.bipush (-102), 2) := by decide +kernel
theorem dX7_put_25 : decode cX7_put 25 = .ok (.ireturn, 1) := by decide +kernel
theorem dX7_put_26 : decode cX7_put 26 = .ok (.aload_n 0, 1) := by decide +kernel
theorem dX7_put_27 : decode cX7_put 27 = .ok (.getfield 85, 3) := by decide +kernel
theorem dX7_put_30 : decode cX7_put 30 = .ok (.bipush 8, 2) := by decide +kernel
theorem dX7_put_32 : decode cX7_put 32 = .ok (.if_icmp .ne 6, 3) := by decide +kernel
theorem dX7_put_35 : decode cX7_put 35 = .ok (.bipush (-104), 2) := by decide +kernel
theorem dX7_put_37 : decode cX7_put 37 = .ok (.ireturn, 1) := by decide +kernel
theorem dX7_put_38 : decode cX7_put 38 = .ok (.aload_n 0, 1) := by decide +kernel
theorem dX7_put_39 : decode cX7_put 39 = .ok (.getfield 25, 3) := by decide +kernel
theorem dX7_put_42 : decode cX7_put 42 = .ok (.iconst 4, 1) := by decide +kernel
theorem dX7_put_43 : decode cX7_put 43 = .ok (.aload_n 0, 1) := by decide +kernel
theorem dX7_put_44 : decode cX7_put 44 = .ok (.getfield 85, 3) := by decide +kernel
theorem dX7_put_47 : decode cX7_put 47 = .ok (.imul, 1) := by decide +kernel
theorem dX7_put_48 : decode cX7_put 48 = .ok (.iload_n 1, 1) := by decide +kernel
theorem dX7_put_49 : decode cX7_put 49 = .ok (.iastore, 1) := by decide +kernel
theorem dX7_put_50 : decode cX7_put 50 = .ok (.aload_n 0, 1) := by decide +kernel
theorem dX7_put_51 : decode cX7_put 51 = .ok (.getfield 25, 3) := by decide +kernel
theorem dX7_put_54 : decode cX7_put 54 = .ok (.iconst 4, 1) := by decide +kernel
theorem dX7_put_55 : decode cX7_put 55 = .ok (.aload_n 0, 1) := by decide +kernel
theorem dX7_put_56 : decode cX7_put 56 = .ok (.getfield 85, 3) := by decide +kernel
theorem dX7_put_59 : decode cX7_put 59 = .ok (.imul, 1) := by decide +kernel
theorem dX7_put_60 : decode cX7_put 60 = .ok (.iconst 1, 1) := by decide +kernel
theorem dX7_put_61 : decode cX7_put 61 = .ok (.iadd, 1) := by decide +kernel
theorem dX7_put_62 : decode cX7_put 62 = .ok (.iload_n 2, 1) := by decide +kernel
theorem dX7_put_63 : decode cX7_put 63 = .ok (.iastore, 1) := by decide +kernel
theorem dX7_put_64 : decode cX7_put 64 = .ok (.aload_n 0, 1) := by decide +kernel
theorem dX7_put_65 : decode cX7_put 65 = .ok (.getfield 25, 3) := by decide +kernel
theorem dX7_put_68 : decode cX7_put 68 = .ok (.iconst 4, 1) := by decide +kernel
theorem dX7_put_69 : decode cX7_put 69 = .ok (.aload_n 0, 1) := by decide +kernel
theorem dX7_put_70 : decode cX7_put 70 = .ok (.getfield 85, 3) := by decide +kernel
theorem dX7_put_73 : decode cX7_put 73 = .ok (.imul, 1) := by decide +kernel
theorem dX7_put_74 : decode cX7_put 74 = .ok (.iconst 2, 1) := by decide +kernel
theorem dX7_put_75 : decode cX7_put 75 = .ok (.iadd, 1) := by decide +kernel
theorem dX7_put_76 : decode cX7_put 76 = .ok (.iload_n 3, 1) := by decide +kernel
theorem dX7_put_77 : decode cX7_put 77 = .ok (.ifCond .eq 7, 3) := by decide +kernel
theorem dX7_put_80 : decode cX7_put 80 = .ok (.iconst 1, 1) := by decide +kernel
theorem dX7_put_81 : decode cX7_put 81 = .ok (.goto 4, 3) := by decide +kernel
theorem dX7_put_84 : decode cX7_put 84 = .ok (.iconst 0, 1) := by decide +kernel
theorem dX7_put_85 : decode cX7_put 85 = .ok (.iastore, 1) := by decide +kernel
theorem dX7_put_86 : decode cX7_put 86 = .ok (.aload_n 0, 1) := by decide +kernel
theorem dX7_put_87 : decode cX7_put 87 = .ok (.getfield 25, 3) := by decide +kernel
theorem dX7_put_90 : decode cX7_put 90 = .ok (.iconst 4, 1) := by decide +kernel
theorem dX7_put_91 : decode cX7_put 91 = .ok (.aload_n 0, 1) := by decide +kernel
theorem dX7_put_92 : decode cX7_put 92 = .ok (.getfield 85, 3) := by decide +kernel
theorem dX7_put_95 : decode cX7_put 95 = .ok (.imul, 1) := by decide +kernel
theorem dX7_put_96 : decode cX7_put 96 = .ok (.iconst 3, 1) := by decide +kernel
theorem dX7_put_97 : decode cX7_put 97 = .ok (.iadd, 1) := by decide +kernel
theorem dX7_put_98 : decode cX7_put 98 = .ok (.aload_n 0, 1) := by decide +kernel
theorem dX7_put_99 : decode cX7_put 99 = .ok (.getfield 22, 3) := by decide +kernel
theorem dX7_put_102 : decode cX7_put 102 = .ok (.iconst 4, 1) := by decide +kernel
theorem dX7_put_103 : decode cX7_put 103 = .ok (.iload_n 1, 1) := by decide +kernel
theorem dX7_put_104 : decode cX7_put 104 = .ok (.imul, 1) := by decide +kernel
theorem dX7_put_105 : decode cX7_put 105 = .ok (.iconst 2, 1) := by decide +kernel
theorem dX7_put_106 : decode cX7_put 106 = .ok (.iadd, 1) := by decide +kernel
theorem dX7_put_107 : decode cX7_put 107 = .ok (.iaload, 1) := by decide +kernel
theorem dX7_put_108 : decode cX7_put 108 = .ok (.iastore, 1) := by decide +kernel
theorem dX7_put_109 : decode cX7_put 109 = .ok (.aload_n 0, 1) := by decide +kernel
theorem dX7_put_110 : decode cX7_put 110 = .ok (.dup, 1) := by decide +kernel
theorem dX7_put_111 : decode cX7_put 111 = .ok (.getfield 85, 3) := by decide +kernel
theorem dX7_put_114 : decode cX7_put 114 = .ok (.iconst 1, 1) := by decide +kernel
theorem dX7_put_115 : decode cX7_put 115 = .ok (.iadd, 1) := by decide +kernel
theorem dX7_put_116 : decode cX7_put 116 = .ok (.putfield 85, 3) := by decide +kernel
theorem dX7_put_119 : decode cX7_put 119 = .ok (.aload_n 0, 1) := by decide +kernel
theorem dX7_put_120 : decode cX7_put 120 = .ok (.getfield 85, 3) := by decide +kernel
theorem dX7_put_123 : decode cX7_put 123 = .ok (.ireturn, 1) := by decide +kernel
theorem dX7_forget_0 : decode cX7_forget 0 = .ok (.aload_n 0, 1) := by decide +kernel
theorem dX7_forget_1 : decode cX7_forget 1 = .ok (.getfield 85, 3) := by decide +kernel
theorem dX7_forget_4 : decode cX7_forget 4 = .ok (.istore_n 1, 1) := by decide +kernel
theorem dX7_forget_5 : decode cX7_forget 5 = .ok (.aload_n 0, 1) := by decide +kernel
theorem dX7_forget_6 : decode cX7_forget 6 = .ok (.iconst 0, 1) := by decide +kernel
theorem dX7_forget_7 : decode cX7_forget 7 = .ok (.putfield 85, 3) := by decide +kernel
theorem dX7_forget_10 : decode cX7_forget 10 = .ok (.iload_n 1, 1) := by decide +kernel
theorem dX7_forget_11 : decode cX7_forget 11 = .ok (.ireturn, 1) := by decide +kernel
theorem dX7_slipsBy_0 : decode cX7_slipsBy 0 = .ok (.iconst 0, 1) := by decide +kernel
theorem dX7_slipsBy_1 : decode cX7_slipsBy 1 = .ok (.istore_n 3, 1) := by decide +kernel
theorem dX7_slipsBy_2 : decode cX7_slipsBy 2 = .ok (.iconst 0, 1) := by decide +kernel
theorem dX7_slipsBy_3 : decode cX7_slipsBy 3 = .ok (.istore 4, 2) := by decide +kernel
theorem dX7_slipsBy_5 : decode cX7_slipsBy 5 = .ok (.iload 4, 2) := by decide +kernel
theorem dX7_slipsBy_7 : decode cX7_slipsBy 7 = .ok (.iconst 4, 1) := by decide +kernel
theorem dX7_slipsBy_8 : decode cX7_slipsBy 8 = .ok (.aload_n 0, 1) := by decide +kernel
theorem dX7_slipsBy_9 : decode cX7_slipsBy 9 = .ok (.getfield 85, 3) := by decide +kernel
theorem dX7_slipsBy_12 : decode cX7_slipsBy 12 = .ok (.imul, 1) := by decide +kernel
theorem dX7_slipsBy_13 : decode cX7_slipsBy 13 = .ok (.if_icmp .ge 75, 3) := by decide +kernel
theorem dX7_slipsBy_16 : decode cX7_slipsBy 16 = .ok (.aload_n 0, 1) := by decide +kernel
theorem dX7_slipsBy_17 : decode cX7_slipsBy 17 = .ok (.aload_n 0, 1) := by decide +kernel
theorem dX7_slipsBy_18 : decode cX7_slipsBy 18 = .ok (.getfield 22, 3) := by decide +kernel
theorem dX7_slipsBy_21 : decode cX7_slipsBy 21 = .ok (.iconst 4, 1) := by decide +kernel
theorem dX7_slipsBy_22 : decode cX7_slipsBy 22 = .ok (.iload_n 1, 1) := by decide +kernel
theorem dX7_slipsBy_23 : decode cX7_slipsBy 23 = .ok (.imul, 1) := by decide +kernel
theorem dX7_slipsBy_24 : decode cX7_slipsBy 24 = .ok (.iaload, 1) := by decide +kernel
theorem dX7_slipsBy_25 : decode cX7_slipsBy 25 = .ok (.aload_n 0, 1) := by decide +kernel
theorem dX7_slipsBy_26 : decode cX7_slipsBy 26 = .ok (.getfield 25, 3) := by decide +kernel
theorem dX7_slipsBy_29 : decode cX7_slipsBy 29 = .ok (.iload 4, 2) := by decide +kernel
theorem dX7_slipsBy_31 : decode cX7_slipsBy 31 = .ok (.iconst 3, 1) := by decide +kernel
theorem dX7_slipsBy_32 : decode cX7_slipsBy 32 = .ok (.iadd, 1) := by decide +kernel
theorem dX7_slipsBy_33 : decode cX7_slipsBy 33 = .ok (.iaload, 1) := by decide +kernel
theorem dX7_slipsBy_34 : decode cX7_slipsBy 34 = .ok (.iload_n 2, 1) := by decide +kernel
theorem dX7_slipsBy_35 : decode cX7_slipsBy 35 = .ok (.aload_n 0, 1) := by decide +kernel
theorem dX7_slipsBy_36 : decode cX7_slipsBy 36 = .ok (.getfield 25, 3) := by decide +kernel
theorem dX7_slipsBy_39 : decode cX7_slipsBy 39 = .ok (.iload 4, 2) := by decide +kernel
theorem dX7_slipsBy_41 : decode cX7_slipsBy 41 = .ok (.iconst 1, 1) := by decide +kernel
theorem dX7_slipsBy_42 : decode cX7_slipsBy 42 = .ok (.iadd, 1) := by decide +kernel
theorem dX7_slipsBy_43 : decode cX7_slipsBy 43 = .ok (.iaload, 1) := by decide +kernel
theorem dX7_slipsBy_44 : decode cX7_slipsBy 44 = .ok (.invokevirtual 108, 3) := by decide +kernel
theorem dX7_slipsBy_47 : decode cX7_slipsBy 47 = .ok (.istore 5, 2) := by decide +kernel
theorem dX7_slipsBy_49 : decode cX7_slipsBy 49 = .ok (.iload_n 3, 1) := by decide +kernel
theorem dX7_slipsBy_50 : decode cX7_slipsBy 50 = .ok (.aload_n 0, 1) := by decide +kernel
theorem dX7_slipsBy_51 : decode cX7_slipsBy 51 = .ok (.getfield 25, 3) := by decide +kernel
theorem dX7_slipsBy_54 : decode cX7_slipsBy 54 = .ok (.iload 4, 2) := by decide +kernel
theorem dX7_slipsBy_56 : decode cX7_slipsBy 56 = .ok (.iaload, 1) := by decide +kernel
theorem dX7_slipsBy_57 : decode cX7_slipsBy 57 = .ok (.iload_n 1, 1) := by decide +kernel
theorem dX7_slipsBy_58 : decode cX7_slipsBy 58 = .ok (.if_icmp .ne 21, 3) := by decide +kernel
theorem dX7_slipsBy_61 : decode cX7_slipsBy 61 = .ok (.iload 5, 2) := by decide +kernel
theorem dX7_slipsBy_63 : decode cX7_slipsBy 63 = .ok (.aload_n 0, 1) := by decide +kernel
theorem dX7_slipsBy_64 : decode cX7_slipsBy 64 = .ok (.getfield 25, 3) := by decide +kernel
theorem dX7_slipsBy_67 : decode cX7_slipsBy 67 = .ok (.iload 4, 2) := by decide +kernel
theorem dX7_slipsBy_69 : decode cX7_slipsBy 69 = .ok (.iconst 2, 1) := by decide +kernel
theorem dX7_slipsBy_70 : decode cX7_slipsBy 70 = .ok (.iadd, 1) := by decide +kernel
theorem dX7_slipsBy_71 : decode cX7_slipsBy 71 = .ok (.iaload, 1) := by decide +kernel
theorem dX7_slipsBy_72 : decode cX7_slipsBy 72 = .ok (.if_icmp .eq 7, 3) := by decide +kernel
theorem dX7_slipsBy_75 : decode cX7_slipsBy 75 = .ok (.iconst 1, 1) := by decide +kernel
theorem dX7_slipsBy_76 : decode cX7_slipsBy 76 = .ok (.goto 4, 3) := by decide +kernel
theorem dX7_slipsBy_79 : decode cX7_slipsBy 79 = .ok (.iconst 0, 1) := by decide +kernel
theorem dX7_slipsBy_80 : decode cX7_slipsBy 80 = .ok (.iadd, 1) := by decide +kernel
theorem dX7_slipsBy_81 : decode cX7_slipsBy 81 = .ok (.istore_n 3, 1) := by decide +kernel
theorem dX7_slipsBy_82 : decode cX7_slipsBy 82 = .ok (.iinc 4 4, 3) := by decide +kernel
theorem dX7_slipsBy_85 : decode cX7_slipsBy 85 = .ok (.goto (-80), 3) := by decide +kernel
theorem dX7_slipsBy_88 : decode cX7_slipsBy 88 = .ok (.iload_n 3, 1) := by decide +kernel
theorem dX7_slipsBy_89 : decode cX7_slipsBy 89 = .ok (.ireturn, 1) := by decide +kernel
theorem dX7_saysOf_0 : decode cX7_saysOf 0 = .ok (.iconst 0, 1) := by decide +kernel
theorem dX7_saysOf_1 : decode cX7_saysOf 1 = .ok (.istore_n 2, 1) := by decide +kernel
theorem dX7_saysOf_2 : decode cX7_saysOf 2 = .ok (.iconst 0, 1) := by decide +kernel
theorem dX7_saysOf_3 : decode cX7_saysOf 3 = .ok (.istore_n 3, 1) := by decide +kernel
theorem dX7_saysOf_4 : decode cX7_saysOf 4 = .ok (.iload_n 3, 1) := by decide +kernel
theorem dX7_saysOf_5 : decode cX7_saysOf 5 = .ok (.iconst 4, 1) := by decide +kernel
theorem dX7_saysOf_6 : decode cX7_saysOf 6 = .ok (.if_icmp .ge 28, 3) := by decide +kernel
theorem dX7_saysOf_9 : decode cX7_saysOf 9 = .ok (.iload_n 2, 1) := by decide +kernel
theorem dX7_saysOf_10 : decode cX7_saysOf 10 = .ok (.aload_n 0, 1) := by decide +kernel
theorem dX7_saysOf_11 : decode cX7_saysOf 11 = .ok (.iload_n 1, 1) := by decide +kernel
theorem dX7_saysOf_12 : decode cX7_saysOf 12 = .ok (.iload_n 3, 1) := by decide +kernel
theorem dX7_saysOf_13 : decode cX7_saysOf 13 = .ok (.invokevirtual 130, 3) := by decide +kernel
theorem dX7_saysOf_16 : decode cX7_saysOf 16 = .ok (.ifCond .ne 9, 3) := by decide +kernel
theorem dX7_saysOf_19 : decode cX7_saysOf 19 = .ok (.iconst 1, 1) := by decide +kernel
theorem dX7_saysOf_20 : decode cX7_saysOf 20 = .ok (.iload_n 3, 1) := by decide +kernel
theorem dX7_saysOf_21 : decode cX7_saysOf 21 = .ok (.ishl, 1) := by decide +kernel
theorem dX7_saysOf_22 : decode cX7_saysOf 22 = .ok (.goto 4, 3) := by decide +kernel
theorem dX7_saysOf_25 : decode cX7_saysOf 25 = .ok (.iconst 0, 1) := by decide +kernel
theorem dX7_saysOf_26 : decode cX7_saysOf 26 = .ok (.ior, 1) := by decide +kernel
theorem dX7_saysOf_27 : decode cX7_saysOf 27 = .ok (.istore_n 2, 1) := by decide +kernel
theorem dX7_saysOf_28 : decode cX7_saysOf 28 = .ok (.iinc 3 1, 3) := by decide +kernel
theorem dX7_saysOf_31 : decode cX7_saysOf 31 = .ok (.goto (-27), 3) := by decide +kernel
theorem dX7_saysOf_34 : decode cX7_saysOf 34 = .ok (.iload_n 2, 1) := by decide +kernel
theorem dX7_saysOf_35 : decode cX7_saysOf 35 = .ok (.ireturn, 1) := by decide +kernel
theorem dX7_likelyOf_0 : decode cX7_likelyOf 0 = .ok (.iconst 0, 1) := by decide +kernel
theorem dX7_likelyOf_1 : decode cX7_likelyOf 1 = .ok (.istore_n 2, 1) := by decide +kernel
theorem dX7_likelyOf_2 : decode cX7_likelyOf 2 = .ok (.iconst 1, 1) := by decide +kernel
theorem dX7_likelyOf_3 : decode cX7_likelyOf 3 = .ok (.istore_n 3, 1) := by decide +kernel
theorem dX7_likelyOf_4 : decode cX7_likelyOf 4 = .ok (.iload_n 3, 1) := by decide +kernel
theorem dX7_likelyOf_5 : decode cX7_likelyOf 5 = .ok (.iconst 4, 1) := by decide +kernel
theorem dX7_likelyOf_6 : decode cX7_likelyOf 6 = .ok (.if_icmp .ge 30, 3) := by decide +kernel
theorem dX7_likelyOf_9 : decode cX7_likelyOf 9 = .ok (.aload_n 0, 1) := by decide +kernel
theorem dX7_likelyOf_10 : decode cX7_likelyOf 10 = .ok (.iload_n 1, 1) := by decide +kernel
theorem dX7_likelyOf_11 : decode cX7_likelyOf 11 = .ok (.iload_n 3, 1) := by decide +kernel
theorem dX7_likelyOf_12 : decode cX7_likelyOf 12 = .ok (.invokevirtual 130, 3) := by decide +kernel
theorem dX7_likelyOf_15 : decode cX7_likelyOf 15 = .ok (.aload_n 0, 1) := by decide +kernel
theorem dX7_likelyOf_16 : decode cX7_likelyOf 16 = .ok (.iload_n 1, 1) := by decide +kernel
theorem dX7_likelyOf_17 : decode cX7_likelyOf 17 = .ok (.iload_n 2, 1) := by decide +kernel
theorem dX7_likelyOf_18 : decode cX7_likelyOf 18 = .ok (.invokevirtual 130, 3) := by decide +kernel
theorem dX7_likelyOf_21 : decode cX7_likelyOf 21 = .ok (.if_icmp .ge 7, 3) := by decide +kernel
theorem dX7_likelyOf_24 : decode cX7_likelyOf 24 = .ok (.iload_n 3, 1) := by decide +kernel
theorem dX7_likelyOf_25 : decode cX7_likelyOf 25 = .ok (.goto 4, 3) := by decide +kernel
theorem dX7_likelyOf_28 : decode cX7_likelyOf 28 = .ok (.iload_n 2, 1) := by decide +kernel
theorem dX7_likelyOf_29 : decode cX7_likelyOf 29 = .ok (.istore_n 2, 1) := by decide +kernel
theorem dX7_likelyOf_30 : decode cX7_likelyOf 30 = .ok (.iinc 3 1, 3) := by decide +kernel
theorem dX7_likelyOf_33 : decode cX7_likelyOf 33 = .ok (.goto (-29), 3) := by decide +kernel
theorem dX7_likelyOf_36 : decode cX7_likelyOf 36 = .ok (.iload_n 2, 1) := by decide +kernel
theorem dX7_likelyOf_37 : decode cX7_likelyOf 37 = .ok (.ireturn, 1) := by decide +kernel
theorem dX7_listenOf_0 : decode cX7_listenOf 0 = .ok (.aload_n 0, 1) := by decide +kernel
theorem dX7_listenOf_1 : decode cX7_listenOf 1 = .ok (.iload_n 1, 1) := by decide +kernel
theorem dX7_listenOf_2 : decode cX7_listenOf 2 = .ok (.invokevirtual 124, 3) := by decide +kernel
theorem dX7_listenOf_5 : decode cX7_listenOf 5 = .ok (.istore_n 2, 1) := by decide +kernel
theorem dX7_listenOf_6 : decode cX7_listenOf 6 = .ok (.iconst (-1), 1) := by decide +kernel
theorem dX7_listenOf_7 : decode cX7_listenOf 7 = .ok (.istore_n 3, 1) := by decide +kernel
theorem dX7_listenOf_8 : decode cX7_listenOf 8 = .ok (.iconst 5, 1) := by decide +kernel
theorem dX7_listenOf_9 : decode cX7_listenOf 9 = .ok (.istore 4, 2) := by decide +kernel
theorem dX7_listenOf_11 : decode cX7_listenOf 11 = .ok (.iconst 0, 1) := by decide +kernel
theorem dX7_listenOf_12 : decode cX7_listenOf 12 = .ok (.istore 5, 2) := by decide +kernel
theorem dX7_listenOf_14 : decode cX7_listenOf 14 = .ok (.iload 5, 2) := by decide +kernel
theorem dX7_listenOf_16 : decode cX7_listenOf 16 = .ok (.bipush 8, 2) := by decide +kernel
theorem dX7_listenOf_18 : decode cX7_listenOf 18 = .ok (.if_icmp .ge 129, 3) := by decide +kernel
theorem dX7_listenOf_21 : decode cX7_listenOf 21 = .ok (.iload_n 2, 1) := by decide +kernel
theorem dX7_listenOf_22 : decode cX7_listenOf 22 = .ok (.ifCond .eq 125, 3) := by decide +kernel
theorem dX7_listenOf_25 : decode cX7_listenOf 25 = .ok (.iconst 0, 1) := by decide +kernel
theorem dX7_listenOf_26 : decode cX7_listenOf 26 = .ok (.istore 6, 2) := by decide +kernel
theorem dX7_listenOf_28 : decode cX7_listenOf 28 = .ok (.iconst 0, 1) := by decide +kernel
theorem dX7_listenOf_29 : decode cX7_listenOf 29 = .ok (.istore 7, 2) := by decide +kernel
theorem dX7_listenOf_31 : decode cX7_listenOf 31 = .ok (.iconst 0, 1) := by decide +kernel
theorem dX7_listenOf_32 : decode cX7_listenOf 32 = .ok (.istore 8, 2) := by decide +kernel
theorem dX7_listenOf_34 : decode cX7_listenOf 34 = .ok (.iload 8, 2) := by decide +kernel
theorem dX7_listenOf_36 : decode cX7_listenOf 36 = .ok (.iconst 4, 1) := by decide +kernel
theorem dX7_listenOf_37 : decode cX7_listenOf 37 = .ok (.if_icmp .ge 52, 3) := by decide +kernel
theorem dX7_listenOf_40 : decode cX7_listenOf 40 = .ok (.iload_n 2, 1) := by decide +kernel
theorem dX7_listenOf_41 : decode cX7_listenOf 41 = .ok (.iload 8, 2) := by decide +kernel
theorem dX7_listenOf_43 : decode cX7_listenOf 43 = .ok (.ishr, 1) := by decide +kernel
theorem dX7_listenOf_44 : decode cX7_listenOf 44 = .ok (.iconst 1, 1) := by decide +kernel
theorem dX7_listenOf_45 : decode cX7_listenOf 45 = .ok (.iand, 1) := by decide +kernel
theorem dX7_listenOf_46 : decode cX7_listenOf 46 = .ok (.istore 9, 2) := by decide +kernel
theorem dX7_listenOf_48 : decode cX7_listenOf 48 = .ok (.iload 7, 2) := by decide +kernel
theorem dX7_listenOf_50 : decode cX7_listenOf 50 = .ok (.iload 9, 2) := by decide +kernel
theorem dX7_listenOf_52 : decode cX7_listenOf 52 = .ok (.iadd, 1) := by decide +kernel
theorem dX7_listenOf_53 : decode cX7_listenOf 53 = .ok (.istore 7, 2) := by decide +kernel
theorem dX7_listenOf_55 : decode cX7_listenOf 55 = .ok (.iload 6, 2) := by decide +kernel
theorem dX7_listenOf_57 : decode cX7_listenOf 57 = .ok (.iload 9, 2) := by decide +kernel
theorem dX7_listenOf_59 : decode cX7_listenOf 59 = .ok (.aload_n 0, 1) := by decide +kernel
theorem dX7_listenOf_60 : decode cX7_listenOf 60 = .ok (.iload_n 1, 1) := by decide +kernel
theorem dX7_listenOf_61 : decode cX7_listenOf 61 = .ok (.iload 8, 2) := by decide +kernel
theorem dX7_listenOf_63 : decode cX7_listenOf 63 = .ok (.aload_n 0, 1) := by decide +kernel
theorem dX7_listenOf_64 : decode cX7_listenOf 64 = .ok (.getfield 22, 3) := by decide +kernel
theorem dX7_listenOf_67 : decode cX7_listenOf 67 = .ok (.iconst 4, 1) := by decide +kernel
theorem dX7_listenOf_68 : decode cX7_listenOf 68 = .ok (.iload_n 1, 1) := by decide +kernel
theorem dX7_listenOf_69 : decode cX7_listenOf 69 = .ok (.imul, 1) := by decide +kernel
theorem dX7_listenOf_70 : decode cX7_listenOf 70 = .ok (.iconst 3, 1) := by decide +kernel
theorem dX7_listenOf_71 : decode cX7_listenOf 71 = .ok (.iadd, 1) := by decide +kernel
theorem dX7_listenOf_72 : decode cX7_listenOf 72 = .ok (.iaload, 1) := by decide +kernel
theorem dX7_listenOf_73 : decode cX7_listenOf 73 = .ok (.iload 5, 2) := by decide +kernel
theorem dX7_listenOf_75 : decode cX7_listenOf 75 = .ok (.iadd, 1) := by decide +kernel
theorem dX7_listenOf_76 : decode cX7_listenOf 76 = .ok (.invokevirtual 112, 3) := by decide +kernel
theorem dX7_listenOf_79 : decode cX7_listenOf 79 = .ok (.imul, 1) := by decide +kernel
theorem dX7_listenOf_80 : decode cX7_listenOf 80 = .ok (.iadd, 1) := by decide +kernel
theorem dX7_listenOf_81 : decode cX7_listenOf 81 = .ok (.istore 6, 2) := by decide +kernel
theorem dX7_listenOf_83 : decode cX7_listenOf 83 = .ok (.iinc 8 1, 3) := by decide +kernel
theorem dX7_listenOf_86 : decode cX7_listenOf 86 = .ok (.goto (-52), 3) := by decide +kernel
theorem dX7_listenOf_89 : decode cX7_listenOf 89 = .ok (.iload 6, 2) := by decide +kernel
theorem dX7_listenOf_91 : decode cX7_listenOf 91 = .ok (.iload 7, 2) := by decide +kernel
theorem dX7_listenOf_93 : decode cX7_listenOf 93 = .ok (.iload 6, 2) := by decide +kernel
theorem dX7_listenOf_95 : decode cX7_listenOf 95 = .ok (.isub, 1) := by decide +kernel
theorem dX7_listenOf_96 : decode cX7_listenOf 96 = .ok (.if_icmp .le 8, 3) := by decide +kernel
theorem dX7_listenOf_99 : decode cX7_listenOf 99 = .ok (.iload 6, 2) := by decide +kernel
theorem dX7_listenOf_101 : decode cX7_listenOf 101 = .ok (.goto 8, 3) := by decide +kernel
theorem dX7_listenOf_104 : decode cX7_listenOf 104 = .ok (.iload 7, 2) := by decide +kernel
theorem dX7_listenOf_106 : decode cX7_listenOf 106 = .ok (.iload 6, 2) := by decide +kernel
theorem dX7_listenOf_108 : decode cX7_listenOf 108 = .ok (.isub, 1) := by decide +kernel
theorem dX7_listenOf_109 : decode cX7_listenOf 109 = .ok (.istore 8, 2) := by decide +kernel
theorem dX7_listenOf_111 : decode cX7_listenOf 111 = .ok (.iload 8, 2) := by decide +kernel
theorem dX7_listenOf_113 : decode cX7_listenOf 113 = .ok (.iload 4, 2) := by decide +kernel
theorem dX7_listenOf_115 : decode cX7_listenOf 115 = .ok (.if_icmp .ge 8, 3) := by decide +kernel
theorem dX7_listenOf_118 : decode cX7_listenOf 118 = .ok (.iload 5, 2) := by decide +kernel
theorem dX7_listenOf_120 : decode cX7_listenOf 120 = .ok (.goto 4, 3) := by decide +kernel
theorem dX7_listenOf_123 : decode cX7_listenOf 123 = .ok (.iload_n 3, 1) := by decide +kernel
theorem dX7_listenOf_124 : decode cX7_listenOf 124 = .ok (.istore_n 3, 1) := by decide +kernel
theorem dX7_listenOf_125 : decode cX7_listenOf 125 = .ok (.iload 8, 2) := by decide +kernel
theorem dX7_listenOf_127 : decode cX7_listenOf 127 = .ok (.iload 4, 2) := by decide +kernel
theorem dX7_listenOf_129 : decode cX7_listenOf 129 = .ok (.if_icmp .ge 8, 3) := by decide +kernel
theorem dX7_listenOf_132 : decode cX7_listenOf 132 = .ok (.iload 8, 2) := by decide +kernel
theorem dX7_listenOf_134 : decode cX7_listenOf 134 = .ok (.goto 5, 3) := by decide +kernel
theorem dX7_listenOf_137 : decode cX7_listenOf 137 = .ok (.iload 4, 2) := by decide +kernel
theorem dX7_listenOf_139 : decode cX7_listenOf 139 = .ok (.istore 4, 2) := by decide +kernel
theorem dX7_listenOf_141 : decode cX7_listenOf 141 = .ok (.iinc 5 1, 3) := by decide +kernel
theorem dX7_listenOf_144 : decode cX7_listenOf 144 = .ok (.goto (-130), 3) := by decide +kernel
theorem dX7_listenOf_147 : decode cX7_listenOf 147 = .ok (.iload_n 3, 1) := by decide +kernel
theorem dX7_listenOf_148 : decode cX7_listenOf 148 = .ok (.ireturn, 1) := by decide +kernel
theorem dX7_draw_0 : decode cX7_draw 0 = .ok (.aload_n 0, 1) := by decide +kernel
theorem dX7_draw_1 : decode cX7_draw 1 = .ok (.ldc2_w 158, 3) := by decide +kernel
theorem dX7_draw_4 : decode cX7_draw 4 = .ok (.aload_n 0, 1) := by decide +kernel
theorem dX7_draw_5 : decode cX7_draw 5 = .ok (.getfield 160, 3) := by decide +kernel
theorem dX7_draw_8 : decode cX7_draw 8 = .ok (.i2l, 1) := by decide +kernel
theorem dX7_draw_9 : decode cX7_draw 9 = .ok (.lmul, 1) := by decide +kernel
theorem dX7_draw_10 : decode cX7_draw 10 = .ok (.ldc2_w 163, 3) := by decide +kernel
theorem dX7_draw_13 : decode cX7_draw 13 = .ok (.ladd, 1) := by decide +kernel
theorem dX7_draw_14 : decode cX7_draw 14 = .ok (.ldc2_w 165, 3) := by decide +kernel
theorem dX7_draw_17 : decode cX7_draw 17 = .ok (.land, 1) := by decide +kernel
theorem dX7_draw_18 : decode cX7_draw 18 = .ok (.l2i, 1) := by decide +kernel
theorem dX7_draw_19 : decode cX7_draw 19 = .ok (.putfield 160, 3) := by decide +kernel
theorem dX7_draw_22 : decode cX7_draw 22 = .ok (.aload_n 0, 1) := by decide +kernel
theorem dX7_draw_23 : decode cX7_draw 23 = .ok (.getfield 160, 3) := by decide +kernel
theorem dX7_draw_26 : decode cX7_draw 26 = .ok (.ldc 167, 2) := by decide +kernel
theorem dX7_draw_28 : decode cX7_draw 28 = .ok (.idiv, 1) := by decide +kernel
theorem dX7_draw_29 : decode cX7_draw 29 = .ok (.iload_n 1, 1) := by decide +kernel
theorem dX7_draw_30 : decode cX7_draw 30 = .ok (.irem, 1) := by decide +kernel
theorem dX7_draw_31 : decode cX7_draw 31 = .ok (.ireturn, 1) := by decide +kernel
theorem dX7_nights_0 : decode cX7_nights 0 = .ok (.iload_n 1, 1) := by decide +kernel
theorem dX7_nights_1 : decode cX7_nights 1 = .ok (.i2l, 1) := by decide +kernel
theorem dX7_nights_2 : decode cX7_nights 2 = .ok (.lconst 1, 1) := by decide +kernel
theorem dX7_nights_3 : decode cX7_nights 3 = .ok (.ldc2_w 168, 3) := by decide +kernel
theorem dX7_nights_6 : decode cX7_nights 6 = .ok (.invokestatic 40, 3) := by decide +kernel
theorem dX7_nights_9 : decode cX7_nights 9 = .ok (.ifCond .eq 19, 3) := by decide +kernel
theorem dX7_nights_12 : decode cX7_nights 12 = .ok (.iload_n 2, 1) := by decide +kernel
theorem dX7_nights_13 : decode cX7_nights 13 = .ok (.ifCond .lt 15, 3) := by decide +kernel
theorem dX7_nights_16 : decode cX7_nights 16 = .ok (.iload_n 3, 1) := by decide +kernel
theorem dX7_nights_17 : decode cX7_nights 17 = .ok (.i2l, 1) := by decide +kernel
theorem dX7_nights_18 : decode cX7_nights 18 = .ok (.lconst 0, 1) := by decide +kernel
theorem dX7_nights_19 : decode cX7_nights 19 = .ok (.ldc2_w 170, 3) := by decide +kernel
theorem dX7_nights_22 : decode cX7_nights 22 = .ok (.invokestatic 40, 3) := by decide +kernel
theorem dX7_nights_25 : decode cX7_nights 25 = .ok (.ifCond .ne 6, 3) := by decide +kernel
theorem dX7_nights_28 : decode cX7_nights 28 = .ok (.bipush (-102), 2) := by decide +kernel
theorem dX7_nights_30 : decode cX7_nights 30 = .ok (.ireturn, 1) := by decide +kernel
theorem dX7_nights_31 : decode cX7_nights 31 = .ok (.aload_n 0, 1) := by decide +kernel
theorem dX7_nights_32 : decode cX7_nights 32 = .ok (.invokevirtual 97, 3) := by decide +kernel
theorem dX7_nights_35 : decode cX7_nights 35 = .ok (.ifCond .eq 6, 3) := by decide +kernel
theorem dX7_nights_38 : decode cX7_nights 38 = .ok (.bipush (-103), 2) := by decide +kernel
theorem dX7_nights_40 : decode cX7_nights 40 = .ok (.ireturn, 1) := by decide +kernel
theorem dX7_nights_41 : decode cX7_nights 41 = .ok (.aload_n 0, 1) := by decide +kernel
theorem dX7_nights_42 : decode cX7_nights 42 = .ok (.iload_n 2, 1) := by decide +kernel
theorem dX7_nights_43 : decode cX7_nights 43 = .ok (.putfield 160, 3) := by decide +kernel
theorem dX7_nights_46 : decode cX7_nights 46 = .ok (.iconst 0, 1) := by decide +kernel
theorem dX7_nights_47 : decode cX7_nights 47 = .ok (.istore 4, 2) := by decide +kernel
theorem dX7_nights_49 : decode cX7_nights 49 = .ok (.iconst 0, 1) := by decide +kernel
theorem dX7_nights_50 : decode cX7_nights 50 = .ok (.istore 5, 2) := by decide +kernel
theorem dX7_nights_52 : decode cX7_nights 52 = .ok (.iconst 0, 1) := by decide +kernel
theorem dX7_nights_53 : decode cX7_nights 53 = .ok (.istore 6, 2) := by decide +kernel
theorem dX7_nights_55 : decode cX7_nights 55 = .ok (.iload 6, 2) := by decide +kernel
theorem dX7_nights_57 : decode cX7_nights 57 = .ok (.iload_n 1, 1) := by decide +kernel
theorem dX7_nights_58 : decode cX7_nights 58 = .ok (.if_icmp .ge 99, 3) := by decide +kernel
theorem dX7_nights_61 : decode cX7_nights 61 = .ok (.iconst 0, 1) := by decide +kernel
theorem dX7_nights_62 : decode cX7_nights 62 = .ok (.istore 7, 2) := by decide +kernel
theorem dX7_nights_64 : decode cX7_nights 64 = .ok (.iload 7, 2) := by decide +kernel
theorem dX7_nights_66 : decode cX7_nights 66 = .ok (.aload_n 0, 1) := by decide +kernel
theorem dX7_nights_67 : decode cX7_nights 67 = .ok (.getfield 75, 3) := by decide +kernel
theorem dX7_nights_70 : decode cX7_nights 70 = .ok (.if_icmp .ge 81, 3) := by decide +kernel
theorem dX7_nights_73 : decode cX7_nights 73 = .ok (.aload_n 0, 1) := by decide +kernel
theorem dX7_nights_74 : decode cX7_nights 74 = .ok (.iload 7, 2) := by decide +kernel
theorem dX7_nights_76 : decode cX7_nights 76 = .ok (.aload_n 0, 1) := by decide +kernel
theorem dX7_nights_77 : decode cX7_nights 77 = .ok (.getfield 22, 3) := by decide +kernel
theorem dX7_nights_80 : decode cX7_nights 80 = .ok (.iconst 4, 1) := by decide +kernel
theorem dX7_nights_81 : decode cX7_nights 81 = .ok (.iload 7, 2) := by decide +kernel
theorem dX7_nights_83 : decode cX7_nights 83 = .ok (.imul, 1) := by decide +kernel
theorem dX7_nights_84 : decode cX7_nights 84 = .ok (.iconst 3, 1) := by decide +kernel
theorem dX7_nights_85 : decode cX7_nights 85 = .ok (.iadd, 1) := by decide +kernel
theorem dX7_nights_86 : decode cX7_nights 86 = .ok (.iaload, 1) := by decide +kernel
theorem dX7_nights_87 : decode cX7_nights 87 = .ok (.iload 6, 2) := by decide +kernel
theorem dX7_nights_89 : decode cX7_nights 89 = .ok (.iadd, 1) := by decide +kernel
theorem dX7_nights_90 : decode cX7_nights 90 = .ok (.invokevirtual 144, 3) := by decide +kernel
theorem dX7_nights_93 : decode cX7_nights 93 = .ok (.istore 8, 2) := by decide +kernel
theorem dX7_nights_95 : decode cX7_nights 95 = .ok (.aload_n 0, 1) := by decide +kernel
theorem dX7_nights_96 : decode cX7_nights 96 = .ok (.bipush 8, 2) := by decide +kernel
theorem dX7_nights_98 : decode cX7_nights 98 = .ok (.invokevirtual 172, 3) := by decide +kernel
theorem dX7_nights_101 : decode cX7_nights 101 = .ok (.ifCond .ne 7, 3) := by decide +kernel
theorem dX7_nights_104 : decode cX7_nights 104 = .ok (.iconst 1, 1) := by decide +kernel
theorem dX7_nights_105 : decode cX7_nights 105 = .ok (.goto 4, 3) := by decide +kernel
theorem dX7_nights_108 : decode cX7_nights 108 = .ok (.iconst 0, 1) := by decide +kernel
theorem dX7_nights_109 : decode cX7_nights 109 = .ok (.istore 9, 2) := by decide +kernel
theorem dX7_nights_111 : decode cX7_nights 111 = .ok (.iload 5, 2) := by decide +kernel
theorem dX7_nights_113 : decode cX7_nights 113 = .ok (.iload 9, 2) := by decide +kernel
theorem dX7_nights_115 : decode cX7_nights 115 = .ok (.ifCond .eq 7, 3) := by decide +kernel
theorem dX7_nights_118 : decode cX7_nights 118 = .ok (.iconst 1, 1) := by decide +kernel
theorem dX7_nights_119 : decode cX7_nights 119 = .ok (.goto 4, 3) := by decide +kernel
theorem dX7_nights_122 : decode cX7_nights 122 = .ok (.iconst 0, 1) := by decide +kernel
theorem dX7_nights_123 : decode cX7_nights 123 = .ok (.iadd, 1) := by decide +kernel
theorem dX7_nights_124 : decode cX7_nights 124 = .ok (.istore 5, 2) := by decide +kernel
theorem dX7_nights_126 : decode cX7_nights 126 = .ok (.iload 4, 2) := by decide +kernel
theorem dX7_nights_128 : decode cX7_nights 128 = .ok (.iload 9, 2) := by decide +kernel
theorem dX7_nights_130 : decode cX7_nights 130 = .ok (.ifCond .eq 10, 3) := by decide +kernel
theorem dX7_nights_133 : decode cX7_nights 133 = .ok (.iconst 1, 1) := by decide +kernel
theorem dX7_nights_134 : decode cX7_nights 134 = .ok (.iload 8, 2) := by decide +kernel
theorem dX7_nights_136 : decode cX7_nights 136 = .ok (.isub, 1) := by decide +kernel
theorem dX7_nights_137 : decode cX7_nights 137 = .ok (.goto 5, 3) := by decide +kernel
theorem dX7_nights_140 : decode cX7_nights 140 = .ok (.iload 8, 2) := by decide +kernel
theorem dX7_nights_142 : decode cX7_nights 142 = .ok (.iadd, 1) := by decide +kernel
theorem dX7_nights_143 : decode cX7_nights 143 = .ok (.istore 4, 2) := by decide +kernel
theorem dX7_nights_145 : decode cX7_nights 145 = .ok (.iinc 7 1, 3) := by decide +kernel
theorem dX7_nights_148 : decode cX7_nights 148 = .ok (.goto (-84), 3) := by decide +kernel
theorem dX7_nights_151 : decode cX7_nights 151 = .ok (.iinc 6 1, 3) := by decide +kernel
theorem dX7_nights_154 : decode cX7_nights 154 = .ok (.goto (-99), 3) := by decide +kernel
theorem dX7_nights_157 : decode cX7_nights 157 = .ok (.iload_n 3, 1) := by decide +kernel
theorem dX7_nights_158 : decode cX7_nights 158 = .ok (.ifCond .ne 8, 3) := by decide +kernel
theorem dX7_nights_161 : decode cX7_nights 161 = .ok (.iload 4, 2) := by decide +kernel
theorem dX7_nights_163 : decode cX7_nights 163 = .ok (.goto 17, 3) := by decide +kernel
theorem dX7_nights_166 : decode cX7_nights 166 = .ok (.iload_n 3, 1) := by decide +kernel
theorem dX7_nights_167 : decode cX7_nights 167 = .ok (.iconst 1, 1) := by decide +kernel
theorem dX7_nights_168 : decode cX7_nights 168 = .ok (.if_icmp .ne 8, 3) := by decide +kernel
theorem dX7_nights_171 : decode cX7_nights 171 = .ok (.iload 5, 2) := by decide +kernel
theorem dX7_nights_173 : decode cX7_nights 173 = .ok (.goto 7, 3) := by decide +kernel
theorem dX7_nights_176 : decode cX7_nights 176 = .ok (.aload_n 0, 1) := by decide +kernel
theorem dX7_nights_177 : decode cX7_nights 177 = .ok (.getfield 160, 3) := by decide +kernel
theorem dX7_nights_180 : decode cX7_nights 180 = .ok (.ireturn, 1) := by decide +kernel
theorem dX7_image_0 : decode cX7_image 0 = .ok (.aload_n 0, 1) := by decide +kernel
theorem dX7_image_1 : decode cX7_image 1 = .ok (.invokevirtual 97, 3) := by decide +kernel
theorem dX7_image_4 : decode cX7_image 4 = .ok (.ifCond .eq 6, 3) := by decide +kernel
theorem dX7_image_7 : decode cX7_image 7 = .ok (.bipush (-103), 2) := by decide +kernel
theorem dX7_image_9 : decode cX7_image 9 = .ok (.ireturn, 1) := by decide +kernel
theorem dX7_image_10 : decode cX7_image 10 = .ok (.aload_n 0, 1) := by decide +kernel
theorem dX7_image_11 : decode cX7_image 11 = .ok (.getfield 22, 3) := by decide +kernel
theorem dX7_image_14 : decode cX7_image 14 = .ok (.aload_n 0, 1) := by decide +kernel
theorem dX7_image_15 : decode cX7_image 15 = .ok (.getfield 28, 3) := by decide +kernel
theorem dX7_image_18 : decode cX7_image 18 = .ok (.invokestatic 78, 3) := by decide +kernel
theorem dX7_image_21 : decode cX7_image 21 = .ok (.aload_n 0, 1) := by decide +kernel
theorem dX7_image_22 : decode cX7_image 22 = .ok (.getfield 25, 3) := by decide +kernel
theorem dX7_image_25 : decode cX7_image 25 = .ok (.aload_n 0, 1) := by decide +kernel
theorem dX7_image_26 : decode cX7_image 26 = .ok (.getfield 31, 3) := by decide +kernel
theorem dX7_image_29 : decode cX7_image 29 = .ok (.invokestatic 78, 3) := by decide +kernel
theorem dX7_image_32 : decode cX7_image 32 = .ok (.aload_n 0, 1) := by decide +kernel
theorem dX7_image_33 : decode cX7_image 33 = .ok (.aload_n 0, 1) := by decide +kernel
theorem dX7_image_34 : decode cX7_image 34 = .ok (.getfield 75, 3) := by decide +kernel
theorem dX7_image_37 : decode cX7_image 37 = .ok (.putfield 175, 3) := by decide +kernel
theorem dX7_image_40 : decode cX7_image 40 = .ok (.aload_n 0, 1) := by decide +kernel
theorem dX7_image_41 : decode cX7_image 41 = .ok (.aload_n 0, 1) := by decide +kernel
theorem dX7_image_42 : decode cX7_image 42 = .ok (.getfield 82, 3) := by decide +kernel
theorem dX7_image_45 : decode cX7_image 45 = .ok (.putfield 178, 3) := by decide +kernel
theorem dX7_image_48 : decode cX7_image 48 = .ok (.aload_n 0, 1) := by decide +kernel
theorem dX7_image_49 : decode cX7_image 49 = .ok (.aload_n 0, 1) := by decide +kernel
theorem dX7_image_50 : decode cX7_image 50 = .ok (.getfield 85, 3) := by decide +kernel
theorem dX7_image_53 : decode cX7_image 53 = .ok (.putfield 181, 3) := by decide +kernel
theorem dX7_image_56 : decode cX7_image 56 = .ok (.aload_n 0, 1) := by decide +kernel
theorem dX7_image_57 : decode cX7_image 57 = .ok (.aload_n 0, 1) := by decide +kernel
theorem dX7_image_58 : decode cX7_image 58 = .ok (.getfield 88, 3) := by decide +kernel
theorem dX7_image_61 : decode cX7_image 61 = .ok (.putfield 34, 3) := by decide +kernel
theorem dX7_image_64 : decode cX7_image 64 = .ok (.aload_n 0, 1) := by decide +kernel
theorem dX7_image_65 : decode cX7_image 65 = .ok (.getfield 82, 3) := by decide +kernel
theorem dX7_image_68 : decode cX7_image 68 = .ok (.ireturn, 1) := by decide +kernel
theorem dX7_restore_0 : decode cX7_restore 0 = .ok (.aload_n 0, 1) := by decide +kernel
theorem dX7_restore_1 : decode cX7_restore 1 = .ok (.getfield 34, 3) := by decide +kernel
theorem dX7_restore_4 : decode cX7_restore 4 = .ok (.aload_n 0, 1) := by decide +kernel
theorem dX7_restore_5 : decode cX7_restore 5 = .ok (.getfield 88, 3) := by decide +kernel
theorem dX7_restore_8 : decode cX7_restore 8 = .ok (.if_icmp .eq 6, 3) := by decide +kernel
theorem dX7_restore_11 : decode cX7_restore 11 = .ok (.bipush (-103), 2) := by decide +kernel
theorem dX7_restore_13 : decode cX7_restore 13 = .ok (.ireturn, 1) := by decide +kernel
theorem dX7_restore_14 : decode cX7_restore 14 = .ok (.aload_n 0, 1) := by decide +kernel
theorem dX7_restore_15 : decode cX7_restore 15 = .ok (.getfield 28, 3) := by decide +kernel
theorem dX7_restore_18 : decode cX7_restore 18 = .ok (.aload_n 0, 1) := by decide +kernel
theorem dX7_restore_19 : decode cX7_restore 19 = .ok (.getfield 22, 3) := by decide +kernel
theorem dX7_restore_22 : decode cX7_restore 22 = .ok (.invokestatic 78, 3) := by decide +kernel
theorem dX7_restore_25 : decode cX7_restore 25 = .ok (.aload_n 0, 1) := by decide +kernel
theorem dX7_restore_26 : decode cX7_restore 26 = .ok (.getfield 31, 3) := by decide +kernel
theorem dX7_restore_29 : decode cX7_restore 29 = .ok (.aload_n 0, 1) := by decide +kernel
theorem dX7_restore_30 : decode cX7_restore 30 = .ok (.getfield 25, 3) := by decide +kernel
theorem dX7_restore_33 : decode cX7_restore 33 = .ok (.invokestatic 78, 3) := by decide +kernel
theorem dX7_restore_36 : decode cX7_restore 36 = .ok (.aload_n 0, 1) := by decide +kernel
theorem dX7_restore_37 : decode cX7_restore 37 = .ok (.aload_n 0, 1) := by decide +kernel
theorem dX7_restore_38 : decode cX7_restore 38 = .ok (.getfield 175, 3) := by decide +kernel
theorem dX7_restore_41 : decode cX7_restore 41 = .ok (.putfield 75, 3) := by decide +kernel
theorem dX7_restore_44 : decode cX7_restore 44 = .ok (.aload_n 0, 1) := by decide +kernel
theorem dX7_restore_45 : decode cX7_restore 45 = .ok (.aload_n 0, 1) := by decide +kernel
theorem dX7_restore_46 : decode cX7_restore 46 = .ok (.getfield 178, 3) := by decide +kernel
theorem dX7_restore_49 : decode cX7_restore 49 = .ok (.putfield 82, 3) := by decide +kernel
theorem dX7_restore_52 : decode cX7_restore 52 = .ok (.aload_n 0, 1) := by decide +kernel
theorem dX7_restore_53 : decode cX7_restore 53 = .ok (.aload_n 0, 1) := by decide +kernel
theorem dX7_restore_54 : decode cX7_restore 54 = .ok (.getfield 181, 3) := by decide +kernel
theorem dX7_restore_57 : decode cX7_restore 57 = .ok (.putfield 85, 3) := by decide +kernel
theorem dX7_restore_60 : decode cX7_restore 60 = .ok (.aload_n 0, 1) := by decide +kernel
theorem dX7_restore_61 : decode cX7_restore 61 = .ok (.getfield 82, 3) := by decide +kernel
theorem dX7_restore_64 : decode cX7_restore 64 = .ok (.ireturn, 1) := by decide +kernel
theorem dX7_beatsAll_0 : decode cX7_beatsAll 0 = .ok (.iconst 0, 1) := by decide +kernel
theorem dX7_beatsAll_1 : decode cX7_beatsAll 1 = .ok (.istore_n 1, 1) := by decide +kernel
theorem dX7_beatsAll_2 : decode cX7_beatsAll 2 = .ok (.iconst 0, 1) := by decide +kernel
theorem dX7_beatsAll_3 : decode cX7_beatsAll 3 = .ok (.istore_n 2, 1) := by decide +kernel
theorem dX7_beatsAll_4 : decode cX7_beatsAll 4 = .ok (.iload_n 2, 1) := by decide +kernel
theorem dX7_beatsAll_5 : decode cX7_beatsAll 5 = .ok (.iconst 4, 1) := by decide +kernel
theorem dX7_beatsAll_6 : decode cX7_beatsAll 6 = .ok (.if_icmp .ge 27, 3) := by decide +kernel
theorem dX7_beatsAll_9 : decode cX7_beatsAll 9 = .ok (.aload_n 0, 1) := by decide +kernel
theorem dX7_beatsAll_10 : decode cX7_beatsAll 10 = .ok (.invokevirtual 97, 3) := by decide +kernel
theorem dX7_beatsAll_13 : decode cX7_beatsAll 13 = .ok (.ifCond .ne 20, 3) := by decide +kernel
theorem dX7_beatsAll_16 : decode cX7_beatsAll 16 = .ok (.iload_n 1, 1) := by decide +kernel
theorem dX7_beatsAll_17 : decode cX7_beatsAll 17 = .ok (.aload_n 0, 1) := by decide +kernel
theorem dX7_beatsAll_18 : decode cX7_beatsAll 18 = .ok (.getfield 19, 3) := by decide +kernel
theorem dX7_beatsAll_21 : decode cX7_beatsAll 21 = .ok (.iconst 5, 1) := by decide +kernel
theorem dX7_beatsAll_22 : decode cX7_beatsAll 22 = .ok (.iload_n 2, 1) := by decide +kernel
theorem dX7_beatsAll_23 : decode cX7_beatsAll 23 = .ok (.imul, 1) := by decide +kernel
theorem dX7_beatsAll_24 : decode cX7_beatsAll 24 = .ok (.iaload, 1) := by decide +kernel
theorem dX7_beatsAll_25 : decode cX7_beatsAll 25 = .ok (.iadd, 1) := by decide +kernel
theorem dX7_beatsAll_26 : decode cX7_beatsAll 26 = .ok (.istore_n 1, 1) := by decide +kernel
theorem dX7_beatsAll_27 : decode cX7_beatsAll 27 = .ok (.iinc 2 1, 3) := by decide +kernel
theorem dX7_beatsAll_30 : decode cX7_beatsAll 30 = .ok (.goto (-26), 3) := by decide +kernel
theorem dX7_beatsAll_33 : decode cX7_beatsAll 33 = .ok (.iload_n 1, 1) := by decide +kernel
theorem dX7_beatsAll_34 : decode cX7_beatsAll 34 = .ok (.ireturn, 1) := by decide +kernel
theorem dX7_sumAt_0 : decode cX7_sumAt 0 = .ok (.iconst 0, 1) := by decide +kernel
theorem dX7_sumAt_1 : decode cX7_sumAt 1 = .ok (.istore_n 2, 1) := by decide +kernel
theorem dX7_sumAt_2 : decode cX7_sumAt 2 = .ok (.iconst 0, 1) := by decide +kernel
theorem dX7_sumAt_3 : decode cX7_sumAt 3 = .ok (.istore_n 3, 1) := by decide +kernel
theorem dX7_sumAt_4 : decode cX7_sumAt 4 = .ok (.iload_n 3, 1) := by decide +kernel
theorem dX7_sumAt_5 : decode cX7_sumAt 5 = .ok (.aload_n 0, 1) := by decide +kernel
theorem dX7_sumAt_6 : decode cX7_sumAt 6 = .ok (.getfield 75, 3) := by decide +kernel
theorem dX7_sumAt_9 : decode cX7_sumAt 9 = .ok (.if_icmp .ge 22, 3) := by decide +kernel
theorem dX7_sumAt_12 : decode cX7_sumAt 12 = .ok (.iload_n 2, 1) := by decide +kernel
theorem dX7_sumAt_13 : decode cX7_sumAt 13 = .ok (.aload_n 0, 1) := by decide +kernel
theorem dX7_sumAt_14 : decode cX7_sumAt 14 = .ok (.getfield 22, 3) := by decide +kernel
theorem dX7_sumAt_17 : decode cX7_sumAt 17 = .ok (.iconst 4, 1) := by decide +kernel
theorem dX7_sumAt_18 : decode cX7_sumAt 18 = .ok (.iload_n 3, 1) := by decide +kernel
theorem dX7_sumAt_19 : decode cX7_sumAt 19 = .ok (.imul, 1) := by decide +kernel
theorem dX7_sumAt_20 : decode cX7_sumAt 20 = .ok (.iload_n 1, 1) := by decide +kernel
theorem dX7_sumAt_21 : decode cX7_sumAt 21 = .ok (.iadd, 1) := by decide +kernel
theorem dX7_sumAt_22 : decode cX7_sumAt 22 = .ok (.iaload, 1) := by decide +kernel
theorem dX7_sumAt_23 : decode cX7_sumAt 23 = .ok (.iadd, 1) := by decide +kernel
theorem dX7_sumAt_24 : decode cX7_sumAt 24 = .ok (.istore_n 2, 1) := by decide +kernel
theorem dX7_sumAt_25 : decode cX7_sumAt 25 = .ok (.iinc 3 1, 3) := by decide +kernel
theorem dX7_sumAt_28 : decode cX7_sumAt 28 = .ok (.goto (-24), 3) := by decide +kernel
theorem dX7_sumAt_31 : decode cX7_sumAt 31 = .ok (.iload_n 2, 1) := by decide +kernel
theorem dX7_sumAt_32 : decode cX7_sumAt 32 = .ok (.ireturn, 1) := by decide +kernel
theorem dX7_countOf_0 : decode cX7_countOf 0 = .ok (.iload_n 1, 1) := by decide +kernel
theorem dX7_countOf_1 : decode cX7_countOf 1 = .ok (.tableswitch 89 0 7 #[47, 52, 57, 63, 69, 74, 79, 84], 47) := by decide +kernel
theorem dX7_countOf_48 : decode cX7_countOf 48 = .ok (.aload_n 0, 1) := by decide +kernel
theorem dX7_countOf_49 : decode cX7_countOf 49 = .ok (.getfield 75, 3) := by decide +kernel
theorem dX7_countOf_52 : decode cX7_countOf 52 = .ok (.ireturn, 1) := by decide +kernel
theorem dX7_countOf_53 : decode cX7_countOf 53 = .ok (.aload_n 0, 1) := by decide +kernel
theorem dX7_countOf_54 : decode cX7_countOf 54 = .ok (.invokevirtual 184, 3) := by decide +kernel
theorem dX7_countOf_57 : decode cX7_countOf 57 = .ok (.ireturn, 1) := by decide +kernel
theorem dX7_countOf_58 : decode cX7_countOf 58 = .ok (.aload_n 0, 1) := by decide +kernel
theorem dX7_countOf_59 : decode cX7_countOf 59 = .ok (.iconst 2, 1) := by decide +kernel
theorem dX7_countOf_60 : decode cX7_countOf 60 = .ok (.invokevirtual 187, 3) := by decide +kernel
theorem dX7_countOf_63 : decode cX7_countOf 63 = .ok (.ireturn, 1) := by decide +kernel
theorem dX7_countOf_64 : decode cX7_countOf 64 = .ok (.aload_n 0, 1) := by decide +kernel
theorem dX7_countOf_65 : decode cX7_countOf 65 = .ok (.iconst 3, 1) := by decide +kernel
theorem dX7_countOf_66 : decode cX7_countOf 66 = .ok (.invokevirtual 187, 3) := by decide +kernel
theorem dX7_countOf_69 : decode cX7_countOf 69 = .ok (.ireturn, 1) := by decide +kernel
theorem dX7_countOf_70 : decode cX7_countOf 70 = .ok (.aload_n 0, 1) := by decide +kernel
theorem dX7_countOf_71 : decode cX7_countOf 71 = .ok (.getfield 82, 3) := by decide +kernel
theorem dX7_countOf_74 : decode cX7_countOf 74 = .ok (.ireturn, 1) := by decide +kernel
theorem dX7_countOf_75 : decode cX7_countOf 75 = .ok (.aload_n 0, 1) := by decide +kernel
theorem dX7_countOf_76 : decode cX7_countOf 76 = .ok (.getfield 85, 3) := by decide +kernel
theorem dX7_countOf_79 : decode cX7_countOf 79 = .ok (.ireturn, 1) := by decide +kernel
theorem dX7_countOf_80 : decode cX7_countOf 80 = .ok (.aload_n 0, 1) := by decide +kernel
theorem dX7_countOf_81 : decode cX7_countOf 81 = .ok (.getfield 44, 3) := by decide +kernel
theorem dX7_countOf_84 : decode cX7_countOf 84 = .ok (.ireturn, 1) := by decide +kernel
theorem dX7_countOf_85 : decode cX7_countOf 85 = .ok (.aload_n 0, 1) := by decide +kernel
theorem dX7_countOf_86 : decode cX7_countOf 86 = .ok (.getfield 88, 3) := by decide +kernel
theorem dX7_countOf_89 : decode cX7_countOf 89 = .ok (.ireturn, 1) := by decide +kernel
theorem dX7_countOf_90 : decode cX7_countOf 90 = .ok (.bipush (-102), 2) := by decide +kernel
theorem dX7_countOf_92 : decode cX7_countOf 92 = .ok (.ireturn, 1) := by decide +kernel
theorem dX7_count_0 : decode cX7_count 0 = .ok (.aload_n 0, 1) := by decide +kernel
theorem dX7_count_1 : decode cX7_count 1 = .ok (.iload_n 1, 1) := by decide +kernel
theorem dX7_count_2 : decode cX7_count 2 = .ok (.invokevirtual 190, 3) := by decide +kernel
theorem dX7_count_5 : decode cX7_count 5 = .ok (.ireturn, 1) := by decide +kernel
theorem dX7_say_0 : decode cX7_say 0 = .ok (.aload_n 0, 1) := by decide +kernel
theorem dX7_say_1 : decode cX7_say 1 = .ok (.ldc2_w 193, 3) := by decide +kernel
theorem dX7_say_4 : decode cX7_say 4 = .ok (.aload_n 0, 1) := by decide +kernel
theorem dX7_say_5 : decode cX7_say 5 = .ok (.getfield 195, 3) := by decide +kernel
theorem dX7_say_8 : decode cX7_say 8 = .ok (.lmul, 1) := by decide +kernel
theorem dX7_say_9 : decode cX7_say 9 = .ok (.lload_n 1, 1) := by decide +kernel
theorem dX7_say_10 : decode cX7_say 10 = .ok (.ladd, 1) := by decide +kernel
theorem dX7_say_11 : decode cX7_say 11 = .ok (.putfield 195, 3) := by decide +kernel
theorem dX7_say_14 : decode cX7_say 14 = .ok (.return_, 1) := by decide +kernel
theorem dX7_sayTap_0 : decode cX7_sayTap 0 = .ok (.iconst 0, 1) := by decide +kernel
theorem dX7_sayTap_1 : decode cX7_sayTap 1 = .ok (.istore_n 2, 1) := by decide +kernel
theorem dX7_sayTap_2 : decode cX7_sayTap 2 = .ok (.iload_n 2, 1) := by decide +kernel
theorem dX7_sayTap_3 : decode cX7_sayTap 3 = .ok (.bipush 9, 2) := by decide +kernel
theorem dX7_sayTap_5 : decode cX7_sayTap 5 = .ok (.if_icmp .ge 20, 3) := by decide +kernel
theorem dX7_sayTap_8 : decode cX7_sayTap 8 = .ok (.aload_n 0, 1) := by decide +kernel
theorem dX7_sayTap_9 : decode cX7_sayTap 9 = .ok (.aload_n 0, 1) := by decide +kernel
theorem dX7_sayTap_10 : decode cX7_sayTap 10 = .ok (.iload_n 1, 1) := by decide +kernel
theorem dX7_sayTap_11 : decode cX7_sayTap 11 = .ok (.iload_n 2, 1) := by decide +kernel
theorem dX7_sayTap_12 : decode cX7_sayTap 12 = .ok (.invokevirtual 139, 3) := by decide +kernel
theorem dX7_sayTap_15 : decode cX7_sayTap 15 = .ok (.i2l, 1) := by decide +kernel
theorem dX7_sayTap_16 : decode cX7_sayTap 16 = .ok (.invokevirtual 199, 3) := by decide +kernel
theorem dX7_sayTap_19 : decode cX7_sayTap 19 = .ok (.iinc 2 1, 3) := by decide +kernel
theorem dX7_sayTap_22 : decode cX7_sayTap 22 = .ok (.goto (-20), 3) := by decide +kernel
theorem dX7_sayTap_25 : decode cX7_sayTap 25 = .ok (.iconst 0, 1) := by decide +kernel
theorem dX7_sayTap_26 : decode cX7_sayTap 26 = .ok (.istore_n 2, 1) := by decide +kernel
theorem dX7_sayTap_27 : decode cX7_sayTap 27 = .ok (.iload_n 2, 1) := by decide +kernel
theorem dX7_sayTap_28 : decode cX7_sayTap 28 = .ok (.bipush 8, 2) := by decide +kernel
theorem dX7_sayTap_30 : decode cX7_sayTap 30 = .ok (.if_icmp .ge 20, 3) := by decide +kernel
theorem dX7_sayTap_33 : decode cX7_sayTap 33 = .ok (.aload_n 0, 1) := by decide +kernel
theorem dX7_sayTap_34 : decode cX7_sayTap 34 = .ok (.aload_n 0, 1) := by decide +kernel
theorem dX7_sayTap_35 : decode cX7_sayTap 35 = .ok (.iload_n 1, 1) := by decide +kernel
theorem dX7_sayTap_36 : decode cX7_sayTap 36 = .ok (.iload_n 2, 1) := by decide +kernel
theorem dX7_sayTap_37 : decode cX7_sayTap 37 = .ok (.invokevirtual 144, 3) := by decide +kernel
theorem dX7_sayTap_40 : decode cX7_sayTap 40 = .ok (.i2l, 1) := by decide +kernel
theorem dX7_sayTap_41 : decode cX7_sayTap 41 = .ok (.invokevirtual 199, 3) := by decide +kernel
theorem dX7_sayTap_44 : decode cX7_sayTap 44 = .ok (.iinc 2 1, 3) := by decide +kernel
theorem dX7_sayTap_47 : decode cX7_sayTap 47 = .ok (.goto (-20), 3) := by decide +kernel
theorem dX7_sayTap_50 : decode cX7_sayTap 50 = .ok (.iconst 0, 1) := by decide +kernel
theorem dX7_sayTap_51 : decode cX7_sayTap 51 = .ok (.istore_n 2, 1) := by decide +kernel
theorem dX7_sayTap_52 : decode cX7_sayTap 52 = .ok (.iload_n 2, 1) := by decide +kernel
theorem dX7_sayTap_53 : decode cX7_sayTap 53 = .ok (.iconst 4, 1) := by decide +kernel
theorem dX7_sayTap_54 : decode cX7_sayTap 54 = .ok (.if_icmp .ge 33, 3) := by decide +kernel
theorem dX7_sayTap_57 : decode cX7_sayTap 57 = .ok (.aload_n 0, 1) := by decide +kernel
theorem dX7_sayTap_58 : decode cX7_sayTap 58 = .ok (.aload_n 0, 1) := by decide +kernel
theorem dX7_sayTap_59 : decode cX7_sayTap 59 = .ok (.iload_n 1, 1) := by decide +kernel
theorem dX7_sayTap_60 : decode cX7_sayTap 60 = .ok (.iload_n 2, 1) := by decide +kernel
theorem dX7_sayTap_61 : decode cX7_sayTap 61 = .ok (.iconst 0, 1) := by decide +kernel
theorem dX7_sayTap_62 : decode cX7_sayTap 62 = .ok (.invokevirtual 153, 3) := by decide +kernel
theorem dX7_sayTap_65 : decode cX7_sayTap 65 = .ok (.i2l, 1) := by decide +kernel
theorem dX7_sayTap_66 : decode cX7_sayTap 66 = .ok (.invokevirtual 199, 3) := by decide +kernel
theorem dX7_sayTap_69 : decode cX7_sayTap 69 = .ok (.aload_n 0, 1) := by decide +kernel
theorem dX7_sayTap_70 : decode cX7_sayTap 70 = .ok (.aload_n 0, 1) := by decide +kernel
theorem dX7_sayTap_71 : decode cX7_sayTap 71 = .ok (.iload_n 1, 1) := by decide +kernel
theorem dX7_sayTap_72 : decode cX7_sayTap 72 = .ok (.iload_n 2, 1) := by decide +kernel
theorem dX7_sayTap_73 : decode cX7_sayTap 73 = .ok (.iconst 1, 1) := by decide +kernel
theorem dX7_sayTap_74 : decode cX7_sayTap 74 = .ok (.invokevirtual 153, 3) := by decide +kernel
theorem dX7_sayTap_77 : decode cX7_sayTap 77 = .ok (.i2l, 1) := by decide +kernel
theorem dX7_sayTap_78 : decode cX7_sayTap 78 = .ok (.invokevirtual 199, 3) := by decide +kernel
theorem dX7_sayTap_81 : decode cX7_sayTap 81 = .ok (.iinc 2 1, 3) := by decide +kernel
theorem dX7_sayTap_84 : decode cX7_sayTap 84 = .ok (.goto (-32), 3) := by decide +kernel
theorem dX7_sayTap_87 : decode cX7_sayTap 87 = .ok (.return_, 1) := by decide +kernel
theorem dX7_digest_0 : decode cX7_digest 0 = .ok (.aload_n 0, 1) := by decide +kernel
theorem dX7_digest_1 : decode cX7_digest 1 = .ok (.ldc2_w 203, 3) := by decide +kernel
theorem dX7_digest_4 : decode cX7_digest 4 = .ok (.putfield 195, 3) := by decide +kernel
theorem dX7_digest_7 : decode cX7_digest 7 = .ok (.iconst 0, 1) := by decide +kernel
theorem dX7_digest_8 : decode cX7_digest 8 = .ok (.istore_n 1, 1) := by decide +kernel
theorem dX7_digest_9 : decode cX7_digest 9 = .ok (.iload_n 1, 1) := by decide +kernel
theorem dX7_digest_10 : decode cX7_digest 10 = .ok (.iconst 4, 1) := by decide +kernel
theorem dX7_digest_11 : decode cX7_digest 11 = .ok (.if_icmp .ge 53, 3) := by decide +kernel
theorem dX7_digest_14 : decode cX7_digest 14 = .ok (.aload_n 0, 1) := by decide +kernel
theorem dX7_digest_15 : decode cX7_digest 15 = .ok (.invokevirtual 97, 3) := by decide +kernel
theorem dX7_digest_18 : decode cX7_digest 18 = .ok (.ifCond .ne 46, 3) := by decide +kernel
theorem dX7_digest_21 : decode cX7_digest 21 = .ok (.aload_n 0, 1) := by decide +kernel
theorem dX7_digest_22 : decode cX7_digest 22 = .ok (.aload_n 0, 1) := by decide +kernel
theorem dX7_digest_23 : decode cX7_digest 23 = .ok (.iload_n 1, 1) := by decide +kernel
theorem dX7_digest_24 : decode cX7_digest 24 = .ok (.iconst 0, 1) := by decide +kernel
theorem dX7_digest_25 : decode cX7_digest 25 = .ok (.invokevirtual 104, 3) := by decide +kernel
theorem dX7_digest_28 : decode cX7_digest 28 = .ok (.i2l, 1) := by decide +kernel
theorem dX7_digest_29 : decode cX7_digest 29 = .ok (.invokevirtual 199, 3) := by decide +kernel
theorem dX7_digest_32 : decode cX7_digest 32 = .ok (.bipush 10, 2) := by decide +kernel
theorem dX7_digest_34 : decode cX7_digest 34 = .ok (.istore_n 2, 1) := by decide +kernel
theorem dX7_digest_35 : decode cX7_digest 35 = .ok (.iload_n 2, 1) := by decide +kernel
theorem dX7_digest_36 : decode cX7_digest 36 = .ok (.bipush 14, 2) := by decide +kernel
theorem dX7_digest_38 : decode cX7_digest 38 = .ok (.if_icmp .ge 20, 3) := by decide +kernel
theorem dX7_digest_41 : decode cX7_digest 41 = .ok (.aload_n 0, 1) := by decide +kernel
theorem dX7_digest_42 : decode cX7_digest 42 = .ok (.aload_n 0, 1) := by decide +kernel
theorem dX7_digest_43 : decode cX7_digest 43 = .ok (.iload_n 1, 1) := by decide +kernel
theorem dX7_digest_44 : decode cX7_digest 44 = .ok (.iload_n 2, 1) := by decide +kernel
theorem dX7_digest_45 : decode cX7_digest 45 = .ok (.invokevirtual 104, 3) := by decide +kernel
theorem dX7_digest_48 : decode cX7_digest 48 = .ok (.i2l, 1) := by decide +kernel
theorem dX7_digest_49 : decode cX7_digest 49 = .ok (.invokevirtual 199, 3) := by decide +kernel
theorem dX7_digest_52 : decode cX7_digest 52 = .ok (.iinc 2 1, 3) := by decide +kernel
theorem dX7_digest_55 : decode cX7_digest 55 = .ok (.goto (-20), 3) := by decide +kernel
theorem dX7_digest_58 : decode cX7_digest 58 = .ok (.iinc 1 1, 3) := by decide +kernel
theorem dX7_digest_61 : decode cX7_digest 61 = .ok (.goto (-52), 3) := by decide +kernel
theorem dX7_digest_64 : decode cX7_digest 64 = .ok (.iconst 0, 1) := by decide +kernel
theorem dX7_digest_65 : decode cX7_digest 65 = .ok (.istore_n 1, 1) := by decide +kernel
theorem dX7_digest_66 : decode cX7_digest 66 = .ok (.iload_n 1, 1) := by decide +kernel
theorem dX7_digest_67 : decode cX7_digest 67 = .ok (.aload_n 0, 1) := by decide +kernel
theorem dX7_digest_68 : decode cX7_digest 68 = .ok (.getfield 75, 3) := by decide +kernel
theorem dX7_digest_71 : decode cX7_digest 71 = .ok (.if_icmp .ge 14, 3) := by decide +kernel
theorem dX7_digest_74 : decode cX7_digest 74 = .ok (.aload_n 0, 1) := by decide +kernel
theorem dX7_digest_75 : decode cX7_digest 75 = .ok (.iload_n 1, 1) := by decide +kernel
theorem dX7_digest_76 : decode cX7_digest 76 = .ok (.invokevirtual 205, 3) := by decide +kernel
theorem dX7_digest_79 : decode cX7_digest 79 = .ok (.iinc 1 1, 3) := by decide +kernel
theorem dX7_digest_82 : decode cX7_digest 82 = .ok (.goto (-16), 3) := by decide +kernel
theorem dX7_digest_85 : decode cX7_digest 85 = .ok (.iconst 0, 1) := by decide +kernel
theorem dX7_digest_86 : decode cX7_digest 86 = .ok (.istore_n 1, 1) := by decide +kernel
theorem dX7_digest_87 : decode cX7_digest 87 = .ok (.iload_n 1, 1) := by decide +kernel
theorem dX7_digest_88 : decode cX7_digest 88 = .ok (.aload_n 0, 1) := by decide +kernel
theorem dX7_digest_89 : decode cX7_digest 89 = .ok (.getfield 44, 3) := by decide +kernel
theorem dX7_digest_92 : decode cX7_digest 92 = .ok (.if_icmp .ge 20, 3) := by decide +kernel
theorem dX7_digest_95 : decode cX7_digest 95 = .ok (.aload_n 0, 1) := by decide +kernel
theorem dX7_digest_96 : decode cX7_digest 96 = .ok (.aload_n 0, 1) := by decide +kernel
theorem dX7_digest_97 : decode cX7_digest 97 = .ok (.getfield 7, 3) := by decide +kernel
theorem dX7_digest_100 : decode cX7_digest 100 = .ok (.iload_n 1, 1) := by decide +kernel
theorem dX7_digest_101 : decode cX7_digest 101 = .ok (.iaload, 1) := by decide +kernel
theorem dX7_digest_102 : decode cX7_digest 102 = .ok (.i2l, 1) := by decide +kernel
theorem dX7_digest_103 : decode cX7_digest 103 = .ok (.invokevirtual 199, 3) := by decide +kernel
theorem dX7_digest_106 : decode cX7_digest 106 = .ok (.iinc 1 1, 3) := by decide +kernel
theorem dX7_digest_109 : decode cX7_digest 109 = .ok (.goto (-22), 3) := by decide +kernel
theorem dX7_digest_112 : decode cX7_digest 112 = .ok (.iconst 0, 1) := by decide +kernel
theorem dX7_digest_113 : decode cX7_digest 113 = .ok (.istore_n 1, 1) := by decide +kernel
theorem dX7_digest_114 : decode cX7_digest 114 = .ok (.iload_n 1, 1) := by decide +kernel
theorem dX7_digest_115 : decode cX7_digest 115 = .ok (.bipush 8, 2) := by decide +kernel
theorem dX7_digest_117 : decode cX7_digest 117 = .ok (.if_icmp .ge 19, 3) := by decide +kernel
theorem dX7_digest_120 : decode cX7_digest 120 = .ok (.aload_n 0, 1) := by decide +kernel
theorem dX7_digest_121 : decode cX7_digest 121 = .ok (.aload_n 0, 1) := by decide +kernel
theorem dX7_digest_122 : decode cX7_digest 122 = .ok (.iload_n 1, 1) := by decide +kernel
theorem dX7_digest_123 : decode cX7_digest 123 = .ok (.invokevirtual 190, 3) := by decide +kernel
theorem dX7_digest_126 : decode cX7_digest 126 = .ok (.i2l, 1) := by decide +kernel
theorem dX7_digest_127 : decode cX7_digest 127 = .ok (.invokevirtual 199, 3) := by decide +kernel
theorem dX7_digest_130 : decode cX7_digest 130 = .ok (.iinc 1 1, 3) := by decide +kernel
theorem dX7_digest_133 : decode cX7_digest 133 = .ok (.goto (-19), 3) := by decide +kernel
theorem dX7_digest_136 : decode cX7_digest 136 = .ok (.aload_n 0, 1) := by decide +kernel
theorem dX7_digest_137 : decode cX7_digest 137 = .ok (.getfield 195, 3) := by decide +kernel
theorem dX7_digest_140 : decode cX7_digest 140 = .ok (.lreturn, 1) := by decide +kernel
end
section
theorem dL_law_0 : decode cL_law 0 = .ok (.new 7, 3) := by decide +kernel
theorem dL_law_3 : decode cL_law 3 = .ok (.dup, 1) := by decide +kernel
theorem dL_law_4 : decode cL_law 4 = .ok (.invokespecial 9, 3) := by decide +kernel
theorem dL_law_7 : decode cL_law 7 = .ok (.astore_n 1, 1) := by decide +kernel
theorem dL_law_8 : decode cL_law 8 = .ok (.new 10, 3) := by decide +kernel
theorem dL_law_11 : decode cL_law 11 = .ok (.dup, 1) := by decide +kernel
theorem dL_law_12 : decode cL_law 12 = .ok (.invokespecial 12, 3) := by decide +kernel
theorem dL_law_15 : decode cL_law 15 = .ok (.astore_n 2, 1) := by decide +kernel
theorem dL_law_16 : decode cL_law 16 = .ok (.iconst 0, 1) := by decide +kernel
theorem dL_law_17 : decode cL_law 17 = .ok (.istore_n 3, 1) := by decide +kernel
theorem dL_law_18 : decode cL_law 18 = .ok (.iload_n 3, 1) := by decide +kernel
theorem dL_law_19 : decode cL_law 19 = .ok (.aload_n 0, 1) := by decide +kernel
theorem dL_law_20 : decode cL_law 20 = .ok (.arraylength, 1) := by decide +kernel
theorem dL_law_21 : decode cL_law 21 = .ok (.iconst 4, 1) := by decide +kernel
theorem dL_law_22 : decode cL_law 22 = .ok (.isub, 1) := by decide +kernel
theorem dL_law_23 : decode cL_law 23 = .ok (.if_icmp .gt 701, 3) := by decide +kernel
theorem dL_law_26 : decode cL_law 26 = .ok (.aload_n 0, 1) := by decide +kernel
theorem dL_law_27 : decode cL_law 27 = .ok (.iload_n 3, 1) := by decide +kernel
theorem dL_law_28 : decode cL_law 28 = .ok (.iaload, 1) := by decide +kernel
theorem dL_law_29 : decode cL_law 29 = .ok (.bipush 31, 2) := by decide +kernel
theorem dL_law_31 : decode cL_law 31 = .ok (.iand, 1) := by decide +kernel
theorem dL_law_32 : decode cL_law 32 = .ok (.tableswitch 686 0 20 #[100, 123, 136, 149, 162, 195, 228, 261, 294, 327, 350, 399, 432, 465, 508, 567, 580, 623, 636, 649, 672], 100) := by decide +kernel
theorem dL_law_132 : decode cL_law 132 = .ok (.aload_n 1, 1) := by decide +kernel
theorem dL_law_133 : decode cL_law 133 = .ok (.aload_n 0, 1) := by decide +kernel
theorem dL_law_134 : decode cL_law 134 = .ok (.iload_n 3, 1) := by decide +kernel
theorem dL_law_135 : decode cL_law 135 = .ok (.iconst 1, 1) := by decide +kernel
theorem dL_law_136 : decode cL_law 136 = .ok (.iadd, 1) := by decide +kernel
theorem dL_law_137 : decode cL_law 137 = .ok (.iaload, 1) := by decide +kernel
theorem dL_law_138 : decode cL_law 138 = .ok (.invokevirtual 13, 3) := by decide +kernel
theorem dL_law_141 : decode cL_law 141 = .ok (.aload_n 2, 1) := by decide +kernel
theorem dL_law_142 : decode cL_law 142 = .ok (.aload_n 0, 1) := by decide +kernel
theorem dL_law_143 : decode cL_law 143 = .ok (.iload_n 3, 1) := by decide +kernel
theorem dL_law_144 : decode cL_law 144 = .ok (.iconst 1, 1) := by decide +kernel
theorem dL_law_145 : decode cL_law 145 = .ok (.iadd, 1) := by decide +kernel
theorem dL_law_146 : decode cL_law 146 = .ok (.iaload, 1) := by decide +kernel
theorem dL_law_147 : decode cL_law 147 = .ok (.invokevirtual 17, 3) := by decide +kernel
theorem dL_law_150 : decode cL_law 150 = .ok (.if_icmp .eq 568, 3) := by decide +kernel
theorem dL_law_153 : decode cL_law 153 = .ok (.iconst 0, 1) := by decide +kernel
theorem dL_law_154 : decode cL_law 154 = .ok (.ireturn, 1) := by decide +kernel
theorem dL_law_155 : decode cL_law 155 = .ok (.aload_n 1, 1) := by decide +kernel
theorem dL_law_156 : decode cL_law 156 = .ok (.invokevirtual 18, 3) := by decide +kernel
theorem dL_law_159 : decode cL_law 159 = .ok (.aload_n 2, 1) := by decide +kernel
theorem dL_law_160 : decode cL_law 160 = .ok (.invokevirtual 22, 3) := by decide +kernel
theorem dL_law_163 : decode cL_law 163 = .ok (.if_icmp .eq 555, 3) := by decide +kernel
theorem dL_law_166 : decode cL_law 166 = .ok (.iconst 0, 1) := by decide +kernel
theorem dL_law_167 : decode cL_law 167 = .ok (.ireturn, 1) := by decide +kernel
theorem dL_law_168 : decode cL_law 168 = .ok (.aload_n 1, 1) := by decide +kernel
theorem dL_law_169 : decode cL_law 169 = .ok (.invokevirtual 23, 3) := by decide +kernel
theorem dL_law_172 : decode cL_law 172 = .ok (.aload_n 2, 1) := by decide +kernel
theorem dL_law_173 : decode cL_law 173 = .ok (.invokevirtual 26, 3) := by decide +kernel
theorem dL_law_176 : decode cL_law 176 = .ok (.if_icmp .eq 542, 3) := by decide +kernel
theorem dL_law_179 : decode cL_law 179 = .ok (.iconst 0, 1) := by decide +kernel
theorem dL_law_180 : decode cL_law 180 = .ok (.ireturn, 1) := by decide +kernel
theorem dL_law_181 : decode cL_law 181 = .ok (.aload_n 1, 1) := by decide +kernel
theorem dL_law_182 : decode cL_law 182 = .ok (.invokevirtual 27, 3) := by decide +kernel
theorem dL_law_185 : decode cL_law 185 = .ok (.aload_n 2, 1) := by decide +kernel
theorem dL_law_186 : decode cL_law 186 = .ok (.invokevirtual 30, 3) := by decide +kernel
theorem dL_law_189 : decode cL_law 189 = .ok (.if_icmp .eq 529, 3) := by decide +kernel
theorem dL_law_192 : decode cL_law 192 = .ok (.iconst 0, 1) := by decide +kernel
theorem dL_law_193 : decode cL_law 193 = .ok (.ireturn, 1) := by decide +kernel
theorem dL_law_194 : decode cL_law 194 = .ok (.aload_n 1, 1) := by decide +kernel
theorem dL_law_195 : decode cL_law 195 = .ok (.aload_n 0, 1) := by decide +kernel
theorem dL_law_196 : decode cL_law 196 = .ok (.iload_n 3, 1) := by decide +kernel
theorem dL_law_197 : decode cL_law 197 = .ok (.iconst 1, 1) := by decide +kernel
theorem dL_law_198 : decode cL_law 198 = .ok (.iadd, 1) := by decide +kernel
theorem dL_law_199 : decode cL_law 199 = .ok (.iaload, 1) := by decide +kernel
theorem dL_law_200 : decode cL_law 200 = .ok (.aload_n 0, 1) := by decide +kernel
theorem dL_law_201 : decode cL_law 201 = .ok (.iload_n 3, 1) := by decide +kernel
theorem dL_law_202 : decode cL_law 202 = .ok (.iconst 2, 1) := by decide +kernel
theorem dL_law_203 : decode cL_law 203 = .ok (.iadd, 1) := by decide +kernel
theorem dL_law_204 : decode cL_law 204 = .ok (.iaload, 1) := by decide +kernel
theorem dL_law_205 : decode cL_law 205 = .ok (.invokevirtual 31, 3) := by decide +kernel
theorem dL_law_208 : decode cL_law 208 = .ok (.aload_n 2, 1) := by decide +kernel
theorem dL_law_209 : decode cL_law 209 = .ok (.aload_n 0, 1) := by decide +kernel
theorem dL_law_210 : decode cL_law 210 = .ok (.iload_n 3, 1) := by decide +kernel
theorem dL_law_211 : decode cL_law 211 = .ok (.iconst 1, 1) := by decide +kernel
theorem dL_law_212 : decode cL_law 212 = .ok (.iadd, 1) := by decide +kernel
theorem dL_law_213 : decode cL_law 213 = .ok (.iaload, 1) := by decide +kernel
theorem dL_law_214 : decode cL_law 214 = .ok (.aload_n 0, 1) := by decide +kernel
theorem dL_law_215 : decode cL_law 215 = .ok (.iload_n 3, 1) := by decide +kernel
theorem dL_law_216 : decode cL_law 216 = .ok (.iconst 2, 1) := by decide +kernel
theorem dL_law_217 : decode cL_law 217 = .ok (.iadd, 1) := by decide +kernel
theorem dL_law_218 : decode cL_law 218 = .ok (.iaload, 1) := by decide +kernel
theorem dL_law_219 : decode cL_law 219 = .ok (.invokevirtual 35, 3) := by decide +kernel
theorem dL_law_222 : decode cL_law 222 = .ok (.if_icmp .eq 496, 3) := by decide +kernel
theorem dL_law_225 : decode cL_law 225 = .ok (.iconst 0, 1) := by decide +kernel
theorem dL_law_226 : decode cL_law 226 = .ok (.ireturn, 1) := by decide +kernel
theorem dL_law_227 : decode cL_law 227 = .ok (.aload_n 1, 1) := by decide +kernel
theorem dL_law_228 : decode cL_law 228 = .ok (.aload_n 0, 1) := by decide +kernel
theorem dL_law_229 : decode cL_law 229 = .ok (.iload_n 3, 1) := by decide +kernel
theorem dL_law_230 : decode cL_law 230 = .ok (.iconst 1, 1) := by decide +kernel
theorem dL_law_231 : decode cL_law 231 = .ok (.iadd, 1) := by decide +kernel
theorem dL_law_232 : decode cL_law 232 = .ok (.iaload, 1) := by decide +kernel
theorem dL_law_233 : decode cL_law 233 = .ok (.aload_n 0, 1) := by decide +kernel
theorem dL_law_234 : decode cL_law 234 = .ok (.iload_n 3, 1) := by decide +kernel
theorem dL_law_235 : decode cL_law 235 = .ok (.iconst 2, 1) := by decide +kernel
theorem dL_law_236 : decode cL_law 236 = .ok (.iadd, 1) := by decide +kernel
theorem dL_law_237 : decode cL_law 237 = .ok (.iaload, 1) := by decide +kernel
theorem dL_law_238 : decode cL_law 238 = .ok (.invokevirtual 36, 3) := by decide +kernel
theorem dL_law_241 : decode cL_law 241 = .ok (.aload_n 2, 1) := by decide +kernel
theorem dL_law_242 : decode cL_law 242 = .ok (.aload_n 0, 1) := by decide +kernel
theorem dL_law_243 : decode cL_law 243 = .ok (.iload_n 3, 1) := by decide +kernel
theorem dL_law_244 : decode cL_law 244 = .ok (.iconst 1, 1) := by decide +kernel
theorem dL_law_245 : decode cL_law 245 = .ok (.iadd, 1) := by decide +kernel
theorem dL_law_246 : decode cL_law 246 = .ok (.iaload, 1) := by decide +kernel
theorem dL_law_247 : decode cL_law 247 = .ok (.aload_n 0, 1) := by decide +kernel
theorem dL_law_248 : decode cL_law 248 = .ok (.iload_n 3, 1) := by decide +kernel
theorem dL_law_249 : decode cL_law 249 = .ok (.iconst 2, 1) := by decide +kernel
theorem dL_law_250 : decode cL_law 250 = .ok (.iadd, 1) := by decide +kernel
theorem dL_law_251 : decode cL_law 251 = .ok (.iaload, 1) := by decide +kernel
theorem dL_law_252 : decode cL_law 252 = .ok (.invokevirtual 39, 3) := by decide +kernel
theorem dL_law_255 : decode cL_law 255 = .ok (.if_icmp .eq 463, 3) := by decide +kernel
theorem dL_law_258 : decode cL_law 258 = .ok (.iconst 0, 1) := by decide +kernel
theorem dL_law_259 : decode cL_law 259 = .ok (.ireturn, 1) := by decide +kernel
theorem dL_law_260 : decode cL_law 260 = .ok (.aload_n 1, 1) := by decide +kernel
theorem dL_law_261 : decode cL_law 261 = .ok (.aload_n 0, 1) := by decide +kernel
theorem dL_law_262 : decode cL_law 262 = .ok (.iload_n 3, 1) := by decide +kernel
theorem dL_law_263 : decode cL_law 263 = .ok (.iconst 1, 1) := by decide +kernel
theorem dL_law_264 : decode cL_law 264 = .ok (.iadd, 1) := by decide +kernel
theorem dL_law_265 : decode cL_law 265 = .ok (.iaload, 1) := by decide +kernel
theorem dL_law_266 : decode cL_law 266 = .ok (.aload_n 0, 1) := by decide +kernel
theorem dL_law_267 : decode cL_law 267 = .ok (.iload_n 3, 1) := by decide +kernel
theorem dL_law_268 : decode cL_law 268 = .ok (.iconst 2, 1) := by decide +kernel
theorem dL_law_269 : decode cL_law 269 = .ok (.iadd, 1) := by decide +kernel
theorem dL_law_270 : decode cL_law 270 = .ok (.iaload, 1) := by decide +kernel
theorem dL_law_271 : decode cL_law 271 = .ok (.invokevirtual 40, 3) := by decide +kernel
theorem dL_law_274 : decode cL_law 274 = .ok (.aload_n 2, 1) := by decide +kernel
theorem dL_law_275 : decode cL_law 275 = .ok (.aload_n 0, 1) := by decide +kernel
theorem dL_law_276 : decode cL_law 276 = .ok (.iload_n 3, 1) := by decide +kernel
theorem dL_law_277 : decode cL_law 277 = .ok (.iconst 1, 1) := by decide +kernel
theorem dL_law_278 : decode cL_law 278 = .ok (.iadd, 1) := by decide +kernel
theorem dL_law_279 : decode cL_law 279 = .ok (.iaload, 1) := by decide +kernel
theorem dL_law_280 : decode cL_law 280 = .ok (.aload_n 0, 1) := by decide +kernel
theorem dL_law_281 : decode cL_law 281 = .ok (.iload_n 3, 1) := by decide +kernel
theorem dL_law_282 : decode cL_law 282 = .ok (.iconst 2, 1) := by decide +kernel
theorem dL_law_283 : decode cL_law 283 = .ok (.iadd, 1) := by decide +kernel
theorem dL_law_284 : decode cL_law 284 = .ok (.iaload, 1) := by decide +kernel
theorem dL_law_285 : decode cL_law 285 = .ok (.invokevirtual 43, 3) := by decide +kernel
theorem dL_law_288 : decode cL_law 288 = .ok (.if_icmp .eq 430, 3) := by decide +kernel
theorem dL_law_291 : decode cL_law 291 = .ok (.iconst 0, 1) := by decide +kernel
theorem dL_law_292 : decode cL_law 292 = .ok (.ireturn, 1) := by decide +kernel
theorem dL_law_293 : decode cL_law 293 = .ok (.aload_n 1, 1) := by decide +kernel
theorem dL_law_294 : decode cL_law 294 = .ok (.aload_n 0, 1) := by decide +kernel
theorem dL_law_295 : decode cL_law 295 = .ok (.iload_n 3, 1) := by decide +kernel
theorem dL_law_296 : decode cL_law 296 = .ok (.iconst 1, 1) := by decide +kernel
theorem dL_law_297 : decode cL_law 297 = .ok (.iadd, 1) := by decide +kernel
theorem dL_law_298 : decode cL_law 298 = .ok (.iaload, 1) := by decide +kernel
theorem dL_law_299 : decode cL_law 299 = .ok (.aload_n 0, 1) := by decide +kernel
theorem dL_law_300 : decode cL_law 300 = .ok (.iload_n 3, 1) := by decide +kernel
theorem dL_law_301 : decode cL_law 301 = .ok (.iconst 2, 1) := by decide +kernel
theorem dL_law_302 : decode cL_law 302 = .ok (.iadd, 1) := by decide +kernel
theorem dL_law_303 : decode cL_law 303 = .ok (.iaload, 1) := by decide +kernel
theorem dL_law_304 : decode cL_law 304 = .ok (.invokevirtual 44, 3) := by decide +kernel
theorem dL_law_307 : decode cL_law 307 = .ok (.aload_n 2, 1) := by decide +kernel
theorem dL_law_308 : decode cL_law 308 = .ok (.aload_n 0, 1) := by decide +kernel
theorem dL_law_309 : decode cL_law 309 = .ok (.iload_n 3, 1) := by decide +kernel
theorem dL_law_310 : decode cL_law 310 = .ok (.iconst 1, 1) := by decide +kernel
theorem dL_law_311 : decode cL_law 311 = .ok (.iadd, 1) := by decide +kernel
theorem dL_law_312 : decode cL_law 312 = .ok (.iaload, 1) := by decide +kernel
theorem dL_law_313 : decode cL_law 313 = .ok (.aload_n 0, 1) := by decide +kernel
theorem dL_law_314 : decode cL_law 314 = .ok (.iload_n 3, 1) := by decide +kernel
theorem dL_law_315 : decode cL_law 315 = .ok (.iconst 2, 1) := by decide +kernel
theorem dL_law_316 : decode cL_law 316 = .ok (.iadd, 1) := by decide +kernel
theorem dL_law_317 : decode cL_law 317 = .ok (.iaload, 1) := by decide +kernel
theorem dL_law_318 : decode cL_law 318 = .ok (.invokevirtual 47, 3) := by decide +kernel
theorem dL_law_321 : decode cL_law 321 = .ok (.if_icmp .eq 397, 3) := by decide +kernel
theorem dL_law_324 : decode cL_law 324 = .ok (.iconst 0, 1) := by decide +kernel
theorem dL_law_325 : decode cL_law 325 = .ok (.ireturn, 1) := by decide +kernel
theorem dL_law_326 : decode cL_law 326 = .ok (.aload_n 1, 1) := by decide +kernel
theorem dL_law_327 : decode cL_law 327 = .ok (.aload_n 0, 1) := by decide +kernel
theorem dL_law_328 : decode cL_law 328 = .ok (.iload_n 3, 1) := by decide +kernel
theorem dL_law_329 : decode cL_law 329 = .ok (.iconst 1, 1) := by decide +kernel
theorem dL_law_330 : decode cL_law 330 = .ok (.iadd, 1) := by decide +kernel
theorem dL_law_331 : decode cL_law 331 = .ok (.iaload, 1) := by decide +kernel
theorem dL_law_332 : decode cL_law 332 = .ok (.aload_n 0, 1) := by decide +kernel
theorem dL_law_333 : decode cL_law 333 = .ok (.iload_n 3, 1) := by decide +kernel
theorem dL_law_334 : decode cL_law 334 = .ok (.iconst 2, 1) := by decide +kernel
theorem dL_law_335 : decode cL_law 335 = .ok (.iadd, 1) := by decide +kernel
theorem dL_law_336 : decode cL_law 336 = .ok (.iaload, 1) := by decide +kernel
theorem dL_law_337 : decode cL_law 337 = .ok (.invokevirtual 48, 3) := by decide +kernel
theorem dL_law_340 : decode cL_law 340 = .ok (.aload_n 2, 1) := by decide +kernel
theorem dL_law_341 : decode cL_law 341 = .ok (.aload_n 0, 1) := by decide +kernel
theorem dL_law_342 : decode cL_law 342 = .ok (.iload_n 3, 1) := by decide +kernel
theorem dL_law_343 : decode cL_law 343 = .ok (.iconst 1, 1) := by decide +kernel
theorem dL_law_344 : decode cL_law 344 = .ok (.iadd, 1) := by decide +kernel
theorem dL_law_345 : decode cL_law 345 = .ok (.iaload, 1) := by decide +kernel
theorem dL_law_346 : decode cL_law 346 = .ok (.aload_n 0, 1) := by decide +kernel
theorem dL_law_347 : decode cL_law 347 = .ok (.iload_n 3, 1) := by decide +kernel
theorem dL_law_348 : decode cL_law 348 = .ok (.iconst 2, 1) := by decide +kernel
theorem dL_law_349 : decode cL_law 349 = .ok (.iadd, 1) := by decide +kernel
theorem dL_law_350 : decode cL_law 350 = .ok (.iaload, 1) := by decide +kernel
theorem dL_law_351 : decode cL_law 351 = .ok (.invokevirtual 51, 3) := by decide +kernel
theorem dL_law_354 : decode cL_law 354 = .ok (.if_icmp .eq 364, 3) := by decide +kernel
theorem dL_law_357 : decode cL_law 357 = .ok (.iconst 0, 1) := by decide +kernel
theorem dL_law_358 : decode cL_law 358 = .ok (.ireturn, 1) := by decide +kernel
theorem dL_law_359 : decode cL_law 359 = .ok (.aload_n 1, 1) := by decide +kernel
theorem dL_law_360 : decode cL_law 360 = .ok (.aload_n 0, 1) := by decide +kernel
theorem dL_law_361 : decode cL_law 361 = .ok (.iload_n 3, 1) := by decide +kernel
theorem dL_law_362 : decode cL_law 362 = .ok (.iconst 1, 1) := by decide +kernel
theorem dL_law_363 : decode cL_law 363 = .ok (.iadd, 1) := by decide +kernel
theorem dL_law_364 : decode cL_law 364 = .ok (.iaload, 1) := by decide +kernel
theorem dL_law_365 : decode cL_law 365 = .ok (.invokevirtual 52, 3) := by decide +kernel
theorem dL_law_368 : decode cL_law 368 = .ok (.aload_n 2, 1) := by decide +kernel
theorem dL_law_369 : decode cL_law 369 = .ok (.aload_n 0, 1) := by decide +kernel
theorem dL_law_370 : decode cL_law 370 = .ok (.iload_n 3, 1) := by decide +kernel
theorem dL_law_371 : decode cL_law 371 = .ok (.iconst 1, 1) := by decide +kernel
theorem dL_law_372 : decode cL_law 372 = .ok (.iadd, 1) := by decide +kernel
theorem dL_law_373 : decode cL_law 373 = .ok (.iaload, 1) := by decide +kernel
theorem dL_law_374 : decode cL_law 374 = .ok (.invokevirtual 55, 3) := by decide +kernel
theorem dL_law_377 : decode cL_law 377 = .ok (.if_icmp .eq 341, 3) := by decide +kernel
theorem dL_law_380 : decode cL_law 380 = .ok (.iconst 0, 1) := by decide +kernel
theorem dL_law_381 : decode cL_law 381 = .ok (.ireturn, 1) := by decide +kernel
theorem dL_law_382 : decode cL_law 382 = .ok (.aload_n 1, 1) := by decide +kernel
theorem dL_law_383 : decode cL_law 383 = .ok (.aload_n 0, 1) := by decide +kernel
theorem dL_law_384 : decode cL_law 384 = .ok (.iload_n 3, 1) := by decide +kernel
theorem dL_law_385 : decode cL_law 385 = .ok (.iconst 1, 1) := by decide +kernel
theorem dL_law_386 : decode cL_law 386 = .ok (.iadd, 1) := by decide +kernel
theorem dL_law_387 : decode cL_law 387 = .ok (.iaload, 1) := by decide +kernel
theorem dL_law_388 : decode cL_law 388 = .ok (.aload_n 0, 1) := by decide +kernel
theorem dL_law_389 : decode cL_law 389 = .ok (.iload_n 3, 1) := by decide +kernel
theorem dL_law_390 : decode cL_law 390 = .ok (.iconst 2, 1) := by decide +kernel
theorem dL_law_391 : decode cL_law 391 = .ok (.iadd, 1) := by decide +kernel
theorem dL_law_392 : decode cL_law 392 = .ok (.iaload, 1) := by decide +kernel
theorem dL_law_393 : decode cL_law 393 = .ok (.ifCond .eq 7, 3) := by decide +kernel
theorem dL_law_396 : decode cL_law 396 = .ok (.iconst 1, 1) := by decide +kernel
theorem dL_law_397 : decode cL_law 397 = .ok (.goto 4, 3) := by decide +kernel
theorem dL_law_400 : decode cL_law 400 = .ok (.iconst 0, 1) := by decide +kernel
theorem dL_law_401 : decode cL_law 401 = .ok (.invokevirtual 56, 3) := by decide +kernel
theorem dL_law_404 : decode cL_law 404 = .ok (.aload_n 2, 1) := by decide +kernel
theorem dL_law_405 : decode cL_law 405 = .ok (.aload_n 0, 1) := by decide +kernel
theorem dL_law_406 : decode cL_law 406 = .ok (.iload_n 3, 1) := by decide +kernel
theorem dL_law_407 : decode cL_law 407 = .ok (.iconst 1, 1) := by decide +kernel
theorem dL_law_408 : decode cL_law 408 = .ok (.iadd, 1) := by decide +kernel
theorem dL_law_409 : decode cL_law 409 = .ok (.iaload, 1) := by decide +kernel
theorem dL_law_410 : decode cL_law 410 = .ok (.aload_n 0, 1) := by decide +kernel
theorem dL_law_411 : decode cL_law 411 = .ok (.iload_n 3, 1) := by decide +kernel
theorem dL_law_412 : decode cL_law 412 = .ok (.iconst 2, 1) := by decide +kernel
theorem dL_law_413 : decode cL_law 413 = .ok (.iadd, 1) := by decide +kernel
theorem dL_law_414 : decode cL_law 414 = .ok (.iaload, 1) := by decide +kernel
theorem dL_law_415 : decode cL_law 415 = .ok (.ifCond .eq 7, 3) := by decide +kernel
theorem dL_law_418 : decode cL_law 418 = .ok (.iconst 1, 1) := by decide +kernel
theorem dL_law_419 : decode cL_law 419 = .ok (.goto 4, 3) := by decide +kernel
theorem dL_law_422 : decode cL_law 422 = .ok (.iconst 0, 1) := by decide +kernel
theorem dL_law_423 : decode cL_law 423 = .ok (.invokevirtual 60, 3) := by decide +kernel
theorem dL_law_426 : decode cL_law 426 = .ok (.if_icmp .eq 292, 3) := by decide +kernel
theorem dL_law_429 : decode cL_law 429 = .ok (.iconst 0, 1) := by decide +kernel
theorem dL_law_430 : decode cL_law 430 = .ok (.ireturn, 1) := by decide +kernel
theorem dL_law_431 : decode cL_law 431 = .ok (.aload_n 1, 1) := by decide +kernel
theorem dL_law_432 : decode cL_law 432 = .ok (.aload_n 0, 1) := by decide +kernel
theorem dL_law_433 : decode cL_law 433 = .ok (.iload_n 3, 1) := by decide +kernel
theorem dL_law_434 : decode cL_law 434 = .ok (.iconst 1, 1) := by decide +kernel
theorem dL_law_435 : decode cL_law 435 = .ok (.iadd, 1) := by decide +kernel
theorem dL_law_436 : decode cL_law 436 = .ok (.iaload, 1) := by decide +kernel
theorem dL_law_437 : decode cL_law 437 = .ok (.aload_n 0, 1) := by decide +kernel
theorem dL_law_438 : decode cL_law 438 = .ok (.iload_n 3, 1) := by decide +kernel
theorem dL_law_439 : decode cL_law 439 = .ok (.iconst 2, 1) := by decide +kernel
theorem dL_law_440 : decode cL_law 440 = .ok (.iadd, 1) := by decide +kernel
theorem dL_law_441 : decode cL_law 441 = .ok (.iaload, 1) := by decide +kernel
theorem dL_law_442 : decode cL_law 442 = .ok (.invokevirtual 61, 3) := by decide +kernel
theorem dL_law_445 : decode cL_law 445 = .ok (.aload_n 2, 1) := by decide +kernel
theorem dL_law_446 : decode cL_law 446 = .ok (.aload_n 0, 1) := by decide +kernel
theorem dL_law_447 : decode cL_law 447 = .ok (.iload_n 3, 1) := by decide +kernel
theorem dL_law_448 : decode cL_law 448 = .ok (.iconst 1, 1) := by decide +kernel
theorem dL_law_449 : decode cL_law 449 = .ok (.iadd, 1) := by decide +kernel
theorem dL_law_450 : decode cL_law 450 = .ok (.iaload, 1) := by decide +kernel
theorem dL_law_451 : decode cL_law 451 = .ok (.aload_n 0, 1) := by decide +kernel
theorem dL_law_452 : decode cL_law 452 = .ok (.iload_n 3, 1) := by decide +kernel
theorem dL_law_453 : decode cL_law 453 = .ok (.iconst 2, 1) := by decide +kernel
theorem dL_law_454 : decode cL_law 454 = .ok (.iadd, 1) := by decide +kernel
theorem dL_law_455 : decode cL_law 455 = .ok (.iaload, 1) := by decide +kernel
theorem dL_law_456 : decode cL_law 456 = .ok (.invokevirtual 64, 3) := by decide +kernel
theorem dL_law_459 : decode cL_law 459 = .ok (.if_icmp .eq 259, 3) := by decide +kernel
theorem dL_law_462 : decode cL_law 462 = .ok (.iconst 0, 1) := by decide +kernel
theorem dL_law_463 : decode cL_law 463 = .ok (.ireturn, 1) := by decide +kernel
theorem dL_law_464 : decode cL_law 464 = .ok (.aload_n 1, 1) := by decide +kernel
theorem dL_law_465 : decode cL_law 465 = .ok (.aload_n 0, 1) := by decide +kernel
theorem dL_law_466 : decode cL_law 466 = .ok (.iload_n 3, 1) := by decide +kernel
theorem dL_law_467 : decode cL_law 467 = .ok (.iconst 1, 1) := by decide +kernel
theorem dL_law_468 : decode cL_law 468 = .ok (.iadd, 1) := by decide +kernel
theorem dL_law_469 : decode cL_law 469 = .ok (.iaload, 1) := by decide +kernel
theorem dL_law_470 : decode cL_law 470 = .ok (.aload_n 0, 1) := by decide +kernel
theorem dL_law_471 : decode cL_law 471 = .ok (.iload_n 3, 1) := by decide +kernel
theorem dL_law_472 : decode cL_law 472 = .ok (.iconst 2, 1) := by decide +kernel
theorem dL_law_473 : decode cL_law 473 = .ok (.iadd, 1) := by decide +kernel
theorem dL_law_474 : decode cL_law 474 = .ok (.iaload, 1) := by decide +kernel
theorem dL_law_475 : decode cL_law 475 = .ok (.invokevirtual 65, 3) := by decide +kernel
theorem dL_law_478 : decode cL_law 478 = .ok (.aload_n 2, 1) := by decide +kernel
theorem dL_law_479 : decode cL_law 479 = .ok (.aload_n 0, 1) := by decide +kernel
theorem dL_law_480 : decode cL_law 480 = .ok (.iload_n 3, 1) := by decide +kernel
theorem dL_law_481 : decode cL_law 481 = .ok (.iconst 1, 1) := by decide +kernel
theorem dL_law_482 : decode cL_law 482 = .ok (.iadd, 1) := by decide +kernel
theorem dL_law_483 : decode cL_law 483 = .ok (.iaload, 1) := by decide +kernel
theorem dL_law_484 : decode cL_law 484 = .ok (.aload_n 0, 1) := by decide +kernel
theorem dL_law_485 : decode cL_law 485 = .ok (.iload_n 3, 1) := by decide +kernel
theorem dL_law_486 : decode cL_law 486 = .ok (.iconst 2, 1) := by decide +kernel
theorem dL_law_487 : decode cL_law 487 = .ok (.iadd, 1) := by decide +kernel
theorem dL_law_488 : decode cL_law 488 = .ok (.iaload, 1) := by decide +kernel
theorem dL_law_489 : decode cL_law 489 = .ok (.invokevirtual 68, 3) := by decide +kernel
theorem dL_law_492 : decode cL_law 492 = .ok (.if_icmp .eq 226, 3) := by decide +kernel
theorem dL_law_495 : decode cL_law 495 = .ok (.iconst 0, 1) := by decide +kernel
theorem dL_law_496 : decode cL_law 496 = .ok (.ireturn, 1) := by decide +kernel
theorem dL_law_497 : decode cL_law 497 = .ok (.aload_n 1, 1) := by decide +kernel
theorem dL_law_498 : decode cL_law 498 = .ok (.aload_n 0, 1) := by decide +kernel
theorem dL_law_499 : decode cL_law 499 = .ok (.iload_n 3, 1) := by decide +kernel
theorem dL_law_500 : decode cL_law 500 = .ok (.iconst 1, 1) := by decide +kernel
theorem dL_law_501 : decode cL_law 501 = .ok (.iadd, 1) := by decide +kernel
theorem dL_law_502 : decode cL_law 502 = .ok (.iaload, 1) := by decide +kernel
theorem dL_law_503 : decode cL_law 503 = .ok (.aload_n 0, 1) := by decide +kernel
theorem dL_law_504 : decode cL_law 504 = .ok (.iload_n 3, 1) := by decide +kernel
theorem dL_law_505 : decode cL_law 505 = .ok (.iconst 2, 1) := by decide +kernel
theorem dL_law_506 : decode cL_law 506 = .ok (.iadd, 1) := by decide +kernel
theorem dL_law_507 : decode cL_law 507 = .ok (.iaload, 1) := by decide +kernel
theorem dL_law_508 : decode cL_law 508 = .ok (.aload_n 0, 1) := by decide +kernel
theorem dL_law_509 : decode cL_law 509 = .ok (.iload_n 3, 1) := by decide +kernel
theorem dL_law_510 : decode cL_law 510 = .ok (.iconst 3, 1) := by decide +kernel
theorem dL_law_511 : decode cL_law 511 = .ok (.iadd, 1) := by decide +kernel
theorem dL_law_512 : decode cL_law 512 = .ok (.iaload, 1) := by decide +kernel
theorem dL_law_513 : decode cL_law 513 = .ok (.invokevirtual 69, 3) := by decide +kernel
theorem dL_law_516 : decode cL_law 516 = .ok (.aload_n 2, 1) := by decide +kernel
theorem dL_law_517 : decode cL_law 517 = .ok (.aload_n 0, 1) := by decide +kernel
theorem dL_law_518 : decode cL_law 518 = .ok (.iload_n 3, 1) := by decide +kernel
theorem dL_law_519 : decode cL_law 519 = .ok (.iconst 1, 1) := by decide +kernel
theorem dL_law_520 : decode cL_law 520 = .ok (.iadd, 1) := by decide +kernel
theorem dL_law_521 : decode cL_law 521 = .ok (.iaload, 1) := by decide +kernel
theorem dL_law_522 : decode cL_law 522 = .ok (.aload_n 0, 1) := by decide +kernel
theorem dL_law_523 : decode cL_law 523 = .ok (.iload_n 3, 1) := by decide +kernel
theorem dL_law_524 : decode cL_law 524 = .ok (.iconst 2, 1) := by decide +kernel
theorem dL_law_525 : decode cL_law 525 = .ok (.iadd, 1) := by decide +kernel
theorem dL_law_526 : decode cL_law 526 = .ok (.iaload, 1) := by decide +kernel
theorem dL_law_527 : decode cL_law 527 = .ok (.aload_n 0, 1) := by decide +kernel
theorem dL_law_528 : decode cL_law 528 = .ok (.iload_n 3, 1) := by decide +kernel
theorem dL_law_529 : decode cL_law 529 = .ok (.iconst 3, 1) := by decide +kernel
theorem dL_law_530 : decode cL_law 530 = .ok (.iadd, 1) := by decide +kernel
theorem dL_law_531 : decode cL_law 531 = .ok (.iaload, 1) := by decide +kernel
theorem dL_law_532 : decode cL_law 532 = .ok (.invokevirtual 73, 3) := by decide +kernel
theorem dL_law_535 : decode cL_law 535 = .ok (.if_icmp .eq 183, 3) := by decide +kernel
theorem dL_law_538 : decode cL_law 538 = .ok (.iconst 0, 1) := by decide +kernel
theorem dL_law_539 : decode cL_law 539 = .ok (.ireturn, 1) := by decide +kernel
theorem dL_law_540 : decode cL_law 540 = .ok (.aload_n 1, 1) := by decide +kernel
theorem dL_law_541 : decode cL_law 541 = .ok (.aload_n 0, 1) := by decide +kernel
theorem dL_law_542 : decode cL_law 542 = .ok (.iload_n 3, 1) := by decide +kernel
theorem dL_law_543 : decode cL_law 543 = .ok (.iconst 1, 1) := by decide +kernel
theorem dL_law_544 : decode cL_law 544 = .ok (.iadd, 1) := by decide +kernel
theorem dL_law_545 : decode cL_law 545 = .ok (.iaload, 1) := by decide +kernel
theorem dL_law_546 : decode cL_law 546 = .ok (.aload_n 0, 1) := by decide +kernel
theorem dL_law_547 : decode cL_law 547 = .ok (.iload_n 3, 1) := by decide +kernel
theorem dL_law_548 : decode cL_law 548 = .ok (.iconst 2, 1) := by decide +kernel
theorem dL_law_549 : decode cL_law 549 = .ok (.iadd, 1) := by decide +kernel
theorem dL_law_550 : decode cL_law 550 = .ok (.iaload, 1) := by decide +kernel
theorem dL_law_551 : decode cL_law 551 = .ok (.aload_n 0, 1) := by decide +kernel
theorem dL_law_552 : decode cL_law 552 = .ok (.iload_n 3, 1) := by decide +kernel
theorem dL_law_553 : decode cL_law 553 = .ok (.iconst 3, 1) := by decide +kernel
theorem dL_law_554 : decode cL_law 554 = .ok (.iadd, 1) := by decide +kernel
theorem dL_law_555 : decode cL_law 555 = .ok (.iaload, 1) := by decide +kernel
theorem dL_law_556 : decode cL_law 556 = .ok (.ifCond .eq 7, 3) := by decide +kernel
theorem dL_law_559 : decode cL_law 559 = .ok (.iconst 1, 1) := by decide +kernel
theorem dL_law_560 : decode cL_law 560 = .ok (.goto 4, 3) := by decide +kernel
theorem dL_law_563 : decode cL_law 563 = .ok (.iconst 0, 1) := by decide +kernel
theorem dL_law_564 : decode cL_law 564 = .ok (.invokevirtual 74, 3) := by decide +kernel
theorem dL_law_567 : decode cL_law 567 = .ok (.aload_n 2, 1) := by decide +kernel
theorem dL_law_568 : decode cL_law 568 = .ok (.aload_n 0, 1) := by decide +kernel
theorem dL_law_569 : decode cL_law 569 = .ok (.iload_n 3, 1) := by decide +kernel
theorem dL_law_570 : decode cL_law 570 = .ok (.iconst 1, 1) := by decide +kernel
theorem dL_law_571 : decode cL_law 571 = .ok (.iadd, 1) := by decide +kernel
theorem dL_law_572 : decode cL_law 572 = .ok (.iaload, 1) := by decide +kernel
theorem dL_law_573 : decode cL_law 573 = .ok (.aload_n 0, 1) := by decide +kernel
theorem dL_law_574 : decode cL_law 574 = .ok (.iload_n 3, 1) := by decide +kernel
theorem dL_law_575 : decode cL_law 575 = .ok (.iconst 2, 1) := by decide +kernel
theorem dL_law_576 : decode cL_law 576 = .ok (.iadd, 1) := by decide +kernel
theorem dL_law_577 : decode cL_law 577 = .ok (.iaload, 1) := by decide +kernel
theorem dL_law_578 : decode cL_law 578 = .ok (.aload_n 0, 1) := by decide +kernel
theorem dL_law_579 : decode cL_law 579 = .ok (.iload_n 3, 1) := by decide +kernel
theorem dL_law_580 : decode cL_law 580 = .ok (.iconst 3, 1) := by decide +kernel
theorem dL_law_581 : decode cL_law 581 = .ok (.iadd, 1) := by decide +kernel
theorem dL_law_582 : decode cL_law 582 = .ok (.iaload, 1) := by decide +kernel
theorem dL_law_583 : decode cL_law 583 = .ok (.ifCond .eq 7, 3) := by decide +kernel
theorem dL_law_586 : decode cL_law 586 = .ok (.iconst 1, 1) := by decide +kernel
theorem dL_law_587 : decode cL_law 587 = .ok (.goto 4, 3) := by decide +kernel
theorem dL_law_590 : decode cL_law 590 = .ok (.iconst 0, 1) := by decide +kernel
theorem dL_law_591 : decode cL_law 591 = .ok (.invokevirtual 78, 3) := by decide +kernel
theorem dL_law_594 : decode cL_law 594 = .ok (.if_icmp .eq 124, 3) := by decide +kernel
theorem dL_law_597 : decode cL_law 597 = .ok (.iconst 0, 1) := by decide +kernel
theorem dL_law_598 : decode cL_law 598 = .ok (.ireturn, 1) := by decide +kernel
theorem dL_law_599 : decode cL_law 599 = .ok (.aload_n 1, 1) := by decide +kernel
theorem dL_law_600 : decode cL_law 600 = .ok (.invokevirtual 79, 3) := by decide +kernel
theorem dL_law_603 : decode cL_law 603 = .ok (.aload_n 2, 1) := by decide +kernel
theorem dL_law_604 : decode cL_law 604 = .ok (.invokevirtual 82, 3) := by decide +kernel
theorem dL_law_607 : decode cL_law 607 = .ok (.if_icmp .eq 111, 3) := by decide +kernel
theorem dL_law_610 : decode cL_law 610 = .ok (.iconst 0, 1) := by decide +kernel
theorem dL_law_611 : decode cL_law 611 = .ok (.ireturn, 1) := by decide +kernel
theorem dL_law_612 : decode cL_law 612 = .ok (.aload_n 1, 1) := by decide +kernel
theorem dL_law_613 : decode cL_law 613 = .ok (.aload_n 0, 1) := by decide +kernel
theorem dL_law_614 : decode cL_law 614 = .ok (.iload_n 3, 1) := by decide +kernel
theorem dL_law_615 : decode cL_law 615 = .ok (.iconst 1, 1) := by decide +kernel
theorem dL_law_616 : decode cL_law 616 = .ok (.iadd, 1) := by decide +kernel
theorem dL_law_617 : decode cL_law 617 = .ok (.iaload, 1) := by decide +kernel
theorem dL_law_618 : decode cL_law 618 = .ok (.aload_n 0, 1) := by decide +kernel
theorem dL_law_619 : decode cL_law 619 = .ok (.iload_n 3, 1) := by decide +kernel
theorem dL_law_620 : decode cL_law 620 = .ok (.iconst 2, 1) := by decide +kernel
theorem dL_law_621 : decode cL_law 621 = .ok (.iadd, 1) := by decide +kernel
theorem dL_law_622 : decode cL_law 622 = .ok (.iaload, 1) := by decide +kernel
theorem dL_law_623 : decode cL_law 623 = .ok (.aload_n 0, 1) := by decide +kernel
theorem dL_law_624 : decode cL_law 624 = .ok (.iload_n 3, 1) := by decide +kernel
theorem dL_law_625 : decode cL_law 625 = .ok (.iconst 3, 1) := by decide +kernel
theorem dL_law_626 : decode cL_law 626 = .ok (.iadd, 1) := by decide +kernel
theorem dL_law_627 : decode cL_law 627 = .ok (.iaload, 1) := by decide +kernel
theorem dL_law_628 : decode cL_law 628 = .ok (.invokevirtual 83, 3) := by decide +kernel
theorem dL_law_631 : decode cL_law 631 = .ok (.aload_n 2, 1) := by decide +kernel
theorem dL_law_632 : decode cL_law 632 = .ok (.aload_n 0, 1) := by decide +kernel
theorem dL_law_633 : decode cL_law 633 = .ok (.iload_n 3, 1) := by decide +kernel
theorem dL_law_634 : decode cL_law 634 = .ok (.iconst 1, 1) := by decide +kernel
theorem dL_law_635 : decode cL_law 635 = .ok (.iadd, 1) := by decide +kernel
theorem dL_law_636 : decode cL_law 636 = .ok (.iaload, 1) := by decide +kernel
theorem dL_law_637 : decode cL_law 637 = .ok (.aload_n 0, 1) := by decide +kernel
theorem dL_law_638 : decode cL_law 638 = .ok (.iload_n 3, 1) := by decide +kernel
theorem dL_law_639 : decode cL_law 639 = .ok (.iconst 2, 1) := by decide +kernel
theorem dL_law_640 : decode cL_law 640 = .ok (.iadd, 1) := by decide +kernel
theorem dL_law_641 : decode cL_law 641 = .ok (.iaload, 1) := by decide +kernel
theorem dL_law_642 : decode cL_law 642 = .ok (.aload_n 0, 1) := by decide +kernel
theorem dL_law_643 : decode cL_law 643 = .ok (.iload_n 3, 1) := by decide +kernel
theorem dL_law_644 : decode cL_law 644 = .ok (.iconst 3, 1) := by decide +kernel
theorem dL_law_645 : decode cL_law 645 = .ok (.iadd, 1) := by decide +kernel
theorem dL_law_646 : decode cL_law 646 = .ok (.iaload, 1) := by decide +kernel
theorem dL_law_647 : decode cL_law 647 = .ok (.invokevirtual 86, 3) := by decide +kernel
theorem dL_law_650 : decode cL_law 650 = .ok (.if_icmp .eq 68, 3) := by decide +kernel
theorem dL_law_653 : decode cL_law 653 = .ok (.iconst 0, 1) := by decide +kernel
theorem dL_law_654 : decode cL_law 654 = .ok (.ireturn, 1) := by decide +kernel
theorem dL_law_655 : decode cL_law 655 = .ok (.aload_n 1, 1) := by decide +kernel
theorem dL_law_656 : decode cL_law 656 = .ok (.invokevirtual 87, 3) := by decide +kernel
theorem dL_law_659 : decode cL_law 659 = .ok (.aload_n 2, 1) := by decide +kernel
theorem dL_law_660 : decode cL_law 660 = .ok (.invokevirtual 90, 3) := by decide +kernel
theorem dL_law_663 : decode cL_law 663 = .ok (.if_icmp .eq 55, 3) := by decide +kernel
theorem dL_law_666 : decode cL_law 666 = .ok (.iconst 0, 1) := by decide +kernel
theorem dL_law_667 : decode cL_law 667 = .ok (.ireturn, 1) := by decide +kernel
theorem dL_law_668 : decode cL_law 668 = .ok (.aload_n 1, 1) := by decide +kernel
theorem dL_law_669 : decode cL_law 669 = .ok (.invokevirtual 91, 3) := by decide +kernel
theorem dL_law_672 : decode cL_law 672 = .ok (.aload_n 2, 1) := by decide +kernel
theorem dL_law_673 : decode cL_law 673 = .ok (.invokevirtual 94, 3) := by decide +kernel
theorem dL_law_676 : decode cL_law 676 = .ok (.if_icmp .eq 42, 3) := by decide +kernel
theorem dL_law_679 : decode cL_law 679 = .ok (.iconst 0, 1) := by decide +kernel
theorem dL_law_680 : decode cL_law 680 = .ok (.ireturn, 1) := by decide +kernel
theorem dL_law_681 : decode cL_law 681 = .ok (.aload_n 1, 1) := by decide +kernel
theorem dL_law_682 : decode cL_law 682 = .ok (.aload_n 0, 1) := by decide +kernel
theorem dL_law_683 : decode cL_law 683 = .ok (.iload_n 3, 1) := by decide +kernel
theorem dL_law_684 : decode cL_law 684 = .ok (.iconst 1, 1) := by decide +kernel
theorem dL_law_685 : decode cL_law 685 = .ok (.iadd, 1) := by decide +kernel
theorem dL_law_686 : decode cL_law 686 = .ok (.iaload, 1) := by decide +kernel
theorem dL_law_687 : decode cL_law 687 = .ok (.invokevirtual 95, 3) := by decide +kernel
theorem dL_law_690 : decode cL_law 690 = .ok (.aload_n 2, 1) := by decide +kernel
theorem dL_law_691 : decode cL_law 691 = .ok (.aload_n 0, 1) := by decide +kernel
theorem dL_law_692 : decode cL_law 692 = .ok (.iload_n 3, 1) := by decide +kernel
theorem dL_law_693 : decode cL_law 693 = .ok (.iconst 1, 1) := by decide +kernel
theorem dL_law_694 : decode cL_law 694 = .ok (.iadd, 1) := by decide +kernel
theorem dL_law_695 : decode cL_law 695 = .ok (.iaload, 1) := by decide +kernel
theorem dL_law_696 : decode cL_law 696 = .ok (.invokevirtual 98, 3) := by decide +kernel
theorem dL_law_699 : decode cL_law 699 = .ok (.if_icmp .eq 19, 3) := by decide +kernel
theorem dL_law_702 : decode cL_law 702 = .ok (.iconst 0, 1) := by decide +kernel
theorem dL_law_703 : decode cL_law 703 = .ok (.ireturn, 1) := by decide +kernel
theorem dL_law_704 : decode cL_law 704 = .ok (.aload_n 1, 1) := by decide +kernel
theorem dL_law_705 : decode cL_law 705 = .ok (.invokevirtual 99, 3) := by decide +kernel
theorem dL_law_708 : decode cL_law 708 = .ok (.aload_n 2, 1) := by decide +kernel
theorem dL_law_709 : decode cL_law 709 = .ok (.invokevirtual 103, 3) := by decide +kernel
theorem dL_law_712 : decode cL_law 712 = .ok (.lcmp, 1) := by decide +kernel
theorem dL_law_713 : decode cL_law 713 = .ok (.ifCond .eq 5, 3) := by decide +kernel
theorem dL_law_716 : decode cL_law 716 = .ok (.iconst 0, 1) := by decide +kernel
theorem dL_law_717 : decode cL_law 717 = .ok (.ireturn, 1) := by decide +kernel
theorem dL_law_718 : decode cL_law 718 = .ok (.iinc 3 4, 3) := by decide +kernel
theorem dL_law_721 : decode cL_law 721 = .ok (.goto (-703), 3) := by decide +kernel
theorem dL_law_724 : decode cL_law 724 = .ok (.iconst 1, 1) := by decide +kernel
theorem dL_law_725 : decode cL_law 725 = .ok (.ireturn, 1) := by decide +kernel
end
section
/-- what a walk stands on -/
def Fx (p : Program) (s : State) (m : MethodId) (args : Array Value) (meth : Method) (c : Code) (C : String) (b : ByteArray) (n : Nat) (ret : Option FieldType) : Prop := p.tables.exec = Jvm.exec ∧ c.code = b ∧ meth.sig.returnType = ret ∧ meth.locks = false ∧ c.maxLocals = n ∧ s.vm.findClass C = some m.cls ∧ ∀ w ∈ wAll, w.before args s = true
theorem go_start {l : Launch} {y : MethodName} {bt : ByteArray} {n : Nat} {ret : Option FieldType} {rm : Room} {av : List Value} {B : State → Prop} {Qc : Array Value → State → Outcome → State → Prop} {mc ms : Nat} {free : Addr → Prop} (hy : plainName y.cls = true) (hl : (lg_sl av).length ≤ n)
    (body : ∀ (p : Program) (e : Env) (s : State) (m : MethodId) (args : Array Value) (below : List Frame) (meth : Method) (c : Code) (ls : Array Slot), Fx p s m args meth c y.cls bt n ret → meth.name = y.name → B s → lv_has ls n (lv_args 0 av) → W p l e (headSpec (wA y bt n ret) rm).room s m args below meth c s.heap [] 0 0 (MQ below Qc args s mc ms free) (F0 m 0 ls [])) : Met l y (wA y bt n ret) rm (va_Pc av B) Qc mc ms free := by
  refine Met.ofW (cc := bt) (maxL := n) (ret := ret) hy rfl ?_
  intro p e s m args below meth c s₁ Bd hml hv
  obtain ⟨hargs, hB⟩ := hv
  have hts0 := atoms_spec (ws := wA y bt n ret) Bd.pre
  subst hargs
  rw [lg_entry_eq]
  exact body p e s m _ below meth c _ ⟨Bd.exec, Bd.bytes, Bd.returns, Bd.notSynchronized, hml, findClass_of_methodNamed Bd.named, fun w h => hts0 w (List.mem_cons_of_mem _ h)⟩ (name_of_methodNamed Bd.named Bd.method).1 hB (lv_entry av hl)
theorem rw_startI {l : Launch} {y : MethodName} {bt : ByteArray} {n : Nat} {ret : Option FieldType} {rm : Room} {av : List Value} {D : va_G} {tys : List (ClassId × FieldType)} {ws : va_W} {sz : Nat} {S : Type} {post : Int32 → S → Prop} {wp : S → va_W} (hy : plainName y.cls = true) (hl : (lg_sl av).length ≤ n)
    (body : ∀ (p : Program) (e : Env) (s : State) (m : MethodId) (args : Array Value) (below : List Frame) (meth : Method) (c : Code) (ls : Array Slot) (A : Nat → Prop), Fx p s m args meth c y.cls bt n ret → va_P D vwCl ws s.heap → va_K D vwCl tys s → va_D A ws → (∀ q : Nat, s.heap.size ≤ q → A q) → va_S A s.heap s.heap [] → lv_has ls n (lv_args 0 av) → W p l e (headSpec (wA y bt n ret) rm).room s m args below meth c s.heap [] 0 0 (MQ below (va_Qi post (fun u t => wB D tys A (wp u) t) A) args s 0 0 A) (F0 m 0 ls [])) : WI l y (wA y bt n ret) rm D tys ws sz av post wp :=
  go_start hy hl (fun p e s m args below meth c ls F _ hB hl => by
    obtain ⟨hsz, hP, hK, hD0⟩ := hB
    subst hsz
    exact body p e s m args below meth c ls _ F hP hK (hD0.self (sz := s.heap.size)) (fun q h => Or.inr h) va_S.rf hl)
theorem rw_startL {l : Launch} {y : MethodName} {bt : ByteArray} {n : Nat} {ret : Option FieldType} {rm : Room} {av : List Value} {D : va_G} {tys : List (ClassId × FieldType)} {ws : va_W} {sz : Nat} {S : Type} {post : Int64 → S → Prop} {wp : S → va_W} (hy : plainName y.cls = true) (hl : (lg_sl av).length ≤ n)
    (body : ∀ (p : Program) (e : Env) (s : State) (m : MethodId) (args : Array Value) (below : List Frame) (meth : Method) (c : Code) (ls : Array Slot) (A : Nat → Prop), Fx p s m args meth c y.cls bt n ret → va_P D vwCl ws s.heap → va_K D vwCl tys s → va_D A ws → (∀ q : Nat, s.heap.size ≤ q → A q) → va_S A s.heap s.heap [] → lv_has ls n (lv_args 0 av) → W p l e (headSpec (wA y bt n ret) rm).room s m args below meth c s.heap [] 0 0 (MQ below (va_Ql post (fun u t => wB D tys A (wp u) t) A) args s 0 0 A) (F0 m 0 ls [])) : WL l y (wA y bt n ret) rm D tys ws sz av post wp :=
  go_start hy hl (fun p e s m args below meth c ls F _ hB hl => by
    obtain ⟨hsz, hP, hK, hD0⟩ := hB
    subst hsz
    exact body p e s m args below meth c ls _ F hP hK (hD0.self (sz := s.heap.size)) (fun q h => Or.inr h) va_S.rf hl)
theorem rw_startV {l : Launch} {y : MethodName} {bt : ByteArray} {n : Nat} {ret : Option FieldType} {rm : Room} {av : List Value} {D : va_G} {tys : List (ClassId × FieldType)} {ws : va_W} {sz : Nat} {S : Type} {post : S → Prop} {wp : S → va_W} (hy : plainName y.cls = true) (hl : (lg_sl av).length ≤ n)
    (body : ∀ (p : Program) (e : Env) (s : State) (m : MethodId) (args : Array Value) (below : List Frame) (meth : Method) (c : Code) (ls : Array Slot) (A : Nat → Prop), Fx p s m args meth c y.cls bt n ret → va_P D vwCl ws s.heap → va_K D vwCl tys s → va_D A ws → (∀ q : Nat, s.heap.size ≤ q → A q) → va_S A s.heap s.heap [] → lv_has ls n (lv_args 0 av) → W p l e (headSpec (wA y bt n ret) rm).room s m args below meth c s.heap [] 0 0 (MQ below (va_Qv post (fun u t => wB D tys A (wp u) t) A) args s 0 0 A) (F0 m 0 ls [])) : WV l y (wA y bt n ret) rm D tys ws sz av post wp :=
  go_start hy hl (fun p e s m args below meth c ls F _ hB hl => by
    obtain ⟨hsz, hP, hK, hD0⟩ := hB
    subst hsz
    exact body p e s m args below meth c ls _ F hP hK (hD0.self (sz := s.heap.size)) (fun q h => Or.inr h) va_S.rf hl)
section FRM
variable {p : Program} {l : Launch} {e : Env} {R : Room} {s : State} {m : MethodId} {args : Array Value} {below : List Frame} {meth : Method} {c : Code} {H : Heap} {locs : List Loc} {cells slots : Nat} {Q : State → Prop}
variable {cc : ByteArray} {pc : Nat} {ls : Array Slot} {rest : List Value}
theorem n_max {a b : Nat} (h1 : a < 2 ^ 31) (h2 : b < 2 ^ 31) : (if nI a < nI b then nI b else nI a) = nI (max a b) := by
  by_cases h : a < b
  · rw [if_pos ((nI_ltI h1 h2).mpr h), Nat.max_eq_right (Nat.le_of_lt h)]
  · rw [if_neg (fun q => h ((nI_ltI h1 h2).mp q)), Nat.max_eq_left (Nat.le_of_not_lt h)]
end FRM
theorem rW_tap_set1 {r : Nat → Nat} {cT cN : ClassId} {q : RS} {i : Nat} (h : i < 5) (v : Nat) : (rW r cT cN q).set (3 + i) (r (3 + i), .inr (5, [.int (nI i), .int (nI (q.2.2.2.1 i 0)), .int (nI v), .int (nI (q.2.2.2.1 i 2)), .int (nI (q.2.2.2.1 i 3))])) = rW r cT cN (q.1, q.2.1, q.2.2.1, up2 q.2.2.2.1 i 1 v, q.2.2.2.2) := by
  match i, h with
  | 0, _ => rfl
  | 1, _ => rfl
  | 2, _ => rfl
  | 3, _ => rfl
  | 4, _ => rfl
theorem cW_tap {a r k : Nat → Nat} {cI cT cN : ClassId} {hh hi hr pn : Nat} {pc : Nat → Int32} {rd : Nat × Nat × Nat} {B L : Nat → Int32} {q kq : RS} {i : Nat} (h : i < 5) : (cW a r k cI cT cN hh hi hr pn pc rd B L q kq)[10 + i]? = some (tapC r q.2.2.2.1 i) := by
  match i, h with
  | 0, _ => rfl
  | 1, _ => rfl
  | 2, _ => rfl
  | 3, _ => rfl
  | 4, _ => rfl
theorem cW_note {a r k : Nat → Nat} {cI cT cN : ClassId} {hh hi hr pn : Nat} {pc : Nat → Int32} {rd : Nat × Nat × Nat} {B L : Nat → Int32} {q kq : RS} {i : Nat} (h : i < 8) : (cW a r k cI cT cN hh hi hr pn pc rd B L q kq)[15 + i]? = some (noteC r q.2.2.2.2 i) := by
  match i, h with
  | 0, _ => rfl
  | 1, _ => rfl
  | 2, _ => rfl
  | 3, _ => rfl
  | 4, _ => rfl
  | 5, _ => rfl
  | 6, _ => rfl
  | 7, _ => rfl
end
section
theorem vd_X0_become : yX0_become.cls = RX0 ∧ yX0_become.cls ≠ "java/lang/invoke/MethodHandle" ∧ yX0_become.cls ≠ "java/lang/invoke/VarHandle" ∧ (parseMethodDescriptor yX0_become.desc).map (fun d => d.parameters.length) = some 4 := by decide +kernel
theorem vd_X1_clear : yX1_clear.cls = RX1 ∧ yX1_clear.cls ≠ "java/lang/invoke/MethodHandle" ∧ yX1_clear.cls ≠ "java/lang/invoke/VarHandle" ∧ (parseMethodDescriptor yX1_clear.desc).map (fun d => d.parameters.length) = some 0 := by decide +kernel
theorem vd_X1_add : yX1_add.cls = RX1 ∧ yX1_add.cls ≠ "java/lang/invoke/MethodHandle" ∧ yX1_add.cls ≠ "java/lang/invoke/VarHandle" ∧ (parseMethodDescriptor yX1_add.desc).map (fun d => d.parameters.length) = some 1 := by decide +kernel
theorem vd_X1_codeAt : yX1_codeAt.cls = RX1 ∧ yX1_codeAt.cls ≠ "java/lang/invoke/MethodHandle" ∧ yX1_codeAt.cls ≠ "java/lang/invoke/VarHandle" ∧ (parseMethodDescriptor yX1_codeAt.desc).map (fun d => d.parameters.length) = some 1 := by decide +kernel
theorem vd_X1_firstFault : yX1_firstFault.cls = RX1 ∧ yX1_firstFault.cls ≠ "java/lang/invoke/MethodHandle" ∧ yX1_firstFault.cls ≠ "java/lang/invoke/VarHandle" ∧ (parseMethodDescriptor yX1_firstFault.desc).map (fun d => d.parameters.length) = some 0 := by decide +kernel
theorem vd_X1_isHouse : yX1_isHouse.cls = RX1 ∧ yX1_isHouse.cls ≠ "java/lang/invoke/MethodHandle" ∧ yX1_isHouse.cls ≠ "java/lang/invoke/VarHandle" ∧ (parseMethodDescriptor yX1_isHouse.desc).map (fun d => d.parameters.length) = some 0 := by decide +kernel
theorem vd_X2_begin : yX2_begin.cls = RX2 ∧ yX2_begin.cls ≠ "java/lang/invoke/MethodHandle" ∧ yX2_begin.cls ≠ "java/lang/invoke/VarHandle" ∧ (parseMethodDescriptor yX2_begin.desc).map (fun d => d.parameters.length) = some 0 := by decide +kernel
theorem vd_X2_takes : yX2_takes.cls = RX2 ∧ yX2_takes.cls ≠ "java/lang/invoke/MethodHandle" ∧ yX2_takes.cls ≠ "java/lang/invoke/VarHandle" ∧ (parseMethodDescriptor yX2_takes.desc).map (fun d => d.parameters.length) = some 1 := by decide +kernel
theorem vd_X2_isAtEnd : yX2_isAtEnd.cls = RX2 ∧ yX2_isAtEnd.cls ≠ "java/lang/invoke/MethodHandle" ∧ yX2_isAtEnd.cls ≠ "java/lang/invoke/VarHandle" ∧ (parseMethodDescriptor yX2_isAtEnd.desc).map (fun d => d.parameters.length) = some 0 := by decide +kernel
theorem vd_X2_takesInSaying : yX2_takesInSaying.cls = RX2 ∧ yX2_takesInSaying.cls ≠ "java/lang/invoke/MethodHandle" ∧ yX2_takesInSaying.cls ≠ "java/lang/invoke/VarHandle" ∧ (parseMethodDescriptor yX2_takesInSaying.desc).map (fun d => d.parameters.length) = some 1 := by decide +kernel
theorem vd_X2_takesInTap : yX2_takesInTap.cls = RX2 ∧ yX2_takesInTap.cls ≠ "java/lang/invoke/MethodHandle" ∧ yX2_takesInTap.cls ≠ "java/lang/invoke/VarHandle" ∧ (parseMethodDescriptor yX2_takesInTap.desc).map (fun d => d.parameters.length) = some 1 := by decide +kernel
theorem vd_X3_clear : yX3_clear.cls = RX3 ∧ yX3_clear.cls ≠ "java/lang/invoke/MethodHandle" ∧ yX3_clear.cls ≠ "java/lang/invoke/VarHandle" ∧ (parseMethodDescriptor yX3_clear.desc).map (fun d => d.parameters.length) = some 0 := by decide +kernel
theorem vd_X3_tapAt : yX3_tapAt.cls = RX3 ∧ yX3_tapAt.cls ≠ "java/lang/invoke/MethodHandle" ∧ yX3_tapAt.cls ≠ "java/lang/invoke/VarHandle" ∧ (parseMethodDescriptor yX3_tapAt.desc).map (fun d => d.parameters.length) = some 1 := by decide +kernel
theorem vd_X3_noteAt : yX3_noteAt.cls = RX3 ∧ yX3_noteAt.cls ≠ "java/lang/invoke/MethodHandle" ∧ yX3_noteAt.cls ≠ "java/lang/invoke/VarHandle" ∧ (parseMethodDescriptor yX3_noteAt.desc).map (fun d => d.parameters.length) = some 1 := by decide +kernel
theorem vd_X3_addTap : yX3_addTap.cls = RX3 ∧ yX3_addTap.cls ≠ "java/lang/invoke/MethodHandle" ∧ yX3_addTap.cls ≠ "java/lang/invoke/VarHandle" ∧ (parseMethodDescriptor yX3_addTap.desc).map (fun d => d.parameters.length) = some 2 := by decide +kernel
theorem vd_X3_addNote : yX3_addNote.cls = RX3 ∧ yX3_addNote.cls ≠ "java/lang/invoke/MethodHandle" ∧ yX3_addNote.cls ≠ "java/lang/invoke/VarHandle" ∧ (parseMethodDescriptor yX3_addNote.desc).map (fun d => d.parameters.length) = some 3 := by decide +kernel
theorem vd_X3_copyFrom : yX3_copyFrom.cls = RX3 ∧ yX3_copyFrom.cls ≠ "java/lang/invoke/MethodHandle" ∧ yX3_copyFrom.cls ≠ "java/lang/invoke/VarHandle" ∧ (parseMethodDescriptor yX3_copyFrom.desc).map (fun d => d.parameters.length) = some 1 := by decide +kernel
theorem vd_X3_washerCount : yX3_washerCount.cls = RX3 ∧ yX3_washerCount.cls ≠ "java/lang/invoke/MethodHandle" ∧ yX3_washerCount.cls ≠ "java/lang/invoke/VarHandle" ∧ (parseMethodDescriptor yX3_washerCount.desc).map (fun d => d.parameters.length) = some 0 := by decide +kernel
theorem vd_X3_heardCount : yX3_heardCount.cls = RX3 ∧ yX3_heardCount.cls ≠ "java/lang/invoke/MethodHandle" ∧ yX3_heardCount.cls ≠ "java/lang/invoke/VarHandle" ∧ (parseMethodDescriptor yX3_heardCount.desc).map (fun d => d.parameters.length) = some 0 := by decide +kernel
theorem vd_X4_clear : yX4_clear.cls = RX4 ∧ yX4_clear.cls ≠ "java/lang/invoke/MethodHandle" ∧ yX4_clear.cls ≠ "java/lang/invoke/VarHandle" ∧ (parseMethodDescriptor yX4_clear.desc).map (fun d => d.parameters.length) = some 0 := by decide +kernel
theorem vd_X4_addBeat : yX4_addBeat.cls = RX4 ∧ yX4_addBeat.cls ≠ "java/lang/invoke/MethodHandle" ∧ yX4_addBeat.cls ≠ "java/lang/invoke/VarHandle" ∧ (parseMethodDescriptor yX4_addBeat.desc).map (fun d => d.parameters.length) = some 2 := by decide +kernel
theorem vd_X4_lengthOf : yX4_lengthOf.cls = RX4 ∧ yX4_lengthOf.cls ≠ "java/lang/invoke/MethodHandle" ∧ yX4_lengthOf.cls ≠ "java/lang/invoke/VarHandle" ∧ (parseMethodDescriptor yX4_lengthOf.desc).map (fun d => d.parameters.length) = some 1 := by decide +kernel
theorem vd_X4_beatOf : yX4_beatOf.cls = RX4 ∧ yX4_beatOf.cls ≠ "java/lang/invoke/MethodHandle" ∧ yX4_beatOf.cls ≠ "java/lang/invoke/VarHandle" ∧ (parseMethodDescriptor yX4_beatOf.desc).map (fun d => d.parameters.length) = some 2 := by decide +kernel
theorem vd_X4_beatCount : yX4_beatCount.cls = RX4 ∧ yX4_beatCount.cls ≠ "java/lang/invoke/MethodHandle" ∧ yX4_beatCount.cls ≠ "java/lang/invoke/VarHandle" ∧ (parseMethodDescriptor yX4_beatCount.desc).map (fun d => d.parameters.length) = some 0 := by decide +kernel
theorem vd_X4_dripBy : yX4_dripBy.cls = RX4 ∧ yX4_dripBy.cls ≠ "java/lang/invoke/MethodHandle" ∧ yX4_dripBy.cls ≠ "java/lang/invoke/VarHandle" ∧ (parseMethodDescriptor yX4_dripBy.desc).map (fun d => d.parameters.length) = some 4 := by decide +kernel
theorem vd_X5_become : yX5_become.cls = RX5 ∧ yX5_become.cls ≠ "java/lang/invoke/MethodHandle" ∧ yX5_become.cls ≠ "java/lang/invoke/VarHandle" ∧ (parseMethodDescriptor yX5_become.desc).map (fun d => d.parameters.length) = some 4 := by decide +kernel
theorem vd_X6_letter : yX6_letter.cls = RX6 ∧ yX6_letter.cls ≠ "java/lang/invoke/MethodHandle" ∧ yX6_letter.cls ≠ "java/lang/invoke/VarHandle" ∧ (parseMethodDescriptor yX6_letter.desc).map (fun d => d.parameters.length) = some 1 := by decide +kernel
theorem vd_X6_blank : yX6_blank.cls = RX6 ∧ yX6_blank.cls ≠ "java/lang/invoke/MethodHandle" ∧ yX6_blank.cls ≠ "java/lang/invoke/VarHandle" ∧ (parseMethodDescriptor yX6_blank.desc).map (fun d => d.parameters.length) = some 0 := by decide +kernel
theorem vd_X6_fault : yX6_fault.cls = RX6 ∧ yX6_fault.cls ≠ "java/lang/invoke/MethodHandle" ∧ yX6_fault.cls ≠ "java/lang/invoke/VarHandle" ∧ (parseMethodDescriptor yX6_fault.desc).map (fun d => d.parameters.length) = some 0 := by decide +kernel
theorem vd_X6_house : yX6_house.cls = RX6 ∧ yX6_house.cls ≠ "java/lang/invoke/MethodHandle" ∧ yX6_house.cls ≠ "java/lang/invoke/VarHandle" ∧ (parseMethodDescriptor yX6_house.desc).map (fun d => d.parameters.length) = some 0 := by decide +kernel
theorem vd_X6_saying : yX6_saying.cls = RX6 ∧ yX6_saying.cls ≠ "java/lang/invoke/MethodHandle" ∧ yX6_saying.cls ≠ "java/lang/invoke/VarHandle" ∧ (parseMethodDescriptor yX6_saying.desc).map (fun d => d.parameters.length) = some 2 := by decide +kernel
theorem vd_X6_tap : yX6_tap.cls = RX6 ∧ yX6_tap.cls ≠ "java/lang/invoke/MethodHandle" ∧ yX6_tap.cls ≠ "java/lang/invoke/VarHandle" ∧ (parseMethodDescriptor yX6_tap.desc).map (fun d => d.parameters.length) = some 2 := by decide +kernel
theorem vd_X6_about : yX6_about.cls = RX6 ∧ yX6_about.cls ≠ "java/lang/invoke/MethodHandle" ∧ yX6_about.cls ≠ "java/lang/invoke/VarHandle" ∧ (parseMethodDescriptor yX6_about.desc).map (fun d => d.parameters.length) = some 2 := by decide +kernel
theorem vd_X6_as : yX6_as.cls = RX6 ∧ yX6_as.cls ≠ "java/lang/invoke/MethodHandle" ∧ yX6_as.cls ≠ "java/lang/invoke/VarHandle" ∧ (parseMethodDescriptor yX6_as.desc).map (fun d => d.parameters.length) = some 2 := by decide +kernel
theorem vd_X6_drip : yX6_drip.cls = RX6 ∧ yX6_drip.cls ≠ "java/lang/invoke/MethodHandle" ∧ yX6_drip.cls ≠ "java/lang/invoke/VarHandle" ∧ (parseMethodDescriptor yX6_drip.desc).map (fun d => d.parameters.length) = some 2 := by decide +kernel
theorem vd_X6_listen : yX6_listen.cls = RX6 ∧ yX6_listen.cls ≠ "java/lang/invoke/MethodHandle" ∧ yX6_listen.cls ≠ "java/lang/invoke/VarHandle" ∧ (parseMethodDescriptor yX6_listen.desc).map (fun d => d.parameters.length) = some 1 := by decide +kernel
theorem vd_X6_washer : yX6_washer.cls = RX6 ∧ yX6_washer.cls ≠ "java/lang/invoke/MethodHandle" ∧ yX6_washer.cls ≠ "java/lang/invoke/VarHandle" ∧ (parseMethodDescriptor yX6_washer.desc).map (fun d => d.parameters.length) = some 2 := by decide +kernel
theorem vd_X6_teach : yX6_teach.cls = RX6 ∧ yX6_teach.cls ≠ "java/lang/invoke/MethodHandle" ∧ yX6_teach.cls ≠ "java/lang/invoke/VarHandle" ∧ (parseMethodDescriptor yX6_teach.desc).map (fun d => d.parameters.length) = some 2 := by decide +kernel
theorem vd_X6_agree : yX6_agree.cls = RX6 ∧ yX6_agree.cls ≠ "java/lang/invoke/MethodHandle" ∧ yX6_agree.cls ≠ "java/lang/invoke/VarHandle" ∧ (parseMethodDescriptor yX6_agree.desc).map (fun d => d.parameters.length) = some 2 := by decide +kernel
theorem vd_X6_near : yX6_near.cls = RX6 ∧ yX6_near.cls ≠ "java/lang/invoke/MethodHandle" ∧ yX6_near.cls ≠ "java/lang/invoke/VarHandle" ∧ (parseMethodDescriptor yX6_near.desc).map (fun d => d.parameters.length) = some 3 := by decide +kernel
theorem vd_X6_put : yX6_put.cls = RX6 ∧ yX6_put.cls ≠ "java/lang/invoke/MethodHandle" ∧ yX6_put.cls ≠ "java/lang/invoke/VarHandle" ∧ (parseMethodDescriptor yX6_put.desc).map (fun d => d.parameters.length) = some 3 := by decide +kernel
theorem vd_X6_forget : yX6_forget.cls = RX6 ∧ yX6_forget.cls ≠ "java/lang/invoke/MethodHandle" ∧ yX6_forget.cls ≠ "java/lang/invoke/VarHandle" ∧ (parseMethodDescriptor yX6_forget.desc).map (fun d => d.parameters.length) = some 0 := by decide +kernel
theorem vd_X6_nights : yX6_nights.cls = RX6 ∧ yX6_nights.cls ≠ "java/lang/invoke/MethodHandle" ∧ yX6_nights.cls ≠ "java/lang/invoke/VarHandle" ∧ (parseMethodDescriptor yX6_nights.desc).map (fun d => d.parameters.length) = some 3 := by decide +kernel
theorem vd_X6_image : yX6_image.cls = RX6 ∧ yX6_image.cls ≠ "java/lang/invoke/MethodHandle" ∧ yX6_image.cls ≠ "java/lang/invoke/VarHandle" ∧ (parseMethodDescriptor yX6_image.desc).map (fun d => d.parameters.length) = some 0 := by decide +kernel
theorem vd_X6_restore : yX6_restore.cls = RX6 ∧ yX6_restore.cls ≠ "java/lang/invoke/MethodHandle" ∧ yX6_restore.cls ≠ "java/lang/invoke/VarHandle" ∧ (parseMethodDescriptor yX6_restore.desc).map (fun d => d.parameters.length) = some 0 := by decide +kernel
theorem vd_X6_count : yX6_count.cls = RX6 ∧ yX6_count.cls ≠ "java/lang/invoke/MethodHandle" ∧ yX6_count.cls ≠ "java/lang/invoke/VarHandle" ∧ (parseMethodDescriptor yX6_count.desc).map (fun d => d.parameters.length) = some 1 := by decide +kernel
theorem vd_X6_digest : yX6_digest.cls = RX6 ∧ yX6_digest.cls ≠ "java/lang/invoke/MethodHandle" ∧ yX6_digest.cls ≠ "java/lang/invoke/VarHandle" ∧ (parseMethodDescriptor yX6_digest.desc).map (fun d => d.parameters.length) = some 0 := by decide +kernel
theorem vd_X6_isKind : yX6_isKind.cls = RX6 ∧ yX6_isKind.cls ≠ "java/lang/invoke/MethodHandle" ∧ yX6_isKind.cls ≠ "java/lang/invoke/VarHandle" ∧ (parseMethodDescriptor yX6_isKind.desc).map (fun d => d.parameters.length) = some 1 := by decide +kernel
theorem vd_X6_isSaying : yX6_isSaying.cls = RX6 ∧ yX6_isSaying.cls ≠ "java/lang/invoke/MethodHandle" ∧ yX6_isSaying.cls ≠ "java/lang/invoke/VarHandle" ∧ (parseMethodDescriptor yX6_isSaying.desc).map (fun d => d.parameters.length) = some 1 := by decide +kernel
theorem vd_X6_kindOfLetter : yX6_kindOfLetter.cls = RX6 ∧ yX6_kindOfLetter.cls ≠ "java/lang/invoke/MethodHandle" ∧ yX6_kindOfLetter.cls ≠ "java/lang/invoke/VarHandle" ∧ (parseMethodDescriptor yX6_kindOfLetter.desc).map (fun d => d.parameters.length) = some 1 := by decide +kernel
theorem vd_X6_readPage : yX6_readPage.cls = RX6 ∧ yX6_readPage.cls ≠ "java/lang/invoke/MethodHandle" ∧ yX6_readPage.cls ≠ "java/lang/invoke/VarHandle" ∧ (parseMethodDescriptor yX6_readPage.desc).map (fun d => d.parameters.length) = some 0 := by decide +kernel
theorem vd_X6_dripOf : yX6_dripOf.cls = RX6 ∧ yX6_dripOf.cls ≠ "java/lang/invoke/MethodHandle" ∧ yX6_dripOf.cls ≠ "java/lang/invoke/VarHandle" ∧ (parseMethodDescriptor yX6_dripOf.desc).map (fun d => d.parameters.length) = some 2 := by decide +kernel
theorem vd_X6_aboutOf : yX6_aboutOf.cls = RX6 ∧ yX6_aboutOf.cls ≠ "java/lang/invoke/MethodHandle" ∧ yX6_aboutOf.cls ≠ "java/lang/invoke/VarHandle" ∧ (parseMethodDescriptor yX6_aboutOf.desc).map (fun d => d.parameters.length) = some 2 := by decide +kernel
theorem vd_X6_sureOf : yX6_sureOf.cls = RX6 ∧ yX6_sureOf.cls ≠ "java/lang/invoke/MethodHandle" ∧ yX6_sureOf.cls ≠ "java/lang/invoke/VarHandle" ∧ (parseMethodDescriptor yX6_sureOf.desc).map (fun d => d.parameters.length) = some 1 := by decide +kernel
theorem vd_X6_enoughToTell : yX6_enoughToTell.cls = RX6 ∧ yX6_enoughToTell.cls ≠ "java/lang/invoke/MethodHandle" ∧ yX6_enoughToTell.cls ≠ "java/lang/invoke/VarHandle" ∧ (parseMethodDescriptor yX6_enoughToTell.desc).map (fun d => d.parameters.length) = some 3 := by decide +kernel
theorem vd_X6_saysOf : yX6_saysOf.cls = RX6 ∧ yX6_saysOf.cls ≠ "java/lang/invoke/MethodHandle" ∧ yX6_saysOf.cls ≠ "java/lang/invoke/VarHandle" ∧ (parseMethodDescriptor yX6_saysOf.desc).map (fun d => d.parameters.length) = some 1 := by decide +kernel
theorem vd_X6_likelyOf : yX6_likelyOf.cls = RX6 ∧ yX6_likelyOf.cls ≠ "java/lang/invoke/MethodHandle" ∧ yX6_likelyOf.cls ≠ "java/lang/invoke/VarHandle" ∧ (parseMethodDescriptor yX6_likelyOf.desc).map (fun d => d.parameters.length) = some 1 := by decide +kernel
theorem vd_X6_slipsOf : yX6_slipsOf.cls = RX6 ∧ yX6_slipsOf.cls ≠ "java/lang/invoke/MethodHandle" ∧ yX6_slipsOf.cls ≠ "java/lang/invoke/VarHandle" ∧ (parseMethodDescriptor yX6_slipsOf.desc).map (fun d => d.parameters.length) = some 2 := by decide +kernel
theorem vd_X6_bestToHear : yX6_bestToHear.cls = RX6 ∧ yX6_bestToHear.cls ≠ "java/lang/invoke/MethodHandle" ∧ yX6_bestToHear.cls ≠ "java/lang/invoke/VarHandle" ∧ (parseMethodDescriptor yX6_bestToHear.desc).map (fun d => d.parameters.length) = some 2 := by decide +kernel
theorem vd_X6_leftAtWorst : yX6_leftAtWorst.cls = RX6 ∧ yX6_leftAtWorst.cls ≠ "java/lang/invoke/MethodHandle" ∧ yX6_leftAtWorst.cls ≠ "java/lang/invoke/VarHandle" ∧ (parseMethodDescriptor yX6_leftAtWorst.desc).map (fun d => d.parameters.length) = some 3 := by decide +kernel
theorem vd_X6_nearOf : yX6_nearOf.cls = RX6 ∧ yX6_nearOf.cls ≠ "java/lang/invoke/MethodHandle" ∧ yX6_nearOf.cls ≠ "java/lang/invoke/VarHandle" ∧ (parseMethodDescriptor yX6_nearOf.desc).map (fun d => d.parameters.length) = some 3 := by decide +kernel
theorem vd_X6_unlikeOf : yX6_unlikeOf.cls = RX6 ∧ yX6_unlikeOf.cls ≠ "java/lang/invoke/MethodHandle" ∧ yX6_unlikeOf.cls ≠ "java/lang/invoke/VarHandle" ∧ (parseMethodDescriptor yX6_unlikeOf.desc).map (fun d => d.parameters.length) = some 3 := by decide +kernel
theorem vd_X6_nextSeed : yX6_nextSeed.cls = RX6 ∧ yX6_nextSeed.cls ≠ "java/lang/invoke/MethodHandle" ∧ yX6_nextSeed.cls ≠ "java/lang/invoke/VarHandle" ∧ (parseMethodDescriptor yX6_nextSeed.desc).map (fun d => d.parameters.length) = some 1 := by decide +kernel
theorem vd_X6_drawOf : yX6_drawOf.cls = RX6 ∧ yX6_drawOf.cls ≠ "java/lang/invoke/MethodHandle" ∧ yX6_drawOf.cls ≠ "java/lang/invoke/VarHandle" ∧ (parseMethodDescriptor yX6_drawOf.desc).map (fun d => d.parameters.length) = some 1 := by decide +kernel
theorem vd_X6_countOf : yX6_countOf.cls = RX6 ∧ yX6_countOf.cls ≠ "java/lang/invoke/MethodHandle" ∧ yX6_countOf.cls ≠ "java/lang/invoke/VarHandle" ∧ (parseMethodDescriptor yX6_countOf.desc).map (fun d => d.parameters.length) = some 1 := by decide +kernel
theorem vd_X6_digestSayings : yX6_digestSayings.cls = RX6 ∧ yX6_digestSayings.cls ≠ "java/lang/invoke/MethodHandle" ∧ yX6_digestSayings.cls ≠ "java/lang/invoke/VarHandle" ∧ (parseMethodDescriptor yX6_digestSayings.desc).map (fun d => d.parameters.length) = some 1 := by decide +kernel
theorem vd_X6_digestTap : yX6_digestTap.cls = RX6 ∧ yX6_digestTap.cls ≠ "java/lang/invoke/MethodHandle" ∧ yX6_digestTap.cls ≠ "java/lang/invoke/VarHandle" ∧ (parseMethodDescriptor yX6_digestTap.desc).map (fun d => d.parameters.length) = some 2 := by decide +kernel
theorem vd_X7_in : yX7_in.cls = RX7 ∧ yX7_in.cls ≠ "java/lang/invoke/MethodHandle" ∧ yX7_in.cls ≠ "java/lang/invoke/VarHandle" ∧ (parseMethodDescriptor yX7_in.desc).map (fun d => d.parameters.length) = some 3 := by decide +kernel
theorem vd_X7_copy : yX7_copy.cls = RX7 ∧ yX7_copy.cls ≠ "java/lang/invoke/MethodHandle" ∧ yX7_copy.cls ≠ "java/lang/invoke/VarHandle" ∧ (parseMethodDescriptor yX7_copy.desc).map (fun d => d.parameters.length) = some 2 := by decide +kernel
theorem vd_X7_letter : yX7_letter.cls = RX7 ∧ yX7_letter.cls ≠ "java/lang/invoke/MethodHandle" ∧ yX7_letter.cls ≠ "java/lang/invoke/VarHandle" ∧ (parseMethodDescriptor yX7_letter.desc).map (fun d => d.parameters.length) = some 1 := by decide +kernel
theorem vd_X7_blank : yX7_blank.cls = RX7 ∧ yX7_blank.cls ≠ "java/lang/invoke/MethodHandle" ∧ yX7_blank.cls ≠ "java/lang/invoke/VarHandle" ∧ (parseMethodDescriptor yX7_blank.desc).map (fun d => d.parameters.length) = some 0 := by decide +kernel
theorem vd_X7_kindBy : yX7_kindBy.cls = RX7 ∧ yX7_kindBy.cls ≠ "java/lang/invoke/MethodHandle" ∧ yX7_kindBy.cls ≠ "java/lang/invoke/VarHandle" ∧ (parseMethodDescriptor yX7_kindBy.desc).map (fun d => d.parameters.length) = some 1 := by decide +kernel
theorem vd_X7_goSaying : yX7_goSaying.cls = RX7 ∧ yX7_goSaying.cls ≠ "java/lang/invoke/MethodHandle" ∧ yX7_goSaying.cls ≠ "java/lang/invoke/VarHandle" ∧ (parseMethodDescriptor yX7_goSaying.desc).map (fun d => d.parameters.length) = some 1 := by decide +kernel
theorem vd_X7_goTap : yX7_goTap.cls = RX7 ∧ yX7_goTap.cls ≠ "java/lang/invoke/MethodHandle" ∧ yX7_goTap.cls ≠ "java/lang/invoke/VarHandle" ∧ (parseMethodDescriptor yX7_goTap.desc).map (fun d => d.parameters.length) = some 1 := by decide +kernel
theorem vd_X7_faultOf : yX7_faultOf.cls = RX7 ∧ yX7_faultOf.cls ≠ "java/lang/invoke/MethodHandle" ∧ yX7_faultOf.cls ≠ "java/lang/invoke/VarHandle" ∧ (parseMethodDescriptor yX7_faultOf.desc).map (fun d => d.parameters.length) = some 0 := by decide +kernel
theorem vd_X7_fault : yX7_fault.cls = RX7 ∧ yX7_fault.cls ≠ "java/lang/invoke/MethodHandle" ∧ yX7_fault.cls ≠ "java/lang/invoke/VarHandle" ∧ (parseMethodDescriptor yX7_fault.desc).map (fun d => d.parameters.length) = some 0 := by decide +kernel
theorem vd_X7_house : yX7_house.cls = RX7 ∧ yX7_house.cls ≠ "java/lang/invoke/MethodHandle" ∧ yX7_house.cls ≠ "java/lang/invoke/VarHandle" ∧ (parseMethodDescriptor yX7_house.desc).map (fun d => d.parameters.length) = some 0 := by decide +kernel
theorem vd_X7_lacks : yX7_lacks.cls = RX7 ∧ yX7_lacks.cls ≠ "java/lang/invoke/MethodHandle" ∧ yX7_lacks.cls ≠ "java/lang/invoke/VarHandle" ∧ (parseMethodDescriptor yX7_lacks.desc).map (fun d => d.parameters.length) = some 0 := by decide +kernel
theorem vd_X7_isTap : yX7_isTap.cls = RX7 ∧ yX7_isTap.cls ≠ "java/lang/invoke/MethodHandle" ∧ yX7_isTap.cls ≠ "java/lang/invoke/VarHandle" ∧ (parseMethodDescriptor yX7_isTap.desc).map (fun d => d.parameters.length) = some 1 := by decide +kernel
theorem vd_X7_isSaying : yX7_isSaying.cls = RX7 ∧ yX7_isSaying.cls ≠ "java/lang/invoke/MethodHandle" ∧ yX7_isSaying.cls ≠ "java/lang/invoke/VarHandle" ∧ (parseMethodDescriptor yX7_isSaying.desc).map (fun d => d.parameters.length) = some 1 := by decide +kernel
theorem vd_X7_tellSaying : yX7_tellSaying.cls = RX7 ∧ yX7_tellSaying.cls ≠ "java/lang/invoke/MethodHandle" ∧ yX7_tellSaying.cls ≠ "java/lang/invoke/VarHandle" ∧ (parseMethodDescriptor yX7_tellSaying.desc).map (fun d => d.parameters.length) = some 2 := by decide +kernel
theorem vd_X7_saying : yX7_saying.cls = RX7 ∧ yX7_saying.cls ≠ "java/lang/invoke/MethodHandle" ∧ yX7_saying.cls ≠ "java/lang/invoke/VarHandle" ∧ (parseMethodDescriptor yX7_saying.desc).map (fun d => d.parameters.length) = some 2 := by decide +kernel
theorem vd_X7_dripBy : yX7_dripBy.cls = RX7 ∧ yX7_dripBy.cls ≠ "java/lang/invoke/MethodHandle" ∧ yX7_dripBy.cls ≠ "java/lang/invoke/VarHandle" ∧ (parseMethodDescriptor yX7_dripBy.desc).map (fun d => d.parameters.length) = some 4 := by decide +kernel
theorem vd_X7_dripAs : yX7_dripAs.cls = RX7 ∧ yX7_dripAs.cls ≠ "java/lang/invoke/MethodHandle" ∧ yX7_dripAs.cls ≠ "java/lang/invoke/VarHandle" ∧ (parseMethodDescriptor yX7_dripAs.desc).map (fun d => d.parameters.length) = some 3 := by decide +kernel
theorem vd_X7_dripOf : yX7_dripOf.cls = RX7 ∧ yX7_dripOf.cls ≠ "java/lang/invoke/MethodHandle" ∧ yX7_dripOf.cls ≠ "java/lang/invoke/VarHandle" ∧ (parseMethodDescriptor yX7_dripOf.desc).map (fun d => d.parameters.length) = some 2 := by decide +kernel
theorem vd_X7_tap : yX7_tap.cls = RX7 ∧ yX7_tap.cls ≠ "java/lang/invoke/MethodHandle" ∧ yX7_tap.cls ≠ "java/lang/invoke/VarHandle" ∧ (parseMethodDescriptor yX7_tap.desc).map (fun d => d.parameters.length) = some 2 := by decide +kernel
theorem vd_X7_patternOf : yX7_patternOf.cls = RX7 ∧ yX7_patternOf.cls ≠ "java/lang/invoke/MethodHandle" ∧ yX7_patternOf.cls ≠ "java/lang/invoke/VarHandle" ∧ (parseMethodDescriptor yX7_patternOf.desc).map (fun d => d.parameters.length) = some 3 := by decide +kernel
theorem vd_X7_sureOf : yX7_sureOf.cls = RX7 ∧ yX7_sureOf.cls ≠ "java/lang/invoke/MethodHandle" ∧ yX7_sureOf.cls ≠ "java/lang/invoke/VarHandle" ∧ (parseMethodDescriptor yX7_sureOf.desc).map (fun d => d.parameters.length) = some 1 := by decide +kernel
theorem vd_X7_tell : yX7_tell.cls = RX7 ∧ yX7_tell.cls ≠ "java/lang/invoke/MethodHandle" ∧ yX7_tell.cls ≠ "java/lang/invoke/VarHandle" ∧ (parseMethodDescriptor yX7_tell.desc).map (fun d => d.parameters.length) = some 2 := by decide +kernel
theorem vd_X7_about : yX7_about.cls = RX7 ∧ yX7_about.cls ≠ "java/lang/invoke/MethodHandle" ∧ yX7_about.cls ≠ "java/lang/invoke/VarHandle" ∧ (parseMethodDescriptor yX7_about.desc).map (fun d => d.parameters.length) = some 2 := by decide +kernel
theorem vd_X7_as : yX7_as.cls = RX7 ∧ yX7_as.cls ≠ "java/lang/invoke/MethodHandle" ∧ yX7_as.cls ≠ "java/lang/invoke/VarHandle" ∧ (parseMethodDescriptor yX7_as.desc).map (fun d => d.parameters.length) = some 2 := by decide +kernel
theorem vd_X7_drip : yX7_drip.cls = RX7 ∧ yX7_drip.cls ≠ "java/lang/invoke/MethodHandle" ∧ yX7_drip.cls ≠ "java/lang/invoke/VarHandle" ∧ (parseMethodDescriptor yX7_drip.desc).map (fun d => d.parameters.length) = some 2 := by decide +kernel
theorem vd_X7_listen : yX7_listen.cls = RX7 ∧ yX7_listen.cls ≠ "java/lang/invoke/MethodHandle" ∧ yX7_listen.cls ≠ "java/lang/invoke/VarHandle" ∧ (parseMethodDescriptor yX7_listen.desc).map (fun d => d.parameters.length) = some 1 := by decide +kernel
theorem vd_X7_washer : yX7_washer.cls = RX7 ∧ yX7_washer.cls ≠ "java/lang/invoke/MethodHandle" ∧ yX7_washer.cls ≠ "java/lang/invoke/VarHandle" ∧ (parseMethodDescriptor yX7_washer.desc).map (fun d => d.parameters.length) = some 2 := by decide +kernel
theorem vd_X7_teach : yX7_teach.cls = RX7 ∧ yX7_teach.cls ≠ "java/lang/invoke/MethodHandle" ∧ yX7_teach.cls ≠ "java/lang/invoke/VarHandle" ∧ (parseMethodDescriptor yX7_teach.desc).map (fun d => d.parameters.length) = some 2 := by decide +kernel
theorem vd_X7_agreeOf : yX7_agreeOf.cls = RX7 ∧ yX7_agreeOf.cls ≠ "java/lang/invoke/MethodHandle" ∧ yX7_agreeOf.cls ≠ "java/lang/invoke/VarHandle" ∧ (parseMethodDescriptor yX7_agreeOf.desc).map (fun d => d.parameters.length) = some 2 := by decide +kernel
theorem vd_X7_agree : yX7_agree.cls = RX7 ∧ yX7_agree.cls ≠ "java/lang/invoke/MethodHandle" ∧ yX7_agree.cls ≠ "java/lang/invoke/VarHandle" ∧ (parseMethodDescriptor yX7_agree.desc).map (fun d => d.parameters.length) = some 2 := by decide +kernel
theorem vd_X7_unlikeBy : yX7_unlikeBy.cls = RX7 ∧ yX7_unlikeBy.cls ≠ "java/lang/invoke/MethodHandle" ∧ yX7_unlikeBy.cls ≠ "java/lang/invoke/VarHandle" ∧ (parseMethodDescriptor yX7_unlikeBy.desc).map (fun d => d.parameters.length) = some 3 := by decide +kernel
theorem vd_X7_nearOf : yX7_nearOf.cls = RX7 ∧ yX7_nearOf.cls ≠ "java/lang/invoke/MethodHandle" ∧ yX7_nearOf.cls ≠ "java/lang/invoke/VarHandle" ∧ (parseMethodDescriptor yX7_nearOf.desc).map (fun d => d.parameters.length) = some 3 := by decide +kernel
theorem vd_X7_near : yX7_near.cls = RX7 ∧ yX7_near.cls ≠ "java/lang/invoke/MethodHandle" ∧ yX7_near.cls ≠ "java/lang/invoke/VarHandle" ∧ (parseMethodDescriptor yX7_near.desc).map (fun d => d.parameters.length) = some 3 := by decide +kernel
theorem vd_X7_put : yX7_put.cls = RX7 ∧ yX7_put.cls ≠ "java/lang/invoke/MethodHandle" ∧ yX7_put.cls ≠ "java/lang/invoke/VarHandle" ∧ (parseMethodDescriptor yX7_put.desc).map (fun d => d.parameters.length) = some 3 := by decide +kernel
theorem vd_X7_forget : yX7_forget.cls = RX7 ∧ yX7_forget.cls ≠ "java/lang/invoke/MethodHandle" ∧ yX7_forget.cls ≠ "java/lang/invoke/VarHandle" ∧ (parseMethodDescriptor yX7_forget.desc).map (fun d => d.parameters.length) = some 0 := by decide +kernel
theorem vd_X7_slipsBy : yX7_slipsBy.cls = RX7 ∧ yX7_slipsBy.cls ≠ "java/lang/invoke/MethodHandle" ∧ yX7_slipsBy.cls ≠ "java/lang/invoke/VarHandle" ∧ (parseMethodDescriptor yX7_slipsBy.desc).map (fun d => d.parameters.length) = some 2 := by decide +kernel
theorem vd_X7_saysOf : yX7_saysOf.cls = RX7 ∧ yX7_saysOf.cls ≠ "java/lang/invoke/MethodHandle" ∧ yX7_saysOf.cls ≠ "java/lang/invoke/VarHandle" ∧ (parseMethodDescriptor yX7_saysOf.desc).map (fun d => d.parameters.length) = some 1 := by decide +kernel
theorem vd_X7_likelyOf : yX7_likelyOf.cls = RX7 ∧ yX7_likelyOf.cls ≠ "java/lang/invoke/MethodHandle" ∧ yX7_likelyOf.cls ≠ "java/lang/invoke/VarHandle" ∧ (parseMethodDescriptor yX7_likelyOf.desc).map (fun d => d.parameters.length) = some 1 := by decide +kernel
theorem vd_X7_listenOf : yX7_listenOf.cls = RX7 ∧ yX7_listenOf.cls ≠ "java/lang/invoke/MethodHandle" ∧ yX7_listenOf.cls ≠ "java/lang/invoke/VarHandle" ∧ (parseMethodDescriptor yX7_listenOf.desc).map (fun d => d.parameters.length) = some 1 := by decide +kernel
theorem vd_X7_draw : yX7_draw.cls = RX7 ∧ yX7_draw.cls ≠ "java/lang/invoke/MethodHandle" ∧ yX7_draw.cls ≠ "java/lang/invoke/VarHandle" ∧ (parseMethodDescriptor yX7_draw.desc).map (fun d => d.parameters.length) = some 1 := by decide +kernel
theorem vd_X7_nights : yX7_nights.cls = RX7 ∧ yX7_nights.cls ≠ "java/lang/invoke/MethodHandle" ∧ yX7_nights.cls ≠ "java/lang/invoke/VarHandle" ∧ (parseMethodDescriptor yX7_nights.desc).map (fun d => d.parameters.length) = some 3 := by decide +kernel
theorem vd_X7_image : yX7_image.cls = RX7 ∧ yX7_image.cls ≠ "java/lang/invoke/MethodHandle" ∧ yX7_image.cls ≠ "java/lang/invoke/VarHandle" ∧ (parseMethodDescriptor yX7_image.desc).map (fun d => d.parameters.length) = some 0 := by decide +kernel
theorem vd_X7_restore : yX7_restore.cls = RX7 ∧ yX7_restore.cls ≠ "java/lang/invoke/MethodHandle" ∧ yX7_restore.cls ≠ "java/lang/invoke/VarHandle" ∧ (parseMethodDescriptor yX7_restore.desc).map (fun d => d.parameters.length) = some 0 := by decide +kernel
theorem vd_X7_beatsAll : yX7_beatsAll.cls = RX7 ∧ yX7_beatsAll.cls ≠ "java/lang/invoke/MethodHandle" ∧ yX7_beatsAll.cls ≠ "java/lang/invoke/VarHandle" ∧ (parseMethodDescriptor yX7_beatsAll.desc).map (fun d => d.parameters.length) = some 0 := by decide +kernel
theorem vd_X7_sumAt : yX7_sumAt.cls = RX7 ∧ yX7_sumAt.cls ≠ "java/lang/invoke/MethodHandle" ∧ yX7_sumAt.cls ≠ "java/lang/invoke/VarHandle" ∧ (parseMethodDescriptor yX7_sumAt.desc).map (fun d => d.parameters.length) = some 1 := by decide +kernel
theorem vd_X7_countOf : yX7_countOf.cls = RX7 ∧ yX7_countOf.cls ≠ "java/lang/invoke/MethodHandle" ∧ yX7_countOf.cls ≠ "java/lang/invoke/VarHandle" ∧ (parseMethodDescriptor yX7_countOf.desc).map (fun d => d.parameters.length) = some 1 := by decide +kernel
theorem vd_X7_count : yX7_count.cls = RX7 ∧ yX7_count.cls ≠ "java/lang/invoke/MethodHandle" ∧ yX7_count.cls ≠ "java/lang/invoke/VarHandle" ∧ (parseMethodDescriptor yX7_count.desc).map (fun d => d.parameters.length) = some 1 := by decide +kernel
theorem vd_X7_say : yX7_say.cls = RX7 ∧ yX7_say.cls ≠ "java/lang/invoke/MethodHandle" ∧ yX7_say.cls ≠ "java/lang/invoke/VarHandle" ∧ (parseMethodDescriptor yX7_say.desc).map (fun d => d.parameters.length) = some 1 := by decide +kernel
theorem vd_X7_sayTap : yX7_sayTap.cls = RX7 ∧ yX7_sayTap.cls ≠ "java/lang/invoke/MethodHandle" ∧ yX7_sayTap.cls ≠ "java/lang/invoke/VarHandle" ∧ (parseMethodDescriptor yX7_sayTap.desc).map (fun d => d.parameters.length) = some 1 := by decide +kernel
theorem vd_X7_digest : yX7_digest.cls = RX7 ∧ yX7_digest.cls ≠ "java/lang/invoke/MethodHandle" ∧ yX7_digest.cls ≠ "java/lang/invoke/VarHandle" ∧ (parseMethodDescriptor yX7_digest.desc).map (fun d => d.parameters.length) = some 0 := by decide +kernel
end
section
/-! what the house says: b v 0 the length of saying v, b v (1 + j) its beat j -/
def hok (b : Nat → Nat → Nat) : Prop := ∀ v, v < 4 → 1 ≤ b v 0 ∧ b v 0 ≤ 4 ∧ ∀ j, j < b v 0 → b v (1 + j) ≤ 1
/-- the class's rows of beats and lengths -/
def SR (b : Nat → Nat → Nat) (B L : Nat → Int32) : Prop := ∀ v, v < 4 → L v = nI (b v 0) ∧ ∀ j, j < 4 → B (v * 4 + j) = if j < b v 0 then nI (b v (1 + j)) else -1
theorem SR_len {b : Nat → Nat → Nat} {B L : Nat → Int32} (h : SR b B L) {v : Nat} (hv : v < 4) : L v = nI (b v 0) := (h v hv).1
theorem SR_beat {b : Nat → Nat → Nat} {B L : Nat → Int32} (h : SR b B L) (hb : hok b) {v j : Nat} (hv : v < 4) (hj : j < b v 0) : B (v * 4 + j) = nI (b v (1 + j)) := by
  have h4 := (hb v hv).2.1
  rw [(h v hv).2 j (by omega), if_pos hj]
/-- a drip: by kind, washer, saying, number -/
def sd (b : Nat → Nat → Nat) (kd w v n : Nat) : Nat :=
  let x0 := b v (1 + (if kd = 1 ∨ kd = 4 then b v 0 - 1 - n % b v 0 else n % b v 0))
  let x1 := if kd = 2 ∧ n % 2 = 1 then 0 else x0
  let x2 := if kd = 3 ∧ n % b v 0 = 0 then 1 else x1
  let x3 := if kd = 4 then 1 - x2 else x2
  if w = 1 then 1 - x3 else x3
theorem hok_at {b : Nat → Nat → Nat} (hb : hok b) {v n : Nat} (hv : v < 4) : b v (1 + n % b v 0) ≤ 1 := (hb v hv).2.2 _ (Nat.mod_lt _ (hb v hv).1)
theorem hok_back {b : Nat → Nat → Nat} (hb : hok b) {v n : Nat} (hv : v < 4) : b v (1 + (b v 0 - 1 - n % b v 0)) ≤ 1 := (hb v hv).2.2 _ (by have := (hb v hv).1; omega)
theorem xw {x w : Nat} (hx : x ≤ 1) (hw : w ≤ 1) : x ^^^ w = if w = 1 then 1 - x else x := by
  rcases (show x = 0 ∨ x = 1 by omega) with rfl | rfl <;> rcases (show w = 0 ∨ w = 1 by omega) with rfl | rfl <;> decide
theorem sd_le {b : Nat → Nat → Nat} (hb : hok b) {kd w v n : Nat} (hv : v < 4) : sd b kd w v n ≤ 1 := by
  have h1 := hok_at hb (n := n) hv
  have h2 := hok_back hb (n := n) hv
  unfold sd
  dsimp only
  repeat' split
  all_goals omega
theorem sd_k0 {b : Nat → Nat → Nat} (hb : hok b) {w v n : Nat} (hv : v < 4) (hw : w ≤ 1) : b v (1 + n % b v 0) ^^^ w = sd b 0 w v n := by
  rw [xw (hok_at hb hv) hw]; simp [sd]
theorem sd_k1 {b : Nat → Nat → Nat} (hb : hok b) {w v n : Nat} (hv : v < 4) (hw : w ≤ 1) : b v (1 + (b v 0 - 1 - n % b v 0)) ^^^ w = sd b 1 w v n := by
  rw [xw (hok_back hb hv) hw]; simp [sd]
theorem sd_k2a {b : Nat → Nat → Nat} {w v n : Nat} (hw : w ≤ 1) (h : n % 2 = 1) : 0 ^^^ w = sd b 2 w v n := by
  rw [xw (by omega) hw]; simp [sd, h]
theorem sd_k2b {b : Nat → Nat → Nat} (hb : hok b) {w v n : Nat} (hv : v < 4) (hw : w ≤ 1) (h : ¬ n % 2 = 1) : b v (1 + n % b v 0) ^^^ w = sd b 2 w v n := by
  rw [xw (hok_at hb hv) hw]; simp [sd, h]
theorem sd_k3a {b : Nat → Nat → Nat} {w v n : Nat} (hw : w ≤ 1) (h : n % b v 0 = 0) : 1 ^^^ w = sd b 3 w v n := by
  rw [xw (by omega) hw]; simp [sd, h]
theorem sd_k3b {b : Nat → Nat → Nat} (hb : hok b) {w v n : Nat} (hv : v < 4) (hw : w ≤ 1) (h : ¬ n % b v 0 = 0) : b v (1 + n % b v 0) ^^^ w = sd b 3 w v n := by
  rw [xw (hok_at hb hv) hw]; simp [sd, h]
theorem sd_k4 {b : Nat → Nat → Nat} (hb : hok b) {w v n : Nat} (hv : v < 4) (hw : w ≤ 1) : b v (1 + (b v 0 - 1 - n % b v 0)) ^^^ 1 ^^^ w = sd b 4 w v n := by
  have h2 := hok_back hb (n := n) hv
  rw [xw h2 (Nat.le_refl 1), xw (by simp only [if_true]; omega) hw]; simp [sd]
/-- sums of a row -/
def smu (f : Nat → Nat) : Nat → Nat
  | 0 => 0
  | n + 1 => smu f n + f n
end
section
set_option maxHeartbeats 4000000 in
set_option maxRecDepth 100000 in
theorem c_X4_lengthOf (l : Launch) (D : va_G) (a : Nat → Nat) (cI cT cN : ClassId) (B L : Nat → Int32) (b : Nat → Nat → Nat) (hS : SR b B L) (v : Nat) (hv : v < 4) : ROi l yX4_lengthOf (wA yX4_lengthOf cX4_lengthOf 2 (some .int)) ({ frames := 0, cells := 0, slots := 0, locals := 0 }) D (cTys cI cT cN) (sW a cI B L) [.ref (a 4), .int (nI v)] (nI (b v 0)) := by
  refine go_start (by decide) (Nat.le_of_ble_eq_true rfl) ?_
  intro p e s m args below meth c ls F _ hB hl
  obtain ⟨hx, hb, hr, hlocks, hml, hown, hts⟩ := F
  obtain ⟨hP, hK⟩ := hB
  have hown : s.vm.findClass RX4 = some m.cls := hown
  have hl : lv_has ls 2 [(0, .ref (a 4)), (1, .int (nI v))] := hl
  refine lv_iload_n hx hb dX4_lengthOf_0 rfl (lv_at hl 1 rfl) ?_
  refine j_if_lt (tgt := 22) hx hb dX4_lengthOf_1 (by decide) (nI_toInt (by omega)) (fun c_1 => absurd c_1 (by omega)) (fun c_1 => ?_)
  refine lv_iload_n hx hb dX4_lengthOf_4 rfl (lv_at hl 1 rfl) ?_
  refine lv_aload_n hx hb dX4_lengthOf_5 rfl (lv_at hl 0 rfl) ?_
  refine va_get (D := D) (ci := 4) (v := .ref (a 6)) (C := RX4) (T := TX4) (N := 2) hx hb hts iX4 hown hK hP 0 rfl rfl 1 (by decide) (hts _ mg_59) (fun _ h9 => h9) rfl dX4_lengthOf_6 ?_
  refine va_alen (v := nI 4) hx hb hK hP 2 0 rfl rfl rfl dX4_lengthOf_9 ?_
  refine j_icmp_ge (tgt := 22) hx hb dX4_lengthOf_10 (by decide) (nI_toInt (by omega)) (nI_toInt (by decide)) (fun c_2 => absurd c_2 (by omega)) (fun c_2 => ?_)
  refine lv_aload_n hx hb dX4_lengthOf_13 rfl (lv_at hl 0 rfl) ?_
  refine va_get (D := D) (ci := 4) (v := .ref (a 6)) (C := RX4) (T := TX4) (N := 2) hx hb hts iX4 hown hK hP 0 rfl rfl 1 (by decide) (hts _ mg_59) (fun _ h9 => h9) rfl dX4_lengthOf_14 ?_
  refine lv_iload_n hx hb dX4_lengthOf_17 rfl (lv_at hl 1 rfl) ?_
  refine n_aldi hx hb hK hP 2 0 rfl rfl (by omega) (by decide) (v := nI (b v 0)) (SR_len hS hv) dX4_lengthOf_18 ?_
  refine lv_goto (tgt := 23) hx hb dX4_lengthOf_19 (by decide) ?_
  exact ro_iret hx hb hr hlocks (rfl) dX4_lengthOf_23

set_option maxHeartbeats 4000000 in
set_option maxRecDepth 100000 in
theorem c_X4_beatOf (l : Launch) (D : va_G) (a : Nat → Nat) (cI cT cN : ClassId) (B L : Nat → Int32) (v j : Nat) (hv : v < 4) (hj : j < 4) : ROi l yX4_beatOf (wA yX4_beatOf cX4_beatOf 4 (some .int)) ({ frames := 0, cells := 0, slots := 0, locals := 0 }) D (cTys cI cT cN) (sW a cI B L) [.ref (a 4), .int (nI v), .int (nI j)] (B (v * 4 + j)) := by
  refine go_start (by decide) (Nat.le_of_ble_eq_true rfl) ?_
  intro p e s m args below meth c ls F _ hB hl
  obtain ⟨hx, hb, hr, hlocks, hml, hown, hts⟩ := F
  obtain ⟨hP, hK⟩ := hB
  have hown : s.vm.findClass RX4 = some m.cls := hown
  have hl : lv_has ls 4 [(0, .ref (a 4)), (1, .int (nI v)), (2, .int (nI j))] := hl
  refine lv_iload_n hx hb dX4_beatOf_0 rfl (lv_at hl 1 rfl) ?_
  refine j_if_lt (tgt := 18) hx hb dX4_beatOf_1 (by decide) (nI_toInt (by omega)) (fun c_1 => absurd c_1 (by omega)) (fun c_1 => ?_)
  refine lv_iload_n hx hb dX4_beatOf_4 rfl (lv_at hl 1 rfl) ?_
  refine lv_iconst (v := nI 4) hx hb dX4_beatOf_5 (by decide) ?_
  refine j_icmp_ge (tgt := 18) hx hb dX4_beatOf_6 (by decide) (nI_toInt (by omega)) (nI_toInt (by decide)) (fun c_2 => absurd c_2 (by omega)) (fun c_2 => ?_)
  refine lv_iload_n hx hb dX4_beatOf_9 rfl (lv_at hl 2 rfl) ?_
  refine j_if_lt (tgt := 18) hx hb dX4_beatOf_10 (by decide) (nI_toInt (by omega)) (fun c_3 => absurd c_3 (by omega)) (fun c_3 => ?_)
  refine lv_iload_n hx hb dX4_beatOf_13 rfl (lv_at hl 2 rfl) ?_
  refine lv_iconst (v := nI 4) hx hb dX4_beatOf_14 (by decide) ?_
  refine j_icmp_lt (tgt := 20) hx hb dX4_beatOf_15 (by decide) (nI_toInt (by omega)) (nI_toInt (by decide)) (fun c_4 => ?_) (fun c_4 => absurd c_4 (by omega))
  refine lv_iload_n hx hb dX4_beatOf_20 rfl (lv_at hl 1 rfl) ?_
  refine lv_iconst (v := nI 4) hx hb dX4_beatOf_21 (by decide) ?_
  refine n_imul hx hb dX4_beatOf_22 ?_
  refine lv_iload_n hx hb dX4_beatOf_23 rfl (lv_at hl 2 rfl) ?_
  refine n_iadd hx hb dX4_beatOf_24 ?_
  refine lv_istore_n (lv' := [(3, .int (nI ((v * 4) + j))), (0, .ref (a 4)), (1, .int (nI v)), (2, .int (nI j))]) hx hb dX4_beatOf_25 rfl hl (by decide) rfl (fun ls hl => ?_)
  refine lv_iload_n hx hb dX4_beatOf_26 rfl (lv_at hl 0 rfl) ?_
  refine lv_aload_n hx hb dX4_beatOf_27 rfl (lv_at hl 1 rfl) ?_
  refine va_get (D := D) (ci := 4) (v := .ref (a 5)) (C := RX4) (T := TX4) (N := 2) hx hb hts iX4 hown hK hP 0 rfl rfl 0 (by decide) (hts _ mg_58) (fun _ h9 => h9) rfl dX4_beatOf_28 ?_
  refine va_alen (v := nI 16) hx hb hK hP 1 0 rfl rfl rfl dX4_beatOf_31 ?_
  refine j_icmp_ge (tgt := 44) hx hb dX4_beatOf_32 (by decide) (nI_toInt (by omega)) (nI_toInt (by decide)) (fun c_5 => absurd c_5 (by omega)) (fun c_5 => ?_)
  refine lv_aload_n hx hb dX4_beatOf_35 rfl (lv_at hl 1 rfl) ?_
  refine va_get (D := D) (ci := 4) (v := .ref (a 5)) (C := RX4) (T := TX4) (N := 2) hx hb hts iX4 hown hK hP 0 rfl rfl 0 (by decide) (hts _ mg_58) (fun _ h9 => h9) rfl dX4_beatOf_36 ?_
  refine lv_iload_n hx hb dX4_beatOf_39 rfl (lv_at hl 0 rfl) ?_
  refine n_aldi hx hb hK hP 1 0 rfl rfl (by omega) (by decide) (v := B ((v * 4) + j)) (rfl) dX4_beatOf_40 ?_
  refine lv_goto (tgt := 45) hx hb dX4_beatOf_41 (by decide) ?_
  exact ro_iret hx hb hr hlocks (rfl) dX4_beatOf_45

set_option maxHeartbeats 4000000 in
set_option maxRecDepth 100000 in
theorem c_X4_beatCount (l : Launch) (D : va_G) (a : Nat → Nat) (cI cT cN : ClassId) (B L : Nat → Int32) (b : Nat → Nat → Nat) (hS : SR b B L) (h4 : ∀ v, v < 4 → b v 0 ≤ 4) : ROi l yX4_beatCount (wA yX4_beatCount cX4_beatCount 3 (some .int)) ({ frames := 0, cells := 0, slots := 0, locals := 0 }) D (cTys cI cT cN) (sW a cI B L) [.ref (a 4)] (nI (smu (fun v => b v 0) 4)) := by
  refine go_start (by decide) (Nat.le_of_ble_eq_true rfl) ?_
  intro p e s m args below meth c ls F _ hB hl
  obtain ⟨hx, hb, hr, hlocks, hml, hown, hts⟩ := F
  obtain ⟨hP, hK⟩ := hB
  have hown : s.vm.findClass RX4 = some m.cls := hown
  have hl : lv_has ls 3 [(0, .ref (a 4))] := hl
  refine lv_iconst (v := nI 0) hx hb dX4_beatCount_0 (by decide) ?_
  refine lv_istore_n (lv' := [(1, .int (nI 0)), (0, .ref (a 4))]) hx hb dX4_beatCount_1 rfl hl (by decide) rfl (fun ls hl => ?_)
  refine lv_iconst (v := nI 0) hx hb dX4_beatCount_2 (by decide) ?_
  refine lv_istore_n (lv' := [(2, .int (nI 0)), (1, .int (nI 0)), (0, .ref (a 4))]) hx hb dX4_beatCount_3 rfl hl (by decide) rfl (fun ls hl => ?_)
  have K_1 : ∀ n9 : Nat, ∀ (t : Nat) (i : Nat), i ≤ 4 → t = smu (fun v => b v 0) i → 4 - i < n9 → ∀ ls : Array Slot, lv_has ls 3 [(0, .ref (a 4)), (1, .int (nI t)), (2, .int (nI i))] → W p l e (headSpec (wA yX4_beatCount cX4_beatCount 3 (some .int)) ({ frames := 0, cells := 0, slots := 0, locals := 0 })).room s m args below meth c s.heap [] 0 0 (MQ below (vp_Si (fun x => x = nI (smu (fun v => b v 0) 4))) args s 0 0 (fun _ => False)) (F0 m 4 ls []) := by
    intro n9
    induction n9 with
    | zero => intros; omega
    | succ n9 ih_2 =>
      intro t i hi ht hn9 ls hl
      refine lv_iload_n hx hb dX4_beatCount_4 rfl (lv_at hl 2 rfl) ?_
      refine lv_aload_n hx hb dX4_beatCount_5 rfl (lv_at hl 0 rfl) ?_
      refine va_get (D := D) (ci := 4) (v := .ref (a 6)) (C := RX4) (T := TX4) (N := 2) hx hb hts iX4 hown hK hP 0 rfl rfl 1 (by decide) (hts _ mg_59) (fun _ h9 => h9) rfl dX4_beatCount_6 ?_
      refine va_alen (v := nI 4) hx hb hK hP 2 0 rfl rfl rfl dX4_beatCount_9 ?_
      refine j_icmp_ge (tgt := 28) hx hb dX4_beatCount_10 (by decide) (nI_toInt (by omega)) (nI_toInt (by decide)) (fun c_3 => ?_) (fun c_3 => ?_)
      · refine lv_iload_n hx hb dX4_beatCount_28 rfl (lv_at hl 1 rfl) ?_
        exact ro_iret hx hb hr hlocks (by rw [ht, show i = 4 by omega]) dX4_beatCount_29
      · refine lv_iload_n hx hb dX4_beatCount_13 rfl (lv_at hl 1 rfl) ?_
        refine lv_aload_n hx hb dX4_beatCount_14 rfl (lv_at hl 0 rfl) ?_
        refine va_get (D := D) (ci := 4) (v := .ref (a 6)) (C := RX4) (T := TX4) (N := 2) hx hb hts iX4 hown hK hP 0 rfl rfl 1 (by decide) (hts _ mg_59) (fun _ h9 => h9) rfl dX4_beatCount_15 ?_
        refine lv_iload_n hx hb dX4_beatCount_18 rfl (lv_at hl 2 rfl) ?_
        refine n_aldi hx hb hK hP 2 0 rfl rfl (by omega) (by decide) (v := nI (b i 0)) (SR_len hS (by omega)) dX4_beatCount_19 ?_
        refine n_iadd hx hb dX4_beatCount_20 ?_
        refine lv_istore_n (lv' := [(1, .int (nI (t + (b i 0)))), (0, .ref (a 4)), (2, .int (nI i))]) hx hb dX4_beatCount_21 rfl hl (by decide) rfl (fun ls hl => ?_)
        refine lv_iinc (v := nI (i + 1)) (lv' := [(2, .int (nI (i + 1))), (1, .int (nI (t + (b i 0)))), (0, .ref (a 4))]) hx hb dX4_beatCount_22 hl (k := 2) rfl (fr_inc1 _) (by decide) rfl (fun ls hl => ?_)
        refine lv_goto (tgt := 4) hx hb dX4_beatCount_25 (by decide) ?_
        exact ih_2 (t + (b i 0)) (i + 1) (by omega) (by rw [ht]; rfl) (by omega) _ (lv_sub hl [2, 1, 0] rfl)
  exact K_1 (4 - 0 + 1) 0 0 (by omega) (rfl) (Nat.lt_succ_self _) _ (lv_sub hl [2, 1, 0] rfl)

set_option maxHeartbeats 4000000 in
set_option maxRecDepth 100000 in
theorem c_X4_dripBy0 (l : Launch) (D : va_G) (a : Nat → Nat) (cI cT cN : ClassId) (B L : Nat → Int32) (b : Nat → Nat → Nat) (hS : SR b B L) (hok9 : hok b) (v w n : Nat) (hv : v < 4) (hw : w ≤ 1) (hn : n < 2 ^ 31) : ROi l yX4_dripBy (wA yX4_dripBy cX4_dripBy 8 (some .int)) ({ frames := 1, cells := 0, slots := 0, locals := 23 }) D (cTys cI cT cN) (sW a cI B L) [.ref (a 4), .int (nI 0), .int (nI v), .int (nI w), .int (nI n)] (nI (sd b 0 w v n)) := by
  refine go_start (by decide) (Nat.le_of_ble_eq_true rfl) ?_
  intro p e s m args below meth c ls F _ hB hl
  obtain ⟨hx, hb, hr, hlocks, hml, hown, hts⟩ := F
  obtain ⟨hP, hK⟩ := hB
  have hown : s.vm.findClass RX4 = some m.cls := hown
  have hl : lv_has ls 8 [(0, .ref (a 4)), (1, .int (nI 0)), (2, .int (nI v)), (3, .int (nI w)), (4, .int (nI n))] := hl
  have hm1 := (hok9 v hv).1
  have hm4 := (hok9 v hv).2.1
  have hmod : n % b v 0 < b v 0 := Nat.mod_lt _ hm1
  refine lv_aload_n hx hb dX4_dripBy_0 rfl (lv_at hl 0 rfl) ?_
  refine lv_iload_n hx hb dX4_dripBy_1 rfl (lv_at hl 2 rfl) ?_
  refine ro_iV (n := 1) (As := [.int (nI v)]) ⟨hx, hb, hml, hown, hts⟩ (c_X4_lengthOf l D a cI cT cN B L b hS v hv) (cwV 1 hts (gV mg_307 mg_272 mg_273 mg_4 mg_274) rfl rfl rfl vd_X4_lengthOf ⟨Nat.le_of_ble_eq_true rfl, Nat.le_of_ble_eq_true rfl⟩) (va_recv hK hP (ci := 4) (q0 := 0) rfl rfl) hK hP rfl hl.1 rfl (Nat.le_of_ble_eq_true rfl) dX4_dripBy_2 ⟨Nat.zero_le _, Nat.zero_le _⟩ ?_
  refine lv_istore (lv' := [(5, .int (nI (b v 0))), (0, .ref (a 4)), (1, .int (nI 0)), (2, .int (nI v)), (3, .int (nI w)), (4, .int (nI n))]) hx hb dX4_dripBy_5 hl (by decide) rfl (fun ls hl => ?_)
  refine lv_iload hx hb dX4_dripBy_7 (lv_at hl 0 rfl) ?_
  refine lv_iconst (v := nI 1) hx hb dX4_dripBy_9 (by decide) ?_
  refine j_icmp_lt (tgt := 18) hx hb dX4_dripBy_10 (by decide) (nI_toInt (by omega)) (nI_toInt (by decide)) (fun c_1 => absurd c_1 (by omega)) (fun c_1 => ?_)
  refine lv_iload hx hb dX4_dripBy_13 (lv_at hl 5 rfl) ?_
  refine j_if_ge (tgt := 20) hx hb dX4_dripBy_15 (by decide) (nI_toInt (by omega)) (fun c_2 => ?_) (fun c_2 => absurd c_2 (by omega))
  refine lv_iload hx hb dX4_dripBy_20 (lv_at hl 5 rfl) ?_
  refine lv_iload hx hb dX4_dripBy_22 (lv_at hl 0 rfl) ?_
  refine n_irem hx hb dX4_dripBy_24 (by omega) (by omega) (by omega) ?_
  refine lv_istore (lv' := [(6, .int (nI (n % (b v 0)))), (5, .int (nI (b v 0))), (0, .ref (a 4)), (1, .int (nI 0)), (2, .int (nI v)), (3, .int (nI w)), (4, .int (nI n))]) hx hb dX4_dripBy_25 hl (by decide) rfl (fun ls hl => ?_)
  refine lv_iload hx hb dX4_dripBy_27 (lv_at hl 1 rfl) ?_
  refine lv_iconst (v := nI 1) hx hb dX4_dripBy_29 (by decide) ?_
  refine n_isub hx hb dX4_dripBy_30 (by omega) ?_
  refine lv_iload hx hb dX4_dripBy_31 (lv_at hl 0 rfl) ?_
  refine n_isub hx hb dX4_dripBy_33 (by omega) ?_
  refine lv_istore (lv' := [(7, .int (nI (((b v 0) - 1) - (n % (b v 0))))), (6, .int (nI (n % (b v 0)))), (5, .int (nI (b v 0))), (0, .ref (a 4)), (1, .int (nI 0)), (2, .int (nI v)), (3, .int (nI w)), (4, .int (nI n))]) hx hb dX4_dripBy_34 hl (by decide) rfl (fun ls hl => ?_)
  refine lv_iload_n hx hb dX4_dripBy_36 rfl (lv_at hl 4 rfl) ?_
  refine lv_tableOut (tgt := 131) hx hb dX4_dripBy_37 (by decide) (by decide) ?_
  refine lv_aload_n hx hb dX4_dripBy_131 rfl (lv_at hl 3 rfl) ?_
  refine lv_iload_n hx hb dX4_dripBy_132 rfl (lv_at hl 5 rfl) ?_
  refine lv_iload hx hb dX4_dripBy_133 (lv_at hl 1 rfl) ?_
  refine ro_iV (n := 2) (As := [.int (nI v), .int (nI (n % (b v 0)))]) ⟨hx, hb, hml, hown, hts⟩ (c_X4_beatOf l D a cI cT cN B L v (n % (b v 0)) hv (by omega)) (cwV 2 hts (gV mg_308 mg_276 mg_277 mg_4 mg_278) rfl rfl rfl vd_X4_beatOf ⟨Nat.le_of_ble_eq_true rfl, Nat.le_of_ble_eq_true rfl⟩) (va_recv hK hP (ci := 4) (q0 := 0) rfl rfl) hK hP rfl hl.1 rfl (Nat.le_of_ble_eq_true rfl) dX4_dripBy_135 ⟨Nat.zero_le _, Nat.zero_le _⟩ ?_
  refine n_top (SR_beat hS hok9 hv (by omega)) ?_
  refine lv_iload_n hx hb dX4_dripBy_138 rfl (lv_at hl 6 rfl) ?_
  refine n_ixor hx hb dX4_dripBy_139 ?_
  exact ro_iret hx hb hr hlocks (congrArg nI (sd_k0 hok9 hv hw)) dX4_dripBy_140

set_option maxHeartbeats 4000000 in
set_option maxRecDepth 100000 in
theorem c_X4_dripBy1 (l : Launch) (D : va_G) (a : Nat → Nat) (cI cT cN : ClassId) (B L : Nat → Int32) (b : Nat → Nat → Nat) (hS : SR b B L) (hok9 : hok b) (v w n : Nat) (hv : v < 4) (hw : w ≤ 1) (hn : n < 2 ^ 31) : ROi l yX4_dripBy (wA yX4_dripBy cX4_dripBy 8 (some .int)) ({ frames := 1, cells := 0, slots := 0, locals := 23 }) D (cTys cI cT cN) (sW a cI B L) [.ref (a 4), .int (nI 1), .int (nI v), .int (nI w), .int (nI n)] (nI (sd b 1 w v n)) := by
  refine go_start (by decide) (Nat.le_of_ble_eq_true rfl) ?_
  intro p e s m args below meth c ls F _ hB hl
  obtain ⟨hx, hb, hr, hlocks, hml, hown, hts⟩ := F
  obtain ⟨hP, hK⟩ := hB
  have hown : s.vm.findClass RX4 = some m.cls := hown
  have hl : lv_has ls 8 [(0, .ref (a 4)), (1, .int (nI 1)), (2, .int (nI v)), (3, .int (nI w)), (4, .int (nI n))] := hl
  have hm1 := (hok9 v hv).1
  have hm4 := (hok9 v hv).2.1
  have hmod : n % b v 0 < b v 0 := Nat.mod_lt _ hm1
  refine lv_aload_n hx hb dX4_dripBy_0 rfl (lv_at hl 0 rfl) ?_
  refine lv_iload_n hx hb dX4_dripBy_1 rfl (lv_at hl 2 rfl) ?_
  refine ro_iV (n := 1) (As := [.int (nI v)]) ⟨hx, hb, hml, hown, hts⟩ (c_X4_lengthOf l D a cI cT cN B L b hS v hv) (cwV 1 hts (gV mg_307 mg_272 mg_273 mg_4 mg_274) rfl rfl rfl vd_X4_lengthOf ⟨Nat.le_of_ble_eq_true rfl, Nat.le_of_ble_eq_true rfl⟩) (va_recv hK hP (ci := 4) (q0 := 0) rfl rfl) hK hP rfl hl.1 rfl (Nat.le_of_ble_eq_true rfl) dX4_dripBy_2 ⟨Nat.zero_le _, Nat.zero_le _⟩ ?_
  refine lv_istore (lv' := [(5, .int (nI (b v 0))), (0, .ref (a 4)), (1, .int (nI 1)), (2, .int (nI v)), (3, .int (nI w)), (4, .int (nI n))]) hx hb dX4_dripBy_5 hl (by decide) rfl (fun ls hl => ?_)
  refine lv_iload hx hb dX4_dripBy_7 (lv_at hl 0 rfl) ?_
  refine lv_iconst (v := nI 1) hx hb dX4_dripBy_9 (by decide) ?_
  refine j_icmp_lt (tgt := 18) hx hb dX4_dripBy_10 (by decide) (nI_toInt (by omega)) (nI_toInt (by decide)) (fun c_1 => absurd c_1 (by omega)) (fun c_1 => ?_)
  refine lv_iload hx hb dX4_dripBy_13 (lv_at hl 5 rfl) ?_
  refine j_if_ge (tgt := 20) hx hb dX4_dripBy_15 (by decide) (nI_toInt (by omega)) (fun c_2 => ?_) (fun c_2 => absurd c_2 (by omega))
  refine lv_iload hx hb dX4_dripBy_20 (lv_at hl 5 rfl) ?_
  refine lv_iload hx hb dX4_dripBy_22 (lv_at hl 0 rfl) ?_
  refine n_irem hx hb dX4_dripBy_24 (by omega) (by omega) (by omega) ?_
  refine lv_istore (lv' := [(6, .int (nI (n % (b v 0)))), (5, .int (nI (b v 0))), (0, .ref (a 4)), (1, .int (nI 1)), (2, .int (nI v)), (3, .int (nI w)), (4, .int (nI n))]) hx hb dX4_dripBy_25 hl (by decide) rfl (fun ls hl => ?_)
  refine lv_iload hx hb dX4_dripBy_27 (lv_at hl 1 rfl) ?_
  refine lv_iconst (v := nI 1) hx hb dX4_dripBy_29 (by decide) ?_
  refine n_isub hx hb dX4_dripBy_30 (by omega) ?_
  refine lv_iload hx hb dX4_dripBy_31 (lv_at hl 0 rfl) ?_
  refine n_isub hx hb dX4_dripBy_33 (by omega) ?_
  refine lv_istore (lv' := [(7, .int (nI (((b v 0) - 1) - (n % (b v 0))))), (6, .int (nI (n % (b v 0)))), (5, .int (nI (b v 0))), (0, .ref (a 4)), (1, .int (nI 1)), (2, .int (nI v)), (3, .int (nI w)), (4, .int (nI n))]) hx hb dX4_dripBy_34 hl (by decide) rfl (fun ls hl => ?_)
  refine lv_iload_n hx hb dX4_dripBy_36 rfl (lv_at hl 4 rfl) ?_
  refine lv_tableIn (off := 31) (tgt := 68) hx hb dX4_dripBy_37 (by rw [show (nI 1).toInt = 1 from by first | decide | (rw [nI_toInt (by decide)]; omega)]; decide) (by rw [show (nI 1).toInt = 1 from by first | decide | (rw [nI_toInt (by decide)]; omega)]; decide) (by rw [show (nI 1).toInt = 1 from by first | decide | (rw [nI_toInt (by decide)]; omega)]; rfl) (by decide) ?_
  refine lv_aload_n hx hb dX4_dripBy_68 rfl (lv_at hl 3 rfl) ?_
  refine lv_iload_n hx hb dX4_dripBy_69 rfl (lv_at hl 5 rfl) ?_
  refine lv_iload hx hb dX4_dripBy_70 (lv_at hl 0 rfl) ?_
  refine ro_iV (n := 2) (As := [.int (nI v), .int (nI (((b v 0) - 1) - (n % (b v 0))))]) ⟨hx, hb, hml, hown, hts⟩ (c_X4_beatOf l D a cI cT cN B L v (((b v 0) - 1) - (n % (b v 0))) hv (by omega)) (cwV 2 hts (gV mg_308 mg_276 mg_277 mg_4 mg_278) rfl rfl rfl vd_X4_beatOf ⟨Nat.le_of_ble_eq_true rfl, Nat.le_of_ble_eq_true rfl⟩) (va_recv hK hP (ci := 4) (q0 := 0) rfl rfl) hK hP rfl hl.1 rfl (Nat.le_of_ble_eq_true rfl) dX4_dripBy_72 ⟨Nat.zero_le _, Nat.zero_le _⟩ ?_
  refine n_top (SR_beat hS hok9 hv (by omega)) ?_
  refine lv_iload_n hx hb dX4_dripBy_75 rfl (lv_at hl 6 rfl) ?_
  refine n_ixor hx hb dX4_dripBy_76 ?_
  exact ro_iret hx hb hr hlocks (congrArg nI (sd_k1 hok9 hv hw)) dX4_dripBy_77

set_option maxHeartbeats 4000000 in
set_option maxRecDepth 100000 in
theorem c_X4_dripBy2 (l : Launch) (D : va_G) (a : Nat → Nat) (cI cT cN : ClassId) (B L : Nat → Int32) (b : Nat → Nat → Nat) (hS : SR b B L) (hok9 : hok b) (v w n : Nat) (hv : v < 4) (hw : w ≤ 1) (hn : n < 2 ^ 31) : ROi l yX4_dripBy (wA yX4_dripBy cX4_dripBy 8 (some .int)) ({ frames := 1, cells := 0, slots := 0, locals := 23 }) D (cTys cI cT cN) (sW a cI B L) [.ref (a 4), .int (nI 2), .int (nI v), .int (nI w), .int (nI n)] (nI (sd b 2 w v n)) := by
  refine go_start (by decide) (Nat.le_of_ble_eq_true rfl) ?_
  intro p e s m args below meth c ls F _ hB hl
  obtain ⟨hx, hb, hr, hlocks, hml, hown, hts⟩ := F
  obtain ⟨hP, hK⟩ := hB
  have hown : s.vm.findClass RX4 = some m.cls := hown
  have hl : lv_has ls 8 [(0, .ref (a 4)), (1, .int (nI 2)), (2, .int (nI v)), (3, .int (nI w)), (4, .int (nI n))] := hl
  have hm1 := (hok9 v hv).1
  have hm4 := (hok9 v hv).2.1
  have hmod : n % b v 0 < b v 0 := Nat.mod_lt _ hm1
  refine lv_aload_n hx hb dX4_dripBy_0 rfl (lv_at hl 0 rfl) ?_
  refine lv_iload_n hx hb dX4_dripBy_1 rfl (lv_at hl 2 rfl) ?_
  refine ro_iV (n := 1) (As := [.int (nI v)]) ⟨hx, hb, hml, hown, hts⟩ (c_X4_lengthOf l D a cI cT cN B L b hS v hv) (cwV 1 hts (gV mg_307 mg_272 mg_273 mg_4 mg_274) rfl rfl rfl vd_X4_lengthOf ⟨Nat.le_of_ble_eq_true rfl, Nat.le_of_ble_eq_true rfl⟩) (va_recv hK hP (ci := 4) (q0 := 0) rfl rfl) hK hP rfl hl.1 rfl (Nat.le_of_ble_eq_true rfl) dX4_dripBy_2 ⟨Nat.zero_le _, Nat.zero_le _⟩ ?_
  refine lv_istore (lv' := [(5, .int (nI (b v 0))), (0, .ref (a 4)), (1, .int (nI 2)), (2, .int (nI v)), (3, .int (nI w)), (4, .int (nI n))]) hx hb dX4_dripBy_5 hl (by decide) rfl (fun ls hl => ?_)
  refine lv_iload hx hb dX4_dripBy_7 (lv_at hl 0 rfl) ?_
  refine lv_iconst (v := nI 1) hx hb dX4_dripBy_9 (by decide) ?_
  refine j_icmp_lt (tgt := 18) hx hb dX4_dripBy_10 (by decide) (nI_toInt (by omega)) (nI_toInt (by decide)) (fun c_1 => absurd c_1 (by omega)) (fun c_1 => ?_)
  refine lv_iload hx hb dX4_dripBy_13 (lv_at hl 5 rfl) ?_
  refine j_if_ge (tgt := 20) hx hb dX4_dripBy_15 (by decide) (nI_toInt (by omega)) (fun c_2 => ?_) (fun c_2 => absurd c_2 (by omega))
  refine lv_iload hx hb dX4_dripBy_20 (lv_at hl 5 rfl) ?_
  refine lv_iload hx hb dX4_dripBy_22 (lv_at hl 0 rfl) ?_
  refine n_irem hx hb dX4_dripBy_24 (by omega) (by omega) (by omega) ?_
  refine lv_istore (lv' := [(6, .int (nI (n % (b v 0)))), (5, .int (nI (b v 0))), (0, .ref (a 4)), (1, .int (nI 2)), (2, .int (nI v)), (3, .int (nI w)), (4, .int (nI n))]) hx hb dX4_dripBy_25 hl (by decide) rfl (fun ls hl => ?_)
  refine lv_iload hx hb dX4_dripBy_27 (lv_at hl 1 rfl) ?_
  refine lv_iconst (v := nI 1) hx hb dX4_dripBy_29 (by decide) ?_
  refine n_isub hx hb dX4_dripBy_30 (by omega) ?_
  refine lv_iload hx hb dX4_dripBy_31 (lv_at hl 0 rfl) ?_
  refine n_isub hx hb dX4_dripBy_33 (by omega) ?_
  refine lv_istore (lv' := [(7, .int (nI (((b v 0) - 1) - (n % (b v 0))))), (6, .int (nI (n % (b v 0)))), (5, .int (nI (b v 0))), (0, .ref (a 4)), (1, .int (nI 2)), (2, .int (nI v)), (3, .int (nI w)), (4, .int (nI n))]) hx hb dX4_dripBy_34 hl (by decide) rfl (fun ls hl => ?_)
  refine lv_iload_n hx hb dX4_dripBy_36 rfl (lv_at hl 4 rfl) ?_
  refine lv_tableIn (off := 41) (tgt := 78) hx hb dX4_dripBy_37 (by rw [show (nI 2).toInt = 2 from by first | decide | (rw [nI_toInt (by decide)]; omega)]; decide) (by rw [show (nI 2).toInt = 2 from by first | decide | (rw [nI_toInt (by decide)]; omega)]; decide) (by rw [show (nI 2).toInt = 2 from by first | decide | (rw [nI_toInt (by decide)]; omega)]; rfl) (by decide) ?_
  refine lv_iload hx hb dX4_dripBy_78 (lv_at hl 7 rfl) ?_
  refine lv_iconst (v := nI 2) hx hb dX4_dripBy_80 (by decide) ?_
  refine n_irem hx hb dX4_dripBy_81 (by omega) (by omega) (by omega) ?_
  refine lv_iconst (v := nI 1) hx hb dX4_dripBy_82 (by decide) ?_
  refine j_icmp_ne (tgt := 90) hx hb dX4_dripBy_83 (by decide) (nI_toInt (by omega)) (nI_toInt (by decide)) (fun c_3 => ?_) (fun c_3 => ?_)
  · refine lv_aload_n hx hb dX4_dripBy_90 rfl (lv_at hl 3 rfl) ?_
    refine lv_iload_n hx hb dX4_dripBy_91 rfl (lv_at hl 5 rfl) ?_
    refine lv_iload hx hb dX4_dripBy_92 (lv_at hl 1 rfl) ?_
    refine ro_iV (n := 2) (As := [.int (nI v), .int (nI (n % (b v 0)))]) ⟨hx, hb, hml, hown, hts⟩ (c_X4_beatOf l D a cI cT cN B L v (n % (b v 0)) hv (by omega)) (cwV 2 hts (gV mg_308 mg_276 mg_277 mg_4 mg_278) rfl rfl rfl vd_X4_beatOf ⟨Nat.le_of_ble_eq_true rfl, Nat.le_of_ble_eq_true rfl⟩) (va_recv hK hP (ci := 4) (q0 := 0) rfl rfl) hK hP rfl hl.1 rfl (Nat.le_of_ble_eq_true rfl) dX4_dripBy_94 ⟨Nat.zero_le _, Nat.zero_le _⟩ ?_
    refine n_top (SR_beat hS hok9 hv (by omega)) ?_
    refine lv_iload_n hx hb dX4_dripBy_97 rfl (lv_at hl 6 rfl) ?_
    refine n_ixor hx hb dX4_dripBy_98 ?_
    exact ro_iret hx hb hr hlocks (congrArg nI (sd_k2b hok9 hv hw (by omega))) dX4_dripBy_99
  · refine lv_iconst (v := nI 0) hx hb dX4_dripBy_86 (by decide) ?_
    refine lv_goto (tgt := 97) hx hb dX4_dripBy_87 (by decide) ?_
    refine lv_iload_n hx hb dX4_dripBy_97 rfl (lv_at hl 6 rfl) ?_
    refine n_ixor hx hb dX4_dripBy_98 ?_
    exact ro_iret hx hb hr hlocks (congrArg nI (sd_k2a hw (by omega))) dX4_dripBy_99

set_option maxHeartbeats 4000000 in
set_option maxRecDepth 100000 in
theorem c_X4_dripBy3 (l : Launch) (D : va_G) (a : Nat → Nat) (cI cT cN : ClassId) (B L : Nat → Int32) (b : Nat → Nat → Nat) (hS : SR b B L) (hok9 : hok b) (v w n : Nat) (hv : v < 4) (hw : w ≤ 1) (hn : n < 2 ^ 31) : ROi l yX4_dripBy (wA yX4_dripBy cX4_dripBy 8 (some .int)) ({ frames := 1, cells := 0, slots := 0, locals := 23 }) D (cTys cI cT cN) (sW a cI B L) [.ref (a 4), .int (nI 3), .int (nI v), .int (nI w), .int (nI n)] (nI (sd b 3 w v n)) := by
  refine go_start (by decide) (Nat.le_of_ble_eq_true rfl) ?_
  intro p e s m args below meth c ls F _ hB hl
  obtain ⟨hx, hb, hr, hlocks, hml, hown, hts⟩ := F
  obtain ⟨hP, hK⟩ := hB
  have hown : s.vm.findClass RX4 = some m.cls := hown
  have hl : lv_has ls 8 [(0, .ref (a 4)), (1, .int (nI 3)), (2, .int (nI v)), (3, .int (nI w)), (4, .int (nI n))] := hl
  have hm1 := (hok9 v hv).1
  have hm4 := (hok9 v hv).2.1
  have hmod : n % b v 0 < b v 0 := Nat.mod_lt _ hm1
  refine lv_aload_n hx hb dX4_dripBy_0 rfl (lv_at hl 0 rfl) ?_
  refine lv_iload_n hx hb dX4_dripBy_1 rfl (lv_at hl 2 rfl) ?_
  refine ro_iV (n := 1) (As := [.int (nI v)]) ⟨hx, hb, hml, hown, hts⟩ (c_X4_lengthOf l D a cI cT cN B L b hS v hv) (cwV 1 hts (gV mg_307 mg_272 mg_273 mg_4 mg_274) rfl rfl rfl vd_X4_lengthOf ⟨Nat.le_of_ble_eq_true rfl, Nat.le_of_ble_eq_true rfl⟩) (va_recv hK hP (ci := 4) (q0 := 0) rfl rfl) hK hP rfl hl.1 rfl (Nat.le_of_ble_eq_true rfl) dX4_dripBy_2 ⟨Nat.zero_le _, Nat.zero_le _⟩ ?_
  refine lv_istore (lv' := [(5, .int (nI (b v 0))), (0, .ref (a 4)), (1, .int (nI 3)), (2, .int (nI v)), (3, .int (nI w)), (4, .int (nI n))]) hx hb dX4_dripBy_5 hl (by decide) rfl (fun ls hl => ?_)
  refine lv_iload hx hb dX4_dripBy_7 (lv_at hl 0 rfl) ?_
  refine lv_iconst (v := nI 1) hx hb dX4_dripBy_9 (by decide) ?_
  refine j_icmp_lt (tgt := 18) hx hb dX4_dripBy_10 (by decide) (nI_toInt (by omega)) (nI_toInt (by decide)) (fun c_1 => absurd c_1 (by omega)) (fun c_1 => ?_)
  refine lv_iload hx hb dX4_dripBy_13 (lv_at hl 5 rfl) ?_
  refine j_if_ge (tgt := 20) hx hb dX4_dripBy_15 (by decide) (nI_toInt (by omega)) (fun c_2 => ?_) (fun c_2 => absurd c_2 (by omega))
  refine lv_iload hx hb dX4_dripBy_20 (lv_at hl 5 rfl) ?_
  refine lv_iload hx hb dX4_dripBy_22 (lv_at hl 0 rfl) ?_
  refine n_irem hx hb dX4_dripBy_24 (by omega) (by omega) (by omega) ?_
  refine lv_istore (lv' := [(6, .int (nI (n % (b v 0)))), (5, .int (nI (b v 0))), (0, .ref (a 4)), (1, .int (nI 3)), (2, .int (nI v)), (3, .int (nI w)), (4, .int (nI n))]) hx hb dX4_dripBy_25 hl (by decide) rfl (fun ls hl => ?_)
  refine lv_iload hx hb dX4_dripBy_27 (lv_at hl 1 rfl) ?_
  refine lv_iconst (v := nI 1) hx hb dX4_dripBy_29 (by decide) ?_
  refine n_isub hx hb dX4_dripBy_30 (by omega) ?_
  refine lv_iload hx hb dX4_dripBy_31 (lv_at hl 0 rfl) ?_
  refine n_isub hx hb dX4_dripBy_33 (by omega) ?_
  refine lv_istore (lv' := [(7, .int (nI (((b v 0) - 1) - (n % (b v 0))))), (6, .int (nI (n % (b v 0)))), (5, .int (nI (b v 0))), (0, .ref (a 4)), (1, .int (nI 3)), (2, .int (nI v)), (3, .int (nI w)), (4, .int (nI n))]) hx hb dX4_dripBy_34 hl (by decide) rfl (fun ls hl => ?_)
  refine lv_iload_n hx hb dX4_dripBy_36 rfl (lv_at hl 4 rfl) ?_
  refine lv_tableIn (off := 63) (tgt := 100) hx hb dX4_dripBy_37 (by rw [show (nI 3).toInt = 3 from by first | decide | (rw [nI_toInt (by decide)]; omega)]; decide) (by rw [show (nI 3).toInt = 3 from by first | decide | (rw [nI_toInt (by decide)]; omega)]; decide) (by rw [show (nI 3).toInt = 3 from by first | decide | (rw [nI_toInt (by decide)]; omega)]; rfl) (by decide) ?_
  refine lv_iload hx hb dX4_dripBy_100 (lv_at hl 1 rfl) ?_
  refine j_if_ne (tgt := 109) hx hb dX4_dripBy_102 (by decide) (nI_toInt (by omega)) (fun c_3 => ?_) (fun c_3 => ?_)
  · refine lv_aload_n hx hb dX4_dripBy_109 rfl (lv_at hl 3 rfl) ?_
    refine lv_iload_n hx hb dX4_dripBy_110 rfl (lv_at hl 5 rfl) ?_
    refine lv_iload hx hb dX4_dripBy_111 (lv_at hl 1 rfl) ?_
    refine ro_iV (n := 2) (As := [.int (nI v), .int (nI (n % (b v 0)))]) ⟨hx, hb, hml, hown, hts⟩ (c_X4_beatOf l D a cI cT cN B L v (n % (b v 0)) hv (by omega)) (cwV 2 hts (gV mg_308 mg_276 mg_277 mg_4 mg_278) rfl rfl rfl vd_X4_beatOf ⟨Nat.le_of_ble_eq_true rfl, Nat.le_of_ble_eq_true rfl⟩) (va_recv hK hP (ci := 4) (q0 := 0) rfl rfl) hK hP rfl hl.1 rfl (Nat.le_of_ble_eq_true rfl) dX4_dripBy_113 ⟨Nat.zero_le _, Nat.zero_le _⟩ ?_
    refine n_top (SR_beat hS hok9 hv (by omega)) ?_
    refine lv_iload_n hx hb dX4_dripBy_116 rfl (lv_at hl 6 rfl) ?_
    refine n_ixor hx hb dX4_dripBy_117 ?_
    exact ro_iret hx hb hr hlocks (congrArg nI (sd_k3b hok9 hv hw (by omega))) dX4_dripBy_118
  · refine lv_iconst (v := nI 1) hx hb dX4_dripBy_105 (by decide) ?_
    refine lv_goto (tgt := 116) hx hb dX4_dripBy_106 (by decide) ?_
    refine lv_iload_n hx hb dX4_dripBy_116 rfl (lv_at hl 6 rfl) ?_
    refine n_ixor hx hb dX4_dripBy_117 ?_
    exact ro_iret hx hb hr hlocks (congrArg nI (sd_k3a hw (by omega))) dX4_dripBy_118

set_option maxHeartbeats 4000000 in
set_option maxRecDepth 100000 in
theorem c_X4_dripBy4 (l : Launch) (D : va_G) (a : Nat → Nat) (cI cT cN : ClassId) (B L : Nat → Int32) (b : Nat → Nat → Nat) (hS : SR b B L) (hok9 : hok b) (v w n : Nat) (hv : v < 4) (hw : w ≤ 1) (hn : n < 2 ^ 31) : ROi l yX4_dripBy (wA yX4_dripBy cX4_dripBy 8 (some .int)) ({ frames := 1, cells := 0, slots := 0, locals := 23 }) D (cTys cI cT cN) (sW a cI B L) [.ref (a 4), .int (nI 4), .int (nI v), .int (nI w), .int (nI n)] (nI (sd b 4 w v n)) := by
  refine go_start (by decide) (Nat.le_of_ble_eq_true rfl) ?_
  intro p e s m args below meth c ls F _ hB hl
  obtain ⟨hx, hb, hr, hlocks, hml, hown, hts⟩ := F
  obtain ⟨hP, hK⟩ := hB
  have hown : s.vm.findClass RX4 = some m.cls := hown
  have hl : lv_has ls 8 [(0, .ref (a 4)), (1, .int (nI 4)), (2, .int (nI v)), (3, .int (nI w)), (4, .int (nI n))] := hl
  have hm1 := (hok9 v hv).1
  have hm4 := (hok9 v hv).2.1
  have hmod : n % b v 0 < b v 0 := Nat.mod_lt _ hm1
  refine lv_aload_n hx hb dX4_dripBy_0 rfl (lv_at hl 0 rfl) ?_
  refine lv_iload_n hx hb dX4_dripBy_1 rfl (lv_at hl 2 rfl) ?_
  refine ro_iV (n := 1) (As := [.int (nI v)]) ⟨hx, hb, hml, hown, hts⟩ (c_X4_lengthOf l D a cI cT cN B L b hS v hv) (cwV 1 hts (gV mg_307 mg_272 mg_273 mg_4 mg_274) rfl rfl rfl vd_X4_lengthOf ⟨Nat.le_of_ble_eq_true rfl, Nat.le_of_ble_eq_true rfl⟩) (va_recv hK hP (ci := 4) (q0 := 0) rfl rfl) hK hP rfl hl.1 rfl (Nat.le_of_ble_eq_true rfl) dX4_dripBy_2 ⟨Nat.zero_le _, Nat.zero_le _⟩ ?_
  refine lv_istore (lv' := [(5, .int (nI (b v 0))), (0, .ref (a 4)), (1, .int (nI 4)), (2, .int (nI v)), (3, .int (nI w)), (4, .int (nI n))]) hx hb dX4_dripBy_5 hl (by decide) rfl (fun ls hl => ?_)
  refine lv_iload hx hb dX4_dripBy_7 (lv_at hl 0 rfl) ?_
  refine lv_iconst (v := nI 1) hx hb dX4_dripBy_9 (by decide) ?_
  refine j_icmp_lt (tgt := 18) hx hb dX4_dripBy_10 (by decide) (nI_toInt (by omega)) (nI_toInt (by decide)) (fun c_1 => absurd c_1 (by omega)) (fun c_1 => ?_)
  refine lv_iload hx hb dX4_dripBy_13 (lv_at hl 5 rfl) ?_
  refine j_if_ge (tgt := 20) hx hb dX4_dripBy_15 (by decide) (nI_toInt (by omega)) (fun c_2 => ?_) (fun c_2 => absurd c_2 (by omega))
  refine lv_iload hx hb dX4_dripBy_20 (lv_at hl 5 rfl) ?_
  refine lv_iload hx hb dX4_dripBy_22 (lv_at hl 0 rfl) ?_
  refine n_irem hx hb dX4_dripBy_24 (by omega) (by omega) (by omega) ?_
  refine lv_istore (lv' := [(6, .int (nI (n % (b v 0)))), (5, .int (nI (b v 0))), (0, .ref (a 4)), (1, .int (nI 4)), (2, .int (nI v)), (3, .int (nI w)), (4, .int (nI n))]) hx hb dX4_dripBy_25 hl (by decide) rfl (fun ls hl => ?_)
  refine lv_iload hx hb dX4_dripBy_27 (lv_at hl 1 rfl) ?_
  refine lv_iconst (v := nI 1) hx hb dX4_dripBy_29 (by decide) ?_
  refine n_isub hx hb dX4_dripBy_30 (by omega) ?_
  refine lv_iload hx hb dX4_dripBy_31 (lv_at hl 0 rfl) ?_
  refine n_isub hx hb dX4_dripBy_33 (by omega) ?_
  refine lv_istore (lv' := [(7, .int (nI (((b v 0) - 1) - (n % (b v 0))))), (6, .int (nI (n % (b v 0)))), (5, .int (nI (b v 0))), (0, .ref (a 4)), (1, .int (nI 4)), (2, .int (nI v)), (3, .int (nI w)), (4, .int (nI n))]) hx hb dX4_dripBy_34 hl (by decide) rfl (fun ls hl => ?_)
  refine lv_iload_n hx hb dX4_dripBy_36 rfl (lv_at hl 4 rfl) ?_
  refine lv_tableIn (off := 82) (tgt := 119) hx hb dX4_dripBy_37 (by rw [show (nI 4).toInt = 4 from by first | decide | (rw [nI_toInt (by decide)]; omega)]; decide) (by rw [show (nI 4).toInt = 4 from by first | decide | (rw [nI_toInt (by decide)]; omega)]; decide) (by rw [show (nI 4).toInt = 4 from by first | decide | (rw [nI_toInt (by decide)]; omega)]; rfl) (by decide) ?_
  refine lv_aload_n hx hb dX4_dripBy_119 rfl (lv_at hl 3 rfl) ?_
  refine lv_iload_n hx hb dX4_dripBy_120 rfl (lv_at hl 5 rfl) ?_
  refine lv_iload hx hb dX4_dripBy_121 (lv_at hl 0 rfl) ?_
  refine ro_iV (n := 2) (As := [.int (nI v), .int (nI (((b v 0) - 1) - (n % (b v 0))))]) ⟨hx, hb, hml, hown, hts⟩ (c_X4_beatOf l D a cI cT cN B L v (((b v 0) - 1) - (n % (b v 0))) hv (by omega)) (cwV 2 hts (gV mg_308 mg_276 mg_277 mg_4 mg_278) rfl rfl rfl vd_X4_beatOf ⟨Nat.le_of_ble_eq_true rfl, Nat.le_of_ble_eq_true rfl⟩) (va_recv hK hP (ci := 4) (q0 := 0) rfl rfl) hK hP rfl hl.1 rfl (Nat.le_of_ble_eq_true rfl) dX4_dripBy_123 ⟨Nat.zero_le _, Nat.zero_le _⟩ ?_
  refine n_top (SR_beat hS hok9 hv (by omega)) ?_
  refine lv_iconst (v := nI 1) hx hb dX4_dripBy_126 (by decide) ?_
  refine n_ixor hx hb dX4_dripBy_127 ?_
  refine lv_iload_n hx hb dX4_dripBy_128 rfl (lv_at hl 6 rfl) ?_
  refine n_ixor hx hb dX4_dripBy_129 ?_
  exact ro_iret hx hb hr hlocks (congrArg nI (sd_k4 hok9 hv hw)) dX4_dripBy_130

theorem c_X4_dripBy (l : Launch) (D : va_G) (a : Nat → Nat) (cI cT cN : ClassId) (B L : Nat → Int32) (b : Nat → Nat → Nat) (hS : SR b B L) (hok9 : hok b) (kd v w n : Nat) (hk : kd < 5) (hv : v < 4) (hw : w ≤ 1) (hn : n < 2 ^ 31) : ROi l yX4_dripBy (wA yX4_dripBy cX4_dripBy 8 (some .int)) ({ frames := 1, cells := 0, slots := 0, locals := 23 }) D (cTys cI cT cN) (sW a cI B L) [.ref (a 4), .int (nI kd), .int (nI v), .int (nI w), .int (nI n)] (nI (sd b kd w v n)) := by
  match kd, hk with
  | 0, _ => exact c_X4_dripBy0 l D a cI cT cN B L b hS hok9 v w n hv hw hn
  | 1, _ => exact c_X4_dripBy1 l D a cI cT cN B L b hS hok9 v w n hv hw hn
  | 2, _ => exact c_X4_dripBy2 l D a cI cT cN B L b hS hok9 v w n hv hw hn
  | 3, _ => exact c_X4_dripBy3 l D a cI cT cN B L b hS hok9 v w n hv hw hn
  | 4, _ => exact c_X4_dripBy4 l D a cI cT cN B L b hS hok9 v w n hv hw hn
end
section
abbrev upR (t : Nat → Nat → Nat) (i : Nat) (f : Nat → Nat) : Nat → Nat → Nat := fun x => if x = i then f else t x
abbrev rw4 (a b c d : Nat) : Nat → Nat := fun y => if y = 0 then a else if y = 1 then b else if y = 2 then c else d
theorem rW_setT {r : Nat → Nat} {cT cN : ClassId} {q : RS} {i : Nat} (h : i < 5) (f : Nat → Nat) : (rW r cT cN q).set (3 + i) (r (3 + i), .inr (5, [.int (nI i), .int (nI (f 0)), .int (nI (f 1)), .int (nI (f 2)), .int (nI (f 3))])) = rW r cT cN (q.1, q.2.1, q.2.2.1, upR q.2.2.2.1 i f, q.2.2.2.2) := by
  match i, h with
  | 0, _ => rfl
  | 1, _ => rfl
  | 2, _ => rfl
  | 3, _ => rfl
  | 4, _ => rfl
theorem rW_setN {r : Nat → Nat} {cT cN : ClassId} {q : RS} {i : Nat} (h : i < 8) (f : Nat → Nat) : (rW r cT cN q).set (8 + i) (r (8 + i), .inr (0, [.int (nI (f 0)), .int (nI (f 1)), .int (nI (f 2)), .int (nI (f 3))])) = rW r cT cN (q.1, q.2.1, q.2.2.1, q.2.2.2.1, upR q.2.2.2.2 i f) := by
  match i, h with
  | 0, _ => rfl
  | 1, _ => rfl
  | 2, _ => rfl
  | 3, _ => rfl
  | 4, _ => rfl
  | 5, _ => rfl
  | 6, _ => rfl
  | 7, _ => rfl
theorem cW_setT {a r k : Nat → Nat} {cI cT cN : ClassId} {hh hi hr pn : Nat} {pc : Nat → Int32} {rd : Nat × Nat × Nat} {B L : Nat → Int32} {q kq : RS} {i : Nat} (h : i < 5) (f : Nat → Nat) : (cW a r k cI cT cN hh hi hr pn pc rd B L q kq).set (10 + i) (r (3 + i), .inr (5, [.int (nI i), .int (nI (f 0)), .int (nI (f 1)), .int (nI (f 2)), .int (nI (f 3))])) = cW a r k cI cT cN hh hi hr pn pc rd B L (q.1, q.2.1, q.2.2.1, upR q.2.2.2.1 i f, q.2.2.2.2) kq := by
  match i, h with
  | 0, _ => rfl
  | 1, _ => rfl
  | 2, _ => rfl
  | 3, _ => rfl
  | 4, _ => rfl
section FRS
variable {p : Program} {l : Launch} {e : Env} {R : Room} {s : State} {m : MethodId} {args : Array Value} {below : List Frame} {meth : Method} {c : Code} {H : Heap} {locs : List Loc} {cells slots : Nat} {Q : State → Prop}
variable {cc : ByteArray} {pc : Nat} {ls : Array Slot} {rest st : List Value} {D : va_G} {tys : List (ClassId × FieldType)} {ws X Y : va_W} {Ts cw : List Cond} {own C : String} {y : MethodName} {bytes : ByteArray} {maxL index n nL : Nat} {ret : Option FieldType} {rm : Room} {b : Nat} {As : List Value} {A0 : Nat → Prop} {H0 : Heap}
theorem fr_split {w : va_W} {k : Nat} {x : Nat × va_E} (h : w[k]? = some x) : w = w.take k ++ ([x] ++ w.drop (k + 1)) := by
  have hk := (List.getElem?_eq_some_iff.mp h).1
  have hx := (List.getElem?_eq_some_iff.mp h).2
  have := List.set_eq_take_append_cons_drop (l := w) (i := k) (a := x)
  rw [if_pos hk] at this
  rw [← hx] at this ⊢
  rw [List.set_getElem_self] at this
  exact this
/-- a call of a method that writes one cell, wherever it stands -/
theorem rw_vV1 {S : Type} {post : S → Prop} {e0 : va_E} {e1 : S → va_E} {w : va_W} (k0 : Nat) (he : w[k0]? = some (b, e0)) (hS9 : CallFix p m c cc nL s args Ts own) (hM : WV l y cw rm D tys [(b, e0)] H.size (.ref b :: As) post (fun u => [(b, e1 u)])) (hc : CallW R s args own C index y bytes maxL ret cw rm 0 0 n) (hrecv : ∃ cellB : Cell, H[b]? = some cellB ∧ cellB.vm.isStatics = false ∧ s.vm.findClass C = some cellB.cls) (hK : va_K D vwCl tys s) (hP : va_P D vwCl w H) (hD : va_D A0 w) (hS : va_S A0 H0 H locs) (hA : ∀ q, H0.size ≤ q → A0 q) (hn : As.length = n) (hsize : ls.size = nL) (hst : st = As.reverse ++ .ref b :: rest) (hW : (rest.map fun v => v.category).sum ≤ 8) (hdg : decode cc pc = .ok (.invokevirtual index, 3)) (hf : cells ≤ R.cells ∧ slots ≤ R.slots) (k : ∀ (u : S) (H1 : Heap) (locs1 : List Loc), post u → va_P D vwCl (w.set k0 (b, e1 u)) H1 → va_D A0 (w.set k0 (b, e1 u)) → va_S A0 H0 H1 locs1 → W p l e R s m args below meth c H1 locs1 cells slots Q (F0 m (pc + 3) ls rest)) : W p l e R s m args below meth c H locs cells slots Q (F0 m pc ls st) := by
  have hs := fr_split he
  have hk := (List.getElem?_eq_some_iff.mp he).1
  have h2 : ∀ x : Nat × va_E, w.set k0 x = w.take k0 ++ ([x] ++ w.drop (k0 + 1)) := fun x => by
    rw [List.set_eq_take_append_cons_drop, if_pos hk]; rfl
  refine rw_vV (X := w.take k0) (Y := w.drop (k0 + 1)) hS9 hM hc hrecv hK (by rw [← hs]; exact hP) (by rw [← hs]; exact hD) hS hA hn hsize hst hW hdg hf (fun u H1 l1 hp hP1 hD1 hS1 => k u H1 l1 hp (by rw [h2]; exact hP1) (by rw [h2]; exact hD1) hS1)
end FRS
end
section
set_option maxHeartbeats 4000000 in
set_option maxRecDepth 100000 in
theorem c_X5_become (l : Launch) (D : va_G) (cI cT cN : ClassId) (sz h : Nat) (nm : Int32) (x0 x1 x2 x3 y0 y1 y2 y3 : Int32) : WV l yX5_become (wA yX5_become cX5_become 5 none) ({ frames := 0, cells := 0, slots := 0, locals := 0 }) D (cTys cI cT cN) [((h : Nat), (.inr (5, [.int nm, .int x0, .int x1, .int x2, .int x3]) : va_E))] sz [.ref h, .int y0, .int y1, .int y2, .int y3] (fun _ : Unit => True) (fun _ : Unit => [((h : Nat), (.inr (5, [.int nm, .int y0, .int y1, .int y2, .int y3]) : va_E))]) := by
  refine rw_startV (by decide) (Nat.le_of_ble_eq_true rfl) ?_
  intro p e s m args below meth c ls A F hP hK hD hA hS hl
  obtain ⟨hx, hb, hr, hlocks, hml, hown, hts⟩ := F
  have hown : s.vm.findClass RX5 = some m.cls := hown
  have hl : lv_has ls 5 [(0, .ref h), (1, .int y0), (2, .int y1), (3, .int y2), (4, .int y3)] := hl
  refine lv_aload_n hx hb dX5_become_0 rfl (lv_at hl 0 rfl) ?_
  refine lv_iload_n hx hb dX5_become_1 rfl (lv_at hl 1 rfl) ?_
  refine va_put (D := D) (ci := 5) (v := .int y0) (ty := .int) (C := RX5) (T := TX5) (N := 5) hx hb hts iX5 tyX5 tyX5_ok nmX5 hown hK hP hD hS 0 rfl rfl 1 (by decide) (hts _ mg_81) (fun _ h9 => h9) rfl (tyX5_ok 1 (by decide)) rfl rfl (Nat.le_of_ble_eq_true rfl) dX5_become_2 (fun H locs hP hD hS => ?_)
  have hP : va_P D vwCl ([((h : Nat), (.inr (5, [.int nm, .int y0, .int x1, .int x2, .int x3]) : va_E))]) H := hP
  have hD : va_D A ([((h : Nat), (.inr (5, [.int nm, .int y0, .int x1, .int x2, .int x3]) : va_E))]) := hD
  refine lv_aload_n hx hb dX5_become_5 rfl (lv_at hl 0 rfl) ?_
  refine lv_iload_n hx hb dX5_become_6 rfl (lv_at hl 2 rfl) ?_
  refine va_put (D := D) (ci := 5) (v := .int y1) (ty := .int) (C := RX5) (T := TX5) (N := 5) hx hb hts iX5 tyX5 tyX5_ok nmX5 hown hK hP hD hS 0 rfl rfl 2 (by decide) (hts _ mg_84) (fun _ h9 => h9) rfl (tyX5_ok 2 (by decide)) rfl rfl (Nat.le_of_ble_eq_true rfl) dX5_become_7 (fun H locs hP hD hS => ?_)
  have hP : va_P D vwCl ([((h : Nat), (.inr (5, [.int nm, .int y0, .int y1, .int x2, .int x3]) : va_E))]) H := hP
  have hD : va_D A ([((h : Nat), (.inr (5, [.int nm, .int y0, .int y1, .int x2, .int x3]) : va_E))]) := hD
  refine lv_aload_n hx hb dX5_become_10 rfl (lv_at hl 0 rfl) ?_
  refine lv_iload_n hx hb dX5_become_11 rfl (lv_at hl 3 rfl) ?_
  refine va_put (D := D) (ci := 5) (v := .int y2) (ty := .int) (C := RX5) (T := TX5) (N := 5) hx hb hts iX5 tyX5 tyX5_ok nmX5 hown hK hP hD hS 0 rfl rfl 3 (by decide) (hts _ mg_87) (fun _ h9 => h9) rfl (tyX5_ok 3 (by decide)) rfl rfl (Nat.le_of_ble_eq_true rfl) dX5_become_12 (fun H locs hP hD hS => ?_)
  have hP : va_P D vwCl ([((h : Nat), (.inr (5, [.int nm, .int y0, .int y1, .int y2, .int x3]) : va_E))]) H := hP
  have hD : va_D A ([((h : Nat), (.inr (5, [.int nm, .int y0, .int y1, .int y2, .int x3]) : va_E))]) := hD
  refine lv_aload_n hx hb dX5_become_15 rfl (lv_at hl 0 rfl) ?_
  refine lv_iload hx hb dX5_become_16 (lv_at hl 4 rfl) ?_
  refine va_put (D := D) (ci := 5) (v := .int y3) (ty := .int) (C := RX5) (T := TX5) (N := 5) hx hb hts iX5 tyX5 tyX5_ok nmX5 hown hK hP hD hS 0 rfl rfl 4 (by decide) (hts _ mg_90) (fun _ h9 => h9) rfl (tyX5_ok 4 (by decide)) rfl rfl (Nat.le_of_ble_eq_true rfl) dX5_become_18 (fun H locs hP hD hS => ?_)
  have hP : va_P D vwCl ([((h : Nat), (.inr (5, [.int nm, .int y0, .int y1, .int y2, .int y3]) : va_E))]) H := hP
  have hD : va_D A ([((h : Nat), (.inr (5, [.int nm, .int y0, .int y1, .int y2, .int y3]) : va_E))]) := hD
  exact rw_vret (wp := (fun _ : Unit => [((h : Nat), (.inr (5, [.int nm, .int y0, .int y1, .int y2, .int y3]) : va_E))])) (post := (fun _ : Unit => True)) () hx hb hr hlocks hK hP hD hS (rfl) (trivial) dX5_become_21

set_option maxHeartbeats 4000000 in
set_option maxRecDepth 100000 in
theorem c_X0_become (l : Launch) (D : va_G) (cI cT cN : ClassId) (sz h : Nat) (x0 x1 x2 x3 y0 y1 y2 y3 : Int32) : WV l yX0_become (wA yX0_become cX0_become 5 none) ({ frames := 0, cells := 0, slots := 0, locals := 0 }) D (cTys cI cT cN) [((h : Nat), (.inr (0, [.int x0, .int x1, .int x2, .int x3]) : va_E))] sz [.ref h, .int y0, .int y1, .int y2, .int y3] (fun _ : Unit => True) (fun _ : Unit => [((h : Nat), (.inr (0, [.int y0, .int y1, .int y2, .int y3]) : va_E))]) := by
  refine rw_startV (by decide) (Nat.le_of_ble_eq_true rfl) ?_
  intro p e s m args below meth c ls A F hP hK hD hA hS hl
  obtain ⟨hx, hb, hr, hlocks, hml, hown, hts⟩ := F
  have hown : s.vm.findClass RX0 = some m.cls := hown
  have hl : lv_has ls 5 [(0, .ref h), (1, .int y0), (2, .int y1), (3, .int y2), (4, .int y3)] := hl
  refine lv_aload_n hx hb dX0_become_0 rfl (lv_at hl 0 rfl) ?_
  refine lv_iload_n hx hb dX0_become_1 rfl (lv_at hl 1 rfl) ?_
  refine va_put (D := D) (ci := 0) (v := .int y0) (ty := .int) (C := RX0) (T := TX0) (N := 4) hx hb hts iX0 tyX0 tyX0_ok nmX0 hown hK hP hD hS 0 rfl rfl 0 (by decide) (hts _ mg_111) (fun _ h9 => h9) rfl (tyX0_ok 0 (by decide)) rfl rfl (Nat.le_of_ble_eq_true rfl) dX0_become_2 (fun H locs hP hD hS => ?_)
  have hP : va_P D vwCl ([((h : Nat), (.inr (0, [.int y0, .int x1, .int x2, .int x3]) : va_E))]) H := hP
  have hD : va_D A ([((h : Nat), (.inr (0, [.int y0, .int x1, .int x2, .int x3]) : va_E))]) := hD
  refine lv_aload_n hx hb dX0_become_5 rfl (lv_at hl 0 rfl) ?_
  refine lv_iload_n hx hb dX0_become_6 rfl (lv_at hl 2 rfl) ?_
  refine va_put (D := D) (ci := 0) (v := .int y1) (ty := .int) (C := RX0) (T := TX0) (N := 4) hx hb hts iX0 tyX0 tyX0_ok nmX0 hown hK hP hD hS 0 rfl rfl 1 (by decide) (hts _ mg_114) (fun _ h9 => h9) rfl (tyX0_ok 1 (by decide)) rfl rfl (Nat.le_of_ble_eq_true rfl) dX0_become_7 (fun H locs hP hD hS => ?_)
  have hP : va_P D vwCl ([((h : Nat), (.inr (0, [.int y0, .int y1, .int x2, .int x3]) : va_E))]) H := hP
  have hD : va_D A ([((h : Nat), (.inr (0, [.int y0, .int y1, .int x2, .int x3]) : va_E))]) := hD
  refine lv_aload_n hx hb dX0_become_10 rfl (lv_at hl 0 rfl) ?_
  refine lv_iload_n hx hb dX0_become_11 rfl (lv_at hl 3 rfl) ?_
  refine va_put (D := D) (ci := 0) (v := .int y2) (ty := .int) (C := RX0) (T := TX0) (N := 4) hx hb hts iX0 tyX0 tyX0_ok nmX0 hown hK hP hD hS 0 rfl rfl 2 (by decide) (hts _ mg_117) (fun _ h9 => h9) rfl (tyX0_ok 2 (by decide)) rfl rfl (Nat.le_of_ble_eq_true rfl) dX0_become_12 (fun H locs hP hD hS => ?_)
  have hP : va_P D vwCl ([((h : Nat), (.inr (0, [.int y0, .int y1, .int y2, .int x3]) : va_E))]) H := hP
  have hD : va_D A ([((h : Nat), (.inr (0, [.int y0, .int y1, .int y2, .int x3]) : va_E))]) := hD
  refine lv_aload_n hx hb dX0_become_15 rfl (lv_at hl 0 rfl) ?_
  refine lv_iload hx hb dX0_become_16 (lv_at hl 4 rfl) ?_
  refine va_put (D := D) (ci := 0) (v := .int y3) (ty := .int) (C := RX0) (T := TX0) (N := 4) hx hb hts iX0 tyX0 tyX0_ok nmX0 hown hK hP hD hS 0 rfl rfl 3 (by decide) (hts _ mg_120) (fun _ h9 => h9) rfl (tyX0_ok 3 (by decide)) rfl rfl (Nat.le_of_ble_eq_true rfl) dX0_become_18 (fun H locs hP hD hS => ?_)
  have hP : va_P D vwCl ([((h : Nat), (.inr (0, [.int y0, .int y1, .int y2, .int y3]) : va_E))]) H := hP
  have hD : va_D A ([((h : Nat), (.inr (0, [.int y0, .int y1, .int y2, .int y3]) : va_E))]) := hD
  exact rw_vret (wp := (fun _ : Unit => [((h : Nat), (.inr (0, [.int y0, .int y1, .int y2, .int y3]) : va_E))])) (post := (fun _ : Unit => True)) () hx hb hr hlocks hK hP hD hS (rfl) (trivial) dX0_become_21

set_option maxHeartbeats 4000000 in
set_option maxRecDepth 100000 in
theorem c_X3_tapAt (l : Launch) (D : va_G) (r : Nat → Nat) (cI cT cN : ClassId) (q : RS) (i : Nat) (hi : i < q.1) (h5 : q.1 ≤ 5) : ROq l yX3_tapAt (wA yX3_tapAt cX3_tapAt 2 (Option.some (FieldType.object "DripSayings$Tap"))) ({ frames := 0, cells := 0, slots := 0, locals := 0 }) D (cTys cI cT cN) (rW r cT cN q) [.ref (r 0), .int (nI i)] (some (r (3 + i))) := by
  refine go_start (by decide) (Nat.le_of_ble_eq_true rfl) ?_
  intro p e s m args below meth c ls F _ hB hl
  obtain ⟨hx, hb, hr, hlocks, hml, hown, hts⟩ := F
  obtain ⟨hP, hK⟩ := hB
  have hown : s.vm.findClass RX3 = some m.cls := hown
  have hl : lv_has ls 2 [(0, .ref (r 0)), (1, .int (nI i))] := hl
  refine lv_iload_n hx hb dX3_tapAt_0 rfl (lv_at hl 1 rfl) ?_
  refine j_if_lt (tgt := 30) hx hb dX3_tapAt_1 (by decide) (nI_toInt (by omega)) (fun c_1 => absurd c_1 (by omega)) (fun c_1 => ?_)
  refine lv_iload_n hx hb dX3_tapAt_4 rfl (lv_at hl 1 rfl) ?_
  refine lv_aload_n hx hb dX3_tapAt_5 rfl (lv_at hl 0 rfl) ?_
  refine va_get (D := D) (ci := 3) (v := .int (nI q.1)) (C := RX3) (T := TX3) (N := 5) hx hb hts iX3 hown hK hP 0 rfl rfl 2 (by decide) (hts _ mg_134) (fun _ h9 => h9) rfl dX3_tapAt_6 ?_
  refine j_icmp_ge (tgt := 30) hx hb dX3_tapAt_9 (by decide) (nI_toInt (by omega)) (nI_toInt (by omega)) (fun c_2 => absurd c_2 (by omega)) (fun c_2 => ?_)
  refine lv_iload_n hx hb dX3_tapAt_12 rfl (lv_at hl 1 rfl) ?_
  refine lv_aload_n hx hb dX3_tapAt_13 rfl (lv_at hl 0 rfl) ?_
  refine va_get (D := D) (ci := 3) (v := .ref (r 1)) (C := RX3) (T := TX3) (N := 5) hx hb hts iX3 hown hK hP 0 rfl rfl 0 (by decide) (hts _ mg_132) (fun _ h9 => h9) rfl dX3_tapAt_14 ?_
  refine va_alen (v := nI 5) hx hb hK hP 1 1 rfl rfl rfl dX3_tapAt_17 ?_
  refine j_icmp_ge (tgt := 30) hx hb dX3_tapAt_18 (by decide) (nI_toInt (by omega)) (nI_toInt (by decide)) (fun c_3 => absurd c_3 (by omega)) (fun c_3 => ?_)
  refine lv_aload_n hx hb dX3_tapAt_21 rfl (lv_at hl 0 rfl) ?_
  refine va_get (D := D) (ci := 3) (v := .ref (r 1)) (C := RX3) (T := TX3) (N := 5) hx hb hts iX3 hown hK hP 0 rfl rfl 0 (by decide) (hts _ mg_132) (fun _ h9 => h9) rfl dX3_tapAt_22 ?_
  refine lv_iload_n hx hb dX3_tapAt_25 rfl (lv_at hl 1 rfl) ?_
  refine n_aldq hx hb hK hP 1 1 rfl rfl (by omega) (by decide) (v := .ref (r (3 + i))) (rfl) dX3_tapAt_26 ?_
  refine lv_goto (tgt := 31) hx hb dX3_tapAt_27 (by decide) ?_
  exact ro_aret hx hb hr hlocks (rfl) dX3_tapAt_31

set_option maxHeartbeats 4000000 in
set_option maxRecDepth 100000 in
theorem c_X3_tapOut (l : Launch) (D : va_G) (r : Nat → Nat) (cI cT cN : ClassId) (q : RS) (x : Int32) (hx9 : x.toInt < 0 ∨ (q.1 : Int) ≤ x.toInt) (h5 : q.1 ≤ 5) : ROq l yX3_tapAt (wA yX3_tapAt cX3_tapAt 2 (Option.some (FieldType.object "DripSayings$Tap"))) ({ frames := 0, cells := 0, slots := 0, locals := 0 }) D (cTys cI cT cN) (rW r cT cN q) [.ref (r 0), .int x] none := by
  refine go_start (by decide) (Nat.le_of_ble_eq_true rfl) ?_
  intro p e s m args below meth c ls F _ hB hl
  obtain ⟨hx, hb, hr, hlocks, hml, hown, hts⟩ := F
  obtain ⟨hP, hK⟩ := hB
  have hown : s.vm.findClass RX3 = some m.cls := hown
  have hl : lv_has ls 2 [(0, .ref (r 0)), (1, .int x)] := hl
  refine lv_iload_n hx hb dX3_tapAt_0 rfl (lv_at hl 1 rfl) ?_
  refine j_if_lt (tgt := 30) hx hb dX3_tapAt_1 (by decide) rfl (fun c_1 => ?_) (fun c_1 => ?_)
  · refine lv_null hx hb dX3_tapAt_30 ?_
    exact ro_aret hx hb hr hlocks (rfl) dX3_tapAt_31
  · refine lv_iload_n hx hb dX3_tapAt_4 rfl (lv_at hl 1 rfl) ?_
    refine lv_aload_n hx hb dX3_tapAt_5 rfl (lv_at hl 0 rfl) ?_
    refine va_get (D := D) (ci := 3) (v := .int (nI q.1)) (C := RX3) (T := TX3) (N := 5) hx hb hts iX3 hown hK hP 0 rfl rfl 2 (by decide) (hts _ mg_134) (fun _ h9 => h9) rfl dX3_tapAt_6 ?_
    refine j_icmp_ge (tgt := 30) hx hb dX3_tapAt_9 (by decide) rfl (nI_toInt (by omega)) (fun c_2 => ?_) (fun c_2 => absurd c_2 (by omega))
    refine lv_null hx hb dX3_tapAt_30 ?_
    exact ro_aret hx hb hr hlocks (rfl) dX3_tapAt_31

set_option maxHeartbeats 4000000 in
set_option maxRecDepth 100000 in
theorem c_X3_noteAt (l : Launch) (D : va_G) (r : Nat → Nat) (cI cT cN : ClassId) (q : RS) (i : Nat) (hi : i < q.2.1) (h5 : q.2.1 ≤ 8) : ROq l yX3_noteAt (wA yX3_noteAt cX3_noteAt 2 (Option.some (FieldType.object "DripSayings$Note"))) ({ frames := 0, cells := 0, slots := 0, locals := 0 }) D (cTys cI cT cN) (rW r cT cN q) [.ref (r 0), .int (nI i)] (some (r (8 + i))) := by
  refine go_start (by decide) (Nat.le_of_ble_eq_true rfl) ?_
  intro p e s m args below meth c ls F _ hB hl
  obtain ⟨hx, hb, hr, hlocks, hml, hown, hts⟩ := F
  obtain ⟨hP, hK⟩ := hB
  have hown : s.vm.findClass RX3 = some m.cls := hown
  have hl : lv_has ls 2 [(0, .ref (r 0)), (1, .int (nI i))] := hl
  refine lv_iload_n hx hb dX3_noteAt_0 rfl (lv_at hl 1 rfl) ?_
  refine j_if_lt (tgt := 30) hx hb dX3_noteAt_1 (by decide) (nI_toInt (by omega)) (fun c_1 => absurd c_1 (by omega)) (fun c_1 => ?_)
  refine lv_iload_n hx hb dX3_noteAt_4 rfl (lv_at hl 1 rfl) ?_
  refine lv_aload_n hx hb dX3_noteAt_5 rfl (lv_at hl 0 rfl) ?_
  refine va_get (D := D) (ci := 3) (v := .int (nI q.2.1)) (C := RX3) (T := TX3) (N := 5) hx hb hts iX3 hown hK hP 0 rfl rfl 3 (by decide) (hts _ mg_136) (fun _ h9 => h9) rfl dX3_noteAt_6 ?_
  refine j_icmp_ge (tgt := 30) hx hb dX3_noteAt_9 (by decide) (nI_toInt (by omega)) (nI_toInt (by omega)) (fun c_2 => absurd c_2 (by omega)) (fun c_2 => ?_)
  refine lv_iload_n hx hb dX3_noteAt_12 rfl (lv_at hl 1 rfl) ?_
  refine lv_aload_n hx hb dX3_noteAt_13 rfl (lv_at hl 0 rfl) ?_
  refine va_get (D := D) (ci := 3) (v := .ref (r 2)) (C := RX3) (T := TX3) (N := 5) hx hb hts iX3 hown hK hP 0 rfl rfl 1 (by decide) (hts _ mg_133) (fun _ h9 => h9) rfl dX3_noteAt_14 ?_
  refine va_alen (v := nI 8) hx hb hK hP 2 2 rfl rfl rfl dX3_noteAt_17 ?_
  refine j_icmp_ge (tgt := 30) hx hb dX3_noteAt_18 (by decide) (nI_toInt (by omega)) (nI_toInt (by decide)) (fun c_3 => absurd c_3 (by omega)) (fun c_3 => ?_)
  refine lv_aload_n hx hb dX3_noteAt_21 rfl (lv_at hl 0 rfl) ?_
  refine va_get (D := D) (ci := 3) (v := .ref (r 2)) (C := RX3) (T := TX3) (N := 5) hx hb hts iX3 hown hK hP 0 rfl rfl 1 (by decide) (hts _ mg_133) (fun _ h9 => h9) rfl dX3_noteAt_22 ?_
  refine lv_iload_n hx hb dX3_noteAt_25 rfl (lv_at hl 1 rfl) ?_
  refine n_aldq hx hb hK hP 2 2 rfl rfl (by omega) (by decide) (v := .ref (r (8 + i))) (rfl) dX3_noteAt_26 ?_
  refine lv_goto (tgt := 31) hx hb dX3_noteAt_27 (by decide) ?_
  exact ro_aret hx hb hr hlocks (rfl) dX3_noteAt_31

set_option maxHeartbeats 4000000 in
set_option maxRecDepth 100000 in
theorem c_X3_washerCount (l : Launch) (D : va_G) (r : Nat → Nat) (cI cT cN : ClassId) (q : RS) (h5 : q.1 ≤ 5) : ROi l yX3_washerCount (wA yX3_washerCount cX3_washerCount 4 (some .int)) ({ frames := 1, cells := 0, slots := 0, locals := 21 }) D (cTys cI cT cN) (rW r cT cN q) [.ref (r 0)] (nI (smu (fun i => q.2.2.2.1 i 2) q.1)) := by
  refine go_start (by decide) (Nat.le_of_ble_eq_true rfl) ?_
  intro p e s m args below meth c ls F _ hB hl
  obtain ⟨hx, hb, hr, hlocks, hml, hown, hts⟩ := F
  obtain ⟨hP, hK⟩ := hB
  have hown : s.vm.findClass RX3 = some m.cls := hown
  have hl : lv_has ls 4 [(0, .ref (r 0))] := hl
  refine lv_iconst (v := nI 0) hx hb dX3_washerCount_0 (by decide) ?_
  refine lv_istore_n (lv' := [(1, .int (nI 0)), (0, .ref (r 0))]) hx hb dX3_washerCount_1 rfl hl (by decide) rfl (fun ls hl => ?_)
  refine lv_iconst (v := nI 0) hx hb dX3_washerCount_2 (by decide) ?_
  refine lv_istore_n (lv' := [(2, .int (nI 0)), (1, .int (nI 0)), (0, .ref (r 0))]) hx hb dX3_washerCount_3 rfl hl (by decide) rfl (fun ls hl => ?_)
  have K_1 : ∀ n9 : Nat, ∀ (t : Nat) (i : Nat), i ≤ q.1 → t = smu (fun i => q.2.2.2.1 i 2) i → q.1 - i < n9 → ∀ ls : Array Slot, lv_has ls 4 [(0, .ref (r 0)), (1, .int (nI t)), (2, .int (nI i))] → W p l e (headSpec (wA yX3_washerCount cX3_washerCount 4 (some .int)) ({ frames := 1, cells := 0, slots := 0, locals := 21 })).room s m args below meth c s.heap [] 0 0 (MQ below (vp_Si (fun x => x = nI (smu (fun i => q.2.2.2.1 i 2) q.1))) args s 0 0 (fun _ => False)) (F0 m 4 ls []) := by
    intro n9
    induction n9 with
    | zero => intros; omega
    | succ n9 ih_2 =>
      intro t i hi ht hn9 ls hl
      refine lv_iload_n hx hb dX3_washerCount_4 rfl (lv_at hl 2 rfl) ?_
      refine lv_aload_n hx hb dX3_washerCount_5 rfl (lv_at hl 0 rfl) ?_
      refine va_get (D := D) (ci := 3) (v := .int (nI q.1)) (C := RX3) (T := TX3) (N := 5) hx hb hts iX3 hown hK hP 0 rfl rfl 2 (by decide) (hts _ mg_134) (fun _ h9 => h9) rfl dX3_washerCount_6 ?_
      refine j_icmp_ge (tgt := 35) hx hb dX3_washerCount_9 (by decide) (nI_toInt (by omega)) (nI_toInt (by omega)) (fun c_3 => ?_) (fun c_3 => ?_)
      · refine lv_iload_n hx hb dX3_washerCount_35 rfl (lv_at hl 1 rfl) ?_
        exact ro_iret hx hb hr hlocks (by rw [ht, show i = q.1 by omega]) dX3_washerCount_36
      · refine lv_aload_n hx hb dX3_washerCount_12 rfl (lv_at hl 0 rfl) ?_
        refine lv_iload_n hx hb dX3_washerCount_13 rfl (lv_at hl 2 rfl) ?_
        refine ro_qV (n := 1) (As := [.int (nI i)]) ⟨hx, hb, hml, hown, hts⟩ (c_X3_tapAt l D r cI cT cN q i (by omega) h5) (cwV 1 hts (gV mg_258 mg_259 mg_260 mg_5 mg_261) rfl rfl rfl vd_X3_tapAt ⟨Nat.le_of_ble_eq_true rfl, Nat.le_of_ble_eq_true rfl⟩) (va_recv hK hP (ci := 3) (q0 := 0) rfl rfl) hK hP rfl hl.1 rfl (Nat.le_of_ble_eq_true rfl) dX3_washerCount_14 ⟨Nat.zero_le _, Nat.zero_le _⟩ ?_
        refine lv_astore_n (lv' := [(3, .ref (r (3 + i))), (0, .ref (r 0)), (1, .int (nI t)), (2, .int (nI i))]) hx hb dX3_washerCount_17 rfl hl (by decide) rfl (fun ls hl => ?_)
        refine lv_aload_n hx hb dX3_washerCount_18 rfl (lv_at hl 0 rfl) ?_
        refine lv_ifnull hx hb dX3_washerCount_19 ?_
        refine lv_iload_n hx hb dX3_washerCount_22 rfl (lv_at hl 2 rfl) ?_
        refine lv_aload_n hx hb dX3_washerCount_23 rfl (lv_at hl 0 rfl) ?_
        refine va_get (D := D) (ci := 5) (v := .int (nI (q.2.2.2.1 i 2))) (C := RX5) (T := TX5) (N := 5) hx hb hts iX5 hown hK hP (3 + i) (rW_tap (by omega)) rfl 3 (by decide) (hts _ mg_88) (fun _ h9 => h9) rfl dX3_washerCount_24 ?_
        refine n_iadd hx hb dX3_washerCount_27 ?_
        refine lv_istore_n (lv' := [(1, .int (nI (t + (q.2.2.2.1 i 2)))), (3, .ref (r (3 + i))), (0, .ref (r 0)), (2, .int (nI i))]) hx hb dX3_washerCount_28 rfl hl (by decide) rfl (fun ls hl => ?_)
        refine lv_iinc (v := nI (i + 1)) (lv' := [(2, .int (nI (i + 1))), (1, .int (nI (t + (q.2.2.2.1 i 2)))), (3, .ref (r (3 + i))), (0, .ref (r 0))]) hx hb dX3_washerCount_29 hl (k := 3) rfl (fr_inc1 _) (by decide) rfl (fun ls hl => ?_)
        refine lv_goto (tgt := 4) hx hb dX3_washerCount_32 (by decide) ?_
        exact ih_2 (t + (q.2.2.2.1 i 2)) (i + 1) (by omega) (by rw [ht]; rfl) (by omega) _ (lv_sub hl [3, 1, 0] rfl)
  exact K_1 (q.1 - 0 + 1) 0 0 (by omega) (rfl) (Nat.lt_succ_self _) _ (lv_sub hl [2, 1, 0] rfl)

set_option maxHeartbeats 4000000 in
set_option maxRecDepth 100000 in
theorem c_X3_heardCount (l : Launch) (D : va_G) (r : Nat → Nat) (cI cT cN : ClassId) (q : RS) (h5 : q.1 ≤ 5) : ROi l yX3_heardCount (wA yX3_heardCount cX3_heardCount 4 (some .int)) ({ frames := 1, cells := 0, slots := 0, locals := 21 }) D (cTys cI cT cN) (rW r cT cN q) [.ref (r 0)] (nI (smu (fun i => q.2.2.2.1 i 3) q.1)) := by
  refine go_start (by decide) (Nat.le_of_ble_eq_true rfl) ?_
  intro p e s m args below meth c ls F _ hB hl
  obtain ⟨hx, hb, hr, hlocks, hml, hown, hts⟩ := F
  obtain ⟨hP, hK⟩ := hB
  have hown : s.vm.findClass RX3 = some m.cls := hown
  have hl : lv_has ls 4 [(0, .ref (r 0))] := hl
  refine lv_iconst (v := nI 0) hx hb dX3_heardCount_0 (by decide) ?_
  refine lv_istore_n (lv' := [(1, .int (nI 0)), (0, .ref (r 0))]) hx hb dX3_heardCount_1 rfl hl (by decide) rfl (fun ls hl => ?_)
  refine lv_iconst (v := nI 0) hx hb dX3_heardCount_2 (by decide) ?_
  refine lv_istore_n (lv' := [(2, .int (nI 0)), (1, .int (nI 0)), (0, .ref (r 0))]) hx hb dX3_heardCount_3 rfl hl (by decide) rfl (fun ls hl => ?_)
  have K_1 : ∀ n9 : Nat, ∀ (t : Nat) (i : Nat), i ≤ q.1 → t = smu (fun i => q.2.2.2.1 i 3) i → q.1 - i < n9 → ∀ ls : Array Slot, lv_has ls 4 [(0, .ref (r 0)), (1, .int (nI t)), (2, .int (nI i))] → W p l e (headSpec (wA yX3_heardCount cX3_heardCount 4 (some .int)) ({ frames := 1, cells := 0, slots := 0, locals := 21 })).room s m args below meth c s.heap [] 0 0 (MQ below (vp_Si (fun x => x = nI (smu (fun i => q.2.2.2.1 i 3) q.1))) args s 0 0 (fun _ => False)) (F0 m 4 ls []) := by
    intro n9
    induction n9 with
    | zero => intros; omega
    | succ n9 ih_2 =>
      intro t i hi ht hn9 ls hl
      refine lv_iload_n hx hb dX3_heardCount_4 rfl (lv_at hl 2 rfl) ?_
      refine lv_aload_n hx hb dX3_heardCount_5 rfl (lv_at hl 0 rfl) ?_
      refine va_get (D := D) (ci := 3) (v := .int (nI q.1)) (C := RX3) (T := TX3) (N := 5) hx hb hts iX3 hown hK hP 0 rfl rfl 2 (by decide) (hts _ mg_134) (fun _ h9 => h9) rfl dX3_heardCount_6 ?_
      refine j_icmp_ge (tgt := 35) hx hb dX3_heardCount_9 (by decide) (nI_toInt (by omega)) (nI_toInt (by omega)) (fun c_3 => ?_) (fun c_3 => ?_)
      · refine lv_iload_n hx hb dX3_heardCount_35 rfl (lv_at hl 1 rfl) ?_
        exact ro_iret hx hb hr hlocks (by rw [ht, show i = q.1 by omega]) dX3_heardCount_36
      · refine lv_aload_n hx hb dX3_heardCount_12 rfl (lv_at hl 0 rfl) ?_
        refine lv_iload_n hx hb dX3_heardCount_13 rfl (lv_at hl 2 rfl) ?_
        refine ro_qV (n := 1) (As := [.int (nI i)]) ⟨hx, hb, hml, hown, hts⟩ (c_X3_tapAt l D r cI cT cN q i (by omega) h5) (cwV 1 hts (gV mg_258 mg_259 mg_260 mg_5 mg_261) rfl rfl rfl vd_X3_tapAt ⟨Nat.le_of_ble_eq_true rfl, Nat.le_of_ble_eq_true rfl⟩) (va_recv hK hP (ci := 3) (q0 := 0) rfl rfl) hK hP rfl hl.1 rfl (Nat.le_of_ble_eq_true rfl) dX3_heardCount_14 ⟨Nat.zero_le _, Nat.zero_le _⟩ ?_
        refine lv_astore_n (lv' := [(3, .ref (r (3 + i))), (0, .ref (r 0)), (1, .int (nI t)), (2, .int (nI i))]) hx hb dX3_heardCount_17 rfl hl (by decide) rfl (fun ls hl => ?_)
        refine lv_aload_n hx hb dX3_heardCount_18 rfl (lv_at hl 0 rfl) ?_
        refine lv_ifnull hx hb dX3_heardCount_19 ?_
        refine lv_iload_n hx hb dX3_heardCount_22 rfl (lv_at hl 2 rfl) ?_
        refine lv_aload_n hx hb dX3_heardCount_23 rfl (lv_at hl 0 rfl) ?_
        refine va_get (D := D) (ci := 5) (v := .int (nI (q.2.2.2.1 i 3))) (C := RX5) (T := TX5) (N := 5) hx hb hts iX5 hown hK hP (3 + i) (rW_tap (by omega)) rfl 4 (by decide) (hts _ mg_91) (fun _ h9 => h9) rfl dX3_heardCount_24 ?_
        refine n_iadd hx hb dX3_heardCount_27 ?_
        refine lv_istore_n (lv' := [(1, .int (nI (t + (q.2.2.2.1 i 3)))), (3, .ref (r (3 + i))), (0, .ref (r 0)), (2, .int (nI i))]) hx hb dX3_heardCount_28 rfl hl (by decide) rfl (fun ls hl => ?_)
        refine lv_iinc (v := nI (i + 1)) (lv' := [(2, .int (nI (i + 1))), (1, .int (nI (t + (q.2.2.2.1 i 3)))), (3, .ref (r (3 + i))), (0, .ref (r 0))]) hx hb dX3_heardCount_29 hl (k := 3) rfl (fr_inc1 _) (by decide) rfl (fun ls hl => ?_)
        refine lv_goto (tgt := 4) hx hb dX3_heardCount_32 (by decide) ?_
        exact ih_2 (t + (q.2.2.2.1 i 3)) (i + 1) (by omega) (by rw [ht]; rfl) (by omega) _ (lv_sub hl [3, 1, 0] rfl)
  exact K_1 (q.1 - 0 + 1) 0 0 (by omega) (rfl) (Nat.lt_succ_self _) _ (lv_sub hl [2, 1, 0] rfl)

set_option maxHeartbeats 4000000 in
set_option maxRecDepth 100000 in
theorem c_X3_clear (l : Launch) (D : va_G) (r : Nat → Nat) (cI cT cN : ClassId) (sz : Nat) (q : RS) : WV l yX3_clear (wA yX3_clear cX3_clear 1 none) ({ frames := 0, cells := 0, slots := 0, locals := 0 }) D (cTys cI cT cN) (rW r cT cN q) sz [.ref (r 0)] (fun _ : Unit => True) (fun _ : Unit => rW r cT cN (0, 0, nI 0, q.2.2.2.1, q.2.2.2.2)) := by
  refine rw_startV (by decide) (Nat.le_of_ble_eq_true rfl) ?_
  intro p e s m args below meth c ls A F hP hK hD hA hS hl
  obtain ⟨hx, hb, hr, hlocks, hml, hown, hts⟩ := F
  have hown : s.vm.findClass RX3 = some m.cls := hown
  have hl : lv_has ls 1 [(0, .ref (r 0))] := hl
  refine lv_aload_n hx hb dX3_clear_0 rfl (lv_at hl 0 rfl) ?_
  refine lv_iconst (v := nI 0) hx hb dX3_clear_1 (by decide) ?_
  refine va_put (D := D) (ci := 3) (v := .int (nI 0)) (ty := .int) (C := RX3) (T := TX3) (N := 5) hx hb hts iX3 tyX3 tyX3_ok nmX3 hown hK hP hD hS 0 rfl rfl 2 (by decide) (hts _ mg_134) (fun _ h9 => h9) rfl (tyX3_ok 2 (by decide)) rfl rfl (Nat.le_of_ble_eq_true rfl) dX3_clear_2 (fun H locs hP hD hS => ?_)
  have hP : va_P D vwCl (rW r cT cN (0, q.2.1, q.2.2.1, q.2.2.2.1, q.2.2.2.2)) H := hP
  have hD : va_D A (rW r cT cN (0, q.2.1, q.2.2.1, q.2.2.2.1, q.2.2.2.2)) := hD
  refine lv_aload_n hx hb dX3_clear_5 rfl (lv_at hl 0 rfl) ?_
  refine lv_iconst (v := nI 0) hx hb dX3_clear_6 (by decide) ?_
  refine va_put (D := D) (ci := 3) (v := .int (nI 0)) (ty := .int) (C := RX3) (T := TX3) (N := 5) hx hb hts iX3 tyX3 tyX3_ok nmX3 hown hK hP hD hS 0 rfl rfl 3 (by decide) (hts _ mg_136) (fun _ h9 => h9) rfl (tyX3_ok 3 (by decide)) rfl rfl (Nat.le_of_ble_eq_true rfl) dX3_clear_7 (fun H locs hP hD hS => ?_)
  have hP : va_P D vwCl (rW r cT cN (0, 0, q.2.2.1, q.2.2.2.1, q.2.2.2.2)) H := hP
  have hD : va_D A (rW r cT cN (0, 0, q.2.2.1, q.2.2.2.1, q.2.2.2.2)) := hD
  refine lv_aload_n hx hb dX3_clear_10 rfl (lv_at hl 0 rfl) ?_
  refine lv_iconst (v := nI 0) hx hb dX3_clear_11 (by decide) ?_
  refine va_put (D := D) (ci := 3) (v := .int (nI 0)) (ty := .int) (C := RX3) (T := TX3) (N := 5) hx hb hts iX3 tyX3 tyX3_ok nmX3 hown hK hP hD hS 0 rfl rfl 4 (by decide) (hts _ mg_138) (fun _ h9 => h9) rfl (tyX3_ok 4 (by decide)) rfl rfl (Nat.le_of_ble_eq_true rfl) dX3_clear_12 (fun H locs hP hD hS => ?_)
  have hP : va_P D vwCl (rW r cT cN (0, 0, nI 0, q.2.2.2.1, q.2.2.2.2)) H := hP
  have hD : va_D A (rW r cT cN (0, 0, nI 0, q.2.2.2.1, q.2.2.2.2)) := hD
  exact rw_vret (wp := (fun _ : Unit => rW r cT cN (0, 0, nI 0, q.2.2.2.1, q.2.2.2.2))) (post := (fun _ : Unit => True)) () hx hb hr hlocks hK hP hD hS (rfl) (trivial) dX3_clear_15

set_option maxHeartbeats 4000000 in
set_option maxRecDepth 100000 in
theorem c_X3_addTap (l : Launch) (D : va_G) (r : Nat → Nat) (cI cT cN : ClassId) (sz : Nat) (q : RS) (kd v : Nat) (h5 : q.1 < 5) : WV l yX3_addTap (wA yX3_addTap cX3_addTap 4 none) ({ frames := 1, cells := 0, slots := 0, locals := 24 }) D (cTys cI cT cN) (rW r cT cN q) sz [.ref (r 0), .int (nI kd), .int (nI v)] (fun _ : Unit => True) (fun _ : Unit => rW r cT cN (q.1 + 1, q.2.1, q.2.2.1, upR q.2.2.2.1 q.1 (rw4 kd v 0 0), q.2.2.2.2)) := by
  refine rw_startV (by decide) (Nat.le_of_ble_eq_true rfl) ?_
  intro p e s m args below meth c ls A F hP hK hD hA hS hl
  obtain ⟨hx, hb, hr, hlocks, hml, hown, hts⟩ := F
  have hown : s.vm.findClass RX3 = some m.cls := hown
  have hl : lv_has ls 4 [(0, .ref (r 0)), (1, .int (nI kd)), (2, .int (nI v))] := hl
  refine lv_aload_n hx hb dX3_addTap_0 rfl (lv_at hl 0 rfl) ?_
  refine va_get (D := D) (ci := 3) (v := .int (nI q.1)) (C := RX3) (T := TX3) (N := 5) hx hb hts iX3 hown hK hP 0 rfl rfl 2 (by decide) (hts _ mg_134) (fun _ h9 => h9) rfl dX3_addTap_1 ?_
  refine lv_iconst (v := nI 5) hx hb dX3_addTap_4 (by decide) ?_
  refine j_icmp_lt (tgt := 9) hx hb dX3_addTap_5 (by decide) (nI_toInt (by omega)) (nI_toInt (by decide)) (fun c_1 => ?_) (fun c_1 => absurd c_1 (by omega))
  refine lv_aload_n hx hb dX3_addTap_9 rfl (lv_at hl 0 rfl) ?_
  refine lv_dup hx hb dX3_addTap_10 rfl ?_
  refine va_get (D := D) (ci := 3) (v := .int (nI q.1)) (C := RX3) (T := TX3) (N := 5) hx hb hts iX3 hown hK hP 0 rfl rfl 2 (by decide) (hts _ mg_134) (fun _ h9 => h9) rfl dX3_addTap_11 ?_
  refine lv_iconst (v := nI 1) hx hb dX3_addTap_14 (by decide) ?_
  refine n_iadd hx hb dX3_addTap_15 ?_
  refine va_put (D := D) (ci := 3) (v := .int (nI (q.1 + 1))) (ty := .int) (C := RX3) (T := TX3) (N := 5) hx hb hts iX3 tyX3 tyX3_ok nmX3 hown hK hP hD hS 0 rfl rfl 2 (by decide) (hts _ mg_134) (fun _ h9 => h9) rfl (tyX3_ok 2 (by decide)) rfl rfl (Nat.le_of_ble_eq_true rfl) dX3_addTap_16 (fun H locs hP hD hS => ?_)
  have hP : va_P D vwCl (rW r cT cN (q.1 + 1, q.2.1, q.2.2.1, q.2.2.2.1, q.2.2.2.2)) H := hP
  have hD : va_D A (rW r cT cN (q.1 + 1, q.2.1, q.2.2.1, q.2.2.2.1, q.2.2.2.2)) := hD
  refine lv_aload_n hx hb dX3_addTap_19 rfl (lv_at hl 0 rfl) ?_
  refine lv_aload_n hx hb dX3_addTap_20 rfl (lv_at hl 0 rfl) ?_
  refine va_get (D := D) (ci := 3) (v := .int (nI (q.1 + 1))) (C := RX3) (T := TX3) (N := 5) hx hb hts iX3 hown hK hP 0 rfl rfl 2 (by decide) (hts _ mg_134) (fun _ h9 => h9) rfl dX3_addTap_21 ?_
  refine lv_iconst (v := nI 1) hx hb dX3_addTap_24 (by decide) ?_
  refine n_isub hx hb dX3_addTap_25 (by omega) ?_
  refine n_top (congrArg nI (Nat.add_sub_cancel (n := q.1) (m := 1))) ?_
  refine ro_qV (n := 1) (As := [.int (nI q.1)]) ⟨hx, hb, hml, hown, hts⟩ (c_X3_tapAt l D r cI cT cN (q.1 + 1, q.2.1, q.2.2.1, q.2.2.2.1, q.2.2.2.2) q.1 (Nat.lt_succ_self _) (by dsimp only; omega)) (cwV 1 hts (gV mg_258 mg_259 mg_260 mg_5 mg_261) rfl rfl rfl vd_X3_tapAt ⟨Nat.le_of_ble_eq_true rfl, Nat.le_of_ble_eq_true rfl⟩) (va_recv hK hP (ci := 3) (q0 := 0) rfl rfl) hK hP rfl hl.1 rfl (Nat.le_of_ble_eq_true rfl) dX3_addTap_26 ⟨Nat.zero_le _, Nat.zero_le _⟩ ?_
  refine lv_astore_n (lv' := [(3, .ref (r (3 + q.1))), (0, .ref (r 0)), (1, .int (nI kd)), (2, .int (nI v))]) hx hb dX3_addTap_29 rfl hl (by decide) rfl (fun ls hl => ?_)
  refine lv_aload_n hx hb dX3_addTap_30 rfl (lv_at hl 0 rfl) ?_
  refine lv_ifnull hx hb dX3_addTap_31 ?_
  refine lv_aload_n hx hb dX3_addTap_34 rfl (lv_at hl 0 rfl) ?_
  refine lv_iload_n hx hb dX3_addTap_35 rfl (lv_at hl 2 rfl) ?_
  refine lv_iload_n hx hb dX3_addTap_36 rfl (lv_at hl 3 rfl) ?_
  refine lv_iconst (v := nI 0) hx hb dX3_addTap_37 (by decide) ?_
  refine lv_iconst (v := nI 0) hx hb dX3_addTap_38 (by decide) ?_
  refine rw_vV1 (3 + q.1) (rW_tap (by omega)) (n := 4) (As := [.int (nI kd), .int (nI v), .int (nI 0), .int (nI 0)]) ⟨hx, hb, hml, hown, hts⟩ (c_X5_become l D cI cT cN _ _ _ _ _ _ _ _ _ _ _) (cwV 4 hts (gV mg_262 mg_263 mg_264 mg_6 mg_265) rfl rfl rfl vd_X5_become ⟨Nat.le_of_ble_eq_true rfl, Nat.le_of_ble_eq_true rfl⟩) (va_recv hK hP (ci := 5) (q0 := 3 + q.1) rfl (rW_tap (by omega))) hK hP hD hS hA rfl hl.1 rfl (Nat.le_of_ble_eq_true rfl) dX3_addTap_39 ⟨Nat.zero_le _, Nat.zero_le _⟩ (fun u_2 H locs w_3 hP hD hS => ?_)
  have hP : va_P D vwCl (rW r cT cN (q.1 + 1, q.2.1, q.2.2.1, upR q.2.2.2.1 q.1 (rw4 kd v 0 0), q.2.2.2.2)) H := Eq.mp (congrArg (fun z => va_P D vwCl z H) (rW_setT (r := r) (cT := cT) (cN := cN) (q := (q.1 + 1, q.2.1, q.2.2.1, q.2.2.2.1, q.2.2.2.2)) (i := q.1) (by omega) (rw4 kd v 0 0))) hP
  have hD : va_D A (rW r cT cN (q.1 + 1, q.2.1, q.2.2.1, upR q.2.2.2.1 q.1 (rw4 kd v 0 0), q.2.2.2.2)) := Eq.mp (congrArg (fun z => va_D A z) (rW_setT (r := r) (cT := cT) (cN := cN) (q := (q.1 + 1, q.2.1, q.2.2.1, q.2.2.2.1, q.2.2.2.2)) (i := q.1) (by omega) (rw4 kd v 0 0))) hD
  exact rw_vret (wp := (fun _ : Unit => rW r cT cN (q.1 + 1, q.2.1, q.2.2.1, upR q.2.2.2.1 q.1 (rw4 kd v 0 0), q.2.2.2.2))) (post := (fun _ : Unit => True)) () hx hb hr hlocks hK hP hD hS (rfl) (trivial) dX3_addTap_42

set_option maxHeartbeats 4000000 in
set_option maxRecDepth 100000 in
theorem c_X3_addNote (l : Launch) (D : va_G) (r : Nat → Nat) (cI cT cN : ClassId) (sz : Nat) (q : RS) (i d x : Nat) (hi : i < 5) (h8 : q.2.1 < 8) : WV l yX3_addNote (wA yX3_addNote cX3_addNote 5 none) ({ frames := 1, cells := 0, slots := 0, locals := 24 }) D (cTys cI cT cN) (rW r cT cN q) sz [.ref (r 0), .ref (r (3 + i)), .int (nI d), .int (nI x)] (fun _ : Unit => True) (fun _ : Unit => rW r cT cN (q.1, q.2.1 + 1, q.2.2.1, q.2.2.2.1, upR q.2.2.2.2 q.2.1 (rw4 i d x (q.2.2.2.1 i 2)))) := by
  refine rw_startV (by decide) (Nat.le_of_ble_eq_true rfl) ?_
  intro p e s m args below meth c ls A F hP hK hD hA hS hl
  obtain ⟨hx, hb, hr, hlocks, hml, hown, hts⟩ := F
  have hown : s.vm.findClass RX3 = some m.cls := hown
  have hl : lv_has ls 5 [(0, .ref (r 0)), (1, .ref (r (3 + i))), (2, .int (nI d)), (3, .int (nI x))] := hl
  refine lv_aload_n hx hb dX3_addNote_0 rfl (lv_at hl 0 rfl) ?_
  refine va_get (D := D) (ci := 3) (v := .int (nI q.2.1)) (C := RX3) (T := TX3) (N := 5) hx hb hts iX3 hown hK hP 0 rfl rfl 3 (by decide) (hts _ mg_136) (fun _ h9 => h9) rfl dX3_addNote_1 ?_
  refine lv_bipush (v := nI 8) hx hb dX3_addNote_4 (by decide) ?_
  refine j_icmp_lt (tgt := 10) hx hb dX3_addNote_6 (by decide) (nI_toInt (by omega)) (nI_toInt (by decide)) (fun c_1 => ?_) (fun c_1 => absurd c_1 (by omega))
  refine lv_aload_n hx hb dX3_addNote_10 rfl (lv_at hl 0 rfl) ?_
  refine lv_dup hx hb dX3_addNote_11 rfl ?_
  refine va_get (D := D) (ci := 3) (v := .int (nI q.2.1)) (C := RX3) (T := TX3) (N := 5) hx hb hts iX3 hown hK hP 0 rfl rfl 3 (by decide) (hts _ mg_136) (fun _ h9 => h9) rfl dX3_addNote_12 ?_
  refine lv_iconst (v := nI 1) hx hb dX3_addNote_15 (by decide) ?_
  refine n_iadd hx hb dX3_addNote_16 ?_
  refine va_put (D := D) (ci := 3) (v := .int (nI (q.2.1 + 1))) (ty := .int) (C := RX3) (T := TX3) (N := 5) hx hb hts iX3 tyX3 tyX3_ok nmX3 hown hK hP hD hS 0 rfl rfl 3 (by decide) (hts _ mg_136) (fun _ h9 => h9) rfl (tyX3_ok 3 (by decide)) rfl rfl (Nat.le_of_ble_eq_true rfl) dX3_addNote_17 (fun H locs hP hD hS => ?_)
  have hP : va_P D vwCl (rW r cT cN (q.1, q.2.1 + 1, q.2.2.1, q.2.2.2.1, q.2.2.2.2)) H := hP
  have hD : va_D A (rW r cT cN (q.1, q.2.1 + 1, q.2.2.1, q.2.2.2.1, q.2.2.2.2)) := hD
  refine lv_aload_n hx hb dX3_addNote_20 rfl (lv_at hl 0 rfl) ?_
  refine lv_aload_n hx hb dX3_addNote_21 rfl (lv_at hl 0 rfl) ?_
  refine va_get (D := D) (ci := 3) (v := .int (nI (q.2.1 + 1))) (C := RX3) (T := TX3) (N := 5) hx hb hts iX3 hown hK hP 0 rfl rfl 3 (by decide) (hts _ mg_136) (fun _ h9 => h9) rfl dX3_addNote_22 ?_
  refine lv_iconst (v := nI 1) hx hb dX3_addNote_25 (by decide) ?_
  refine n_isub hx hb dX3_addNote_26 (by omega) ?_
  refine n_top (congrArg nI (Nat.add_sub_cancel (n := q.2.1) (m := 1))) ?_
  refine ro_qV (n := 1) (As := [.int (nI q.2.1)]) ⟨hx, hb, hml, hown, hts⟩ (c_X3_noteAt l D r cI cT cN (q.1, q.2.1 + 1, q.2.2.1, q.2.2.2.1, q.2.2.2.2) q.2.1 (Nat.lt_succ_self _) (by dsimp only; omega)) (cwV 1 hts (gV mg_387 mg_321 mg_322 mg_5 mg_323) rfl rfl rfl vd_X3_noteAt ⟨Nat.le_of_ble_eq_true rfl, Nat.le_of_ble_eq_true rfl⟩) (va_recv hK hP (ci := 3) (q0 := 0) rfl rfl) hK hP rfl hl.1 rfl (Nat.le_of_ble_eq_true rfl) dX3_addNote_27 ⟨Nat.zero_le _, Nat.zero_le _⟩ ?_
  refine lv_astore (lv' := [(4, .ref (r (8 + q.2.1))), (0, .ref (r 0)), (1, .ref (r (3 + i))), (2, .int (nI d)), (3, .int (nI x))]) hx hb dX3_addNote_30 hl (by decide) rfl (fun ls hl => ?_)
  refine lv_aload hx hb dX3_addNote_32 (lv_at hl 0 rfl) ?_
  refine lv_ifnull hx hb dX3_addNote_34 ?_
  refine lv_aload hx hb dX3_addNote_37 (lv_at hl 0 rfl) ?_
  refine lv_aload_n hx hb dX3_addNote_39 rfl (lv_at hl 2 rfl) ?_
  refine va_get (D := D) (ci := 5) (v := .int (nI i)) (C := RX5) (T := TX5) (N := 5) hx hb hts iX5 hown hK hP (3 + i) (rW_tap (by omega)) rfl 0 (by decide) (hts _ mg_79) (fun _ h9 => h9) rfl dX3_addNote_40 ?_
  refine lv_iload_n hx hb dX3_addNote_43 rfl (lv_at hl 3 rfl) ?_
  refine lv_iload_n hx hb dX3_addNote_44 rfl (lv_at hl 4 rfl) ?_
  refine lv_aload_n hx hb dX3_addNote_45 rfl (lv_at hl 2 rfl) ?_
  refine va_get (D := D) (ci := 5) (v := .int (nI (q.2.2.2.1 i 2))) (C := RX5) (T := TX5) (N := 5) hx hb hts iX5 hown hK hP (3 + i) (rW_tap (by omega)) rfl 3 (by decide) (hts _ mg_88) (fun _ h9 => h9) rfl dX3_addNote_46 ?_
  refine rw_vV1 (8 + q.2.1) (rW_note (by omega)) (n := 4) (As := [.int (nI i), .int (nI d), .int (nI x), .int (nI (q.2.2.2.1 i 2))]) ⟨hx, hb, hml, hown, hts⟩ (c_X0_become l D cI cT cN _ _ _ _ _ _ _ _ _ _) (cwV 4 hts (gV mg_388 mg_389 mg_390 mg_7 mg_391) rfl rfl rfl vd_X0_become ⟨Nat.le_of_ble_eq_true rfl, Nat.le_of_ble_eq_true rfl⟩) (va_recv hK hP (ci := 0) (q0 := 8 + q.2.1) rfl (rW_note (by omega))) hK hP hD hS hA rfl hl.1 rfl (Nat.le_of_ble_eq_true rfl) dX3_addNote_49 ⟨Nat.zero_le _, Nat.zero_le _⟩ (fun u_2 H locs w_3 hP hD hS => ?_)
  have hP : va_P D vwCl (rW r cT cN (q.1, q.2.1 + 1, q.2.2.1, q.2.2.2.1, upR q.2.2.2.2 q.2.1 (rw4 i d x (q.2.2.2.1 i 2)))) H := Eq.mp (congrArg (fun z => va_P D vwCl z H) (rW_setN (r := r) (cT := cT) (cN := cN) (q := (q.1, q.2.1 + 1, q.2.2.1, q.2.2.2.1, q.2.2.2.2)) (i := q.2.1) (by omega) (rw4 i d x (q.2.2.2.1 i 2)))) hP
  have hD : va_D A (rW r cT cN (q.1, q.2.1 + 1, q.2.2.1, q.2.2.2.1, upR q.2.2.2.2 q.2.1 (rw4 i d x (q.2.2.2.1 i 2)))) := Eq.mp (congrArg (fun z => va_D A z) (rW_setN (r := r) (cT := cT) (cN := cN) (q := (q.1, q.2.1 + 1, q.2.2.1, q.2.2.2.1, q.2.2.2.2)) (i := q.2.1) (by omega) (rw4 i d x (q.2.2.2.1 i 2)))) hD
  exact rw_vret (wp := (fun _ : Unit => rW r cT cN (q.1, q.2.1 + 1, q.2.2.1, q.2.2.2.1, upR q.2.2.2.2 q.2.1 (rw4 i d x (q.2.2.2.1 i 2))))) (post := (fun _ : Unit => True)) () hx hb hr hlocks hK hP hD hS (rfl) (trivial) dX3_addNote_52
end
section
abbrev mixF (t u : Nat → Nat → Nat) (n : Nat) : Nat → Nat → Nat := fun x => if x < n then u x else t x
theorem mixF_0 {t u : Nat → Nat → Nat} : mixF t u 0 = t := by funext x; simp [mixF]
theorem mixF_s {t u : Nat → Nat → Nat} {i : Nat} : upR (mixF t u i) i (u i) = mixF t u (i + 1) := by
  funext x
  simp only [upR, mixF]
  by_cases h : x = i
  · subst h; simp
  · rw [if_neg h]
    by_cases h2 : x < i
    · rw [if_pos h2, if_pos (by omega)]
    · rw [if_neg h2, if_neg (by omega)]
theorem rr_t1 {r k : Nat → Nat} {cT cN : ClassId} {q kq : RS} {i : Nat} (h : i < 5) : (rW r cT cN q ++ rW k cT cN kq)[3 + i]? = some (tapC r q.2.2.2.1 i) := by
  match i, h with
  | 0, _ => rfl
  | 1, _ => rfl
  | 2, _ => rfl
  | 3, _ => rfl
  | 4, _ => rfl
theorem rr_t2 {r k : Nat → Nat} {cT cN : ClassId} {q kq : RS} {i : Nat} (h : i < 5) : (rW r cT cN q ++ rW k cT cN kq)[19 + i]? = some (tapC k kq.2.2.2.1 i) := by
  match i, h with
  | 0, _ => rfl
  | 1, _ => rfl
  | 2, _ => rfl
  | 3, _ => rfl
  | 4, _ => rfl
theorem rr_n1 {r k : Nat → Nat} {cT cN : ClassId} {q kq : RS} {i : Nat} (h : i < 8) : (rW r cT cN q ++ rW k cT cN kq)[8 + i]? = some (noteC r q.2.2.2.2 i) := by
  match i, h with
  | 0, _ => rfl
  | 1, _ => rfl
  | 2, _ => rfl
  | 3, _ => rfl
  | 4, _ => rfl
  | 5, _ => rfl
  | 6, _ => rfl
  | 7, _ => rfl
theorem rr_n2 {r k : Nat → Nat} {cT cN : ClassId} {q kq : RS} {i : Nat} (h : i < 8) : (rW r cT cN q ++ rW k cT cN kq)[24 + i]? = some (noteC k kq.2.2.2.2 i) := by
  match i, h with
  | 0, _ => rfl
  | 1, _ => rfl
  | 2, _ => rfl
  | 3, _ => rfl
  | 4, _ => rfl
  | 5, _ => rfl
  | 6, _ => rfl
  | 7, _ => rfl
theorem rr_setT {r k : Nat → Nat} {cT cN : ClassId} {q kq : RS} {i : Nat} (h : i < 5) (f : Nat → Nat) : (rW r cT cN q ++ rW k cT cN kq).set (3 + i) (r (3 + i), .inr (5, [.int (nI i), .int (nI (f 0)), .int (nI (f 1)), .int (nI (f 2)), .int (nI (f 3))])) = rW r cT cN (q.1, q.2.1, q.2.2.1, upR q.2.2.2.1 i f, q.2.2.2.2) ++ rW k cT cN kq := by
  match i, h with
  | 0, _ => rfl
  | 1, _ => rfl
  | 2, _ => rfl
  | 3, _ => rfl
  | 4, _ => rfl
theorem rr_setN {r k : Nat → Nat} {cT cN : ClassId} {q kq : RS} {i : Nat} (h : i < 8) (f : Nat → Nat) : (rW r cT cN q ++ rW k cT cN kq).set (8 + i) (r (8 + i), .inr (0, [.int (nI (f 0)), .int (nI (f 1)), .int (nI (f 2)), .int (nI (f 3))])) = rW r cT cN (q.1, q.2.1, q.2.2.1, q.2.2.2.1, upR q.2.2.2.2 i f) ++ rW k cT cN kq := by
  match i, h with
  | 0, _ => rfl
  | 1, _ => rfl
  | 2, _ => rfl
  | 3, _ => rfl
  | 4, _ => rfl
  | 5, _ => rfl
  | 6, _ => rfl
  | 7, _ => rfl
end
section
set_option maxHeartbeats 4000000 in
set_option maxRecDepth 100000 in
theorem c_X3_copyFrom (l : Launch) (D : va_G) (r k : Nat → Nat) (cI cT cN : ClassId) (sz : Nat) (q kq : RS) (h5 : kq.1 ≤ 5) (h8 : kq.2.1 ≤ 8) : WV l yX3_copyFrom (wA yX3_copyFrom cX3_copyFrom 5 none) ({ frames := 1, cells := 0, slots := 0, locals := 24 }) D (cTys cI cT cN) ((rW r cT cN q) ++ (rW k cT cN kq)) sz [.ref (r 0), .ref (k 0)] (fun _ : Unit => True) (fun _ : Unit => rW r cT cN (kq.1, kq.2.1, kq.2.2.1, mixF q.2.2.2.1 kq.2.2.2.1 kq.1, mixF q.2.2.2.2 kq.2.2.2.2 kq.2.1) ++ rW k cT cN kq) := by
  refine rw_startV (by decide) (Nat.le_of_ble_eq_true rfl) ?_
  intro p e s m args below meth c ls A F hP hK hD hA hS hl
  obtain ⟨hx, hb, hr, hlocks, hml, hown, hts⟩ := F
  have hown : s.vm.findClass RX3 = some m.cls := hown
  have hl : lv_has ls 5 [(0, .ref (r 0)), (1, .ref (k 0))] := hl
  refine lv_aload_n hx hb dX3_copyFrom_0 rfl (lv_at hl 0 rfl) ?_
  refine lv_aload_n hx hb dX3_copyFrom_1 rfl (lv_at hl 1 rfl) ?_
  refine va_get (D := D) (ci := 3) (v := .int (nI kq.1)) (C := RX3) (T := TX3) (N := 5) hx hb hts iX3 hown hK hP 16 rfl rfl 2 (by decide) (hts _ mg_134) (fun _ h9 => h9) rfl dX3_copyFrom_2 ?_
  refine va_put (D := D) (ci := 3) (v := .int (nI kq.1)) (ty := .int) (C := RX3) (T := TX3) (N := 5) hx hb hts iX3 tyX3 tyX3_ok nmX3 hown hK hP hD hS 0 rfl rfl 2 (by decide) (hts _ mg_134) (fun _ h9 => h9) rfl (tyX3_ok 2 (by decide)) rfl rfl (Nat.le_of_ble_eq_true rfl) dX3_copyFrom_5 (fun H locs hP hD hS => ?_)
  have hP : va_P D vwCl ((rW r cT cN (kq.1, q.2.1, q.2.2.1, q.2.2.2.1, q.2.2.2.2)) ++ (rW k cT cN kq)) H := hP
  have hD : va_D A ((rW r cT cN (kq.1, q.2.1, q.2.2.1, q.2.2.2.1, q.2.2.2.2)) ++ (rW k cT cN kq)) := hD
  refine lv_aload_n hx hb dX3_copyFrom_8 rfl (lv_at hl 0 rfl) ?_
  refine lv_aload_n hx hb dX3_copyFrom_9 rfl (lv_at hl 1 rfl) ?_
  refine va_get (D := D) (ci := 3) (v := .int (nI kq.2.1)) (C := RX3) (T := TX3) (N := 5) hx hb hts iX3 hown hK hP 16 rfl rfl 3 (by decide) (hts _ mg_136) (fun _ h9 => h9) rfl dX3_copyFrom_10 ?_
  refine va_put (D := D) (ci := 3) (v := .int (nI kq.2.1)) (ty := .int) (C := RX3) (T := TX3) (N := 5) hx hb hts iX3 tyX3 tyX3_ok nmX3 hown hK hP hD hS 0 rfl rfl 3 (by decide) (hts _ mg_136) (fun _ h9 => h9) rfl (tyX3_ok 3 (by decide)) rfl rfl (Nat.le_of_ble_eq_true rfl) dX3_copyFrom_13 (fun H locs hP hD hS => ?_)
  have hP : va_P D vwCl ((rW r cT cN (kq.1, kq.2.1, q.2.2.1, q.2.2.2.1, q.2.2.2.2)) ++ (rW k cT cN kq)) H := hP
  have hD : va_D A ((rW r cT cN (kq.1, kq.2.1, q.2.2.1, q.2.2.2.1, q.2.2.2.2)) ++ (rW k cT cN kq)) := hD
  refine lv_aload_n hx hb dX3_copyFrom_16 rfl (lv_at hl 0 rfl) ?_
  refine lv_aload_n hx hb dX3_copyFrom_17 rfl (lv_at hl 1 rfl) ?_
  refine va_get (D := D) (ci := 3) (v := .int kq.2.2.1) (C := RX3) (T := TX3) (N := 5) hx hb hts iX3 hown hK hP 16 rfl rfl 4 (by decide) (hts _ mg_138) (fun _ h9 => h9) rfl dX3_copyFrom_18 ?_
  refine va_put (D := D) (ci := 3) (v := .int kq.2.2.1) (ty := .int) (C := RX3) (T := TX3) (N := 5) hx hb hts iX3 tyX3 tyX3_ok nmX3 hown hK hP hD hS 0 rfl rfl 4 (by decide) (hts _ mg_138) (fun _ h9 => h9) rfl (tyX3_ok 4 (by decide)) rfl rfl (Nat.le_of_ble_eq_true rfl) dX3_copyFrom_21 (fun H locs hP hD hS => ?_)
  have hP : va_P D vwCl ((rW r cT cN (kq.1, kq.2.1, kq.2.2.1, q.2.2.2.1, q.2.2.2.2)) ++ (rW k cT cN kq)) H := hP
  have hD : va_D A ((rW r cT cN (kq.1, kq.2.1, kq.2.2.1, q.2.2.2.1, q.2.2.2.2)) ++ (rW k cT cN kq)) := hD
  refine lv_iconst (v := nI 0) hx hb dX3_copyFrom_24 (by decide) ?_
  have hP : va_P D vwCl ((rW r cT cN (kq.1, kq.2.1, kq.2.2.1, mixF q.2.2.2.1 kq.2.2.2.1 0, q.2.2.2.2)) ++ (rW k cT cN kq)) H := by rw [mixF_0]; exact hP
  have hD : va_D A ((rW r cT cN (kq.1, kq.2.1, kq.2.2.1, mixF q.2.2.2.1 kq.2.2.2.1 0, q.2.2.2.2)) ++ (rW k cT cN kq)) := by rw [mixF_0]; exact hD
  refine lv_istore_n (lv' := [(2, .int (nI 0)), (0, .ref (r 0)), (1, .ref (k 0))]) hx hb dX3_copyFrom_25 rfl hl (by decide) rfl (fun ls hl => ?_)
  have K_1 : ∀ n9 : Nat, ∀ (i : Nat), i ≤ kq.1 → kq.1 - i < n9 → ∀ (H : Heap) (locs : List Loc), va_P D vwCl ((rW r cT cN (kq.1, kq.2.1, kq.2.2.1, mixF q.2.2.2.1 kq.2.2.2.1 i, q.2.2.2.2)) ++ (rW k cT cN kq)) H → va_D A ((rW r cT cN (kq.1, kq.2.1, kq.2.2.1, mixF q.2.2.2.1 kq.2.2.2.1 i, q.2.2.2.2)) ++ (rW k cT cN kq)) → va_S A s.heap H locs → ∀ ls : Array Slot, lv_has ls 5 [(0, .ref (r 0)), (1, .ref (k 0)), (2, .int (nI i))] → W p l e (headSpec (wA yX3_copyFrom cX3_copyFrom 5 none) ({ frames := 1, cells := 0, slots := 0, locals := 24 })).room s m args below meth c H locs 0 0 (MQ below (va_Qv (fun _ : Unit => True) (fun u t => wB D (cTys cI cT cN) A ((fun _ : Unit => rW r cT cN (kq.1, kq.2.1, kq.2.2.1, mixF q.2.2.2.1 kq.2.2.2.1 kq.1, mixF q.2.2.2.2 kq.2.2.2.2 kq.2.1) ++ rW k cT cN kq) u) t) A) args s 0 0 A) (F0 m 26 ls []) := by
    intro n9
    induction n9 with
    | zero => intros; omega
    | succ n9 ih_2 =>
      intro i hi hn9 H locs hP hD hS ls hl
      refine lv_iload_n hx hb dX3_copyFrom_26 rfl (lv_at hl 2 rfl) ?_
      refine lv_aload_n hx hb dX3_copyFrom_27 rfl (lv_at hl 0 rfl) ?_
      refine va_get (D := D) (ci := 3) (v := .int (nI kq.1)) (C := RX3) (T := TX3) (N := 5) hx hb hts iX3 hown hK hP 0 rfl rfl 2 (by decide) (hts _ mg_134) (fun _ h9 => h9) rfl dX3_copyFrom_28 ?_
      refine j_icmp_ge (tgt := 89) hx hb dX3_copyFrom_31 (by decide) (nI_toInt (by omega)) (nI_toInt (by omega)) (fun c_3 => ?_) (fun c_3 => ?_)
      · have e9 : i = kq.1 := by omega
        have hP : va_P D vwCl ((rW r cT cN (kq.1, kq.2.1, kq.2.2.1, mixF q.2.2.2.1 kq.2.2.2.1 kq.1, q.2.2.2.2)) ++ (rW k cT cN kq)) H := Eq.mp (congrArg (fun z => va_P D vwCl ((rW r cT cN (kq.1, kq.2.1, kq.2.2.1, mixF q.2.2.2.1 kq.2.2.2.1 z, q.2.2.2.2)) ++ (rW k cT cN kq)) H) e9) hP
        have hD : va_D A ((rW r cT cN (kq.1, kq.2.1, kq.2.2.1, mixF q.2.2.2.1 kq.2.2.2.1 kq.1, q.2.2.2.2)) ++ (rW k cT cN kq)) := Eq.mp (congrArg (fun z => va_D A ((rW r cT cN (kq.1, kq.2.1, kq.2.2.1, mixF q.2.2.2.1 kq.2.2.2.1 z, q.2.2.2.2)) ++ (rW k cT cN kq))) e9) hD
        refine lv_iconst (v := nI 0) hx hb dX3_copyFrom_89 (by decide) ?_
        have hP : va_P D vwCl ((rW r cT cN (kq.1, kq.2.1, kq.2.2.1, mixF q.2.2.2.1 kq.2.2.2.1 kq.1, mixF q.2.2.2.2 kq.2.2.2.2 0)) ++ (rW k cT cN kq)) H := by rw [mixF_0]; exact hP
        have hD : va_D A ((rW r cT cN (kq.1, kq.2.1, kq.2.2.1, mixF q.2.2.2.1 kq.2.2.2.1 kq.1, mixF q.2.2.2.2 kq.2.2.2.2 0)) ++ (rW k cT cN kq)) := by rw [mixF_0]; exact hD
        refine lv_istore_n (lv' := [(2, .int (nI 0)), (0, .ref (r 0)), (1, .ref (k 0))]) hx hb dX3_copyFrom_90 rfl hl (by decide) rfl (fun ls hl => ?_)
        have K_4 : ∀ n9 : Nat, ∀ (i : Nat), i ≤ kq.2.1 → kq.2.1 - i < n9 → ∀ (H : Heap) (locs : List Loc), va_P D vwCl ((rW r cT cN (kq.1, kq.2.1, kq.2.2.1, mixF q.2.2.2.1 kq.2.2.2.1 kq.1, mixF q.2.2.2.2 kq.2.2.2.2 i)) ++ (rW k cT cN kq)) H → va_D A ((rW r cT cN (kq.1, kq.2.1, kq.2.2.1, mixF q.2.2.2.1 kq.2.2.2.1 kq.1, mixF q.2.2.2.2 kq.2.2.2.2 i)) ++ (rW k cT cN kq)) → va_S A s.heap H locs → ∀ ls : Array Slot, lv_has ls 5 [(0, .ref (r 0)), (1, .ref (k 0)), (2, .int (nI i))] → W p l e (headSpec (wA yX3_copyFrom cX3_copyFrom 5 none) ({ frames := 1, cells := 0, slots := 0, locals := 24 })).room s m args below meth c H locs 0 0 (MQ below (va_Qv (fun _ : Unit => True) (fun u t => wB D (cTys cI cT cN) A ((fun _ : Unit => rW r cT cN (kq.1, kq.2.1, kq.2.2.1, mixF q.2.2.2.1 kq.2.2.2.1 kq.1, mixF q.2.2.2.2 kq.2.2.2.2 kq.2.1) ++ rW k cT cN kq) u) t) A) args s 0 0 A) (F0 m 91 ls []) := by
          intro n9
          induction n9 with
          | zero => intros; omega
          | succ n9 ih_5 =>
            intro i hi hn9 H locs hP hD hS ls hl
            refine lv_iload_n hx hb dX3_copyFrom_91 rfl (lv_at hl 2 rfl) ?_
            refine lv_aload_n hx hb dX3_copyFrom_92 rfl (lv_at hl 0 rfl) ?_
            refine va_get (D := D) (ci := 3) (v := .int (nI kq.2.1)) (C := RX3) (T := TX3) (N := 5) hx hb hts iX3 hown hK hP 0 rfl rfl 3 (by decide) (hts _ mg_136) (fun _ h9 => h9) rfl dX3_copyFrom_93 ?_
            refine j_icmp_ge (tgt := 154) hx hb dX3_copyFrom_96 (by decide) (nI_toInt (by omega)) (nI_toInt (by omega)) (fun c_6 => ?_) (fun c_6 => ?_)
            · have e9 : i = kq.2.1 := by omega
              have hP : va_P D vwCl ((rW r cT cN (kq.1, kq.2.1, kq.2.2.1, mixF q.2.2.2.1 kq.2.2.2.1 kq.1, mixF q.2.2.2.2 kq.2.2.2.2 kq.2.1)) ++ (rW k cT cN kq)) H := Eq.mp (congrArg (fun z => va_P D vwCl ((rW r cT cN (kq.1, kq.2.1, kq.2.2.1, mixF q.2.2.2.1 kq.2.2.2.1 kq.1, mixF q.2.2.2.2 kq.2.2.2.2 z)) ++ (rW k cT cN kq)) H) e9) hP
              have hD : va_D A ((rW r cT cN (kq.1, kq.2.1, kq.2.2.1, mixF q.2.2.2.1 kq.2.2.2.1 kq.1, mixF q.2.2.2.2 kq.2.2.2.2 kq.2.1)) ++ (rW k cT cN kq)) := Eq.mp (congrArg (fun z => va_D A ((rW r cT cN (kq.1, kq.2.1, kq.2.2.1, mixF q.2.2.2.1 kq.2.2.2.1 kq.1, mixF q.2.2.2.2 kq.2.2.2.2 z)) ++ (rW k cT cN kq))) e9) hD
              exact rw_vret (wp := (fun _ : Unit => rW r cT cN (kq.1, kq.2.1, kq.2.2.1, mixF q.2.2.2.1 kq.2.2.2.1 kq.1, mixF q.2.2.2.2 kq.2.2.2.2 kq.2.1) ++ rW k cT cN kq)) (post := (fun _ : Unit => True)) () hx hb hr hlocks hK hP hD hS (rfl) (trivial) dX3_copyFrom_154
            · refine lv_aload_n hx hb dX3_copyFrom_99 rfl (lv_at hl 0 rfl) ?_
              refine lv_iload_n hx hb dX3_copyFrom_100 rfl (lv_at hl 2 rfl) ?_
              refine ro_qV (n := 1) (As := [.int (nI i)]) ⟨hx, hb, hml, hown, hts⟩ (c_X3_noteAt l D r cI cT cN (kq.1, kq.2.1, kq.2.2.1, mixF q.2.2.2.1 kq.2.2.2.1 kq.1, mixF q.2.2.2.2 kq.2.2.2.2 i) i (by dsimp only; omega) (by dsimp only; omega)) (cwV 1 hts (gV mg_387 mg_321 mg_322 mg_5 mg_323) rfl rfl rfl vd_X3_noteAt ⟨Nat.le_of_ble_eq_true rfl, Nat.le_of_ble_eq_true rfl⟩) (va_recv hK hP (ci := 3) (q0 := 0) rfl rfl) hK (vaP_l hP) rfl hl.1 rfl (Nat.le_of_ble_eq_true rfl) dX3_copyFrom_101 ⟨Nat.zero_le _, Nat.zero_le _⟩ ?_
              refine lv_astore_n (lv' := [(3, .ref (r (8 + i))), (0, .ref (r 0)), (1, .ref (k 0)), (2, .int (nI i))]) hx hb dX3_copyFrom_104 rfl hl (by decide) rfl (fun ls hl => ?_)
              refine lv_aload_n hx hb dX3_copyFrom_105 rfl (lv_at hl 2 rfl) ?_
              refine lv_iload_n hx hb dX3_copyFrom_106 rfl (lv_at hl 3 rfl) ?_
              refine ro_qV (n := 1) (As := [.int (nI i)]) ⟨hx, hb, hml, hown, hts⟩ (c_X3_noteAt l D k cI cT cN kq i (by omega) (by omega)) (cwV 1 hts (gV mg_387 mg_321 mg_322 mg_5 mg_323) rfl rfl rfl vd_X3_noteAt ⟨Nat.le_of_ble_eq_true rfl, Nat.le_of_ble_eq_true rfl⟩) (va_recv hK hP (ci := 3) (q0 := 16) rfl rfl) hK (vaP_r hP) rfl hl.1 rfl (Nat.le_of_ble_eq_true rfl) dX3_copyFrom_107 ⟨Nat.zero_le _, Nat.zero_le _⟩ ?_
              refine lv_astore (lv' := [(4, .ref (k (8 + i))), (3, .ref (r (8 + i))), (0, .ref (r 0)), (1, .ref (k 0)), (2, .int (nI i))]) hx hb dX3_copyFrom_110 hl (by decide) rfl (fun ls hl => ?_)
              refine lv_aload_n hx hb dX3_copyFrom_112 rfl (lv_at hl 1 rfl) ?_
              refine lv_ifnull hx hb dX3_copyFrom_113 ?_
              refine lv_aload hx hb dX3_copyFrom_116 (lv_at hl 0 rfl) ?_
              refine lv_ifnonnull (tgt := 124) hx hb dX3_copyFrom_118 (by decide) ?_
              refine lv_aload_n hx hb dX3_copyFrom_124 rfl (lv_at hl 1 rfl) ?_
              refine lv_aload hx hb dX3_copyFrom_125 (lv_at hl 0 rfl) ?_
              refine va_get (D := D) (ci := 0) (v := .int (nI (kq.2.2.2.2 i 0))) (C := RX0) (T := TX0) (N := 4) hx hb hts iX0 hown hK hP (24 + i) (rr_n2 (by omega)) rfl 0 (by decide) (hts _ mg_112) (fun _ h9 => h9) rfl dX3_copyFrom_127 ?_
              refine lv_aload hx hb dX3_copyFrom_130 (lv_at hl 0 rfl) ?_
              refine va_get (D := D) (ci := 0) (v := .int (nI (kq.2.2.2.2 i 1))) (C := RX0) (T := TX0) (N := 4) hx hb hts iX0 hown hK hP (24 + i) (rr_n2 (by omega)) rfl 1 (by decide) (hts _ mg_115) (fun _ h9 => h9) rfl dX3_copyFrom_132 ?_
              refine lv_aload hx hb dX3_copyFrom_135 (lv_at hl 0 rfl) ?_
              refine va_get (D := D) (ci := 0) (v := .int (nI (kq.2.2.2.2 i 2))) (C := RX0) (T := TX0) (N := 4) hx hb hts iX0 hown hK hP (24 + i) (rr_n2 (by omega)) rfl 2 (by decide) (hts _ mg_118) (fun _ h9 => h9) rfl dX3_copyFrom_137 ?_
              refine lv_aload hx hb dX3_copyFrom_140 (lv_at hl 0 rfl) ?_
              refine va_get (D := D) (ci := 0) (v := .int (nI (kq.2.2.2.2 i 3))) (C := RX0) (T := TX0) (N := 4) hx hb hts iX0 hown hK hP (24 + i) (rr_n2 (by omega)) rfl 3 (by decide) (hts _ mg_121) (fun _ h9 => h9) rfl dX3_copyFrom_142 ?_
              refine rw_vV1 (8 + i) (rr_n1 (by omega)) (n := 4) (As := [.int (nI (kq.2.2.2.2 i 0)), .int (nI (kq.2.2.2.2 i 1)), .int (nI (kq.2.2.2.2 i 2)), .int (nI (kq.2.2.2.2 i 3))]) ⟨hx, hb, hml, hown, hts⟩ (c_X0_become l D cI cT cN _ _ _ _ _ _ _ _ _ _) (cwV 4 hts (gV mg_388 mg_389 mg_390 mg_7 mg_391) rfl rfl rfl vd_X0_become ⟨Nat.le_of_ble_eq_true rfl, Nat.le_of_ble_eq_true rfl⟩) (va_recv hK hP (ci := 0) (q0 := 8 + i) rfl (rr_n1 (by omega))) hK hP hD hS hA rfl hl.1 rfl (Nat.le_of_ble_eq_true rfl) dX3_copyFrom_145 ⟨Nat.zero_le _, Nat.zero_le _⟩ (fun u_7 H locs w_8 hP hD hS => ?_)
              have hP : va_P D vwCl ((rW r cT cN (kq.1, kq.2.1, kq.2.2.1, mixF q.2.2.2.1 kq.2.2.2.1 kq.1, upR (mixF q.2.2.2.2 kq.2.2.2.2 i) i (kq.2.2.2.2 i))) ++ (rW k cT cN kq)) H := Eq.mp (congrArg (fun z => va_P D vwCl z H) (rr_setN (r := r) (k := k) (cT := cT) (cN := cN) (q := (kq.1, kq.2.1, kq.2.2.1, mixF q.2.2.2.1 kq.2.2.2.1 kq.1, mixF q.2.2.2.2 kq.2.2.2.2 i)) (kq := kq) (i := i) (by omega) (kq.2.2.2.2 i))) hP
              have hD : va_D A ((rW r cT cN (kq.1, kq.2.1, kq.2.2.1, mixF q.2.2.2.1 kq.2.2.2.1 kq.1, upR (mixF q.2.2.2.2 kq.2.2.2.2 i) i (kq.2.2.2.2 i))) ++ (rW k cT cN kq)) := Eq.mp (congrArg (fun z => va_D A z) (rr_setN (r := r) (k := k) (cT := cT) (cN := cN) (q := (kq.1, kq.2.1, kq.2.2.1, mixF q.2.2.2.1 kq.2.2.2.1 kq.1, mixF q.2.2.2.2 kq.2.2.2.2 i)) (kq := kq) (i := i) (by omega) (kq.2.2.2.2 i))) hD
              have hP : va_P D vwCl ((rW r cT cN (kq.1, kq.2.1, kq.2.2.1, mixF q.2.2.2.1 kq.2.2.2.1 kq.1, mixF q.2.2.2.2 kq.2.2.2.2 (i + 1))) ++ (rW k cT cN kq)) H := by rw [← mixF_s]; exact hP
              have hD : va_D A ((rW r cT cN (kq.1, kq.2.1, kq.2.2.1, mixF q.2.2.2.1 kq.2.2.2.1 kq.1, mixF q.2.2.2.2 kq.2.2.2.2 (i + 1))) ++ (rW k cT cN kq)) := by rw [← mixF_s]; exact hD
              refine lv_iinc (v := nI (i + 1)) (lv' := [(2, .int (nI (i + 1))), (4, .ref (k (8 + i))), (3, .ref (r (8 + i))), (0, .ref (r 0)), (1, .ref (k 0))]) hx hb dX3_copyFrom_148 hl (k := 4) rfl (fr_inc1 _) (by decide) rfl (fun ls hl => ?_)
              refine lv_goto (tgt := 91) hx hb dX3_copyFrom_151 (by decide) ?_
              exact ih_5 (i + 1) (by omega) (by omega) _ _ hP hD hS _ (lv_sub hl [3, 4, 0] rfl)
        exact K_4 (kq.2.1 - 0 + 1) 0 (by omega) (Nat.lt_succ_self _) _ _ hP hD hS _ (lv_sub hl [1, 2, 0] rfl)
      · refine lv_aload_n hx hb dX3_copyFrom_34 rfl (lv_at hl 0 rfl) ?_
        refine lv_iload_n hx hb dX3_copyFrom_35 rfl (lv_at hl 2 rfl) ?_
        refine ro_qV (n := 1) (As := [.int (nI i)]) ⟨hx, hb, hml, hown, hts⟩ (c_X3_tapAt l D r cI cT cN (kq.1, kq.2.1, kq.2.2.1, mixF q.2.2.2.1 kq.2.2.2.1 i, q.2.2.2.2) i (by dsimp only; omega) (by dsimp only; omega)) (cwV 1 hts (gV mg_258 mg_259 mg_260 mg_5 mg_261) rfl rfl rfl vd_X3_tapAt ⟨Nat.le_of_ble_eq_true rfl, Nat.le_of_ble_eq_true rfl⟩) (va_recv hK hP (ci := 3) (q0 := 0) rfl rfl) hK (vaP_l hP) rfl hl.1 rfl (Nat.le_of_ble_eq_true rfl) dX3_copyFrom_36 ⟨Nat.zero_le _, Nat.zero_le _⟩ ?_
        refine lv_astore_n (lv' := [(3, .ref (r (3 + i))), (0, .ref (r 0)), (1, .ref (k 0)), (2, .int (nI i))]) hx hb dX3_copyFrom_39 rfl hl (by decide) rfl (fun ls hl => ?_)
        refine lv_aload_n hx hb dX3_copyFrom_40 rfl (lv_at hl 2 rfl) ?_
        refine lv_iload_n hx hb dX3_copyFrom_41 rfl (lv_at hl 3 rfl) ?_
        refine ro_qV (n := 1) (As := [.int (nI i)]) ⟨hx, hb, hml, hown, hts⟩ (c_X3_tapAt l D k cI cT cN kq i (by omega) (by omega)) (cwV 1 hts (gV mg_258 mg_259 mg_260 mg_5 mg_261) rfl rfl rfl vd_X3_tapAt ⟨Nat.le_of_ble_eq_true rfl, Nat.le_of_ble_eq_true rfl⟩) (va_recv hK hP (ci := 3) (q0 := 16) rfl rfl) hK (vaP_r hP) rfl hl.1 rfl (Nat.le_of_ble_eq_true rfl) dX3_copyFrom_42 ⟨Nat.zero_le _, Nat.zero_le _⟩ ?_
        refine lv_astore (lv' := [(4, .ref (k (3 + i))), (3, .ref (r (3 + i))), (0, .ref (r 0)), (1, .ref (k 0)), (2, .int (nI i))]) hx hb dX3_copyFrom_45 hl (by decide) rfl (fun ls hl => ?_)
        refine lv_aload_n hx hb dX3_copyFrom_47 rfl (lv_at hl 1 rfl) ?_
        refine lv_ifnull hx hb dX3_copyFrom_48 ?_
        refine lv_aload hx hb dX3_copyFrom_51 (lv_at hl 0 rfl) ?_
        refine lv_ifnonnull (tgt := 59) hx hb dX3_copyFrom_53 (by decide) ?_
        refine lv_aload_n hx hb dX3_copyFrom_59 rfl (lv_at hl 1 rfl) ?_
        refine lv_aload hx hb dX3_copyFrom_60 (lv_at hl 0 rfl) ?_
        refine va_get (D := D) (ci := 5) (v := .int (nI (kq.2.2.2.1 i 0))) (C := RX5) (T := TX5) (N := 5) hx hb hts iX5 hown hK hP (19 + i) (rr_t2 (by omega)) rfl 1 (by decide) (hts _ mg_82) (fun _ h9 => h9) rfl dX3_copyFrom_62 ?_
        refine lv_aload hx hb dX3_copyFrom_65 (lv_at hl 0 rfl) ?_
        refine va_get (D := D) (ci := 5) (v := .int (nI (kq.2.2.2.1 i 1))) (C := RX5) (T := TX5) (N := 5) hx hb hts iX5 hown hK hP (19 + i) (rr_t2 (by omega)) rfl 2 (by decide) (hts _ mg_85) (fun _ h9 => h9) rfl dX3_copyFrom_67 ?_
        refine lv_aload hx hb dX3_copyFrom_70 (lv_at hl 0 rfl) ?_
        refine va_get (D := D) (ci := 5) (v := .int (nI (kq.2.2.2.1 i 2))) (C := RX5) (T := TX5) (N := 5) hx hb hts iX5 hown hK hP (19 + i) (rr_t2 (by omega)) rfl 3 (by decide) (hts _ mg_88) (fun _ h9 => h9) rfl dX3_copyFrom_72 ?_
        refine lv_aload hx hb dX3_copyFrom_75 (lv_at hl 0 rfl) ?_
        refine va_get (D := D) (ci := 5) (v := .int (nI (kq.2.2.2.1 i 3))) (C := RX5) (T := TX5) (N := 5) hx hb hts iX5 hown hK hP (19 + i) (rr_t2 (by omega)) rfl 4 (by decide) (hts _ mg_91) (fun _ h9 => h9) rfl dX3_copyFrom_77 ?_
        refine rw_vV1 (3 + i) (rr_t1 (by omega)) (n := 4) (As := [.int (nI (kq.2.2.2.1 i 0)), .int (nI (kq.2.2.2.1 i 1)), .int (nI (kq.2.2.2.1 i 2)), .int (nI (kq.2.2.2.1 i 3))]) ⟨hx, hb, hml, hown, hts⟩ (c_X5_become l D cI cT cN _ _ _ _ _ _ _ _ _ _ _) (cwV 4 hts (gV mg_262 mg_263 mg_264 mg_6 mg_265) rfl rfl rfl vd_X5_become ⟨Nat.le_of_ble_eq_true rfl, Nat.le_of_ble_eq_true rfl⟩) (va_recv hK hP (ci := 5) (q0 := 3 + i) rfl (rr_t1 (by omega))) hK hP hD hS hA rfl hl.1 rfl (Nat.le_of_ble_eq_true rfl) dX3_copyFrom_80 ⟨Nat.zero_le _, Nat.zero_le _⟩ (fun u_9 H locs w_10 hP hD hS => ?_)
        have hP : va_P D vwCl ((rW r cT cN (kq.1, kq.2.1, kq.2.2.1, upR (mixF q.2.2.2.1 kq.2.2.2.1 i) i (kq.2.2.2.1 i), q.2.2.2.2)) ++ (rW k cT cN kq)) H := Eq.mp (congrArg (fun z => va_P D vwCl z H) (rr_setT (r := r) (k := k) (cT := cT) (cN := cN) (q := (kq.1, kq.2.1, kq.2.2.1, mixF q.2.2.2.1 kq.2.2.2.1 i, q.2.2.2.2)) (kq := kq) (i := i) (by omega) (kq.2.2.2.1 i))) hP
        have hD : va_D A ((rW r cT cN (kq.1, kq.2.1, kq.2.2.1, upR (mixF q.2.2.2.1 kq.2.2.2.1 i) i (kq.2.2.2.1 i), q.2.2.2.2)) ++ (rW k cT cN kq)) := Eq.mp (congrArg (fun z => va_D A z) (rr_setT (r := r) (k := k) (cT := cT) (cN := cN) (q := (kq.1, kq.2.1, kq.2.2.1, mixF q.2.2.2.1 kq.2.2.2.1 i, q.2.2.2.2)) (kq := kq) (i := i) (by omega) (kq.2.2.2.1 i))) hD
        have hP : va_P D vwCl ((rW r cT cN (kq.1, kq.2.1, kq.2.2.1, mixF q.2.2.2.1 kq.2.2.2.1 (i + 1), q.2.2.2.2)) ++ (rW k cT cN kq)) H := by rw [← mixF_s]; exact hP
        have hD : va_D A ((rW r cT cN (kq.1, kq.2.1, kq.2.2.1, mixF q.2.2.2.1 kq.2.2.2.1 (i + 1), q.2.2.2.2)) ++ (rW k cT cN kq)) := by rw [← mixF_s]; exact hD
        refine lv_iinc (v := nI (i + 1)) (lv' := [(2, .int (nI (i + 1))), (4, .ref (k (3 + i))), (3, .ref (r (3 + i))), (0, .ref (r 0)), (1, .ref (k 0))]) hx hb dX3_copyFrom_83 hl (k := 4) rfl (fr_inc1 _) (by decide) rfl (fun ls hl => ?_)
        refine lv_goto (tgt := 26) hx hb dX3_copyFrom_86 (by decide) ?_
        exact ih_2 (i + 1) (by omega) (by omega) _ _ hP hD hS _ (lv_sub hl [3, 4, 0] rfl)
  exact K_1 (kq.1 - 0 + 1) 0 (by omega) (Nat.lt_succ_self _) _ _ hP hD hS _ (lv_sub hl [1, 2, 0] rfl)
end
section
/-- what holds of a room: how many taps and notes, and of each -/
def Tok (q : RS) : Prop := q.1 ≤ 5 ∧ q.2.1 ≤ 8 ∧ (∀ i, i < q.1 → q.2.2.2.1 i 0 < 5 ∧ q.2.2.2.1 i 1 < 4 ∧ q.2.2.2.1 i 2 ≤ 1 ∧ q.2.2.2.1 i 3 ≤ 60) ∧ (∀ i, i < q.2.1 → q.2.2.2.2 i 0 < q.1 ∧ q.2.2.2.2 i 1 < 60 ∧ q.2.2.2.2 i 2 ≤ 1 ∧ q.2.2.2.2 i 3 ≤ 1)
/-- how many of the first n -/
def cnt (f : Nat → Bool) : Nat → Nat
  | 0 => 0
  | n + 1 => cnt f n + (if f n = true then 1 else 0)
theorem cnt_le (f : Nat → Bool) : ∀ n, cnt f n ≤ n
  | 0 => Nat.le_refl 0
  | n + 1 => by
    have := cnt_le f n
    show cnt f n + _ ≤ n + 1
    split <;> omega
theorem cnt_t {f : Nat → Bool} {n : Nat} (h : f n = true) : cnt f (n + 1) = cnt f n + 1 := by show cnt f n + _ = _; rw [if_pos h]
theorem cnt_f {f : Nat → Bool} {n : Nat} (h : f n = false) : cnt f (n + 1) = cnt f n := by show cnt f n + _ = _; rw [h]; rfl
/-- slips: notes of tap i that saying v would not drip -/
def slf (b : Nat → Nat → Nat) (kd i : Nat) (u : Nat → Nat → Nat) (v : Nat) : Nat → Bool := fun n => decide (u n 0 = i ∧ sd b kd (u n 3) v (u n 1) ≠ u n 2)
def slp (b : Nat → Nat → Nat) (kd i : Nat) (u : Nat → Nat → Nat) (nn v : Nat) : Nat := cnt (slf b kd i u v) nn
theorem slp_le (b : Nat → Nat → Nat) (kd i : Nat) (u : Nat → Nat → Nat) (nn v : Nat) : slp b kd i u nn v ≤ nn := cnt_le _ _
/-- the sayings without slips, as bits -/
def sys (f : Nat → Nat) : Nat → Nat
  | 0 => 0
  | v + 1 => sys f v ||| (if f v = 0 then 2 ^ v else 0)
theorem sys_lt (f : Nat → Nat) (n : Nat) : sys f n < 2 ^ n := by
  induction n with
  | zero => exact Nat.one_pos
  | succ n ih =>
    have h2 : 2 ^ (n + 1) = 2 ^ n * 2 := Nat.pow_succ ..
    have h3 : 0 < 2 ^ n := Nat.two_pow_pos n
    unfold sys
    apply Nat.or_lt_two_pow
    · omega
    · split <;> omega
theorem sys_t {f : Nat → Nat} {v : Nat} (h : f v = 0) : sys f v ||| 1 * 2 ^ v = sys f (v + 1) := by show _ = sys f v ||| _; rw [if_pos h, Nat.one_mul]
theorem sys_f {f : Nat → Nat} {v : Nat} (h : ¬ f v = 0) : sys f v = sys f (v + 1) := by show _ = sys f v ||| _; rw [if_neg h, Nat.or_zero]
/-- the first of the least -/
def lky (f : Nat → Nat) : Nat → Nat
  | 0 => 0
  | v + 1 => if f (v + 1) < f (lky f v) then v + 1 else lky f v
theorem lky_le (f : Nat → Nat) (n : Nat) : lky f n ≤ n := by
  induction n with
  | zero => exact Nat.le_refl 0
  | succ n ih =>
    unfold lky
    split <;> omega
theorem lky_t {f : Nat → Nat} {v x : Nat} (hx : x = lky f v) (h : f (v + 1) < f x) : v + 1 = lky f (v + 1) := by subst hx; show _ = if _ then _ else _; rw [if_pos h]
theorem lky_f {f : Nat → Nat} {v x : Nat} (hx : x = lky f v) (h : ¬ f (v + 1) < f x) : x = lky f (v + 1) := by subst hx; show _ = if _ then _ else _; rw [if_neg h]
/-- how many in a row, from 0 on, are alike -/
def fdi (f g : Nat → Nat) : Nat → Nat
  | 0 => 0
  | n + 1 => if fdi f g n = n ∧ f n = g n then n + 1 else fdi f g n
theorem fdi_le (f g : Nat → Nat) (n : Nat) : fdi f g n ≤ n := by
  induction n with
  | zero => exact Nat.le_refl 0
  | succ n ih =>
    unfold fdi
    split <;> omega
theorem fdi_s {f g : Nat → Nat} {n : Nat} (h : fdi f g n = n) (e : f n = g n) : fdi f g (n + 1) = n + 1 := by show (if _ then _ else _) = _; rw [if_pos ⟨h, e⟩]
theorem fdi_stop {f g : Nat → Nat} {n : Nat} (h : fdi f g n = n) (e : ¬ f n = g n) (k : Nat) : fdi f g (n + 1 + k) = n := by
  induction k with
  | zero => show (if _ then _ else _) = _; rw [if_neg (fun q => e q.2), h]
  | succ k ih =>
    show fdi f g ((n + 1 + k) + 1) = n
    unfold fdi
    rw [if_neg (fun q => by omega), ih]
theorem fdi_at {f g : Nat → Nat} {n k : Nat} (h : fdi f g n = n) (e : ¬ f n = g n) (hk : n < k) : fdi f g k = n := by
  have := fdi_stop h e (k - (n + 1))
  rwa [show n + 1 + (k - (n + 1)) = k by omega] at this
/-- a tap's own drips, if it said v: from its place on -/
def dpl (b t : Nat → Nat → Nat) (i v n : Nat) : Nat := sd b (t i 0) (t i 2) v (t i 3 + n)
def fda (b t : Nat → Nat → Nat) (i x y : Nat) : Nat := fdi (dpl b t i x) (dpl b t i y) 16
theorem fda_le (b t : Nat → Nat → Nat) (i x y : Nat) : fda b t i x y ≤ 16 := fdi_le _ _ _
def sur (F : Nat → Nat → Nat) : Int32 := if F 0 1 = 16 ∨ F 0 2 = 16 ∨ F 0 3 = 16 ∨ F 1 2 = 16 ∨ F 1 3 = 16 ∨ F 2 3 = 16 then -1 else nI (max (max (max (max (max (max 0 (F 0 1 + 1)) (F 0 2 + 1)) (F 0 3 + 1)) (F 1 2 + 1)) (F 1 3 + 1)) (F 2 3 + 1))
/-- listen: of those that it can say, how many are left at worst -/
def lgf (b t : Nat → Nat → Nat) (i bits n : Nat) : Nat → Bool := fun v => decide (bits / 2 ^ v % 2 = 1 ∧ dpl b t i v n = 1)
def shf (b t : Nat → Nat → Nat) (i bits n : Nat) : Nat → Bool := fun v => decide (bits / 2 ^ v % 2 = 1 ∧ ¬ dpl b t i v n = 1)
def lw (b t : Nat → Nat → Nat) (i bits n : Nat) : Nat := max (cnt (shf b t i bits n) 4) (cnt (lgf b t i bits n) 4)
theorem lw_le (b t : Nat → Nat → Nat) (i bits n : Nat) : lw b t i bits n ≤ 4 := Nat.max_le.mpr ⟨cnt_le _ _, cnt_le _ _⟩
def bth (b t : Nat → Nat → Nat) (i bits : Nat) : Int32 := if bits = 0 then -1 else nI (lky (lw b t i bits) 7)
/-- near -/
def unf (b : Nat → Nat → Nat) (kd w v v2 : Nat) : Nat → Bool := fun n => decide (¬ sd b kd w v n = sd b 0 0 v2 n)
def unl (b : Nat → Nat → Nat) (kd w v v2 : Nat) : Nat := cnt (unf b kd w v v2) 12
theorem unl_le (b : Nat → Nat → Nat) (kd w v v2 : Nat) : unl b kd w v v2 ≤ 12 := cnt_le _ _
def ner (b : Nat → Nat → Nat) (kd v v2 what : Nat) : Nat := if what = 0 then (if unl b kd 1 v v2 < unl b kd 0 v v2 then 1 else 0) else min (unl b kd 1 v v2) (unl b kd 0 v v2)
theorem n_min {a b : Nat} (h1 : a < 2 ^ 31) (h2 : b < 2 ^ 31) : (if nI b < nI a then nI b else nI a) = nI (min a b) := by
  by_cases h : b < a
  · rw [if_pos ((nI_ltI h2 h1).mpr h), Nat.min_eq_right (Nat.le_of_lt h)]
  · rw [if_neg (fun q => h ((nI_ltI h2 h1).mp q)), Nat.min_eq_left (Nat.le_of_not_lt h)]
/-- slips of tap i by saying, out of a room's notes -/
def sly (b t : Nat → Nat → Nat) (i : Nat) (u : Nat → Nat → Nat) (nn : Nat) : Nat → Nat := fun v => slp b (t i 0) i u nn v
/-- about a tap -/
def abt (b t : Nat → Nat → Nat) (u : Nat → Nat → Nat) (nn i what : Nat) : Int32 :=
  if what < 4 then nI (t i what) else if what = 4 then sur (fda b t i) else if what = 5 then nI (sys (sly b t i u nn) 4) else if what = 6 then nI (lky (sly b t i u nn) 3) else if what = 7 then nI (sly b t i u nn (lky (sly b t i u nn) 3)) else bth b t i (sys (sly b t i u nn) 4)
/-- agree -/
def agf (b t : Nat → Nat → Nat) (i j : Nat) : Nat → Bool := fun n => decide (dpl b t i (t i 1) n = dpl b t j (t j 1) n)
/-- a fold of a digest -/
def fo (h : Int64) (f : Nat → Int64) : Nat → Int64
  | 0 => h
  | n + 1 => 31 * fo h f n + f n
/-- draws -/
def nxs (s : Nat) : Nat := (1103515245 * s + 12345) % 2147483648
theorem nxs_lt (s : Nat) : nxs s < 2147483648 := Nat.mod_lt _ (by decide)
section ABT
variable {b t u : Nat → Nat → Nat} {nn i : Nat}
theorem abt_0 : abt b t u nn i 0 = nI (t i 0) := by unfold abt; rw [if_pos (by decide)]
theorem abt_1 : abt b t u nn i 1 = nI (t i 1) := by unfold abt; rw [if_pos (by decide)]
theorem abt_2 : abt b t u nn i 2 = nI (t i 2) := by unfold abt; rw [if_pos (by decide)]
theorem abt_3 : abt b t u nn i 3 = nI (t i 3) := by unfold abt; rw [if_pos (by decide)]
theorem abt_4 : abt b t u nn i 4 = sur (fda b t i) := by unfold abt; rw [if_neg (by decide), if_pos rfl]
theorem abt_5 : abt b t u nn i 5 = nI (sys (sly b t i u nn) 4) := by unfold abt; rw [if_neg (by decide), if_neg (by decide), if_pos rfl]
theorem abt_6 : abt b t u nn i 6 = nI (lky (sly b t i u nn) 3) := by unfold abt; rw [if_neg (by decide), if_neg (by decide), if_neg (by decide), if_pos rfl]
theorem abt_7 : abt b t u nn i 7 = nI (sly b t i u nn (lky (sly b t i u nn) 3)) := by unfold abt; rw [if_neg (by decide), if_neg (by decide), if_neg (by decide), if_neg (by decide), if_pos rfl]
theorem abt_8 : abt b t u nn i 8 = bth b t i (sys (sly b t i u nn) 4) := by unfold abt; rw [if_neg (by decide), if_neg (by decide), if_neg (by decide), if_neg (by decide), if_neg (by decide)]
end ABT
end
section
set_option maxHeartbeats 4000000 in
set_option maxRecDepth 100000 in
theorem c_X6_isKindT (l : Launch) (D : va_G) (x : Int32) (hx9 : 0 ≤ x.toInt ∧ x.toInt < 5) : ROi l yX6_isKind (wA yX6_isKind cX6_isKind 1 (some .boolean)) ({ frames := 0, cells := 0, slots := 0, locals := 0 }) D [] ([] : va_W) [.int x] (nI 1) := by
  refine go_start (by decide) (Nat.le_of_ble_eq_true rfl) ?_
  intro p e s m args below meth c ls F _ hB hl
  obtain ⟨hx, hb, hr, hlocks, hml, hown, hts⟩ := F
  obtain ⟨hP, hK⟩ := hB
  have hown : s.vm.findClass RX6 = some m.cls := hown
  have hl : lv_has ls 1 [(0, .int x)] := hl
  refine lv_iload_n hx hb dX6_isKind_0 rfl (lv_at hl 0 rfl) ?_
  refine j_if_lt (tgt := 13) hx hb dX6_isKind_1 (by decide) rfl (fun c_1 => absurd c_1 (by omega)) (fun c_1 => ?_)
  refine lv_iload_n hx hb dX6_isKind_4 rfl (lv_at hl 0 rfl) ?_
  refine lv_iconst (v := nI 5) hx hb dX6_isKind_5 (by decide) ?_
  refine j_icmp_ge (tgt := 13) hx hb dX6_isKind_6 (by decide) rfl (nI_toInt (by decide)) (fun c_2 => absurd c_2 (by omega)) (fun c_2 => ?_)
  refine lv_iconst (v := nI 1) hx hb dX6_isKind_9 (by decide) ?_
  refine lv_goto (tgt := 14) hx hb dX6_isKind_10 (by decide) ?_
  exact ro_zret hx hb hr rfl hlocks (rfl) dX6_isKind_14

set_option maxHeartbeats 4000000 in
set_option maxRecDepth 100000 in
theorem c_X6_isKindF (l : Launch) (D : va_G) (x : Int32) (hx9 : x.toInt < 0 ∨ 5 ≤ x.toInt) : ROi l yX6_isKind (wA yX6_isKind cX6_isKind 1 (some .boolean)) ({ frames := 0, cells := 0, slots := 0, locals := 0 }) D [] ([] : va_W) [.int x] (nI 0) := by
  refine go_start (by decide) (Nat.le_of_ble_eq_true rfl) ?_
  intro p e s m args below meth c ls F _ hB hl
  obtain ⟨hx, hb, hr, hlocks, hml, hown, hts⟩ := F
  obtain ⟨hP, hK⟩ := hB
  have hown : s.vm.findClass RX6 = some m.cls := hown
  have hl : lv_has ls 1 [(0, .int x)] := hl
  refine lv_iload_n hx hb dX6_isKind_0 rfl (lv_at hl 0 rfl) ?_
  refine j_if_lt (tgt := 13) hx hb dX6_isKind_1 (by decide) rfl (fun c_1 => ?_) (fun c_1 => ?_)
  · refine lv_iconst (v := nI 0) hx hb dX6_isKind_13 (by decide) ?_
    exact ro_zret hx hb hr rfl hlocks (rfl) dX6_isKind_14
  · refine lv_iload_n hx hb dX6_isKind_4 rfl (lv_at hl 0 rfl) ?_
    refine lv_iconst (v := nI 5) hx hb dX6_isKind_5 (by decide) ?_
    refine j_icmp_ge (tgt := 13) hx hb dX6_isKind_6 (by decide) rfl (nI_toInt (by decide)) (fun c_2 => ?_) (fun c_2 => absurd c_2 (by omega))
    refine lv_iconst (v := nI 0) hx hb dX6_isKind_13 (by decide) ?_
    exact ro_zret hx hb hr rfl hlocks (rfl) dX6_isKind_14

set_option maxHeartbeats 4000000 in
set_option maxRecDepth 100000 in
theorem c_X6_isSayingT (l : Launch) (D : va_G) (x : Int32) (hx9 : 0 ≤ x.toInt ∧ x.toInt < 4) : ROi l yX6_isSaying (wA yX6_isSaying cX6_isSaying 1 (some .boolean)) ({ frames := 0, cells := 0, slots := 0, locals := 0 }) D [] ([] : va_W) [.int x] (nI 1) := by
  refine go_start (by decide) (Nat.le_of_ble_eq_true rfl) ?_
  intro p e s m args below meth c ls F _ hB hl
  obtain ⟨hx, hb, hr, hlocks, hml, hown, hts⟩ := F
  obtain ⟨hP, hK⟩ := hB
  have hown : s.vm.findClass RX6 = some m.cls := hown
  have hl : lv_has ls 1 [(0, .int x)] := hl
  refine lv_iload_n hx hb dX6_isSaying_0 rfl (lv_at hl 0 rfl) ?_
  refine j_if_lt (tgt := 13) hx hb dX6_isSaying_1 (by decide) rfl (fun c_1 => absurd c_1 (by omega)) (fun c_1 => ?_)
  refine lv_iload_n hx hb dX6_isSaying_4 rfl (lv_at hl 0 rfl) ?_
  refine lv_iconst (v := nI 4) hx hb dX6_isSaying_5 (by decide) ?_
  refine j_icmp_ge (tgt := 13) hx hb dX6_isSaying_6 (by decide) rfl (nI_toInt (by decide)) (fun c_2 => absurd c_2 (by omega)) (fun c_2 => ?_)
  refine lv_iconst (v := nI 1) hx hb dX6_isSaying_9 (by decide) ?_
  refine lv_goto (tgt := 14) hx hb dX6_isSaying_10 (by decide) ?_
  exact ro_zret hx hb hr rfl hlocks (rfl) dX6_isSaying_14

set_option maxHeartbeats 4000000 in
set_option maxRecDepth 100000 in
theorem c_X6_isSayingF (l : Launch) (D : va_G) (x : Int32) (hx9 : x.toInt < 0 ∨ 4 ≤ x.toInt) : ROi l yX6_isSaying (wA yX6_isSaying cX6_isSaying 1 (some .boolean)) ({ frames := 0, cells := 0, slots := 0, locals := 0 }) D [] ([] : va_W) [.int x] (nI 0) := by
  refine go_start (by decide) (Nat.le_of_ble_eq_true rfl) ?_
  intro p e s m args below meth c ls F _ hB hl
  obtain ⟨hx, hb, hr, hlocks, hml, hown, hts⟩ := F
  obtain ⟨hP, hK⟩ := hB
  have hown : s.vm.findClass RX6 = some m.cls := hown
  have hl : lv_has ls 1 [(0, .int x)] := hl
  refine lv_iload_n hx hb dX6_isSaying_0 rfl (lv_at hl 0 rfl) ?_
  refine j_if_lt (tgt := 13) hx hb dX6_isSaying_1 (by decide) rfl (fun c_1 => ?_) (fun c_1 => ?_)
  · refine lv_iconst (v := nI 0) hx hb dX6_isSaying_13 (by decide) ?_
    exact ro_zret hx hb hr rfl hlocks (rfl) dX6_isSaying_14
  · refine lv_iload_n hx hb dX6_isSaying_4 rfl (lv_at hl 0 rfl) ?_
    refine lv_iconst (v := nI 4) hx hb dX6_isSaying_5 (by decide) ?_
    refine j_icmp_ge (tgt := 13) hx hb dX6_isSaying_6 (by decide) rfl (nI_toInt (by decide)) (fun c_2 => ?_) (fun c_2 => absurd c_2 (by omega))
    refine lv_iconst (v := nI 0) hx hb dX6_isSaying_13 (by decide) ?_
    exact ro_zret hx hb hr rfl hlocks (rfl) dX6_isSaying_14

set_option maxHeartbeats 4000000 in
set_option maxRecDepth 100000 in
theorem c_X6_kol0 (l : Launch) (D : va_G) : ROi l yX6_kindOfLetter (wA yX6_kindOfLetter cX6_kindOfLetter 1 (some .int)) ({ frames := 0, cells := 0, slots := 0, locals := 0 }) D [] ([] : va_W) [.int (nI 116)] (nI 0) := by
  refine go_start (by decide) (Nat.le_of_ble_eq_true rfl) ?_
  intro p e s m args below meth c ls F _ hB hl
  obtain ⟨hx, hb, hr, hlocks, hml, hown, hts⟩ := F
  obtain ⟨hP, hK⟩ := hB
  have hown : s.vm.findClass RX6 = some m.cls := hown
  have hl : lv_has ls 1 [(0, .int (nI 116))] := hl
  refine lv_iload_n hx hb dX6_kindOfLetter_0 rfl (lv_at hl 0 rfl) ?_
  refine lv_lookup (off := 51) (tgt := 52) hx hb dX6_kindOfLetter_1 (by decide) (by decide) (by decide) ?_
  refine lv_iconst (v := nI 0) hx hb dX6_kindOfLetter_52 (by decide) ?_
  exact ro_iret hx hb hr hlocks (rfl) dX6_kindOfLetter_53

set_option maxHeartbeats 4000000 in
set_option maxRecDepth 100000 in
theorem c_X6_kol1 (l : Launch) (D : va_G) : ROi l yX6_kindOfLetter (wA yX6_kindOfLetter cX6_kindOfLetter 1 (some .int)) ({ frames := 0, cells := 0, slots := 0, locals := 0 }) D [] ([] : va_W) [.int (nI 98)] (nI 1) := by
  refine go_start (by decide) (Nat.le_of_ble_eq_true rfl) ?_
  intro p e s m args below meth c ls F _ hB hl
  obtain ⟨hx, hb, hr, hlocks, hml, hown, hts⟩ := F
  obtain ⟨hP, hK⟩ := hB
  have hown : s.vm.findClass RX6 = some m.cls := hown
  have hl : lv_has ls 1 [(0, .int (nI 98))] := hl
  refine lv_iload_n hx hb dX6_kindOfLetter_0 rfl (lv_at hl 0 rfl) ?_
  refine lv_lookup (off := 53) (tgt := 54) hx hb dX6_kindOfLetter_1 (by decide) (by decide) (by decide) ?_
  refine lv_iconst (v := nI 1) hx hb dX6_kindOfLetter_54 (by decide) ?_
  exact ro_iret hx hb hr hlocks (rfl) dX6_kindOfLetter_55

set_option maxHeartbeats 4000000 in
set_option maxRecDepth 100000 in
theorem c_X6_kol2 (l : Launch) (D : va_G) : ROi l yX6_kindOfLetter (wA yX6_kindOfLetter cX6_kindOfLetter 1 (some .int)) ({ frames := 0, cells := 0, slots := 0, locals := 0 }) D [] ([] : va_W) [.int (nI 119)] (nI 2) := by
  refine go_start (by decide) (Nat.le_of_ble_eq_true rfl) ?_
  intro p e s m args below meth c ls F _ hB hl
  obtain ⟨hx, hb, hr, hlocks, hml, hown, hts⟩ := F
  obtain ⟨hP, hK⟩ := hB
  have hown : s.vm.findClass RX6 = some m.cls := hown
  have hl : lv_has ls 1 [(0, .int (nI 119))] := hl
  refine lv_iload_n hx hb dX6_kindOfLetter_0 rfl (lv_at hl 0 rfl) ?_
  refine lv_lookup (off := 55) (tgt := 56) hx hb dX6_kindOfLetter_1 (by decide) (by decide) (by decide) ?_
  refine lv_iconst (v := nI 2) hx hb dX6_kindOfLetter_56 (by decide) ?_
  exact ro_iret hx hb hr hlocks (rfl) dX6_kindOfLetter_57

set_option maxHeartbeats 4000000 in
set_option maxRecDepth 100000 in
theorem c_X6_kol3 (l : Launch) (D : va_G) : ROi l yX6_kindOfLetter (wA yX6_kindOfLetter cX6_kindOfLetter 1 (some .int)) ({ frames := 0, cells := 0, slots := 0, locals := 0 }) D [] ([] : va_W) [.int (nI 111)] (nI 3) := by
  refine go_start (by decide) (Nat.le_of_ble_eq_true rfl) ?_
  intro p e s m args below meth c ls F _ hB hl
  obtain ⟨hx, hb, hr, hlocks, hml, hown, hts⟩ := F
  obtain ⟨hP, hK⟩ := hB
  have hown : s.vm.findClass RX6 = some m.cls := hown
  have hl : lv_has ls 1 [(0, .int (nI 111))] := hl
  refine lv_iload_n hx hb dX6_kindOfLetter_0 rfl (lv_at hl 0 rfl) ?_
  refine lv_lookup (off := 57) (tgt := 58) hx hb dX6_kindOfLetter_1 (by decide) (by decide) (by decide) ?_
  refine lv_iconst (v := nI 3) hx hb dX6_kindOfLetter_58 (by decide) ?_
  exact ro_iret hx hb hr hlocks (rfl) dX6_kindOfLetter_59

set_option maxHeartbeats 4000000 in
set_option maxRecDepth 100000 in
theorem c_X6_kol4 (l : Launch) (D : va_G) : ROi l yX6_kindOfLetter (wA yX6_kindOfLetter cX6_kindOfLetter 1 (some .int)) ({ frames := 0, cells := 0, slots := 0, locals := 0 }) D [] ([] : va_W) [.int (nI 101)] (nI 4) := by
  refine go_start (by decide) (Nat.le_of_ble_eq_true rfl) ?_
  intro p e s m args below meth c ls F _ hB hl
  obtain ⟨hx, hb, hr, hlocks, hml, hown, hts⟩ := F
  obtain ⟨hP, hK⟩ := hB
  have hown : s.vm.findClass RX6 = some m.cls := hown
  have hl : lv_has ls 1 [(0, .int (nI 101))] := hl
  refine lv_iload_n hx hb dX6_kindOfLetter_0 rfl (lv_at hl 0 rfl) ?_
  refine lv_lookup (off := 59) (tgt := 60) hx hb dX6_kindOfLetter_1 (by decide) (by decide) (by decide) ?_
  refine lv_iconst (v := nI 4) hx hb dX6_kindOfLetter_60 (by decide) ?_
  exact ro_iret hx hb hr hlocks (rfl) dX6_kindOfLetter_61

set_option maxHeartbeats 4000000 in
set_option maxRecDepth 100000 in
theorem c_X6_kolN (l : Launch) (D : va_G) (x : Int32) (h1 : ¬ x.toInt = 116) (h2 : ¬ x.toInt = 98) (h3 : ¬ x.toInt = 119) (h4 : ¬ x.toInt = 111) (h5 : ¬ x.toInt = 101) : ROi l yX6_kindOfLetter (wA yX6_kindOfLetter cX6_kindOfLetter 1 (some .int)) ({ frames := 0, cells := 0, slots := 0, locals := 0 }) D [] ([] : va_W) [.int x] (-1) := by
  refine go_start (by decide) (Nat.le_of_ble_eq_true rfl) ?_
  intro p e s m args below meth c ls F _ hB hl
  obtain ⟨hx, hb, hr, hlocks, hml, hown, hts⟩ := F
  obtain ⟨hP, hK⟩ := hB
  have hown : s.vm.findClass RX6 = some m.cls := hown
  have hl : lv_has ls 1 [(0, .int x)] := hl
  refine lv_iload_n hx hb dX6_kindOfLetter_0 rfl (lv_at hl 0 rfl) ?_
  refine lv_lookup (off := 61) (tgt := 62) hx hb dX6_kindOfLetter_1 (by decide) (by simp only [lookupswitch.offset]; rw [if_neg (fun q => h2 q.symm), if_neg (fun q => h5 q.symm), if_neg (fun q => h4 q.symm), if_neg (fun q => h1 q.symm), if_neg (fun q => h3 q.symm)]) (by decide) ?_
  refine lv_iconst (v := (-1)) hx hb dX6_kindOfLetter_62 (by decide) ?_
  exact ro_iret hx hb hr hlocks (rfl) dX6_kindOfLetter_63

set_option maxHeartbeats 4000000 in
set_option maxRecDepth 100000 in
theorem c_X6_dripOf (l : Launch) (D : va_G) (a r k : Nat → Nat) (cI cT cN : ClassId) (xh xi xr pn : Nat) (pc : Nat → Int32) (rd : Nat × Nat × Nat) (B L : Nat → Int32) (q kq : RS) (b : Nat → Nat → Nat) (hS : SR b B L) (hok9 : hok b) (hT : Tok q) (i : Nat) (hi : i < q.1) (n : Nat) (hn : n < 2 ^ 31) : ROi l yX6_dripOf (wA yX6_dripOf cX6_dripOf 3 (some .int)) ({ frames := 2, cells := 0, slots := 0, locals := 50 }) D (cTys cI cT cN) (cW a r k cI cT cN xh xi xr pn pc rd B L q kq) [.ref (a 0), .ref (r (3 + i)), .int (nI n)] (nI (sd b (q.2.2.2.1 i 0) (q.2.2.2.1 i 2) (q.2.2.2.1 i 1) n)) := by
  refine go_start (by decide) (Nat.le_of_ble_eq_true rfl) ?_
  intro p e s m args below meth c ls F _ hB hl
  obtain ⟨hx, hb, hr, hlocks, hml, hown, hts⟩ := F
  obtain ⟨hP, hK⟩ := hB
  have hown : s.vm.findClass RX6 = some m.cls := hown
  have hl : lv_has ls 3 [(0, .ref (a 0)), (1, .ref (r (3 + i))), (2, .int (nI n))] := hl
  have ht5 := hT.1
  have ht8 := hT.2.1
  obtain ⟨hk0, hv0, hw0, hp0⟩ := hT.2.2.1 i hi
  refine lv_aload_n hx hb dX6_dripOf_0 rfl (lv_at hl 0 rfl) ?_
  refine va_get (D := D) (ci := 6) (v := .ref (a 4)) (C := RX6) (T := TX6) (N := 7) hx hb hts iX6 hown hK hP 0 rfl rfl 1 (by decide) (hts _ mg_152) (fun _ h9 => h9) rfl dX6_dripOf_1 ?_
  refine lv_aload_n hx hb dX6_dripOf_4 rfl (lv_at hl 1 rfl) ?_
  refine va_get (D := D) (ci := 5) (v := .int (nI (q.2.2.2.1 i 0))) (C := RX5) (T := TX5) (N := 5) hx hb hts iX5 hown hK hP (10 + i) (cW_tap (by omega)) rfl 1 (by decide) (hts _ mg_83) (fun _ h9 => h9) rfl dX6_dripOf_5 ?_
  refine lv_aload_n hx hb dX6_dripOf_8 rfl (lv_at hl 1 rfl) ?_
  refine va_get (D := D) (ci := 5) (v := .int (nI (q.2.2.2.1 i 1))) (C := RX5) (T := TX5) (N := 5) hx hb hts iX5 hown hK hP (10 + i) (cW_tap (by omega)) rfl 2 (by decide) (hts _ mg_86) (fun _ h9 => h9) rfl dX6_dripOf_9 ?_
  refine lv_aload_n hx hb dX6_dripOf_12 rfl (lv_at hl 1 rfl) ?_
  refine va_get (D := D) (ci := 5) (v := .int (nI (q.2.2.2.1 i 2))) (C := RX5) (T := TX5) (N := 5) hx hb hts iX5 hown hK hP (10 + i) (cW_tap (by omega)) rfl 3 (by decide) (hts _ mg_89) (fun _ h9 => h9) rfl dX6_dripOf_13 ?_
  refine lv_iload_n hx hb dX6_dripOf_16 rfl (lv_at hl 2 rfl) ?_
  refine ro_iV (n := 4) (As := [.int (nI (q.2.2.2.1 i 0)), .int (nI (q.2.2.2.1 i 1)), .int (nI (q.2.2.2.1 i 2)), .int (nI n)]) ⟨hx, hb, hml, hown, hts⟩ (c_X4_dripBy l D a cI cT cN B L b hS hok9 (q.2.2.2.1 i 0) (q.2.2.2.1 i 1) (q.2.2.2.1 i 2) n (by omega) (by omega) (by omega) (by omega)) (cwV 4 hts (gV mg_303 mg_304 mg_305 mg_4 mg_306) rfl rfl rfl vd_X4_dripBy ⟨Nat.le_of_ble_eq_true rfl, Nat.le_of_ble_eq_true rfl⟩) (va_recv hK hP (ci := 4) (q0 := 4) rfl rfl) hK (cW_s hP) rfl hl.1 rfl (Nat.le_of_ble_eq_true rfl) dX6_dripOf_17 ⟨Nat.zero_le _, Nat.zero_le _⟩ ?_
  exact ro_iret hx hb hr hlocks (rfl) dX6_dripOf_20

set_option maxHeartbeats 4000000 in
set_option maxRecDepth 100000 in
theorem c_X6_enoughToTell (l : Launch) (D : va_G) (a r k : Nat → Nat) (cI cT cN : ClassId) (xh xi xr pn : Nat) (pc : Nat → Int32) (rd : Nat × Nat × Nat) (B L : Nat → Int32) (q kq : RS) (b : Nat → Nat → Nat) (hS : SR b B L) (hok9 : hok b) (hT : Tok q) (i : Nat) (hi : i < q.1) (x y : Nat) (hx4 : x < 4) (hy4 : y < 4) : ROi l yX6_enoughToTell (wA yX6_enoughToTell cX6_enoughToTell 7 (some .int)) ({ frames := 2, cells := 0, slots := 0, locals := 50 }) D (cTys cI cT cN) (cW a r k cI cT cN xh xi xr pn pc rd B L q kq) [.ref (a 0), .ref (r (3 + i)), .int (nI x), .int (nI y)] (if fda b q.2.2.2.1 i x y < 16 then nI (fda b q.2.2.2.1 i x y + 1) else -1) := by
  refine go_start (by decide) (Nat.le_of_ble_eq_true rfl) ?_
  intro p e s m args below meth c ls F _ hB hl
  obtain ⟨hx, hb, hr, hlocks, hml, hown, hts⟩ := F
  obtain ⟨hP, hK⟩ := hB
  have hown : s.vm.findClass RX6 = some m.cls := hown
  have hl : lv_has ls 7 [(0, .ref (a 0)), (1, .ref (r (3 + i))), (2, .int (nI x)), (3, .int (nI y))] := hl
  have ht5 := hT.1
  have ht8 := hT.2.1
  obtain ⟨hk0, hv0, hw0, hp0⟩ := hT.2.2.1 i hi
  refine lv_iconst (v := nI 0) hx hb dX6_enoughToTell_0 (by decide) ?_
  refine lv_istore (lv' := [(4, .int (nI 0)), (0, .ref (a 0)), (1, .ref (r (3 + i))), (2, .int (nI x)), (3, .int (nI y))]) hx hb dX6_enoughToTell_1 hl (by decide) rfl (fun ls hl => ?_)
  have K_1 : ∀ n9 : Nat, ∀ (n : Nat), n ≤ 16 → fdi (dpl b q.2.2.2.1 i x) (dpl b q.2.2.2.1 i y) n = n → 16 - n < n9 → ∀ ls : Array Slot, lv_has ls 7 [(0, .ref (a 0)), (1, .ref (r (3 + i))), (2, .int (nI x)), (3, .int (nI y)), (4, .int (nI n))] → W p l e (headSpec (wA yX6_enoughToTell cX6_enoughToTell 7 (some .int)) ({ frames := 2, cells := 0, slots := 0, locals := 50 })).room s m args below meth c s.heap [] 0 0 (MQ below (vp_Si (fun z9 => z9 = (if fda b q.2.2.2.1 i x y < 16 then nI (fda b q.2.2.2.1 i x y + 1) else -1))) args s 0 0 (fun _ => False)) (F0 m 3 ls []) := by
    intro n9
    induction n9 with
    | zero => intros; omega
    | succ n9 ih_2 =>
      intro n hn hf hn9 ls hl
      refine lv_iload hx hb dX6_enoughToTell_3 (lv_at hl 4 rfl) ?_
      refine lv_bipush (v := nI 16) hx hb dX6_enoughToTell_5 (by decide) ?_
      refine j_icmp_ge (tgt := 78) hx hb dX6_enoughToTell_7 (by decide) (nI_toInt (by omega)) (nI_toInt (by decide)) (fun c_3 => ?_) (fun c_3 => ?_)
      · have e9 : n = 16 := by omega
        subst e9
        refine lv_iconst (v := (-1)) hx hb dX6_enoughToTell_78 (by decide) ?_
        exact ro_iret hx hb hr hlocks (by rw [if_neg (show ¬ fda b q.2.2.2.1 i x y < 16 from by have e8 : fda b q.2.2.2.1 i x y = 16 := hf; omega)]) dX6_enoughToTell_79
      · refine lv_aload_n hx hb dX6_enoughToTell_10 rfl (lv_at hl 0 rfl) ?_
        refine va_get (D := D) (ci := 6) (v := .ref (a 4)) (C := RX6) (T := TX6) (N := 7) hx hb hts iX6 hown hK hP 0 rfl rfl 1 (by decide) (hts _ mg_152) (fun _ h9 => h9) rfl dX6_enoughToTell_11 ?_
        refine lv_aload_n hx hb dX6_enoughToTell_14 rfl (lv_at hl 1 rfl) ?_
        refine va_get (D := D) (ci := 5) (v := .int (nI (q.2.2.2.1 i 0))) (C := RX5) (T := TX5) (N := 5) hx hb hts iX5 hown hK hP (10 + i) (cW_tap (by omega)) rfl 1 (by decide) (hts _ mg_83) (fun _ h9 => h9) rfl dX6_enoughToTell_15 ?_
        refine lv_iload_n hx hb dX6_enoughToTell_18 rfl (lv_at hl 2 rfl) ?_
        refine lv_aload_n hx hb dX6_enoughToTell_19 rfl (lv_at hl 1 rfl) ?_
        refine va_get (D := D) (ci := 5) (v := .int (nI (q.2.2.2.1 i 2))) (C := RX5) (T := TX5) (N := 5) hx hb hts iX5 hown hK hP (10 + i) (cW_tap (by omega)) rfl 3 (by decide) (hts _ mg_89) (fun _ h9 => h9) rfl dX6_enoughToTell_20 ?_
        refine lv_aload_n hx hb dX6_enoughToTell_23 rfl (lv_at hl 1 rfl) ?_
        refine va_get (D := D) (ci := 5) (v := .int (nI (q.2.2.2.1 i 3))) (C := RX5) (T := TX5) (N := 5) hx hb hts iX5 hown hK hP (10 + i) (cW_tap (by omega)) rfl 4 (by decide) (hts _ mg_92) (fun _ h9 => h9) rfl dX6_enoughToTell_24 ?_
        refine lv_iload hx hb dX6_enoughToTell_27 (lv_at hl 4 rfl) ?_
        refine n_iadd hx hb dX6_enoughToTell_29 ?_
        refine ro_iV (n := 4) (As := [.int (nI (q.2.2.2.1 i 0)), .int (nI x), .int (nI (q.2.2.2.1 i 2)), .int (nI ((q.2.2.2.1 i 3) + n))]) ⟨hx, hb, hml, hown, hts⟩ (c_X4_dripBy l D a cI cT cN B L b hS hok9 (q.2.2.2.1 i 0) x (q.2.2.2.1 i 2) ((q.2.2.2.1 i 3) + n) (by omega) (by omega) (by omega) (by omega)) (cwV 4 hts (gV mg_303 mg_304 mg_305 mg_4 mg_306) rfl rfl rfl vd_X4_dripBy ⟨Nat.le_of_ble_eq_true rfl, Nat.le_of_ble_eq_true rfl⟩) (va_recv hK hP (ci := 4) (q0 := 4) rfl rfl) hK (cW_s hP) rfl hl.1 rfl (Nat.le_of_ble_eq_true rfl) dX6_enoughToTell_30 ⟨Nat.zero_le _, Nat.zero_le _⟩ ?_
        have hd1 := sd_le hok9 (kd := q.2.2.2.1 i 0) (w := q.2.2.2.1 i 2) (n := q.2.2.2.1 i 3 + n) hx4
        refine lv_istore (lv' := [(5, .int (nI (sd b (q.2.2.2.1 i 0) (q.2.2.2.1 i 2) x ((q.2.2.2.1 i 3) + n)))), (0, .ref (a 0)), (1, .ref (r (3 + i))), (2, .int (nI x)), (3, .int (nI y)), (4, .int (nI n))]) hx hb dX6_enoughToTell_33 hl (by decide) rfl (fun ls hl => ?_)
        refine lv_aload_n hx hb dX6_enoughToTell_35 rfl (lv_at hl 1 rfl) ?_
        refine va_get (D := D) (ci := 6) (v := .ref (a 4)) (C := RX6) (T := TX6) (N := 7) hx hb hts iX6 hown hK hP 0 rfl rfl 1 (by decide) (hts _ mg_152) (fun _ h9 => h9) rfl dX6_enoughToTell_36 ?_
        refine lv_aload_n hx hb dX6_enoughToTell_39 rfl (lv_at hl 2 rfl) ?_
        refine va_get (D := D) (ci := 5) (v := .int (nI (q.2.2.2.1 i 0))) (C := RX5) (T := TX5) (N := 5) hx hb hts iX5 hown hK hP (10 + i) (cW_tap (by omega)) rfl 1 (by decide) (hts _ mg_83) (fun _ h9 => h9) rfl dX6_enoughToTell_40 ?_
        refine lv_iload_n hx hb dX6_enoughToTell_43 rfl (lv_at hl 4 rfl) ?_
        refine lv_aload_n hx hb dX6_enoughToTell_44 rfl (lv_at hl 2 rfl) ?_
        refine va_get (D := D) (ci := 5) (v := .int (nI (q.2.2.2.1 i 2))) (C := RX5) (T := TX5) (N := 5) hx hb hts iX5 hown hK hP (10 + i) (cW_tap (by omega)) rfl 3 (by decide) (hts _ mg_89) (fun _ h9 => h9) rfl dX6_enoughToTell_45 ?_
        refine lv_aload_n hx hb dX6_enoughToTell_48 rfl (lv_at hl 2 rfl) ?_
        refine va_get (D := D) (ci := 5) (v := .int (nI (q.2.2.2.1 i 3))) (C := RX5) (T := TX5) (N := 5) hx hb hts iX5 hown hK hP (10 + i) (cW_tap (by omega)) rfl 4 (by decide) (hts _ mg_92) (fun _ h9 => h9) rfl dX6_enoughToTell_49 ?_
        refine lv_iload hx hb dX6_enoughToTell_52 (lv_at hl 5 rfl) ?_
        refine n_iadd hx hb dX6_enoughToTell_54 ?_
        refine ro_iV (n := 4) (As := [.int (nI (q.2.2.2.1 i 0)), .int (nI y), .int (nI (q.2.2.2.1 i 2)), .int (nI ((q.2.2.2.1 i 3) + n))]) ⟨hx, hb, hml, hown, hts⟩ (c_X4_dripBy l D a cI cT cN B L b hS hok9 (q.2.2.2.1 i 0) y (q.2.2.2.1 i 2) ((q.2.2.2.1 i 3) + n) (by omega) (by omega) (by omega) (by omega)) (cwV 4 hts (gV mg_303 mg_304 mg_305 mg_4 mg_306) rfl rfl rfl vd_X4_dripBy ⟨Nat.le_of_ble_eq_true rfl, Nat.le_of_ble_eq_true rfl⟩) (va_recv hK hP (ci := 4) (q0 := 4) rfl rfl) hK (cW_s hP) rfl hl.1 rfl (Nat.le_of_ble_eq_true rfl) dX6_enoughToTell_55 ⟨Nat.zero_le _, Nat.zero_le _⟩ ?_
        have hd2 := sd_le hok9 (kd := q.2.2.2.1 i 0) (w := q.2.2.2.1 i 2) (n := q.2.2.2.1 i 3 + n) hy4
        refine lv_istore (lv' := [(6, .int (nI (sd b (q.2.2.2.1 i 0) (q.2.2.2.1 i 2) y ((q.2.2.2.1 i 3) + n)))), (5, .int (nI (sd b (q.2.2.2.1 i 0) (q.2.2.2.1 i 2) x ((q.2.2.2.1 i 3) + n)))), (0, .ref (a 0)), (1, .ref (r (3 + i))), (2, .int (nI x)), (3, .int (nI y)), (4, .int (nI n))]) hx hb dX6_enoughToTell_58 hl (by decide) rfl (fun ls hl => ?_)
        refine lv_iload hx hb dX6_enoughToTell_60 (lv_at hl 1 rfl) ?_
        refine lv_iload hx hb dX6_enoughToTell_62 (lv_at hl 0 rfl) ?_
        refine j_icmp_eq (tgt := 72) hx hb dX6_enoughToTell_64 (by decide) (nI_toInt (by omega)) (nI_toInt (by omega)) (fun c_4 => ?_) (fun c_4 => ?_)
        · have hf := fdi_s hf (by unfold dpl; omega)
          refine lv_iinc (v := nI (n + 1)) (lv' := [(4, .int (nI (n + 1))), (6, .int (nI (sd b (q.2.2.2.1 i 0) (q.2.2.2.1 i 2) y ((q.2.2.2.1 i 3) + n)))), (5, .int (nI (sd b (q.2.2.2.1 i 0) (q.2.2.2.1 i 2) x ((q.2.2.2.1 i 3) + n)))), (0, .ref (a 0)), (1, .ref (r (3 + i))), (2, .int (nI x)), (3, .int (nI y))]) hx hb dX6_enoughToTell_72 hl (k := 6) rfl (fr_inc1 _) (by decide) rfl (fun ls hl => ?_)
          refine lv_goto (tgt := 3) hx hb dX6_enoughToTell_75 (by decide) ?_
          exact ih_2 (n + 1) (by omega) (hf) (by omega) _ (lv_sub hl [3, 4, 5, 6, 0] rfl)
        · have e9 : fda b q.2.2.2.1 i x y = n := fdi_at hf (by unfold dpl; omega) (by omega)
          refine lv_iload hx hb dX6_enoughToTell_67 (lv_at hl 6 rfl) ?_
          refine lv_iconst (v := nI 1) hx hb dX6_enoughToTell_69 (by decide) ?_
          refine n_iadd hx hb dX6_enoughToTell_70 ?_
          exact ro_iret hx hb hr hlocks (by rw [e9, if_pos (by omega)]) dX6_enoughToTell_71
  exact K_1 (16 - 0 + 1) 0 (by omega) (rfl) (Nat.lt_succ_self _) _ (lv_sub hl [1, 2, 3, 4, 0] rfl)

theorem c_X6_ettA (l : Launch) (D : va_G) (a r k : Nat → Nat) (cI cT cN : ClassId) (xh xi xr pn : Nat) (pc : Nat → Int32) (rd : Nat × Nat × Nat) (B L : Nat → Int32) (q kq : RS) (b : Nat → Nat → Nat) (hS : SR b B L) (hok9 : hok b) (hT : Tok q) (i : Nat) (hi : i < q.1) (x y : Nat) (hx4 : x < 4) (hy4 : y < 4) (h9 : fda b q.2.2.2.1 i x y < 16) : ROi l yX6_enoughToTell (wA yX6_enoughToTell cX6_enoughToTell 7 (some .int)) ({ frames := 2, cells := 0, slots := 0, locals := 50 }) D (cTys cI cT cN) (cW a r k cI cT cN xh xi xr pn pc rd B L q kq) [.ref (a 0), .ref (r (3 + i)), .int (nI x), .int (nI y)] (nI (fda b q.2.2.2.1 i x y + 1)) := by
  have h := c_X6_enoughToTell l D a r k cI cT cN xh xi xr pn pc rd B L q kq b hS hok9 hT i hi x y hx4 hy4
  rw [if_pos h9] at h
  exact h

theorem c_X6_ettB (l : Launch) (D : va_G) (a r k : Nat → Nat) (cI cT cN : ClassId) (xh xi xr pn : Nat) (pc : Nat → Int32) (rd : Nat × Nat × Nat) (B L : Nat → Int32) (q kq : RS) (b : Nat → Nat → Nat) (hS : SR b B L) (hok9 : hok b) (hT : Tok q) (i : Nat) (hi : i < q.1) (x y : Nat) (hx4 : x < 4) (hy4 : y < 4) (h9 : ¬ fda b q.2.2.2.1 i x y < 16) : ROi l yX6_enoughToTell (wA yX6_enoughToTell cX6_enoughToTell 7 (some .int)) ({ frames := 2, cells := 0, slots := 0, locals := 50 }) D (cTys cI cT cN) (cW a r k cI cT cN xh xi xr pn pc rd B L q kq) [.ref (a 0), .ref (r (3 + i)), .int (nI x), .int (nI y)] (-1) := by
  have h := c_X6_enoughToTell l D a r k cI cT cN xh xi xr pn pc rd B L q kq b hS hok9 hT i hi x y hx4 hy4
  rw [if_neg h9] at h
  exact h

set_option maxHeartbeats 4000000 in
set_option maxRecDepth 100000 in
theorem c_X6_sureOf (l : Launch) (D : va_G) (a r k : Nat → Nat) (cI cT cN : ClassId) (xh xi xr pn : Nat) (pc : Nat → Int32) (rd : Nat × Nat × Nat) (B L : Nat → Int32) (q kq : RS) (b : Nat → Nat → Nat) (hS : SR b B L) (hok9 : hok b) (hT : Tok q) (i : Nat) (hi : i < q.1) : ROi l yX6_sureOf (wA yX6_sureOf cX6_sureOf 6 (some .int)) ({ frames := 3, cells := 0, slots := 0, locals := 76 }) D (cTys cI cT cN) (cW a r k cI cT cN xh xi xr pn pc rd B L q kq) [.ref (a 0), .ref (r (3 + i))] (sur (fda b q.2.2.2.1 i)) := by
  refine go_start (by decide) (Nat.le_of_ble_eq_true rfl) ?_
  intro p e s m args below meth c ls F _ hB hl
  obtain ⟨hx, hb, hr, hlocks, hml, hown, hts⟩ := F
  obtain ⟨hP, hK⟩ := hB
  have hown : s.vm.findClass RX6 = some m.cls := hown
  have hl : lv_has ls 6 [(0, .ref (a 0)), (1, .ref (r (3 + i)))] := hl
  have ht5 := hT.1
  have ht8 := hT.2.1
  obtain ⟨hk0, hv0, hw0, hp0⟩ := hT.2.2.1 i hi
  refine lv_iconst (v := nI 0) hx hb dX6_sureOf_0 (by decide) ?_
  refine lv_istore_n (lv' := [(2, .int (nI 0)), (0, .ref (a 0)), (1, .ref (r (3 + i)))]) hx hb dX6_sureOf_1 rfl hl (by decide) rfl (fun ls hl => ?_)
  refine lv_iconst (v := nI 0) hx hb dX6_sureOf_2 (by decide) ?_
  refine lv_istore_n (lv' := [(3, .int (nI 0)), (2, .int (nI 0)), (0, .ref (a 0)), (1, .ref (r (3 + i)))]) hx hb dX6_sureOf_3 rfl hl (by decide) rfl (fun ls hl => ?_)
  refine lv_iload_n hx hb dX6_sureOf_4 rfl (lv_at hl 0 rfl) ?_
  refine lv_iconst (v := nI 4) hx hb dX6_sureOf_5 (by decide) ?_
  refine j_icmp_ge (tgt := 57) hx hb dX6_sureOf_6 (by decide) (nI_toInt (by decide)) (nI_toInt (by decide)) (fun c_1 => absurd c_1 (by omega)) (fun c_1 => ?_)
  refine lv_iload_n hx hb dX6_sureOf_9 rfl (lv_at hl 0 rfl) ?_
  refine lv_iconst (v := nI 1) hx hb dX6_sureOf_10 (by decide) ?_
  refine n_iadd hx hb dX6_sureOf_11 ?_
  refine lv_istore (lv' := [(4, .int (nI 1)), (3, .int (nI 0)), (2, .int (nI 0)), (0, .ref (a 0)), (1, .ref (r (3 + i)))]) hx hb dX6_sureOf_12 hl (by decide) rfl (fun ls hl => ?_)
  refine lv_iload hx hb dX6_sureOf_14 (lv_at hl 0 rfl) ?_
  refine lv_iconst (v := nI 4) hx hb dX6_sureOf_16 (by decide) ?_
  refine j_icmp_ge (tgt := 51) hx hb dX6_sureOf_17 (by decide) (nI_toInt (by decide)) (nI_toInt (by decide)) (fun c_2 => absurd c_2 (by omega)) (fun c_2 => ?_)
  refine lv_aload_n hx hb dX6_sureOf_20 rfl (lv_at hl 3 rfl) ?_
  refine lv_aload_n hx hb dX6_sureOf_21 rfl (lv_at hl 4 rfl) ?_
  refine lv_iload_n hx hb dX6_sureOf_22 rfl (lv_at hl 1 rfl) ?_
  refine lv_iload hx hb dX6_sureOf_23 (lv_at hl 0 rfl) ?_
  rcases Decidable.em (fda b q.2.2.2.1 i 0 1 < 16) with hf_3 | hf_3
  · refine ro_iV (n := 3) (As := [.ref (r (3 + i)), .int (nI 0), .int (nI 1)]) ⟨hx, hb, hml, hown, hts⟩ (c_X6_ettA l D a r k cI cT cN xh xi xr pn pc rd B L q kq b hS hok9 hT i hi 0 1 (by decide) (by decide) hf_3) (cwV 3 hts (gV mg_299 mg_301 mg_1005 mg_1 mg_302) rfl rfl rfl vd_X6_enoughToTell ⟨Nat.le_of_ble_eq_true rfl, Nat.le_of_ble_eq_true rfl⟩) (va_recv hK hP (ci := 6) (q0 := 0) rfl rfl) hK hP rfl hl.1 rfl (Nat.le_of_ble_eq_true rfl) dX6_sureOf_25 ⟨Nat.zero_le _, Nat.zero_le _⟩ ?_
    refine lv_istore (lv' := [(5, .int (nI (fda b q.2.2.2.1 i 0 1 + 1))), (4, .int (nI 1)), (3, .int (nI 0)), (2, .int (nI 0)), (0, .ref (a 0)), (1, .ref (r (3 + i)))]) hx hb dX6_sureOf_28 hl (by decide) rfl (fun ls hl => ?_)
    refine lv_iload hx hb dX6_sureOf_30 (lv_at hl 0 rfl) ?_
    refine lv_iconst (v := (-1)) hx hb dX6_sureOf_32 (by decide) ?_
    refine j_icmp_ne (tgt := 38) hx hb dX6_sureOf_33 (by decide) (nI_toInt (by omega)) (show ((-1) : Int32).toInt = -1 from by decide) (fun c_4 => ?_) (fun c_4 => absurd c_4 (by omega))
    refine lv_iload_n hx hb dX6_sureOf_38 rfl (lv_at hl 3 rfl) ?_
    refine lv_iload hx hb dX6_sureOf_39 (lv_at hl 0 rfl) ?_
    refine va_mmax hx hb (hml.trans hl.1.symm) hown (hts _ mg_309) (hts _ mg_310) (hts _ mg_9) (hts _ mg_311) (Nat.le_of_ble_eq_true rfl) (Nat.le_of_ble_eq_true rfl) (Nat.zero_le _) (Nat.zero_le _) dX6_sureOf_41 ?_
    refine n_top (n_max (by omega) (by omega)) ?_
    refine lv_istore_n (lv' := [(2, .int (nI (max 0 (fda b q.2.2.2.1 i 0 1 + 1)))), (5, .int (nI (fda b q.2.2.2.1 i 0 1 + 1))), (4, .int (nI 1)), (3, .int (nI 0)), (0, .ref (a 0)), (1, .ref (r (3 + i)))]) hx hb dX6_sureOf_44 rfl hl (by decide) rfl (fun ls hl => ?_)
    refine lv_iinc (v := nI 2) (lv' := [(4, .int (nI 2)), (2, .int (nI (max 0 (fda b q.2.2.2.1 i 0 1 + 1)))), (5, .int (nI (fda b q.2.2.2.1 i 0 1 + 1))), (3, .int (nI 0)), (0, .ref (a 0)), (1, .ref (r (3 + i)))]) hx hb dX6_sureOf_45 hl (k := 2) rfl rfl (by decide) rfl (fun ls hl => ?_)
    refine lv_goto (tgt := 14) hx hb dX6_sureOf_48 (by decide) ?_
    refine lv_iload hx hb dX6_sureOf_14 (lv_at hl 0 rfl) ?_
    refine lv_iconst (v := nI 4) hx hb dX6_sureOf_16 (by decide) ?_
    refine j_icmp_ge (tgt := 51) hx hb dX6_sureOf_17 (by decide) (nI_toInt (by decide)) (nI_toInt (by decide)) (fun c_5 => absurd c_5 (by omega)) (fun c_5 => ?_)
    refine lv_aload_n hx hb dX6_sureOf_20 rfl (lv_at hl 4 rfl) ?_
    refine lv_aload_n hx hb dX6_sureOf_21 rfl (lv_at hl 5 rfl) ?_
    refine lv_iload_n hx hb dX6_sureOf_22 rfl (lv_at hl 3 rfl) ?_
    refine lv_iload hx hb dX6_sureOf_23 (lv_at hl 0 rfl) ?_
    rcases Decidable.em (fda b q.2.2.2.1 i 0 2 < 16) with hf_6 | hf_6
    · refine ro_iV (n := 3) (As := [.ref (r (3 + i)), .int (nI 0), .int (nI 2)]) ⟨hx, hb, hml, hown, hts⟩ (c_X6_ettA l D a r k cI cT cN xh xi xr pn pc rd B L q kq b hS hok9 hT i hi 0 2 (by decide) (by decide) hf_6) (cwV 3 hts (gV mg_299 mg_301 mg_1005 mg_1 mg_302) rfl rfl rfl vd_X6_enoughToTell ⟨Nat.le_of_ble_eq_true rfl, Nat.le_of_ble_eq_true rfl⟩) (va_recv hK hP (ci := 6) (q0 := 0) rfl rfl) hK hP rfl hl.1 rfl (Nat.le_of_ble_eq_true rfl) dX6_sureOf_25 ⟨Nat.zero_le _, Nat.zero_le _⟩ ?_
      refine lv_istore (lv' := [(5, .int (nI (fda b q.2.2.2.1 i 0 2 + 1))), (4, .int (nI 2)), (2, .int (nI (max 0 (fda b q.2.2.2.1 i 0 1 + 1)))), (3, .int (nI 0)), (0, .ref (a 0)), (1, .ref (r (3 + i)))]) hx hb dX6_sureOf_28 hl (by decide) rfl (fun ls hl => ?_)
      refine lv_iload hx hb dX6_sureOf_30 (lv_at hl 0 rfl) ?_
      refine lv_iconst (v := (-1)) hx hb dX6_sureOf_32 (by decide) ?_
      refine j_icmp_ne (tgt := 38) hx hb dX6_sureOf_33 (by decide) (nI_toInt (by omega)) (show ((-1) : Int32).toInt = -1 from by decide) (fun c_7 => ?_) (fun c_7 => absurd c_7 (by omega))
      refine lv_iload_n hx hb dX6_sureOf_38 rfl (lv_at hl 2 rfl) ?_
      refine lv_iload hx hb dX6_sureOf_39 (lv_at hl 0 rfl) ?_
      refine va_mmax hx hb (hml.trans hl.1.symm) hown (hts _ mg_309) (hts _ mg_310) (hts _ mg_9) (hts _ mg_311) (Nat.le_of_ble_eq_true rfl) (Nat.le_of_ble_eq_true rfl) (Nat.zero_le _) (Nat.zero_le _) dX6_sureOf_41 ?_
      refine n_top (n_max (by omega) (by omega)) ?_
      refine lv_istore_n (lv' := [(2, .int (nI (max (max 0 (fda b q.2.2.2.1 i 0 1 + 1)) (fda b q.2.2.2.1 i 0 2 + 1)))), (5, .int (nI (fda b q.2.2.2.1 i 0 2 + 1))), (4, .int (nI 2)), (3, .int (nI 0)), (0, .ref (a 0)), (1, .ref (r (3 + i)))]) hx hb dX6_sureOf_44 rfl hl (by decide) rfl (fun ls hl => ?_)
      refine lv_iinc (v := nI 3) (lv' := [(4, .int (nI 3)), (2, .int (nI (max (max 0 (fda b q.2.2.2.1 i 0 1 + 1)) (fda b q.2.2.2.1 i 0 2 + 1)))), (5, .int (nI (fda b q.2.2.2.1 i 0 2 + 1))), (3, .int (nI 0)), (0, .ref (a 0)), (1, .ref (r (3 + i)))]) hx hb dX6_sureOf_45 hl (k := 2) rfl rfl (by decide) rfl (fun ls hl => ?_)
      refine lv_goto (tgt := 14) hx hb dX6_sureOf_48 (by decide) ?_
      refine lv_iload hx hb dX6_sureOf_14 (lv_at hl 0 rfl) ?_
      refine lv_iconst (v := nI 4) hx hb dX6_sureOf_16 (by decide) ?_
      refine j_icmp_ge (tgt := 51) hx hb dX6_sureOf_17 (by decide) (nI_toInt (by decide)) (nI_toInt (by decide)) (fun c_8 => absurd c_8 (by omega)) (fun c_8 => ?_)
      refine lv_aload_n hx hb dX6_sureOf_20 rfl (lv_at hl 4 rfl) ?_
      refine lv_aload_n hx hb dX6_sureOf_21 rfl (lv_at hl 5 rfl) ?_
      refine lv_iload_n hx hb dX6_sureOf_22 rfl (lv_at hl 3 rfl) ?_
      refine lv_iload hx hb dX6_sureOf_23 (lv_at hl 0 rfl) ?_
      rcases Decidable.em (fda b q.2.2.2.1 i 0 3 < 16) with hf_9 | hf_9
      · refine ro_iV (n := 3) (As := [.ref (r (3 + i)), .int (nI 0), .int (nI 3)]) ⟨hx, hb, hml, hown, hts⟩ (c_X6_ettA l D a r k cI cT cN xh xi xr pn pc rd B L q kq b hS hok9 hT i hi 0 3 (by decide) (by decide) hf_9) (cwV 3 hts (gV mg_299 mg_301 mg_1005 mg_1 mg_302) rfl rfl rfl vd_X6_enoughToTell ⟨Nat.le_of_ble_eq_true rfl, Nat.le_of_ble_eq_true rfl⟩) (va_recv hK hP (ci := 6) (q0 := 0) rfl rfl) hK hP rfl hl.1 rfl (Nat.le_of_ble_eq_true rfl) dX6_sureOf_25 ⟨Nat.zero_le _, Nat.zero_le _⟩ ?_
        refine lv_istore (lv' := [(5, .int (nI (fda b q.2.2.2.1 i 0 3 + 1))), (4, .int (nI 3)), (2, .int (nI (max (max 0 (fda b q.2.2.2.1 i 0 1 + 1)) (fda b q.2.2.2.1 i 0 2 + 1)))), (3, .int (nI 0)), (0, .ref (a 0)), (1, .ref (r (3 + i)))]) hx hb dX6_sureOf_28 hl (by decide) rfl (fun ls hl => ?_)
        refine lv_iload hx hb dX6_sureOf_30 (lv_at hl 0 rfl) ?_
        refine lv_iconst (v := (-1)) hx hb dX6_sureOf_32 (by decide) ?_
        refine j_icmp_ne (tgt := 38) hx hb dX6_sureOf_33 (by decide) (nI_toInt (by omega)) (show ((-1) : Int32).toInt = -1 from by decide) (fun c_10 => ?_) (fun c_10 => absurd c_10 (by omega))
        refine lv_iload_n hx hb dX6_sureOf_38 rfl (lv_at hl 2 rfl) ?_
        refine lv_iload hx hb dX6_sureOf_39 (lv_at hl 0 rfl) ?_
        refine va_mmax hx hb (hml.trans hl.1.symm) hown (hts _ mg_309) (hts _ mg_310) (hts _ mg_9) (hts _ mg_311) (Nat.le_of_ble_eq_true rfl) (Nat.le_of_ble_eq_true rfl) (Nat.zero_le _) (Nat.zero_le _) dX6_sureOf_41 ?_
        refine n_top (n_max (by omega) (by omega)) ?_
        refine lv_istore_n (lv' := [(2, .int (nI (max (max (max 0 (fda b q.2.2.2.1 i 0 1 + 1)) (fda b q.2.2.2.1 i 0 2 + 1)) (fda b q.2.2.2.1 i 0 3 + 1)))), (5, .int (nI (fda b q.2.2.2.1 i 0 3 + 1))), (4, .int (nI 3)), (3, .int (nI 0)), (0, .ref (a 0)), (1, .ref (r (3 + i)))]) hx hb dX6_sureOf_44 rfl hl (by decide) rfl (fun ls hl => ?_)
        refine lv_iinc (v := nI 4) (lv' := [(4, .int (nI 4)), (2, .int (nI (max (max (max 0 (fda b q.2.2.2.1 i 0 1 + 1)) (fda b q.2.2.2.1 i 0 2 + 1)) (fda b q.2.2.2.1 i 0 3 + 1)))), (5, .int (nI (fda b q.2.2.2.1 i 0 3 + 1))), (3, .int (nI 0)), (0, .ref (a 0)), (1, .ref (r (3 + i)))]) hx hb dX6_sureOf_45 hl (k := 2) rfl rfl (by decide) rfl (fun ls hl => ?_)
        refine lv_goto (tgt := 14) hx hb dX6_sureOf_48 (by decide) ?_
        refine lv_iload hx hb dX6_sureOf_14 (lv_at hl 0 rfl) ?_
        refine lv_iconst (v := nI 4) hx hb dX6_sureOf_16 (by decide) ?_
        refine j_icmp_ge (tgt := 51) hx hb dX6_sureOf_17 (by decide) (nI_toInt (by decide)) (nI_toInt (by decide)) (fun c_11 => ?_) (fun c_11 => absurd c_11 (by omega))
        refine lv_iinc (v := nI 1) (lv' := [(3, .int (nI 1)), (4, .int (nI 4)), (2, .int (nI (max (max (max 0 (fda b q.2.2.2.1 i 0 1 + 1)) (fda b q.2.2.2.1 i 0 2 + 1)) (fda b q.2.2.2.1 i 0 3 + 1)))), (5, .int (nI (fda b q.2.2.2.1 i 0 3 + 1))), (0, .ref (a 0)), (1, .ref (r (3 + i)))]) hx hb dX6_sureOf_51 hl (k := 3) rfl rfl (by decide) rfl (fun ls hl => ?_)
        refine lv_goto (tgt := 4) hx hb dX6_sureOf_54 (by decide) ?_
        refine lv_iload_n hx hb dX6_sureOf_4 rfl (lv_at hl 0 rfl) ?_
        refine lv_iconst (v := nI 4) hx hb dX6_sureOf_5 (by decide) ?_
        refine j_icmp_ge (tgt := 57) hx hb dX6_sureOf_6 (by decide) (nI_toInt (by decide)) (nI_toInt (by decide)) (fun c_12 => absurd c_12 (by omega)) (fun c_12 => ?_)
        refine lv_iload_n hx hb dX6_sureOf_9 rfl (lv_at hl 0 rfl) ?_
        refine lv_iconst (v := nI 1) hx hb dX6_sureOf_10 (by decide) ?_
        refine n_iadd hx hb dX6_sureOf_11 ?_
        refine lv_istore (lv' := [(4, .int (nI 2)), (3, .int (nI 1)), (2, .int (nI (max (max (max 0 (fda b q.2.2.2.1 i 0 1 + 1)) (fda b q.2.2.2.1 i 0 2 + 1)) (fda b q.2.2.2.1 i 0 3 + 1)))), (5, .int (nI (fda b q.2.2.2.1 i 0 3 + 1))), (0, .ref (a 0)), (1, .ref (r (3 + i)))]) hx hb dX6_sureOf_12 hl (by decide) rfl (fun ls hl => ?_)
        refine lv_iload hx hb dX6_sureOf_14 (lv_at hl 0 rfl) ?_
        refine lv_iconst (v := nI 4) hx hb dX6_sureOf_16 (by decide) ?_
        refine j_icmp_ge (tgt := 51) hx hb dX6_sureOf_17 (by decide) (nI_toInt (by decide)) (nI_toInt (by decide)) (fun c_13 => absurd c_13 (by omega)) (fun c_13 => ?_)
        refine lv_aload_n hx hb dX6_sureOf_20 rfl (lv_at hl 4 rfl) ?_
        refine lv_aload_n hx hb dX6_sureOf_21 rfl (lv_at hl 5 rfl) ?_
        refine lv_iload_n hx hb dX6_sureOf_22 rfl (lv_at hl 1 rfl) ?_
        refine lv_iload hx hb dX6_sureOf_23 (lv_at hl 0 rfl) ?_
        rcases Decidable.em (fda b q.2.2.2.1 i 1 2 < 16) with hf_14 | hf_14
        · refine ro_iV (n := 3) (As := [.ref (r (3 + i)), .int (nI 1), .int (nI 2)]) ⟨hx, hb, hml, hown, hts⟩ (c_X6_ettA l D a r k cI cT cN xh xi xr pn pc rd B L q kq b hS hok9 hT i hi 1 2 (by decide) (by decide) hf_14) (cwV 3 hts (gV mg_299 mg_301 mg_1005 mg_1 mg_302) rfl rfl rfl vd_X6_enoughToTell ⟨Nat.le_of_ble_eq_true rfl, Nat.le_of_ble_eq_true rfl⟩) (va_recv hK hP (ci := 6) (q0 := 0) rfl rfl) hK hP rfl hl.1 rfl (Nat.le_of_ble_eq_true rfl) dX6_sureOf_25 ⟨Nat.zero_le _, Nat.zero_le _⟩ ?_
          refine lv_istore (lv' := [(5, .int (nI (fda b q.2.2.2.1 i 1 2 + 1))), (4, .int (nI 2)), (3, .int (nI 1)), (2, .int (nI (max (max (max 0 (fda b q.2.2.2.1 i 0 1 + 1)) (fda b q.2.2.2.1 i 0 2 + 1)) (fda b q.2.2.2.1 i 0 3 + 1)))), (0, .ref (a 0)), (1, .ref (r (3 + i)))]) hx hb dX6_sureOf_28 hl (by decide) rfl (fun ls hl => ?_)
          refine lv_iload hx hb dX6_sureOf_30 (lv_at hl 0 rfl) ?_
          refine lv_iconst (v := (-1)) hx hb dX6_sureOf_32 (by decide) ?_
          refine j_icmp_ne (tgt := 38) hx hb dX6_sureOf_33 (by decide) (nI_toInt (by omega)) (show ((-1) : Int32).toInt = -1 from by decide) (fun c_15 => ?_) (fun c_15 => absurd c_15 (by omega))
          refine lv_iload_n hx hb dX6_sureOf_38 rfl (lv_at hl 3 rfl) ?_
          refine lv_iload hx hb dX6_sureOf_39 (lv_at hl 0 rfl) ?_
          refine va_mmax hx hb (hml.trans hl.1.symm) hown (hts _ mg_309) (hts _ mg_310) (hts _ mg_9) (hts _ mg_311) (Nat.le_of_ble_eq_true rfl) (Nat.le_of_ble_eq_true rfl) (Nat.zero_le _) (Nat.zero_le _) dX6_sureOf_41 ?_
          refine n_top (n_max (by omega) (by omega)) ?_
          refine lv_istore_n (lv' := [(2, .int (nI (max (max (max (max 0 (fda b q.2.2.2.1 i 0 1 + 1)) (fda b q.2.2.2.1 i 0 2 + 1)) (fda b q.2.2.2.1 i 0 3 + 1)) (fda b q.2.2.2.1 i 1 2 + 1)))), (5, .int (nI (fda b q.2.2.2.1 i 1 2 + 1))), (4, .int (nI 2)), (3, .int (nI 1)), (0, .ref (a 0)), (1, .ref (r (3 + i)))]) hx hb dX6_sureOf_44 rfl hl (by decide) rfl (fun ls hl => ?_)
          refine lv_iinc (v := nI 3) (lv' := [(4, .int (nI 3)), (2, .int (nI (max (max (max (max 0 (fda b q.2.2.2.1 i 0 1 + 1)) (fda b q.2.2.2.1 i 0 2 + 1)) (fda b q.2.2.2.1 i 0 3 + 1)) (fda b q.2.2.2.1 i 1 2 + 1)))), (5, .int (nI (fda b q.2.2.2.1 i 1 2 + 1))), (3, .int (nI 1)), (0, .ref (a 0)), (1, .ref (r (3 + i)))]) hx hb dX6_sureOf_45 hl (k := 2) rfl rfl (by decide) rfl (fun ls hl => ?_)
          refine lv_goto (tgt := 14) hx hb dX6_sureOf_48 (by decide) ?_
          refine lv_iload hx hb dX6_sureOf_14 (lv_at hl 0 rfl) ?_
          refine lv_iconst (v := nI 4) hx hb dX6_sureOf_16 (by decide) ?_
          refine j_icmp_ge (tgt := 51) hx hb dX6_sureOf_17 (by decide) (nI_toInt (by decide)) (nI_toInt (by decide)) (fun c_16 => absurd c_16 (by omega)) (fun c_16 => ?_)
          refine lv_aload_n hx hb dX6_sureOf_20 rfl (lv_at hl 4 rfl) ?_
          refine lv_aload_n hx hb dX6_sureOf_21 rfl (lv_at hl 5 rfl) ?_
          refine lv_iload_n hx hb dX6_sureOf_22 rfl (lv_at hl 3 rfl) ?_
          refine lv_iload hx hb dX6_sureOf_23 (lv_at hl 0 rfl) ?_
          rcases Decidable.em (fda b q.2.2.2.1 i 1 3 < 16) with hf_17 | hf_17
          · refine ro_iV (n := 3) (As := [.ref (r (3 + i)), .int (nI 1), .int (nI 3)]) ⟨hx, hb, hml, hown, hts⟩ (c_X6_ettA l D a r k cI cT cN xh xi xr pn pc rd B L q kq b hS hok9 hT i hi 1 3 (by decide) (by decide) hf_17) (cwV 3 hts (gV mg_299 mg_301 mg_1005 mg_1 mg_302) rfl rfl rfl vd_X6_enoughToTell ⟨Nat.le_of_ble_eq_true rfl, Nat.le_of_ble_eq_true rfl⟩) (va_recv hK hP (ci := 6) (q0 := 0) rfl rfl) hK hP rfl hl.1 rfl (Nat.le_of_ble_eq_true rfl) dX6_sureOf_25 ⟨Nat.zero_le _, Nat.zero_le _⟩ ?_
            refine lv_istore (lv' := [(5, .int (nI (fda b q.2.2.2.1 i 1 3 + 1))), (4, .int (nI 3)), (2, .int (nI (max (max (max (max 0 (fda b q.2.2.2.1 i 0 1 + 1)) (fda b q.2.2.2.1 i 0 2 + 1)) (fda b q.2.2.2.1 i 0 3 + 1)) (fda b q.2.2.2.1 i 1 2 + 1)))), (3, .int (nI 1)), (0, .ref (a 0)), (1, .ref (r (3 + i)))]) hx hb dX6_sureOf_28 hl (by decide) rfl (fun ls hl => ?_)
            refine lv_iload hx hb dX6_sureOf_30 (lv_at hl 0 rfl) ?_
            refine lv_iconst (v := (-1)) hx hb dX6_sureOf_32 (by decide) ?_
            refine j_icmp_ne (tgt := 38) hx hb dX6_sureOf_33 (by decide) (nI_toInt (by omega)) (show ((-1) : Int32).toInt = -1 from by decide) (fun c_18 => ?_) (fun c_18 => absurd c_18 (by omega))
            refine lv_iload_n hx hb dX6_sureOf_38 rfl (lv_at hl 2 rfl) ?_
            refine lv_iload hx hb dX6_sureOf_39 (lv_at hl 0 rfl) ?_
            refine va_mmax hx hb (hml.trans hl.1.symm) hown (hts _ mg_309) (hts _ mg_310) (hts _ mg_9) (hts _ mg_311) (Nat.le_of_ble_eq_true rfl) (Nat.le_of_ble_eq_true rfl) (Nat.zero_le _) (Nat.zero_le _) dX6_sureOf_41 ?_
            refine n_top (n_max (by omega) (by omega)) ?_
            refine lv_istore_n (lv' := [(2, .int (nI (max (max (max (max (max 0 (fda b q.2.2.2.1 i 0 1 + 1)) (fda b q.2.2.2.1 i 0 2 + 1)) (fda b q.2.2.2.1 i 0 3 + 1)) (fda b q.2.2.2.1 i 1 2 + 1)) (fda b q.2.2.2.1 i 1 3 + 1)))), (5, .int (nI (fda b q.2.2.2.1 i 1 3 + 1))), (4, .int (nI 3)), (3, .int (nI 1)), (0, .ref (a 0)), (1, .ref (r (3 + i)))]) hx hb dX6_sureOf_44 rfl hl (by decide) rfl (fun ls hl => ?_)
            refine lv_iinc (v := nI 4) (lv' := [(4, .int (nI 4)), (2, .int (nI (max (max (max (max (max 0 (fda b q.2.2.2.1 i 0 1 + 1)) (fda b q.2.2.2.1 i 0 2 + 1)) (fda b q.2.2.2.1 i 0 3 + 1)) (fda b q.2.2.2.1 i 1 2 + 1)) (fda b q.2.2.2.1 i 1 3 + 1)))), (5, .int (nI (fda b q.2.2.2.1 i 1 3 + 1))), (3, .int (nI 1)), (0, .ref (a 0)), (1, .ref (r (3 + i)))]) hx hb dX6_sureOf_45 hl (k := 2) rfl rfl (by decide) rfl (fun ls hl => ?_)
            refine lv_goto (tgt := 14) hx hb dX6_sureOf_48 (by decide) ?_
            refine lv_iload hx hb dX6_sureOf_14 (lv_at hl 0 rfl) ?_
            refine lv_iconst (v := nI 4) hx hb dX6_sureOf_16 (by decide) ?_
            refine j_icmp_ge (tgt := 51) hx hb dX6_sureOf_17 (by decide) (nI_toInt (by decide)) (nI_toInt (by decide)) (fun c_19 => ?_) (fun c_19 => absurd c_19 (by omega))
            refine lv_iinc (v := nI 2) (lv' := [(3, .int (nI 2)), (4, .int (nI 4)), (2, .int (nI (max (max (max (max (max 0 (fda b q.2.2.2.1 i 0 1 + 1)) (fda b q.2.2.2.1 i 0 2 + 1)) (fda b q.2.2.2.1 i 0 3 + 1)) (fda b q.2.2.2.1 i 1 2 + 1)) (fda b q.2.2.2.1 i 1 3 + 1)))), (5, .int (nI (fda b q.2.2.2.1 i 1 3 + 1))), (0, .ref (a 0)), (1, .ref (r (3 + i)))]) hx hb dX6_sureOf_51 hl (k := 3) rfl rfl (by decide) rfl (fun ls hl => ?_)
            refine lv_goto (tgt := 4) hx hb dX6_sureOf_54 (by decide) ?_
            refine lv_iload_n hx hb dX6_sureOf_4 rfl (lv_at hl 0 rfl) ?_
            refine lv_iconst (v := nI 4) hx hb dX6_sureOf_5 (by decide) ?_
            refine j_icmp_ge (tgt := 57) hx hb dX6_sureOf_6 (by decide) (nI_toInt (by decide)) (nI_toInt (by decide)) (fun c_20 => absurd c_20 (by omega)) (fun c_20 => ?_)
            refine lv_iload_n hx hb dX6_sureOf_9 rfl (lv_at hl 0 rfl) ?_
            refine lv_iconst (v := nI 1) hx hb dX6_sureOf_10 (by decide) ?_
            refine n_iadd hx hb dX6_sureOf_11 ?_
            refine lv_istore (lv' := [(4, .int (nI 3)), (3, .int (nI 2)), (2, .int (nI (max (max (max (max (max 0 (fda b q.2.2.2.1 i 0 1 + 1)) (fda b q.2.2.2.1 i 0 2 + 1)) (fda b q.2.2.2.1 i 0 3 + 1)) (fda b q.2.2.2.1 i 1 2 + 1)) (fda b q.2.2.2.1 i 1 3 + 1)))), (5, .int (nI (fda b q.2.2.2.1 i 1 3 + 1))), (0, .ref (a 0)), (1, .ref (r (3 + i)))]) hx hb dX6_sureOf_12 hl (by decide) rfl (fun ls hl => ?_)
            refine lv_iload hx hb dX6_sureOf_14 (lv_at hl 0 rfl) ?_
            refine lv_iconst (v := nI 4) hx hb dX6_sureOf_16 (by decide) ?_
            refine j_icmp_ge (tgt := 51) hx hb dX6_sureOf_17 (by decide) (nI_toInt (by decide)) (nI_toInt (by decide)) (fun c_21 => absurd c_21 (by omega)) (fun c_21 => ?_)
            refine lv_aload_n hx hb dX6_sureOf_20 rfl (lv_at hl 4 rfl) ?_
            refine lv_aload_n hx hb dX6_sureOf_21 rfl (lv_at hl 5 rfl) ?_
            refine lv_iload_n hx hb dX6_sureOf_22 rfl (lv_at hl 1 rfl) ?_
            refine lv_iload hx hb dX6_sureOf_23 (lv_at hl 0 rfl) ?_
            rcases Decidable.em (fda b q.2.2.2.1 i 2 3 < 16) with hf_22 | hf_22
            · refine ro_iV (n := 3) (As := [.ref (r (3 + i)), .int (nI 2), .int (nI 3)]) ⟨hx, hb, hml, hown, hts⟩ (c_X6_ettA l D a r k cI cT cN xh xi xr pn pc rd B L q kq b hS hok9 hT i hi 2 3 (by decide) (by decide) hf_22) (cwV 3 hts (gV mg_299 mg_301 mg_1005 mg_1 mg_302) rfl rfl rfl vd_X6_enoughToTell ⟨Nat.le_of_ble_eq_true rfl, Nat.le_of_ble_eq_true rfl⟩) (va_recv hK hP (ci := 6) (q0 := 0) rfl rfl) hK hP rfl hl.1 rfl (Nat.le_of_ble_eq_true rfl) dX6_sureOf_25 ⟨Nat.zero_le _, Nat.zero_le _⟩ ?_
              refine lv_istore (lv' := [(5, .int (nI (fda b q.2.2.2.1 i 2 3 + 1))), (4, .int (nI 3)), (3, .int (nI 2)), (2, .int (nI (max (max (max (max (max 0 (fda b q.2.2.2.1 i 0 1 + 1)) (fda b q.2.2.2.1 i 0 2 + 1)) (fda b q.2.2.2.1 i 0 3 + 1)) (fda b q.2.2.2.1 i 1 2 + 1)) (fda b q.2.2.2.1 i 1 3 + 1)))), (0, .ref (a 0)), (1, .ref (r (3 + i)))]) hx hb dX6_sureOf_28 hl (by decide) rfl (fun ls hl => ?_)
              refine lv_iload hx hb dX6_sureOf_30 (lv_at hl 0 rfl) ?_
              refine lv_iconst (v := (-1)) hx hb dX6_sureOf_32 (by decide) ?_
              refine j_icmp_ne (tgt := 38) hx hb dX6_sureOf_33 (by decide) (nI_toInt (by omega)) (show ((-1) : Int32).toInt = -1 from by decide) (fun c_23 => ?_) (fun c_23 => absurd c_23 (by omega))
              refine lv_iload_n hx hb dX6_sureOf_38 rfl (lv_at hl 3 rfl) ?_
              refine lv_iload hx hb dX6_sureOf_39 (lv_at hl 0 rfl) ?_
              refine va_mmax hx hb (hml.trans hl.1.symm) hown (hts _ mg_309) (hts _ mg_310) (hts _ mg_9) (hts _ mg_311) (Nat.le_of_ble_eq_true rfl) (Nat.le_of_ble_eq_true rfl) (Nat.zero_le _) (Nat.zero_le _) dX6_sureOf_41 ?_
              refine n_top (n_max (by omega) (by omega)) ?_
              refine lv_istore_n (lv' := [(2, .int (nI (max (max (max (max (max (max 0 (fda b q.2.2.2.1 i 0 1 + 1)) (fda b q.2.2.2.1 i 0 2 + 1)) (fda b q.2.2.2.1 i 0 3 + 1)) (fda b q.2.2.2.1 i 1 2 + 1)) (fda b q.2.2.2.1 i 1 3 + 1)) (fda b q.2.2.2.1 i 2 3 + 1)))), (5, .int (nI (fda b q.2.2.2.1 i 2 3 + 1))), (4, .int (nI 3)), (3, .int (nI 2)), (0, .ref (a 0)), (1, .ref (r (3 + i)))]) hx hb dX6_sureOf_44 rfl hl (by decide) rfl (fun ls hl => ?_)
              refine lv_iinc (v := nI 4) (lv' := [(4, .int (nI 4)), (2, .int (nI (max (max (max (max (max (max 0 (fda b q.2.2.2.1 i 0 1 + 1)) (fda b q.2.2.2.1 i 0 2 + 1)) (fda b q.2.2.2.1 i 0 3 + 1)) (fda b q.2.2.2.1 i 1 2 + 1)) (fda b q.2.2.2.1 i 1 3 + 1)) (fda b q.2.2.2.1 i 2 3 + 1)))), (5, .int (nI (fda b q.2.2.2.1 i 2 3 + 1))), (3, .int (nI 2)), (0, .ref (a 0)), (1, .ref (r (3 + i)))]) hx hb dX6_sureOf_45 hl (k := 2) rfl rfl (by decide) rfl (fun ls hl => ?_)
              refine lv_goto (tgt := 14) hx hb dX6_sureOf_48 (by decide) ?_
              refine lv_iload hx hb dX6_sureOf_14 (lv_at hl 0 rfl) ?_
              refine lv_iconst (v := nI 4) hx hb dX6_sureOf_16 (by decide) ?_
              refine j_icmp_ge (tgt := 51) hx hb dX6_sureOf_17 (by decide) (nI_toInt (by decide)) (nI_toInt (by decide)) (fun c_24 => ?_) (fun c_24 => absurd c_24 (by omega))
              refine lv_iinc (v := nI 3) (lv' := [(3, .int (nI 3)), (4, .int (nI 4)), (2, .int (nI (max (max (max (max (max (max 0 (fda b q.2.2.2.1 i 0 1 + 1)) (fda b q.2.2.2.1 i 0 2 + 1)) (fda b q.2.2.2.1 i 0 3 + 1)) (fda b q.2.2.2.1 i 1 2 + 1)) (fda b q.2.2.2.1 i 1 3 + 1)) (fda b q.2.2.2.1 i 2 3 + 1)))), (5, .int (nI (fda b q.2.2.2.1 i 2 3 + 1))), (0, .ref (a 0)), (1, .ref (r (3 + i)))]) hx hb dX6_sureOf_51 hl (k := 3) rfl rfl (by decide) rfl (fun ls hl => ?_)
              refine lv_goto (tgt := 4) hx hb dX6_sureOf_54 (by decide) ?_
              refine lv_iload_n hx hb dX6_sureOf_4 rfl (lv_at hl 0 rfl) ?_
              refine lv_iconst (v := nI 4) hx hb dX6_sureOf_5 (by decide) ?_
              refine j_icmp_ge (tgt := 57) hx hb dX6_sureOf_6 (by decide) (nI_toInt (by decide)) (nI_toInt (by decide)) (fun c_25 => absurd c_25 (by omega)) (fun c_25 => ?_)
              refine lv_iload_n hx hb dX6_sureOf_9 rfl (lv_at hl 0 rfl) ?_
              refine lv_iconst (v := nI 1) hx hb dX6_sureOf_10 (by decide) ?_
              refine n_iadd hx hb dX6_sureOf_11 ?_
              refine lv_istore (lv' := [(4, .int (nI 4)), (3, .int (nI 3)), (2, .int (nI (max (max (max (max (max (max 0 (fda b q.2.2.2.1 i 0 1 + 1)) (fda b q.2.2.2.1 i 0 2 + 1)) (fda b q.2.2.2.1 i 0 3 + 1)) (fda b q.2.2.2.1 i 1 2 + 1)) (fda b q.2.2.2.1 i 1 3 + 1)) (fda b q.2.2.2.1 i 2 3 + 1)))), (5, .int (nI (fda b q.2.2.2.1 i 2 3 + 1))), (0, .ref (a 0)), (1, .ref (r (3 + i)))]) hx hb dX6_sureOf_12 hl (by decide) rfl (fun ls hl => ?_)
              refine lv_iload hx hb dX6_sureOf_14 (lv_at hl 0 rfl) ?_
              refine lv_iconst (v := nI 4) hx hb dX6_sureOf_16 (by decide) ?_
              refine j_icmp_ge (tgt := 51) hx hb dX6_sureOf_17 (by decide) (nI_toInt (by decide)) (nI_toInt (by decide)) (fun c_26 => ?_) (fun c_26 => absurd c_26 (by omega))
              refine lv_iinc (v := nI 4) (lv' := [(3, .int (nI 4)), (4, .int (nI 4)), (2, .int (nI (max (max (max (max (max (max 0 (fda b q.2.2.2.1 i 0 1 + 1)) (fda b q.2.2.2.1 i 0 2 + 1)) (fda b q.2.2.2.1 i 0 3 + 1)) (fda b q.2.2.2.1 i 1 2 + 1)) (fda b q.2.2.2.1 i 1 3 + 1)) (fda b q.2.2.2.1 i 2 3 + 1)))), (5, .int (nI (fda b q.2.2.2.1 i 2 3 + 1))), (0, .ref (a 0)), (1, .ref (r (3 + i)))]) hx hb dX6_sureOf_51 hl (k := 1) rfl rfl (by decide) rfl (fun ls hl => ?_)
              refine lv_goto (tgt := 4) hx hb dX6_sureOf_54 (by decide) ?_
              refine lv_iload_n hx hb dX6_sureOf_4 rfl (lv_at hl 0 rfl) ?_
              refine lv_iconst (v := nI 4) hx hb dX6_sureOf_5 (by decide) ?_
              refine j_icmp_ge (tgt := 57) hx hb dX6_sureOf_6 (by decide) (nI_toInt (by decide)) (nI_toInt (by decide)) (fun c_27 => ?_) (fun c_27 => absurd c_27 (by omega))
              refine lv_iload_n hx hb dX6_sureOf_57 rfl (lv_at hl 2 rfl) ?_
              exact ro_iret hx hb hr hlocks (by rw [sur, if_neg (by omega)]) dX6_sureOf_58
            · refine ro_iV (n := 3) (As := [.ref (r (3 + i)), .int (nI 2), .int (nI 3)]) ⟨hx, hb, hml, hown, hts⟩ (c_X6_ettB l D a r k cI cT cN xh xi xr pn pc rd B L q kq b hS hok9 hT i hi 2 3 (by decide) (by decide) hf_22) (cwV 3 hts (gV mg_299 mg_301 mg_1005 mg_1 mg_302) rfl rfl rfl vd_X6_enoughToTell ⟨Nat.le_of_ble_eq_true rfl, Nat.le_of_ble_eq_true rfl⟩) (va_recv hK hP (ci := 6) (q0 := 0) rfl rfl) hK hP rfl hl.1 rfl (Nat.le_of_ble_eq_true rfl) dX6_sureOf_25 ⟨Nat.zero_le _, Nat.zero_le _⟩ ?_
              refine lv_istore (lv' := [(5, .int (-1)), (4, .int (nI 3)), (3, .int (nI 2)), (2, .int (nI (max (max (max (max (max 0 (fda b q.2.2.2.1 i 0 1 + 1)) (fda b q.2.2.2.1 i 0 2 + 1)) (fda b q.2.2.2.1 i 0 3 + 1)) (fda b q.2.2.2.1 i 1 2 + 1)) (fda b q.2.2.2.1 i 1 3 + 1)))), (0, .ref (a 0)), (1, .ref (r (3 + i)))]) hx hb dX6_sureOf_28 hl (by decide) rfl (fun ls hl => ?_)
              refine lv_iload hx hb dX6_sureOf_30 (lv_at hl 0 rfl) ?_
              refine lv_iconst (v := (-1)) hx hb dX6_sureOf_32 (by decide) ?_
              refine j_icmp_ne (tgt := 38) hx hb dX6_sureOf_33 (by decide) (show ((-1) : Int32).toInt = -1 from by decide) (show ((-1) : Int32).toInt = -1 from by decide) (fun c_28 => absurd c_28 (by omega)) (fun c_28 => ?_)
              refine lv_iconst (v := (-1)) hx hb dX6_sureOf_36 (by decide) ?_
              exact ro_iret hx hb hr hlocks (by rw [sur, if_pos (by first | exact Or.inl (by have := fda_le b q.2.2.2.1 i 0 1; omega) | exact Or.inr (Or.inl (by have := fda_le b q.2.2.2.1 i 0 2; omega)) | exact Or.inr (Or.inr (Or.inl (by have := fda_le b q.2.2.2.1 i 0 3; omega))) | exact Or.inr (Or.inr (Or.inr (Or.inl (by have := fda_le b q.2.2.2.1 i 1 2; omega)))) | exact Or.inr (Or.inr (Or.inr (Or.inr (Or.inl (by have := fda_le b q.2.2.2.1 i 1 3; omega))))) | exact Or.inr (Or.inr (Or.inr (Or.inr (Or.inr (by have := fda_le b q.2.2.2.1 i 2 3; omega))))))]) dX6_sureOf_37
          · refine ro_iV (n := 3) (As := [.ref (r (3 + i)), .int (nI 1), .int (nI 3)]) ⟨hx, hb, hml, hown, hts⟩ (c_X6_ettB l D a r k cI cT cN xh xi xr pn pc rd B L q kq b hS hok9 hT i hi 1 3 (by decide) (by decide) hf_17) (cwV 3 hts (gV mg_299 mg_301 mg_1005 mg_1 mg_302) rfl rfl rfl vd_X6_enoughToTell ⟨Nat.le_of_ble_eq_true rfl, Nat.le_of_ble_eq_true rfl⟩) (va_recv hK hP (ci := 6) (q0 := 0) rfl rfl) hK hP rfl hl.1 rfl (Nat.le_of_ble_eq_true rfl) dX6_sureOf_25 ⟨Nat.zero_le _, Nat.zero_le _⟩ ?_
            refine lv_istore (lv' := [(5, .int (-1)), (4, .int (nI 3)), (2, .int (nI (max (max (max (max 0 (fda b q.2.2.2.1 i 0 1 + 1)) (fda b q.2.2.2.1 i 0 2 + 1)) (fda b q.2.2.2.1 i 0 3 + 1)) (fda b q.2.2.2.1 i 1 2 + 1)))), (3, .int (nI 1)), (0, .ref (a 0)), (1, .ref (r (3 + i)))]) hx hb dX6_sureOf_28 hl (by decide) rfl (fun ls hl => ?_)
            refine lv_iload hx hb dX6_sureOf_30 (lv_at hl 0 rfl) ?_
            refine lv_iconst (v := (-1)) hx hb dX6_sureOf_32 (by decide) ?_
            refine j_icmp_ne (tgt := 38) hx hb dX6_sureOf_33 (by decide) (show ((-1) : Int32).toInt = -1 from by decide) (show ((-1) : Int32).toInt = -1 from by decide) (fun c_29 => absurd c_29 (by omega)) (fun c_29 => ?_)
            refine lv_iconst (v := (-1)) hx hb dX6_sureOf_36 (by decide) ?_
            exact ro_iret hx hb hr hlocks (by rw [sur, if_pos (by first | exact Or.inl (by have := fda_le b q.2.2.2.1 i 0 1; omega) | exact Or.inr (Or.inl (by have := fda_le b q.2.2.2.1 i 0 2; omega)) | exact Or.inr (Or.inr (Or.inl (by have := fda_le b q.2.2.2.1 i 0 3; omega))) | exact Or.inr (Or.inr (Or.inr (Or.inl (by have := fda_le b q.2.2.2.1 i 1 2; omega)))) | exact Or.inr (Or.inr (Or.inr (Or.inr (Or.inl (by have := fda_le b q.2.2.2.1 i 1 3; omega))))) | exact Or.inr (Or.inr (Or.inr (Or.inr (Or.inr (by have := fda_le b q.2.2.2.1 i 2 3; omega))))))]) dX6_sureOf_37
        · refine ro_iV (n := 3) (As := [.ref (r (3 + i)), .int (nI 1), .int (nI 2)]) ⟨hx, hb, hml, hown, hts⟩ (c_X6_ettB l D a r k cI cT cN xh xi xr pn pc rd B L q kq b hS hok9 hT i hi 1 2 (by decide) (by decide) hf_14) (cwV 3 hts (gV mg_299 mg_301 mg_1005 mg_1 mg_302) rfl rfl rfl vd_X6_enoughToTell ⟨Nat.le_of_ble_eq_true rfl, Nat.le_of_ble_eq_true rfl⟩) (va_recv hK hP (ci := 6) (q0 := 0) rfl rfl) hK hP rfl hl.1 rfl (Nat.le_of_ble_eq_true rfl) dX6_sureOf_25 ⟨Nat.zero_le _, Nat.zero_le _⟩ ?_
          refine lv_istore (lv' := [(5, .int (-1)), (4, .int (nI 2)), (3, .int (nI 1)), (2, .int (nI (max (max (max 0 (fda b q.2.2.2.1 i 0 1 + 1)) (fda b q.2.2.2.1 i 0 2 + 1)) (fda b q.2.2.2.1 i 0 3 + 1)))), (0, .ref (a 0)), (1, .ref (r (3 + i)))]) hx hb dX6_sureOf_28 hl (by decide) rfl (fun ls hl => ?_)
          refine lv_iload hx hb dX6_sureOf_30 (lv_at hl 0 rfl) ?_
          refine lv_iconst (v := (-1)) hx hb dX6_sureOf_32 (by decide) ?_
          refine j_icmp_ne (tgt := 38) hx hb dX6_sureOf_33 (by decide) (show ((-1) : Int32).toInt = -1 from by decide) (show ((-1) : Int32).toInt = -1 from by decide) (fun c_30 => absurd c_30 (by omega)) (fun c_30 => ?_)
          refine lv_iconst (v := (-1)) hx hb dX6_sureOf_36 (by decide) ?_
          exact ro_iret hx hb hr hlocks (by rw [sur, if_pos (by first | exact Or.inl (by have := fda_le b q.2.2.2.1 i 0 1; omega) | exact Or.inr (Or.inl (by have := fda_le b q.2.2.2.1 i 0 2; omega)) | exact Or.inr (Or.inr (Or.inl (by have := fda_le b q.2.2.2.1 i 0 3; omega))) | exact Or.inr (Or.inr (Or.inr (Or.inl (by have := fda_le b q.2.2.2.1 i 1 2; omega)))) | exact Or.inr (Or.inr (Or.inr (Or.inr (Or.inl (by have := fda_le b q.2.2.2.1 i 1 3; omega))))) | exact Or.inr (Or.inr (Or.inr (Or.inr (Or.inr (by have := fda_le b q.2.2.2.1 i 2 3; omega))))))]) dX6_sureOf_37
      · refine ro_iV (n := 3) (As := [.ref (r (3 + i)), .int (nI 0), .int (nI 3)]) ⟨hx, hb, hml, hown, hts⟩ (c_X6_ettB l D a r k cI cT cN xh xi xr pn pc rd B L q kq b hS hok9 hT i hi 0 3 (by decide) (by decide) hf_9) (cwV 3 hts (gV mg_299 mg_301 mg_1005 mg_1 mg_302) rfl rfl rfl vd_X6_enoughToTell ⟨Nat.le_of_ble_eq_true rfl, Nat.le_of_ble_eq_true rfl⟩) (va_recv hK hP (ci := 6) (q0 := 0) rfl rfl) hK hP rfl hl.1 rfl (Nat.le_of_ble_eq_true rfl) dX6_sureOf_25 ⟨Nat.zero_le _, Nat.zero_le _⟩ ?_
        refine lv_istore (lv' := [(5, .int (-1)), (4, .int (nI 3)), (2, .int (nI (max (max 0 (fda b q.2.2.2.1 i 0 1 + 1)) (fda b q.2.2.2.1 i 0 2 + 1)))), (3, .int (nI 0)), (0, .ref (a 0)), (1, .ref (r (3 + i)))]) hx hb dX6_sureOf_28 hl (by decide) rfl (fun ls hl => ?_)
        refine lv_iload hx hb dX6_sureOf_30 (lv_at hl 0 rfl) ?_
        refine lv_iconst (v := (-1)) hx hb dX6_sureOf_32 (by decide) ?_
        refine j_icmp_ne (tgt := 38) hx hb dX6_sureOf_33 (by decide) (show ((-1) : Int32).toInt = -1 from by decide) (show ((-1) : Int32).toInt = -1 from by decide) (fun c_31 => absurd c_31 (by omega)) (fun c_31 => ?_)
        refine lv_iconst (v := (-1)) hx hb dX6_sureOf_36 (by decide) ?_
        exact ro_iret hx hb hr hlocks (by rw [sur, if_pos (by first | exact Or.inl (by have := fda_le b q.2.2.2.1 i 0 1; omega) | exact Or.inr (Or.inl (by have := fda_le b q.2.2.2.1 i 0 2; omega)) | exact Or.inr (Or.inr (Or.inl (by have := fda_le b q.2.2.2.1 i 0 3; omega))) | exact Or.inr (Or.inr (Or.inr (Or.inl (by have := fda_le b q.2.2.2.1 i 1 2; omega)))) | exact Or.inr (Or.inr (Or.inr (Or.inr (Or.inl (by have := fda_le b q.2.2.2.1 i 1 3; omega))))) | exact Or.inr (Or.inr (Or.inr (Or.inr (Or.inr (by have := fda_le b q.2.2.2.1 i 2 3; omega))))))]) dX6_sureOf_37
    · refine ro_iV (n := 3) (As := [.ref (r (3 + i)), .int (nI 0), .int (nI 2)]) ⟨hx, hb, hml, hown, hts⟩ (c_X6_ettB l D a r k cI cT cN xh xi xr pn pc rd B L q kq b hS hok9 hT i hi 0 2 (by decide) (by decide) hf_6) (cwV 3 hts (gV mg_299 mg_301 mg_1005 mg_1 mg_302) rfl rfl rfl vd_X6_enoughToTell ⟨Nat.le_of_ble_eq_true rfl, Nat.le_of_ble_eq_true rfl⟩) (va_recv hK hP (ci := 6) (q0 := 0) rfl rfl) hK hP rfl hl.1 rfl (Nat.le_of_ble_eq_true rfl) dX6_sureOf_25 ⟨Nat.zero_le _, Nat.zero_le _⟩ ?_
      refine lv_istore (lv' := [(5, .int (-1)), (4, .int (nI 2)), (2, .int (nI (max 0 (fda b q.2.2.2.1 i 0 1 + 1)))), (3, .int (nI 0)), (0, .ref (a 0)), (1, .ref (r (3 + i)))]) hx hb dX6_sureOf_28 hl (by decide) rfl (fun ls hl => ?_)
      refine lv_iload hx hb dX6_sureOf_30 (lv_at hl 0 rfl) ?_
      refine lv_iconst (v := (-1)) hx hb dX6_sureOf_32 (by decide) ?_
      refine j_icmp_ne (tgt := 38) hx hb dX6_sureOf_33 (by decide) (show ((-1) : Int32).toInt = -1 from by decide) (show ((-1) : Int32).toInt = -1 from by decide) (fun c_32 => absurd c_32 (by omega)) (fun c_32 => ?_)
      refine lv_iconst (v := (-1)) hx hb dX6_sureOf_36 (by decide) ?_
      exact ro_iret hx hb hr hlocks (by rw [sur, if_pos (by first | exact Or.inl (by have := fda_le b q.2.2.2.1 i 0 1; omega) | exact Or.inr (Or.inl (by have := fda_le b q.2.2.2.1 i 0 2; omega)) | exact Or.inr (Or.inr (Or.inl (by have := fda_le b q.2.2.2.1 i 0 3; omega))) | exact Or.inr (Or.inr (Or.inr (Or.inl (by have := fda_le b q.2.2.2.1 i 1 2; omega)))) | exact Or.inr (Or.inr (Or.inr (Or.inr (Or.inl (by have := fda_le b q.2.2.2.1 i 1 3; omega))))) | exact Or.inr (Or.inr (Or.inr (Or.inr (Or.inr (by have := fda_le b q.2.2.2.1 i 2 3; omega))))))]) dX6_sureOf_37
  · refine ro_iV (n := 3) (As := [.ref (r (3 + i)), .int (nI 0), .int (nI 1)]) ⟨hx, hb, hml, hown, hts⟩ (c_X6_ettB l D a r k cI cT cN xh xi xr pn pc rd B L q kq b hS hok9 hT i hi 0 1 (by decide) (by decide) hf_3) (cwV 3 hts (gV mg_299 mg_301 mg_1005 mg_1 mg_302) rfl rfl rfl vd_X6_enoughToTell ⟨Nat.le_of_ble_eq_true rfl, Nat.le_of_ble_eq_true rfl⟩) (va_recv hK hP (ci := 6) (q0 := 0) rfl rfl) hK hP rfl hl.1 rfl (Nat.le_of_ble_eq_true rfl) dX6_sureOf_25 ⟨Nat.zero_le _, Nat.zero_le _⟩ ?_
    refine lv_istore (lv' := [(5, .int (-1)), (4, .int (nI 1)), (3, .int (nI 0)), (2, .int (nI 0)), (0, .ref (a 0)), (1, .ref (r (3 + i)))]) hx hb dX6_sureOf_28 hl (by decide) rfl (fun ls hl => ?_)
    refine lv_iload hx hb dX6_sureOf_30 (lv_at hl 0 rfl) ?_
    refine lv_iconst (v := (-1)) hx hb dX6_sureOf_32 (by decide) ?_
    refine j_icmp_ne (tgt := 38) hx hb dX6_sureOf_33 (by decide) (show ((-1) : Int32).toInt = -1 from by decide) (show ((-1) : Int32).toInt = -1 from by decide) (fun c_33 => absurd c_33 (by omega)) (fun c_33 => ?_)
    refine lv_iconst (v := (-1)) hx hb dX6_sureOf_36 (by decide) ?_
    exact ro_iret hx hb hr hlocks (by rw [sur, if_pos (by first | exact Or.inl (by have := fda_le b q.2.2.2.1 i 0 1; omega) | exact Or.inr (Or.inl (by have := fda_le b q.2.2.2.1 i 0 2; omega)) | exact Or.inr (Or.inr (Or.inl (by have := fda_le b q.2.2.2.1 i 0 3; omega))) | exact Or.inr (Or.inr (Or.inr (Or.inl (by have := fda_le b q.2.2.2.1 i 1 2; omega)))) | exact Or.inr (Or.inr (Or.inr (Or.inr (Or.inl (by have := fda_le b q.2.2.2.1 i 1 3; omega))))) | exact Or.inr (Or.inr (Or.inr (Or.inr (Or.inr (by have := fda_le b q.2.2.2.1 i 2 3; omega))))))]) dX6_sureOf_37

set_option maxHeartbeats 4000000 in
set_option maxRecDepth 100000 in
theorem c_X6_slipsOf (l : Launch) (D : va_G) (a r k : Nat → Nat) (cI cT cN : ClassId) (xh xi xr pn : Nat) (pc : Nat → Int32) (rd : Nat × Nat × Nat) (B L : Nat → Int32) (q kq : RS) (b : Nat → Nat → Nat) (hS : SR b B L) (hok9 : hok b) (hT : Tok q) (i : Nat) (hi : i < q.1) (v : Nat) (hv : v < 4) : ROi l yX6_slipsOf (wA yX6_slipsOf cX6_slipsOf 6 (some .int)) ({ frames := 2, cells := 0, slots := 0, locals := 50 }) D (cTys cI cT cN) (cW a r k cI cT cN xh xi xr pn pc rd B L q kq) [.ref (a 0), .ref (r (3 + i)), .int (nI v)] (nI (sly b q.2.2.2.1 i q.2.2.2.2 q.2.1 v)) := by
  refine go_start (by decide) (Nat.le_of_ble_eq_true rfl) ?_
  intro p e s m args below meth c ls F _ hB hl
  obtain ⟨hx, hb, hr, hlocks, hml, hown, hts⟩ := F
  obtain ⟨hP, hK⟩ := hB
  have hown : s.vm.findClass RX6 = some m.cls := hown
  have hl : lv_has ls 6 [(0, .ref (a 0)), (1, .ref (r (3 + i))), (2, .int (nI v))] := hl
  have ht5 := hT.1
  have ht8 := hT.2.1
  obtain ⟨hk0, hv0, hw0, hp0⟩ := hT.2.2.1 i hi
  refine lv_iconst (v := nI 0) hx hb dX6_slipsOf_0 (by decide) ?_
  refine lv_istore_n (lv' := [(3, .int (nI 0)), (0, .ref (a 0)), (1, .ref (r (3 + i))), (2, .int (nI v))]) hx hb dX6_slipsOf_1 rfl hl (by decide) rfl (fun ls hl => ?_)
  refine lv_iconst (v := nI 0) hx hb dX6_slipsOf_2 (by decide) ?_
  refine lv_istore (lv' := [(4, .int (nI 0)), (3, .int (nI 0)), (0, .ref (a 0)), (1, .ref (r (3 + i))), (2, .int (nI v))]) hx hb dX6_slipsOf_3 hl (by decide) rfl (fun ls hl => ?_)
  have K_1 : ∀ n9 : Nat, ∀ (x : Nat) (n : Nat), n ≤ q.2.1 → x = cnt (slf b (q.2.2.2.1 i 0) i q.2.2.2.2 v) n → q.2.1 - n < n9 → ∀ ls : Array Slot, lv_has ls 6 [(0, .ref (a 0)), (1, .ref (r (3 + i))), (2, .int (nI v)), (3, .int (nI x)), (4, .int (nI n))] → W p l e (headSpec (wA yX6_slipsOf cX6_slipsOf 6 (some .int)) ({ frames := 2, cells := 0, slots := 0, locals := 50 })).room s m args below meth c s.heap [] 0 0 (MQ below (vp_Si (fun z9 => z9 = nI (sly b q.2.2.2.1 i q.2.2.2.2 q.2.1 v))) args s 0 0 (fun _ => False)) (F0 m 5 ls []) := by
    intro n9
    induction n9 with
    | zero => intros; omega
    | succ n9 ih_2 =>
      intro x n hn hx0 hn9 ls hl
      have hxl := cnt_le (slf b (q.2.2.2.1 i 0) i q.2.2.2.2 v) n
      refine lv_iload hx hb dX6_slipsOf_5 (lv_at hl 4 rfl) ?_
      refine lv_aload_n hx hb dX6_slipsOf_7 rfl (lv_at hl 0 rfl) ?_
      refine va_get (D := D) (ci := 6) (v := .ref (r 0)) (C := RX6) (T := TX6) (N := 7) hx hb hts iX6 hown hK hP 0 rfl rfl 2 (by decide) (hts _ mg_153) (fun _ h9 => h9) rfl dX6_slipsOf_8 ?_
      refine va_get (D := D) (ci := 3) (v := .int (nI q.2.1)) (C := RX3) (T := TX3) (N := 5) hx hb hts iX3 hown hK hP 7 rfl rfl 3 (by decide) (hts _ mg_137) (fun _ h9 => h9) rfl dX6_slipsOf_11 ?_
      refine j_icmp_ge (tgt := 87) hx hb dX6_slipsOf_14 (by decide) (nI_toInt (by omega)) (nI_toInt (by omega)) (fun c_3 => ?_) (fun c_3 => ?_)
      · have e9 : n = q.2.1 := by omega
        refine lv_iload_n hx hb dX6_slipsOf_87 rfl (lv_at hl 3 rfl) ?_
        exact ro_iret hx hb hr hlocks (by rw [hx0, e9]; rfl) dX6_slipsOf_88
      · obtain ⟨hn0, hn1, hn2, hn3⟩ := hT.2.2.2 n (by omega)
        refine lv_aload_n hx hb dX6_slipsOf_17 rfl (lv_at hl 0 rfl) ?_
        refine va_get (D := D) (ci := 6) (v := .ref (r 0)) (C := RX6) (T := TX6) (N := 7) hx hb hts iX6 hown hK hP 0 rfl rfl 2 (by decide) (hts _ mg_153) (fun _ h9 => h9) rfl dX6_slipsOf_18 ?_
        refine lv_iload hx hb dX6_slipsOf_21 (lv_at hl 4 rfl) ?_
        refine ro_qV (n := 1) (As := [.int (nI n)]) ⟨hx, hb, hml, hown, hts⟩ (c_X3_noteAt l D r cI cT cN q n (by omega) (by omega)) (cwV 1 hts (gV mg_320 mg_321 mg_322 mg_5 mg_323) rfl rfl rfl vd_X3_noteAt ⟨Nat.le_of_ble_eq_true rfl, Nat.le_of_ble_eq_true rfl⟩) (va_recv hK hP (ci := 3) (q0 := 7) rfl rfl) hK (cW_r hP) rfl hl.1 rfl (Nat.le_of_ble_eq_true rfl) dX6_slipsOf_23 ⟨Nat.zero_le _, Nat.zero_le _⟩ ?_
        refine lv_astore (lv' := [(5, .ref (r (8 + n))), (0, .ref (a 0)), (1, .ref (r (3 + i))), (2, .int (nI v)), (3, .int (nI x)), (4, .int (nI n))]) hx hb dX6_slipsOf_26 hl (by decide) rfl (fun ls hl => ?_)
        refine lv_aload hx hb dX6_slipsOf_28 (lv_at hl 0 rfl) ?_
        refine lv_ifnull hx hb dX6_slipsOf_30 ?_
        refine lv_aload hx hb dX6_slipsOf_33 (lv_at hl 0 rfl) ?_
        refine va_get (D := D) (ci := 0) (v := .int (nI (q.2.2.2.2 n 0))) (C := RX0) (T := TX0) (N := 4) hx hb hts iX0 hown hK hP (15 + n) (cW_note (by omega)) rfl 0 (by decide) (hts _ mg_113) (fun _ h9 => h9) rfl dX6_slipsOf_35 ?_
        refine lv_aload_n hx hb dX6_slipsOf_38 rfl (lv_at hl 2 rfl) ?_
        refine va_get (D := D) (ci := 5) (v := .int (nI i)) (C := RX5) (T := TX5) (N := 5) hx hb hts iX5 hown hK hP (10 + i) (cW_tap (by omega)) rfl 0 (by decide) (hts _ mg_80) (fun _ h9 => h9) rfl dX6_slipsOf_39 ?_
        refine j_icmp_eq (tgt := 48) hx hb dX6_slipsOf_42 (by decide) (nI_toInt (by omega)) (nI_toInt (by omega)) (fun c_4 => ?_) (fun c_4 => ?_)
        · refine lv_aload_n hx hb dX6_slipsOf_48 rfl (lv_at hl 1 rfl) ?_
          refine va_get (D := D) (ci := 6) (v := .ref (a 4)) (C := RX6) (T := TX6) (N := 7) hx hb hts iX6 hown hK hP 0 rfl rfl 1 (by decide) (hts _ mg_152) (fun _ h9 => h9) rfl dX6_slipsOf_49 ?_
          refine lv_aload_n hx hb dX6_slipsOf_52 rfl (lv_at hl 2 rfl) ?_
          refine va_get (D := D) (ci := 5) (v := .int (nI (q.2.2.2.1 i 0))) (C := RX5) (T := TX5) (N := 5) hx hb hts iX5 hown hK hP (10 + i) (cW_tap (by omega)) rfl 1 (by decide) (hts _ mg_83) (fun _ h9 => h9) rfl dX6_slipsOf_53 ?_
          refine lv_iload_n hx hb dX6_slipsOf_56 rfl (lv_at hl 3 rfl) ?_
          refine lv_aload hx hb dX6_slipsOf_57 (lv_at hl 0 rfl) ?_
          refine va_get (D := D) (ci := 0) (v := .int (nI (q.2.2.2.2 n 3))) (C := RX0) (T := TX0) (N := 4) hx hb hts iX0 hown hK hP (15 + n) (cW_note (by omega)) rfl 3 (by decide) (hts _ mg_122) (fun _ h9 => h9) rfl dX6_slipsOf_59 ?_
          refine lv_aload hx hb dX6_slipsOf_62 (lv_at hl 0 rfl) ?_
          refine va_get (D := D) (ci := 0) (v := .int (nI (q.2.2.2.2 n 1))) (C := RX0) (T := TX0) (N := 4) hx hb hts iX0 hown hK hP (15 + n) (cW_note (by omega)) rfl 1 (by decide) (hts _ mg_116) (fun _ h9 => h9) rfl dX6_slipsOf_64 ?_
          refine ro_iV (n := 4) (As := [.int (nI (q.2.2.2.1 i 0)), .int (nI v), .int (nI (q.2.2.2.2 n 3)), .int (nI (q.2.2.2.2 n 1))]) ⟨hx, hb, hml, hown, hts⟩ (c_X4_dripBy l D a cI cT cN B L b hS hok9 (q.2.2.2.1 i 0) v (q.2.2.2.2 n 3) (q.2.2.2.2 n 1) (by omega) (by omega) (by omega) (by omega)) (cwV 4 hts (gV mg_303 mg_304 mg_305 mg_4 mg_306) rfl rfl rfl vd_X4_dripBy ⟨Nat.le_of_ble_eq_true rfl, Nat.le_of_ble_eq_true rfl⟩) (va_recv hK hP (ci := 4) (q0 := 4) rfl rfl) hK (cW_s hP) rfl hl.1 rfl (Nat.le_of_ble_eq_true rfl) dX6_slipsOf_67 ⟨Nat.zero_le _, Nat.zero_le _⟩ ?_
          have hd1 := sd_le hok9 (kd := q.2.2.2.1 i 0) (w := q.2.2.2.2 n 3) (n := q.2.2.2.2 n 1) hv
          refine lv_aload hx hb dX6_slipsOf_70 (lv_at hl 0 rfl) ?_
          refine va_get (D := D) (ci := 0) (v := .int (nI (q.2.2.2.2 n 2))) (C := RX0) (T := TX0) (N := 4) hx hb hts iX0 hown hK hP (15 + n) (cW_note (by omega)) rfl 2 (by decide) (hts _ mg_119) (fun _ h9 => h9) rfl dX6_slipsOf_72 ?_
          refine j_icmp_eq (tgt := 81) hx hb dX6_slipsOf_75 (by decide) (nI_toInt (by omega)) (nI_toInt (by omega)) (fun c_5 => ?_) (fun c_5 => ?_)
          · refine lv_iinc (v := nI (n + 1)) (lv' := [(4, .int (nI (n + 1))), (5, .ref (r (8 + n))), (0, .ref (a 0)), (1, .ref (r (3 + i))), (2, .int (nI v)), (3, .int (nI x))]) hx hb dX6_slipsOf_81 hl (k := 5) rfl (fr_inc1 _) (by decide) rfl (fun ls hl => ?_)
            refine lv_goto (tgt := 5) hx hb dX6_slipsOf_84 (by decide) ?_
            exact ih_2 x (n + 1) (by omega) (by first | (rw [cnt_t hz, hx0]; done) | (rw [cnt_f hz, hx0]; done) | (rw [cnt_f (decide_eq_false (fun z => by omega)), hx0]; done)) (by omega) _ (lv_sub hl [2, 3, 4, 5, 0] rfl)
          · have hz : slf b (q.2.2.2.1 i 0) i q.2.2.2.2 v n = true := decide_eq_true (by constructor <;> omega)
            refine lv_iinc (v := nI (x + 1)) (lv' := [(3, .int (nI (x + 1))), (5, .ref (r (8 + n))), (0, .ref (a 0)), (1, .ref (r (3 + i))), (2, .int (nI v)), (4, .int (nI n))]) hx hb dX6_slipsOf_78 hl (k := 4) rfl (fr_inc1 _) (by decide) rfl (fun ls hl => ?_)
            refine lv_iinc (v := nI (n + 1)) (lv' := [(4, .int (nI (n + 1))), (3, .int (nI (x + 1))), (5, .ref (r (8 + n))), (0, .ref (a 0)), (1, .ref (r (3 + i))), (2, .int (nI v))]) hx hb dX6_slipsOf_81 hl (k := 5) rfl (fr_inc1 _) (by decide) rfl (fun ls hl => ?_)
            refine lv_goto (tgt := 5) hx hb dX6_slipsOf_84 (by decide) ?_
            exact ih_2 (x + 1) (n + 1) (by omega) (by first | (rw [cnt_t hz, hx0]; done) | (rw [cnt_f hz, hx0]; done) | (rw [cnt_f (decide_eq_false (fun z => by omega)), hx0]; done)) (by omega) _ (lv_sub hl [3, 4, 5, 1, 0] rfl)
        · have hz : slf b (q.2.2.2.1 i 0) i q.2.2.2.2 v n = false := decide_eq_false (fun z => by omega)
          refine lv_goto (tgt := 81) hx hb dX6_slipsOf_45 (by decide) ?_
          refine lv_iinc (v := nI (n + 1)) (lv' := [(4, .int (nI (n + 1))), (5, .ref (r (8 + n))), (0, .ref (a 0)), (1, .ref (r (3 + i))), (2, .int (nI v)), (3, .int (nI x))]) hx hb dX6_slipsOf_81 hl (k := 5) rfl (fr_inc1 _) (by decide) rfl (fun ls hl => ?_)
          refine lv_goto (tgt := 5) hx hb dX6_slipsOf_84 (by decide) ?_
          exact ih_2 x (n + 1) (by omega) (by first | (rw [cnt_t hz, hx0]; done) | (rw [cnt_f hz, hx0]; done) | (rw [cnt_f (decide_eq_false (fun z => by omega)), hx0]; done)) (by omega) _ (lv_sub hl [2, 3, 4, 5, 0] rfl)
  exact K_1 (q.2.1 - 0 + 1) 0 0 (by omega) (rfl) (Nat.lt_succ_self _) _ (lv_sub hl [2, 3, 4, 1, 0] rfl)

set_option maxHeartbeats 4000000 in
set_option maxRecDepth 100000 in
theorem c_X6_saysOf (l : Launch) (D : va_G) (a r k : Nat → Nat) (cI cT cN : ClassId) (xh xi xr pn : Nat) (pc : Nat → Int32) (rd : Nat × Nat × Nat) (B L : Nat → Int32) (q kq : RS) (b : Nat → Nat → Nat) (hS : SR b B L) (hok9 : hok b) (hT : Tok q) (i : Nat) (hi : i < q.1) : ROi l yX6_saysOf (wA yX6_saysOf cX6_saysOf 4 (some .int)) ({ frames := 3, cells := 0, slots := 0, locals := 75 }) D (cTys cI cT cN) (cW a r k cI cT cN xh xi xr pn pc rd B L q kq) [.ref (a 0), .ref (r (3 + i))] (nI (sys (sly b q.2.2.2.1 i q.2.2.2.2 q.2.1) 4)) := by
  refine go_start (by decide) (Nat.le_of_ble_eq_true rfl) ?_
  intro p e s m args below meth c ls F _ hB hl
  obtain ⟨hx, hb, hr, hlocks, hml, hown, hts⟩ := F
  obtain ⟨hP, hK⟩ := hB
  have hown : s.vm.findClass RX6 = some m.cls := hown
  have hl : lv_has ls 4 [(0, .ref (a 0)), (1, .ref (r (3 + i)))] := hl
  have ht5 := hT.1
  have ht8 := hT.2.1
  obtain ⟨hk0, hv0, hw0, hp0⟩ := hT.2.2.1 i hi
  refine lv_iconst (v := nI 0) hx hb dX6_saysOf_0 (by decide) ?_
  refine lv_istore_n (lv' := [(2, .int (nI 0)), (0, .ref (a 0)), (1, .ref (r (3 + i)))]) hx hb dX6_saysOf_1 rfl hl (by decide) rfl (fun ls hl => ?_)
  refine lv_iconst (v := nI 0) hx hb dX6_saysOf_2 (by decide) ?_
  refine lv_istore_n (lv' := [(3, .int (nI 0)), (2, .int (nI 0)), (0, .ref (a 0)), (1, .ref (r (3 + i)))]) hx hb dX6_saysOf_3 rfl hl (by decide) rfl (fun ls hl => ?_)
  have K_1 : ∀ n9 : Nat, ∀ (x : Nat) (v : Nat), v ≤ 4 → x = sys (sly b q.2.2.2.1 i q.2.2.2.2 q.2.1) v → 4 - v < n9 → ∀ ls : Array Slot, lv_has ls 4 [(0, .ref (a 0)), (1, .ref (r (3 + i))), (2, .int (nI x)), (3, .int (nI v))] → W p l e (headSpec (wA yX6_saysOf cX6_saysOf 4 (some .int)) ({ frames := 3, cells := 0, slots := 0, locals := 75 })).room s m args below meth c s.heap [] 0 0 (MQ below (vp_Si (fun z9 => z9 = nI (sys (sly b q.2.2.2.1 i q.2.2.2.2 q.2.1) 4))) args s 0 0 (fun _ => False)) (F0 m 4 ls []) := by
    intro n9
    induction n9 with
    | zero => intros; omega
    | succ n9 ih_2 =>
      intro x v hv hx0 hn9 ls hl
      refine lv_iload_n hx hb dX6_saysOf_4 rfl (lv_at hl 3 rfl) ?_
      refine lv_iconst (v := nI 4) hx hb dX6_saysOf_5 (by decide) ?_
      refine j_icmp_ge (tgt := 30) hx hb dX6_saysOf_6 (by decide) (nI_toInt (by omega)) (nI_toInt (by decide)) (fun c_3 => ?_) (fun c_3 => ?_)
      · refine lv_iload_n hx hb dX6_saysOf_30 rfl (lv_at hl 2 rfl) ?_
        exact ro_iret hx hb hr hlocks (by rw [hx0, show v = 4 by omega]) dX6_saysOf_31
      · refine lv_aload_n hx hb dX6_saysOf_9 rfl (lv_at hl 0 rfl) ?_
        refine lv_aload_n hx hb dX6_saysOf_10 rfl (lv_at hl 1 rfl) ?_
        refine lv_iload_n hx hb dX6_saysOf_11 rfl (lv_at hl 3 rfl) ?_
        refine ro_iV (n := 2) (As := [.ref (r (3 + i)), .int (nI v)]) ⟨hx, hb, hml, hown, hts⟩ (c_X6_slipsOf l D a r k cI cT cN xh xi xr pn pc rd B L q kq b hS hok9 hT i hi v (by omega)) (cwV 2 hts (gV mg_316 mg_318 mg_1007 mg_1 mg_319) rfl rfl rfl vd_X6_slipsOf ⟨Nat.le_of_ble_eq_true rfl, Nat.le_of_ble_eq_true rfl⟩) (va_recv hK hP (ci := 6) (q0 := 0) rfl rfl) hK hP rfl hl.1 rfl (Nat.le_of_ble_eq_true rfl) dX6_saysOf_12 ⟨Nat.zero_le _, Nat.zero_le _⟩ ?_
        have hs9 : (sly b q.2.2.2.1 i q.2.2.2.2 q.2.1) v ≤ q.2.1 := slp_le _ _ _ _ _ _
        refine j_if_ne (tgt := 24) hx hb dX6_saysOf_15 (by decide) (nI_toInt (by omega)) (fun c_4 => ?_) (fun c_4 => ?_)
        · refine lv_iinc (v := nI (v + 1)) (lv' := [(3, .int (nI (v + 1))), (0, .ref (a 0)), (1, .ref (r (3 + i))), (2, .int (nI x))]) hx hb dX6_saysOf_24 hl (k := 3) rfl (fr_inc1 _) (by decide) rfl (fun ls hl => ?_)
          refine lv_goto (tgt := 4) hx hb dX6_saysOf_27 (by decide) ?_
          exact ih_2 x (v + 1) (by omega) (by first | (rw [hx0]; exact sys_t (by omega)) | (rw [hx0]; exact sys_f (by omega))) (by omega) _ (lv_sub hl [1, 2, 3, 0] rfl)
        · refine lv_iload_n hx hb dX6_saysOf_18 rfl (lv_at hl 2 rfl) ?_
          refine lv_iconst (v := nI 1) hx hb dX6_saysOf_19 (by decide) ?_
          refine lv_iload_n hx hb dX6_saysOf_20 rfl (lv_at hl 3 rfl) ?_
          refine n_ishl hx hb dX6_saysOf_21 (by omega) (by rcases (show v = 0 ∨ v = 1 ∨ v = 2 ∨ v = 3 by omega) with rfl | rfl | rfl | rfl <;> decide) ?_
          refine n_ior hx hb dX6_saysOf_22 ?_
          refine lv_istore_n (lv' := [(2, .int (nI (x ||| (1 * 2 ^ v)))), (0, .ref (a 0)), (1, .ref (r (3 + i))), (3, .int (nI v))]) hx hb dX6_saysOf_23 rfl hl (by decide) rfl (fun ls hl => ?_)
          refine lv_iinc (v := nI (v + 1)) (lv' := [(3, .int (nI (v + 1))), (2, .int (nI (x ||| (1 * 2 ^ v)))), (0, .ref (a 0)), (1, .ref (r (3 + i)))]) hx hb dX6_saysOf_24 hl (k := 3) rfl (fr_inc1 _) (by decide) rfl (fun ls hl => ?_)
          refine lv_goto (tgt := 4) hx hb dX6_saysOf_27 (by decide) ?_
          exact ih_2 (x ||| (1 * 2 ^ v)) (v + 1) (by omega) (by first | (rw [hx0]; exact sys_t (by omega)) | (rw [hx0]; exact sys_f (by omega))) (by omega) _ (lv_sub hl [2, 3, 1, 0] rfl)
  exact K_1 (4 - 0 + 1) 0 0 (by omega) (rfl) (Nat.lt_succ_self _) _ (lv_sub hl [2, 3, 1, 0] rfl)

set_option maxHeartbeats 4000000 in
set_option maxRecDepth 100000 in
theorem c_X6_likelyOf (l : Launch) (D : va_G) (a r k : Nat → Nat) (cI cT cN : ClassId) (xh xi xr pn : Nat) (pc : Nat → Int32) (rd : Nat × Nat × Nat) (B L : Nat → Int32) (q kq : RS) (b : Nat → Nat → Nat) (hS : SR b B L) (hok9 : hok b) (hT : Tok q) (i : Nat) (hi : i < q.1) : ROi l yX6_likelyOf (wA yX6_likelyOf cX6_likelyOf 4 (some .int)) ({ frames := 3, cells := 0, slots := 0, locals := 75 }) D (cTys cI cT cN) (cW a r k cI cT cN xh xi xr pn pc rd B L q kq) [.ref (a 0), .ref (r (3 + i))] (nI (lky (sly b q.2.2.2.1 i q.2.2.2.2 q.2.1) 3)) := by
  refine go_start (by decide) (Nat.le_of_ble_eq_true rfl) ?_
  intro p e s m args below meth c ls F _ hB hl
  obtain ⟨hx, hb, hr, hlocks, hml, hown, hts⟩ := F
  obtain ⟨hP, hK⟩ := hB
  have hown : s.vm.findClass RX6 = some m.cls := hown
  have hl : lv_has ls 4 [(0, .ref (a 0)), (1, .ref (r (3 + i)))] := hl
  have ht5 := hT.1
  have ht8 := hT.2.1
  obtain ⟨hk0, hv0, hw0, hp0⟩ := hT.2.2.1 i hi
  refine lv_iconst (v := nI 0) hx hb dX6_likelyOf_0 (by decide) ?_
  refine lv_istore_n (lv' := [(2, .int (nI 0)), (0, .ref (a 0)), (1, .ref (r (3 + i)))]) hx hb dX6_likelyOf_1 rfl hl (by decide) rfl (fun ls hl => ?_)
  refine lv_iconst (v := nI 1) hx hb dX6_likelyOf_2 (by decide) ?_
  refine lv_istore_n (lv' := [(3, .int (nI 1)), (2, .int (nI 0)), (0, .ref (a 0)), (1, .ref (r (3 + i)))]) hx hb dX6_likelyOf_3 rfl hl (by decide) rfl (fun ls hl => ?_)
  have K_1 : ∀ n9 : Nat, ∀ (x : Nat) (v : Nat), v ≤ 3 → x = lky (sly b q.2.2.2.1 i q.2.2.2.2 q.2.1) v → 3 - v < n9 → ∀ ls : Array Slot, lv_has ls 4 [(0, .ref (a 0)), (1, .ref (r (3 + i))), (2, .int (nI x)), (3, .int (nI (v + 1)))] → W p l e (headSpec (wA yX6_likelyOf cX6_likelyOf 4 (some .int)) ({ frames := 3, cells := 0, slots := 0, locals := 75 })).room s m args below meth c s.heap [] 0 0 (MQ below (vp_Si (fun z9 => z9 = nI (lky (sly b q.2.2.2.1 i q.2.2.2.2 q.2.1) 3))) args s 0 0 (fun _ => False)) (F0 m 4 ls []) := by
    intro n9
    induction n9 with
    | zero => intros; omega
    | succ n9 ih_2 =>
      intro x v hv hx0 hn9 ls hl
      refine lv_iload_n hx hb dX6_likelyOf_4 rfl (lv_at hl 3 rfl) ?_
      refine lv_iconst (v := nI 4) hx hb dX6_likelyOf_5 (by decide) ?_
      refine j_icmp_ge (tgt := 32) hx hb dX6_likelyOf_6 (by decide) (nI_toInt (by omega)) (nI_toInt (by decide)) (fun c_3 => ?_) (fun c_3 => ?_)
      · refine lv_iload_n hx hb dX6_likelyOf_32 rfl (lv_at hl 2 rfl) ?_
        exact ro_iret hx hb hr hlocks (by rw [hx0, show v = 3 by omega]) dX6_likelyOf_33
      · have hxl : x ≤ v := by rw [hx0]; exact lky_le _ _
        refine lv_aload_n hx hb dX6_likelyOf_9 rfl (lv_at hl 0 rfl) ?_
        refine lv_aload_n hx hb dX6_likelyOf_10 rfl (lv_at hl 1 rfl) ?_
        refine lv_iload_n hx hb dX6_likelyOf_11 rfl (lv_at hl 3 rfl) ?_
        refine ro_iV (n := 2) (As := [.ref (r (3 + i)), .int (nI (v + 1))]) ⟨hx, hb, hml, hown, hts⟩ (c_X6_slipsOf l D a r k cI cT cN xh xi xr pn pc rd B L q kq b hS hok9 hT i hi (v + 1) (by omega)) (cwV 2 hts (gV mg_316 mg_318 mg_1007 mg_1 mg_319) rfl rfl rfl vd_X6_slipsOf ⟨Nat.le_of_ble_eq_true rfl, Nat.le_of_ble_eq_true rfl⟩) (va_recv hK hP (ci := 6) (q0 := 0) rfl rfl) hK hP rfl hl.1 rfl (Nat.le_of_ble_eq_true rfl) dX6_likelyOf_12 ⟨Nat.zero_le _, Nat.zero_le _⟩ ?_
        have hs9 : (sly b q.2.2.2.1 i q.2.2.2.2 q.2.1) (v + 1) ≤ q.2.1 := slp_le _ _ _ _ _ _
        refine lv_aload_n hx hb dX6_likelyOf_15 rfl (lv_at hl 0 rfl) ?_
        refine lv_aload_n hx hb dX6_likelyOf_16 rfl (lv_at hl 1 rfl) ?_
        refine lv_iload_n hx hb dX6_likelyOf_17 rfl (lv_at hl 2 rfl) ?_
        refine ro_iV (n := 2) (As := [.ref (r (3 + i)), .int (nI x)]) ⟨hx, hb, hml, hown, hts⟩ (c_X6_slipsOf l D a r k cI cT cN xh xi xr pn pc rd B L q kq b hS hok9 hT i hi x (by omega)) (cwV 2 hts (gV mg_316 mg_318 mg_1007 mg_1 mg_319) rfl rfl rfl vd_X6_slipsOf ⟨Nat.le_of_ble_eq_true rfl, Nat.le_of_ble_eq_true rfl⟩) (va_recv hK hP (ci := 6) (q0 := 0) rfl rfl) hK hP rfl hl.1 rfl (Nat.le_of_ble_eq_true rfl) dX6_likelyOf_18 ⟨Nat.zero_le _, Nat.zero_le _⟩ ?_
        have hs8 : (sly b q.2.2.2.1 i q.2.2.2.2 q.2.1) x ≤ q.2.1 := slp_le _ _ _ _ _ _
        refine j_icmp_ge (tgt := 26) hx hb dX6_likelyOf_21 (by decide) (nI_toInt (by omega)) (nI_toInt (by omega)) (fun c_4 => ?_) (fun c_4 => ?_)
        · refine lv_iinc (v := nI (v + 1 + 1)) (lv' := [(3, .int (nI (v + 1 + 1))), (0, .ref (a 0)), (1, .ref (r (3 + i))), (2, .int (nI x))]) hx hb dX6_likelyOf_26 hl (k := 3) rfl (fr_inc1 _) (by decide) rfl (fun ls hl => ?_)
          refine lv_goto (tgt := 4) hx hb dX6_likelyOf_29 (by decide) ?_
          exact ih_2 x (v + 1) (by omega) (by first | exact lky_t hx0 (by omega) | exact lky_f hx0 (by omega)) (by omega) _ (lv_sub hl [1, 2, 3, 0] rfl)
        · refine lv_iload_n hx hb dX6_likelyOf_24 rfl (lv_at hl 3 rfl) ?_
          refine lv_istore_n (lv' := [(2, .int (nI (v + 1))), (0, .ref (a 0)), (1, .ref (r (3 + i))), (3, .int (nI (v + 1)))]) hx hb dX6_likelyOf_25 rfl hl (by decide) rfl (fun ls hl => ?_)
          refine lv_iinc (v := nI (v + 1 + 1)) (lv' := [(3, .int (nI (v + 1 + 1))), (2, .int (nI (v + 1))), (0, .ref (a 0)), (1, .ref (r (3 + i)))]) hx hb dX6_likelyOf_26 hl (k := 3) rfl (fr_inc1 _) (by decide) rfl (fun ls hl => ?_)
          refine lv_goto (tgt := 4) hx hb dX6_likelyOf_29 (by decide) ?_
          exact ih_2 (v + 1) (v + 1) (by omega) (by first | exact lky_t hx0 (by omega) | exact lky_f hx0 (by omega)) (by omega) _ (lv_sub hl [2, 3, 1, 0] rfl)
  exact K_1 (3 - 0 + 1) 0 0 (by omega) (rfl) (Nat.lt_succ_self _) _ (lv_sub hl [2, 3, 1, 0] rfl)

set_option maxHeartbeats 4000000 in
set_option maxRecDepth 100000 in
theorem c_X6_leftAtWorst (l : Launch) (D : va_G) (a r k : Nat → Nat) (cI cT cN : ClassId) (xh xi xr pn : Nat) (pc : Nat → Int32) (rd : Nat × Nat × Nat) (B L : Nat → Int32) (q kq : RS) (b : Nat → Nat → Nat) (hS : SR b B L) (hok9 : hok b) (hT : Tok q) (i : Nat) (hi : i < q.1) (bits n : Nat) (hb16 : bits < 16) (hn : n < 16) : ROi l yX6_leftAtWorst (wA yX6_leftAtWorst cX6_leftAtWorst 7 (some .int)) ({ frames := 2, cells := 0, slots := 0, locals := 50 }) D (cTys cI cT cN) (cW a r k cI cT cN xh xi xr pn pc rd B L q kq) [.ref (a 0), .ref (r (3 + i)), .int (nI bits), .int (nI n)] (nI (lw b q.2.2.2.1 i bits n)) := by
  refine go_start (by decide) (Nat.le_of_ble_eq_true rfl) ?_
  intro p e s m args below meth c ls F _ hB hl
  obtain ⟨hx, hb, hr, hlocks, hml, hown, hts⟩ := F
  obtain ⟨hP, hK⟩ := hB
  have hown : s.vm.findClass RX6 = some m.cls := hown
  have hl : lv_has ls 7 [(0, .ref (a 0)), (1, .ref (r (3 + i))), (2, .int (nI bits)), (3, .int (nI n))] := hl
  have ht5 := hT.1
  have ht8 := hT.2.1
  obtain ⟨hk0, hv0, hw0, hp0⟩ := hT.2.2.1 i hi
  refine lv_iconst (v := nI 0) hx hb dX6_leftAtWorst_0 (by decide) ?_
  refine lv_istore (lv' := [(4, .int (nI 0)), (0, .ref (a 0)), (1, .ref (r (3 + i))), (2, .int (nI bits)), (3, .int (nI n))]) hx hb dX6_leftAtWorst_1 hl (by decide) rfl (fun ls hl => ?_)
  refine lv_iconst (v := nI 0) hx hb dX6_leftAtWorst_3 (by decide) ?_
  refine lv_istore (lv' := [(5, .int (nI 0)), (4, .int (nI 0)), (0, .ref (a 0)), (1, .ref (r (3 + i))), (2, .int (nI bits)), (3, .int (nI n))]) hx hb dX6_leftAtWorst_4 hl (by decide) rfl (fun ls hl => ?_)
  refine lv_iconst (v := nI 0) hx hb dX6_leftAtWorst_6 (by decide) ?_
  refine lv_istore (lv' := [(6, .int (nI 0)), (5, .int (nI 0)), (4, .int (nI 0)), (0, .ref (a 0)), (1, .ref (r (3 + i))), (2, .int (nI bits)), (3, .int (nI n))]) hx hb dX6_leftAtWorst_7 hl (by decide) rfl (fun ls hl => ?_)
  have K_1 : ∀ n9 : Nat, ∀ (x : Nat) (y : Nat) (v : Nat), v ≤ 4 → x = cnt (shf b q.2.2.2.1 i bits n) v → y = cnt (lgf b q.2.2.2.1 i bits n) v → 4 - v < n9 → ∀ ls : Array Slot, lv_has ls 7 [(0, .ref (a 0)), (1, .ref (r (3 + i))), (2, .int (nI bits)), (3, .int (nI n)), (4, .int (nI x)), (5, .int (nI y)), (6, .int (nI v))] → W p l e (headSpec (wA yX6_leftAtWorst cX6_leftAtWorst 7 (some .int)) ({ frames := 2, cells := 0, slots := 0, locals := 50 })).room s m args below meth c s.heap [] 0 0 (MQ below (vp_Si (fun z9 => z9 = nI (lw b q.2.2.2.1 i bits n))) args s 0 0 (fun _ => False)) (F0 m 9 ls []) := by
    intro n9
    induction n9 with
    | zero => intros; omega
    | succ n9 ih_2 =>
      intro x y v hv hx0 hy0 hn9 ls hl
      have hxl := cnt_le (shf b q.2.2.2.1 i bits n) v
      have hyl := cnt_le (lgf b q.2.2.2.1 i bits n) v
      refine lv_iload hx hb dX6_leftAtWorst_9 (lv_at hl 6 rfl) ?_
      refine lv_iconst (v := nI 4) hx hb dX6_leftAtWorst_11 (by decide) ?_
      refine j_icmp_ge (tgt := 69) hx hb dX6_leftAtWorst_12 (by decide) (nI_toInt (by omega)) (nI_toInt (by decide)) (fun c_3 => ?_) (fun c_3 => ?_)
      · have e9 : v = 4 := by omega
        subst e9
        refine lv_iload hx hb dX6_leftAtWorst_69 (lv_at hl 4 rfl) ?_
        refine lv_iload hx hb dX6_leftAtWorst_71 (lv_at hl 5 rfl) ?_
        refine va_mmax hx hb (hml.trans hl.1.symm) hown (hts _ mg_309) (hts _ mg_310) (hts _ mg_9) (hts _ mg_311) (Nat.le_of_ble_eq_true rfl) (Nat.le_of_ble_eq_true rfl) (Nat.zero_le _) (Nat.zero_le _) dX6_leftAtWorst_73 ?_
        refine n_top (n_max (by omega) (by omega)) ?_
        exact ro_iret hx hb hr hlocks (by rw [hx0, hy0]; rfl) dX6_leftAtWorst_76
      · refine lv_iload_n hx hb dX6_leftAtWorst_15 rfl (lv_at hl 2 rfl) ?_
        refine lv_iload hx hb dX6_leftAtWorst_16 (lv_at hl 6 rfl) ?_
        refine n_ishr hx hb dX6_leftAtWorst_18 (by omega) (by omega) ?_
        refine lv_iconst (v := nI 1) hx hb dX6_leftAtWorst_19 (by decide) ?_
        refine n_iand1 hx hb dX6_leftAtWorst_20 (Nat.lt_of_le_of_lt (Nat.div_le_self _ _) (by omega)) ?_
        refine j_if_ne (tgt := 27) hx hb dX6_leftAtWorst_21 (by decide) (nI_toInt (by omega)) (fun c_4 => ?_) (fun c_4 => ?_)
        · refine lv_aload_n hx hb dX6_leftAtWorst_27 rfl (lv_at hl 0 rfl) ?_
          refine va_get (D := D) (ci := 6) (v := .ref (a 4)) (C := RX6) (T := TX6) (N := 7) hx hb hts iX6 hown hK hP 0 rfl rfl 1 (by decide) (hts _ mg_152) (fun _ h9 => h9) rfl dX6_leftAtWorst_28 ?_
          refine lv_aload_n hx hb dX6_leftAtWorst_31 rfl (lv_at hl 1 rfl) ?_
          refine va_get (D := D) (ci := 5) (v := .int (nI (q.2.2.2.1 i 0))) (C := RX5) (T := TX5) (N := 5) hx hb hts iX5 hown hK hP (10 + i) (cW_tap (by omega)) rfl 1 (by decide) (hts _ mg_83) (fun _ h9 => h9) rfl dX6_leftAtWorst_32 ?_
          refine lv_iload hx hb dX6_leftAtWorst_35 (lv_at hl 6 rfl) ?_
          refine lv_aload_n hx hb dX6_leftAtWorst_37 rfl (lv_at hl 1 rfl) ?_
          refine va_get (D := D) (ci := 5) (v := .int (nI (q.2.2.2.1 i 2))) (C := RX5) (T := TX5) (N := 5) hx hb hts iX5 hown hK hP (10 + i) (cW_tap (by omega)) rfl 3 (by decide) (hts _ mg_89) (fun _ h9 => h9) rfl dX6_leftAtWorst_38 ?_
          refine lv_aload_n hx hb dX6_leftAtWorst_41 rfl (lv_at hl 1 rfl) ?_
          refine va_get (D := D) (ci := 5) (v := .int (nI (q.2.2.2.1 i 3))) (C := RX5) (T := TX5) (N := 5) hx hb hts iX5 hown hK hP (10 + i) (cW_tap (by omega)) rfl 4 (by decide) (hts _ mg_92) (fun _ h9 => h9) rfl dX6_leftAtWorst_42 ?_
          refine lv_iload_n hx hb dX6_leftAtWorst_45 rfl (lv_at hl 3 rfl) ?_
          refine n_iadd hx hb dX6_leftAtWorst_46 ?_
          refine ro_iV (n := 4) (As := [.int (nI (q.2.2.2.1 i 0)), .int (nI v), .int (nI (q.2.2.2.1 i 2)), .int (nI ((q.2.2.2.1 i 3) + n))]) ⟨hx, hb, hml, hown, hts⟩ (c_X4_dripBy l D a cI cT cN B L b hS hok9 (q.2.2.2.1 i 0) v (q.2.2.2.1 i 2) ((q.2.2.2.1 i 3) + n) (by omega) (by omega) (by omega) (by omega)) (cwV 4 hts (gV mg_303 mg_304 mg_305 mg_4 mg_306) rfl rfl rfl vd_X4_dripBy ⟨Nat.le_of_ble_eq_true rfl, Nat.le_of_ble_eq_true rfl⟩) (va_recv hK hP (ci := 4) (q0 := 4) rfl rfl) hK (cW_s hP) rfl hl.1 rfl (Nat.le_of_ble_eq_true rfl) dX6_leftAtWorst_47 ⟨Nat.zero_le _, Nat.zero_le _⟩ ?_
          have hd1 := sd_le hok9 (kd := q.2.2.2.1 i 0) (w := q.2.2.2.1 i 2) (n := q.2.2.2.1 i 3 + n) (v := v) (by omega)
          refine lv_iconst (v := nI 1) hx hb dX6_leftAtWorst_50 (by decide) ?_
          refine j_icmp_ne (tgt := 60) hx hb dX6_leftAtWorst_51 (by decide) (nI_toInt (by omega)) (nI_toInt (by decide)) (fun c_5 => ?_) (fun c_5 => ?_)
          · have hl0 : (lgf b q.2.2.2.1 i bits n) v = false := decide_eq_false (by unfold dpl; omega)
            have hs0 : (shf b q.2.2.2.1 i bits n) v = true := decide_eq_true (by unfold dpl; omega)
            refine lv_iinc (v := nI (x + 1)) (lv' := [(4, .int (nI (x + 1))), (0, .ref (a 0)), (1, .ref (r (3 + i))), (2, .int (nI bits)), (3, .int (nI n)), (5, .int (nI y)), (6, .int (nI v))]) hx hb dX6_leftAtWorst_60 hl (k := 4) rfl (fr_inc1 _) (by decide) rfl (fun ls hl => ?_)
            refine lv_iinc (v := nI (v + 1)) (lv' := [(6, .int (nI (v + 1))), (4, .int (nI (x + 1))), (0, .ref (a 0)), (1, .ref (r (3 + i))), (2, .int (nI bits)), (3, .int (nI n)), (5, .int (nI y))]) hx hb dX6_leftAtWorst_63 hl (k := 6) rfl (fr_inc1 _) (by decide) rfl (fun ls hl => ?_)
            refine lv_goto (tgt := 9) hx hb dX6_leftAtWorst_66 (by decide) ?_
            exact ih_2 (x + 1) y (v + 1) (by omega) (by first | (rw [cnt_t hs0, hx0]; done) | (rw [cnt_f hs0, hx0]; done)) (by first | (rw [cnt_t hl0, hy0]; done) | (rw [cnt_f hl0, hy0]; done)) (by omega) _ (lv_sub hl [2, 3, 4, 5, 1, 6, 0] rfl)
          · have hl0 : (lgf b q.2.2.2.1 i bits n) v = true := decide_eq_true (by unfold dpl; omega)
            have hs0 : (shf b q.2.2.2.1 i bits n) v = false := decide_eq_false (by unfold dpl; omega)
            refine lv_iinc (v := nI (y + 1)) (lv' := [(5, .int (nI (y + 1))), (0, .ref (a 0)), (1, .ref (r (3 + i))), (2, .int (nI bits)), (3, .int (nI n)), (4, .int (nI x)), (6, .int (nI v))]) hx hb dX6_leftAtWorst_54 hl (k := 5) rfl (fr_inc1 _) (by decide) rfl (fun ls hl => ?_)
            refine lv_goto (tgt := 63) hx hb dX6_leftAtWorst_57 (by decide) ?_
            refine lv_iinc (v := nI (v + 1)) (lv' := [(6, .int (nI (v + 1))), (5, .int (nI (y + 1))), (0, .ref (a 0)), (1, .ref (r (3 + i))), (2, .int (nI bits)), (3, .int (nI n)), (4, .int (nI x))]) hx hb dX6_leftAtWorst_63 hl (k := 6) rfl (fr_inc1 _) (by decide) rfl (fun ls hl => ?_)
            refine lv_goto (tgt := 9) hx hb dX6_leftAtWorst_66 (by decide) ?_
            exact ih_2 x (y + 1) (v + 1) (by omega) (by first | (rw [cnt_t hs0, hx0]; done) | (rw [cnt_f hs0, hx0]; done)) (by first | (rw [cnt_t hl0, hy0]; done) | (rw [cnt_f hl0, hy0]; done)) (by omega) _ (lv_sub hl [2, 3, 4, 5, 6, 1, 0] rfl)
        · have hl0 : (lgf b q.2.2.2.1 i bits n) v = false := decide_eq_false (fun z => by omega)
          have hs0 : (shf b q.2.2.2.1 i bits n) v = false := decide_eq_false (fun z => by omega)
          refine lv_goto (tgt := 63) hx hb dX6_leftAtWorst_24 (by decide) ?_
          refine lv_iinc (v := nI (v + 1)) (lv' := [(6, .int (nI (v + 1))), (0, .ref (a 0)), (1, .ref (r (3 + i))), (2, .int (nI bits)), (3, .int (nI n)), (4, .int (nI x)), (5, .int (nI y))]) hx hb dX6_leftAtWorst_63 hl (k := 6) rfl (fr_inc1 _) (by decide) rfl (fun ls hl => ?_)
          refine lv_goto (tgt := 9) hx hb dX6_leftAtWorst_66 (by decide) ?_
          exact ih_2 x y (v + 1) (by omega) (by first | (rw [cnt_t hs0, hx0]; done) | (rw [cnt_f hs0, hx0]; done)) (by first | (rw [cnt_t hl0, hy0]; done) | (rw [cnt_f hl0, hy0]; done)) (by omega) _ (lv_sub hl [1, 2, 3, 4, 5, 6, 0] rfl)
  exact K_1 (4 - 0 + 1) 0 0 0 (by omega) (rfl) (rfl) (Nat.lt_succ_self _) _ (lv_sub hl [3, 4, 5, 6, 2, 1, 0] rfl)

set_option maxHeartbeats 4000000 in
set_option maxRecDepth 100000 in
theorem c_X6_bestToHear (l : Launch) (D : va_G) (a r k : Nat → Nat) (cI cT cN : ClassId) (xh xi xr pn : Nat) (pc : Nat → Int32) (rd : Nat × Nat × Nat) (B L : Nat → Int32) (q kq : RS) (b : Nat → Nat → Nat) (hS : SR b B L) (hok9 : hok b) (hT : Tok q) (i : Nat) (hi : i < q.1) (bits : Nat) (hb16 : bits < 16) : ROi l yX6_bestToHear (wA yX6_bestToHear cX6_bestToHear 5 (some .int)) ({ frames := 3, cells := 0, slots := 0, locals := 76 }) D (cTys cI cT cN) (cW a r k cI cT cN xh xi xr pn pc rd B L q kq) [.ref (a 0), .ref (r (3 + i)), .int (nI bits)] (bth b q.2.2.2.1 i bits) := by
  refine go_start (by decide) (Nat.le_of_ble_eq_true rfl) ?_
  intro p e s m args below meth c ls F _ hB hl
  obtain ⟨hx, hb, hr, hlocks, hml, hown, hts⟩ := F
  obtain ⟨hP, hK⟩ := hB
  have hown : s.vm.findClass RX6 = some m.cls := hown
  have hl : lv_has ls 5 [(0, .ref (a 0)), (1, .ref (r (3 + i))), (2, .int (nI bits))] := hl
  have ht5 := hT.1
  have ht8 := hT.2.1
  obtain ⟨hk0, hv0, hw0, hp0⟩ := hT.2.2.1 i hi
  refine lv_iload_n hx hb dX6_bestToHear_0 rfl (lv_at hl 2 rfl) ?_
  refine j_if_ne (tgt := 6) hx hb dX6_bestToHear_1 (by decide) (nI_toInt (by omega)) (fun c_1 => ?_) (fun c_1 => ?_)
  · refine lv_iconst (v := nI 0) hx hb dX6_bestToHear_6 (by decide) ?_
    refine lv_istore_n (lv' := [(3, .int (nI 0)), (0, .ref (a 0)), (1, .ref (r (3 + i))), (2, .int (nI bits))]) hx hb dX6_bestToHear_7 rfl hl (by decide) rfl (fun ls hl => ?_)
    refine lv_iconst (v := nI 1) hx hb dX6_bestToHear_8 (by decide) ?_
    refine lv_istore (lv' := [(4, .int (nI 1)), (3, .int (nI 0)), (0, .ref (a 0)), (1, .ref (r (3 + i))), (2, .int (nI bits))]) hx hb dX6_bestToHear_9 hl (by decide) rfl (fun ls hl => ?_)
    have K_2 : ∀ n9 : Nat, ∀ (x : Nat) (v : Nat), v ≤ 7 → x = lky (lw b q.2.2.2.1 i bits) v → 7 - v < n9 → ∀ ls : Array Slot, lv_has ls 5 [(0, .ref (a 0)), (1, .ref (r (3 + i))), (2, .int (nI bits)), (3, .int (nI x)), (4, .int (nI (v + 1)))] → W p l e (headSpec (wA yX6_bestToHear cX6_bestToHear 5 (some .int)) ({ frames := 3, cells := 0, slots := 0, locals := 76 })).room s m args below meth c s.heap [] 0 0 (MQ below (vp_Si (fun z9 => z9 = bth b q.2.2.2.1 i bits)) args s 0 0 (fun _ => False)) (F0 m 11 ls []) := by
      intro n9
      induction n9 with
      | zero => intros; omega
      | succ n9 ih_3 =>
        intro x v hv hx0 hn9 ls hl
        refine lv_iload hx hb dX6_bestToHear_11 (lv_at hl 4 rfl) ?_
        refine lv_bipush (v := nI 8) hx hb dX6_bestToHear_13 (by decide) ?_
        refine j_icmp_ge (tgt := 45) hx hb dX6_bestToHear_15 (by decide) (nI_toInt (by omega)) (nI_toInt (by decide)) (fun c_4 => ?_) (fun c_4 => ?_)
        · refine lv_iload_n hx hb dX6_bestToHear_45 rfl (lv_at hl 3 rfl) ?_
          exact ro_iret hx hb hr hlocks (by rw [bth, if_neg (by omega), hx0, show v = 7 by omega]) dX6_bestToHear_46
        · have hxl : x ≤ v := by rw [hx0]; exact lky_le _ _
          refine lv_aload_n hx hb dX6_bestToHear_18 rfl (lv_at hl 0 rfl) ?_
          refine lv_aload_n hx hb dX6_bestToHear_19 rfl (lv_at hl 1 rfl) ?_
          refine lv_iload_n hx hb dX6_bestToHear_20 rfl (lv_at hl 2 rfl) ?_
          refine lv_iload hx hb dX6_bestToHear_21 (lv_at hl 4 rfl) ?_
          refine ro_iV (n := 3) (As := [.ref (r (3 + i)), .int (nI bits), .int (nI (v + 1))]) ⟨hx, hb, hml, hown, hts⟩ (c_X6_leftAtWorst l D a r k cI cT cN xh xi xr pn pc rd B L q kq b hS hok9 hT i hi bits (v + 1) hb16 (by omega)) (cwV 3 hts (gV mg_332 mg_334 mg_1010 mg_1 mg_335) rfl rfl rfl vd_X6_leftAtWorst ⟨Nat.le_of_ble_eq_true rfl, Nat.le_of_ble_eq_true rfl⟩) (va_recv hK hP (ci := 6) (q0 := 0) rfl rfl) hK hP rfl hl.1 rfl (Nat.le_of_ble_eq_true rfl) dX6_bestToHear_23 ⟨Nat.zero_le _, Nat.zero_le _⟩ ?_
          have hs9 := lw_le b q.2.2.2.1 i bits (v + 1)
          refine lv_aload_n hx hb dX6_bestToHear_26 rfl (lv_at hl 0 rfl) ?_
          refine lv_aload_n hx hb dX6_bestToHear_27 rfl (lv_at hl 1 rfl) ?_
          refine lv_iload_n hx hb dX6_bestToHear_28 rfl (lv_at hl 2 rfl) ?_
          refine lv_iload_n hx hb dX6_bestToHear_29 rfl (lv_at hl 3 rfl) ?_
          refine ro_iV (n := 3) (As := [.ref (r (3 + i)), .int (nI bits), .int (nI x)]) ⟨hx, hb, hml, hown, hts⟩ (c_X6_leftAtWorst l D a r k cI cT cN xh xi xr pn pc rd B L q kq b hS hok9 hT i hi bits x hb16 (by omega)) (cwV 3 hts (gV mg_332 mg_334 mg_1010 mg_1 mg_335) rfl rfl rfl vd_X6_leftAtWorst ⟨Nat.le_of_ble_eq_true rfl, Nat.le_of_ble_eq_true rfl⟩) (va_recv hK hP (ci := 6) (q0 := 0) rfl rfl) hK hP rfl hl.1 rfl (Nat.le_of_ble_eq_true rfl) dX6_bestToHear_30 ⟨Nat.zero_le _, Nat.zero_le _⟩ ?_
          have hs8 := lw_le b q.2.2.2.1 i bits x
          refine j_icmp_ge (tgt := 39) hx hb dX6_bestToHear_33 (by decide) (nI_toInt (by omega)) (nI_toInt (by omega)) (fun c_5 => ?_) (fun c_5 => ?_)
          · refine lv_iinc (v := nI (v + 1 + 1)) (lv' := [(4, .int (nI (v + 1 + 1))), (0, .ref (a 0)), (1, .ref (r (3 + i))), (2, .int (nI bits)), (3, .int (nI x))]) hx hb dX6_bestToHear_39 hl (k := 4) rfl (fr_inc1 _) (by decide) rfl (fun ls hl => ?_)
            refine lv_goto (tgt := 11) hx hb dX6_bestToHear_42 (by decide) ?_
            exact ih_3 x (v + 1) (by omega) (by first | exact lky_t hx0 (by omega) | exact lky_f hx0 (by omega)) (by omega) _ (lv_sub hl [1, 2, 3, 4, 0] rfl)
          · refine lv_iload hx hb dX6_bestToHear_36 (lv_at hl 4 rfl) ?_
            refine lv_istore_n (lv' := [(3, .int (nI (v + 1))), (0, .ref (a 0)), (1, .ref (r (3 + i))), (2, .int (nI bits)), (4, .int (nI (v + 1)))]) hx hb dX6_bestToHear_38 rfl hl (by decide) rfl (fun ls hl => ?_)
            refine lv_iinc (v := nI (v + 1 + 1)) (lv' := [(4, .int (nI (v + 1 + 1))), (3, .int (nI (v + 1))), (0, .ref (a 0)), (1, .ref (r (3 + i))), (2, .int (nI bits))]) hx hb dX6_bestToHear_39 hl (k := 4) rfl (fr_inc1 _) (by decide) rfl (fun ls hl => ?_)
            refine lv_goto (tgt := 11) hx hb dX6_bestToHear_42 (by decide) ?_
            exact ih_3 (v + 1) (v + 1) (by omega) (by first | exact lky_t hx0 (by omega) | exact lky_f hx0 (by omega)) (by omega) _ (lv_sub hl [2, 3, 4, 1, 0] rfl)
    exact K_2 (7 - 0 + 1) 0 0 (by omega) (rfl) (Nat.lt_succ_self _) _ (lv_sub hl [2, 3, 4, 1, 0] rfl)
  · refine lv_iconst (v := (-1)) hx hb dX6_bestToHear_4 (by decide) ?_
    exact ro_iret hx hb hr hlocks (by rw [bth, if_pos (by omega)]) dX6_bestToHear_5

set_option maxHeartbeats 4000000 in
set_option maxRecDepth 100000 in
theorem c_X6_unlikeOf (l : Launch) (D : va_G) (a r k : Nat → Nat) (cI cT cN : ClassId) (xh xi xr pn : Nat) (pc : Nat → Int32) (rd : Nat × Nat × Nat) (B L : Nat → Int32) (q kq : RS) (b : Nat → Nat → Nat) (hS : SR b B L) (hok9 : hok b) (hT : Tok q) (i : Nat) (hi : i < q.1) (w v2 : Nat) (hw1 : w ≤ 1) (hv2 : v2 < 4) : ROi l yX6_unlikeOf (wA yX6_unlikeOf cX6_unlikeOf 7 (some .int)) ({ frames := 2, cells := 0, slots := 0, locals := 50 }) D (cTys cI cT cN) (cW a r k cI cT cN xh xi xr pn pc rd B L q kq) [.ref (a 0), .ref (r (3 + i)), .int (nI w), .int (nI v2)] (nI (unl b (q.2.2.2.1 i 0) w (q.2.2.2.1 i 1) v2)) := by
  refine go_start (by decide) (Nat.le_of_ble_eq_true rfl) ?_
  intro p e s m args below meth c ls F _ hB hl
  obtain ⟨hx, hb, hr, hlocks, hml, hown, hts⟩ := F
  obtain ⟨hP, hK⟩ := hB
  have hown : s.vm.findClass RX6 = some m.cls := hown
  have hl : lv_has ls 7 [(0, .ref (a 0)), (1, .ref (r (3 + i))), (2, .int (nI w)), (3, .int (nI v2))] := hl
  have ht5 := hT.1
  have ht8 := hT.2.1
  obtain ⟨hk0, hv0, hw0, hp0⟩ := hT.2.2.1 i hi
  refine lv_iconst (v := nI 0) hx hb dX6_unlikeOf_0 (by decide) ?_
  refine lv_istore (lv' := [(4, .int (nI 0)), (0, .ref (a 0)), (1, .ref (r (3 + i))), (2, .int (nI w)), (3, .int (nI v2))]) hx hb dX6_unlikeOf_1 hl (by decide) rfl (fun ls hl => ?_)
  refine lv_iconst (v := nI 0) hx hb dX6_unlikeOf_3 (by decide) ?_
  refine lv_istore (lv' := [(5, .int (nI 0)), (4, .int (nI 0)), (0, .ref (a 0)), (1, .ref (r (3 + i))), (2, .int (nI w)), (3, .int (nI v2))]) hx hb dX6_unlikeOf_4 hl (by decide) rfl (fun ls hl => ?_)
  have K_1 : ∀ n9 : Nat, ∀ (x : Nat) (n : Nat), n ≤ 12 → x = cnt (unf b (q.2.2.2.1 i 0) w (q.2.2.2.1 i 1) v2) n → 12 - n < n9 → ∀ ls : Array Slot, lv_has ls 7 [(0, .ref (a 0)), (1, .ref (r (3 + i))), (2, .int (nI w)), (3, .int (nI v2)), (4, .int (nI x)), (5, .int (nI n))] → W p l e (headSpec (wA yX6_unlikeOf cX6_unlikeOf 7 (some .int)) ({ frames := 2, cells := 0, slots := 0, locals := 50 })).room s m args below meth c s.heap [] 0 0 (MQ below (vp_Si (fun z9 => z9 = nI (unl b (q.2.2.2.1 i 0) w (q.2.2.2.1 i 1) v2))) args s 0 0 (fun _ => False)) (F0 m 6 ls []) := by
    intro n9
    induction n9 with
    | zero => intros; omega
    | succ n9 ih_2 =>
      intro x n hn hx0 hn9 ls hl
      have hxl := cnt_le (unf b (q.2.2.2.1 i 0) w (q.2.2.2.1 i 1) v2) n
      refine lv_iload hx hb dX6_unlikeOf_6 (lv_at hl 5 rfl) ?_
      refine lv_bipush (v := nI 12) hx hb dX6_unlikeOf_8 (by decide) ?_
      refine j_icmp_ge (tgt := 59) hx hb dX6_unlikeOf_10 (by decide) (nI_toInt (by omega)) (nI_toInt (by decide)) (fun c_3 => ?_) (fun c_3 => ?_)
      · have e9 : n = 12 := by omega
        refine lv_iload hx hb dX6_unlikeOf_59 (lv_at hl 4 rfl) ?_
        exact ro_iret hx hb hr hlocks (by rw [hx0, e9]; rfl) dX6_unlikeOf_61
      · refine lv_aload_n hx hb dX6_unlikeOf_13 rfl (lv_at hl 0 rfl) ?_
        refine va_get (D := D) (ci := 6) (v := .ref (a 4)) (C := RX6) (T := TX6) (N := 7) hx hb hts iX6 hown hK hP 0 rfl rfl 1 (by decide) (hts _ mg_152) (fun _ h9 => h9) rfl dX6_unlikeOf_14 ?_
        refine lv_aload_n hx hb dX6_unlikeOf_17 rfl (lv_at hl 1 rfl) ?_
        refine va_get (D := D) (ci := 5) (v := .int (nI (q.2.2.2.1 i 0))) (C := RX5) (T := TX5) (N := 5) hx hb hts iX5 hown hK hP (10 + i) (cW_tap (by omega)) rfl 1 (by decide) (hts _ mg_83) (fun _ h9 => h9) rfl dX6_unlikeOf_18 ?_
        refine lv_aload_n hx hb dX6_unlikeOf_21 rfl (lv_at hl 1 rfl) ?_
        refine va_get (D := D) (ci := 5) (v := .int (nI (q.2.2.2.1 i 1))) (C := RX5) (T := TX5) (N := 5) hx hb hts iX5 hown hK hP (10 + i) (cW_tap (by omega)) rfl 2 (by decide) (hts _ mg_86) (fun _ h9 => h9) rfl dX6_unlikeOf_22 ?_
        refine lv_iload_n hx hb dX6_unlikeOf_25 rfl (lv_at hl 2 rfl) ?_
        refine lv_iload hx hb dX6_unlikeOf_26 (lv_at hl 5 rfl) ?_
        refine ro_iV (n := 4) (As := [.int (nI (q.2.2.2.1 i 0)), .int (nI (q.2.2.2.1 i 1)), .int (nI w), .int (nI n)]) ⟨hx, hb, hml, hown, hts⟩ (c_X4_dripBy l D a cI cT cN B L b hS hok9 (q.2.2.2.1 i 0) (q.2.2.2.1 i 1) w n (by omega) (by omega) (by omega) (by omega)) (cwV 4 hts (gV mg_303 mg_304 mg_305 mg_4 mg_306) rfl rfl rfl vd_X4_dripBy ⟨Nat.le_of_ble_eq_true rfl, Nat.le_of_ble_eq_true rfl⟩) (va_recv hK hP (ci := 4) (q0 := 4) rfl rfl) hK (cW_s hP) rfl hl.1 rfl (Nat.le_of_ble_eq_true rfl) dX6_unlikeOf_28 ⟨Nat.zero_le _, Nat.zero_le _⟩ ?_
        have hd1 := sd_le hok9 (kd := q.2.2.2.1 i 0) (w := w) (n := n) (v := q.2.2.2.1 i 1) (by omega)
        refine lv_istore (lv' := [(6, .int (nI (sd b (q.2.2.2.1 i 0) w (q.2.2.2.1 i 1) n))), (0, .ref (a 0)), (1, .ref (r (3 + i))), (2, .int (nI w)), (3, .int (nI v2)), (4, .int (nI x)), (5, .int (nI n))]) hx hb dX6_unlikeOf_31 hl (by decide) rfl (fun ls hl => ?_)
        refine lv_iload hx hb dX6_unlikeOf_33 (lv_at hl 0 rfl) ?_
        refine lv_aload_n hx hb dX6_unlikeOf_35 rfl (lv_at hl 1 rfl) ?_
        refine va_get (D := D) (ci := 6) (v := .ref (a 4)) (C := RX6) (T := TX6) (N := 7) hx hb hts iX6 hown hK hP 0 rfl rfl 1 (by decide) (hts _ mg_152) (fun _ h9 => h9) rfl dX6_unlikeOf_36 ?_
        refine lv_iconst (v := nI 0) hx hb dX6_unlikeOf_39 (by decide) ?_
        refine lv_iload_n hx hb dX6_unlikeOf_40 rfl (lv_at hl 4 rfl) ?_
        refine lv_iconst (v := nI 0) hx hb dX6_unlikeOf_41 (by decide) ?_
        refine lv_iload hx hb dX6_unlikeOf_42 (lv_at hl 6 rfl) ?_
        refine ro_iV (n := 4) (As := [.int (nI 0), .int (nI v2), .int (nI 0), .int (nI n)]) ⟨hx, hb, hml, hown, hts⟩ (c_X4_dripBy l D a cI cT cN B L b hS hok9 0 v2 0 n (by omega) (by omega) (by omega) (by omega)) (cwV 4 hts (gV mg_303 mg_304 mg_305 mg_4 mg_306) rfl rfl rfl vd_X4_dripBy ⟨Nat.le_of_ble_eq_true rfl, Nat.le_of_ble_eq_true rfl⟩) (va_recv hK hP (ci := 4) (q0 := 4) rfl rfl) hK (cW_s hP) rfl hl.1 rfl (Nat.le_of_ble_eq_true rfl) dX6_unlikeOf_44 ⟨Nat.zero_le _, Nat.zero_le _⟩ ?_
        have hd2 := sd_le hok9 (kd := 0) (w := 0) (n := n) (v := v2) (by omega)
        refine j_icmp_eq (tgt := 53) hx hb dX6_unlikeOf_47 (by decide) (nI_toInt (by omega)) (nI_toInt (by omega)) (fun c_4 => ?_) (fun c_4 => ?_)
        · refine lv_iinc (v := nI (n + 1)) (lv' := [(5, .int (nI (n + 1))), (6, .int (nI (sd b (q.2.2.2.1 i 0) w (q.2.2.2.1 i 1) n))), (0, .ref (a 0)), (1, .ref (r (3 + i))), (2, .int (nI w)), (3, .int (nI v2)), (4, .int (nI x))]) hx hb dX6_unlikeOf_53 hl (k := 6) rfl (fr_inc1 _) (by decide) rfl (fun ls hl => ?_)
          refine lv_goto (tgt := 6) hx hb dX6_unlikeOf_56 (by decide) ?_
          exact ih_2 x (n + 1) (by omega) (by first | (rw [cnt_t hz, hx0]; done) | (rw [cnt_f (decide_eq_false (fun z => by omega)), hx0]; done)) (by omega) _ (lv_sub hl [2, 3, 4, 5, 6, 0] rfl)
        · have hz : (unf b (q.2.2.2.1 i 0) w (q.2.2.2.1 i 1) v2) n = true := decide_eq_true (by omega)
          refine lv_iinc (v := nI (x + 1)) (lv' := [(4, .int (nI (x + 1))), (6, .int (nI (sd b (q.2.2.2.1 i 0) w (q.2.2.2.1 i 1) n))), (0, .ref (a 0)), (1, .ref (r (3 + i))), (2, .int (nI w)), (3, .int (nI v2)), (5, .int (nI n))]) hx hb dX6_unlikeOf_50 hl (k := 5) rfl (fr_inc1 _) (by decide) rfl (fun ls hl => ?_)
          refine lv_iinc (v := nI (n + 1)) (lv' := [(5, .int (nI (n + 1))), (4, .int (nI (x + 1))), (6, .int (nI (sd b (q.2.2.2.1 i 0) w (q.2.2.2.1 i 1) n))), (0, .ref (a 0)), (1, .ref (r (3 + i))), (2, .int (nI w)), (3, .int (nI v2))]) hx hb dX6_unlikeOf_53 hl (k := 6) rfl (fr_inc1 _) (by decide) rfl (fun ls hl => ?_)
          refine lv_goto (tgt := 6) hx hb dX6_unlikeOf_56 (by decide) ?_
          exact ih_2 (x + 1) (n + 1) (by omega) (by first | (rw [cnt_t hz, hx0]; done) | (rw [cnt_f (decide_eq_false (fun z => by omega)), hx0]; done)) (by omega) _ (lv_sub hl [3, 4, 5, 6, 1, 0] rfl)
  exact K_1 (12 - 0 + 1) 0 0 (by omega) (rfl) (Nat.lt_succ_self _) _ (lv_sub hl [2, 3, 4, 5, 1, 0] rfl)

set_option maxHeartbeats 4000000 in
set_option maxRecDepth 100000 in
theorem c_X6_nearOf0 (l : Launch) (D : va_G) (a r k : Nat → Nat) (cI cT cN : ClassId) (xh xi xr pn : Nat) (pc : Nat → Int32) (rd : Nat × Nat × Nat) (B L : Nat → Int32) (q kq : RS) (b : Nat → Nat → Nat) (hS : SR b B L) (hok9 : hok b) (hT : Tok q) (i : Nat) (hi : i < q.1) (v2 : Nat) (hv2 : v2 < 4) : ROi l yX6_nearOf (wA yX6_nearOf cX6_nearOf 6 (some .int)) ({ frames := 3, cells := 0, slots := 0, locals := 76 }) D (cTys cI cT cN) (cW a r k cI cT cN xh xi xr pn pc rd B L q kq) [.ref (a 0), .ref (r (3 + i)), .int (nI v2), .int (nI 0)] (nI (ner b (q.2.2.2.1 i 0) (q.2.2.2.1 i 1) v2 0)) := by
  refine go_start (by decide) (Nat.le_of_ble_eq_true rfl) ?_
  intro p e s m args below meth c ls F _ hB hl
  obtain ⟨hx, hb, hr, hlocks, hml, hown, hts⟩ := F
  obtain ⟨hP, hK⟩ := hB
  have hown : s.vm.findClass RX6 = some m.cls := hown
  have hl : lv_has ls 6 [(0, .ref (a 0)), (1, .ref (r (3 + i))), (2, .int (nI v2)), (3, .int (nI 0))] := hl
  have ht5 := hT.1
  have ht8 := hT.2.1
  obtain ⟨hk0, hv0, hw0, hp0⟩ := hT.2.2.1 i hi
  refine lv_aload_n hx hb dX6_nearOf_0 rfl (lv_at hl 0 rfl) ?_
  refine lv_aload_n hx hb dX6_nearOf_1 rfl (lv_at hl 1 rfl) ?_
  refine lv_iconst (v := nI 0) hx hb dX6_nearOf_2 (by decide) ?_
  refine lv_iload_n hx hb dX6_nearOf_3 rfl (lv_at hl 2 rfl) ?_
  refine ro_iV (n := 3) (As := [.ref (r (3 + i)), .int (nI 0), .int (nI v2)]) ⟨hx, hb, hml, hown, hts⟩ (c_X6_unlikeOf l D a r k cI cT cN xh xi xr pn pc rd B L q kq b hS hok9 hT i hi 0 v2 (by decide) hv2) (cwV 3 hts (gV mg_372 mg_374 mg_1013 mg_1 mg_375) rfl rfl rfl vd_X6_unlikeOf ⟨Nat.le_of_ble_eq_true rfl, Nat.le_of_ble_eq_true rfl⟩) (va_recv hK hP (ci := 6) (q0 := 0) rfl rfl) hK hP rfl hl.1 rfl (Nat.le_of_ble_eq_true rfl) dX6_nearOf_4 ⟨Nat.zero_le _, Nat.zero_le _⟩ ?_
  refine lv_istore (lv' := [(4, .int (nI (unl b (q.2.2.2.1 i 0) 0 (q.2.2.2.1 i 1) v2))), (0, .ref (a 0)), (1, .ref (r (3 + i))), (2, .int (nI v2)), (3, .int (nI 0))]) hx hb dX6_nearOf_7 hl (by decide) rfl (fun ls hl => ?_)
  refine lv_aload_n hx hb dX6_nearOf_9 rfl (lv_at hl 1 rfl) ?_
  refine lv_aload_n hx hb dX6_nearOf_10 rfl (lv_at hl 2 rfl) ?_
  refine lv_iconst (v := nI 1) hx hb dX6_nearOf_11 (by decide) ?_
  refine lv_iload_n hx hb dX6_nearOf_12 rfl (lv_at hl 3 rfl) ?_
  refine ro_iV (n := 3) (As := [.ref (r (3 + i)), .int (nI 1), .int (nI v2)]) ⟨hx, hb, hml, hown, hts⟩ (c_X6_unlikeOf l D a r k cI cT cN xh xi xr pn pc rd B L q kq b hS hok9 hT i hi 1 v2 (by decide) hv2) (cwV 3 hts (gV mg_372 mg_374 mg_1013 mg_1 mg_375) rfl rfl rfl vd_X6_unlikeOf ⟨Nat.le_of_ble_eq_true rfl, Nat.le_of_ble_eq_true rfl⟩) (va_recv hK hP (ci := 6) (q0 := 0) rfl rfl) hK hP rfl hl.1 rfl (Nat.le_of_ble_eq_true rfl) dX6_nearOf_13 ⟨Nat.zero_le _, Nat.zero_le _⟩ ?_
  refine lv_istore (lv' := [(5, .int (nI (unl b (q.2.2.2.1 i 0) 1 (q.2.2.2.1 i 1) v2))), (4, .int (nI (unl b (q.2.2.2.1 i 0) 0 (q.2.2.2.1 i 1) v2))), (0, .ref (a 0)), (1, .ref (r (3 + i))), (2, .int (nI v2)), (3, .int (nI 0))]) hx hb dX6_nearOf_16 hl (by decide) rfl (fun ls hl => ?_)
  have hu0 := unl_le b (q.2.2.2.1 i 0) 0 (q.2.2.2.1 i 1) v2
  have hu1 := unl_le b (q.2.2.2.1 i 0) 1 (q.2.2.2.1 i 1) v2
  refine lv_iload_n hx hb dX6_nearOf_18 rfl (lv_at hl 5 rfl) ?_
  refine j_if_ne (tgt := 35) hx hb dX6_nearOf_19 (by decide) (nI_toInt (by decide)) (fun c_1 => absurd c_1 (by omega)) (fun c_1 => ?_)
  refine lv_iload hx hb dX6_nearOf_22 (lv_at hl 0 rfl) ?_
  refine lv_iload hx hb dX6_nearOf_24 (lv_at hl 1 rfl) ?_
  refine j_icmp_ge (tgt := 33) hx hb dX6_nearOf_26 (by decide) (nI_toInt (by omega)) (nI_toInt (by omega)) (fun c_2 => ?_) (fun c_2 => ?_)
  · refine lv_iconst (v := nI 0) hx hb dX6_nearOf_33 (by decide) ?_
    exact ro_iret hx hb hr hlocks (by rw [ner]; first | rfl | (rw [if_pos rfl, if_pos (by omega)]; done) | (rw [if_pos rfl, if_neg (by omega)]; done) | (rw [if_neg (by decide)]; done)) dX6_nearOf_34
  · refine lv_iconst (v := nI 1) hx hb dX6_nearOf_29 (by decide) ?_
    refine lv_goto (tgt := 34) hx hb dX6_nearOf_30 (by decide) ?_
    exact ro_iret hx hb hr hlocks (by rw [ner]; first | rfl | (rw [if_pos rfl, if_pos (by omega)]; done) | (rw [if_pos rfl, if_neg (by omega)]; done) | (rw [if_neg (by decide)]; done)) dX6_nearOf_34

set_option maxHeartbeats 4000000 in
set_option maxRecDepth 100000 in
theorem c_X6_nearOf1 (l : Launch) (D : va_G) (a r k : Nat → Nat) (cI cT cN : ClassId) (xh xi xr pn : Nat) (pc : Nat → Int32) (rd : Nat × Nat × Nat) (B L : Nat → Int32) (q kq : RS) (b : Nat → Nat → Nat) (hS : SR b B L) (hok9 : hok b) (hT : Tok q) (i : Nat) (hi : i < q.1) (v2 : Nat) (hv2 : v2 < 4) : ROi l yX6_nearOf (wA yX6_nearOf cX6_nearOf 6 (some .int)) ({ frames := 3, cells := 0, slots := 0, locals := 76 }) D (cTys cI cT cN) (cW a r k cI cT cN xh xi xr pn pc rd B L q kq) [.ref (a 0), .ref (r (3 + i)), .int (nI v2), .int (nI 1)] (nI (ner b (q.2.2.2.1 i 0) (q.2.2.2.1 i 1) v2 1)) := by
  refine go_start (by decide) (Nat.le_of_ble_eq_true rfl) ?_
  intro p e s m args below meth c ls F _ hB hl
  obtain ⟨hx, hb, hr, hlocks, hml, hown, hts⟩ := F
  obtain ⟨hP, hK⟩ := hB
  have hown : s.vm.findClass RX6 = some m.cls := hown
  have hl : lv_has ls 6 [(0, .ref (a 0)), (1, .ref (r (3 + i))), (2, .int (nI v2)), (3, .int (nI 1))] := hl
  have ht5 := hT.1
  have ht8 := hT.2.1
  obtain ⟨hk0, hv0, hw0, hp0⟩ := hT.2.2.1 i hi
  refine lv_aload_n hx hb dX6_nearOf_0 rfl (lv_at hl 0 rfl) ?_
  refine lv_aload_n hx hb dX6_nearOf_1 rfl (lv_at hl 1 rfl) ?_
  refine lv_iconst (v := nI 0) hx hb dX6_nearOf_2 (by decide) ?_
  refine lv_iload_n hx hb dX6_nearOf_3 rfl (lv_at hl 2 rfl) ?_
  refine ro_iV (n := 3) (As := [.ref (r (3 + i)), .int (nI 0), .int (nI v2)]) ⟨hx, hb, hml, hown, hts⟩ (c_X6_unlikeOf l D a r k cI cT cN xh xi xr pn pc rd B L q kq b hS hok9 hT i hi 0 v2 (by decide) hv2) (cwV 3 hts (gV mg_372 mg_374 mg_1013 mg_1 mg_375) rfl rfl rfl vd_X6_unlikeOf ⟨Nat.le_of_ble_eq_true rfl, Nat.le_of_ble_eq_true rfl⟩) (va_recv hK hP (ci := 6) (q0 := 0) rfl rfl) hK hP rfl hl.1 rfl (Nat.le_of_ble_eq_true rfl) dX6_nearOf_4 ⟨Nat.zero_le _, Nat.zero_le _⟩ ?_
  refine lv_istore (lv' := [(4, .int (nI (unl b (q.2.2.2.1 i 0) 0 (q.2.2.2.1 i 1) v2))), (0, .ref (a 0)), (1, .ref (r (3 + i))), (2, .int (nI v2)), (3, .int (nI 1))]) hx hb dX6_nearOf_7 hl (by decide) rfl (fun ls hl => ?_)
  refine lv_aload_n hx hb dX6_nearOf_9 rfl (lv_at hl 1 rfl) ?_
  refine lv_aload_n hx hb dX6_nearOf_10 rfl (lv_at hl 2 rfl) ?_
  refine lv_iconst (v := nI 1) hx hb dX6_nearOf_11 (by decide) ?_
  refine lv_iload_n hx hb dX6_nearOf_12 rfl (lv_at hl 3 rfl) ?_
  refine ro_iV (n := 3) (As := [.ref (r (3 + i)), .int (nI 1), .int (nI v2)]) ⟨hx, hb, hml, hown, hts⟩ (c_X6_unlikeOf l D a r k cI cT cN xh xi xr pn pc rd B L q kq b hS hok9 hT i hi 1 v2 (by decide) hv2) (cwV 3 hts (gV mg_372 mg_374 mg_1013 mg_1 mg_375) rfl rfl rfl vd_X6_unlikeOf ⟨Nat.le_of_ble_eq_true rfl, Nat.le_of_ble_eq_true rfl⟩) (va_recv hK hP (ci := 6) (q0 := 0) rfl rfl) hK hP rfl hl.1 rfl (Nat.le_of_ble_eq_true rfl) dX6_nearOf_13 ⟨Nat.zero_le _, Nat.zero_le _⟩ ?_
  refine lv_istore (lv' := [(5, .int (nI (unl b (q.2.2.2.1 i 0) 1 (q.2.2.2.1 i 1) v2))), (4, .int (nI (unl b (q.2.2.2.1 i 0) 0 (q.2.2.2.1 i 1) v2))), (0, .ref (a 0)), (1, .ref (r (3 + i))), (2, .int (nI v2)), (3, .int (nI 1))]) hx hb dX6_nearOf_16 hl (by decide) rfl (fun ls hl => ?_)
  have hu0 := unl_le b (q.2.2.2.1 i 0) 0 (q.2.2.2.1 i 1) v2
  have hu1 := unl_le b (q.2.2.2.1 i 0) 1 (q.2.2.2.1 i 1) v2
  refine lv_iload_n hx hb dX6_nearOf_18 rfl (lv_at hl 5 rfl) ?_
  refine j_if_ne (tgt := 35) hx hb dX6_nearOf_19 (by decide) (nI_toInt (by decide)) (fun c_1 => ?_) (fun c_1 => absurd c_1 (by omega))
  refine lv_iload hx hb dX6_nearOf_35 (lv_at hl 0 rfl) ?_
  refine lv_iload hx hb dX6_nearOf_37 (lv_at hl 1 rfl) ?_
  refine va_mmin hx hb (hml.trans hl.1.symm) hown (hts _ mg_376) (hts _ mg_377) (hts _ mg_9) (hts _ mg_378) (Nat.le_of_ble_eq_true rfl) (Nat.le_of_ble_eq_true rfl) (Nat.zero_le _) (Nat.zero_le _) dX6_nearOf_39 ?_
  refine n_top (n_min (by omega) (by omega)) ?_
  exact ro_iret hx hb hr hlocks (by rw [ner]; first | rfl | (rw [if_pos rfl, if_pos (by omega)]; done) | (rw [if_pos rfl, if_neg (by omega)]; done) | (rw [if_neg (by decide)]; done)) dX6_nearOf_42

set_option maxHeartbeats 4000000 in
set_option maxRecDepth 100000 in
theorem c_X6_aboutOf0 (l : Launch) (D : va_G) (a r k : Nat → Nat) (cI cT cN : ClassId) (xh xi xr pn : Nat) (pc : Nat → Int32) (rd : Nat × Nat × Nat) (B L : Nat → Int32) (q kq : RS) (b : Nat → Nat → Nat) (hS : SR b B L) (hok9 : hok b) (hT : Tok q) (i : Nat) (hi : i < q.1) : ROi l yX6_aboutOf (wA yX6_aboutOf cX6_aboutOf 3 (some .int)) ({ frames := 0, cells := 0, slots := 0, locals := 0 }) D (cTys cI cT cN) (cW a r k cI cT cN xh xi xr pn pc rd B L q kq) [.ref (a 0), .ref (r (3 + i)), .int (nI 0)] (abt b q.2.2.2.1 q.2.2.2.2 q.2.1 i 0) := by
  refine go_start (by decide) (Nat.le_of_ble_eq_true rfl) ?_
  intro p e s m args below meth c ls F _ hB hl
  obtain ⟨hx, hb, hr, hlocks, hml, hown, hts⟩ := F
  obtain ⟨hP, hK⟩ := hB
  have hown : s.vm.findClass RX6 = some m.cls := hown
  have hl : lv_has ls 3 [(0, .ref (a 0)), (1, .ref (r (3 + i))), (2, .int (nI 0))] := hl
  have ht5 := hT.1
  have ht8 := hT.2.1
  obtain ⟨hk0, hv0, hw0, hp0⟩ := hT.2.2.1 i hi
  refine lv_iload_n hx hb dX6_aboutOf_0 rfl (lv_at hl 2 rfl) ?_
  refine lv_tableIn (off := 47) (tgt := 48) hx hb dX6_aboutOf_1 (by rw [show (nI 0).toInt = 0 from by first | decide | (rw [nI_toInt (by decide)]; omega)]; decide) (by rw [show (nI 0).toInt = 0 from by first | decide | (rw [nI_toInt (by decide)]; omega)]; decide) (by rw [show (nI 0).toInt = 0 from by first | decide | (rw [nI_toInt (by decide)]; omega)]; rfl) (by decide) ?_
  refine lv_aload_n hx hb dX6_aboutOf_48 rfl (lv_at hl 1 rfl) ?_
  refine va_get (D := D) (ci := 5) (v := .int (nI (q.2.2.2.1 i 0))) (C := RX5) (T := TX5) (N := 5) hx hb hts iX5 hown hK hP (10 + i) (cW_tap (by omega)) rfl 1 (by decide) (hts _ mg_83) (fun _ h9 => h9) rfl dX6_aboutOf_49 ?_
  exact ro_iret hx hb hr hlocks (abt_0.symm) dX6_aboutOf_52

set_option maxHeartbeats 4000000 in
set_option maxRecDepth 100000 in
theorem c_X6_aboutOf1 (l : Launch) (D : va_G) (a r k : Nat → Nat) (cI cT cN : ClassId) (xh xi xr pn : Nat) (pc : Nat → Int32) (rd : Nat × Nat × Nat) (B L : Nat → Int32) (q kq : RS) (b : Nat → Nat → Nat) (hS : SR b B L) (hok9 : hok b) (hT : Tok q) (i : Nat) (hi : i < q.1) : ROi l yX6_aboutOf (wA yX6_aboutOf cX6_aboutOf 3 (some .int)) ({ frames := 0, cells := 0, slots := 0, locals := 0 }) D (cTys cI cT cN) (cW a r k cI cT cN xh xi xr pn pc rd B L q kq) [.ref (a 0), .ref (r (3 + i)), .int (nI 1)] (abt b q.2.2.2.1 q.2.2.2.2 q.2.1 i 1) := by
  refine go_start (by decide) (Nat.le_of_ble_eq_true rfl) ?_
  intro p e s m args below meth c ls F _ hB hl
  obtain ⟨hx, hb, hr, hlocks, hml, hown, hts⟩ := F
  obtain ⟨hP, hK⟩ := hB
  have hown : s.vm.findClass RX6 = some m.cls := hown
  have hl : lv_has ls 3 [(0, .ref (a 0)), (1, .ref (r (3 + i))), (2, .int (nI 1))] := hl
  have ht5 := hT.1
  have ht8 := hT.2.1
  obtain ⟨hk0, hv0, hw0, hp0⟩ := hT.2.2.1 i hi
  refine lv_iload_n hx hb dX6_aboutOf_0 rfl (lv_at hl 2 rfl) ?_
  refine lv_tableIn (off := 52) (tgt := 53) hx hb dX6_aboutOf_1 (by rw [show (nI 1).toInt = 1 from by first | decide | (rw [nI_toInt (by decide)]; omega)]; decide) (by rw [show (nI 1).toInt = 1 from by first | decide | (rw [nI_toInt (by decide)]; omega)]; decide) (by rw [show (nI 1).toInt = 1 from by first | decide | (rw [nI_toInt (by decide)]; omega)]; rfl) (by decide) ?_
  refine lv_aload_n hx hb dX6_aboutOf_53 rfl (lv_at hl 1 rfl) ?_
  refine va_get (D := D) (ci := 5) (v := .int (nI (q.2.2.2.1 i 1))) (C := RX5) (T := TX5) (N := 5) hx hb hts iX5 hown hK hP (10 + i) (cW_tap (by omega)) rfl 2 (by decide) (hts _ mg_86) (fun _ h9 => h9) rfl dX6_aboutOf_54 ?_
  exact ro_iret hx hb hr hlocks (abt_1.symm) dX6_aboutOf_57

set_option maxHeartbeats 4000000 in
set_option maxRecDepth 100000 in
theorem c_X6_aboutOf2 (l : Launch) (D : va_G) (a r k : Nat → Nat) (cI cT cN : ClassId) (xh xi xr pn : Nat) (pc : Nat → Int32) (rd : Nat × Nat × Nat) (B L : Nat → Int32) (q kq : RS) (b : Nat → Nat → Nat) (hS : SR b B L) (hok9 : hok b) (hT : Tok q) (i : Nat) (hi : i < q.1) : ROi l yX6_aboutOf (wA yX6_aboutOf cX6_aboutOf 3 (some .int)) ({ frames := 0, cells := 0, slots := 0, locals := 0 }) D (cTys cI cT cN) (cW a r k cI cT cN xh xi xr pn pc rd B L q kq) [.ref (a 0), .ref (r (3 + i)), .int (nI 2)] (abt b q.2.2.2.1 q.2.2.2.2 q.2.1 i 2) := by
  refine go_start (by decide) (Nat.le_of_ble_eq_true rfl) ?_
  intro p e s m args below meth c ls F _ hB hl
  obtain ⟨hx, hb, hr, hlocks, hml, hown, hts⟩ := F
  obtain ⟨hP, hK⟩ := hB
  have hown : s.vm.findClass RX6 = some m.cls := hown
  have hl : lv_has ls 3 [(0, .ref (a 0)), (1, .ref (r (3 + i))), (2, .int (nI 2))] := hl
  have ht5 := hT.1
  have ht8 := hT.2.1
  obtain ⟨hk0, hv0, hw0, hp0⟩ := hT.2.2.1 i hi
  refine lv_iload_n hx hb dX6_aboutOf_0 rfl (lv_at hl 2 rfl) ?_
  refine lv_tableIn (off := 57) (tgt := 58) hx hb dX6_aboutOf_1 (by rw [show (nI 2).toInt = 2 from by first | decide | (rw [nI_toInt (by decide)]; omega)]; decide) (by rw [show (nI 2).toInt = 2 from by first | decide | (rw [nI_toInt (by decide)]; omega)]; decide) (by rw [show (nI 2).toInt = 2 from by first | decide | (rw [nI_toInt (by decide)]; omega)]; rfl) (by decide) ?_
  refine lv_aload_n hx hb dX6_aboutOf_58 rfl (lv_at hl 1 rfl) ?_
  refine va_get (D := D) (ci := 5) (v := .int (nI (q.2.2.2.1 i 2))) (C := RX5) (T := TX5) (N := 5) hx hb hts iX5 hown hK hP (10 + i) (cW_tap (by omega)) rfl 3 (by decide) (hts _ mg_89) (fun _ h9 => h9) rfl dX6_aboutOf_59 ?_
  exact ro_iret hx hb hr hlocks (abt_2.symm) dX6_aboutOf_62

set_option maxHeartbeats 4000000 in
set_option maxRecDepth 100000 in
theorem c_X6_aboutOf3 (l : Launch) (D : va_G) (a r k : Nat → Nat) (cI cT cN : ClassId) (xh xi xr pn : Nat) (pc : Nat → Int32) (rd : Nat × Nat × Nat) (B L : Nat → Int32) (q kq : RS) (b : Nat → Nat → Nat) (hS : SR b B L) (hok9 : hok b) (hT : Tok q) (i : Nat) (hi : i < q.1) : ROi l yX6_aboutOf (wA yX6_aboutOf cX6_aboutOf 3 (some .int)) ({ frames := 0, cells := 0, slots := 0, locals := 0 }) D (cTys cI cT cN) (cW a r k cI cT cN xh xi xr pn pc rd B L q kq) [.ref (a 0), .ref (r (3 + i)), .int (nI 3)] (abt b q.2.2.2.1 q.2.2.2.2 q.2.1 i 3) := by
  refine go_start (by decide) (Nat.le_of_ble_eq_true rfl) ?_
  intro p e s m args below meth c ls F _ hB hl
  obtain ⟨hx, hb, hr, hlocks, hml, hown, hts⟩ := F
  obtain ⟨hP, hK⟩ := hB
  have hown : s.vm.findClass RX6 = some m.cls := hown
  have hl : lv_has ls 3 [(0, .ref (a 0)), (1, .ref (r (3 + i))), (2, .int (nI 3))] := hl
  have ht5 := hT.1
  have ht8 := hT.2.1
  obtain ⟨hk0, hv0, hw0, hp0⟩ := hT.2.2.1 i hi
  refine lv_iload_n hx hb dX6_aboutOf_0 rfl (lv_at hl 2 rfl) ?_
  refine lv_tableIn (off := 62) (tgt := 63) hx hb dX6_aboutOf_1 (by rw [show (nI 3).toInt = 3 from by first | decide | (rw [nI_toInt (by decide)]; omega)]; decide) (by rw [show (nI 3).toInt = 3 from by first | decide | (rw [nI_toInt (by decide)]; omega)]; decide) (by rw [show (nI 3).toInt = 3 from by first | decide | (rw [nI_toInt (by decide)]; omega)]; rfl) (by decide) ?_
  refine lv_aload_n hx hb dX6_aboutOf_63 rfl (lv_at hl 1 rfl) ?_
  refine va_get (D := D) (ci := 5) (v := .int (nI (q.2.2.2.1 i 3))) (C := RX5) (T := TX5) (N := 5) hx hb hts iX5 hown hK hP (10 + i) (cW_tap (by omega)) rfl 4 (by decide) (hts _ mg_92) (fun _ h9 => h9) rfl dX6_aboutOf_64 ?_
  exact ro_iret hx hb hr hlocks (abt_3.symm) dX6_aboutOf_67

set_option maxHeartbeats 4000000 in
set_option maxRecDepth 100000 in
theorem c_X6_aboutOf4 (l : Launch) (D : va_G) (a r k : Nat → Nat) (cI cT cN : ClassId) (xh xi xr pn : Nat) (pc : Nat → Int32) (rd : Nat × Nat × Nat) (B L : Nat → Int32) (q kq : RS) (b : Nat → Nat → Nat) (hS : SR b B L) (hok9 : hok b) (hT : Tok q) (i : Nat) (hi : i < q.1) : ROi l yX6_aboutOf (wA yX6_aboutOf cX6_aboutOf 3 (some .int)) ({ frames := 4, cells := 0, slots := 0, locals := 101 }) D (cTys cI cT cN) (cW a r k cI cT cN xh xi xr pn pc rd B L q kq) [.ref (a 0), .ref (r (3 + i)), .int (nI 4)] (abt b q.2.2.2.1 q.2.2.2.2 q.2.1 i 4) := by
  refine go_start (by decide) (Nat.le_of_ble_eq_true rfl) ?_
  intro p e s m args below meth c ls F _ hB hl
  obtain ⟨hx, hb, hr, hlocks, hml, hown, hts⟩ := F
  obtain ⟨hP, hK⟩ := hB
  have hown : s.vm.findClass RX6 = some m.cls := hown
  have hl : lv_has ls 3 [(0, .ref (a 0)), (1, .ref (r (3 + i))), (2, .int (nI 4))] := hl
  have ht5 := hT.1
  have ht8 := hT.2.1
  obtain ⟨hk0, hv0, hw0, hp0⟩ := hT.2.2.1 i hi
  refine lv_iload_n hx hb dX6_aboutOf_0 rfl (lv_at hl 2 rfl) ?_
  refine lv_tableIn (off := 67) (tgt := 68) hx hb dX6_aboutOf_1 (by rw [show (nI 4).toInt = 4 from by first | decide | (rw [nI_toInt (by decide)]; omega)]; decide) (by rw [show (nI 4).toInt = 4 from by first | decide | (rw [nI_toInt (by decide)]; omega)]; decide) (by rw [show (nI 4).toInt = 4 from by first | decide | (rw [nI_toInt (by decide)]; omega)]; rfl) (by decide) ?_
  refine lv_aload_n hx hb dX6_aboutOf_68 rfl (lv_at hl 0 rfl) ?_
  refine lv_aload_n hx hb dX6_aboutOf_69 rfl (lv_at hl 1 rfl) ?_
  refine ro_iV (n := 1) (As := [.ref (r (3 + i))]) ⟨hx, hb, hml, hown, hts⟩ (c_X6_sureOf l D a r k cI cT cN xh xi xr pn pc rd B L q kq b hS hok9 hT i hi) (cwV 1 hts (gV mg_295 mg_297 mg_1004 mg_1 mg_298) rfl rfl rfl vd_X6_sureOf ⟨Nat.le_of_ble_eq_true rfl, Nat.le_of_ble_eq_true rfl⟩) (va_recv hK hP (ci := 6) (q0 := 0) rfl rfl) hK hP rfl hl.1 rfl (Nat.le_of_ble_eq_true rfl) dX6_aboutOf_70 ⟨Nat.zero_le _, Nat.zero_le _⟩ ?_
  exact ro_iret hx hb hr hlocks (abt_4.symm) dX6_aboutOf_73

set_option maxHeartbeats 4000000 in
set_option maxRecDepth 100000 in
theorem c_X6_aboutOf5 (l : Launch) (D : va_G) (a r k : Nat → Nat) (cI cT cN : ClassId) (xh xi xr pn : Nat) (pc : Nat → Int32) (rd : Nat × Nat × Nat) (B L : Nat → Int32) (q kq : RS) (b : Nat → Nat → Nat) (hS : SR b B L) (hok9 : hok b) (hT : Tok q) (i : Nat) (hi : i < q.1) : ROi l yX6_aboutOf (wA yX6_aboutOf cX6_aboutOf 3 (some .int)) ({ frames := 4, cells := 0, slots := 0, locals := 98 }) D (cTys cI cT cN) (cW a r k cI cT cN xh xi xr pn pc rd B L q kq) [.ref (a 0), .ref (r (3 + i)), .int (nI 5)] (abt b q.2.2.2.1 q.2.2.2.2 q.2.1 i 5) := by
  refine go_start (by decide) (Nat.le_of_ble_eq_true rfl) ?_
  intro p e s m args below meth c ls F _ hB hl
  obtain ⟨hx, hb, hr, hlocks, hml, hown, hts⟩ := F
  obtain ⟨hP, hK⟩ := hB
  have hown : s.vm.findClass RX6 = some m.cls := hown
  have hl : lv_has ls 3 [(0, .ref (a 0)), (1, .ref (r (3 + i))), (2, .int (nI 5))] := hl
  have ht5 := hT.1
  have ht8 := hT.2.1
  obtain ⟨hk0, hv0, hw0, hp0⟩ := hT.2.2.1 i hi
  refine lv_iload_n hx hb dX6_aboutOf_0 rfl (lv_at hl 2 rfl) ?_
  refine lv_tableIn (off := 73) (tgt := 74) hx hb dX6_aboutOf_1 (by rw [show (nI 5).toInt = 5 from by first | decide | (rw [nI_toInt (by decide)]; omega)]; decide) (by rw [show (nI 5).toInt = 5 from by first | decide | (rw [nI_toInt (by decide)]; omega)]; decide) (by rw [show (nI 5).toInt = 5 from by first | decide | (rw [nI_toInt (by decide)]; omega)]; rfl) (by decide) ?_
  refine lv_aload_n hx hb dX6_aboutOf_74 rfl (lv_at hl 0 rfl) ?_
  refine lv_aload_n hx hb dX6_aboutOf_75 rfl (lv_at hl 1 rfl) ?_
  refine ro_iV (n := 1) (As := [.ref (r (3 + i))]) ⟨hx, hb, hml, hown, hts⟩ (c_X6_saysOf l D a r k cI cT cN xh xi xr pn pc rd B L q kq b hS hok9 hT i hi) (cwV 1 hts (gV mg_312 mg_314 mg_1006 mg_1 mg_315) rfl rfl rfl vd_X6_saysOf ⟨Nat.le_of_ble_eq_true rfl, Nat.le_of_ble_eq_true rfl⟩) (va_recv hK hP (ci := 6) (q0 := 0) rfl rfl) hK hP rfl hl.1 rfl (Nat.le_of_ble_eq_true rfl) dX6_aboutOf_76 ⟨Nat.zero_le _, Nat.zero_le _⟩ ?_
  exact ro_iret hx hb hr hlocks (abt_5.symm) dX6_aboutOf_79

set_option maxHeartbeats 4000000 in
set_option maxRecDepth 100000 in
theorem c_X6_aboutOf6 (l : Launch) (D : va_G) (a r k : Nat → Nat) (cI cT cN : ClassId) (xh xi xr pn : Nat) (pc : Nat → Int32) (rd : Nat × Nat × Nat) (B L : Nat → Int32) (q kq : RS) (b : Nat → Nat → Nat) (hS : SR b B L) (hok9 : hok b) (hT : Tok q) (i : Nat) (hi : i < q.1) : ROi l yX6_aboutOf (wA yX6_aboutOf cX6_aboutOf 3 (some .int)) ({ frames := 4, cells := 0, slots := 0, locals := 98 }) D (cTys cI cT cN) (cW a r k cI cT cN xh xi xr pn pc rd B L q kq) [.ref (a 0), .ref (r (3 + i)), .int (nI 6)] (abt b q.2.2.2.1 q.2.2.2.2 q.2.1 i 6) := by
  refine go_start (by decide) (Nat.le_of_ble_eq_true rfl) ?_
  intro p e s m args below meth c ls F _ hB hl
  obtain ⟨hx, hb, hr, hlocks, hml, hown, hts⟩ := F
  obtain ⟨hP, hK⟩ := hB
  have hown : s.vm.findClass RX6 = some m.cls := hown
  have hl : lv_has ls 3 [(0, .ref (a 0)), (1, .ref (r (3 + i))), (2, .int (nI 6))] := hl
  have ht5 := hT.1
  have ht8 := hT.2.1
  obtain ⟨hk0, hv0, hw0, hp0⟩ := hT.2.2.1 i hi
  refine lv_iload_n hx hb dX6_aboutOf_0 rfl (lv_at hl 2 rfl) ?_
  refine lv_tableIn (off := 79) (tgt := 80) hx hb dX6_aboutOf_1 (by rw [show (nI 6).toInt = 6 from by first | decide | (rw [nI_toInt (by decide)]; omega)]; decide) (by rw [show (nI 6).toInt = 6 from by first | decide | (rw [nI_toInt (by decide)]; omega)]; decide) (by rw [show (nI 6).toInt = 6 from by first | decide | (rw [nI_toInt (by decide)]; omega)]; rfl) (by decide) ?_
  refine lv_aload_n hx hb dX6_aboutOf_80 rfl (lv_at hl 0 rfl) ?_
  refine lv_aload_n hx hb dX6_aboutOf_81 rfl (lv_at hl 1 rfl) ?_
  refine ro_iV (n := 1) (As := [.ref (r (3 + i))]) ⟨hx, hb, hml, hown, hts⟩ (c_X6_likelyOf l D a r k cI cT cN xh xi xr pn pc rd B L q kq b hS hok9 hT i hi) (cwV 1 hts (gV mg_324 mg_326 mg_1008 mg_1 mg_327) rfl rfl rfl vd_X6_likelyOf ⟨Nat.le_of_ble_eq_true rfl, Nat.le_of_ble_eq_true rfl⟩) (va_recv hK hP (ci := 6) (q0 := 0) rfl rfl) hK hP rfl hl.1 rfl (Nat.le_of_ble_eq_true rfl) dX6_aboutOf_82 ⟨Nat.zero_le _, Nat.zero_le _⟩ ?_
  exact ro_iret hx hb hr hlocks (abt_6.symm) dX6_aboutOf_85

set_option maxHeartbeats 4000000 in
set_option maxRecDepth 100000 in
theorem c_X6_aboutOf7 (l : Launch) (D : va_G) (a r k : Nat → Nat) (cI cT cN : ClassId) (xh xi xr pn : Nat) (pc : Nat → Int32) (rd : Nat × Nat × Nat) (B L : Nat → Int32) (q kq : RS) (b : Nat → Nat → Nat) (hS : SR b B L) (hok9 : hok b) (hT : Tok q) (i : Nat) (hi : i < q.1) : ROi l yX6_aboutOf (wA yX6_aboutOf cX6_aboutOf 3 (some .int)) ({ frames := 4, cells := 0, slots := 0, locals := 98 }) D (cTys cI cT cN) (cW a r k cI cT cN xh xi xr pn pc rd B L q kq) [.ref (a 0), .ref (r (3 + i)), .int (nI 7)] (abt b q.2.2.2.1 q.2.2.2.2 q.2.1 i 7) := by
  refine go_start (by decide) (Nat.le_of_ble_eq_true rfl) ?_
  intro p e s m args below meth c ls F _ hB hl
  obtain ⟨hx, hb, hr, hlocks, hml, hown, hts⟩ := F
  obtain ⟨hP, hK⟩ := hB
  have hown : s.vm.findClass RX6 = some m.cls := hown
  have hl : lv_has ls 3 [(0, .ref (a 0)), (1, .ref (r (3 + i))), (2, .int (nI 7))] := hl
  have ht5 := hT.1
  have ht8 := hT.2.1
  obtain ⟨hk0, hv0, hw0, hp0⟩ := hT.2.2.1 i hi
  refine lv_iload_n hx hb dX6_aboutOf_0 rfl (lv_at hl 2 rfl) ?_
  refine lv_tableIn (off := 85) (tgt := 86) hx hb dX6_aboutOf_1 (by rw [show (nI 7).toInt = 7 from by first | decide | (rw [nI_toInt (by decide)]; omega)]; decide) (by rw [show (nI 7).toInt = 7 from by first | decide | (rw [nI_toInt (by decide)]; omega)]; decide) (by rw [show (nI 7).toInt = 7 from by first | decide | (rw [nI_toInt (by decide)]; omega)]; rfl) (by decide) ?_
  refine lv_aload_n hx hb dX6_aboutOf_86 rfl (lv_at hl 0 rfl) ?_
  refine lv_aload_n hx hb dX6_aboutOf_87 rfl (lv_at hl 1 rfl) ?_
  refine lv_aload_n hx hb dX6_aboutOf_88 rfl (lv_at hl 0 rfl) ?_
  refine lv_aload_n hx hb dX6_aboutOf_89 rfl (lv_at hl 1 rfl) ?_
  refine ro_iV (n := 1) (As := [.ref (r (3 + i))]) ⟨hx, hb, hml, hown, hts⟩ (c_X6_likelyOf l D a r k cI cT cN xh xi xr pn pc rd B L q kq b hS hok9 hT i hi) (cwV 1 hts (gV mg_324 mg_326 mg_1008 mg_1 mg_327) rfl rfl rfl vd_X6_likelyOf ⟨Nat.le_of_ble_eq_true rfl, Nat.le_of_ble_eq_true rfl⟩) (va_recv hK hP (ci := 6) (q0 := 0) rfl rfl) hK hP rfl hl.1 rfl (Nat.le_of_ble_eq_true rfl) dX6_aboutOf_90 ⟨Nat.zero_le _, Nat.zero_le _⟩ ?_
  refine ro_iV (n := 2) (As := [.ref (r (3 + i)), .int (nI (lky (sly b q.2.2.2.1 i q.2.2.2.2 q.2.1) 3))]) ⟨hx, hb, hml, hown, hts⟩ (c_X6_slipsOf l D a r k cI cT cN xh xi xr pn pc rd B L q kq b hS hok9 hT i hi (lky (sly b q.2.2.2.1 i q.2.2.2.2 q.2.1) 3) (Nat.lt_succ_of_le (lky_le (sly b q.2.2.2.1 i q.2.2.2.2 q.2.1) 3))) (cwV 2 hts (gV mg_316 mg_318 mg_1007 mg_1 mg_319) rfl rfl rfl vd_X6_slipsOf ⟨Nat.le_of_ble_eq_true rfl, Nat.le_of_ble_eq_true rfl⟩) (va_recv hK hP (ci := 6) (q0 := 0) rfl rfl) hK hP rfl hl.1 rfl (Nat.le_of_ble_eq_true rfl) dX6_aboutOf_93 ⟨Nat.zero_le _, Nat.zero_le _⟩ ?_
  exact ro_iret hx hb hr hlocks (abt_7.symm) dX6_aboutOf_96

set_option maxHeartbeats 4000000 in
set_option maxRecDepth 100000 in
theorem c_X6_aboutOf8 (l : Launch) (D : va_G) (a r k : Nat → Nat) (cI cT cN : ClassId) (xh xi xr pn : Nat) (pc : Nat → Int32) (rd : Nat × Nat × Nat) (B L : Nat → Int32) (q kq : RS) (b : Nat → Nat → Nat) (hS : SR b B L) (hok9 : hok b) (hT : Tok q) (i : Nat) (hi : i < q.1) : ROi l yX6_aboutOf (wA yX6_aboutOf cX6_aboutOf 3 (some .int)) ({ frames := 4, cells := 0, slots := 0, locals := 100 }) D (cTys cI cT cN) (cW a r k cI cT cN xh xi xr pn pc rd B L q kq) [.ref (a 0), .ref (r (3 + i)), .int (nI 8)] (abt b q.2.2.2.1 q.2.2.2.2 q.2.1 i 8) := by
  refine go_start (by decide) (Nat.le_of_ble_eq_true rfl) ?_
  intro p e s m args below meth c ls F _ hB hl
  obtain ⟨hx, hb, hr, hlocks, hml, hown, hts⟩ := F
  obtain ⟨hP, hK⟩ := hB
  have hown : s.vm.findClass RX6 = some m.cls := hown
  have hl : lv_has ls 3 [(0, .ref (a 0)), (1, .ref (r (3 + i))), (2, .int (nI 8))] := hl
  have ht5 := hT.1
  have ht8 := hT.2.1
  obtain ⟨hk0, hv0, hw0, hp0⟩ := hT.2.2.1 i hi
  refine lv_iload_n hx hb dX6_aboutOf_0 rfl (lv_at hl 2 rfl) ?_
  refine lv_tableOut (tgt := 97) hx hb dX6_aboutOf_1 (by decide) (by decide) ?_
  refine lv_aload_n hx hb dX6_aboutOf_97 rfl (lv_at hl 0 rfl) ?_
  refine lv_aload_n hx hb dX6_aboutOf_98 rfl (lv_at hl 1 rfl) ?_
  refine lv_aload_n hx hb dX6_aboutOf_99 rfl (lv_at hl 0 rfl) ?_
  refine lv_aload_n hx hb dX6_aboutOf_100 rfl (lv_at hl 1 rfl) ?_
  refine ro_iV (n := 1) (As := [.ref (r (3 + i))]) ⟨hx, hb, hml, hown, hts⟩ (c_X6_saysOf l D a r k cI cT cN xh xi xr pn pc rd B L q kq b hS hok9 hT i hi) (cwV 1 hts (gV mg_312 mg_314 mg_1006 mg_1 mg_315) rfl rfl rfl vd_X6_saysOf ⟨Nat.le_of_ble_eq_true rfl, Nat.le_of_ble_eq_true rfl⟩) (va_recv hK hP (ci := 6) (q0 := 0) rfl rfl) hK hP rfl hl.1 rfl (Nat.le_of_ble_eq_true rfl) dX6_aboutOf_101 ⟨Nat.zero_le _, Nat.zero_le _⟩ ?_
  refine ro_iV (n := 2) (As := [.ref (r (3 + i)), .int (nI (sys (sly b q.2.2.2.1 i q.2.2.2.2 q.2.1) 4))]) ⟨hx, hb, hml, hown, hts⟩ (c_X6_bestToHear l D a r k cI cT cN xh xi xr pn pc rd B L q kq b hS hok9 hT i hi (sys (sly b q.2.2.2.1 i q.2.2.2.2 q.2.1) 4) (sys_lt (sly b q.2.2.2.1 i q.2.2.2.2 q.2.1) 4)) (cwV 2 hts (gV mg_328 mg_330 mg_1009 mg_1 mg_331) rfl rfl rfl vd_X6_bestToHear ⟨Nat.le_of_ble_eq_true rfl, Nat.le_of_ble_eq_true rfl⟩) (va_recv hK hP (ci := 6) (q0 := 0) rfl rfl) hK hP rfl hl.1 rfl (Nat.le_of_ble_eq_true rfl) dX6_aboutOf_104 ⟨Nat.zero_le _, Nat.zero_le _⟩ ?_
  exact ro_iret hx hb hr hlocks (abt_8.symm) dX6_aboutOf_107
end
section
/-! the public calls' answers, over raw ints -/
abbrev inr (x : Int32) (lo hi : Int) : Prop := lo ≤ x.toInt ∧ x.toInt < hi
abbrev ti (x : Int32) : Nat := x.toInt.toNat
theorem ti_nI {i : Nat} (h : i < 2 ^ 31) : ti (nI i) = i := by unfold ti; rw [nI_toInt h]; rfl
theorem inr_nat {x : Int32} {n : Nat} (h : inr x 0 n) (hn : n < 2 ^ 31) : ∃ i : Nat, i < n ∧ x = nI i := by
  refine vp_in_of (vp_in_iff.mpr ⟨h.1, h.2⟩) hn
theorem inr_out {x : Int32} {lo hi : Int} (h : ¬ inr x lo hi) : x.toInt < lo ∨ hi ≤ x.toInt := by
  rcases Int.lt_or_le x.toInt lo with q | q
  · exact Or.inl q
  · exact Or.inr (Int.not_lt.mp (fun z => h ⟨q, z⟩))
theorem inr_nI {i : Nat} {n : Nat} (h : i < n) (hn : n < 2 ^ 31) : inr (nI i) 0 n := by
  unfold inr; rw [nI_toInt (Nat.lt_trans h hn)]; omega
def bta (b : Nat → Nat → Nat) (v j : Nat) : Int32 := if j < b v 0 then nI (b v (1 + j)) else -1
def sp_saying (b : Nat → Nat → Nat) (tn : Nat) (x w : Int32) : Int32 :=
  if ¬ tn = 0 ∧ inr x 0 4 then (if w.toInt = 0 then nI (b (ti x) 0) else if inr w 10 14 then bta b (ti x) (ti w - 10) else -102) else -101
def sp_about (b : Nat → Nat → Nat) (q : RS) (x w : Int32) : Int32 :=
  if inr x 0 q.1 then (if inr w 0 9 then abt b q.2.2.2.1 q.2.2.2.2 q.2.1 (ti x) (ti w) else -102) else -101
def sp_as (q : RS) (x w : Int32) : Int32 :=
  if inr x 0 q.1 then (if inr w 0 5 then (if ti w = 0 ∨ ti w = q.2.2.2.1 (ti x) 0 ∨ (ti w = 1 ∧ q.2.2.2.1 (ti x) 0 = 4) then nI (ti x) else -1) else -102) else -101
def sp_drip (b : Nat → Nat → Nat) (q : RS) (x w : Int32) : Int32 :=
  if inr x 0 q.1 then (if inr w 0 100 then nI (sd b (q.2.2.2.1 (ti x) 0) (q.2.2.2.1 (ti x) 2) (q.2.2.2.1 (ti x) 1) (ti w)) else -102) else -101
def sp_agree (b : Nat → Nat → Nat) (q : RS) (x y : Int32) : Int32 :=
  if inr x 0 q.1 ∧ inr y 0 q.1 ∧ ¬ ti x = ti y then nI (cnt (agf b q.2.2.2.1 (ti x) (ti y)) 16) else -101
def sp_near (b : Nat → Nat → Nat) (q : RS) (x y w : Int32) : Int32 :=
  if inr x 0 q.1 then (if inr y 0 4 ∧ inr w 0 2 then nI (ner b (q.2.2.2.1 (ti x) 0) (q.2.2.2.1 (ti x) 1) (ti y) (ti w)) else -102) else -101
/-- what count() tells -/
def cto (b : Nat → Nat → Nat) (q : RS) (pn xr w : Nat) : Int32 :=
  if w = 0 then nI q.1 else if w = 1 then nI (smu (fun v => b v 0) 4) else if w = 2 then nI (smu (fun i => q.2.2.2.1 i 2) q.1) else if w = 3 then nI (smu (fun i => q.2.2.2.1 i 3) q.1) else if w = 4 then q.2.2.1 else if w = 5 then nI q.2.1 else if w = 6 then nI pn else nI xr
section CTO
variable {b : Nat → Nat → Nat} {q : RS} {pn xr : Nat}
theorem cto_0 : cto b q pn xr 0 = nI q.1 := by unfold cto; rw [if_pos rfl]
theorem cto_1 : cto b q pn xr 1 = nI (smu (fun v => b v 0) 4) := by unfold cto; rw [if_neg (by decide), if_pos rfl]
theorem cto_2 : cto b q pn xr 2 = nI (smu (fun i => q.2.2.2.1 i 2) q.1) := by unfold cto; rw [if_neg (by decide), if_neg (by decide), if_pos rfl]
theorem cto_3 : cto b q pn xr 3 = nI (smu (fun i => q.2.2.2.1 i 3) q.1) := by unfold cto; rw [if_neg (by decide), if_neg (by decide), if_neg (by decide), if_pos rfl]
theorem cto_4 : cto b q pn xr 4 = q.2.2.1 := by unfold cto; rw [if_neg (by decide), if_neg (by decide), if_neg (by decide), if_neg (by decide), if_pos rfl]
theorem cto_5 : cto b q pn xr 5 = nI q.2.1 := by unfold cto; rw [if_neg (by decide), if_neg (by decide), if_neg (by decide), if_neg (by decide), if_neg (by decide), if_pos rfl]
theorem cto_6 : cto b q pn xr 6 = nI pn := by unfold cto; rw [if_neg (by decide), if_neg (by decide), if_neg (by decide), if_neg (by decide), if_neg (by decide), if_neg (by decide), if_pos rfl]
theorem cto_7 : cto b q pn xr 7 = nI xr := by unfold cto; rw [if_neg (by decide), if_neg (by decide), if_neg (by decide), if_neg (by decide), if_neg (by decide), if_neg (by decide), if_neg (by decide)]
end CTO
def sp_count (b : Nat → Nat → Nat) (q : RS) (pn xr : Nat) (w : Int32) : Int32 := if inr w 0 8 then cto b q pn xr (ti w) else -102
/-- nights: longs, slips, the seed -/
def ngd (s : Nat) : Nat := if s / 65536 % 8 = 0 then 1 else 0
theorem ngd_le (s : Nat) : ngd s ≤ 1 := by unfold ngd; split <;> omega
def ngt (b t : Nat → Nat → Nat) (n i : Nat) (y : Nat × Nat × Nat) : Nat × Nat × Nat := (y.1 + (dpl b t i (t i 1) n ^^^ ngd (nxs y.2.2)), y.2.1 + ngd (nxs y.2.2), nxs y.2.2)
def ngs (b t : Nat → Nat → Nat) (n : Nat) (z : Nat × Nat × Nat) : Nat → Nat × Nat × Nat
  | 0 => z
  | i + 1 => ngt b t n i (ngs b t n z i)
def ngo (b t : Nat → Nat → Nat) (tn : Nat) (z : Nat × Nat × Nat) : Nat → Nat × Nat × Nat
  | 0 => z
  | n + 1 => ngs b t n (ngo b t tn z n) tn
def sp_nights (b : Nat → Nat → Nat) (q : RS) (x y w : Int32) : Int32 :=
  if inr x 1 41 ∧ 0 ≤ y.toInt ∧ inr w 0 3 then (if q.1 = 0 then -103 else let z := ngo b q.2.2.2.1 q.1 (0, 0, ti y) (ti x); if ti w = 0 then nI z.1 else if ti w = 1 then nI z.2.1 else nI z.2.2) else -102
theorem xor_le {x y : Nat} (hx : x ≤ 1) (hy : y ≤ 1) : x ^^^ y ≤ 1 := by rw [xw hx hy]; split <;> omega
theorem nxs_eq {s : Nat} (h : s < 2 ^ 31) : (((1103515245 : Int64) * lN s + (12345 : Int64)) - ((1103515245 : Int64) * lN s + (12345 : Int64)) / (2147483648 : Int64) * (2147483648 : Int64)).toInt32 = nI (nxs s) := by
  have e1 : (1103515245 : Int64) = lN 1103515245 := rfl
  have e2 : (12345 : Int64) = lN 12345 := rfl
  have e3 : (2147483648 : Int64) = lN 2147483648 := rfl
  rw [e1, e2, e3, lN_mul, lN_add, pk_lRem (by omega) (by decide) (by decide), lN_i]
  rfl
/-- digests -/
def dsy (b : Nat → Nat → Nat) (h : Int64) : Nat → Int64
  | 0 => h
  | v + 1 => fo (31 * dsy b h v + lN (b v 0)) (fun j => (bta b v j).toInt64) 4
def dnr (b : Nat → Nat → Nat) (kd v0 : Nat) (h : Int64) : Nat → Int64
  | 0 => h
  | v + 1 => fo (dnr b kd v0 h v) (fun w => lN (ner b kd v0 v w)) 2
def dtp (b : Nat → Nat → Nat) (q : RS) (i : Nat) (h : Int64) : Int64 :=
  dnr b (q.2.2.2.1 i 0) (q.2.2.2.1 i 1) (fo (fo h (fun w => (abt b q.2.2.2.1 q.2.2.2.2 q.2.1 i w).toInt64) 9) (fun n => lN (sd b (q.2.2.2.1 i 0) (q.2.2.2.1 i 2) (q.2.2.2.1 i 1) n)) 8) 4
def dtl (b : Nat → Nat → Nat) (q : RS) (h : Int64) : Nat → Int64
  | 0 => h
  | i + 1 => dtp b q i (dtl b q h i)
def sp_digest (b : Nat → Nat → Nat) (q : RS) (pc : Nat → Int32) (pn xr : Nat) : Int64 :=
  fo (fo (dtl b q (if q.1 = 0 then 1061 else dsy b 1061 4) q.1) (fun k => (pc k).toInt64) pn) (fun w => (cto b q pn xr w).toInt64) 8
theorem smu_le {f : Nat → Nat} {m : Nat} : ∀ n, (∀ i, i < n → f i ≤ m) → smu f n ≤ n * m := by
  intro n
  induction n with
  | zero => intro _; exact Nat.zero_le _
  | succ n ih =>
    intro h
    have h1 := ih (fun i hi => h i (Nat.lt_succ_of_lt hi))
    have h2 := h n (Nat.lt_succ_self n)
    show smu f n + f n ≤ (n + 1) * m
    rw [Nat.succ_mul]
    omega
end
section
set_option maxHeartbeats 4000000 in
set_option maxRecDepth 100000 in
theorem c_X1_codeAt (l : Launch) (D : va_G) (a : Nat → Nat) (cI cT cN : ClassId) (pn : Nat) (pc : Nat → Int32) (rd : Nat × Nat × Nat) (i : Nat) (hi : i < pn) (h30 : pn ≤ 30) : ROi l yX1_codeAt (wA yX1_codeAt cX1_codeAt 2 (some .int)) ({ frames := 0, cells := 0, slots := 0, locals := 0 }) D (cTys cI cT cN) (pW a cI pn pc rd) [.ref (a 1), .int (nI i)] (pc i) := by
  refine go_start (by decide) (Nat.le_of_ble_eq_true rfl) ?_
  intro p e s m args below meth c ls F _ hB hl
  obtain ⟨hx, hb, hr, hlocks, hml, hown, hts⟩ := F
  obtain ⟨hP, hK⟩ := hB
  have hown : s.vm.findClass RX1 = some m.cls := hown
  have hl : lv_has ls 2 [(0, .ref (a 1)), (1, .int (nI i))] := hl
  refine lv_iload_n hx hb dX1_codeAt_0 rfl (lv_at hl 1 rfl) ?_
  refine j_if_lt (tgt := 30) hx hb dX1_codeAt_1 (by decide) (nI_toInt (by omega)) (fun c_1 => absurd c_1 (by omega)) (fun c_1 => ?_)
  refine lv_iload_n hx hb dX1_codeAt_4 rfl (lv_at hl 1 rfl) ?_
  refine lv_aload_n hx hb dX1_codeAt_5 rfl (lv_at hl 0 rfl) ?_
  refine va_get (D := D) (ci := 1) (v := .int (nI pn)) (C := RX1) (T := TX1) (N := 3) hx hb hts iX1 hown hK hP 0 rfl rfl 2 (by decide) (hts _ mg_43) (fun _ h9 => h9) rfl dX1_codeAt_6 ?_
  refine j_icmp_ge (tgt := 30) hx hb dX1_codeAt_9 (by decide) (nI_toInt (by omega)) (nI_toInt (by omega)) (fun c_2 => absurd c_2 (by omega)) (fun c_2 => ?_)
  refine lv_iload_n hx hb dX1_codeAt_12 rfl (lv_at hl 1 rfl) ?_
  refine lv_aload_n hx hb dX1_codeAt_13 rfl (lv_at hl 0 rfl) ?_
  refine va_get (D := D) (ci := 1) (v := .ref (a 2)) (C := RX1) (T := TX1) (N := 3) hx hb hts iX1 hown hK hP 0 rfl rfl 0 (by decide) (hts _ mg_41) (fun _ h9 => h9) rfl dX1_codeAt_14 ?_
  refine va_alen (v := nI 30) hx hb hK hP 1 0 rfl rfl rfl dX1_codeAt_17 ?_
  refine j_icmp_ge (tgt := 30) hx hb dX1_codeAt_18 (by decide) (nI_toInt (by omega)) (nI_toInt (by decide)) (fun c_3 => absurd c_3 (by omega)) (fun c_3 => ?_)
  refine lv_aload_n hx hb dX1_codeAt_21 rfl (lv_at hl 0 rfl) ?_
  refine va_get (D := D) (ci := 1) (v := .ref (a 2)) (C := RX1) (T := TX1) (N := 3) hx hb hts iX1 hown hK hP 0 rfl rfl 0 (by decide) (hts _ mg_41) (fun _ h9 => h9) rfl dX1_codeAt_22 ?_
  refine lv_iload_n hx hb dX1_codeAt_25 rfl (lv_at hl 1 rfl) ?_
  refine n_aldi hx hb hK hP 1 0 rfl rfl (by omega) (by decide) (v := pc i) (rfl) dX1_codeAt_26 ?_
  refine lv_goto (tgt := 31) hx hb dX1_codeAt_27 (by decide) ?_
  exact ro_iret hx hb hr hlocks (rfl) dX1_codeAt_31

set_option maxHeartbeats 4000000 in
set_option maxRecDepth 100000 in
theorem c_X6_abo0 (l : Launch) (D : va_G) (a r k : Nat → Nat) (cI cT cN : ClassId) (xh xi xr pn : Nat) (pc : Nat → Int32) (rd : Nat × Nat × Nat) (B L : Nat → Int32) (q kq : RS) (b : Nat → Nat → Nat) (hS : SR b B L) (hok9 : hok b) (hT : Tok q) (i : Nat) (hi : i < q.1) : ROi l yX6_aboutOf (wA yX6_aboutOf cX6_aboutOf 3 (some .int)) ({ frames := 4, cells := 0, slots := 0, locals := 101 }) D (cTys cI cT cN) (cW a r k cI cT cN xh xi xr pn pc rd B L q kq) [.ref (a 0), .ref (r (3 + i)), .int (nI 0)] (abt b q.2.2.2.1 q.2.2.2.2 q.2.1 i 0) := by
  refine go_start (by decide) (Nat.le_of_ble_eq_true rfl) ?_
  intro p e s m args below meth c ls F _ hB hl
  obtain ⟨hx, hb, hr, hlocks, hml, hown, hts⟩ := F
  obtain ⟨hP, hK⟩ := hB
  have hown : s.vm.findClass RX6 = some m.cls := hown
  have hl : lv_has ls 3 [(0, .ref (a 0)), (1, .ref (r (3 + i))), (2, .int (nI 0))] := hl
  have ht5 := hT.1
  have ht8 := hT.2.1
  obtain ⟨hk0, hv0, hw0, hp0⟩ := hT.2.2.1 i hi
  refine lv_iload_n hx hb dX6_aboutOf_0 rfl (lv_at hl 2 rfl) ?_
  refine lv_tableIn (off := 47) (tgt := 48) hx hb dX6_aboutOf_1 (by rw [show (nI 0).toInt = 0 from by first | decide | (rw [nI_toInt (by decide)]; omega)]; decide) (by rw [show (nI 0).toInt = 0 from by first | decide | (rw [nI_toInt (by decide)]; omega)]; decide) (by rw [show (nI 0).toInt = 0 from by first | decide | (rw [nI_toInt (by decide)]; omega)]; rfl) (by decide) ?_
  refine lv_aload_n hx hb dX6_aboutOf_48 rfl (lv_at hl 1 rfl) ?_
  refine va_get (D := D) (ci := 5) (v := .int (nI (q.2.2.2.1 i 0))) (C := RX5) (T := TX5) (N := 5) hx hb hts iX5 hown hK hP (10 + i) (cW_tap (by omega)) rfl 1 (by decide) (hts _ mg_83) (fun _ h9 => h9) rfl dX6_aboutOf_49 ?_
  exact ro_iret hx hb hr hlocks (abt_0.symm) dX6_aboutOf_52

set_option maxHeartbeats 4000000 in
set_option maxRecDepth 100000 in
theorem c_X6_abo1 (l : Launch) (D : va_G) (a r k : Nat → Nat) (cI cT cN : ClassId) (xh xi xr pn : Nat) (pc : Nat → Int32) (rd : Nat × Nat × Nat) (B L : Nat → Int32) (q kq : RS) (b : Nat → Nat → Nat) (hS : SR b B L) (hok9 : hok b) (hT : Tok q) (i : Nat) (hi : i < q.1) : ROi l yX6_aboutOf (wA yX6_aboutOf cX6_aboutOf 3 (some .int)) ({ frames := 4, cells := 0, slots := 0, locals := 101 }) D (cTys cI cT cN) (cW a r k cI cT cN xh xi xr pn pc rd B L q kq) [.ref (a 0), .ref (r (3 + i)), .int (nI 1)] (abt b q.2.2.2.1 q.2.2.2.2 q.2.1 i 1) := by
  refine go_start (by decide) (Nat.le_of_ble_eq_true rfl) ?_
  intro p e s m args below meth c ls F _ hB hl
  obtain ⟨hx, hb, hr, hlocks, hml, hown, hts⟩ := F
  obtain ⟨hP, hK⟩ := hB
  have hown : s.vm.findClass RX6 = some m.cls := hown
  have hl : lv_has ls 3 [(0, .ref (a 0)), (1, .ref (r (3 + i))), (2, .int (nI 1))] := hl
  have ht5 := hT.1
  have ht8 := hT.2.1
  obtain ⟨hk0, hv0, hw0, hp0⟩ := hT.2.2.1 i hi
  refine lv_iload_n hx hb dX6_aboutOf_0 rfl (lv_at hl 2 rfl) ?_
  refine lv_tableIn (off := 52) (tgt := 53) hx hb dX6_aboutOf_1 (by rw [show (nI 1).toInt = 1 from by first | decide | (rw [nI_toInt (by decide)]; omega)]; decide) (by rw [show (nI 1).toInt = 1 from by first | decide | (rw [nI_toInt (by decide)]; omega)]; decide) (by rw [show (nI 1).toInt = 1 from by first | decide | (rw [nI_toInt (by decide)]; omega)]; rfl) (by decide) ?_
  refine lv_aload_n hx hb dX6_aboutOf_53 rfl (lv_at hl 1 rfl) ?_
  refine va_get (D := D) (ci := 5) (v := .int (nI (q.2.2.2.1 i 1))) (C := RX5) (T := TX5) (N := 5) hx hb hts iX5 hown hK hP (10 + i) (cW_tap (by omega)) rfl 2 (by decide) (hts _ mg_86) (fun _ h9 => h9) rfl dX6_aboutOf_54 ?_
  exact ro_iret hx hb hr hlocks (abt_1.symm) dX6_aboutOf_57

set_option maxHeartbeats 4000000 in
set_option maxRecDepth 100000 in
theorem c_X6_abo2 (l : Launch) (D : va_G) (a r k : Nat → Nat) (cI cT cN : ClassId) (xh xi xr pn : Nat) (pc : Nat → Int32) (rd : Nat × Nat × Nat) (B L : Nat → Int32) (q kq : RS) (b : Nat → Nat → Nat) (hS : SR b B L) (hok9 : hok b) (hT : Tok q) (i : Nat) (hi : i < q.1) : ROi l yX6_aboutOf (wA yX6_aboutOf cX6_aboutOf 3 (some .int)) ({ frames := 4, cells := 0, slots := 0, locals := 101 }) D (cTys cI cT cN) (cW a r k cI cT cN xh xi xr pn pc rd B L q kq) [.ref (a 0), .ref (r (3 + i)), .int (nI 2)] (abt b q.2.2.2.1 q.2.2.2.2 q.2.1 i 2) := by
  refine go_start (by decide) (Nat.le_of_ble_eq_true rfl) ?_
  intro p e s m args below meth c ls F _ hB hl
  obtain ⟨hx, hb, hr, hlocks, hml, hown, hts⟩ := F
  obtain ⟨hP, hK⟩ := hB
  have hown : s.vm.findClass RX6 = some m.cls := hown
  have hl : lv_has ls 3 [(0, .ref (a 0)), (1, .ref (r (3 + i))), (2, .int (nI 2))] := hl
  have ht5 := hT.1
  have ht8 := hT.2.1
  obtain ⟨hk0, hv0, hw0, hp0⟩ := hT.2.2.1 i hi
  refine lv_iload_n hx hb dX6_aboutOf_0 rfl (lv_at hl 2 rfl) ?_
  refine lv_tableIn (off := 57) (tgt := 58) hx hb dX6_aboutOf_1 (by rw [show (nI 2).toInt = 2 from by first | decide | (rw [nI_toInt (by decide)]; omega)]; decide) (by rw [show (nI 2).toInt = 2 from by first | decide | (rw [nI_toInt (by decide)]; omega)]; decide) (by rw [show (nI 2).toInt = 2 from by first | decide | (rw [nI_toInt (by decide)]; omega)]; rfl) (by decide) ?_
  refine lv_aload_n hx hb dX6_aboutOf_58 rfl (lv_at hl 1 rfl) ?_
  refine va_get (D := D) (ci := 5) (v := .int (nI (q.2.2.2.1 i 2))) (C := RX5) (T := TX5) (N := 5) hx hb hts iX5 hown hK hP (10 + i) (cW_tap (by omega)) rfl 3 (by decide) (hts _ mg_89) (fun _ h9 => h9) rfl dX6_aboutOf_59 ?_
  exact ro_iret hx hb hr hlocks (abt_2.symm) dX6_aboutOf_62

set_option maxHeartbeats 4000000 in
set_option maxRecDepth 100000 in
theorem c_X6_abo3 (l : Launch) (D : va_G) (a r k : Nat → Nat) (cI cT cN : ClassId) (xh xi xr pn : Nat) (pc : Nat → Int32) (rd : Nat × Nat × Nat) (B L : Nat → Int32) (q kq : RS) (b : Nat → Nat → Nat) (hS : SR b B L) (hok9 : hok b) (hT : Tok q) (i : Nat) (hi : i < q.1) : ROi l yX6_aboutOf (wA yX6_aboutOf cX6_aboutOf 3 (some .int)) ({ frames := 4, cells := 0, slots := 0, locals := 101 }) D (cTys cI cT cN) (cW a r k cI cT cN xh xi xr pn pc rd B L q kq) [.ref (a 0), .ref (r (3 + i)), .int (nI 3)] (abt b q.2.2.2.1 q.2.2.2.2 q.2.1 i 3) := by
  refine go_start (by decide) (Nat.le_of_ble_eq_true rfl) ?_
  intro p e s m args below meth c ls F _ hB hl
  obtain ⟨hx, hb, hr, hlocks, hml, hown, hts⟩ := F
  obtain ⟨hP, hK⟩ := hB
  have hown : s.vm.findClass RX6 = some m.cls := hown
  have hl : lv_has ls 3 [(0, .ref (a 0)), (1, .ref (r (3 + i))), (2, .int (nI 3))] := hl
  have ht5 := hT.1
  have ht8 := hT.2.1
  obtain ⟨hk0, hv0, hw0, hp0⟩ := hT.2.2.1 i hi
  refine lv_iload_n hx hb dX6_aboutOf_0 rfl (lv_at hl 2 rfl) ?_
  refine lv_tableIn (off := 62) (tgt := 63) hx hb dX6_aboutOf_1 (by rw [show (nI 3).toInt = 3 from by first | decide | (rw [nI_toInt (by decide)]; omega)]; decide) (by rw [show (nI 3).toInt = 3 from by first | decide | (rw [nI_toInt (by decide)]; omega)]; decide) (by rw [show (nI 3).toInt = 3 from by first | decide | (rw [nI_toInt (by decide)]; omega)]; rfl) (by decide) ?_
  refine lv_aload_n hx hb dX6_aboutOf_63 rfl (lv_at hl 1 rfl) ?_
  refine va_get (D := D) (ci := 5) (v := .int (nI (q.2.2.2.1 i 3))) (C := RX5) (T := TX5) (N := 5) hx hb hts iX5 hown hK hP (10 + i) (cW_tap (by omega)) rfl 4 (by decide) (hts _ mg_92) (fun _ h9 => h9) rfl dX6_aboutOf_64 ?_
  exact ro_iret hx hb hr hlocks (abt_3.symm) dX6_aboutOf_67

set_option maxHeartbeats 4000000 in
set_option maxRecDepth 100000 in
theorem c_X6_abo4 (l : Launch) (D : va_G) (a r k : Nat → Nat) (cI cT cN : ClassId) (xh xi xr pn : Nat) (pc : Nat → Int32) (rd : Nat × Nat × Nat) (B L : Nat → Int32) (q kq : RS) (b : Nat → Nat → Nat) (hS : SR b B L) (hok9 : hok b) (hT : Tok q) (i : Nat) (hi : i < q.1) : ROi l yX6_aboutOf (wA yX6_aboutOf cX6_aboutOf 3 (some .int)) ({ frames := 4, cells := 0, slots := 0, locals := 101 }) D (cTys cI cT cN) (cW a r k cI cT cN xh xi xr pn pc rd B L q kq) [.ref (a 0), .ref (r (3 + i)), .int (nI 4)] (abt b q.2.2.2.1 q.2.2.2.2 q.2.1 i 4) := by
  refine go_start (by decide) (Nat.le_of_ble_eq_true rfl) ?_
  intro p e s m args below meth c ls F _ hB hl
  obtain ⟨hx, hb, hr, hlocks, hml, hown, hts⟩ := F
  obtain ⟨hP, hK⟩ := hB
  have hown : s.vm.findClass RX6 = some m.cls := hown
  have hl : lv_has ls 3 [(0, .ref (a 0)), (1, .ref (r (3 + i))), (2, .int (nI 4))] := hl
  have ht5 := hT.1
  have ht8 := hT.2.1
  obtain ⟨hk0, hv0, hw0, hp0⟩ := hT.2.2.1 i hi
  refine lv_iload_n hx hb dX6_aboutOf_0 rfl (lv_at hl 2 rfl) ?_
  refine lv_tableIn (off := 67) (tgt := 68) hx hb dX6_aboutOf_1 (by rw [show (nI 4).toInt = 4 from by first | decide | (rw [nI_toInt (by decide)]; omega)]; decide) (by rw [show (nI 4).toInt = 4 from by first | decide | (rw [nI_toInt (by decide)]; omega)]; decide) (by rw [show (nI 4).toInt = 4 from by first | decide | (rw [nI_toInt (by decide)]; omega)]; rfl) (by decide) ?_
  refine lv_aload_n hx hb dX6_aboutOf_68 rfl (lv_at hl 0 rfl) ?_
  refine lv_aload_n hx hb dX6_aboutOf_69 rfl (lv_at hl 1 rfl) ?_
  refine ro_iV (n := 1) (As := [.ref (r (3 + i))]) ⟨hx, hb, hml, hown, hts⟩ (c_X6_sureOf l D a r k cI cT cN xh xi xr pn pc rd B L q kq b hS hok9 hT i hi) (cwV 1 hts (gV mg_295 mg_297 mg_1004 mg_1 mg_298) rfl rfl rfl vd_X6_sureOf ⟨Nat.le_of_ble_eq_true rfl, Nat.le_of_ble_eq_true rfl⟩) (va_recv hK hP (ci := 6) (q0 := 0) rfl rfl) hK hP rfl hl.1 rfl (Nat.le_of_ble_eq_true rfl) dX6_aboutOf_70 ⟨Nat.zero_le _, Nat.zero_le _⟩ ?_
  exact ro_iret hx hb hr hlocks (abt_4.symm) dX6_aboutOf_73

set_option maxHeartbeats 4000000 in
set_option maxRecDepth 100000 in
theorem c_X6_abo5 (l : Launch) (D : va_G) (a r k : Nat → Nat) (cI cT cN : ClassId) (xh xi xr pn : Nat) (pc : Nat → Int32) (rd : Nat × Nat × Nat) (B L : Nat → Int32) (q kq : RS) (b : Nat → Nat → Nat) (hS : SR b B L) (hok9 : hok b) (hT : Tok q) (i : Nat) (hi : i < q.1) : ROi l yX6_aboutOf (wA yX6_aboutOf cX6_aboutOf 3 (some .int)) ({ frames := 4, cells := 0, slots := 0, locals := 101 }) D (cTys cI cT cN) (cW a r k cI cT cN xh xi xr pn pc rd B L q kq) [.ref (a 0), .ref (r (3 + i)), .int (nI 5)] (abt b q.2.2.2.1 q.2.2.2.2 q.2.1 i 5) := by
  refine go_start (by decide) (Nat.le_of_ble_eq_true rfl) ?_
  intro p e s m args below meth c ls F _ hB hl
  obtain ⟨hx, hb, hr, hlocks, hml, hown, hts⟩ := F
  obtain ⟨hP, hK⟩ := hB
  have hown : s.vm.findClass RX6 = some m.cls := hown
  have hl : lv_has ls 3 [(0, .ref (a 0)), (1, .ref (r (3 + i))), (2, .int (nI 5))] := hl
  have ht5 := hT.1
  have ht8 := hT.2.1
  obtain ⟨hk0, hv0, hw0, hp0⟩ := hT.2.2.1 i hi
  refine lv_iload_n hx hb dX6_aboutOf_0 rfl (lv_at hl 2 rfl) ?_
  refine lv_tableIn (off := 73) (tgt := 74) hx hb dX6_aboutOf_1 (by rw [show (nI 5).toInt = 5 from by first | decide | (rw [nI_toInt (by decide)]; omega)]; decide) (by rw [show (nI 5).toInt = 5 from by first | decide | (rw [nI_toInt (by decide)]; omega)]; decide) (by rw [show (nI 5).toInt = 5 from by first | decide | (rw [nI_toInt (by decide)]; omega)]; rfl) (by decide) ?_
  refine lv_aload_n hx hb dX6_aboutOf_74 rfl (lv_at hl 0 rfl) ?_
  refine lv_aload_n hx hb dX6_aboutOf_75 rfl (lv_at hl 1 rfl) ?_
  refine ro_iV (n := 1) (As := [.ref (r (3 + i))]) ⟨hx, hb, hml, hown, hts⟩ (c_X6_saysOf l D a r k cI cT cN xh xi xr pn pc rd B L q kq b hS hok9 hT i hi) (cwV 1 hts (gV mg_312 mg_314 mg_1006 mg_1 mg_315) rfl rfl rfl vd_X6_saysOf ⟨Nat.le_of_ble_eq_true rfl, Nat.le_of_ble_eq_true rfl⟩) (va_recv hK hP (ci := 6) (q0 := 0) rfl rfl) hK hP rfl hl.1 rfl (Nat.le_of_ble_eq_true rfl) dX6_aboutOf_76 ⟨Nat.zero_le _, Nat.zero_le _⟩ ?_
  exact ro_iret hx hb hr hlocks (abt_5.symm) dX6_aboutOf_79

set_option maxHeartbeats 4000000 in
set_option maxRecDepth 100000 in
theorem c_X6_abo6 (l : Launch) (D : va_G) (a r k : Nat → Nat) (cI cT cN : ClassId) (xh xi xr pn : Nat) (pc : Nat → Int32) (rd : Nat × Nat × Nat) (B L : Nat → Int32) (q kq : RS) (b : Nat → Nat → Nat) (hS : SR b B L) (hok9 : hok b) (hT : Tok q) (i : Nat) (hi : i < q.1) : ROi l yX6_aboutOf (wA yX6_aboutOf cX6_aboutOf 3 (some .int)) ({ frames := 4, cells := 0, slots := 0, locals := 101 }) D (cTys cI cT cN) (cW a r k cI cT cN xh xi xr pn pc rd B L q kq) [.ref (a 0), .ref (r (3 + i)), .int (nI 6)] (abt b q.2.2.2.1 q.2.2.2.2 q.2.1 i 6) := by
  refine go_start (by decide) (Nat.le_of_ble_eq_true rfl) ?_
  intro p e s m args below meth c ls F _ hB hl
  obtain ⟨hx, hb, hr, hlocks, hml, hown, hts⟩ := F
  obtain ⟨hP, hK⟩ := hB
  have hown : s.vm.findClass RX6 = some m.cls := hown
  have hl : lv_has ls 3 [(0, .ref (a 0)), (1, .ref (r (3 + i))), (2, .int (nI 6))] := hl
  have ht5 := hT.1
  have ht8 := hT.2.1
  obtain ⟨hk0, hv0, hw0, hp0⟩ := hT.2.2.1 i hi
  refine lv_iload_n hx hb dX6_aboutOf_0 rfl (lv_at hl 2 rfl) ?_
  refine lv_tableIn (off := 79) (tgt := 80) hx hb dX6_aboutOf_1 (by rw [show (nI 6).toInt = 6 from by first | decide | (rw [nI_toInt (by decide)]; omega)]; decide) (by rw [show (nI 6).toInt = 6 from by first | decide | (rw [nI_toInt (by decide)]; omega)]; decide) (by rw [show (nI 6).toInt = 6 from by first | decide | (rw [nI_toInt (by decide)]; omega)]; rfl) (by decide) ?_
  refine lv_aload_n hx hb dX6_aboutOf_80 rfl (lv_at hl 0 rfl) ?_
  refine lv_aload_n hx hb dX6_aboutOf_81 rfl (lv_at hl 1 rfl) ?_
  refine ro_iV (n := 1) (As := [.ref (r (3 + i))]) ⟨hx, hb, hml, hown, hts⟩ (c_X6_likelyOf l D a r k cI cT cN xh xi xr pn pc rd B L q kq b hS hok9 hT i hi) (cwV 1 hts (gV mg_324 mg_326 mg_1008 mg_1 mg_327) rfl rfl rfl vd_X6_likelyOf ⟨Nat.le_of_ble_eq_true rfl, Nat.le_of_ble_eq_true rfl⟩) (va_recv hK hP (ci := 6) (q0 := 0) rfl rfl) hK hP rfl hl.1 rfl (Nat.le_of_ble_eq_true rfl) dX6_aboutOf_82 ⟨Nat.zero_le _, Nat.zero_le _⟩ ?_
  exact ro_iret hx hb hr hlocks (abt_6.symm) dX6_aboutOf_85

set_option maxHeartbeats 4000000 in
set_option maxRecDepth 100000 in
theorem c_X6_abo7 (l : Launch) (D : va_G) (a r k : Nat → Nat) (cI cT cN : ClassId) (xh xi xr pn : Nat) (pc : Nat → Int32) (rd : Nat × Nat × Nat) (B L : Nat → Int32) (q kq : RS) (b : Nat → Nat → Nat) (hS : SR b B L) (hok9 : hok b) (hT : Tok q) (i : Nat) (hi : i < q.1) : ROi l yX6_aboutOf (wA yX6_aboutOf cX6_aboutOf 3 (some .int)) ({ frames := 4, cells := 0, slots := 0, locals := 101 }) D (cTys cI cT cN) (cW a r k cI cT cN xh xi xr pn pc rd B L q kq) [.ref (a 0), .ref (r (3 + i)), .int (nI 7)] (abt b q.2.2.2.1 q.2.2.2.2 q.2.1 i 7) := by
  refine go_start (by decide) (Nat.le_of_ble_eq_true rfl) ?_
  intro p e s m args below meth c ls F _ hB hl
  obtain ⟨hx, hb, hr, hlocks, hml, hown, hts⟩ := F
  obtain ⟨hP, hK⟩ := hB
  have hown : s.vm.findClass RX6 = some m.cls := hown
  have hl : lv_has ls 3 [(0, .ref (a 0)), (1, .ref (r (3 + i))), (2, .int (nI 7))] := hl
  have ht5 := hT.1
  have ht8 := hT.2.1
  obtain ⟨hk0, hv0, hw0, hp0⟩ := hT.2.2.1 i hi
  refine lv_iload_n hx hb dX6_aboutOf_0 rfl (lv_at hl 2 rfl) ?_
  refine lv_tableIn (off := 85) (tgt := 86) hx hb dX6_aboutOf_1 (by rw [show (nI 7).toInt = 7 from by first | decide | (rw [nI_toInt (by decide)]; omega)]; decide) (by rw [show (nI 7).toInt = 7 from by first | decide | (rw [nI_toInt (by decide)]; omega)]; decide) (by rw [show (nI 7).toInt = 7 from by first | decide | (rw [nI_toInt (by decide)]; omega)]; rfl) (by decide) ?_
  refine lv_aload_n hx hb dX6_aboutOf_86 rfl (lv_at hl 0 rfl) ?_
  refine lv_aload_n hx hb dX6_aboutOf_87 rfl (lv_at hl 1 rfl) ?_
  refine lv_aload_n hx hb dX6_aboutOf_88 rfl (lv_at hl 0 rfl) ?_
  refine lv_aload_n hx hb dX6_aboutOf_89 rfl (lv_at hl 1 rfl) ?_
  refine ro_iV (n := 1) (As := [.ref (r (3 + i))]) ⟨hx, hb, hml, hown, hts⟩ (c_X6_likelyOf l D a r k cI cT cN xh xi xr pn pc rd B L q kq b hS hok9 hT i hi) (cwV 1 hts (gV mg_324 mg_326 mg_1008 mg_1 mg_327) rfl rfl rfl vd_X6_likelyOf ⟨Nat.le_of_ble_eq_true rfl, Nat.le_of_ble_eq_true rfl⟩) (va_recv hK hP (ci := 6) (q0 := 0) rfl rfl) hK hP rfl hl.1 rfl (Nat.le_of_ble_eq_true rfl) dX6_aboutOf_90 ⟨Nat.zero_le _, Nat.zero_le _⟩ ?_
  refine ro_iV (n := 2) (As := [.ref (r (3 + i)), .int (nI (lky (sly b q.2.2.2.1 i q.2.2.2.2 q.2.1) 3))]) ⟨hx, hb, hml, hown, hts⟩ (c_X6_slipsOf l D a r k cI cT cN xh xi xr pn pc rd B L q kq b hS hok9 hT i hi (lky (sly b q.2.2.2.1 i q.2.2.2.2 q.2.1) 3) (Nat.lt_succ_of_le (lky_le (sly b q.2.2.2.1 i q.2.2.2.2 q.2.1) 3))) (cwV 2 hts (gV mg_316 mg_318 mg_1007 mg_1 mg_319) rfl rfl rfl vd_X6_slipsOf ⟨Nat.le_of_ble_eq_true rfl, Nat.le_of_ble_eq_true rfl⟩) (va_recv hK hP (ci := 6) (q0 := 0) rfl rfl) hK hP rfl hl.1 rfl (Nat.le_of_ble_eq_true rfl) dX6_aboutOf_93 ⟨Nat.zero_le _, Nat.zero_le _⟩ ?_
  exact ro_iret hx hb hr hlocks (abt_7.symm) dX6_aboutOf_96

set_option maxHeartbeats 4000000 in
set_option maxRecDepth 100000 in
theorem c_X6_abo8 (l : Launch) (D : va_G) (a r k : Nat → Nat) (cI cT cN : ClassId) (xh xi xr pn : Nat) (pc : Nat → Int32) (rd : Nat × Nat × Nat) (B L : Nat → Int32) (q kq : RS) (b : Nat → Nat → Nat) (hS : SR b B L) (hok9 : hok b) (hT : Tok q) (i : Nat) (hi : i < q.1) : ROi l yX6_aboutOf (wA yX6_aboutOf cX6_aboutOf 3 (some .int)) ({ frames := 4, cells := 0, slots := 0, locals := 101 }) D (cTys cI cT cN) (cW a r k cI cT cN xh xi xr pn pc rd B L q kq) [.ref (a 0), .ref (r (3 + i)), .int (nI 8)] (abt b q.2.2.2.1 q.2.2.2.2 q.2.1 i 8) := by
  refine go_start (by decide) (Nat.le_of_ble_eq_true rfl) ?_
  intro p e s m args below meth c ls F _ hB hl
  obtain ⟨hx, hb, hr, hlocks, hml, hown, hts⟩ := F
  obtain ⟨hP, hK⟩ := hB
  have hown : s.vm.findClass RX6 = some m.cls := hown
  have hl : lv_has ls 3 [(0, .ref (a 0)), (1, .ref (r (3 + i))), (2, .int (nI 8))] := hl
  have ht5 := hT.1
  have ht8 := hT.2.1
  obtain ⟨hk0, hv0, hw0, hp0⟩ := hT.2.2.1 i hi
  refine lv_iload_n hx hb dX6_aboutOf_0 rfl (lv_at hl 2 rfl) ?_
  refine lv_tableOut (tgt := 97) hx hb dX6_aboutOf_1 (by decide) (by decide) ?_
  refine lv_aload_n hx hb dX6_aboutOf_97 rfl (lv_at hl 0 rfl) ?_
  refine lv_aload_n hx hb dX6_aboutOf_98 rfl (lv_at hl 1 rfl) ?_
  refine lv_aload_n hx hb dX6_aboutOf_99 rfl (lv_at hl 0 rfl) ?_
  refine lv_aload_n hx hb dX6_aboutOf_100 rfl (lv_at hl 1 rfl) ?_
  refine ro_iV (n := 1) (As := [.ref (r (3 + i))]) ⟨hx, hb, hml, hown, hts⟩ (c_X6_saysOf l D a r k cI cT cN xh xi xr pn pc rd B L q kq b hS hok9 hT i hi) (cwV 1 hts (gV mg_312 mg_314 mg_1006 mg_1 mg_315) rfl rfl rfl vd_X6_saysOf ⟨Nat.le_of_ble_eq_true rfl, Nat.le_of_ble_eq_true rfl⟩) (va_recv hK hP (ci := 6) (q0 := 0) rfl rfl) hK hP rfl hl.1 rfl (Nat.le_of_ble_eq_true rfl) dX6_aboutOf_101 ⟨Nat.zero_le _, Nat.zero_le _⟩ ?_
  refine ro_iV (n := 2) (As := [.ref (r (3 + i)), .int (nI (sys (sly b q.2.2.2.1 i q.2.2.2.2 q.2.1) 4))]) ⟨hx, hb, hml, hown, hts⟩ (c_X6_bestToHear l D a r k cI cT cN xh xi xr pn pc rd B L q kq b hS hok9 hT i hi (sys (sly b q.2.2.2.1 i q.2.2.2.2 q.2.1) 4) (sys_lt (sly b q.2.2.2.1 i q.2.2.2.2 q.2.1) 4)) (cwV 2 hts (gV mg_328 mg_330 mg_1009 mg_1 mg_331) rfl rfl rfl vd_X6_bestToHear ⟨Nat.le_of_ble_eq_true rfl, Nat.le_of_ble_eq_true rfl⟩) (va_recv hK hP (ci := 6) (q0 := 0) rfl rfl) hK hP rfl hl.1 rfl (Nat.le_of_ble_eq_true rfl) dX6_aboutOf_104 ⟨Nat.zero_le _, Nat.zero_le _⟩ ?_
  exact ro_iret hx hb hr hlocks (abt_8.symm) dX6_aboutOf_107

theorem c_X6_aboutOf (l : Launch) (D : va_G) (a r k : Nat → Nat) (cI cT cN : ClassId) (xh xi xr pn : Nat) (pc : Nat → Int32) (rd : Nat × Nat × Nat) (B L : Nat → Int32) (q kq : RS) (b : Nat → Nat → Nat) (hS : SR b B L) (hok9 : hok b) (hT : Tok q) (i : Nat) (hi : i < q.1) (w : Nat) (hw9 : w < 9) : ROi l yX6_aboutOf (wA yX6_aboutOf cX6_aboutOf 3 (some .int)) ({ frames := 4, cells := 0, slots := 0, locals := 101 }) D (cTys cI cT cN) (cW a r k cI cT cN xh xi xr pn pc rd B L q kq) [.ref (a 0), .ref (r (3 + i)), .int (nI w)] (abt b q.2.2.2.1 q.2.2.2.2 q.2.1 i w) := by
  match w, hw9 with
  | 0, _ => exact c_X6_abo0 l D a r k cI cT cN xh xi xr pn pc rd B L q kq b hS hok9 hT i hi
  | 1, _ => exact c_X6_abo1 l D a r k cI cT cN xh xi xr pn pc rd B L q kq b hS hok9 hT i hi
  | 2, _ => exact c_X6_abo2 l D a r k cI cT cN xh xi xr pn pc rd B L q kq b hS hok9 hT i hi
  | 3, _ => exact c_X6_abo3 l D a r k cI cT cN xh xi xr pn pc rd B L q kq b hS hok9 hT i hi
  | 4, _ => exact c_X6_abo4 l D a r k cI cT cN xh xi xr pn pc rd B L q kq b hS hok9 hT i hi
  | 5, _ => exact c_X6_abo5 l D a r k cI cT cN xh xi xr pn pc rd B L q kq b hS hok9 hT i hi
  | 6, _ => exact c_X6_abo6 l D a r k cI cT cN xh xi xr pn pc rd B L q kq b hS hok9 hT i hi
  | 7, _ => exact c_X6_abo7 l D a r k cI cT cN xh xi xr pn pc rd B L q kq b hS hok9 hT i hi
  | 8, _ => exact c_X6_abo8 l D a r k cI cT cN xh xi xr pn pc rd B L q kq b hS hok9 hT i hi

theorem c_X6_nearOf (l : Launch) (D : va_G) (a r k : Nat → Nat) (cI cT cN : ClassId) (xh xi xr pn : Nat) (pc : Nat → Int32) (rd : Nat × Nat × Nat) (B L : Nat → Int32) (q kq : RS) (b : Nat → Nat → Nat) (hS : SR b B L) (hok9 : hok b) (hT : Tok q) (i : Nat) (hi : i < q.1) (v2 : Nat) (hv2 : v2 < 4) (w : Nat) (hw9 : w < 2) : ROi l yX6_nearOf (wA yX6_nearOf cX6_nearOf 6 (some .int)) ({ frames := 3, cells := 0, slots := 0, locals := 76 }) D (cTys cI cT cN) (cW a r k cI cT cN xh xi xr pn pc rd B L q kq) [.ref (a 0), .ref (r (3 + i)), .int (nI v2), .int (nI w)] (nI (ner b (q.2.2.2.1 i 0) (q.2.2.2.1 i 1) v2 w)) := by
  match w, hw9 with
  | 0, _ => exact c_X6_nearOf0 l D a r k cI cT cN xh xi xr pn pc rd B L q kq b hS hok9 hT i hi v2 hv2
  | 1, _ => exact c_X6_nearOf1 l D a r k cI cT cN xh xi xr pn pc rd B L q kq b hS hok9 hT i hi v2 hv2

set_option maxHeartbeats 4000000 in
set_option maxRecDepth 100000 in
theorem c_X6_cto0 (l : Launch) (D : va_G) (a r k : Nat → Nat) (cI cT cN : ClassId) (xh xi xr pn : Nat) (pc : Nat → Int32) (rd : Nat × Nat × Nat) (B L : Nat → Int32) (q kq : RS) (b : Nat → Nat → Nat) (hS : SR b B L) (hb4 : ∀ v, v < 4 → b v 0 ≤ 4) (hT : Tok q) : ROi l yX6_countOf (wA yX6_countOf cX6_countOf 2 (some .int)) ({ frames := 2, cells := 0, slots := 0, locals := 44 }) D (cTys cI cT cN) (cW a r k cI cT cN xh xi xr pn pc rd B L q kq) [.ref (a 0), .int (nI 0)] (cto b q pn xr 0) := by
  refine go_start (by decide) (Nat.le_of_ble_eq_true rfl) ?_
  intro p e s m args below meth c ls F _ hB hl
  obtain ⟨hx, hb, hr, hlocks, hml, hown, hts⟩ := F
  obtain ⟨hP, hK⟩ := hB
  have hown : s.vm.findClass RX6 = some m.cls := hown
  have hl : lv_has ls 2 [(0, .ref (a 0)), (1, .int (nI 0))] := hl
  have ht5 := hT.1
  have ht8 := hT.2.1
  refine lv_iload_n hx hb dX6_countOf_0 rfl (lv_at hl 1 rfl) ?_
  refine lv_tableIn (off := 43) (tgt := 44) hx hb dX6_countOf_1 (by rw [show (nI 0).toInt = 0 from by first | decide | (rw [nI_toInt (by decide)]; omega)]; decide) (by rw [show (nI 0).toInt = 0 from by first | decide | (rw [nI_toInt (by decide)]; omega)]; decide) (by rw [show (nI 0).toInt = 0 from by first | decide | (rw [nI_toInt (by decide)]; omega)]; rfl) (by decide) ?_
  refine lv_aload_n hx hb dX6_countOf_44 rfl (lv_at hl 0 rfl) ?_
  refine va_get (D := D) (ci := 6) (v := .ref (r 0)) (C := RX6) (T := TX6) (N := 7) hx hb hts iX6 hown hK hP 0 rfl rfl 2 (by decide) (hts _ mg_153) (fun _ h9 => h9) rfl dX6_countOf_45 ?_
  refine va_get (D := D) (ci := 3) (v := .int (nI q.1)) (C := RX3) (T := TX3) (N := 5) hx hb hts iX3 hown hK hP 7 rfl rfl 2 (by decide) (hts _ mg_135) (fun _ h9 => h9) rfl dX6_countOf_48 ?_
  exact ro_iret hx hb hr hlocks (cto_0.symm) dX6_countOf_51

set_option maxHeartbeats 4000000 in
set_option maxRecDepth 100000 in
theorem c_X6_cto1 (l : Launch) (D : va_G) (a r k : Nat → Nat) (cI cT cN : ClassId) (xh xi xr pn : Nat) (pc : Nat → Int32) (rd : Nat × Nat × Nat) (B L : Nat → Int32) (q kq : RS) (b : Nat → Nat → Nat) (hS : SR b B L) (hb4 : ∀ v, v < 4 → b v 0 ≤ 4) (hT : Tok q) : ROi l yX6_countOf (wA yX6_countOf cX6_countOf 2 (some .int)) ({ frames := 2, cells := 0, slots := 0, locals := 44 }) D (cTys cI cT cN) (cW a r k cI cT cN xh xi xr pn pc rd B L q kq) [.ref (a 0), .int (nI 1)] (cto b q pn xr 1) := by
  refine go_start (by decide) (Nat.le_of_ble_eq_true rfl) ?_
  intro p e s m args below meth c ls F _ hB hl
  obtain ⟨hx, hb, hr, hlocks, hml, hown, hts⟩ := F
  obtain ⟨hP, hK⟩ := hB
  have hown : s.vm.findClass RX6 = some m.cls := hown
  have hl : lv_has ls 2 [(0, .ref (a 0)), (1, .int (nI 1))] := hl
  have ht5 := hT.1
  have ht8 := hT.2.1
  refine lv_iload_n hx hb dX6_countOf_0 rfl (lv_at hl 1 rfl) ?_
  refine lv_tableIn (off := 51) (tgt := 52) hx hb dX6_countOf_1 (by rw [show (nI 1).toInt = 1 from by first | decide | (rw [nI_toInt (by decide)]; omega)]; decide) (by rw [show (nI 1).toInt = 1 from by first | decide | (rw [nI_toInt (by decide)]; omega)]; decide) (by rw [show (nI 1).toInt = 1 from by first | decide | (rw [nI_toInt (by decide)]; omega)]; rfl) (by decide) ?_
  refine lv_aload_n hx hb dX6_countOf_52 rfl (lv_at hl 0 rfl) ?_
  refine va_get (D := D) (ci := 6) (v := .ref (a 4)) (C := RX6) (T := TX6) (N := 7) hx hb hts iX6 hown hK hP 0 rfl rfl 1 (by decide) (hts _ mg_152) (fun _ h9 => h9) rfl dX6_countOf_53 ?_
  refine ro_iV (n := 0) (As := []) ⟨hx, hb, hml, hown, hts⟩ (c_X4_beatCount l D a cI cT cN B L b hS hb4) (cwV 0 hts (gV mg_430 mg_431 mg_432 mg_4 mg_433) rfl rfl rfl vd_X4_beatCount ⟨Nat.le_of_ble_eq_true rfl, Nat.le_of_ble_eq_true rfl⟩) (va_recv hK hP (ci := 4) (q0 := 4) rfl rfl) hK (cW_s hP) rfl hl.1 rfl (Nat.le_of_ble_eq_true rfl) dX6_countOf_56 ⟨Nat.zero_le _, Nat.zero_le _⟩ ?_
  exact ro_iret hx hb hr hlocks (cto_1.symm) dX6_countOf_59

set_option maxHeartbeats 4000000 in
set_option maxRecDepth 100000 in
theorem c_X6_cto2 (l : Launch) (D : va_G) (a r k : Nat → Nat) (cI cT cN : ClassId) (xh xi xr pn : Nat) (pc : Nat → Int32) (rd : Nat × Nat × Nat) (B L : Nat → Int32) (q kq : RS) (b : Nat → Nat → Nat) (hS : SR b B L) (hb4 : ∀ v, v < 4 → b v 0 ≤ 4) (hT : Tok q) : ROi l yX6_countOf (wA yX6_countOf cX6_countOf 2 (some .int)) ({ frames := 2, cells := 0, slots := 0, locals := 44 }) D (cTys cI cT cN) (cW a r k cI cT cN xh xi xr pn pc rd B L q kq) [.ref (a 0), .int (nI 2)] (cto b q pn xr 2) := by
  refine go_start (by decide) (Nat.le_of_ble_eq_true rfl) ?_
  intro p e s m args below meth c ls F _ hB hl
  obtain ⟨hx, hb, hr, hlocks, hml, hown, hts⟩ := F
  obtain ⟨hP, hK⟩ := hB
  have hown : s.vm.findClass RX6 = some m.cls := hown
  have hl : lv_has ls 2 [(0, .ref (a 0)), (1, .int (nI 2))] := hl
  have ht5 := hT.1
  have ht8 := hT.2.1
  refine lv_iload_n hx hb dX6_countOf_0 rfl (lv_at hl 1 rfl) ?_
  refine lv_tableIn (off := 59) (tgt := 60) hx hb dX6_countOf_1 (by rw [show (nI 2).toInt = 2 from by first | decide | (rw [nI_toInt (by decide)]; omega)]; decide) (by rw [show (nI 2).toInt = 2 from by first | decide | (rw [nI_toInt (by decide)]; omega)]; decide) (by rw [show (nI 2).toInt = 2 from by first | decide | (rw [nI_toInt (by decide)]; omega)]; rfl) (by decide) ?_
  refine lv_aload_n hx hb dX6_countOf_60 rfl (lv_at hl 0 rfl) ?_
  refine va_get (D := D) (ci := 6) (v := .ref (r 0)) (C := RX6) (T := TX6) (N := 7) hx hb hts iX6 hown hK hP 0 rfl rfl 2 (by decide) (hts _ mg_153) (fun _ h9 => h9) rfl dX6_countOf_61 ?_
  refine ro_iV (n := 0) (As := []) ⟨hx, hb, hml, hown, hts⟩ (c_X3_washerCount l D r cI cT cN q ht5) (cwV 0 hts (gV mg_434 mg_435 mg_436 mg_5 mg_437) rfl rfl rfl vd_X3_washerCount ⟨Nat.le_of_ble_eq_true rfl, Nat.le_of_ble_eq_true rfl⟩) (va_recv hK hP (ci := 3) (q0 := 7) rfl rfl) hK (cW_r hP) rfl hl.1 rfl (Nat.le_of_ble_eq_true rfl) dX6_countOf_64 ⟨Nat.zero_le _, Nat.zero_le _⟩ ?_
  exact ro_iret hx hb hr hlocks (cto_2.symm) dX6_countOf_67

set_option maxHeartbeats 4000000 in
set_option maxRecDepth 100000 in
theorem c_X6_cto3 (l : Launch) (D : va_G) (a r k : Nat → Nat) (cI cT cN : ClassId) (xh xi xr pn : Nat) (pc : Nat → Int32) (rd : Nat × Nat × Nat) (B L : Nat → Int32) (q kq : RS) (b : Nat → Nat → Nat) (hS : SR b B L) (hb4 : ∀ v, v < 4 → b v 0 ≤ 4) (hT : Tok q) : ROi l yX6_countOf (wA yX6_countOf cX6_countOf 2 (some .int)) ({ frames := 2, cells := 0, slots := 0, locals := 44 }) D (cTys cI cT cN) (cW a r k cI cT cN xh xi xr pn pc rd B L q kq) [.ref (a 0), .int (nI 3)] (cto b q pn xr 3) := by
  refine go_start (by decide) (Nat.le_of_ble_eq_true rfl) ?_
  intro p e s m args below meth c ls F _ hB hl
  obtain ⟨hx, hb, hr, hlocks, hml, hown, hts⟩ := F
  obtain ⟨hP, hK⟩ := hB
  have hown : s.vm.findClass RX6 = some m.cls := hown
  have hl : lv_has ls 2 [(0, .ref (a 0)), (1, .int (nI 3))] := hl
  have ht5 := hT.1
  have ht8 := hT.2.1
  refine lv_iload_n hx hb dX6_countOf_0 rfl (lv_at hl 1 rfl) ?_
  refine lv_tableIn (off := 67) (tgt := 68) hx hb dX6_countOf_1 (by rw [show (nI 3).toInt = 3 from by first | decide | (rw [nI_toInt (by decide)]; omega)]; decide) (by rw [show (nI 3).toInt = 3 from by first | decide | (rw [nI_toInt (by decide)]; omega)]; decide) (by rw [show (nI 3).toInt = 3 from by first | decide | (rw [nI_toInt (by decide)]; omega)]; rfl) (by decide) ?_
  refine lv_aload_n hx hb dX6_countOf_68 rfl (lv_at hl 0 rfl) ?_
  refine va_get (D := D) (ci := 6) (v := .ref (r 0)) (C := RX6) (T := TX6) (N := 7) hx hb hts iX6 hown hK hP 0 rfl rfl 2 (by decide) (hts _ mg_153) (fun _ h9 => h9) rfl dX6_countOf_69 ?_
  refine ro_iV (n := 0) (As := []) ⟨hx, hb, hml, hown, hts⟩ (c_X3_heardCount l D r cI cT cN q ht5) (cwV 0 hts (gV mg_438 mg_439 mg_440 mg_5 mg_441) rfl rfl rfl vd_X3_heardCount ⟨Nat.le_of_ble_eq_true rfl, Nat.le_of_ble_eq_true rfl⟩) (va_recv hK hP (ci := 3) (q0 := 7) rfl rfl) hK (cW_r hP) rfl hl.1 rfl (Nat.le_of_ble_eq_true rfl) dX6_countOf_72 ⟨Nat.zero_le _, Nat.zero_le _⟩ ?_
  exact ro_iret hx hb hr hlocks (cto_3.symm) dX6_countOf_75

set_option maxHeartbeats 4000000 in
set_option maxRecDepth 100000 in
theorem c_X6_cto4 (l : Launch) (D : va_G) (a r k : Nat → Nat) (cI cT cN : ClassId) (xh xi xr pn : Nat) (pc : Nat → Int32) (rd : Nat × Nat × Nat) (B L : Nat → Int32) (q kq : RS) (b : Nat → Nat → Nat) (hS : SR b B L) (hb4 : ∀ v, v < 4 → b v 0 ≤ 4) (hT : Tok q) : ROi l yX6_countOf (wA yX6_countOf cX6_countOf 2 (some .int)) ({ frames := 2, cells := 0, slots := 0, locals := 44 }) D (cTys cI cT cN) (cW a r k cI cT cN xh xi xr pn pc rd B L q kq) [.ref (a 0), .int (nI 4)] (cto b q pn xr 4) := by
  refine go_start (by decide) (Nat.le_of_ble_eq_true rfl) ?_
  intro p e s m args below meth c ls F _ hB hl
  obtain ⟨hx, hb, hr, hlocks, hml, hown, hts⟩ := F
  obtain ⟨hP, hK⟩ := hB
  have hown : s.vm.findClass RX6 = some m.cls := hown
  have hl : lv_has ls 2 [(0, .ref (a 0)), (1, .int (nI 4))] := hl
  have ht5 := hT.1
  have ht8 := hT.2.1
  refine lv_iload_n hx hb dX6_countOf_0 rfl (lv_at hl 1 rfl) ?_
  refine lv_tableIn (off := 75) (tgt := 76) hx hb dX6_countOf_1 (by rw [show (nI 4).toInt = 4 from by first | decide | (rw [nI_toInt (by decide)]; omega)]; decide) (by rw [show (nI 4).toInt = 4 from by first | decide | (rw [nI_toInt (by decide)]; omega)]; decide) (by rw [show (nI 4).toInt = 4 from by first | decide | (rw [nI_toInt (by decide)]; omega)]; rfl) (by decide) ?_
  refine lv_aload_n hx hb dX6_countOf_76 rfl (lv_at hl 0 rfl) ?_
  refine va_get (D := D) (ci := 6) (v := .ref (r 0)) (C := RX6) (T := TX6) (N := 7) hx hb hts iX6 hown hK hP 0 rfl rfl 2 (by decide) (hts _ mg_153) (fun _ h9 => h9) rfl dX6_countOf_77 ?_
  refine va_get (D := D) (ci := 3) (v := .int q.2.2.1) (C := RX3) (T := TX3) (N := 5) hx hb hts iX3 hown hK hP 7 rfl rfl 4 (by decide) (hts _ mg_139) (fun _ h9 => h9) rfl dX6_countOf_80 ?_
  exact ro_iret hx hb hr hlocks (cto_4.symm) dX6_countOf_83

set_option maxHeartbeats 4000000 in
set_option maxRecDepth 100000 in
theorem c_X6_cto5 (l : Launch) (D : va_G) (a r k : Nat → Nat) (cI cT cN : ClassId) (xh xi xr pn : Nat) (pc : Nat → Int32) (rd : Nat × Nat × Nat) (B L : Nat → Int32) (q kq : RS) (b : Nat → Nat → Nat) (hS : SR b B L) (hb4 : ∀ v, v < 4 → b v 0 ≤ 4) (hT : Tok q) : ROi l yX6_countOf (wA yX6_countOf cX6_countOf 2 (some .int)) ({ frames := 2, cells := 0, slots := 0, locals := 44 }) D (cTys cI cT cN) (cW a r k cI cT cN xh xi xr pn pc rd B L q kq) [.ref (a 0), .int (nI 5)] (cto b q pn xr 5) := by
  refine go_start (by decide) (Nat.le_of_ble_eq_true rfl) ?_
  intro p e s m args below meth c ls F _ hB hl
  obtain ⟨hx, hb, hr, hlocks, hml, hown, hts⟩ := F
  obtain ⟨hP, hK⟩ := hB
  have hown : s.vm.findClass RX6 = some m.cls := hown
  have hl : lv_has ls 2 [(0, .ref (a 0)), (1, .int (nI 5))] := hl
  have ht5 := hT.1
  have ht8 := hT.2.1
  refine lv_iload_n hx hb dX6_countOf_0 rfl (lv_at hl 1 rfl) ?_
  refine lv_tableIn (off := 83) (tgt := 84) hx hb dX6_countOf_1 (by rw [show (nI 5).toInt = 5 from by first | decide | (rw [nI_toInt (by decide)]; omega)]; decide) (by rw [show (nI 5).toInt = 5 from by first | decide | (rw [nI_toInt (by decide)]; omega)]; decide) (by rw [show (nI 5).toInt = 5 from by first | decide | (rw [nI_toInt (by decide)]; omega)]; rfl) (by decide) ?_
  refine lv_aload_n hx hb dX6_countOf_84 rfl (lv_at hl 0 rfl) ?_
  refine va_get (D := D) (ci := 6) (v := .ref (r 0)) (C := RX6) (T := TX6) (N := 7) hx hb hts iX6 hown hK hP 0 rfl rfl 2 (by decide) (hts _ mg_153) (fun _ h9 => h9) rfl dX6_countOf_85 ?_
  refine va_get (D := D) (ci := 3) (v := .int (nI q.2.1)) (C := RX3) (T := TX3) (N := 5) hx hb hts iX3 hown hK hP 7 rfl rfl 3 (by decide) (hts _ mg_137) (fun _ h9 => h9) rfl dX6_countOf_88 ?_
  exact ro_iret hx hb hr hlocks (cto_5.symm) dX6_countOf_91

set_option maxHeartbeats 4000000 in
set_option maxRecDepth 100000 in
theorem c_X6_cto6 (l : Launch) (D : va_G) (a r k : Nat → Nat) (cI cT cN : ClassId) (xh xi xr pn : Nat) (pc : Nat → Int32) (rd : Nat × Nat × Nat) (B L : Nat → Int32) (q kq : RS) (b : Nat → Nat → Nat) (hS : SR b B L) (hb4 : ∀ v, v < 4 → b v 0 ≤ 4) (hT : Tok q) : ROi l yX6_countOf (wA yX6_countOf cX6_countOf 2 (some .int)) ({ frames := 2, cells := 0, slots := 0, locals := 44 }) D (cTys cI cT cN) (cW a r k cI cT cN xh xi xr pn pc rd B L q kq) [.ref (a 0), .int (nI 6)] (cto b q pn xr 6) := by
  refine go_start (by decide) (Nat.le_of_ble_eq_true rfl) ?_
  intro p e s m args below meth c ls F _ hB hl
  obtain ⟨hx, hb, hr, hlocks, hml, hown, hts⟩ := F
  obtain ⟨hP, hK⟩ := hB
  have hown : s.vm.findClass RX6 = some m.cls := hown
  have hl : lv_has ls 2 [(0, .ref (a 0)), (1, .int (nI 6))] := hl
  have ht5 := hT.1
  have ht8 := hT.2.1
  refine lv_iload_n hx hb dX6_countOf_0 rfl (lv_at hl 1 rfl) ?_
  refine lv_tableIn (off := 91) (tgt := 92) hx hb dX6_countOf_1 (by rw [show (nI 6).toInt = 6 from by first | decide | (rw [nI_toInt (by decide)]; omega)]; decide) (by rw [show (nI 6).toInt = 6 from by first | decide | (rw [nI_toInt (by decide)]; omega)]; decide) (by rw [show (nI 6).toInt = 6 from by first | decide | (rw [nI_toInt (by decide)]; omega)]; rfl) (by decide) ?_
  refine lv_aload_n hx hb dX6_countOf_92 rfl (lv_at hl 0 rfl) ?_
  refine va_get (D := D) (ci := 6) (v := .ref (a 1)) (C := RX6) (T := TX6) (N := 7) hx hb hts iX6 hown hK hP 0 rfl rfl 0 (by decide) (hts _ mg_151) (fun _ h9 => h9) rfl dX6_countOf_93 ?_
  refine va_get (D := D) (ci := 1) (v := .int (nI pn)) (C := RX1) (T := TX1) (N := 3) hx hb hts iX1 hown hK hP 1 rfl rfl 2 (by decide) (hts _ mg_44) (fun _ h9 => h9) rfl dX6_countOf_96 ?_
  exact ro_iret hx hb hr hlocks (cto_6.symm) dX6_countOf_99

set_option maxHeartbeats 4000000 in
set_option maxRecDepth 100000 in
theorem c_X6_cto7 (l : Launch) (D : va_G) (a r k : Nat → Nat) (cI cT cN : ClassId) (xh xi xr pn : Nat) (pc : Nat → Int32) (rd : Nat × Nat × Nat) (B L : Nat → Int32) (q kq : RS) (b : Nat → Nat → Nat) (hS : SR b B L) (hb4 : ∀ v, v < 4 → b v 0 ≤ 4) (hT : Tok q) : ROi l yX6_countOf (wA yX6_countOf cX6_countOf 2 (some .int)) ({ frames := 2, cells := 0, slots := 0, locals := 44 }) D (cTys cI cT cN) (cW a r k cI cT cN xh xi xr pn pc rd B L q kq) [.ref (a 0), .int (nI 7)] (cto b q pn xr 7) := by
  refine go_start (by decide) (Nat.le_of_ble_eq_true rfl) ?_
  intro p e s m args below meth c ls F _ hB hl
  obtain ⟨hx, hb, hr, hlocks, hml, hown, hts⟩ := F
  obtain ⟨hP, hK⟩ := hB
  have hown : s.vm.findClass RX6 = some m.cls := hown
  have hl : lv_has ls 2 [(0, .ref (a 0)), (1, .int (nI 7))] := hl
  have ht5 := hT.1
  have ht8 := hT.2.1
  refine lv_iload_n hx hb dX6_countOf_0 rfl (lv_at hl 1 rfl) ?_
  refine lv_tableOut (tgt := 100) hx hb dX6_countOf_1 (by decide) (by decide) ?_
  refine lv_aload_n hx hb dX6_countOf_100 rfl (lv_at hl 0 rfl) ?_
  refine va_get (D := D) (ci := 6) (v := .int (nI xr)) (C := RX6) (T := TX6) (N := 7) hx hb hts iX6 hown hK hP 0 rfl rfl 6 (by decide) (hts _ mg_157) (fun _ h9 => h9) rfl dX6_countOf_101 ?_
  exact ro_iret hx hb hr hlocks (cto_7.symm) dX6_countOf_104

theorem c_X6_countOf (l : Launch) (D : va_G) (a r k : Nat → Nat) (cI cT cN : ClassId) (xh xi xr pn : Nat) (pc : Nat → Int32) (rd : Nat × Nat × Nat) (B L : Nat → Int32) (q kq : RS) (b : Nat → Nat → Nat) (hS : SR b B L) (hb4 : ∀ v, v < 4 → b v 0 ≤ 4) (hT : Tok q) (w : Nat) (hw9 : w < 8) : ROi l yX6_countOf (wA yX6_countOf cX6_countOf 2 (some .int)) ({ frames := 2, cells := 0, slots := 0, locals := 44 }) D (cTys cI cT cN) (cW a r k cI cT cN xh xi xr pn pc rd B L q kq) [.ref (a 0), .int (nI w)] (cto b q pn xr w) := by
  match w, hw9 with
  | 0, _ => exact c_X6_cto0 l D a r k cI cT cN xh xi xr pn pc rd B L q kq b hS hb4 hT
  | 1, _ => exact c_X6_cto1 l D a r k cI cT cN xh xi xr pn pc rd B L q kq b hS hb4 hT
  | 2, _ => exact c_X6_cto2 l D a r k cI cT cN xh xi xr pn pc rd B L q kq b hS hb4 hT
  | 3, _ => exact c_X6_cto3 l D a r k cI cT cN xh xi xr pn pc rd B L q kq b hS hb4 hT
  | 4, _ => exact c_X6_cto4 l D a r k cI cT cN xh xi xr pn pc rd B L q kq b hS hb4 hT
  | 5, _ => exact c_X6_cto5 l D a r k cI cT cN xh xi xr pn pc rd B L q kq b hS hb4 hT
  | 6, _ => exact c_X6_cto6 l D a r k cI cT cN xh xi xr pn pc rd B L q kq b hS hb4 hT
  | 7, _ => exact c_X6_cto7 l D a r k cI cT cN xh xi xr pn pc rd B L q kq b hS hb4 hT

set_option maxHeartbeats 4000000 in
set_option maxRecDepth 100000 in
theorem c_X6_countO (l : Launch) (D : va_G) (a r k : Nat → Nat) (cI cT cN : ClassId) (xh xi xr pn : Nat) (pc : Nat → Int32) (rd : Nat × Nat × Nat) (B L : Nat → Int32) (q kq : RS) (b : Nat → Nat → Nat) (hS : SR b B L) (hb4 : ∀ v, v < 4 → b v 0 ≤ 4) (hT : Tok q) (w : Int32) (ow : ¬ inr w 0 8) : ROi l yX6_count (wA yX6_count cX6_count 2 (some .int)) ({ frames := 3, cells := 0, slots := 0, locals := 65 }) D (cTys cI cT cN) (cW a r k cI cT cN xh xi xr pn pc rd B L q kq) [.ref (a 0), .int w] (-102) := by
  refine go_start (by decide) (Nat.le_of_ble_eq_true rfl) ?_
  intro p e s m args below meth c ls F _ hB hl
  obtain ⟨hx, hb, hr, hlocks, hml, hown, hts⟩ := F
  obtain ⟨hP, hK⟩ := hB
  have hown : s.vm.findClass RX6 = some m.cls := hown
  have hl : lv_has ls 2 [(0, .ref (a 0)), (1, .int w)] := hl
  have ht5 := hT.1
  have ht8 := hT.2.1
  have hw7 := inr_out ow
  refine lv_iload_n hx hb dX6_count_0 rfl (lv_at hl 1 rfl) ?_
  refine j_if_lt (tgt := 10) hx hb dX6_count_1 (by decide) rfl (fun c_1 => ?_) (fun c_1 => ?_)
  · refine lv_bipush (v := (-102)) hx hb dX6_count_10 (by decide) ?_
    exact ro_iret hx hb hr hlocks (rfl) dX6_count_12
  · refine lv_iload_n hx hb dX6_count_4 rfl (lv_at hl 1 rfl) ?_
    refine lv_bipush (v := nI 7) hx hb dX6_count_5 (by decide) ?_
    refine j_icmp_le (tgt := 13) hx hb dX6_count_7 (by decide) rfl (nI_toInt (by decide)) (fun c_2 => absurd c_2 (by omega)) (fun c_2 => ?_)
    refine lv_bipush (v := (-102)) hx hb dX6_count_10 (by decide) ?_
    exact ro_iret hx hb hr hlocks (rfl) dX6_count_12

set_option maxHeartbeats 4000000 in
set_option maxRecDepth 100000 in
theorem c_X6_countI (l : Launch) (D : va_G) (a r k : Nat → Nat) (cI cT cN : ClassId) (xh xi xr pn : Nat) (pc : Nat → Int32) (rd : Nat × Nat × Nat) (B L : Nat → Int32) (q kq : RS) (b : Nat → Nat → Nat) (hS : SR b B L) (hb4 : ∀ v, v < 4 → b v 0 ≤ 4) (hT : Tok q) (w : Nat) (hw : w < 8) : ROi l yX6_count (wA yX6_count cX6_count 2 (some .int)) ({ frames := 3, cells := 0, slots := 0, locals := 65 }) D (cTys cI cT cN) (cW a r k cI cT cN xh xi xr pn pc rd B L q kq) [.ref (a 0), .int (nI w)] (cto b q pn xr w) := by
  refine go_start (by decide) (Nat.le_of_ble_eq_true rfl) ?_
  intro p e s m args below meth c ls F _ hB hl
  obtain ⟨hx, hb, hr, hlocks, hml, hown, hts⟩ := F
  obtain ⟨hP, hK⟩ := hB
  have hown : s.vm.findClass RX6 = some m.cls := hown
  have hl : lv_has ls 2 [(0, .ref (a 0)), (1, .int (nI w))] := hl
  have ht5 := hT.1
  have ht8 := hT.2.1
  refine lv_iload_n hx hb dX6_count_0 rfl (lv_at hl 1 rfl) ?_
  refine j_if_lt (tgt := 10) hx hb dX6_count_1 (by decide) (nI_toInt (by omega)) (fun c_1 => absurd c_1 (by omega)) (fun c_1 => ?_)
  refine lv_iload_n hx hb dX6_count_4 rfl (lv_at hl 1 rfl) ?_
  refine lv_bipush (v := nI 7) hx hb dX6_count_5 (by decide) ?_
  refine j_icmp_le (tgt := 13) hx hb dX6_count_7 (by decide) (nI_toInt (by omega)) (nI_toInt (by decide)) (fun c_2 => ?_) (fun c_2 => absurd c_2 (by omega))
  refine lv_aload_n hx hb dX6_count_13 rfl (lv_at hl 0 rfl) ?_
  refine lv_iload_n hx hb dX6_count_14 rfl (lv_at hl 1 rfl) ?_
  refine ro_iV (n := 1) (As := [.int (nI w)]) ⟨hx, hb, hml, hown, hts⟩ (c_X6_countOf l D a r k cI cT cN xh xi xr pn pc rd B L q kq b hS hb4 hT w hw) (cwV 1 hts (gV mg_426 mg_428 mg_1014 mg_1 mg_429) rfl rfl rfl vd_X6_countOf ⟨Nat.le_of_ble_eq_true rfl, Nat.le_of_ble_eq_true rfl⟩) (va_recv hK hP (ci := 6) (q0 := 0) rfl rfl) hK hP rfl hl.1 rfl (Nat.le_of_ble_eq_true rfl) dX6_count_15 ⟨Nat.zero_le _, Nat.zero_le _⟩ ?_
  exact ro_iret hx hb hr hlocks (rfl) dX6_count_18

theorem c_X6_count (l : Launch) (D : va_G) (a r k : Nat → Nat) (cI cT cN : ClassId) (xh xi xr pn : Nat) (pc : Nat → Int32) (rd : Nat × Nat × Nat) (B L : Nat → Int32) (q kq : RS) (b : Nat → Nat → Nat) (hS : SR b B L) (hb4 : ∀ v, v < 4 → b v 0 ≤ 4) (hT : Tok q) (w : Int32) : ROi l yX6_count (wA yX6_count cX6_count 2 (some .int)) ({ frames := 3, cells := 0, slots := 0, locals := 65 }) D (cTys cI cT cN) (cW a r k cI cT cN xh xi xr pn pc rd B L q kq) [.ref (a 0), .int w] (sp_count b q pn xr w) := by
  unfold sp_count
  by_cases hw : inr w 0 8
  · obtain ⟨j, hj, rfl⟩ := inr_nat (n := 8) hw (by decide)
    rw [if_pos hw, ti_nI (by omega)]
    exact c_X6_countI l D a r k cI cT cN xh xi xr pn pc rd B L q kq b hS hb4 hT j hj
  · rw [if_neg hw]
    exact c_X6_countO l D a r k cI cT cN xh xi xr pn pc rd B L q kq b hS hb4 hT w hw

set_option maxHeartbeats 4000000 in
set_option maxRecDepth 100000 in
theorem c_X6_aboutX (l : Launch) (D : va_G) (a r k : Nat → Nat) (cI cT cN : ClassId) (xh xi xr pn : Nat) (pc : Nat → Int32) (rd : Nat × Nat × Nat) (B L : Nat → Int32) (q kq : RS) (b : Nat → Nat → Nat) (hS : SR b B L) (hok9 : hok b) (hT : Tok q) (x w : Int32) (ox : ¬ inr x 0 q.1) : ROi l yX6_about (wA yX6_about cX6_about 4 (some .int)) ({ frames := 5, cells := 0, slots := 0, locals := 123 }) D (cTys cI cT cN) (cW a r k cI cT cN xh xi xr pn pc rd B L q kq) [.ref (a 0), .int x, .int w] (-101) := by
  refine go_start (by decide) (Nat.le_of_ble_eq_true rfl) ?_
  intro p e s m args below meth c ls F _ hB hl
  obtain ⟨hx, hb, hr, hlocks, hml, hown, hts⟩ := F
  obtain ⟨hP, hK⟩ := hB
  have hown : s.vm.findClass RX6 = some m.cls := hown
  have hl : lv_has ls 4 [(0, .ref (a 0)), (1, .int x), (2, .int w)] := hl
  have ht5 := hT.1
  have ht8 := hT.2.1
  have hx8 := ox
  refine lv_aload_n hx hb dX6_about_0 rfl (lv_at hl 0 rfl) ?_
  refine va_get (D := D) (ci := 6) (v := .ref (r 0)) (C := RX6) (T := TX6) (N := 7) hx hb hts iX6 hown hK hP 0 rfl rfl 2 (by decide) (hts _ mg_153) (fun _ h9 => h9) rfl dX6_about_1 ?_
  refine lv_iload_n hx hb dX6_about_4 rfl (lv_at hl 1 rfl) ?_
  refine ro_qV (n := 1) (As := [.int x]) ⟨hx, hb, hml, hown, hts⟩ (c_X3_tapOut l D r cI cT cN q x (inr_out ox) ht5) (cwV 1 hts (gV mg_290 mg_259 mg_260 mg_5 mg_261) rfl rfl rfl vd_X3_tapAt ⟨Nat.le_of_ble_eq_true rfl, Nat.le_of_ble_eq_true rfl⟩) (va_recv hK hP (ci := 3) (q0 := 7) rfl rfl) hK (cW_r hP) rfl hl.1 rfl (Nat.le_of_ble_eq_true rfl) dX6_about_5 ⟨Nat.zero_le _, Nat.zero_le _⟩ ?_
  refine lv_astore_nN (lv' := [(3, .null), (0, .ref (a 0)), (1, .int x), (2, .int w)]) hx hb dX6_about_8 rfl hl (by decide) rfl (fun ls hl => ?_)
  refine lv_aload_nN hx hb dX6_about_9 rfl (lv_at hl 0 rfl) ?_
  refine lv_ifnonnullN hx hb dX6_about_10 ?_
  refine lv_bipush (v := (-101)) hx hb dX6_about_13 (by decide) ?_
  exact ro_iret hx hb hr hlocks (rfl) dX6_about_15

set_option maxHeartbeats 4000000 in
set_option maxRecDepth 100000 in
theorem c_X6_aboutO (l : Launch) (D : va_G) (a r k : Nat → Nat) (cI cT cN : ClassId) (xh xi xr pn : Nat) (pc : Nat → Int32) (rd : Nat × Nat × Nat) (B L : Nat → Int32) (q kq : RS) (b : Nat → Nat → Nat) (hS : SR b B L) (hok9 : hok b) (hT : Tok q) (i : Nat) (hi : i < q.1) (w : Int32) (ow : ¬ inr w 0 9) : ROi l yX6_about (wA yX6_about cX6_about 4 (some .int)) ({ frames := 5, cells := 0, slots := 0, locals := 123 }) D (cTys cI cT cN) (cW a r k cI cT cN xh xi xr pn pc rd B L q kq) [.ref (a 0), .int (nI i), .int w] (-102) := by
  refine go_start (by decide) (Nat.le_of_ble_eq_true rfl) ?_
  intro p e s m args below meth c ls F _ hB hl
  obtain ⟨hx, hb, hr, hlocks, hml, hown, hts⟩ := F
  obtain ⟨hP, hK⟩ := hB
  have hown : s.vm.findClass RX6 = some m.cls := hown
  have hl : lv_has ls 4 [(0, .ref (a 0)), (1, .int (nI i)), (2, .int w)] := hl
  have ht5 := hT.1
  have ht8 := hT.2.1
  have hw7 := inr_out ow
  refine lv_aload_n hx hb dX6_about_0 rfl (lv_at hl 0 rfl) ?_
  refine va_get (D := D) (ci := 6) (v := .ref (r 0)) (C := RX6) (T := TX6) (N := 7) hx hb hts iX6 hown hK hP 0 rfl rfl 2 (by decide) (hts _ mg_153) (fun _ h9 => h9) rfl dX6_about_1 ?_
  refine lv_iload_n hx hb dX6_about_4 rfl (lv_at hl 1 rfl) ?_
  refine ro_qV (n := 1) (As := [.int (nI i)]) ⟨hx, hb, hml, hown, hts⟩ (c_X3_tapAt l D r cI cT cN q i (by omega) ht5) (cwV 1 hts (gV mg_290 mg_259 mg_260 mg_5 mg_261) rfl rfl rfl vd_X3_tapAt ⟨Nat.le_of_ble_eq_true rfl, Nat.le_of_ble_eq_true rfl⟩) (va_recv hK hP (ci := 3) (q0 := 7) rfl rfl) hK (cW_r hP) rfl hl.1 rfl (Nat.le_of_ble_eq_true rfl) dX6_about_5 ⟨Nat.zero_le _, Nat.zero_le _⟩ ?_
  refine lv_astore_n (lv' := [(3, .ref (r (3 + i))), (0, .ref (a 0)), (1, .int (nI i)), (2, .int w)]) hx hb dX6_about_8 rfl hl (by decide) rfl (fun ls hl => ?_)
  refine lv_aload_n hx hb dX6_about_9 rfl (lv_at hl 0 rfl) ?_
  refine lv_ifnonnull (tgt := 16) hx hb dX6_about_10 (by decide) ?_
  refine lv_iload_n hx hb dX6_about_16 rfl (lv_at hl 3 rfl) ?_
  refine j_if_lt (tgt := 26) hx hb dX6_about_17 (by decide) rfl (fun c_1 => ?_) (fun c_1 => ?_)
  · refine lv_bipush (v := (-102)) hx hb dX6_about_26 (by decide) ?_
    exact ro_iret hx hb hr hlocks (rfl) dX6_about_28
  · refine lv_iload_n hx hb dX6_about_20 rfl (lv_at hl 3 rfl) ?_
    refine lv_bipush (v := nI 8) hx hb dX6_about_21 (by decide) ?_
    refine j_icmp_le (tgt := 29) hx hb dX6_about_23 (by decide) rfl (nI_toInt (by decide)) (fun c_2 => absurd c_2 (by omega)) (fun c_2 => ?_)
    refine lv_bipush (v := (-102)) hx hb dX6_about_26 (by decide) ?_
    exact ro_iret hx hb hr hlocks (rfl) dX6_about_28

set_option maxHeartbeats 4000000 in
set_option maxRecDepth 100000 in
theorem c_X6_aboutI (l : Launch) (D : va_G) (a r k : Nat → Nat) (cI cT cN : ClassId) (xh xi xr pn : Nat) (pc : Nat → Int32) (rd : Nat × Nat × Nat) (B L : Nat → Int32) (q kq : RS) (b : Nat → Nat → Nat) (hS : SR b B L) (hok9 : hok b) (hT : Tok q) (i : Nat) (hi : i < q.1) (w : Nat) (hw : w < 9) : ROi l yX6_about (wA yX6_about cX6_about 4 (some .int)) ({ frames := 5, cells := 0, slots := 0, locals := 123 }) D (cTys cI cT cN) (cW a r k cI cT cN xh xi xr pn pc rd B L q kq) [.ref (a 0), .int (nI i), .int (nI w)] (abt b q.2.2.2.1 q.2.2.2.2 q.2.1 i w) := by
  refine go_start (by decide) (Nat.le_of_ble_eq_true rfl) ?_
  intro p e s m args below meth c ls F _ hB hl
  obtain ⟨hx, hb, hr, hlocks, hml, hown, hts⟩ := F
  obtain ⟨hP, hK⟩ := hB
  have hown : s.vm.findClass RX6 = some m.cls := hown
  have hl : lv_has ls 4 [(0, .ref (a 0)), (1, .int (nI i)), (2, .int (nI w))] := hl
  have ht5 := hT.1
  have ht8 := hT.2.1
  refine lv_aload_n hx hb dX6_about_0 rfl (lv_at hl 0 rfl) ?_
  refine va_get (D := D) (ci := 6) (v := .ref (r 0)) (C := RX6) (T := TX6) (N := 7) hx hb hts iX6 hown hK hP 0 rfl rfl 2 (by decide) (hts _ mg_153) (fun _ h9 => h9) rfl dX6_about_1 ?_
  refine lv_iload_n hx hb dX6_about_4 rfl (lv_at hl 1 rfl) ?_
  refine ro_qV (n := 1) (As := [.int (nI i)]) ⟨hx, hb, hml, hown, hts⟩ (c_X3_tapAt l D r cI cT cN q i (by omega) ht5) (cwV 1 hts (gV mg_290 mg_259 mg_260 mg_5 mg_261) rfl rfl rfl vd_X3_tapAt ⟨Nat.le_of_ble_eq_true rfl, Nat.le_of_ble_eq_true rfl⟩) (va_recv hK hP (ci := 3) (q0 := 7) rfl rfl) hK (cW_r hP) rfl hl.1 rfl (Nat.le_of_ble_eq_true rfl) dX6_about_5 ⟨Nat.zero_le _, Nat.zero_le _⟩ ?_
  refine lv_astore_n (lv' := [(3, .ref (r (3 + i))), (0, .ref (a 0)), (1, .int (nI i)), (2, .int (nI w))]) hx hb dX6_about_8 rfl hl (by decide) rfl (fun ls hl => ?_)
  refine lv_aload_n hx hb dX6_about_9 rfl (lv_at hl 0 rfl) ?_
  refine lv_ifnonnull (tgt := 16) hx hb dX6_about_10 (by decide) ?_
  refine lv_iload_n hx hb dX6_about_16 rfl (lv_at hl 3 rfl) ?_
  refine j_if_lt (tgt := 26) hx hb dX6_about_17 (by decide) (nI_toInt (by omega)) (fun c_1 => absurd c_1 (by omega)) (fun c_1 => ?_)
  refine lv_iload_n hx hb dX6_about_20 rfl (lv_at hl 3 rfl) ?_
  refine lv_bipush (v := nI 8) hx hb dX6_about_21 (by decide) ?_
  refine j_icmp_le (tgt := 29) hx hb dX6_about_23 (by decide) (nI_toInt (by omega)) (nI_toInt (by decide)) (fun c_2 => ?_) (fun c_2 => absurd c_2 (by omega))
  refine lv_aload_n hx hb dX6_about_29 rfl (lv_at hl 1 rfl) ?_
  refine lv_aload_n hx hb dX6_about_30 rfl (lv_at hl 0 rfl) ?_
  refine lv_iload_n hx hb dX6_about_31 rfl (lv_at hl 3 rfl) ?_
  refine ro_iV (n := 2) (As := [.ref (r (3 + i)), .int (nI w)]) ⟨hx, hb, hml, hown, hts⟩ (c_X6_aboutOf l D a r k cI cT cN xh xi xr pn pc rd B L q kq b hS hok9 hT i hi w hw) (cwV 2 hts (gV mg_291 mg_293 mg_1003 mg_1 mg_294) rfl rfl rfl vd_X6_aboutOf ⟨Nat.le_of_ble_eq_true rfl, Nat.le_of_ble_eq_true rfl⟩) (va_recv hK hP (ci := 6) (q0 := 0) rfl rfl) hK hP rfl hl.1 rfl (Nat.le_of_ble_eq_true rfl) dX6_about_32 ⟨Nat.zero_le _, Nat.zero_le _⟩ ?_
  exact ro_iret hx hb hr hlocks (rfl) dX6_about_35

theorem c_X6_about (l : Launch) (D : va_G) (a r k : Nat → Nat) (cI cT cN : ClassId) (xh xi xr pn : Nat) (pc : Nat → Int32) (rd : Nat × Nat × Nat) (B L : Nat → Int32) (q kq : RS) (b : Nat → Nat → Nat) (hS : SR b B L) (hok9 : hok b) (hT : Tok q) (x w : Int32) : ROi l yX6_about (wA yX6_about cX6_about 4 (some .int)) ({ frames := 5, cells := 0, slots := 0, locals := 123 }) D (cTys cI cT cN) (cW a r k cI cT cN xh xi xr pn pc rd B L q kq) [.ref (a 0), .int x, .int w] (sp_about b q x w) := by
  unfold sp_about
  have h5 := hT.1
  by_cases hx : inr x 0 q.1
  · obtain ⟨i, hi, rfl⟩ := inr_nat hx (by omega)
    rw [if_pos hx, ti_nI (by omega)]
    by_cases hw : inr w 0 9
    · obtain ⟨j, hj, rfl⟩ := inr_nat (n := 9) hw (by decide)
      rw [if_pos hw, ti_nI (by omega)]
      exact c_X6_aboutI l D a r k cI cT cN xh xi xr pn pc rd B L q kq b hS hok9 hT i hi j hj
    · rw [if_neg hw]
      exact c_X6_aboutO l D a r k cI cT cN xh xi xr pn pc rd B L q kq b hS hok9 hT i hi w hw
  · rw [if_neg hx]
    exact c_X6_aboutX l D a r k cI cT cN xh xi xr pn pc rd B L q kq b hS hok9 hT x w hx

set_option maxHeartbeats 4000000 in
set_option maxRecDepth 100000 in
theorem c_X6_asX (l : Launch) (D : va_G) (a r k : Nat → Nat) (cI cT cN : ClassId) (xh xi xr pn : Nat) (pc : Nat → Int32) (rd : Nat × Nat × Nat) (B L : Nat → Int32) (q kq : RS) (b : Nat → Nat → Nat) (hS : SR b B L) (hok9 : hok b) (hT : Tok q) (x w : Int32) (ox : ¬ inr x 0 q.1) : ROi l yX6_as (wA yX6_as cX6_as 5 (some .int)) ({ frames := 1, cells := 0, slots := 0, locals := 21 }) D (cTys cI cT cN) (cW a r k cI cT cN xh xi xr pn pc rd B L q kq) [.ref (a 0), .int x, .int w] (-101) := by
  refine go_start (by decide) (Nat.le_of_ble_eq_true rfl) ?_
  intro p e s m args below meth c ls F _ hB hl
  obtain ⟨hx, hb, hr, hlocks, hml, hown, hts⟩ := F
  obtain ⟨hP, hK⟩ := hB
  have hown : s.vm.findClass RX6 = some m.cls := hown
  have hl : lv_has ls 5 [(0, .ref (a 0)), (1, .int x), (2, .int w)] := hl
  have ht5 := hT.1
  have ht8 := hT.2.1
  refine lv_aload_n hx hb dX6_as_0 rfl (lv_at hl 0 rfl) ?_
  refine va_get (D := D) (ci := 6) (v := .ref (r 0)) (C := RX6) (T := TX6) (N := 7) hx hb hts iX6 hown hK hP 0 rfl rfl 2 (by decide) (hts _ mg_153) (fun _ h9 => h9) rfl dX6_as_1 ?_
  refine lv_iload_n hx hb dX6_as_4 rfl (lv_at hl 1 rfl) ?_
  refine ro_qV (n := 1) (As := [.int x]) ⟨hx, hb, hml, hown, hts⟩ (c_X3_tapOut l D r cI cT cN q x (inr_out ox) ht5) (cwV 1 hts (gV mg_290 mg_259 mg_260 mg_5 mg_261) rfl rfl rfl vd_X3_tapAt ⟨Nat.le_of_ble_eq_true rfl, Nat.le_of_ble_eq_true rfl⟩) (va_recv hK hP (ci := 3) (q0 := 7) rfl rfl) hK (cW_r hP) rfl hl.1 rfl (Nat.le_of_ble_eq_true rfl) dX6_as_5 ⟨Nat.zero_le _, Nat.zero_le _⟩ ?_
  refine lv_astore_nN (lv' := [(3, .null), (0, .ref (a 0)), (1, .int x), (2, .int w)]) hx hb dX6_as_8 rfl hl (by decide) rfl (fun ls hl => ?_)
  refine lv_aload_nN hx hb dX6_as_9 rfl (lv_at hl 0 rfl) ?_
  refine lv_ifnonnullN hx hb dX6_as_10 ?_
  refine lv_bipush (v := (-101)) hx hb dX6_as_13 (by decide) ?_
  exact ro_iret hx hb hr hlocks (rfl) dX6_as_15

set_option maxHeartbeats 4000000 in
set_option maxRecDepth 100000 in
theorem c_X6_asO (l : Launch) (D : va_G) (a r k : Nat → Nat) (cI cT cN : ClassId) (xh xi xr pn : Nat) (pc : Nat → Int32) (rd : Nat × Nat × Nat) (B L : Nat → Int32) (q kq : RS) (b : Nat → Nat → Nat) (hS : SR b B L) (hok9 : hok b) (hT : Tok q) (i : Nat) (hi : i < q.1) (w : Int32) (ow : ¬ inr w 0 5) : ROi l yX6_as (wA yX6_as cX6_as 5 (some .int)) ({ frames := 1, cells := 0, slots := 0, locals := 21 }) D (cTys cI cT cN) (cW a r k cI cT cN xh xi xr pn pc rd B L q kq) [.ref (a 0), .int (nI i), .int w] (-102) := by
  refine go_start (by decide) (Nat.le_of_ble_eq_true rfl) ?_
  intro p e s m args below meth c ls F _ hB hl
  obtain ⟨hx, hb, hr, hlocks, hml, hown, hts⟩ := F
  obtain ⟨hP, hK⟩ := hB
  have hown : s.vm.findClass RX6 = some m.cls := hown
  have hl : lv_has ls 5 [(0, .ref (a 0)), (1, .int (nI i)), (2, .int w)] := hl
  have ht5 := hT.1
  have ht8 := hT.2.1
  refine lv_aload_n hx hb dX6_as_0 rfl (lv_at hl 0 rfl) ?_
  refine va_get (D := D) (ci := 6) (v := .ref (r 0)) (C := RX6) (T := TX6) (N := 7) hx hb hts iX6 hown hK hP 0 rfl rfl 2 (by decide) (hts _ mg_153) (fun _ h9 => h9) rfl dX6_as_1 ?_
  refine lv_iload_n hx hb dX6_as_4 rfl (lv_at hl 1 rfl) ?_
  refine ro_qV (n := 1) (As := [.int (nI i)]) ⟨hx, hb, hml, hown, hts⟩ (c_X3_tapAt l D r cI cT cN q i (by omega) ht5) (cwV 1 hts (gV mg_290 mg_259 mg_260 mg_5 mg_261) rfl rfl rfl vd_X3_tapAt ⟨Nat.le_of_ble_eq_true rfl, Nat.le_of_ble_eq_true rfl⟩) (va_recv hK hP (ci := 3) (q0 := 7) rfl rfl) hK (cW_r hP) rfl hl.1 rfl (Nat.le_of_ble_eq_true rfl) dX6_as_5 ⟨Nat.zero_le _, Nat.zero_le _⟩ ?_
  refine lv_astore_n (lv' := [(3, .ref (r (3 + i))), (0, .ref (a 0)), (1, .int (nI i)), (2, .int w)]) hx hb dX6_as_8 rfl hl (by decide) rfl (fun ls hl => ?_)
  refine lv_aload_n hx hb dX6_as_9 rfl (lv_at hl 0 rfl) ?_
  refine lv_ifnonnull (tgt := 16) hx hb dX6_as_10 (by decide) ?_
  refine lv_iload_n hx hb dX6_as_16 rfl (lv_at hl 3 rfl) ?_
  refine ro_iS (n := 1) (As := [.int w]) ⟨hx, hb, hml, hown, hts⟩ (c_X6_isKindF l D w (inr_out ow)) (cwS 1 hts (gS mg_283 mg_284 mg_1 mg_285) rfl rfl rfl vd_X6_isKind ⟨Nat.le_of_ble_eq_true rfl, Nat.le_of_ble_eq_true rfl⟩)  (hK.sub [] rfl) (fun k q h => by simp at h) rfl hl.1 rfl (Nat.le_of_ble_eq_true rfl) dX6_as_17 ⟨Nat.zero_le _, Nat.zero_le _⟩ ?_
  refine j_if_ne (tgt := 26) hx hb dX6_as_20 (by decide) (nI_toInt (by decide)) (fun c_1 => absurd c_1 (by omega)) (fun c_1 => ?_)
  refine lv_bipush (v := (-102)) hx hb dX6_as_23 (by decide) ?_
  exact ro_iret hx hb hr hlocks (rfl) dX6_as_25

set_option maxHeartbeats 4000000 in
set_option maxRecDepth 100000 in
theorem c_X6_asI (l : Launch) (D : va_G) (a r k : Nat → Nat) (cI cT cN : ClassId) (xh xi xr pn : Nat) (pc : Nat → Int32) (rd : Nat × Nat × Nat) (B L : Nat → Int32) (q kq : RS) (b : Nat → Nat → Nat) (hS : SR b B L) (hok9 : hok b) (hT : Tok q) (i : Nat) (hi : i < q.1) (w : Nat) (hw : w < 5) : ROi l yX6_as (wA yX6_as cX6_as 5 (some .int)) ({ frames := 1, cells := 0, slots := 0, locals := 21 }) D (cTys cI cT cN) (cW a r k cI cT cN xh xi xr pn pc rd B L q kq) [.ref (a 0), .int (nI i), .int (nI w)] (if w = 0 ∨ w = q.2.2.2.1 i 0 ∨ (w = 1 ∧ q.2.2.2.1 i 0 = 4) then nI i else -1) := by
  refine go_start (by decide) (Nat.le_of_ble_eq_true rfl) ?_
  intro p e s m args below meth c ls F _ hB hl
  obtain ⟨hx, hb, hr, hlocks, hml, hown, hts⟩ := F
  obtain ⟨hP, hK⟩ := hB
  have hown : s.vm.findClass RX6 = some m.cls := hown
  have hl : lv_has ls 5 [(0, .ref (a 0)), (1, .int (nI i)), (2, .int (nI w))] := hl
  have ht5 := hT.1
  have ht8 := hT.2.1
  obtain ⟨hk0, hv0, hw0, hp0⟩ := hT.2.2.1 i hi
  refine lv_aload_n hx hb dX6_as_0 rfl (lv_at hl 0 rfl) ?_
  refine va_get (D := D) (ci := 6) (v := .ref (r 0)) (C := RX6) (T := TX6) (N := 7) hx hb hts iX6 hown hK hP 0 rfl rfl 2 (by decide) (hts _ mg_153) (fun _ h9 => h9) rfl dX6_as_1 ?_
  refine lv_iload_n hx hb dX6_as_4 rfl (lv_at hl 1 rfl) ?_
  refine ro_qV (n := 1) (As := [.int (nI i)]) ⟨hx, hb, hml, hown, hts⟩ (c_X3_tapAt l D r cI cT cN q i (by omega) ht5) (cwV 1 hts (gV mg_290 mg_259 mg_260 mg_5 mg_261) rfl rfl rfl vd_X3_tapAt ⟨Nat.le_of_ble_eq_true rfl, Nat.le_of_ble_eq_true rfl⟩) (va_recv hK hP (ci := 3) (q0 := 7) rfl rfl) hK (cW_r hP) rfl hl.1 rfl (Nat.le_of_ble_eq_true rfl) dX6_as_5 ⟨Nat.zero_le _, Nat.zero_le _⟩ ?_
  refine lv_astore_n (lv' := [(3, .ref (r (3 + i))), (0, .ref (a 0)), (1, .int (nI i)), (2, .int (nI w))]) hx hb dX6_as_8 rfl hl (by decide) rfl (fun ls hl => ?_)
  refine lv_aload_n hx hb dX6_as_9 rfl (lv_at hl 0 rfl) ?_
  refine lv_ifnonnull (tgt := 16) hx hb dX6_as_10 (by decide) ?_
  refine lv_iload_n hx hb dX6_as_16 rfl (lv_at hl 3 rfl) ?_
  refine ro_iS (n := 1) (As := [.int (nI w)]) ⟨hx, hb, hml, hown, hts⟩ (c_X6_isKindT l D (nI w) (by rw [nI_toInt (by omega)]; omega)) (cwS 1 hts (gS mg_283 mg_284 mg_1 mg_285) rfl rfl rfl vd_X6_isKind ⟨Nat.le_of_ble_eq_true rfl, Nat.le_of_ble_eq_true rfl⟩)  (hK.sub [] rfl) (fun k q h => by simp at h) rfl hl.1 rfl (Nat.le_of_ble_eq_true rfl) dX6_as_17 ⟨Nat.zero_le _, Nat.zero_le _⟩ ?_
  refine j_if_ne (tgt := 26) hx hb dX6_as_20 (by decide) (nI_toInt (by decide)) (fun c_1 => ?_) (fun c_1 => absurd c_1 (by omega))
  refine lv_iload_n hx hb dX6_as_26 rfl (lv_at hl 3 rfl) ?_
  refine j_if_eq (tgt := 51) hx hb dX6_as_27 (by decide) (nI_toInt (by omega)) (fun c_2 => ?_) (fun c_2 => ?_)
  · refine lv_iconst (v := nI 1) hx hb dX6_as_51 (by decide) ?_
    refine lv_goto (tgt := 56) hx hb dX6_as_52 (by decide) ?_
    refine lv_istore (lv' := [(4, .int (nI 1)), (3, .ref (r (3 + i))), (0, .ref (a 0)), (1, .int (nI i)), (2, .int (nI w))]) hx hb dX6_as_56 hl (by decide) rfl (fun ls hl => ?_)
    refine lv_iload hx hb dX6_as_58 (lv_at hl 0 rfl) ?_
    refine j_if_eq (tgt := 67) hx hb dX6_as_60 (by decide) (nI_toInt (by decide)) (fun c_3 => absurd c_3 (by omega)) (fun c_3 => ?_)
    refine lv_iload_n hx hb dX6_as_63 rfl (lv_at hl 3 rfl) ?_
    refine lv_goto (tgt := 68) hx hb dX6_as_64 (by decide) ?_
    exact ro_iret hx hb hr hlocks (by rw [if_pos (by omega)]) dX6_as_68
  · refine lv_iload_n hx hb dX6_as_30 rfl (lv_at hl 3 rfl) ?_
    refine lv_aload_n hx hb dX6_as_31 rfl (lv_at hl 0 rfl) ?_
    refine va_get (D := D) (ci := 5) (v := .int (nI (q.2.2.2.1 i 0))) (C := RX5) (T := TX5) (N := 5) hx hb hts iX5 hown hK hP (10 + i) (cW_tap (by omega)) rfl 1 (by decide) (hts _ mg_83) (fun _ h9 => h9) rfl dX6_as_32 ?_
    refine j_icmp_eq (tgt := 51) hx hb dX6_as_35 (by decide) (nI_toInt (by omega)) (nI_toInt (by omega)) (fun c_4 => ?_) (fun c_4 => ?_)
    · refine lv_iconst (v := nI 1) hx hb dX6_as_51 (by decide) ?_
      refine lv_goto (tgt := 56) hx hb dX6_as_52 (by decide) ?_
      refine lv_istore (lv' := [(4, .int (nI 1)), (3, .ref (r (3 + i))), (0, .ref (a 0)), (1, .int (nI i)), (2, .int (nI w))]) hx hb dX6_as_56 hl (by decide) rfl (fun ls hl => ?_)
      refine lv_iload hx hb dX6_as_58 (lv_at hl 0 rfl) ?_
      refine j_if_eq (tgt := 67) hx hb dX6_as_60 (by decide) (nI_toInt (by decide)) (fun c_5 => absurd c_5 (by omega)) (fun c_5 => ?_)
      refine lv_iload_n hx hb dX6_as_63 rfl (lv_at hl 3 rfl) ?_
      refine lv_goto (tgt := 68) hx hb dX6_as_64 (by decide) ?_
      exact ro_iret hx hb hr hlocks (by rw [if_pos (by omega)]) dX6_as_68
    · refine lv_iload_n hx hb dX6_as_38 rfl (lv_at hl 3 rfl) ?_
      refine lv_iconst (v := nI 1) hx hb dX6_as_39 (by decide) ?_
      refine j_icmp_ne (tgt := 55) hx hb dX6_as_40 (by decide) (nI_toInt (by omega)) (nI_toInt (by decide)) (fun c_6 => ?_) (fun c_6 => ?_)
      · refine lv_iconst (v := nI 0) hx hb dX6_as_55 (by decide) ?_
        refine lv_istore (lv' := [(4, .int (nI 0)), (3, .ref (r (3 + i))), (0, .ref (a 0)), (1, .int (nI i)), (2, .int (nI w))]) hx hb dX6_as_56 hl (by decide) rfl (fun ls hl => ?_)
        refine lv_iload hx hb dX6_as_58 (lv_at hl 0 rfl) ?_
        refine j_if_eq (tgt := 67) hx hb dX6_as_60 (by decide) (nI_toInt (by decide)) (fun c_7 => ?_) (fun c_7 => absurd c_7 (by omega))
        refine lv_iconst (v := (-1)) hx hb dX6_as_67 (by decide) ?_
        exact ro_iret hx hb hr hlocks (by rw [if_neg (by omega)]) dX6_as_68
      · refine lv_aload_n hx hb dX6_as_43 rfl (lv_at hl 0 rfl) ?_
        refine va_get (D := D) (ci := 5) (v := .int (nI (q.2.2.2.1 i 0))) (C := RX5) (T := TX5) (N := 5) hx hb hts iX5 hown hK hP (10 + i) (cW_tap (by omega)) rfl 1 (by decide) (hts _ mg_83) (fun _ h9 => h9) rfl dX6_as_44 ?_
        refine lv_iconst (v := nI 4) hx hb dX6_as_47 (by decide) ?_
        refine j_icmp_ne (tgt := 55) hx hb dX6_as_48 (by decide) (nI_toInt (by omega)) (nI_toInt (by decide)) (fun c_8 => ?_) (fun c_8 => ?_)
        · refine lv_iconst (v := nI 0) hx hb dX6_as_55 (by decide) ?_
          refine lv_istore (lv' := [(4, .int (nI 0)), (3, .ref (r (3 + i))), (0, .ref (a 0)), (1, .int (nI i)), (2, .int (nI w))]) hx hb dX6_as_56 hl (by decide) rfl (fun ls hl => ?_)
          refine lv_iload hx hb dX6_as_58 (lv_at hl 0 rfl) ?_
          refine j_if_eq (tgt := 67) hx hb dX6_as_60 (by decide) (nI_toInt (by decide)) (fun c_9 => ?_) (fun c_9 => absurd c_9 (by omega))
          refine lv_iconst (v := (-1)) hx hb dX6_as_67 (by decide) ?_
          exact ro_iret hx hb hr hlocks (by rw [if_neg (by omega)]) dX6_as_68
        · refine lv_iconst (v := nI 1) hx hb dX6_as_51 (by decide) ?_
          refine lv_goto (tgt := 56) hx hb dX6_as_52 (by decide) ?_
          refine lv_istore (lv' := [(4, .int (nI 1)), (3, .ref (r (3 + i))), (0, .ref (a 0)), (1, .int (nI i)), (2, .int (nI w))]) hx hb dX6_as_56 hl (by decide) rfl (fun ls hl => ?_)
          refine lv_iload hx hb dX6_as_58 (lv_at hl 0 rfl) ?_
          refine j_if_eq (tgt := 67) hx hb dX6_as_60 (by decide) (nI_toInt (by decide)) (fun c_10 => absurd c_10 (by omega)) (fun c_10 => ?_)
          refine lv_iload_n hx hb dX6_as_63 rfl (lv_at hl 3 rfl) ?_
          refine lv_goto (tgt := 68) hx hb dX6_as_64 (by decide) ?_
          exact ro_iret hx hb hr hlocks (by rw [if_pos (by omega)]) dX6_as_68

theorem c_X6_as (l : Launch) (D : va_G) (a r k : Nat → Nat) (cI cT cN : ClassId) (xh xi xr pn : Nat) (pc : Nat → Int32) (rd : Nat × Nat × Nat) (B L : Nat → Int32) (q kq : RS) (b : Nat → Nat → Nat) (hS : SR b B L) (hok9 : hok b) (hT : Tok q) (x w : Int32) : ROi l yX6_as (wA yX6_as cX6_as 5 (some .int)) ({ frames := 1, cells := 0, slots := 0, locals := 21 }) D (cTys cI cT cN) (cW a r k cI cT cN xh xi xr pn pc rd B L q kq) [.ref (a 0), .int x, .int w] (sp_as q x w) := by
  unfold sp_as
  have h5 := hT.1
  by_cases hx : inr x 0 q.1
  · obtain ⟨i, hi, rfl⟩ := inr_nat hx (by omega)
    rw [if_pos hx, ti_nI (by omega)]
    by_cases hw : inr w 0 5
    · obtain ⟨j, hj, rfl⟩ := inr_nat (n := 5) hw (by decide)
      rw [if_pos hw, ti_nI (by omega)]
      exact c_X6_asI l D a r k cI cT cN xh xi xr pn pc rd B L q kq b hS hok9 hT i hi j hj
    · rw [if_neg hw]
      exact c_X6_asO l D a r k cI cT cN xh xi xr pn pc rd B L q kq b hS hok9 hT i hi w hw
  · rw [if_neg hx]
    exact c_X6_asX l D a r k cI cT cN xh xi xr pn pc rd B L q kq b hS hok9 hT x w hx

set_option maxHeartbeats 4000000 in
set_option maxRecDepth 100000 in
theorem c_X6_dripX (l : Launch) (D : va_G) (a r k : Nat → Nat) (cI cT cN : ClassId) (xh xi xr pn : Nat) (pc : Nat → Int32) (rd : Nat × Nat × Nat) (B L : Nat → Int32) (q kq : RS) (b : Nat → Nat → Nat) (hS : SR b B L) (hok9 : hok b) (hT : Tok q) (x w : Int32) (ox : ¬ inr x 0 q.1) : ROi l yX6_drip (wA yX6_drip cX6_drip 4 (some .int)) ({ frames := 3, cells := 0, slots := 0, locals := 72 }) D (cTys cI cT cN) (cW a r k cI cT cN xh xi xr pn pc rd B L q kq) [.ref (a 0), .int x, .int w] (-101) := by
  refine go_start (by decide) (Nat.le_of_ble_eq_true rfl) ?_
  intro p e s m args below meth c ls F _ hB hl
  obtain ⟨hx, hb, hr, hlocks, hml, hown, hts⟩ := F
  obtain ⟨hP, hK⟩ := hB
  have hown : s.vm.findClass RX6 = some m.cls := hown
  have hl : lv_has ls 4 [(0, .ref (a 0)), (1, .int x), (2, .int w)] := hl
  have ht5 := hT.1
  have ht8 := hT.2.1
  refine lv_aload_n hx hb dX6_drip_0 rfl (lv_at hl 0 rfl) ?_
  refine va_get (D := D) (ci := 6) (v := .ref (r 0)) (C := RX6) (T := TX6) (N := 7) hx hb hts iX6 hown hK hP 0 rfl rfl 2 (by decide) (hts _ mg_153) (fun _ h9 => h9) rfl dX6_drip_1 ?_
  refine lv_iload_n hx hb dX6_drip_4 rfl (lv_at hl 1 rfl) ?_
  refine ro_qV (n := 1) (As := [.int x]) ⟨hx, hb, hml, hown, hts⟩ (c_X3_tapOut l D r cI cT cN q x (inr_out ox) ht5) (cwV 1 hts (gV mg_290 mg_259 mg_260 mg_5 mg_261) rfl rfl rfl vd_X3_tapAt ⟨Nat.le_of_ble_eq_true rfl, Nat.le_of_ble_eq_true rfl⟩) (va_recv hK hP (ci := 3) (q0 := 7) rfl rfl) hK (cW_r hP) rfl hl.1 rfl (Nat.le_of_ble_eq_true rfl) dX6_drip_5 ⟨Nat.zero_le _, Nat.zero_le _⟩ ?_
  refine lv_astore_nN (lv' := [(3, .null), (0, .ref (a 0)), (1, .int x), (2, .int w)]) hx hb dX6_drip_8 rfl hl (by decide) rfl (fun ls hl => ?_)
  refine lv_aload_nN hx hb dX6_drip_9 rfl (lv_at hl 0 rfl) ?_
  refine lv_ifnonnullN hx hb dX6_drip_10 ?_
  refine lv_bipush (v := (-101)) hx hb dX6_drip_13 (by decide) ?_
  exact ro_iret hx hb hr hlocks (rfl) dX6_drip_15

set_option maxHeartbeats 4000000 in
set_option maxRecDepth 100000 in
theorem c_X6_dripO (l : Launch) (D : va_G) (a r k : Nat → Nat) (cI cT cN : ClassId) (xh xi xr pn : Nat) (pc : Nat → Int32) (rd : Nat × Nat × Nat) (B L : Nat → Int32) (q kq : RS) (b : Nat → Nat → Nat) (hS : SR b B L) (hok9 : hok b) (hT : Tok q) (i : Nat) (hi : i < q.1) (w : Int32) (ow : ¬ inr w 0 100) : ROi l yX6_drip (wA yX6_drip cX6_drip 4 (some .int)) ({ frames := 3, cells := 0, slots := 0, locals := 72 }) D (cTys cI cT cN) (cW a r k cI cT cN xh xi xr pn pc rd B L q kq) [.ref (a 0), .int (nI i), .int w] (-102) := by
  refine go_start (by decide) (Nat.le_of_ble_eq_true rfl) ?_
  intro p e s m args below meth c ls F _ hB hl
  obtain ⟨hx, hb, hr, hlocks, hml, hown, hts⟩ := F
  obtain ⟨hP, hK⟩ := hB
  have hown : s.vm.findClass RX6 = some m.cls := hown
  have hl : lv_has ls 4 [(0, .ref (a 0)), (1, .int (nI i)), (2, .int w)] := hl
  have ht5 := hT.1
  have ht8 := hT.2.1
  have hw7 := inr_out ow
  refine lv_aload_n hx hb dX6_drip_0 rfl (lv_at hl 0 rfl) ?_
  refine va_get (D := D) (ci := 6) (v := .ref (r 0)) (C := RX6) (T := TX6) (N := 7) hx hb hts iX6 hown hK hP 0 rfl rfl 2 (by decide) (hts _ mg_153) (fun _ h9 => h9) rfl dX6_drip_1 ?_
  refine lv_iload_n hx hb dX6_drip_4 rfl (lv_at hl 1 rfl) ?_
  refine ro_qV (n := 1) (As := [.int (nI i)]) ⟨hx, hb, hml, hown, hts⟩ (c_X3_tapAt l D r cI cT cN q i (by omega) ht5) (cwV 1 hts (gV mg_290 mg_259 mg_260 mg_5 mg_261) rfl rfl rfl vd_X3_tapAt ⟨Nat.le_of_ble_eq_true rfl, Nat.le_of_ble_eq_true rfl⟩) (va_recv hK hP (ci := 3) (q0 := 7) rfl rfl) hK (cW_r hP) rfl hl.1 rfl (Nat.le_of_ble_eq_true rfl) dX6_drip_5 ⟨Nat.zero_le _, Nat.zero_le _⟩ ?_
  refine lv_astore_n (lv' := [(3, .ref (r (3 + i))), (0, .ref (a 0)), (1, .int (nI i)), (2, .int w)]) hx hb dX6_drip_8 rfl hl (by decide) rfl (fun ls hl => ?_)
  refine lv_aload_n hx hb dX6_drip_9 rfl (lv_at hl 0 rfl) ?_
  refine lv_ifnonnull (tgt := 16) hx hb dX6_drip_10 (by decide) ?_
  refine lv_iload_n hx hb dX6_drip_16 rfl (lv_at hl 3 rfl) ?_
  refine j_if_lt (tgt := 26) hx hb dX6_drip_17 (by decide) rfl (fun c_1 => ?_) (fun c_1 => ?_)
  · refine lv_bipush (v := (-102)) hx hb dX6_drip_26 (by decide) ?_
    exact ro_iret hx hb hr hlocks (rfl) dX6_drip_28
  · refine lv_iload_n hx hb dX6_drip_20 rfl (lv_at hl 3 rfl) ?_
    refine lv_bipush (v := nI 99) hx hb dX6_drip_21 (by decide) ?_
    refine j_icmp_le (tgt := 29) hx hb dX6_drip_23 (by decide) rfl (nI_toInt (by decide)) (fun c_2 => absurd c_2 (by omega)) (fun c_2 => ?_)
    refine lv_bipush (v := (-102)) hx hb dX6_drip_26 (by decide) ?_
    exact ro_iret hx hb hr hlocks (rfl) dX6_drip_28

set_option maxHeartbeats 4000000 in
set_option maxRecDepth 100000 in
theorem c_X6_dripI (l : Launch) (D : va_G) (a r k : Nat → Nat) (cI cT cN : ClassId) (xh xi xr pn : Nat) (pc : Nat → Int32) (rd : Nat × Nat × Nat) (B L : Nat → Int32) (q kq : RS) (b : Nat → Nat → Nat) (hS : SR b B L) (hok9 : hok b) (hT : Tok q) (i : Nat) (hi : i < q.1) (w : Nat) (hw : w < 100) : ROi l yX6_drip (wA yX6_drip cX6_drip 4 (some .int)) ({ frames := 3, cells := 0, slots := 0, locals := 72 }) D (cTys cI cT cN) (cW a r k cI cT cN xh xi xr pn pc rd B L q kq) [.ref (a 0), .int (nI i), .int (nI w)] (nI (sd b (q.2.2.2.1 i 0) (q.2.2.2.1 i 2) (q.2.2.2.1 i 1) w)) := by
  refine go_start (by decide) (Nat.le_of_ble_eq_true rfl) ?_
  intro p e s m args below meth c ls F _ hB hl
  obtain ⟨hx, hb, hr, hlocks, hml, hown, hts⟩ := F
  obtain ⟨hP, hK⟩ := hB
  have hown : s.vm.findClass RX6 = some m.cls := hown
  have hl : lv_has ls 4 [(0, .ref (a 0)), (1, .int (nI i)), (2, .int (nI w))] := hl
  have ht5 := hT.1
  have ht8 := hT.2.1
  refine lv_aload_n hx hb dX6_drip_0 rfl (lv_at hl 0 rfl) ?_
  refine va_get (D := D) (ci := 6) (v := .ref (r 0)) (C := RX6) (T := TX6) (N := 7) hx hb hts iX6 hown hK hP 0 rfl rfl 2 (by decide) (hts _ mg_153) (fun _ h9 => h9) rfl dX6_drip_1 ?_
  refine lv_iload_n hx hb dX6_drip_4 rfl (lv_at hl 1 rfl) ?_
  refine ro_qV (n := 1) (As := [.int (nI i)]) ⟨hx, hb, hml, hown, hts⟩ (c_X3_tapAt l D r cI cT cN q i (by omega) ht5) (cwV 1 hts (gV mg_290 mg_259 mg_260 mg_5 mg_261) rfl rfl rfl vd_X3_tapAt ⟨Nat.le_of_ble_eq_true rfl, Nat.le_of_ble_eq_true rfl⟩) (va_recv hK hP (ci := 3) (q0 := 7) rfl rfl) hK (cW_r hP) rfl hl.1 rfl (Nat.le_of_ble_eq_true rfl) dX6_drip_5 ⟨Nat.zero_le _, Nat.zero_le _⟩ ?_
  refine lv_astore_n (lv' := [(3, .ref (r (3 + i))), (0, .ref (a 0)), (1, .int (nI i)), (2, .int (nI w))]) hx hb dX6_drip_8 rfl hl (by decide) rfl (fun ls hl => ?_)
  refine lv_aload_n hx hb dX6_drip_9 rfl (lv_at hl 0 rfl) ?_
  refine lv_ifnonnull (tgt := 16) hx hb dX6_drip_10 (by decide) ?_
  refine lv_iload_n hx hb dX6_drip_16 rfl (lv_at hl 3 rfl) ?_
  refine j_if_lt (tgt := 26) hx hb dX6_drip_17 (by decide) (nI_toInt (by omega)) (fun c_1 => absurd c_1 (by omega)) (fun c_1 => ?_)
  refine lv_iload_n hx hb dX6_drip_20 rfl (lv_at hl 3 rfl) ?_
  refine lv_bipush (v := nI 99) hx hb dX6_drip_21 (by decide) ?_
  refine j_icmp_le (tgt := 29) hx hb dX6_drip_23 (by decide) (nI_toInt (by omega)) (nI_toInt (by decide)) (fun c_2 => ?_) (fun c_2 => absurd c_2 (by omega))
  refine lv_aload_n hx hb dX6_drip_29 rfl (lv_at hl 1 rfl) ?_
  refine lv_aload_n hx hb dX6_drip_30 rfl (lv_at hl 0 rfl) ?_
  refine lv_iload_n hx hb dX6_drip_31 rfl (lv_at hl 3 rfl) ?_
  refine ro_iV (n := 2) (As := [.ref (r (3 + i)), .int (nI w)]) ⟨hx, hb, hml, hown, hts⟩ (c_X6_dripOf l D a r k cI cT cN xh xi xr pn pc rd B L q kq b hS hok9 hT i (by omega) w (by omega)) (cwV 2 hts (gV mg_344 mg_346 mg_1011 mg_1 mg_347) rfl rfl rfl vd_X6_dripOf ⟨Nat.le_of_ble_eq_true rfl, Nat.le_of_ble_eq_true rfl⟩) (va_recv hK hP (ci := 6) (q0 := 0) rfl rfl) hK hP rfl hl.1 rfl (Nat.le_of_ble_eq_true rfl) dX6_drip_32 ⟨Nat.zero_le _, Nat.zero_le _⟩ ?_
  exact ro_iret hx hb hr hlocks (rfl) dX6_drip_35

theorem c_X6_drip (l : Launch) (D : va_G) (a r k : Nat → Nat) (cI cT cN : ClassId) (xh xi xr pn : Nat) (pc : Nat → Int32) (rd : Nat × Nat × Nat) (B L : Nat → Int32) (q kq : RS) (b : Nat → Nat → Nat) (hS : SR b B L) (hok9 : hok b) (hT : Tok q) (x w : Int32) : ROi l yX6_drip (wA yX6_drip cX6_drip 4 (some .int)) ({ frames := 3, cells := 0, slots := 0, locals := 72 }) D (cTys cI cT cN) (cW a r k cI cT cN xh xi xr pn pc rd B L q kq) [.ref (a 0), .int x, .int w] (sp_drip b q x w) := by
  unfold sp_drip
  have h5 := hT.1
  by_cases hx : inr x 0 q.1
  · obtain ⟨i, hi, rfl⟩ := inr_nat hx (by omega)
    rw [if_pos hx, ti_nI (by omega)]
    by_cases hw : inr w 0 100
    · obtain ⟨j, hj, rfl⟩ := inr_nat (n := 100) hw (by decide)
      rw [if_pos hw, ti_nI (by omega)]
      exact c_X6_dripI l D a r k cI cT cN xh xi xr pn pc rd B L q kq b hS hok9 hT i hi j hj
    · rw [if_neg hw]
      exact c_X6_dripO l D a r k cI cT cN xh xi xr pn pc rd B L q kq b hS hok9 hT i hi w hw
  · rw [if_neg hx]
    exact c_X6_dripX l D a r k cI cT cN xh xi xr pn pc rd B L q kq b hS hok9 hT x w hx

set_option maxHeartbeats 4000000 in
set_option maxRecDepth 100000 in
theorem c_X6_agree1 (l : Launch) (D : va_G) (a r k : Nat → Nat) (cI cT cN : ClassId) (xh xi xr pn : Nat) (pc : Nat → Int32) (rd : Nat × Nat × Nat) (B L : Nat → Int32) (q kq : RS) (b : Nat → Nat → Nat) (hS : SR b B L) (hok9 : hok b) (hT : Tok q) (x y : Int32) (ox : ¬ inr x 0 q.1) (oy : ¬ inr y 0 q.1) : ROi l yX6_agree (wA yX6_agree cX6_agree 7 (some .int)) ({ frames := 3, cells := 0, slots := 0, locals := 72 }) D (cTys cI cT cN) (cW a r k cI cT cN xh xi xr pn pc rd B L q kq) [.ref (a 0), .int x, .int y] (-101) := by
  refine go_start (by decide) (Nat.le_of_ble_eq_true rfl) ?_
  intro p e s m args below meth c ls F _ hB hl
  obtain ⟨hx, hb, hr, hlocks, hml, hown, hts⟩ := F
  obtain ⟨hP, hK⟩ := hB
  have hown : s.vm.findClass RX6 = some m.cls := hown
  have hl : lv_has ls 7 [(0, .ref (a 0)), (1, .int x), (2, .int y)] := hl
  have ht5 := hT.1
  have ht8 := hT.2.1
  refine lv_aload_n hx hb dX6_agree_0 rfl (lv_at hl 0 rfl) ?_
  refine va_get (D := D) (ci := 6) (v := .ref (r 0)) (C := RX6) (T := TX6) (N := 7) hx hb hts iX6 hown hK hP 0 rfl rfl 2 (by decide) (hts _ mg_153) (fun _ h9 => h9) rfl dX6_agree_1 ?_
  refine lv_iload_n hx hb dX6_agree_4 rfl (lv_at hl 1 rfl) ?_
  refine ro_qV (n := 1) (As := [.int x]) ⟨hx, hb, hml, hown, hts⟩ (c_X3_tapOut l D r cI cT cN q x (inr_out ox) ht5) (cwV 1 hts (gV mg_290 mg_259 mg_260 mg_5 mg_261) rfl rfl rfl vd_X3_tapAt ⟨Nat.le_of_ble_eq_true rfl, Nat.le_of_ble_eq_true rfl⟩) (va_recv hK hP (ci := 3) (q0 := 7) rfl rfl) hK (cW_r hP) rfl hl.1 rfl (Nat.le_of_ble_eq_true rfl) dX6_agree_5 ⟨Nat.zero_le _, Nat.zero_le _⟩ ?_
  refine lv_astore_nN (lv' := [(3, .null), (0, .ref (a 0)), (1, .int x), (2, .int y)]) hx hb dX6_agree_8 rfl hl (by decide) rfl (fun ls hl => ?_)
  refine lv_aload_n hx hb dX6_agree_9 rfl (lv_at hl 1 rfl) ?_
  refine va_get (D := D) (ci := 6) (v := .ref (r 0)) (C := RX6) (T := TX6) (N := 7) hx hb hts iX6 hown hK hP 0 rfl rfl 2 (by decide) (hts _ mg_153) (fun _ h9 => h9) rfl dX6_agree_10 ?_
  refine lv_iload_n hx hb dX6_agree_13 rfl (lv_at hl 3 rfl) ?_
  refine ro_qV (n := 1) (As := [.int y]) ⟨hx, hb, hml, hown, hts⟩ (c_X3_tapOut l D r cI cT cN q y (inr_out oy) ht5) (cwV 1 hts (gV mg_290 mg_259 mg_260 mg_5 mg_261) rfl rfl rfl vd_X3_tapAt ⟨Nat.le_of_ble_eq_true rfl, Nat.le_of_ble_eq_true rfl⟩) (va_recv hK hP (ci := 3) (q0 := 7) rfl rfl) hK (cW_r hP) rfl hl.1 rfl (Nat.le_of_ble_eq_true rfl) dX6_agree_14 ⟨Nat.zero_le _, Nat.zero_le _⟩ ?_
  refine lv_astoreN (lv' := [(4, .null), (3, .null), (0, .ref (a 0)), (1, .int x), (2, .int y)]) hx hb dX6_agree_17 hl (by decide) rfl (fun ls hl => ?_)
  refine lv_aload_nN hx hb dX6_agree_19 rfl (lv_at hl 1 rfl) ?_
  refine lv_ifnullN (tgt := 33) hx hb dX6_agree_20 (by decide) ?_
  refine lv_bipush (v := (-101)) hx hb dX6_agree_33 (by decide) ?_
  exact ro_iret hx hb hr hlocks (rfl) dX6_agree_35

set_option maxHeartbeats 4000000 in
set_option maxRecDepth 100000 in
theorem c_X6_agree2 (l : Launch) (D : va_G) (a r k : Nat → Nat) (cI cT cN : ClassId) (xh xi xr pn : Nat) (pc : Nat → Int32) (rd : Nat × Nat × Nat) (B L : Nat → Int32) (q kq : RS) (b : Nat → Nat → Nat) (hS : SR b B L) (hok9 : hok b) (hT : Tok q) (x : Int32) (ox : ¬ inr x 0 q.1) (j : Nat) (hj : j < q.1) : ROi l yX6_agree (wA yX6_agree cX6_agree 7 (some .int)) ({ frames := 3, cells := 0, slots := 0, locals := 72 }) D (cTys cI cT cN) (cW a r k cI cT cN xh xi xr pn pc rd B L q kq) [.ref (a 0), .int x, .int (nI j)] (-101) := by
  refine go_start (by decide) (Nat.le_of_ble_eq_true rfl) ?_
  intro p e s m args below meth c ls F _ hB hl
  obtain ⟨hx, hb, hr, hlocks, hml, hown, hts⟩ := F
  obtain ⟨hP, hK⟩ := hB
  have hown : s.vm.findClass RX6 = some m.cls := hown
  have hl : lv_has ls 7 [(0, .ref (a 0)), (1, .int x), (2, .int (nI j))] := hl
  have ht5 := hT.1
  have ht8 := hT.2.1
  refine lv_aload_n hx hb dX6_agree_0 rfl (lv_at hl 0 rfl) ?_
  refine va_get (D := D) (ci := 6) (v := .ref (r 0)) (C := RX6) (T := TX6) (N := 7) hx hb hts iX6 hown hK hP 0 rfl rfl 2 (by decide) (hts _ mg_153) (fun _ h9 => h9) rfl dX6_agree_1 ?_
  refine lv_iload_n hx hb dX6_agree_4 rfl (lv_at hl 1 rfl) ?_
  refine ro_qV (n := 1) (As := [.int x]) ⟨hx, hb, hml, hown, hts⟩ (c_X3_tapOut l D r cI cT cN q x (inr_out ox) ht5) (cwV 1 hts (gV mg_290 mg_259 mg_260 mg_5 mg_261) rfl rfl rfl vd_X3_tapAt ⟨Nat.le_of_ble_eq_true rfl, Nat.le_of_ble_eq_true rfl⟩) (va_recv hK hP (ci := 3) (q0 := 7) rfl rfl) hK (cW_r hP) rfl hl.1 rfl (Nat.le_of_ble_eq_true rfl) dX6_agree_5 ⟨Nat.zero_le _, Nat.zero_le _⟩ ?_
  refine lv_astore_nN (lv' := [(3, .null), (0, .ref (a 0)), (1, .int x), (2, .int (nI j))]) hx hb dX6_agree_8 rfl hl (by decide) rfl (fun ls hl => ?_)
  refine lv_aload_n hx hb dX6_agree_9 rfl (lv_at hl 1 rfl) ?_
  refine va_get (D := D) (ci := 6) (v := .ref (r 0)) (C := RX6) (T := TX6) (N := 7) hx hb hts iX6 hown hK hP 0 rfl rfl 2 (by decide) (hts _ mg_153) (fun _ h9 => h9) rfl dX6_agree_10 ?_
  refine lv_iload_n hx hb dX6_agree_13 rfl (lv_at hl 3 rfl) ?_
  refine ro_qV (n := 1) (As := [.int (nI j)]) ⟨hx, hb, hml, hown, hts⟩ (c_X3_tapAt l D r cI cT cN q j (by omega) ht5) (cwV 1 hts (gV mg_290 mg_259 mg_260 mg_5 mg_261) rfl rfl rfl vd_X3_tapAt ⟨Nat.le_of_ble_eq_true rfl, Nat.le_of_ble_eq_true rfl⟩) (va_recv hK hP (ci := 3) (q0 := 7) rfl rfl) hK (cW_r hP) rfl hl.1 rfl (Nat.le_of_ble_eq_true rfl) dX6_agree_14 ⟨Nat.zero_le _, Nat.zero_le _⟩ ?_
  refine lv_astore (lv' := [(4, .ref (r (3 + j))), (3, .null), (0, .ref (a 0)), (1, .int x), (2, .int (nI j))]) hx hb dX6_agree_17 hl (by decide) rfl (fun ls hl => ?_)
  refine lv_aload_nN hx hb dX6_agree_19 rfl (lv_at hl 1 rfl) ?_
  refine lv_ifnullN (tgt := 33) hx hb dX6_agree_20 (by decide) ?_
  refine lv_bipush (v := (-101)) hx hb dX6_agree_33 (by decide) ?_
  exact ro_iret hx hb hr hlocks (rfl) dX6_agree_35

set_option maxHeartbeats 4000000 in
set_option maxRecDepth 100000 in
theorem c_X6_agree3 (l : Launch) (D : va_G) (a r k : Nat → Nat) (cI cT cN : ClassId) (xh xi xr pn : Nat) (pc : Nat → Int32) (rd : Nat × Nat × Nat) (B L : Nat → Int32) (q kq : RS) (b : Nat → Nat → Nat) (hS : SR b B L) (hok9 : hok b) (hT : Tok q) (i : Nat) (hi : i < q.1) (y : Int32) (oy : ¬ inr y 0 q.1) : ROi l yX6_agree (wA yX6_agree cX6_agree 7 (some .int)) ({ frames := 3, cells := 0, slots := 0, locals := 72 }) D (cTys cI cT cN) (cW a r k cI cT cN xh xi xr pn pc rd B L q kq) [.ref (a 0), .int (nI i), .int y] (-101) := by
  refine go_start (by decide) (Nat.le_of_ble_eq_true rfl) ?_
  intro p e s m args below meth c ls F _ hB hl
  obtain ⟨hx, hb, hr, hlocks, hml, hown, hts⟩ := F
  obtain ⟨hP, hK⟩ := hB
  have hown : s.vm.findClass RX6 = some m.cls := hown
  have hl : lv_has ls 7 [(0, .ref (a 0)), (1, .int (nI i)), (2, .int y)] := hl
  have ht5 := hT.1
  have ht8 := hT.2.1
  refine lv_aload_n hx hb dX6_agree_0 rfl (lv_at hl 0 rfl) ?_
  refine va_get (D := D) (ci := 6) (v := .ref (r 0)) (C := RX6) (T := TX6) (N := 7) hx hb hts iX6 hown hK hP 0 rfl rfl 2 (by decide) (hts _ mg_153) (fun _ h9 => h9) rfl dX6_agree_1 ?_
  refine lv_iload_n hx hb dX6_agree_4 rfl (lv_at hl 1 rfl) ?_
  refine ro_qV (n := 1) (As := [.int (nI i)]) ⟨hx, hb, hml, hown, hts⟩ (c_X3_tapAt l D r cI cT cN q i (by omega) ht5) (cwV 1 hts (gV mg_290 mg_259 mg_260 mg_5 mg_261) rfl rfl rfl vd_X3_tapAt ⟨Nat.le_of_ble_eq_true rfl, Nat.le_of_ble_eq_true rfl⟩) (va_recv hK hP (ci := 3) (q0 := 7) rfl rfl) hK (cW_r hP) rfl hl.1 rfl (Nat.le_of_ble_eq_true rfl) dX6_agree_5 ⟨Nat.zero_le _, Nat.zero_le _⟩ ?_
  refine lv_astore_n (lv' := [(3, .ref (r (3 + i))), (0, .ref (a 0)), (1, .int (nI i)), (2, .int y)]) hx hb dX6_agree_8 rfl hl (by decide) rfl (fun ls hl => ?_)
  refine lv_aload_n hx hb dX6_agree_9 rfl (lv_at hl 1 rfl) ?_
  refine va_get (D := D) (ci := 6) (v := .ref (r 0)) (C := RX6) (T := TX6) (N := 7) hx hb hts iX6 hown hK hP 0 rfl rfl 2 (by decide) (hts _ mg_153) (fun _ h9 => h9) rfl dX6_agree_10 ?_
  refine lv_iload_n hx hb dX6_agree_13 rfl (lv_at hl 3 rfl) ?_
  refine ro_qV (n := 1) (As := [.int y]) ⟨hx, hb, hml, hown, hts⟩ (c_X3_tapOut l D r cI cT cN q y (inr_out oy) ht5) (cwV 1 hts (gV mg_290 mg_259 mg_260 mg_5 mg_261) rfl rfl rfl vd_X3_tapAt ⟨Nat.le_of_ble_eq_true rfl, Nat.le_of_ble_eq_true rfl⟩) (va_recv hK hP (ci := 3) (q0 := 7) rfl rfl) hK (cW_r hP) rfl hl.1 rfl (Nat.le_of_ble_eq_true rfl) dX6_agree_14 ⟨Nat.zero_le _, Nat.zero_le _⟩ ?_
  refine lv_astoreN (lv' := [(4, .null), (3, .ref (r (3 + i))), (0, .ref (a 0)), (1, .int (nI i)), (2, .int y)]) hx hb dX6_agree_17 hl (by decide) rfl (fun ls hl => ?_)
  refine lv_aload_n hx hb dX6_agree_19 rfl (lv_at hl 1 rfl) ?_
  refine lv_ifnull hx hb dX6_agree_20 ?_
  refine lv_aloadN hx hb dX6_agree_23 (lv_at hl 0 rfl) ?_
  refine lv_ifnullN (tgt := 33) hx hb dX6_agree_25 (by decide) ?_
  refine lv_bipush (v := (-101)) hx hb dX6_agree_33 (by decide) ?_
  exact ro_iret hx hb hr hlocks (rfl) dX6_agree_35

set_option maxHeartbeats 4000000 in
set_option maxRecDepth 100000 in
theorem c_X6_agree4 (l : Launch) (D : va_G) (a r k : Nat → Nat) (cI cT cN : ClassId) (xh xi xr pn : Nat) (pc : Nat → Int32) (rd : Nat × Nat × Nat) (B L : Nat → Int32) (q kq : RS) (b : Nat → Nat → Nat) (hS : SR b B L) (hok9 : hok b) (hT : Tok q) (i : Nat) (hi : i < q.1) (j : Nat) (hj : j < q.1) (hij : i = j) : ROi l yX6_agree (wA yX6_agree cX6_agree 7 (some .int)) ({ frames := 3, cells := 0, slots := 0, locals := 72 }) D (cTys cI cT cN) (cW a r k cI cT cN xh xi xr pn pc rd B L q kq) [.ref (a 0), .int (nI i), .int (nI j)] (-101) := by
  refine go_start (by decide) (Nat.le_of_ble_eq_true rfl) ?_
  intro p e s m args below meth c ls F _ hB hl
  obtain ⟨hx, hb, hr, hlocks, hml, hown, hts⟩ := F
  obtain ⟨hP, hK⟩ := hB
  have hown : s.vm.findClass RX6 = some m.cls := hown
  have hl : lv_has ls 7 [(0, .ref (a 0)), (1, .int (nI i)), (2, .int (nI j))] := hl
  have ht5 := hT.1
  have ht8 := hT.2.1
  obtain ⟨hk0, hv0, hw0, hp0⟩ := hT.2.2.1 i hi
  obtain ⟨hk0j, hv0j, hw0j, hp0j⟩ := hT.2.2.1 j hj
  refine lv_aload_n hx hb dX6_agree_0 rfl (lv_at hl 0 rfl) ?_
  refine va_get (D := D) (ci := 6) (v := .ref (r 0)) (C := RX6) (T := TX6) (N := 7) hx hb hts iX6 hown hK hP 0 rfl rfl 2 (by decide) (hts _ mg_153) (fun _ h9 => h9) rfl dX6_agree_1 ?_
  refine lv_iload_n hx hb dX6_agree_4 rfl (lv_at hl 1 rfl) ?_
  refine ro_qV (n := 1) (As := [.int (nI i)]) ⟨hx, hb, hml, hown, hts⟩ (c_X3_tapAt l D r cI cT cN q i (by omega) ht5) (cwV 1 hts (gV mg_290 mg_259 mg_260 mg_5 mg_261) rfl rfl rfl vd_X3_tapAt ⟨Nat.le_of_ble_eq_true rfl, Nat.le_of_ble_eq_true rfl⟩) (va_recv hK hP (ci := 3) (q0 := 7) rfl rfl) hK (cW_r hP) rfl hl.1 rfl (Nat.le_of_ble_eq_true rfl) dX6_agree_5 ⟨Nat.zero_le _, Nat.zero_le _⟩ ?_
  refine lv_astore_n (lv' := [(3, .ref (r (3 + i))), (0, .ref (a 0)), (1, .int (nI i)), (2, .int (nI j))]) hx hb dX6_agree_8 rfl hl (by decide) rfl (fun ls hl => ?_)
  refine lv_aload_n hx hb dX6_agree_9 rfl (lv_at hl 1 rfl) ?_
  refine va_get (D := D) (ci := 6) (v := .ref (r 0)) (C := RX6) (T := TX6) (N := 7) hx hb hts iX6 hown hK hP 0 rfl rfl 2 (by decide) (hts _ mg_153) (fun _ h9 => h9) rfl dX6_agree_10 ?_
  refine lv_iload_n hx hb dX6_agree_13 rfl (lv_at hl 3 rfl) ?_
  refine ro_qV (n := 1) (As := [.int (nI j)]) ⟨hx, hb, hml, hown, hts⟩ (c_X3_tapAt l D r cI cT cN q j (by omega) ht5) (cwV 1 hts (gV mg_290 mg_259 mg_260 mg_5 mg_261) rfl rfl rfl vd_X3_tapAt ⟨Nat.le_of_ble_eq_true rfl, Nat.le_of_ble_eq_true rfl⟩) (va_recv hK hP (ci := 3) (q0 := 7) rfl rfl) hK (cW_r hP) rfl hl.1 rfl (Nat.le_of_ble_eq_true rfl) dX6_agree_14 ⟨Nat.zero_le _, Nat.zero_le _⟩ ?_
  refine lv_astore (lv' := [(4, .ref (r (3 + j))), (3, .ref (r (3 + i))), (0, .ref (a 0)), (1, .int (nI i)), (2, .int (nI j))]) hx hb dX6_agree_17 hl (by decide) rfl (fun ls hl => ?_)
  refine lv_aload_n hx hb dX6_agree_19 rfl (lv_at hl 1 rfl) ?_
  refine lv_ifnull hx hb dX6_agree_20 ?_
  refine lv_aload hx hb dX6_agree_23 (lv_at hl 0 rfl) ?_
  refine lv_ifnull hx hb dX6_agree_25 ?_
  refine lv_iload_n hx hb dX6_agree_28 rfl (lv_at hl 3 rfl) ?_
  refine lv_iload_n hx hb dX6_agree_29 rfl (lv_at hl 4 rfl) ?_
  refine j_icmp_ne (tgt := 36) hx hb dX6_agree_30 (by decide) (nI_toInt (by omega)) (nI_toInt (by omega)) (fun c_1 => absurd c_1 (by omega)) (fun c_1 => ?_)
  refine lv_bipush (v := (-101)) hx hb dX6_agree_33 (by decide) ?_
  exact ro_iret hx hb hr hlocks (rfl) dX6_agree_35

set_option maxHeartbeats 4000000 in
set_option maxRecDepth 100000 in
theorem c_X6_agree5 (l : Launch) (D : va_G) (a r k : Nat → Nat) (cI cT cN : ClassId) (xh xi xr pn : Nat) (pc : Nat → Int32) (rd : Nat × Nat × Nat) (B L : Nat → Int32) (q kq : RS) (b : Nat → Nat → Nat) (hS : SR b B L) (hok9 : hok b) (hT : Tok q) (i : Nat) (hi : i < q.1) (j : Nat) (hj : j < q.1) (hij : ¬ i = j) : ROi l yX6_agree (wA yX6_agree cX6_agree 7 (some .int)) ({ frames := 3, cells := 0, slots := 0, locals := 72 }) D (cTys cI cT cN) (cW a r k cI cT cN xh xi xr pn pc rd B L q kq) [.ref (a 0), .int (nI i), .int (nI j)] (nI (cnt (agf b q.2.2.2.1 i j) 16)) := by
  refine go_start (by decide) (Nat.le_of_ble_eq_true rfl) ?_
  intro p e s m args below meth c ls F _ hB hl
  obtain ⟨hx, hb, hr, hlocks, hml, hown, hts⟩ := F
  obtain ⟨hP, hK⟩ := hB
  have hown : s.vm.findClass RX6 = some m.cls := hown
  have hl : lv_has ls 7 [(0, .ref (a 0)), (1, .int (nI i)), (2, .int (nI j))] := hl
  have ht5 := hT.1
  have ht8 := hT.2.1
  obtain ⟨hk0, hv0, hw0, hp0⟩ := hT.2.2.1 i hi
  obtain ⟨hk0j, hv0j, hw0j, hp0j⟩ := hT.2.2.1 j hj
  refine lv_aload_n hx hb dX6_agree_0 rfl (lv_at hl 0 rfl) ?_
  refine va_get (D := D) (ci := 6) (v := .ref (r 0)) (C := RX6) (T := TX6) (N := 7) hx hb hts iX6 hown hK hP 0 rfl rfl 2 (by decide) (hts _ mg_153) (fun _ h9 => h9) rfl dX6_agree_1 ?_
  refine lv_iload_n hx hb dX6_agree_4 rfl (lv_at hl 1 rfl) ?_
  refine ro_qV (n := 1) (As := [.int (nI i)]) ⟨hx, hb, hml, hown, hts⟩ (c_X3_tapAt l D r cI cT cN q i (by omega) ht5) (cwV 1 hts (gV mg_290 mg_259 mg_260 mg_5 mg_261) rfl rfl rfl vd_X3_tapAt ⟨Nat.le_of_ble_eq_true rfl, Nat.le_of_ble_eq_true rfl⟩) (va_recv hK hP (ci := 3) (q0 := 7) rfl rfl) hK (cW_r hP) rfl hl.1 rfl (Nat.le_of_ble_eq_true rfl) dX6_agree_5 ⟨Nat.zero_le _, Nat.zero_le _⟩ ?_
  refine lv_astore_n (lv' := [(3, .ref (r (3 + i))), (0, .ref (a 0)), (1, .int (nI i)), (2, .int (nI j))]) hx hb dX6_agree_8 rfl hl (by decide) rfl (fun ls hl => ?_)
  refine lv_aload_n hx hb dX6_agree_9 rfl (lv_at hl 1 rfl) ?_
  refine va_get (D := D) (ci := 6) (v := .ref (r 0)) (C := RX6) (T := TX6) (N := 7) hx hb hts iX6 hown hK hP 0 rfl rfl 2 (by decide) (hts _ mg_153) (fun _ h9 => h9) rfl dX6_agree_10 ?_
  refine lv_iload_n hx hb dX6_agree_13 rfl (lv_at hl 3 rfl) ?_
  refine ro_qV (n := 1) (As := [.int (nI j)]) ⟨hx, hb, hml, hown, hts⟩ (c_X3_tapAt l D r cI cT cN q j (by omega) ht5) (cwV 1 hts (gV mg_290 mg_259 mg_260 mg_5 mg_261) rfl rfl rfl vd_X3_tapAt ⟨Nat.le_of_ble_eq_true rfl, Nat.le_of_ble_eq_true rfl⟩) (va_recv hK hP (ci := 3) (q0 := 7) rfl rfl) hK (cW_r hP) rfl hl.1 rfl (Nat.le_of_ble_eq_true rfl) dX6_agree_14 ⟨Nat.zero_le _, Nat.zero_le _⟩ ?_
  refine lv_astore (lv' := [(4, .ref (r (3 + j))), (3, .ref (r (3 + i))), (0, .ref (a 0)), (1, .int (nI i)), (2, .int (nI j))]) hx hb dX6_agree_17 hl (by decide) rfl (fun ls hl => ?_)
  refine lv_aload_n hx hb dX6_agree_19 rfl (lv_at hl 1 rfl) ?_
  refine lv_ifnull hx hb dX6_agree_20 ?_
  refine lv_aload hx hb dX6_agree_23 (lv_at hl 0 rfl) ?_
  refine lv_ifnull hx hb dX6_agree_25 ?_
  refine lv_iload_n hx hb dX6_agree_28 rfl (lv_at hl 3 rfl) ?_
  refine lv_iload_n hx hb dX6_agree_29 rfl (lv_at hl 4 rfl) ?_
  refine j_icmp_ne (tgt := 36) hx hb dX6_agree_30 (by decide) (nI_toInt (by omega)) (nI_toInt (by omega)) (fun c_1 => ?_) (fun c_1 => absurd c_1 (by omega))
  refine lv_iconst (v := nI 0) hx hb dX6_agree_36 (by decide) ?_
  refine lv_istore (lv' := [(5, .int (nI 0)), (4, .ref (r (3 + j))), (3, .ref (r (3 + i))), (0, .ref (a 0)), (1, .int (nI i)), (2, .int (nI j))]) hx hb dX6_agree_37 hl (by decide) rfl (fun ls hl => ?_)
  refine lv_iconst (v := nI 0) hx hb dX6_agree_39 (by decide) ?_
  refine lv_istore (lv' := [(6, .int (nI 0)), (5, .int (nI 0)), (4, .ref (r (3 + j))), (3, .ref (r (3 + i))), (0, .ref (a 0)), (1, .int (nI i)), (2, .int (nI j))]) hx hb dX6_agree_40 hl (by decide) rfl (fun ls hl => ?_)
  have K_2 : ∀ n9 : Nat, ∀ (t : Nat) (n : Nat), n ≤ 16 → t = cnt (agf b q.2.2.2.1 i j) n → 16 - n < n9 → ∀ ls : Array Slot, lv_has ls 7 [(0, .ref (a 0)), (3, .ref (r (3 + i))), (4, .ref (r (3 + j))), (5, .int (nI t)), (6, .int (nI n))] → W p l e (headSpec (wA yX6_agree cX6_agree 7 (some .int)) ({ frames := 3, cells := 0, slots := 0, locals := 72 })).room s m args below meth c s.heap [] 0 0 (MQ below (vp_Si (fun z9 => z9 = nI (cnt (agf b q.2.2.2.1 i j) 16))) args s 0 0 (fun _ => False)) (F0 m 42 ls []) := by
    intro n9
    induction n9 with
    | zero => intros; omega
    | succ n9 ih_3 =>
      intro t n hn ht0 hn9 ls hl
      have hxl := cnt_le (agf b q.2.2.2.1 i j) n
      refine lv_iload hx hb dX6_agree_42 (lv_at hl 4 rfl) ?_
      refine lv_bipush (v := nI 16) hx hb dX6_agree_44 (by decide) ?_
      refine j_icmp_ge (tgt := 87) hx hb dX6_agree_46 (by decide) (nI_toInt (by omega)) (nI_toInt (by decide)) (fun c_4 => ?_) (fun c_4 => ?_)
      · have e9 : n = 16 := by omega
        refine lv_iload hx hb dX6_agree_87 (lv_at hl 3 rfl) ?_
        exact ro_iret hx hb hr hlocks (by rw [ht0, e9]) dX6_agree_89
      · refine lv_aload_n hx hb dX6_agree_49 rfl (lv_at hl 0 rfl) ?_
        refine lv_aload_n hx hb dX6_agree_50 rfl (lv_at hl 1 rfl) ?_
        refine lv_aload_n hx hb dX6_agree_51 rfl (lv_at hl 1 rfl) ?_
        refine va_get (D := D) (ci := 5) (v := .int (nI (q.2.2.2.1 i 3))) (C := RX5) (T := TX5) (N := 5) hx hb hts iX5 hown hK hP (10 + i) (cW_tap (by omega)) rfl 4 (by decide) (hts _ mg_92) (fun _ h9 => h9) rfl dX6_agree_52 ?_
        refine lv_iload hx hb dX6_agree_55 (lv_at hl 4 rfl) ?_
        refine n_iadd hx hb dX6_agree_57 ?_
        refine ro_iV (n := 2) (As := [.ref (r (3 + i)), .int (nI ((q.2.2.2.1 i 3) + n))]) ⟨hx, hb, hml, hown, hts⟩ (c_X6_dripOf l D a r k cI cT cN xh xi xr pn pc rd B L q kq b hS hok9 hT i (by omega) ((q.2.2.2.1 i 3) + n) (by omega)) (cwV 2 hts (gV mg_344 mg_346 mg_1011 mg_1 mg_347) rfl rfl rfl vd_X6_dripOf ⟨Nat.le_of_ble_eq_true rfl, Nat.le_of_ble_eq_true rfl⟩) (va_recv hK hP (ci := 6) (q0 := 0) rfl rfl) hK hP rfl hl.1 rfl (Nat.le_of_ble_eq_true rfl) dX6_agree_58 ⟨Nat.zero_le _, Nat.zero_le _⟩ ?_
        refine lv_aload_n hx hb dX6_agree_61 rfl (lv_at hl 0 rfl) ?_
        refine lv_aload hx hb dX6_agree_62 (lv_at hl 2 rfl) ?_
        refine lv_aload hx hb dX6_agree_64 (lv_at hl 2 rfl) ?_
        refine va_get (D := D) (ci := 5) (v := .int (nI (q.2.2.2.1 j 3))) (C := RX5) (T := TX5) (N := 5) hx hb hts iX5 hown hK hP (10 + j) (cW_tap (by omega)) rfl 4 (by decide) (hts _ mg_92) (fun _ h9 => h9) rfl dX6_agree_66 ?_
        refine lv_iload hx hb dX6_agree_69 (lv_at hl 4 rfl) ?_
        refine n_iadd hx hb dX6_agree_71 ?_
        refine ro_iV (n := 2) (As := [.ref (r (3 + j)), .int (nI ((q.2.2.2.1 j 3) + n))]) ⟨hx, hb, hml, hown, hts⟩ (c_X6_dripOf l D a r k cI cT cN xh xi xr pn pc rd B L q kq b hS hok9 hT j (by omega) ((q.2.2.2.1 j 3) + n) (by omega)) (cwV 2 hts (gV mg_344 mg_346 mg_1011 mg_1 mg_347) rfl rfl rfl vd_X6_dripOf ⟨Nat.le_of_ble_eq_true rfl, Nat.le_of_ble_eq_true rfl⟩) (va_recv hK hP (ci := 6) (q0 := 0) rfl rfl) hK hP rfl hl.1 rfl (Nat.le_of_ble_eq_true rfl) dX6_agree_72 ⟨Nat.zero_le _, Nat.zero_le _⟩ ?_
        have hd1 := sd_le hok9 (kd := q.2.2.2.1 i 0) (w := q.2.2.2.1 i 2) (n := q.2.2.2.1 i 3 + n) (v := q.2.2.2.1 i 1) (by omega)
        have hd2 := sd_le hok9 (kd := q.2.2.2.1 j 0) (w := q.2.2.2.1 j 2) (n := q.2.2.2.1 j 3 + n) (v := q.2.2.2.1 j 1) (by omega)
        refine j_icmp_ne (tgt := 81) hx hb dX6_agree_75 (by decide) (nI_toInt (by omega)) (nI_toInt (by omega)) (fun c_5 => ?_) (fun c_5 => ?_)
        · refine lv_iinc (v := nI (n + 1)) (lv' := [(6, .int (nI (n + 1))), (0, .ref (a 0)), (3, .ref (r (3 + i))), (4, .ref (r (3 + j))), (5, .int (nI t))]) hx hb dX6_agree_81 hl (k := 4) rfl (fr_inc1 _) (by decide) rfl (fun ls hl => ?_)
          refine lv_goto (tgt := 42) hx hb dX6_agree_84 (by decide) ?_
          exact ih_3 t (n + 1) (by omega) (by first | (rw [cnt_t hz, ht0]; done) | (rw [cnt_f (decide_eq_false (by unfold dpl; omega)), ht0]; done)) (by omega) _ (lv_sub hl [1, 2, 3, 4, 0] rfl)
        · have hz : (agf b q.2.2.2.1 i j) n = true := decide_eq_true (by unfold dpl; omega)
          refine lv_iinc (v := nI (t + 1)) (lv' := [(5, .int (nI (t + 1))), (0, .ref (a 0)), (3, .ref (r (3 + i))), (4, .ref (r (3 + j))), (6, .int (nI n))]) hx hb dX6_agree_78 hl (k := 3) rfl (fr_inc1 _) (by decide) rfl (fun ls hl => ?_)
          refine lv_iinc (v := nI (n + 1)) (lv' := [(6, .int (nI (n + 1))), (5, .int (nI (t + 1))), (0, .ref (a 0)), (3, .ref (r (3 + i))), (4, .ref (r (3 + j)))]) hx hb dX6_agree_81 hl (k := 4) rfl (fr_inc1 _) (by decide) rfl (fun ls hl => ?_)
          refine lv_goto (tgt := 42) hx hb dX6_agree_84 (by decide) ?_
          exact ih_3 (t + 1) (n + 1) (by omega) (by first | (rw [cnt_t hz, ht0]; done) | (rw [cnt_f (decide_eq_false (by unfold dpl; omega)), ht0]; done)) (by omega) _ (lv_sub hl [2, 3, 4, 1, 0] rfl)
  exact K_2 (16 - 0 + 1) 0 0 (by omega) (rfl) (Nat.lt_succ_self _) _ (lv_sub hl [4, 3, 2, 1, 0] rfl)

theorem c_X6_agree (l : Launch) (D : va_G) (a r k : Nat → Nat) (cI cT cN : ClassId) (xh xi xr pn : Nat) (pc : Nat → Int32) (rd : Nat × Nat × Nat) (B L : Nat → Int32) (q kq : RS) (b : Nat → Nat → Nat) (hS : SR b B L) (hok9 : hok b) (hT : Tok q) (x y : Int32) : ROi l yX6_agree (wA yX6_agree cX6_agree 7 (some .int)) ({ frames := 3, cells := 0, slots := 0, locals := 72 }) D (cTys cI cT cN) (cW a r k cI cT cN xh xi xr pn pc rd B L q kq) [.ref (a 0), .int x, .int y] (sp_agree b q x y) := by
  unfold sp_agree
  have h5 := hT.1
  by_cases hx : inr x 0 q.1
  · obtain ⟨i, hi, rfl⟩ := inr_nat hx (by omega)
    by_cases hy : inr y 0 q.1
    · obtain ⟨j, hj, rfl⟩ := inr_nat hy (by omega)
      rw [ti_nI (by omega), ti_nI (by omega)]
      by_cases hij : i = j
      · rw [if_neg (fun z => z.2.2 hij)]
        exact c_X6_agree4 l D a r k cI cT cN xh xi xr pn pc rd B L q kq b hS hok9 hT i hi j hj hij
      · rw [if_pos ⟨hx, hy, hij⟩]
        exact c_X6_agree5 l D a r k cI cT cN xh xi xr pn pc rd B L q kq b hS hok9 hT i hi j hj hij
    · rw [if_neg (fun z => hy z.2.1)]
      exact c_X6_agree3 l D a r k cI cT cN xh xi xr pn pc rd B L q kq b hS hok9 hT i hi y hy
  · rw [if_neg (fun z => hx z.1)]
    by_cases hy : inr y 0 q.1
    · obtain ⟨j, hj, rfl⟩ := inr_nat hy (by omega)
      exact c_X6_agree2 l D a r k cI cT cN xh xi xr pn pc rd B L q kq b hS hok9 hT x hx j hj
    · exact c_X6_agree1 l D a r k cI cT cN xh xi xr pn pc rd B L q kq b hS hok9 hT x y hx hy

set_option maxHeartbeats 4000000 in
set_option maxRecDepth 100000 in
theorem c_X6_nearX (l : Launch) (D : va_G) (a r k : Nat → Nat) (cI cT cN : ClassId) (xh xi xr pn : Nat) (pc : Nat → Int32) (rd : Nat × Nat × Nat) (B L : Nat → Int32) (q kq : RS) (b : Nat → Nat → Nat) (hS : SR b B L) (hok9 : hok b) (hT : Tok q) (x y w : Int32) (ox : ¬ inr x 0 q.1) : ROi l yX6_near (wA yX6_near cX6_near 5 (some .int)) ({ frames := 4, cells := 0, slots := 0, locals := 101 }) D (cTys cI cT cN) (cW a r k cI cT cN xh xi xr pn pc rd B L q kq) [.ref (a 0), .int x, .int y, .int w] (-101) := by
  refine go_start (by decide) (Nat.le_of_ble_eq_true rfl) ?_
  intro p e s m args below meth c ls F _ hB hl
  obtain ⟨hx, hb, hr, hlocks, hml, hown, hts⟩ := F
  obtain ⟨hP, hK⟩ := hB
  have hown : s.vm.findClass RX6 = some m.cls := hown
  have hl : lv_has ls 5 [(0, .ref (a 0)), (1, .int x), (2, .int y), (3, .int w)] := hl
  have ht5 := hT.1
  have ht8 := hT.2.1
  refine lv_aload_n hx hb dX6_near_0 rfl (lv_at hl 0 rfl) ?_
  refine va_get (D := D) (ci := 6) (v := .ref (r 0)) (C := RX6) (T := TX6) (N := 7) hx hb hts iX6 hown hK hP 0 rfl rfl 2 (by decide) (hts _ mg_153) (fun _ h9 => h9) rfl dX6_near_1 ?_
  refine lv_iload_n hx hb dX6_near_4 rfl (lv_at hl 1 rfl) ?_
  refine ro_qV (n := 1) (As := [.int x]) ⟨hx, hb, hml, hown, hts⟩ (c_X3_tapOut l D r cI cT cN q x (inr_out ox) ht5) (cwV 1 hts (gV mg_290 mg_259 mg_260 mg_5 mg_261) rfl rfl rfl vd_X3_tapAt ⟨Nat.le_of_ble_eq_true rfl, Nat.le_of_ble_eq_true rfl⟩) (va_recv hK hP (ci := 3) (q0 := 7) rfl rfl) hK (cW_r hP) rfl hl.1 rfl (Nat.le_of_ble_eq_true rfl) dX6_near_5 ⟨Nat.zero_le _, Nat.zero_le _⟩ ?_
  refine lv_astoreN (lv' := [(4, .null), (0, .ref (a 0)), (1, .int x), (2, .int y), (3, .int w)]) hx hb dX6_near_8 hl (by decide) rfl (fun ls hl => ?_)
  refine lv_aloadN hx hb dX6_near_10 (lv_at hl 0 rfl) ?_
  refine lv_ifnonnullN hx hb dX6_near_12 ?_
  refine lv_bipush (v := (-101)) hx hb dX6_near_15 (by decide) ?_
  exact ro_iret hx hb hr hlocks (rfl) dX6_near_17

set_option maxHeartbeats 4000000 in
set_option maxRecDepth 100000 in
theorem c_X6_nearY (l : Launch) (D : va_G) (a r k : Nat → Nat) (cI cT cN : ClassId) (xh xi xr pn : Nat) (pc : Nat → Int32) (rd : Nat × Nat × Nat) (B L : Nat → Int32) (q kq : RS) (b : Nat → Nat → Nat) (hS : SR b B L) (hok9 : hok b) (hT : Tok q) (i : Nat) (hi : i < q.1) (y w : Int32) (oy : ¬ inr y 0 4) : ROi l yX6_near (wA yX6_near cX6_near 5 (some .int)) ({ frames := 4, cells := 0, slots := 0, locals := 101 }) D (cTys cI cT cN) (cW a r k cI cT cN xh xi xr pn pc rd B L q kq) [.ref (a 0), .int (nI i), .int y, .int w] (-102) := by
  refine go_start (by decide) (Nat.le_of_ble_eq_true rfl) ?_
  intro p e s m args below meth c ls F _ hB hl
  obtain ⟨hx, hb, hr, hlocks, hml, hown, hts⟩ := F
  obtain ⟨hP, hK⟩ := hB
  have hown : s.vm.findClass RX6 = some m.cls := hown
  have hl : lv_has ls 5 [(0, .ref (a 0)), (1, .int (nI i)), (2, .int y), (3, .int w)] := hl
  have ht5 := hT.1
  have ht8 := hT.2.1
  refine lv_aload_n hx hb dX6_near_0 rfl (lv_at hl 0 rfl) ?_
  refine va_get (D := D) (ci := 6) (v := .ref (r 0)) (C := RX6) (T := TX6) (N := 7) hx hb hts iX6 hown hK hP 0 rfl rfl 2 (by decide) (hts _ mg_153) (fun _ h9 => h9) rfl dX6_near_1 ?_
  refine lv_iload_n hx hb dX6_near_4 rfl (lv_at hl 1 rfl) ?_
  refine ro_qV (n := 1) (As := [.int (nI i)]) ⟨hx, hb, hml, hown, hts⟩ (c_X3_tapAt l D r cI cT cN q i (by omega) ht5) (cwV 1 hts (gV mg_290 mg_259 mg_260 mg_5 mg_261) rfl rfl rfl vd_X3_tapAt ⟨Nat.le_of_ble_eq_true rfl, Nat.le_of_ble_eq_true rfl⟩) (va_recv hK hP (ci := 3) (q0 := 7) rfl rfl) hK (cW_r hP) rfl hl.1 rfl (Nat.le_of_ble_eq_true rfl) dX6_near_5 ⟨Nat.zero_le _, Nat.zero_le _⟩ ?_
  refine lv_astore (lv' := [(4, .ref (r (3 + i))), (0, .ref (a 0)), (1, .int (nI i)), (2, .int y), (3, .int w)]) hx hb dX6_near_8 hl (by decide) rfl (fun ls hl => ?_)
  refine lv_aload hx hb dX6_near_10 (lv_at hl 0 rfl) ?_
  refine lv_ifnonnull (tgt := 18) hx hb dX6_near_12 (by decide) ?_
  refine lv_iload_n hx hb dX6_near_18 rfl (lv_at hl 3 rfl) ?_
  refine ro_iS (n := 1) (As := [.int y]) ⟨hx, hb, hml, hown, hts⟩ (c_X6_isSayingF l D y (inr_out oy)) (cwS 1 hts (gS mg_270 mg_221 mg_1 mg_222) rfl rfl rfl vd_X6_isSaying ⟨Nat.le_of_ble_eq_true rfl, Nat.le_of_ble_eq_true rfl⟩)  (hK.sub [] rfl) (fun k q h => by simp at h) rfl hl.1 rfl (Nat.le_of_ble_eq_true rfl) dX6_near_19 ⟨Nat.zero_le _, Nat.zero_le _⟩ ?_
  refine j_if_eq (tgt := 34) hx hb dX6_near_22 (by decide) (nI_toInt (by decide)) (fun c_1 => ?_) (fun c_1 => absurd c_1 (by omega))
  refine lv_bipush (v := (-102)) hx hb dX6_near_34 (by decide) ?_
  exact ro_iret hx hb hr hlocks (rfl) dX6_near_36

set_option maxHeartbeats 4000000 in
set_option maxRecDepth 100000 in
theorem c_X6_nearO (l : Launch) (D : va_G) (a r k : Nat → Nat) (cI cT cN : ClassId) (xh xi xr pn : Nat) (pc : Nat → Int32) (rd : Nat × Nat × Nat) (B L : Nat → Int32) (q kq : RS) (b : Nat → Nat → Nat) (hS : SR b B L) (hok9 : hok b) (hT : Tok q) (i : Nat) (hi : i < q.1) (v : Nat) (hv : v < 4) (w : Int32) (ow : ¬ inr w 0 2) : ROi l yX6_near (wA yX6_near cX6_near 5 (some .int)) ({ frames := 4, cells := 0, slots := 0, locals := 101 }) D (cTys cI cT cN) (cW a r k cI cT cN xh xi xr pn pc rd B L q kq) [.ref (a 0), .int (nI i), .int (nI v), .int w] (-102) := by
  refine go_start (by decide) (Nat.le_of_ble_eq_true rfl) ?_
  intro p e s m args below meth c ls F _ hB hl
  obtain ⟨hx, hb, hr, hlocks, hml, hown, hts⟩ := F
  obtain ⟨hP, hK⟩ := hB
  have hown : s.vm.findClass RX6 = some m.cls := hown
  have hl : lv_has ls 5 [(0, .ref (a 0)), (1, .int (nI i)), (2, .int (nI v)), (3, .int w)] := hl
  have ht5 := hT.1
  have ht8 := hT.2.1
  have hw7 := inr_out ow
  refine lv_aload_n hx hb dX6_near_0 rfl (lv_at hl 0 rfl) ?_
  refine va_get (D := D) (ci := 6) (v := .ref (r 0)) (C := RX6) (T := TX6) (N := 7) hx hb hts iX6 hown hK hP 0 rfl rfl 2 (by decide) (hts _ mg_153) (fun _ h9 => h9) rfl dX6_near_1 ?_
  refine lv_iload_n hx hb dX6_near_4 rfl (lv_at hl 1 rfl) ?_
  refine ro_qV (n := 1) (As := [.int (nI i)]) ⟨hx, hb, hml, hown, hts⟩ (c_X3_tapAt l D r cI cT cN q i (by omega) ht5) (cwV 1 hts (gV mg_290 mg_259 mg_260 mg_5 mg_261) rfl rfl rfl vd_X3_tapAt ⟨Nat.le_of_ble_eq_true rfl, Nat.le_of_ble_eq_true rfl⟩) (va_recv hK hP (ci := 3) (q0 := 7) rfl rfl) hK (cW_r hP) rfl hl.1 rfl (Nat.le_of_ble_eq_true rfl) dX6_near_5 ⟨Nat.zero_le _, Nat.zero_le _⟩ ?_
  refine lv_astore (lv' := [(4, .ref (r (3 + i))), (0, .ref (a 0)), (1, .int (nI i)), (2, .int (nI v)), (3, .int w)]) hx hb dX6_near_8 hl (by decide) rfl (fun ls hl => ?_)
  refine lv_aload hx hb dX6_near_10 (lv_at hl 0 rfl) ?_
  refine lv_ifnonnull (tgt := 18) hx hb dX6_near_12 (by decide) ?_
  refine lv_iload_n hx hb dX6_near_18 rfl (lv_at hl 3 rfl) ?_
  refine ro_iS (n := 1) (As := [.int (nI v)]) ⟨hx, hb, hml, hown, hts⟩ (c_X6_isSayingT l D (nI v) (by rw [nI_toInt (by omega)]; omega)) (cwS 1 hts (gS mg_270 mg_221 mg_1 mg_222) rfl rfl rfl vd_X6_isSaying ⟨Nat.le_of_ble_eq_true rfl, Nat.le_of_ble_eq_true rfl⟩)  (hK.sub [] rfl) (fun k q h => by simp at h) rfl hl.1 rfl (Nat.le_of_ble_eq_true rfl) dX6_near_19 ⟨Nat.zero_le _, Nat.zero_le _⟩ ?_
  refine j_if_eq (tgt := 34) hx hb dX6_near_22 (by decide) (nI_toInt (by decide)) (fun c_1 => absurd c_1 (by omega)) (fun c_1 => ?_)
  refine lv_iload_n hx hb dX6_near_25 rfl (lv_at hl 4 rfl) ?_
  refine j_if_lt (tgt := 34) hx hb dX6_near_26 (by decide) rfl (fun c_2 => ?_) (fun c_2 => ?_)
  · refine lv_bipush (v := (-102)) hx hb dX6_near_34 (by decide) ?_
    exact ro_iret hx hb hr hlocks (rfl) dX6_near_36
  · refine lv_iload_n hx hb dX6_near_29 rfl (lv_at hl 4 rfl) ?_
    refine lv_iconst (v := nI 1) hx hb dX6_near_30 (by decide) ?_
    refine j_icmp_le (tgt := 37) hx hb dX6_near_31 (by decide) rfl (nI_toInt (by decide)) (fun c_3 => absurd c_3 (by omega)) (fun c_3 => ?_)
    refine lv_bipush (v := (-102)) hx hb dX6_near_34 (by decide) ?_
    exact ro_iret hx hb hr hlocks (rfl) dX6_near_36

set_option maxHeartbeats 4000000 in
set_option maxRecDepth 100000 in
theorem c_X6_nearI (l : Launch) (D : va_G) (a r k : Nat → Nat) (cI cT cN : ClassId) (xh xi xr pn : Nat) (pc : Nat → Int32) (rd : Nat × Nat × Nat) (B L : Nat → Int32) (q kq : RS) (b : Nat → Nat → Nat) (hS : SR b B L) (hok9 : hok b) (hT : Tok q) (i : Nat) (hi : i < q.1) (v : Nat) (hv : v < 4) (w : Nat) (hw : w < 2) : ROi l yX6_near (wA yX6_near cX6_near 5 (some .int)) ({ frames := 4, cells := 0, slots := 0, locals := 101 }) D (cTys cI cT cN) (cW a r k cI cT cN xh xi xr pn pc rd B L q kq) [.ref (a 0), .int (nI i), .int (nI v), .int (nI w)] (nI (ner b (q.2.2.2.1 i 0) (q.2.2.2.1 i 1) v w)) := by
  refine go_start (by decide) (Nat.le_of_ble_eq_true rfl) ?_
  intro p e s m args below meth c ls F _ hB hl
  obtain ⟨hx, hb, hr, hlocks, hml, hown, hts⟩ := F
  obtain ⟨hP, hK⟩ := hB
  have hown : s.vm.findClass RX6 = some m.cls := hown
  have hl : lv_has ls 5 [(0, .ref (a 0)), (1, .int (nI i)), (2, .int (nI v)), (3, .int (nI w))] := hl
  have ht5 := hT.1
  have ht8 := hT.2.1
  refine lv_aload_n hx hb dX6_near_0 rfl (lv_at hl 0 rfl) ?_
  refine va_get (D := D) (ci := 6) (v := .ref (r 0)) (C := RX6) (T := TX6) (N := 7) hx hb hts iX6 hown hK hP 0 rfl rfl 2 (by decide) (hts _ mg_153) (fun _ h9 => h9) rfl dX6_near_1 ?_
  refine lv_iload_n hx hb dX6_near_4 rfl (lv_at hl 1 rfl) ?_
  refine ro_qV (n := 1) (As := [.int (nI i)]) ⟨hx, hb, hml, hown, hts⟩ (c_X3_tapAt l D r cI cT cN q i (by omega) ht5) (cwV 1 hts (gV mg_290 mg_259 mg_260 mg_5 mg_261) rfl rfl rfl vd_X3_tapAt ⟨Nat.le_of_ble_eq_true rfl, Nat.le_of_ble_eq_true rfl⟩) (va_recv hK hP (ci := 3) (q0 := 7) rfl rfl) hK (cW_r hP) rfl hl.1 rfl (Nat.le_of_ble_eq_true rfl) dX6_near_5 ⟨Nat.zero_le _, Nat.zero_le _⟩ ?_
  refine lv_astore (lv' := [(4, .ref (r (3 + i))), (0, .ref (a 0)), (1, .int (nI i)), (2, .int (nI v)), (3, .int (nI w))]) hx hb dX6_near_8 hl (by decide) rfl (fun ls hl => ?_)
  refine lv_aload hx hb dX6_near_10 (lv_at hl 0 rfl) ?_
  refine lv_ifnonnull (tgt := 18) hx hb dX6_near_12 (by decide) ?_
  refine lv_iload_n hx hb dX6_near_18 rfl (lv_at hl 3 rfl) ?_
  refine ro_iS (n := 1) (As := [.int (nI v)]) ⟨hx, hb, hml, hown, hts⟩ (c_X6_isSayingT l D (nI v) (by rw [nI_toInt (by omega)]; omega)) (cwS 1 hts (gS mg_270 mg_221 mg_1 mg_222) rfl rfl rfl vd_X6_isSaying ⟨Nat.le_of_ble_eq_true rfl, Nat.le_of_ble_eq_true rfl⟩)  (hK.sub [] rfl) (fun k q h => by simp at h) rfl hl.1 rfl (Nat.le_of_ble_eq_true rfl) dX6_near_19 ⟨Nat.zero_le _, Nat.zero_le _⟩ ?_
  refine j_if_eq (tgt := 34) hx hb dX6_near_22 (by decide) (nI_toInt (by decide)) (fun c_1 => absurd c_1 (by omega)) (fun c_1 => ?_)
  refine lv_iload_n hx hb dX6_near_25 rfl (lv_at hl 4 rfl) ?_
  refine j_if_lt (tgt := 34) hx hb dX6_near_26 (by decide) (nI_toInt (by omega)) (fun c_2 => absurd c_2 (by omega)) (fun c_2 => ?_)
  refine lv_iload_n hx hb dX6_near_29 rfl (lv_at hl 4 rfl) ?_
  refine lv_iconst (v := nI 1) hx hb dX6_near_30 (by decide) ?_
  refine j_icmp_le (tgt := 37) hx hb dX6_near_31 (by decide) (nI_toInt (by omega)) (nI_toInt (by decide)) (fun c_3 => ?_) (fun c_3 => absurd c_3 (by omega))
  refine lv_aload_n hx hb dX6_near_37 rfl (lv_at hl 1 rfl) ?_
  refine lv_aload hx hb dX6_near_38 (lv_at hl 0 rfl) ?_
  refine lv_iload_n hx hb dX6_near_40 rfl (lv_at hl 3 rfl) ?_
  refine lv_iload_n hx hb dX6_near_41 rfl (lv_at hl 4 rfl) ?_
  refine ro_iV (n := 3) (As := [.ref (r (3 + i)), .int (nI v), .int (nI w)]) ⟨hx, hb, hml, hown, hts⟩ (c_X6_nearOf l D a r k cI cT cN xh xi xr pn pc rd B L q kq b hS hok9 hT i hi v hv w hw) (cwV 3 hts (gV mg_368 mg_370 mg_1012 mg_1 mg_371) rfl rfl rfl vd_X6_nearOf ⟨Nat.le_of_ble_eq_true rfl, Nat.le_of_ble_eq_true rfl⟩) (va_recv hK hP (ci := 6) (q0 := 0) rfl rfl) hK hP rfl hl.1 rfl (Nat.le_of_ble_eq_true rfl) dX6_near_42 ⟨Nat.zero_le _, Nat.zero_le _⟩ ?_
  exact ro_iret hx hb hr hlocks (rfl) dX6_near_45

theorem c_X6_near (l : Launch) (D : va_G) (a r k : Nat → Nat) (cI cT cN : ClassId) (xh xi xr pn : Nat) (pc : Nat → Int32) (rd : Nat × Nat × Nat) (B L : Nat → Int32) (q kq : RS) (b : Nat → Nat → Nat) (hS : SR b B L) (hok9 : hok b) (hT : Tok q) (x y w : Int32) : ROi l yX6_near (wA yX6_near cX6_near 5 (some .int)) ({ frames := 4, cells := 0, slots := 0, locals := 101 }) D (cTys cI cT cN) (cW a r k cI cT cN xh xi xr pn pc rd B L q kq) [.ref (a 0), .int x, .int y, .int w] (sp_near b q x y w) := by
  unfold sp_near
  have h5 := hT.1
  by_cases hx : inr x 0 q.1
  · obtain ⟨i, hi, rfl⟩ := inr_nat hx (by omega)
    rw [if_pos hx, ti_nI (by omega)]
    by_cases hy : inr y 0 4
    · obtain ⟨v, hv, rfl⟩ := inr_nat (n := 4) hy (by decide)
      by_cases hw : inr w 0 2
      · obtain ⟨j, hj, rfl⟩ := inr_nat (n := 2) hw (by decide)
        rw [if_pos ⟨hy, hw⟩, ti_nI (by omega), ti_nI (by omega)]
        exact c_X6_nearI l D a r k cI cT cN xh xi xr pn pc rd B L q kq b hS hok9 hT i hi v hv j hj
      · rw [if_neg (fun z => hw z.2)]
        exact c_X6_nearO l D a r k cI cT cN xh xi xr pn pc rd B L q kq b hS hok9 hT i hi v hv w hw
    · rw [if_neg (fun z => hy z.1)]
      exact c_X6_nearY l D a r k cI cT cN xh xi xr pn pc rd B L q kq b hS hok9 hT i hi y w hy
  · rw [if_neg hx]
    exact c_X6_nearX l D a r k cI cT cN xh xi xr pn pc rd B L q kq b hS hok9 hT x y w hx

set_option maxHeartbeats 4000000 in
set_option maxRecDepth 100000 in
theorem c_X6_saying0 (l : Launch) (D : va_G) (a r k : Nat → Nat) (cI cT cN : ClassId) (xi xr pn : Nat) (pc : Nat → Int32) (rd : Nat × Nat × Nat) (B L : Nat → Int32) (q kq : RS) (b : Nat → Nat → Nat) (hS : SR b B L) (x w : Int32) : ROi l yX6_saying (wA yX6_saying cX6_saying 3 (some .int)) ({ frames := 1, cells := 0, slots := 0, locals := 23 }) D (cTys cI cT cN) (cW a r k cI cT cN 0 xi xr pn pc rd B L q kq) [.ref (a 0), .int x, .int w] (-101) := by
  refine go_start (by decide) (Nat.le_of_ble_eq_true rfl) ?_
  intro p e s m args below meth c ls F _ hB hl
  obtain ⟨hx, hb, hr, hlocks, hml, hown, hts⟩ := F
  obtain ⟨hP, hK⟩ := hB
  have hown : s.vm.findClass RX6 = some m.cls := hown
  have hl : lv_has ls 3 [(0, .ref (a 0)), (1, .int x), (2, .int w)] := hl
  refine lv_aload_n hx hb dX6_saying_0 rfl (lv_at hl 0 rfl) ?_
  refine va_get (D := D) (ci := 6) (v := .int (nI 0)) (C := RX6) (T := TX6) (N := 7) hx hb hts iX6 hown hK hP 0 rfl rfl 4 (by decide) (hts _ mg_155) (fun _ h9 => h9) rfl dX6_saying_1 ?_
  refine j_if_eq (tgt := 14) hx hb dX6_saying_4 (by decide) (nI_toInt (by decide)) (fun c_1 => ?_) (fun c_1 => absurd c_1 (by omega))
  refine lv_bipush (v := (-101)) hx hb dX6_saying_14 (by decide) ?_
  exact ro_iret hx hb hr hlocks (rfl) dX6_saying_16

set_option maxHeartbeats 4000000 in
set_option maxRecDepth 100000 in
theorem c_X6_sayingX (l : Launch) (D : va_G) (a r k : Nat → Nat) (cI cT cN : ClassId) (xi xr pn : Nat) (pc : Nat → Int32) (rd : Nat × Nat × Nat) (B L : Nat → Int32) (q kq : RS) (b : Nat → Nat → Nat) (hS : SR b B L) (x w : Int32) (ox : ¬ inr x 0 4) : ROi l yX6_saying (wA yX6_saying cX6_saying 3 (some .int)) ({ frames := 1, cells := 0, slots := 0, locals := 23 }) D (cTys cI cT cN) (cW a r k cI cT cN 1 xi xr pn pc rd B L q kq) [.ref (a 0), .int x, .int w] (-101) := by
  refine go_start (by decide) (Nat.le_of_ble_eq_true rfl) ?_
  intro p e s m args below meth c ls F _ hB hl
  obtain ⟨hx, hb, hr, hlocks, hml, hown, hts⟩ := F
  obtain ⟨hP, hK⟩ := hB
  have hown : s.vm.findClass RX6 = some m.cls := hown
  have hl : lv_has ls 3 [(0, .ref (a 0)), (1, .int x), (2, .int w)] := hl
  refine lv_aload_n hx hb dX6_saying_0 rfl (lv_at hl 0 rfl) ?_
  refine va_get (D := D) (ci := 6) (v := .int (nI 1)) (C := RX6) (T := TX6) (N := 7) hx hb hts iX6 hown hK hP 0 rfl rfl 4 (by decide) (hts _ mg_155) (fun _ h9 => h9) rfl dX6_saying_1 ?_
  refine j_if_eq (tgt := 14) hx hb dX6_saying_4 (by decide) (nI_toInt (by decide)) (fun c_1 => absurd c_1 (by omega)) (fun c_1 => ?_)
  refine lv_iload_n hx hb dX6_saying_7 rfl (lv_at hl 1 rfl) ?_
  refine ro_iS (n := 1) (As := [.int x]) ⟨hx, hb, hml, hown, hts⟩ (c_X6_isSayingF l D x (inr_out ox)) (cwS 1 hts (gS mg_270 mg_221 mg_1 mg_222) rfl rfl rfl vd_X6_isSaying ⟨Nat.le_of_ble_eq_true rfl, Nat.le_of_ble_eq_true rfl⟩)  (hK.sub [] rfl) (fun k q h => by simp at h) rfl hl.1 rfl (Nat.le_of_ble_eq_true rfl) dX6_saying_8 ⟨Nat.zero_le _, Nat.zero_le _⟩ ?_
  refine j_if_ne (tgt := 17) hx hb dX6_saying_11 (by decide) (nI_toInt (by decide)) (fun c_2 => absurd c_2 (by omega)) (fun c_2 => ?_)
  refine lv_bipush (v := (-101)) hx hb dX6_saying_14 (by decide) ?_
  exact ro_iret hx hb hr hlocks (rfl) dX6_saying_16

set_option maxHeartbeats 4000000 in
set_option maxRecDepth 100000 in
theorem c_X6_sayingL (l : Launch) (D : va_G) (a r k : Nat → Nat) (cI cT cN : ClassId) (xi xr pn : Nat) (pc : Nat → Int32) (rd : Nat × Nat × Nat) (B L : Nat → Int32) (q kq : RS) (b : Nat → Nat → Nat) (hS : SR b B L) (v : Nat) (hv : v < 4) : ROi l yX6_saying (wA yX6_saying cX6_saying 3 (some .int)) ({ frames := 1, cells := 0, slots := 0, locals := 23 }) D (cTys cI cT cN) (cW a r k cI cT cN 1 xi xr pn pc rd B L q kq) [.ref (a 0), .int (nI v), .int (nI 0)] (nI (b v 0)) := by
  refine go_start (by decide) (Nat.le_of_ble_eq_true rfl) ?_
  intro p e s m args below meth c ls F _ hB hl
  obtain ⟨hx, hb, hr, hlocks, hml, hown, hts⟩ := F
  obtain ⟨hP, hK⟩ := hB
  have hown : s.vm.findClass RX6 = some m.cls := hown
  have hl : lv_has ls 3 [(0, .ref (a 0)), (1, .int (nI v)), (2, .int (nI 0))] := hl
  refine lv_aload_n hx hb dX6_saying_0 rfl (lv_at hl 0 rfl) ?_
  refine va_get (D := D) (ci := 6) (v := .int (nI 1)) (C := RX6) (T := TX6) (N := 7) hx hb hts iX6 hown hK hP 0 rfl rfl 4 (by decide) (hts _ mg_155) (fun _ h9 => h9) rfl dX6_saying_1 ?_
  refine j_if_eq (tgt := 14) hx hb dX6_saying_4 (by decide) (nI_toInt (by decide)) (fun c_1 => absurd c_1 (by omega)) (fun c_1 => ?_)
  refine lv_iload_n hx hb dX6_saying_7 rfl (lv_at hl 1 rfl) ?_
  refine ro_iS (n := 1) (As := [.int (nI v)]) ⟨hx, hb, hml, hown, hts⟩ (c_X6_isSayingT l D (nI v) (by rw [nI_toInt (by omega)]; omega)) (cwS 1 hts (gS mg_270 mg_221 mg_1 mg_222) rfl rfl rfl vd_X6_isSaying ⟨Nat.le_of_ble_eq_true rfl, Nat.le_of_ble_eq_true rfl⟩)  (hK.sub [] rfl) (fun k q h => by simp at h) rfl hl.1 rfl (Nat.le_of_ble_eq_true rfl) dX6_saying_8 ⟨Nat.zero_le _, Nat.zero_le _⟩ ?_
  refine j_if_ne (tgt := 17) hx hb dX6_saying_11 (by decide) (nI_toInt (by decide)) (fun c_2 => ?_) (fun c_2 => absurd c_2 (by omega))
  refine lv_iload_n hx hb dX6_saying_17 rfl (lv_at hl 2 rfl) ?_
  refine j_if_ne (tgt := 30) hx hb dX6_saying_18 (by decide) (nI_toInt (by decide)) (fun c_3 => absurd c_3 (by omega)) (fun c_3 => ?_)
  refine lv_aload_n hx hb dX6_saying_21 rfl (lv_at hl 0 rfl) ?_
  refine va_get (D := D) (ci := 6) (v := .ref (a 4)) (C := RX6) (T := TX6) (N := 7) hx hb hts iX6 hown hK hP 0 rfl rfl 1 (by decide) (hts _ mg_152) (fun _ h9 => h9) rfl dX6_saying_22 ?_
  refine lv_iload_n hx hb dX6_saying_25 rfl (lv_at hl 1 rfl) ?_
  refine ro_iV (n := 1) (As := [.int (nI v)]) ⟨hx, hb, hml, hown, hts⟩ (c_X4_lengthOf l D a cI cT cN B L b hS v hv) (cwV 1 hts (gV mg_271 mg_272 mg_273 mg_4 mg_274) rfl rfl rfl vd_X4_lengthOf ⟨Nat.le_of_ble_eq_true rfl, Nat.le_of_ble_eq_true rfl⟩) (va_recv hK hP (ci := 4) (q0 := 4) rfl rfl) hK (cW_s hP) rfl hl.1 rfl (Nat.le_of_ble_eq_true rfl) dX6_saying_26 ⟨Nat.zero_le _, Nat.zero_le _⟩ ?_
  exact ro_iret hx hb hr hlocks (rfl) dX6_saying_29

set_option maxHeartbeats 4000000 in
set_option maxRecDepth 100000 in
theorem c_X6_sayingO (l : Launch) (D : va_G) (a r k : Nat → Nat) (cI cT cN : ClassId) (xi xr pn : Nat) (pc : Nat → Int32) (rd : Nat × Nat × Nat) (B L : Nat → Int32) (q kq : RS) (b : Nat → Nat → Nat) (hS : SR b B L) (v : Nat) (hv : v < 4) (w : Int32) (hw0 : ¬ w.toInt = 0) (ow : ¬ inr w 10 14) : ROi l yX6_saying (wA yX6_saying cX6_saying 3 (some .int)) ({ frames := 1, cells := 0, slots := 0, locals := 23 }) D (cTys cI cT cN) (cW a r k cI cT cN 1 xi xr pn pc rd B L q kq) [.ref (a 0), .int (nI v), .int w] (-102) := by
  refine go_start (by decide) (Nat.le_of_ble_eq_true rfl) ?_
  intro p e s m args below meth c ls F _ hB hl
  obtain ⟨hx, hb, hr, hlocks, hml, hown, hts⟩ := F
  obtain ⟨hP, hK⟩ := hB
  have hown : s.vm.findClass RX6 = some m.cls := hown
  have hl : lv_has ls 3 [(0, .ref (a 0)), (1, .int (nI v)), (2, .int w)] := hl
  have hw7 := inr_out ow
  refine lv_aload_n hx hb dX6_saying_0 rfl (lv_at hl 0 rfl) ?_
  refine va_get (D := D) (ci := 6) (v := .int (nI 1)) (C := RX6) (T := TX6) (N := 7) hx hb hts iX6 hown hK hP 0 rfl rfl 4 (by decide) (hts _ mg_155) (fun _ h9 => h9) rfl dX6_saying_1 ?_
  refine j_if_eq (tgt := 14) hx hb dX6_saying_4 (by decide) (nI_toInt (by decide)) (fun c_1 => absurd c_1 (by omega)) (fun c_1 => ?_)
  refine lv_iload_n hx hb dX6_saying_7 rfl (lv_at hl 1 rfl) ?_
  refine ro_iS (n := 1) (As := [.int (nI v)]) ⟨hx, hb, hml, hown, hts⟩ (c_X6_isSayingT l D (nI v) (by rw [nI_toInt (by omega)]; omega)) (cwS 1 hts (gS mg_270 mg_221 mg_1 mg_222) rfl rfl rfl vd_X6_isSaying ⟨Nat.le_of_ble_eq_true rfl, Nat.le_of_ble_eq_true rfl⟩)  (hK.sub [] rfl) (fun k q h => by simp at h) rfl hl.1 rfl (Nat.le_of_ble_eq_true rfl) dX6_saying_8 ⟨Nat.zero_le _, Nat.zero_le _⟩ ?_
  refine j_if_ne (tgt := 17) hx hb dX6_saying_11 (by decide) (nI_toInt (by decide)) (fun c_2 => ?_) (fun c_2 => absurd c_2 (by omega))
  refine lv_iload_n hx hb dX6_saying_17 rfl (lv_at hl 2 rfl) ?_
  refine j_if_ne (tgt := 30) hx hb dX6_saying_18 (by decide) rfl (fun c_3 => ?_) (fun c_3 => absurd c_3 (by omega))
  refine lv_iload_n hx hb dX6_saying_30 rfl (lv_at hl 2 rfl) ?_
  refine lv_bipush (v := nI 10) hx hb dX6_saying_31 (by decide) ?_
  refine j_icmp_lt (tgt := 42) hx hb dX6_saying_33 (by decide) rfl (nI_toInt (by decide)) (fun c_4 => ?_) (fun c_4 => ?_)
  · refine lv_bipush (v := (-102)) hx hb dX6_saying_42 (by decide) ?_
    exact ro_iret hx hb hr hlocks (rfl) dX6_saying_44
  · refine lv_iload_n hx hb dX6_saying_36 rfl (lv_at hl 2 rfl) ?_
    refine lv_bipush (v := nI 14) hx hb dX6_saying_37 (by decide) ?_
    refine j_icmp_lt (tgt := 45) hx hb dX6_saying_39 (by decide) rfl (nI_toInt (by decide)) (fun c_5 => absurd c_5 (by omega)) (fun c_5 => ?_)
    refine lv_bipush (v := (-102)) hx hb dX6_saying_42 (by decide) ?_
    exact ro_iret hx hb hr hlocks (rfl) dX6_saying_44

set_option maxHeartbeats 4000000 in
set_option maxRecDepth 100000 in
theorem c_X6_sayingI (l : Launch) (D : va_G) (a r k : Nat → Nat) (cI cT cN : ClassId) (xi xr pn : Nat) (pc : Nat → Int32) (rd : Nat × Nat × Nat) (B L : Nat → Int32) (q kq : RS) (b : Nat → Nat → Nat) (hS : SR b B L) (v : Nat) (hv : v < 4) (j : Nat) (hj : j < 4) : ROi l yX6_saying (wA yX6_saying cX6_saying 3 (some .int)) ({ frames := 1, cells := 0, slots := 0, locals := 23 }) D (cTys cI cT cN) (cW a r k cI cT cN 1 xi xr pn pc rd B L q kq) [.ref (a 0), .int (nI v), .int (nI (10 + j))] (bta b v j) := by
  refine go_start (by decide) (Nat.le_of_ble_eq_true rfl) ?_
  intro p e s m args below meth c ls F _ hB hl
  obtain ⟨hx, hb, hr, hlocks, hml, hown, hts⟩ := F
  obtain ⟨hP, hK⟩ := hB
  have hown : s.vm.findClass RX6 = some m.cls := hown
  have hl : lv_has ls 3 [(0, .ref (a 0)), (1, .int (nI v)), (2, .int (nI (10 + j)))] := hl
  refine lv_aload_n hx hb dX6_saying_0 rfl (lv_at hl 0 rfl) ?_
  refine va_get (D := D) (ci := 6) (v := .int (nI 1)) (C := RX6) (T := TX6) (N := 7) hx hb hts iX6 hown hK hP 0 rfl rfl 4 (by decide) (hts _ mg_155) (fun _ h9 => h9) rfl dX6_saying_1 ?_
  refine j_if_eq (tgt := 14) hx hb dX6_saying_4 (by decide) (nI_toInt (by decide)) (fun c_1 => absurd c_1 (by omega)) (fun c_1 => ?_)
  refine lv_iload_n hx hb dX6_saying_7 rfl (lv_at hl 1 rfl) ?_
  refine ro_iS (n := 1) (As := [.int (nI v)]) ⟨hx, hb, hml, hown, hts⟩ (c_X6_isSayingT l D (nI v) (by rw [nI_toInt (by omega)]; omega)) (cwS 1 hts (gS mg_270 mg_221 mg_1 mg_222) rfl rfl rfl vd_X6_isSaying ⟨Nat.le_of_ble_eq_true rfl, Nat.le_of_ble_eq_true rfl⟩)  (hK.sub [] rfl) (fun k q h => by simp at h) rfl hl.1 rfl (Nat.le_of_ble_eq_true rfl) dX6_saying_8 ⟨Nat.zero_le _, Nat.zero_le _⟩ ?_
  refine j_if_ne (tgt := 17) hx hb dX6_saying_11 (by decide) (nI_toInt (by decide)) (fun c_2 => ?_) (fun c_2 => absurd c_2 (by omega))
  refine lv_iload_n hx hb dX6_saying_17 rfl (lv_at hl 2 rfl) ?_
  refine j_if_ne (tgt := 30) hx hb dX6_saying_18 (by decide) (nI_toInt (by omega)) (fun c_3 => ?_) (fun c_3 => absurd c_3 (by omega))
  refine lv_iload_n hx hb dX6_saying_30 rfl (lv_at hl 2 rfl) ?_
  refine lv_bipush (v := nI 10) hx hb dX6_saying_31 (by decide) ?_
  refine j_icmp_lt (tgt := 42) hx hb dX6_saying_33 (by decide) (nI_toInt (by omega)) (nI_toInt (by decide)) (fun c_4 => absurd c_4 (by omega)) (fun c_4 => ?_)
  refine lv_iload_n hx hb dX6_saying_36 rfl (lv_at hl 2 rfl) ?_
  refine lv_bipush (v := nI 14) hx hb dX6_saying_37 (by decide) ?_
  refine j_icmp_lt (tgt := 45) hx hb dX6_saying_39 (by decide) (nI_toInt (by omega)) (nI_toInt (by decide)) (fun c_5 => ?_) (fun c_5 => absurd c_5 (by omega))
  refine lv_aload_n hx hb dX6_saying_45 rfl (lv_at hl 0 rfl) ?_
  refine va_get (D := D) (ci := 6) (v := .ref (a 4)) (C := RX6) (T := TX6) (N := 7) hx hb hts iX6 hown hK hP 0 rfl rfl 1 (by decide) (hts _ mg_152) (fun _ h9 => h9) rfl dX6_saying_46 ?_
  refine lv_iload_n hx hb dX6_saying_49 rfl (lv_at hl 1 rfl) ?_
  refine lv_iload_n hx hb dX6_saying_50 rfl (lv_at hl 2 rfl) ?_
  refine lv_bipush (v := nI 10) hx hb dX6_saying_51 (by decide) ?_
  refine n_isub hx hb dX6_saying_53 (by omega) ?_
  refine ro_iV (n := 2) (As := [.int (nI v), .int (nI ((10 + j) - 10))]) ⟨hx, hb, hml, hown, hts⟩ (c_X4_beatOf l D a cI cT cN B L v (10 + j - 10) hv (by omega)) (cwV 2 hts (gV mg_275 mg_276 mg_277 mg_4 mg_278) rfl rfl rfl vd_X4_beatOf ⟨Nat.le_of_ble_eq_true rfl, Nat.le_of_ble_eq_true rfl⟩) (va_recv hK hP (ci := 4) (q0 := 4) rfl rfl) hK (cW_s hP) rfl hl.1 rfl (Nat.le_of_ble_eq_true rfl) dX6_saying_54 ⟨Nat.zero_le _, Nat.zero_le _⟩ ?_
  exact ro_iret hx hb hr hlocks (by rw [Nat.add_sub_cancel_left]; exact (hS v hv).2 j hj) dX6_saying_57

theorem c_X6_saying (l : Launch) (D : va_G) (a r k : Nat → Nat) (cI cT cN : ClassId) (xh xi xr pn : Nat) (pc : Nat → Int32) (rd : Nat × Nat × Nat) (B L : Nat → Int32) (q kq : RS) (b : Nat → Nat → Nat) (hS : SR b B L) (hH : xh = if q.1 = 0 then 0 else 1) (x w : Int32) : ROi l yX6_saying (wA yX6_saying cX6_saying 3 (some .int)) ({ frames := 1, cells := 0, slots := 0, locals := 23 }) D (cTys cI cT cN) (cW a r k cI cT cN xh xi xr pn pc rd B L q kq) [.ref (a 0), .int x, .int w] (sp_saying b q.1 x w) := by
  unfold sp_saying
  by_cases h0 : q.1 = 0
  · rw [if_pos h0] at hH
    subst hH
    rw [if_neg (fun z => z.1 h0)]
    exact c_X6_saying0 l D a r k cI cT cN xi xr pn pc rd B L q kq b hS x w
  · rw [if_neg h0] at hH
    subst hH
    by_cases hx : inr x 0 4
    · obtain ⟨v, hv, rfl⟩ := inr_nat (n := 4) hx (by decide)
      rw [if_pos ⟨h0, hx⟩, ti_nI (by omega)]
      by_cases hw0 : w.toInt = 0
      · rw [if_pos hw0]
        have hw1 : w = nI 0 := Int32.toInt_inj.mp hw0
        subst hw1
        exact c_X6_sayingL l D a r k cI cT cN xi xr pn pc rd B L q kq b hS v hv
      · rw [if_neg hw0]
        by_cases hw : inr w 10 14
        · obtain ⟨j, hj, rfl⟩ : ∃ j : Nat, j < 14 ∧ w = nI j := inr_nat (n := 14) ⟨by have := hw.1; omega, hw.2⟩ (by decide)
          have h10 : 10 ≤ j := by have := hw.1; rw [nI_toInt (by omega)] at this; omega
          rw [if_pos hw, ti_nI (by omega)]
          have := c_X6_sayingI l D a r k cI cT cN xi xr pn pc rd B L q kq b hS v hv (j - 10) (by omega)
          rw [show 10 + (j - 10) = j by omega] at this
          exact this
        · rw [if_neg hw]
          exact c_X6_sayingO l D a r k cI cT cN xi xr pn pc rd B L q kq b hS v hv w hw0 hw
    · rw [if_neg (fun z => hx z.2)]
      exact c_X6_sayingX l D a r k cI cT cN xi xr pn pc rd B L q kq b hS x w hx
end
