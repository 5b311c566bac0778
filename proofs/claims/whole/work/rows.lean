section
-- ===== PART A: goes FIRST, ahead of the names: the tables' words, and 'selects' of the private methods out of them =====
/-- a private method of a class that the tables say can be made, by its rows of tables_1 -/
def lw_okq (q : MethodName × Nat) : Prop := (q.1.cls ≠ "java/lang/invoke/MethodHandle" ∧ q.1.cls ≠ "java/lang/invoke/VarHandle") ∧ Cond.instantiable q.1.cls q.2 ∈ tables_1 ∧ Cond.privateMethod q.1 ∈ tables_1 ∧ Cond.instanceMethod q.1 ∈ tables_1
theorem lw_p0 : lw_okq (⟨"DripSayings$Reader", "takesInSaying", "(I)Z"⟩, 3) := ⟨⟨by decide +kernel, by decide +kernel⟩, List.mem_of_getElem? (i := 25) (by decide +kernel), List.mem_of_getElem? (i := 210) (by decide +kernel), List.mem_of_getElem? (i := 211) (by decide +kernel)⟩
theorem lw_p1 : lw_okq (⟨"DripSayings$Reader", "takesInTap", "(I)Z"⟩, 3) := ⟨⟨by decide +kernel, by decide +kernel⟩, List.mem_of_getElem? (i := 25) (by decide +kernel), List.mem_of_getElem? (i := 214) (by decide +kernel), List.mem_of_getElem? (i := 215) (by decide +kernel)⟩
theorem lw_p2 : lw_okq (⟨"DripSayings", "readPage", "()V"⟩, 7) := ⟨⟨by decide +kernel, by decide +kernel⟩, List.mem_of_getElem? (i := 11) (by decide +kernel), List.mem_of_getElem? (i := 245) (by decide +kernel), List.mem_of_getElem? (i := 246) (by decide +kernel)⟩
theorem lw_p3 : lw_okq (⟨"DripSayings", "aboutOf", "(LDripSayings$Tap;I)I"⟩, 7) := ⟨⟨by decide +kernel, by decide +kernel⟩, List.mem_of_getElem? (i := 11) (by decide +kernel), List.mem_of_getElem? (i := 292) (by decide +kernel), List.mem_of_getElem? (i := 293) (by decide +kernel)⟩
theorem lw_p4 : lw_okq (⟨"DripSayings", "sureOf", "(LDripSayings$Tap;)I"⟩, 7) := ⟨⟨by decide +kernel, by decide +kernel⟩, List.mem_of_getElem? (i := 11) (by decide +kernel), List.mem_of_getElem? (i := 296) (by decide +kernel), List.mem_of_getElem? (i := 297) (by decide +kernel)⟩
theorem lw_p5 : lw_okq (⟨"DripSayings", "enoughToTell", "(LDripSayings$Tap;II)I"⟩, 7) := ⟨⟨by decide +kernel, by decide +kernel⟩, List.mem_of_getElem? (i := 11) (by decide +kernel), List.mem_of_getElem? (i := 300) (by decide +kernel), List.mem_of_getElem? (i := 301) (by decide +kernel)⟩
theorem lw_p6 : lw_okq (⟨"DripSayings", "saysOf", "(LDripSayings$Tap;)I"⟩, 7) := ⟨⟨by decide +kernel, by decide +kernel⟩, List.mem_of_getElem? (i := 11) (by decide +kernel), List.mem_of_getElem? (i := 313) (by decide +kernel), List.mem_of_getElem? (i := 314) (by decide +kernel)⟩
theorem lw_p7 : lw_okq (⟨"DripSayings", "slipsOf", "(LDripSayings$Tap;I)I"⟩, 7) := ⟨⟨by decide +kernel, by decide +kernel⟩, List.mem_of_getElem? (i := 11) (by decide +kernel), List.mem_of_getElem? (i := 317) (by decide +kernel), List.mem_of_getElem? (i := 318) (by decide +kernel)⟩
theorem lw_p8 : lw_okq (⟨"DripSayings", "likelyOf", "(LDripSayings$Tap;)I"⟩, 7) := ⟨⟨by decide +kernel, by decide +kernel⟩, List.mem_of_getElem? (i := 11) (by decide +kernel), List.mem_of_getElem? (i := 325) (by decide +kernel), List.mem_of_getElem? (i := 326) (by decide +kernel)⟩
theorem lw_p9 : lw_okq (⟨"DripSayings", "bestToHear", "(LDripSayings$Tap;I)I"⟩, 7) := ⟨⟨by decide +kernel, by decide +kernel⟩, List.mem_of_getElem? (i := 11) (by decide +kernel), List.mem_of_getElem? (i := 329) (by decide +kernel), List.mem_of_getElem? (i := 330) (by decide +kernel)⟩
theorem lw_p10 : lw_okq (⟨"DripSayings", "leftAtWorst", "(LDripSayings$Tap;II)I"⟩, 7) := ⟨⟨by decide +kernel, by decide +kernel⟩, List.mem_of_getElem? (i := 11) (by decide +kernel), List.mem_of_getElem? (i := 333) (by decide +kernel), List.mem_of_getElem? (i := 334) (by decide +kernel)⟩
theorem lw_p11 : lw_okq (⟨"DripSayings", "dripOf", "(LDripSayings$Tap;I)I"⟩, 7) := ⟨⟨by decide +kernel, by decide +kernel⟩, List.mem_of_getElem? (i := 11) (by decide +kernel), List.mem_of_getElem? (i := 345) (by decide +kernel), List.mem_of_getElem? (i := 346) (by decide +kernel)⟩
theorem lw_p12 : lw_okq (⟨"DripSayings", "nearOf", "(LDripSayings$Tap;II)I"⟩, 7) := ⟨⟨by decide +kernel, by decide +kernel⟩, List.mem_of_getElem? (i := 11) (by decide +kernel), List.mem_of_getElem? (i := 369) (by decide +kernel), List.mem_of_getElem? (i := 370) (by decide +kernel)⟩
theorem lw_p13 : lw_okq (⟨"DripSayings", "unlikeOf", "(LDripSayings$Tap;II)I"⟩, 7) := ⟨⟨by decide +kernel, by decide +kernel⟩, List.mem_of_getElem? (i := 11) (by decide +kernel), List.mem_of_getElem? (i := 373) (by decide +kernel), List.mem_of_getElem? (i := 374) (by decide +kernel)⟩
theorem lw_p14 : lw_okq (⟨"DripSayings", "countOf", "(I)I"⟩, 7) := ⟨⟨by decide +kernel, by decide +kernel⟩, List.mem_of_getElem? (i := 11) (by decide +kernel), List.mem_of_getElem? (i := 427) (by decide +kernel), List.mem_of_getElem? (i := 428) (by decide +kernel)⟩
theorem lw_p15 : lw_okq (⟨"DripSayings", "digestSayings", "(J)J"⟩, 7) := ⟨⟨by decide +kernel, by decide +kernel⟩, List.mem_of_getElem? (i := 11) (by decide +kernel), List.mem_of_getElem? (i := 448) (by decide +kernel), List.mem_of_getElem? (i := 449) (by decide +kernel)⟩
def lw_privs_1 : List (MethodName × Nat) := [(⟨"DripSayings$Reader", "takesInSaying", "(I)Z"⟩, 3), (⟨"DripSayings$Reader", "takesInTap", "(I)Z"⟩, 3), (⟨"DripSayings", "readPage", "()V"⟩, 7), (⟨"DripSayings", "aboutOf", "(LDripSayings$Tap;I)I"⟩, 7), (⟨"DripSayings", "sureOf", "(LDripSayings$Tap;)I"⟩, 7), (⟨"DripSayings", "enoughToTell", "(LDripSayings$Tap;II)I"⟩, 7), (⟨"DripSayings", "saysOf", "(LDripSayings$Tap;)I"⟩, 7), (⟨"DripSayings", "slipsOf", "(LDripSayings$Tap;I)I"⟩, 7), (⟨"DripSayings", "likelyOf", "(LDripSayings$Tap;)I"⟩, 7), (⟨"DripSayings", "bestToHear", "(LDripSayings$Tap;I)I"⟩, 7), (⟨"DripSayings", "leftAtWorst", "(LDripSayings$Tap;II)I"⟩, 7), (⟨"DripSayings", "dripOf", "(LDripSayings$Tap;I)I"⟩, 7), (⟨"DripSayings", "nearOf", "(LDripSayings$Tap;II)I"⟩, 7), (⟨"DripSayings", "unlikeOf", "(LDripSayings$Tap;II)I"⟩, 7), (⟨"DripSayings", "countOf", "(I)I"⟩, 7), (⟨"DripSayings", "digestSayings", "(J)J"⟩, 7)]
theorem lw_r1 : ∀ q ∈ lw_privs_1, lw_okq q := List.forall_mem_cons.mpr ⟨lw_p0, List.forall_mem_cons.mpr ⟨lw_p1, List.forall_mem_cons.mpr ⟨lw_p2, List.forall_mem_cons.mpr ⟨lw_p3, List.forall_mem_cons.mpr ⟨lw_p4, List.forall_mem_cons.mpr ⟨lw_p5, List.forall_mem_cons.mpr ⟨lw_p6, List.forall_mem_cons.mpr ⟨lw_p7, List.forall_mem_cons.mpr ⟨lw_p8, List.forall_mem_cons.mpr ⟨lw_p9, List.forall_mem_cons.mpr ⟨lw_p10, List.forall_mem_cons.mpr ⟨lw_p11, List.forall_mem_cons.mpr ⟨lw_p12, List.forall_mem_cons.mpr ⟨lw_p13, List.forall_mem_cons.mpr ⟨lw_p14, List.forall_mem_cons.mpr ⟨lw_p15, fun _ h => absurd h List.not_mem_nil⟩⟩⟩⟩⟩⟩⟩⟩⟩⟩⟩⟩⟩⟩⟩⟩
theorem lw_p16 : lw_okq (⟨"DripSayings", "digestTap", "(JLDripSayings$Tap;)J"⟩, 7) := ⟨⟨by decide +kernel, by decide +kernel⟩, List.mem_of_getElem? (i := 11) (by decide +kernel), List.mem_of_getElem? (i := 453) (by decide +kernel), List.mem_of_getElem? (i := 454) (by decide +kernel)⟩
theorem lw_p17 : lw_okq (⟨"DripSayingsModel", "faultOf", "()I"⟩, 22) := ⟨⟨by decide +kernel, by decide +kernel⟩, List.mem_of_getElem? (i := 457) (by decide +kernel), List.mem_of_getElem? (i := 546) (by decide +kernel), List.mem_of_getElem? (i := 547) (by decide +kernel)⟩
theorem lw_p18 : lw_okq (⟨"DripSayingsModel", "goSaying", "(I)Z"⟩, 22) := ⟨⟨by decide +kernel, by decide +kernel⟩, List.mem_of_getElem? (i := 457) (by decide +kernel), List.mem_of_getElem? (i := 550) (by decide +kernel), List.mem_of_getElem? (i := 551) (by decide +kernel)⟩
theorem lw_p19 : lw_okq (⟨"DripSayingsModel", "goTap", "(I)Z"⟩, 22) := ⟨⟨by decide +kernel, by decide +kernel⟩, List.mem_of_getElem? (i := 457) (by decide +kernel), List.mem_of_getElem? (i := 554) (by decide +kernel), List.mem_of_getElem? (i := 555) (by decide +kernel)⟩
theorem lw_p20 : lw_okq (⟨"DripSayingsModel", "lacks", "()Z"⟩, 22) := ⟨⟨by decide +kernel, by decide +kernel⟩, List.mem_of_getElem? (i := 457) (by decide +kernel), List.mem_of_getElem? (i := 574) (by decide +kernel), List.mem_of_getElem? (i := 575) (by decide +kernel)⟩
theorem lw_p21 : lw_okq (⟨"DripSayingsModel", "tellSaying", "(II)I"⟩, 22) := ⟨⟨by decide +kernel, by decide +kernel⟩, List.mem_of_getElem? (i := 457) (by decide +kernel), List.mem_of_getElem? (i := 582) (by decide +kernel), List.mem_of_getElem? (i := 583) (by decide +kernel)⟩
theorem lw_p22 : lw_okq (⟨"DripSayingsModel", "isTap", "(I)Z"⟩, 22) := ⟨⟨by decide +kernel, by decide +kernel⟩, List.mem_of_getElem? (i := 457) (by decide +kernel), List.mem_of_getElem? (i := 597) (by decide +kernel), List.mem_of_getElem? (i := 598) (by decide +kernel)⟩
theorem lw_p23 : lw_okq (⟨"DripSayingsModel", "tell", "(II)I"⟩, 22) := ⟨⟨by decide +kernel, by decide +kernel⟩, List.mem_of_getElem? (i := 457) (by decide +kernel), List.mem_of_getElem? (i := 601) (by decide +kernel), List.mem_of_getElem? (i := 602) (by decide +kernel)⟩
theorem lw_p24 : lw_okq (⟨"DripSayingsModel", "sureOf", "(I)I"⟩, 22) := ⟨⟨by decide +kernel, by decide +kernel⟩, List.mem_of_getElem? (i := 457) (by decide +kernel), List.mem_of_getElem? (i := 605) (by decide +kernel), List.mem_of_getElem? (i := 606) (by decide +kernel)⟩
theorem lw_p25 : lw_okq (⟨"DripSayingsModel", "patternOf", "(III)I"⟩, 22) := ⟨⟨by decide +kernel, by decide +kernel⟩, List.mem_of_getElem? (i := 457) (by decide +kernel), List.mem_of_getElem? (i := 609) (by decide +kernel), List.mem_of_getElem? (i := 610) (by decide +kernel)⟩
theorem lw_p26 : lw_okq (⟨"DripSayingsModel", "dripAs", "(III)I"⟩, 22) := ⟨⟨by decide +kernel, by decide +kernel⟩, List.mem_of_getElem? (i := 457) (by decide +kernel), List.mem_of_getElem? (i := 613) (by decide +kernel), List.mem_of_getElem? (i := 614) (by decide +kernel)⟩
theorem lw_p27 : lw_okq (⟨"DripSayingsModel", "dripBy", "(IIII)I"⟩, 22) := ⟨⟨by decide +kernel, by decide +kernel⟩, List.mem_of_getElem? (i := 457) (by decide +kernel), List.mem_of_getElem? (i := 617) (by decide +kernel), List.mem_of_getElem? (i := 618) (by decide +kernel)⟩
theorem lw_p28 : lw_okq (⟨"DripSayingsModel", "saysOf", "(I)I"⟩, 22) := ⟨⟨by decide +kernel, by decide +kernel⟩, List.mem_of_getElem? (i := 457) (by decide +kernel), List.mem_of_getElem? (i := 621) (by decide +kernel), List.mem_of_getElem? (i := 622) (by decide +kernel)⟩
theorem lw_p29 : lw_okq (⟨"DripSayingsModel", "slipsBy", "(II)I"⟩, 22) := ⟨⟨by decide +kernel, by decide +kernel⟩, List.mem_of_getElem? (i := 457) (by decide +kernel), List.mem_of_getElem? (i := 625) (by decide +kernel), List.mem_of_getElem? (i := 626) (by decide +kernel)⟩
theorem lw_p30 : lw_okq (⟨"DripSayingsModel", "likelyOf", "(I)I"⟩, 22) := ⟨⟨by decide +kernel, by decide +kernel⟩, List.mem_of_getElem? (i := 457) (by decide +kernel), List.mem_of_getElem? (i := 629) (by decide +kernel), List.mem_of_getElem? (i := 630) (by decide +kernel)⟩
theorem lw_p31 : lw_okq (⟨"DripSayingsModel", "listenOf", "(I)I"⟩, 22) := ⟨⟨by decide +kernel, by decide +kernel⟩, List.mem_of_getElem? (i := 457) (by decide +kernel), List.mem_of_getElem? (i := 633) (by decide +kernel), List.mem_of_getElem? (i := 634) (by decide +kernel)⟩
def lw_privs_2 : List (MethodName × Nat) := [(⟨"DripSayings", "digestTap", "(JLDripSayings$Tap;)J"⟩, 7), (⟨"DripSayingsModel", "faultOf", "()I"⟩, 22), (⟨"DripSayingsModel", "goSaying", "(I)Z"⟩, 22), (⟨"DripSayingsModel", "goTap", "(I)Z"⟩, 22), (⟨"DripSayingsModel", "lacks", "()Z"⟩, 22), (⟨"DripSayingsModel", "tellSaying", "(II)I"⟩, 22), (⟨"DripSayingsModel", "isTap", "(I)Z"⟩, 22), (⟨"DripSayingsModel", "tell", "(II)I"⟩, 22), (⟨"DripSayingsModel", "sureOf", "(I)I"⟩, 22), (⟨"DripSayingsModel", "patternOf", "(III)I"⟩, 22), (⟨"DripSayingsModel", "dripAs", "(III)I"⟩, 22), (⟨"DripSayingsModel", "dripBy", "(IIII)I"⟩, 22), (⟨"DripSayingsModel", "saysOf", "(I)I"⟩, 22), (⟨"DripSayingsModel", "slipsBy", "(II)I"⟩, 22), (⟨"DripSayingsModel", "likelyOf", "(I)I"⟩, 22), (⟨"DripSayingsModel", "listenOf", "(I)I"⟩, 22)]
theorem lw_r2 : ∀ q ∈ lw_privs_2, lw_okq q := List.forall_mem_cons.mpr ⟨lw_p16, List.forall_mem_cons.mpr ⟨lw_p17, List.forall_mem_cons.mpr ⟨lw_p18, List.forall_mem_cons.mpr ⟨lw_p19, List.forall_mem_cons.mpr ⟨lw_p20, List.forall_mem_cons.mpr ⟨lw_p21, List.forall_mem_cons.mpr ⟨lw_p22, List.forall_mem_cons.mpr ⟨lw_p23, List.forall_mem_cons.mpr ⟨lw_p24, List.forall_mem_cons.mpr ⟨lw_p25, List.forall_mem_cons.mpr ⟨lw_p26, List.forall_mem_cons.mpr ⟨lw_p27, List.forall_mem_cons.mpr ⟨lw_p28, List.forall_mem_cons.mpr ⟨lw_p29, List.forall_mem_cons.mpr ⟨lw_p30, List.forall_mem_cons.mpr ⟨lw_p31, fun _ h => absurd h List.not_mem_nil⟩⟩⟩⟩⟩⟩⟩⟩⟩⟩⟩⟩⟩⟩⟩⟩
theorem lw_p32 : lw_okq (⟨"DripSayingsModel", "dripOf", "(II)I"⟩, 22) := ⟨⟨by decide +kernel, by decide +kernel⟩, List.mem_of_getElem? (i := 457) (by decide +kernel), List.mem_of_getElem? (i := 646) (by decide +kernel), List.mem_of_getElem? (i := 647) (by decide +kernel)⟩
theorem lw_p33 : lw_okq (⟨"DripSayingsModel", "agreeOf", "(II)I"⟩, 22) := ⟨⟨by decide +kernel, by decide +kernel⟩, List.mem_of_getElem? (i := 457) (by decide +kernel), List.mem_of_getElem? (i := 666) (by decide +kernel), List.mem_of_getElem? (i := 667) (by decide +kernel)⟩
theorem lw_p34 : lw_okq (⟨"DripSayingsModel", "nearOf", "(III)I"⟩, 22) := ⟨⟨by decide +kernel, by decide +kernel⟩, List.mem_of_getElem? (i := 457) (by decide +kernel), List.mem_of_getElem? (i := 674) (by decide +kernel), List.mem_of_getElem? (i := 675) (by decide +kernel)⟩
theorem lw_p35 : lw_okq (⟨"DripSayingsModel", "unlikeBy", "(III)I"⟩, 22) := ⟨⟨by decide +kernel, by decide +kernel⟩, List.mem_of_getElem? (i := 457) (by decide +kernel), List.mem_of_getElem? (i := 678) (by decide +kernel), List.mem_of_getElem? (i := 679) (by decide +kernel)⟩
theorem lw_p36 : lw_okq (⟨"DripSayingsModel", "draw", "(I)I"⟩, 22) := ⟨⟨by decide +kernel, by decide +kernel⟩, List.mem_of_getElem? (i := 457) (by decide +kernel), List.mem_of_getElem? (i := 697) (by decide +kernel), List.mem_of_getElem? (i := 698) (by decide +kernel)⟩
theorem lw_p37 : lw_okq (⟨"DripSayingsModel", "countOf", "(I)I"⟩, 22) := ⟨⟨by decide +kernel, by decide +kernel⟩, List.mem_of_getElem? (i := 457) (by decide +kernel), List.mem_of_getElem? (i := 717) (by decide +kernel), List.mem_of_getElem? (i := 718) (by decide +kernel)⟩
theorem lw_p38 : lw_okq (⟨"DripSayingsModel", "beatsAll", "()I"⟩, 22) := ⟨⟨by decide +kernel, by decide +kernel⟩, List.mem_of_getElem? (i := 457) (by decide +kernel), List.mem_of_getElem? (i := 721) (by decide +kernel), List.mem_of_getElem? (i := 722) (by decide +kernel)⟩
theorem lw_p39 : lw_okq (⟨"DripSayingsModel", "sumAt", "(I)I"⟩, 22) := ⟨⟨by decide +kernel, by decide +kernel⟩, List.mem_of_getElem? (i := 457) (by decide +kernel), List.mem_of_getElem? (i := 725) (by decide +kernel), List.mem_of_getElem? (i := 726) (by decide +kernel)⟩
theorem lw_p40 : lw_okq (⟨"DripSayingsModel", "say", "(J)V"⟩, 22) := ⟨⟨by decide +kernel, by decide +kernel⟩, List.mem_of_getElem? (i := 457) (by decide +kernel), List.mem_of_getElem? (i := 734) (by decide +kernel), List.mem_of_getElem? (i := 735) (by decide +kernel)⟩
theorem lw_p41 : lw_okq (⟨"DripSayingsModel", "sayTap", "(I)V"⟩, 22) := ⟨⟨by decide +kernel, by decide +kernel⟩, List.mem_of_getElem? (i := 457) (by decide +kernel), List.mem_of_getElem? (i := 739) (by decide +kernel), List.mem_of_getElem? (i := 740) (by decide +kernel)⟩
def lw_privs_3 : List (MethodName × Nat) := [(⟨"DripSayingsModel", "dripOf", "(II)I"⟩, 22), (⟨"DripSayingsModel", "agreeOf", "(II)I"⟩, 22), (⟨"DripSayingsModel", "nearOf", "(III)I"⟩, 22), (⟨"DripSayingsModel", "unlikeBy", "(III)I"⟩, 22), (⟨"DripSayingsModel", "draw", "(I)I"⟩, 22), (⟨"DripSayingsModel", "countOf", "(I)I"⟩, 22), (⟨"DripSayingsModel", "beatsAll", "()I"⟩, 22), (⟨"DripSayingsModel", "sumAt", "(I)I"⟩, 22), (⟨"DripSayingsModel", "say", "(J)V"⟩, 22), (⟨"DripSayingsModel", "sayTap", "(I)V"⟩, 22)]
theorem lw_r3 : ∀ q ∈ lw_privs_3, lw_okq q := List.forall_mem_cons.mpr ⟨lw_p32, List.forall_mem_cons.mpr ⟨lw_p33, List.forall_mem_cons.mpr ⟨lw_p34, List.forall_mem_cons.mpr ⟨lw_p35, List.forall_mem_cons.mpr ⟨lw_p36, List.forall_mem_cons.mpr ⟨lw_p37, List.forall_mem_cons.mpr ⟨lw_p38, List.forall_mem_cons.mpr ⟨lw_p39, List.forall_mem_cons.mpr ⟨lw_p40, List.forall_mem_cons.mpr ⟨lw_p41, fun _ h => absurd h List.not_mem_nil⟩⟩⟩⟩⟩⟩⟩⟩⟩⟩
def lw_privs : List (MethodName × Nat) := lw_privs_1 ++ (lw_privs_2 ++ (lw_privs_3))
def lw_tbl : List Cond := k2_sels lw_privs ++ tables_1
theorem lw_privs_ok : ∀ q ∈ lw_privs, lw_okq q := by
  show ∀ q ∈ lw_privs_1 ++ (lw_privs_2 ++ (lw_privs_3)), lw_okq q
  exact List.forall_mem_append.mpr ⟨lw_r1, List.forall_mem_append.mpr ⟨lw_r2, lw_r3⟩⟩
-- ===== end of PART A
/-! ===== BEGIN words of one list among another's, by their places ===== -/
theorem goodIn_r {big : List Cond} (ws : List Cond) (ps : List Nat) (hp : ws = ps.filterMap (fun i => big[i]?)) (h : ws.all goodWord = true) : GoodIn big ws := by
  intro w hw
  have h1 := List.all_eq_true.mp h w hw
  rw [hp] at hw
  obtain ⟨i, -, hi⟩ := List.mem_filterMap.mp hw
  have hm : w ∈ big := by first | exact List.mem_of_getElem? hi | exact List.getElem?_mem hi
  exact ⟨hm, good_of_word h1⟩
theorem goodIn_app {big a b : List Cond} (ha : GoodIn big a) (hb : GoodIn big b) : GoodIn big (a ++ b) := fun w h => (List.mem_append.mp h).elim (ha w) (hb w)
theorem goodIn_ca {big a b : List Cond} {c : Cond} (ha : GoodIn big (c :: a)) (hb : GoodIn big b) : GoodIn big (c :: (a ++ b)) := fun w h => (List.mem_cons.mp h).elim (fun e => ha w (List.mem_cons.mpr (Or.inl e))) (fun h => (List.mem_append.mp h).elim (fun h => ha w (List.mem_cons.mpr (Or.inr h))) (hb w))
theorem goodIn_sub {big ws : List Cond} (hm : ∀ w ∈ ws, w ∈ big) (h : ws.all goodWord = true) : GoodIn big ws := fun w hw => ⟨hm w hw, good_of_word (List.all_eq_true.mp h w hw)⟩
/-! ===== END ===== -/

/-! ===== BEGIN printed: names, fields, word lists, decode rows ===== -/
def RX0 : String := "DripSayings$Note"
def TX0 : u_T := fun k => match k with
  | 0 => ("DripSayings$Note", "tap", "I", false)
  | 1 => ("DripSayings$Note", "drip", "I", false)
  | 2 => ("DripSayings$Note", "beat", "I", false)
  | _ => ("DripSayings$Note", "washer", "I", false)
def tyX0 : Nat → FieldType := fun k => match k with
  | 0 => .int
  | 1 => .int
  | 2 => .int
  | _ => .int
abbrev wsX00 : List Cond := u_ws RX0 TX0 4
theorem nmX0 : ∀ a, a < 4 → ∀ b, b < 4 → a ≠ b → (TX0 a).2.1 ≠ (TX0 b).2.1 := by decide +kernel
theorem tyX0_ok : ∀ k, k < 4 → parseFieldDescriptor (TX0 k).2.2.1 = some (tyX0 k) := by decide +kernel
abbrev cX0_init : ByteArray := prog_2_method_1_code
def yX0_init : MethodName := ⟨RX0, "<init>", "()V"⟩
abbrev cX0_become : ByteArray := prog_2_method_2_code
def yX0_become : MethodName := ⟨RX0, "become", "(IIII)V"⟩
def RX1 : String := "DripSayings$Page"
def TX1 : u_T := fun k => match k with
  | 0 => ("DripSayings$Page", "codes", "[I", true)
  | 1 => ("DripSayings$Page", "reader", "LDripSayings$Reader;", true)
  | _ => ("DripSayings$Page", "size", "I", false)
def tyX1 : Nat → FieldType := fun k => match k with
  | 0 => .array .int
  | 1 => .object "DripSayings$Reader"
  | _ => .int
abbrev wsX10 : List Cond := u_ws RX1 TX1 3
theorem nmX1 : ∀ a, a < 3 → ∀ b, b < 3 → a ≠ b → (TX1 a).2.1 ≠ (TX1 b).2.1 := by decide +kernel
theorem tyX1_ok : ∀ k, k < 3 → parseFieldDescriptor (TX1 k).2.2.1 = some (tyX1 k) := by decide +kernel
abbrev cX1_init : ByteArray := prog_3_method_1_code
def yX1_init : MethodName := ⟨RX1, "<init>", "()V"⟩
abbrev cX1_clear : ByteArray := prog_3_method_2_code
def yX1_clear : MethodName := ⟨RX1, "clear", "()V"⟩
abbrev cX1_add : ByteArray := prog_3_method_3_code
def yX1_add : MethodName := ⟨RX1, "add", "(I)V"⟩
abbrev cX1_codeAt : ByteArray := prog_3_method_4_code
def yX1_codeAt : MethodName := ⟨RX1, "codeAt", "(I)I"⟩
abbrev cX1_firstFault : ByteArray := prog_3_method_5_code
def yX1_firstFault : MethodName := ⟨RX1, "firstFault", "()I"⟩
abbrev cX1_isHouse : ByteArray := prog_3_method_6_code
def yX1_isHouse : MethodName := ⟨RX1, "isHouse", "()Z"⟩
def RX2 : String := "DripSayings$Reader"
def TX2 : u_T := fun k => match k with
  | 0 => ("DripSayings$Reader", "saying", "I", false)
  | 1 => ("DripSayings$Reader", "taps", "I", false)
  | _ => ("DripSayings$Reader", "letters", "I", false)
def tyX2 : Nat → FieldType := fun k => match k with
  | 0 => .int
  | 1 => .int
  | _ => .int
abbrev wsX20 : List Cond := u_ws RX2 TX2 3
theorem nmX2 : ∀ a, a < 3 → ∀ b, b < 3 → a ≠ b → (TX2 a).2.1 ≠ (TX2 b).2.1 := by decide +kernel
theorem tyX2_ok : ∀ k, k < 3 → parseFieldDescriptor (TX2 k).2.2.1 = some (tyX2 k) := by decide +kernel
abbrev cX2_init : ByteArray := prog_4_method_1_code
def yX2_init : MethodName := ⟨RX2, "<init>", "()V"⟩
abbrev cX2_begin : ByteArray := prog_4_method_2_code
def yX2_begin : MethodName := ⟨RX2, "begin", "()V"⟩
abbrev cX2_takes : ByteArray := prog_4_method_3_code
def yX2_takes : MethodName := ⟨RX2, "takes", "(I)Z"⟩
abbrev cX2_isAtEnd : ByteArray := prog_4_method_4_code
def yX2_isAtEnd : MethodName := ⟨RX2, "isAtEnd", "()Z"⟩
abbrev cX2_takesInSaying : ByteArray := prog_4_method_5_code
def yX2_takesInSaying : MethodName := ⟨RX2, "takesInSaying", "(I)Z"⟩
abbrev cX2_takesInTap : ByteArray := prog_4_method_6_code
def yX2_takesInTap : MethodName := ⟨RX2, "takesInTap", "(I)Z"⟩
def RX3 : String := "DripSayings$Room"
def TX3 : u_T := fun k => match k with
  | 0 => ("DripSayings$Room", "taps", "[LDripSayings$Tap;", true)
  | 1 => ("DripSayings$Room", "notes", "[LDripSayings$Note;", true)
  | 2 => ("DripSayings$Room", "tapCount", "I", false)
  | 3 => ("DripSayings$Room", "noteCount", "I", false)
  | _ => ("DripSayings$Room", "changes", "I", false)
def tyX3 : Nat → FieldType := fun k => match k with
  | 0 => .array (.object "DripSayings$Tap")
  | 1 => .array (.object "DripSayings$Note")
  | 2 => .int
  | 3 => .int
  | _ => .int
abbrev wsX30 : List Cond := u_ws RX3 TX3 5
theorem nmX3 : ∀ a, a < 5 → ∀ b, b < 5 → a ≠ b → (TX3 a).2.1 ≠ (TX3 b).2.1 := by decide +kernel
theorem tyX3_ok : ∀ k, k < 5 → parseFieldDescriptor (TX3 k).2.2.1 = some (tyX3 k) := by decide +kernel
abbrev cX3_init : ByteArray := prog_5_method_1_code
def yX3_init : MethodName := ⟨RX3, "<init>", "()V"⟩
abbrev cX3_clear : ByteArray := prog_5_method_2_code
def yX3_clear : MethodName := ⟨RX3, "clear", "()V"⟩
abbrev cX3_tapAt : ByteArray := prog_5_method_3_code
def yX3_tapAt : MethodName := ⟨RX3, "tapAt", "(I)LDripSayings$Tap;"⟩
abbrev cX3_noteAt : ByteArray := prog_5_method_4_code
def yX3_noteAt : MethodName := ⟨RX3, "noteAt", "(I)LDripSayings$Note;"⟩
abbrev cX3_addTap : ByteArray := prog_5_method_5_code
def yX3_addTap : MethodName := ⟨RX3, "addTap", "(II)V"⟩
abbrev cX3_addNote : ByteArray := prog_5_method_6_code
def yX3_addNote : MethodName := ⟨RX3, "addNote", "(LDripSayings$Tap;II)V"⟩
abbrev cX3_copyFrom : ByteArray := prog_5_method_7_code
def yX3_copyFrom : MethodName := ⟨RX3, "copyFrom", "(LDripSayings$Room;)V"⟩
abbrev cX3_washerCount : ByteArray := prog_5_method_8_code
def yX3_washerCount : MethodName := ⟨RX3, "washerCount", "()I"⟩
abbrev cX3_heardCount : ByteArray := prog_5_method_9_code
def yX3_heardCount : MethodName := ⟨RX3, "heardCount", "()I"⟩
def RX4 : String := "DripSayings$Sayings"
def TX4 : u_T := fun k => match k with
  | 0 => ("DripSayings$Sayings", "beats", "[I", true)
  | _ => ("DripSayings$Sayings", "lengths", "[I", true)
def tyX4 : Nat → FieldType := fun k => match k with
  | 0 => .array .int
  | _ => .array .int
abbrev wsX40 : List Cond := u_ws RX4 TX4 2
theorem nmX4 : ∀ a, a < 2 → ∀ b, b < 2 → a ≠ b → (TX4 a).2.1 ≠ (TX4 b).2.1 := by decide +kernel
theorem tyX4_ok : ∀ k, k < 2 → parseFieldDescriptor (TX4 k).2.2.1 = some (tyX4 k) := by decide +kernel
abbrev cX4_init : ByteArray := prog_6_method_1_code
def yX4_init : MethodName := ⟨RX4, "<init>", "()V"⟩
abbrev cX4_clear : ByteArray := prog_6_method_2_code
def yX4_clear : MethodName := ⟨RX4, "clear", "()V"⟩
abbrev cX4_addBeat : ByteArray := prog_6_method_3_code
def yX4_addBeat : MethodName := ⟨RX4, "addBeat", "(II)V"⟩
abbrev cX4_lengthOf : ByteArray := prog_6_method_4_code
def yX4_lengthOf : MethodName := ⟨RX4, "lengthOf", "(I)I"⟩
abbrev cX4_beatOf : ByteArray := prog_6_method_5_code
def yX4_beatOf : MethodName := ⟨RX4, "beatOf", "(II)I"⟩
abbrev cX4_beatCount : ByteArray := prog_6_method_6_code
def yX4_beatCount : MethodName := ⟨RX4, "beatCount", "()I"⟩
abbrev cX4_dripBy : ByteArray := prog_6_method_7_code
def yX4_dripBy : MethodName := ⟨RX4, "dripBy", "(IIII)I"⟩
def RX5 : String := "DripSayings$Tap"
def TX5 : u_T := fun k => match k with
  | 0 => ("DripSayings$Tap", "number", "I", true)
  | 1 => ("DripSayings$Tap", "kind", "I", false)
  | 2 => ("DripSayings$Tap", "saying", "I", false)
  | 3 => ("DripSayings$Tap", "washer", "I", false)
  | _ => ("DripSayings$Tap", "place", "I", false)
def tyX5 : Nat → FieldType := fun k => match k with
  | 0 => .int
  | 1 => .int
  | 2 => .int
  | 3 => .int
  | _ => .int
abbrev wsX50 : List Cond := u_ws RX5 TX5 5
theorem nmX5 : ∀ a, a < 5 → ∀ b, b < 5 → a ≠ b → (TX5 a).2.1 ≠ (TX5 b).2.1 := by decide +kernel
theorem tyX5_ok : ∀ k, k < 5 → parseFieldDescriptor (TX5 k).2.2.1 = some (tyX5 k) := by decide +kernel
abbrev cX5_init : ByteArray := prog_7_method_1_code
def yX5_init : MethodName := ⟨RX5, "<init>", "(I)V"⟩
abbrev cX5_become : ByteArray := prog_7_method_2_code
def yX5_become : MethodName := ⟨RX5, "become", "(IIII)V"⟩
def RX6 : String := "DripSayings"
def TX6 : u_T := fun k => match k with
  | 0 => ("DripSayings", "page", "LDripSayings$Page;", true)
  | 1 => ("DripSayings", "sayings", "LDripSayings$Sayings;", true)
  | 2 => ("DripSayings", "room", "LDripSayings$Room;", true)
  | 3 => ("DripSayings", "kept", "LDripSayings$Room;", true)
  | 4 => ("DripSayings", "hasHouse", "Z", false)
  | 5 => ("DripSayings", "hasImage", "Z", false)
  | _ => ("DripSayings", "housesRead", "I", false)
def tyX6 : Nat → FieldType := fun k => match k with
  | 0 => .object "DripSayings$Page"
  | 1 => .object "DripSayings$Sayings"
  | 2 => .object "DripSayings$Room"
  | 3 => .object "DripSayings$Room"
  | 4 => .boolean
  | 5 => .boolean
  | _ => .int
abbrev wsX60 : List Cond := u_ws RX6 TX6 7
theorem nmX6 : ∀ a, a < 7 → ∀ b, b < 7 → a ≠ b → (TX6 a).2.1 ≠ (TX6 b).2.1 := by decide +kernel
theorem tyX6_ok : ∀ k, k < 7 → parseFieldDescriptor (TX6 k).2.2.1 = some (tyX6 k) := by decide +kernel
abbrev cX6_init : ByteArray := prog_1_method_1_code
def yX6_init : MethodName := ⟨RX6, "<init>", "()V"⟩
abbrev cX6_letter : ByteArray := prog_1_method_2_code
def yX6_letter : MethodName := ⟨RX6, "letter", "(I)I"⟩
abbrev cX6_blank : ByteArray := prog_1_method_3_code
def yX6_blank : MethodName := ⟨RX6, "blank", "()I"⟩
abbrev cX6_fault : ByteArray := prog_1_method_4_code
def yX6_fault : MethodName := ⟨RX6, "fault", "()I"⟩
abbrev cX6_house : ByteArray := prog_1_method_5_code
def yX6_house : MethodName := ⟨RX6, "house", "()I"⟩
abbrev cX6_saying : ByteArray := prog_1_method_6_code
def yX6_saying : MethodName := ⟨RX6, "saying", "(II)I"⟩
abbrev cX6_tap : ByteArray := prog_1_method_7_code
def yX6_tap : MethodName := ⟨RX6, "tap", "(II)I"⟩
abbrev cX6_about : ByteArray := prog_1_method_8_code
def yX6_about : MethodName := ⟨RX6, "about", "(II)I"⟩
abbrev cX6_as : ByteArray := prog_1_method_9_code
def yX6_as : MethodName := ⟨RX6, "as", "(II)I"⟩
abbrev cX6_drip : ByteArray := prog_1_method_10_code
def yX6_drip : MethodName := ⟨RX6, "drip", "(II)I"⟩
abbrev cX6_listen : ByteArray := prog_1_method_11_code
def yX6_listen : MethodName := ⟨RX6, "listen", "(I)I"⟩
abbrev cX6_washer : ByteArray := prog_1_method_12_code
def yX6_washer : MethodName := ⟨RX6, "washer", "(IZ)I"⟩
abbrev cX6_teach : ByteArray := prog_1_method_13_code
def yX6_teach : MethodName := ⟨RX6, "teach", "(II)I"⟩
abbrev cX6_agree : ByteArray := prog_1_method_14_code
def yX6_agree : MethodName := ⟨RX6, "agree", "(II)I"⟩
abbrev cX6_near : ByteArray := prog_1_method_15_code
def yX6_near : MethodName := ⟨RX6, "near", "(III)I"⟩
abbrev cX6_put : ByteArray := prog_1_method_16_code
def yX6_put : MethodName := ⟨RX6, "put", "(IIZ)I"⟩
abbrev cX6_forget : ByteArray := prog_1_method_17_code
def yX6_forget : MethodName := ⟨RX6, "forget", "()I"⟩
abbrev cX6_nights : ByteArray := prog_1_method_18_code
def yX6_nights : MethodName := ⟨RX6, "nights", "(III)I"⟩
abbrev cX6_image : ByteArray := prog_1_method_19_code
def yX6_image : MethodName := ⟨RX6, "image", "()I"⟩
abbrev cX6_restore : ByteArray := prog_1_method_20_code
def yX6_restore : MethodName := ⟨RX6, "restore", "()I"⟩
abbrev cX6_count : ByteArray := prog_1_method_21_code
def yX6_count : MethodName := ⟨RX6, "count", "(I)I"⟩
abbrev cX6_digest : ByteArray := prog_1_method_22_code
def yX6_digest : MethodName := ⟨RX6, "digest", "()J"⟩
abbrev cX6_isKind : ByteArray := prog_1_method_23_code
def yX6_isKind : MethodName := ⟨RX6, "isKind", "(I)Z"⟩
abbrev cX6_isSaying : ByteArray := prog_1_method_24_code
def yX6_isSaying : MethodName := ⟨RX6, "isSaying", "(I)Z"⟩
abbrev cX6_kindOfLetter : ByteArray := prog_1_method_25_code
def yX6_kindOfLetter : MethodName := ⟨RX6, "kindOfLetter", "(I)I"⟩
abbrev cX6_readPage : ByteArray := prog_1_method_26_code
def yX6_readPage : MethodName := ⟨RX6, "readPage", "()V"⟩
abbrev cX6_dripOf : ByteArray := prog_1_method_27_code
def yX6_dripOf : MethodName := ⟨RX6, "dripOf", "(LDripSayings$Tap;I)I"⟩
abbrev cX6_aboutOf : ByteArray := prog_1_method_28_code
def yX6_aboutOf : MethodName := ⟨RX6, "aboutOf", "(LDripSayings$Tap;I)I"⟩
abbrev cX6_sureOf : ByteArray := prog_1_method_29_code
def yX6_sureOf : MethodName := ⟨RX6, "sureOf", "(LDripSayings$Tap;)I"⟩
abbrev cX6_enoughToTell : ByteArray := prog_1_method_30_code
def yX6_enoughToTell : MethodName := ⟨RX6, "enoughToTell", "(LDripSayings$Tap;II)I"⟩
abbrev cX6_saysOf : ByteArray := prog_1_method_31_code
def yX6_saysOf : MethodName := ⟨RX6, "saysOf", "(LDripSayings$Tap;)I"⟩
abbrev cX6_likelyOf : ByteArray := prog_1_method_32_code
def yX6_likelyOf : MethodName := ⟨RX6, "likelyOf", "(LDripSayings$Tap;)I"⟩
abbrev cX6_slipsOf : ByteArray := prog_1_method_33_code
def yX6_slipsOf : MethodName := ⟨RX6, "slipsOf", "(LDripSayings$Tap;I)I"⟩
abbrev cX6_bestToHear : ByteArray := prog_1_method_34_code
def yX6_bestToHear : MethodName := ⟨RX6, "bestToHear", "(LDripSayings$Tap;I)I"⟩
abbrev cX6_leftAtWorst : ByteArray := prog_1_method_35_code
def yX6_leftAtWorst : MethodName := ⟨RX6, "leftAtWorst", "(LDripSayings$Tap;II)I"⟩
abbrev cX6_nearOf : ByteArray := prog_1_method_36_code
def yX6_nearOf : MethodName := ⟨RX6, "nearOf", "(LDripSayings$Tap;II)I"⟩
abbrev cX6_unlikeOf : ByteArray := prog_1_method_37_code
def yX6_unlikeOf : MethodName := ⟨RX6, "unlikeOf", "(LDripSayings$Tap;II)I"⟩
abbrev cX6_nextSeed : ByteArray := prog_1_method_38_code
def yX6_nextSeed : MethodName := ⟨RX6, "nextSeed", "(I)I"⟩
abbrev cX6_drawOf : ByteArray := prog_1_method_39_code
def yX6_drawOf : MethodName := ⟨RX6, "drawOf", "(I)I"⟩
abbrev cX6_countOf : ByteArray := prog_1_method_40_code
def yX6_countOf : MethodName := ⟨RX6, "countOf", "(I)I"⟩
abbrev cX6_digestSayings : ByteArray := prog_1_method_41_code
def yX6_digestSayings : MethodName := ⟨RX6, "digestSayings", "(J)J"⟩
abbrev cX6_digestTap : ByteArray := prog_1_method_42_code
def yX6_digestTap : MethodName := ⟨RX6, "digestTap", "(JLDripSayings$Tap;)J"⟩
def RX7 : String := "DripSayingsModel"
def TX7 : u_T := fun k => match k with
  | 0 => ("DripSayingsModel", "page", "[I", true)
  | 1 => ("DripSayingsModel", "pageMany", "I", false)
  | 2 => ("DripSayingsModel", "part", "I", false)
  | 3 => ("DripSayingsModel", "readBeats", "[I", true)
  | 4 => ("DripSayingsModel", "readTaps", "[I", true)
  | 5 => ("DripSayingsModel", "readMany", "I", false)
  | 6 => ("DripSayingsModel", "step", "I", false)
  | 7 => ("DripSayingsModel", "taps", "I", false)
  | 8 => ("DripSayingsModel", "changes", "I", false)
  | 9 => ("DripSayingsModel", "housesRead", "I", false)
  | 10 => ("DripSayingsModel", "beats", "[I", true)
  | 11 => ("DripSayingsModel", "rows", "[I", true)
  | 12 => ("DripSayingsModel", "putMany", "I", false)
  | 13 => ("DripSayingsModel", "puts", "[I", true)
  | 14 => ("DripSayingsModel", "seedNow", "I", false)
  | 15 => ("DripSayingsModel", "keptHouse", "I", false)
  | 16 => ("DripSayingsModel", "keptTaps", "I", false)
  | 17 => ("DripSayingsModel", "keptChanges", "I", false)
  | 18 => ("DripSayingsModel", "keptPuts", "I", false)
  | 19 => ("DripSayingsModel", "keptRows", "[I", true)
  | 20 => ("DripSayingsModel", "keptPutRows", "[I", true)
  | _ => ("DripSayingsModel", "hash", "J", false)
def tyX7 : Nat → FieldType := fun k => match k with
  | 0 => .array .int
  | 1 => .int
  | 2 => .int
  | 3 => .array .int
  | 4 => .array .int
  | 5 => .int
  | 6 => .int
  | 7 => .int
  | 8 => .int
  | 9 => .int
  | 10 => .array .int
  | 11 => .array .int
  | 12 => .int
  | 13 => .array .int
  | 14 => .int
  | 15 => .int
  | 16 => .int
  | 17 => .int
  | 18 => .int
  | 19 => .array .int
  | 20 => .array .int
  | _ => .long
abbrev wsX70 : List Cond := u_ws RX7 TX7 22
theorem nmX7 : ∀ a, a < 22 → ∀ b, b < 22 → a ≠ b → (TX7 a).2.1 ≠ (TX7 b).2.1 := by decide +kernel
theorem tyX7_ok : ∀ k, k < 22 → parseFieldDescriptor (TX7 k).2.2.1 = some (tyX7 k) := by decide +kernel
abbrev cX7_init : ByteArray := prog_9_method_1_code
def yX7_init : MethodName := ⟨RX7, "<init>", "()V"⟩
abbrev cX7_in : ByteArray := prog_9_method_2_code
def yX7_in : MethodName := ⟨RX7, "in", "(JJJ)Z"⟩
abbrev cX7_copy : ByteArray := prog_9_method_3_code
def yX7_copy : MethodName := ⟨RX7, "copy", "([I[I)V"⟩
abbrev cX7_letter : ByteArray := prog_9_method_4_code
def yX7_letter : MethodName := ⟨RX7, "letter", "(I)I"⟩
abbrev cX7_blank : ByteArray := prog_9_method_5_code
def yX7_blank : MethodName := ⟨RX7, "blank", "()I"⟩
abbrev cX7_kindBy : ByteArray := prog_9_method_6_code
def yX7_kindBy : MethodName := ⟨RX7, "kindBy", "(I)I"⟩
abbrev cX7_goSaying : ByteArray := prog_9_method_7_code
def yX7_goSaying : MethodName := ⟨RX7, "goSaying", "(I)Z"⟩
abbrev cX7_goTap : ByteArray := prog_9_method_8_code
def yX7_goTap : MethodName := ⟨RX7, "goTap", "(I)Z"⟩
abbrev cX7_faultOf : ByteArray := prog_9_method_9_code
def yX7_faultOf : MethodName := ⟨RX7, "faultOf", "()I"⟩
abbrev cX7_fault : ByteArray := prog_9_method_10_code
def yX7_fault : MethodName := ⟨RX7, "fault", "()I"⟩
abbrev cX7_house : ByteArray := prog_9_method_11_code
def yX7_house : MethodName := ⟨RX7, "house", "()I"⟩
abbrev cX7_lacks : ByteArray := prog_9_method_12_code
def yX7_lacks : MethodName := ⟨RX7, "lacks", "()Z"⟩
abbrev cX7_isTap : ByteArray := prog_9_method_13_code
def yX7_isTap : MethodName := ⟨RX7, "isTap", "(I)Z"⟩
abbrev cX7_isSaying : ByteArray := prog_9_method_14_code
def yX7_isSaying : MethodName := ⟨RX7, "isSaying", "(I)Z"⟩
abbrev cX7_tellSaying : ByteArray := prog_9_method_15_code
def yX7_tellSaying : MethodName := ⟨RX7, "tellSaying", "(II)I"⟩
abbrev cX7_saying : ByteArray := prog_9_method_16_code
def yX7_saying : MethodName := ⟨RX7, "saying", "(II)I"⟩
abbrev cX7_dripBy : ByteArray := prog_9_method_17_code
def yX7_dripBy : MethodName := ⟨RX7, "dripBy", "(IIII)I"⟩
abbrev cX7_dripAs : ByteArray := prog_9_method_18_code
def yX7_dripAs : MethodName := ⟨RX7, "dripAs", "(III)I"⟩
abbrev cX7_dripOf : ByteArray := prog_9_method_19_code
def yX7_dripOf : MethodName := ⟨RX7, "dripOf", "(II)I"⟩
abbrev cX7_tap : ByteArray := prog_9_method_20_code
def yX7_tap : MethodName := ⟨RX7, "tap", "(II)I"⟩
abbrev cX7_patternOf : ByteArray := prog_9_method_21_code
def yX7_patternOf : MethodName := ⟨RX7, "patternOf", "(III)I"⟩
abbrev cX7_sureOf : ByteArray := prog_9_method_22_code
def yX7_sureOf : MethodName := ⟨RX7, "sureOf", "(I)I"⟩
abbrev cX7_tell : ByteArray := prog_9_method_23_code
def yX7_tell : MethodName := ⟨RX7, "tell", "(II)I"⟩
abbrev cX7_about : ByteArray := prog_9_method_24_code
def yX7_about : MethodName := ⟨RX7, "about", "(II)I"⟩
abbrev cX7_as : ByteArray := prog_9_method_25_code
def yX7_as : MethodName := ⟨RX7, "as", "(II)I"⟩
abbrev cX7_drip : ByteArray := prog_9_method_26_code
def yX7_drip : MethodName := ⟨RX7, "drip", "(II)I"⟩
abbrev cX7_listen : ByteArray := prog_9_method_27_code
def yX7_listen : MethodName := ⟨RX7, "listen", "(I)I"⟩
abbrev cX7_washer : ByteArray := prog_9_method_28_code
def yX7_washer : MethodName := ⟨RX7, "washer", "(IZ)I"⟩
abbrev cX7_teach : ByteArray := prog_9_method_29_code
def yX7_teach : MethodName := ⟨RX7, "teach", "(II)I"⟩
abbrev cX7_agreeOf : ByteArray := prog_9_method_30_code
def yX7_agreeOf : MethodName := ⟨RX7, "agreeOf", "(II)I"⟩
abbrev cX7_agree : ByteArray := prog_9_method_31_code
def yX7_agree : MethodName := ⟨RX7, "agree", "(II)I"⟩
abbrev cX7_unlikeBy : ByteArray := prog_9_method_32_code
def yX7_unlikeBy : MethodName := ⟨RX7, "unlikeBy", "(III)I"⟩
abbrev cX7_nearOf : ByteArray := prog_9_method_33_code
def yX7_nearOf : MethodName := ⟨RX7, "nearOf", "(III)I"⟩
abbrev cX7_near : ByteArray := prog_9_method_34_code
def yX7_near : MethodName := ⟨RX7, "near", "(III)I"⟩
abbrev cX7_put : ByteArray := prog_9_method_35_code
def yX7_put : MethodName := ⟨RX7, "put", "(IIZ)I"⟩
abbrev cX7_forget : ByteArray := prog_9_method_36_code
def yX7_forget : MethodName := ⟨RX7, "forget", "()I"⟩
abbrev cX7_slipsBy : ByteArray := prog_9_method_37_code
def yX7_slipsBy : MethodName := ⟨RX7, "slipsBy", "(II)I"⟩
abbrev cX7_saysOf : ByteArray := prog_9_method_38_code
def yX7_saysOf : MethodName := ⟨RX7, "saysOf", "(I)I"⟩
abbrev cX7_likelyOf : ByteArray := prog_9_method_39_code
def yX7_likelyOf : MethodName := ⟨RX7, "likelyOf", "(I)I"⟩
abbrev cX7_listenOf : ByteArray := prog_9_method_40_code
def yX7_listenOf : MethodName := ⟨RX7, "listenOf", "(I)I"⟩
abbrev cX7_draw : ByteArray := prog_9_method_41_code
def yX7_draw : MethodName := ⟨RX7, "draw", "(I)I"⟩
abbrev cX7_nights : ByteArray := prog_9_method_42_code
def yX7_nights : MethodName := ⟨RX7, "nights", "(III)I"⟩
abbrev cX7_image : ByteArray := prog_9_method_43_code
def yX7_image : MethodName := ⟨RX7, "image", "()I"⟩
abbrev cX7_restore : ByteArray := prog_9_method_44_code
def yX7_restore : MethodName := ⟨RX7, "restore", "()I"⟩
abbrev cX7_beatsAll : ByteArray := prog_9_method_45_code
def yX7_beatsAll : MethodName := ⟨RX7, "beatsAll", "()I"⟩
abbrev cX7_sumAt : ByteArray := prog_9_method_46_code
def yX7_sumAt : MethodName := ⟨RX7, "sumAt", "(I)I"⟩
abbrev cX7_countOf : ByteArray := prog_9_method_47_code
def yX7_countOf : MethodName := ⟨RX7, "countOf", "(I)I"⟩
abbrev cX7_count : ByteArray := prog_9_method_48_code
def yX7_count : MethodName := ⟨RX7, "count", "(I)I"⟩
abbrev cX7_say : ByteArray := prog_9_method_49_code
def yX7_say : MethodName := ⟨RX7, "say", "(J)V"⟩
abbrev cX7_sayTap : ByteArray := prog_9_method_50_code
def yX7_sayTap : MethodName := ⟨RX7, "sayTap", "(I)V"⟩
abbrev cX7_digest : ByteArray := prog_9_method_51_code
def yX7_digest : MethodName := ⟨RX7, "digest", "()J"⟩
def RJ9 : String := "java/lang/Math"
def TJ9 : u_T := fun k => match k with
  | _ => ("", "", "", false)
def tyJ9 : Nat → FieldType := fun k => match k with
  | _ => .int
abbrev wsJ90 : List Cond := u_ws RJ9 TJ9 0
theorem nmJ9 : ∀ a, a < 0 → ∀ b, b < 0 → a ≠ b → (TJ9 a).2.1 ≠ (TJ9 b).2.1 := by decide +kernel
theorem tyJ9_ok : ∀ k, k < 0 → parseFieldDescriptor (TJ9 k).2.2.1 = some (tyJ9 k) := by decide +kernel
abbrev cJ9_max_7cf53 : ByteArray := prog_10_method_65_code
def yJ9_max_7cf53 : MethodName := ⟨RJ9, "max", "(II)I"⟩
abbrev cJ9_min_7cf53 : ByteArray := prog_10_method_69_code
def yJ9_min_7cf53 : MethodName := ⟨RJ9, "min", "(II)I"⟩
def RL : String := "DripSayingsLaw"
abbrev cL_law : ByteArray := code
def yL_law : MethodName := ⟨RL, "law", "([I)Z"⟩
def wsX0_init : List Cond := .code yX0_init cX0_init 1 none :: ([.methodLink RX0 1 objectInit, .instanceMethod objectInit, .code objectInit ⟨#[0xb1]⟩ 1 none])
def wsX0_become : List Cond := .code yX0_become cX0_become 5 none :: ([.fieldLink RX0 7 "DripSayings$Note" "tap" "I", .fieldLink RX0 13 "DripSayings$Note" "drip" "I", .fieldLink RX0 16 "DripSayings$Note" "beat" "I", .fieldLink RX0 19 "DripSayings$Note" "washer" "I"] ++ wsX00)
def wsX2_init : List Cond := .code yX2_init cX2_init 1 none :: ([.methodLink RX2 3 objectInit, .instanceMethod objectInit, .code objectInit ⟨#[0xb1]⟩ 1 none])
def wsX1_init : List Cond := .code yX1_init cX1_init 1 none :: ([.methodLink RX1 3 objectInit, .instanceMethod objectInit, .code objectInit ⟨#[0xb1]⟩ 1 none, .arrayClass .int, .fieldLink RX1 9 "DripSayings$Page" "codes" "[I", .classLink RX1 15 RX2, .instantiable RX2 3, .initialized RX2, .fieldLink RX1 18 "DripSayings$Page" "reader" "LDripSayings$Reader;", .instanceMethod yX2_init, .code yX2_init cX2_init 1 none, .methodLink RX2 3 objectInit] ++ wsX10 ++ wsX20)
def wsX1_clear : List Cond := .code yX1_clear cX1_clear 1 none :: ([.fieldLink RX1 22 "DripSayings$Page" "size" "I"] ++ wsX10)
def wsX1_add : List Cond := .code yX1_add cX1_add 2 none :: ([.fieldLink RX1 22 "DripSayings$Page" "size" "I", .fieldLink RX1 9 "DripSayings$Page" "codes" "[I"] ++ wsX10)
def wsX1_codeAt : List Cond := .code yX1_codeAt cX1_codeAt 2 (some .int) :: ([.fieldLink RX1 22 "DripSayings$Page" "size" "I", .fieldLink RX1 9 "DripSayings$Page" "codes" "[I"] ++ wsX10)
def wsX2_begin : List Cond := .code yX2_begin cX2_begin 1 none :: ([.fieldLink RX2 9 "DripSayings$Reader" "saying" "I", .fieldLink RX2 15 "DripSayings$Reader" "taps" "I", .fieldLink RX2 18 "DripSayings$Reader" "letters" "I"] ++ wsX20)
def wsX2_takesInSaying : List Cond := .code yX2_takesInSaying cX2_takesInSaying 3 (some .boolean) :: ([.fieldLink RX2 18 "DripSayings$Reader" "letters" "I", .fieldLink RX2 9 "DripSayings$Reader" "saying" "I"] ++ wsX20)
def wsX6_kindOfLetter : List Cond := .code yX6_kindOfLetter cX6_kindOfLetter 1 (some .int) :: ([])
def wsX6_isSaying : List Cond := .code yX6_isSaying cX6_isSaying 1 (some .boolean) :: ([])
def wsX2_takesInTap : List Cond := .code yX2_takesInTap cX2_takesInTap 2 (some .boolean) :: ([.fieldLink RX2 18 "DripSayings$Reader" "letters" "I", .fieldLink RX2 15 "DripSayings$Reader" "taps" "I", .static yX6_kindOfLetter, .initialized RX6, .code yX6_kindOfLetter cX6_kindOfLetter 1 (some .int), .static yX6_isSaying, .code yX6_isSaying cX6_isSaying 1 (some .boolean)] ++ wsX20)
def wsX2_takes : List Cond := .code yX2_takes cX2_takes 2 (some .boolean) :: ([.fieldLink RX2 9 "DripSayings$Reader" "saying" "I", .methodLink RX2 21 yX2_takesInSaying, .instanceMethod yX2_takesInSaying, .selects RX2 yX2_takesInSaying yX2_takesInSaying, .initialized RX2, .code yX2_takesInSaying cX2_takesInSaying 3 (some .boolean), .fieldLink RX2 18 "DripSayings$Reader" "letters" "I", .methodLink RX2 25 yX2_takesInTap, .instanceMethod yX2_takesInTap, .selects RX2 yX2_takesInTap yX2_takesInTap, .code yX2_takesInTap cX2_takesInTap 2 (some .boolean), .fieldLink RX2 15 "DripSayings$Reader" "taps" "I", .static yX6_kindOfLetter, .initialized RX6, .code yX6_kindOfLetter cX6_kindOfLetter 1 (some .int), .static yX6_isSaying, .code yX6_isSaying cX6_isSaying 1 (some .boolean)] ++ wsX20)
def wsX1_firstFault_r1 : List Cond := [Cond.fieldLink RX1 18 "DripSayings$Page" "reader" "LDripSayings$Reader;", Cond.fieldLink RX1 22 "DripSayings$Page" "size" "I", Cond.methodLink RX1 26 yX2_begin, Cond.instanceMethod yX2_begin, Cond.selects RX2 yX2_begin yX2_begin, Cond.initialized RX2, Cond.code yX2_begin cX2_begin 1 none, Cond.fieldLink RX2 9 "DripSayings$Reader" "saying" "I", Cond.fieldLink RX2 15 "DripSayings$Reader" "taps" "I", Cond.fieldLink RX2 18 "DripSayings$Reader" "letters" "I", Cond.methodLink RX1 29 yX1_codeAt, Cond.instanceMethod yX1_codeAt, Cond.selects RX1 yX1_codeAt yX1_codeAt, Cond.initialized RX1, Cond.code yX1_codeAt cX1_codeAt 2 (some .int), Cond.fieldLink RX1 9 "DripSayings$Page" "codes" "[I", Cond.methodLink RX1 33 yX2_takes, Cond.instanceMethod yX2_takes, Cond.selects RX2 yX2_takes yX2_takes, Cond.code yX2_takes cX2_takes 2 (some .boolean), Cond.methodLink RX2 21 yX2_takesInSaying, Cond.instanceMethod yX2_takesInSaying, Cond.selects RX2 yX2_takesInSaying yX2_takesInSaying, Cond.code yX2_takesInSaying cX2_takesInSaying 3 (some .boolean)]
def wsX1_firstFault_r2 : List Cond := [Cond.methodLink RX2 25 yX2_takesInTap, Cond.instanceMethod yX2_takesInTap, Cond.selects RX2 yX2_takesInTap yX2_takesInTap, Cond.code yX2_takesInTap cX2_takesInTap 2 (some .boolean), Cond.static yX6_kindOfLetter, Cond.initialized RX6, Cond.code yX6_kindOfLetter cX6_kindOfLetter 1 (some .int), Cond.static yX6_isSaying, Cond.code yX6_isSaying cX6_isSaying 1 (some .boolean)]
def wsX1_firstFault : List Cond := .code yX1_firstFault cX1_firstFault 2 (some .int) :: ((wsX1_firstFault_r1 ++ wsX1_firstFault_r2) ++ wsX10 ++ wsX20)
def wsX2_isAtEnd : List Cond := .code yX2_isAtEnd cX2_isAtEnd 1 (some .boolean) :: ([.fieldLink RX2 9 "DripSayings$Reader" "saying" "I", .fieldLink RX2 18 "DripSayings$Reader" "letters" "I"] ++ wsX20)
def wsX1_isHouse_r1 : List Cond := [Cond.fieldLink RX1 22 "DripSayings$Page" "size" "I", Cond.fieldLink RX1 18 "DripSayings$Page" "reader" "LDripSayings$Reader;", Cond.methodLink RX1 37 yX1_firstFault, Cond.instanceMethod yX1_firstFault, Cond.selects RX1 yX1_firstFault yX1_firstFault, Cond.initialized RX1, Cond.code yX1_firstFault cX1_firstFault 2 (some .int), Cond.methodLink RX1 26 yX2_begin, Cond.instanceMethod yX2_begin, Cond.selects RX2 yX2_begin yX2_begin, Cond.initialized RX2, Cond.code yX2_begin cX2_begin 1 none, Cond.fieldLink RX2 9 "DripSayings$Reader" "saying" "I", Cond.fieldLink RX2 15 "DripSayings$Reader" "taps" "I", Cond.fieldLink RX2 18 "DripSayings$Reader" "letters" "I", Cond.methodLink RX1 29 yX1_codeAt, Cond.instanceMethod yX1_codeAt, Cond.selects RX1 yX1_codeAt yX1_codeAt, Cond.code yX1_codeAt cX1_codeAt 2 (some .int), Cond.fieldLink RX1 9 "DripSayings$Page" "codes" "[I", Cond.methodLink RX1 33 yX2_takes, Cond.instanceMethod yX2_takes, Cond.selects RX2 yX2_takes yX2_takes, Cond.code yX2_takes cX2_takes 2 (some .boolean)]
def wsX1_isHouse_r2 : List Cond := [Cond.methodLink RX2 21 yX2_takesInSaying, Cond.instanceMethod yX2_takesInSaying, Cond.selects RX2 yX2_takesInSaying yX2_takesInSaying, Cond.code yX2_takesInSaying cX2_takesInSaying 3 (some .boolean), Cond.methodLink RX2 25 yX2_takesInTap, Cond.instanceMethod yX2_takesInTap, Cond.selects RX2 yX2_takesInTap yX2_takesInTap, Cond.code yX2_takesInTap cX2_takesInTap 2 (some .boolean), Cond.static yX6_kindOfLetter, Cond.initialized RX6, Cond.code yX6_kindOfLetter cX6_kindOfLetter 1 (some .int), Cond.static yX6_isSaying, Cond.code yX6_isSaying cX6_isSaying 1 (some .boolean), Cond.methodLink RX1 41 yX2_isAtEnd, Cond.instanceMethod yX2_isAtEnd, Cond.selects RX2 yX2_isAtEnd yX2_isAtEnd, Cond.code yX2_isAtEnd cX2_isAtEnd 1 (some .boolean)]
def wsX1_isHouse : List Cond := .code yX1_isHouse cX1_isHouse 1 (some .boolean) :: ((wsX1_isHouse_r1 ++ wsX1_isHouse_r2) ++ wsX10 ++ wsX20)
def wsX5_init : List Cond := .code yX5_init cX5_init 2 none :: ([.methodLink RX5 1 objectInit, .instanceMethod objectInit, .code objectInit ⟨#[0xb1]⟩ 1 none, .fieldLink RX5 7 "DripSayings$Tap" "number" "I"] ++ wsX50)
def wsX3_init : List Cond := .code yX3_init cX3_init 2 none :: ([.methodLink RX3 3 objectInit, .instanceMethod objectInit, .code objectInit ⟨#[0xb1]⟩ 1 none, .classLink RX3 9 RX5, .fieldLink RX3 11 "DripSayings$Room" "taps" "[LDripSayings$Tap;", .instantiable RX5 5, .initialized RX5, .classLink RX3 20 RX0, .fieldLink RX3 22 "DripSayings$Room" "notes" "[LDripSayings$Note;", .instantiable RX0 4, .initialized RX0, .methodLink RX3 17 yX5_init, .instanceMethod yX5_init, .code yX5_init cX5_init 2 none, .methodLink RX5 1 objectInit, .fieldLink RX5 7 "DripSayings$Tap" "number" "I", .instanceMethod yX0_init, .code yX0_init cX0_init 1 none, .methodLink RX0 1 objectInit] ++ wsX30 ++ wsX50 ++ wsX00)
def wsX3_clear : List Cond := .code yX3_clear cX3_clear 1 none :: ([.fieldLink RX3 27 "DripSayings$Room" "tapCount" "I", .fieldLink RX3 31 "DripSayings$Room" "noteCount" "I", .fieldLink RX3 34 "DripSayings$Room" "changes" "I"] ++ wsX30)
def wsX3_tapAt : List Cond := .code yX3_tapAt cX3_tapAt 2 (some (.object "DripSayings$Tap")) :: ([.fieldLink RX3 27 "DripSayings$Room" "tapCount" "I", .fieldLink RX3 11 "DripSayings$Room" "taps" "[LDripSayings$Tap;"] ++ wsX30)
def wsX3_noteAt : List Cond := .code yX3_noteAt cX3_noteAt 2 (some (.object "DripSayings$Note")) :: ([.fieldLink RX3 31 "DripSayings$Room" "noteCount" "I", .fieldLink RX3 22 "DripSayings$Room" "notes" "[LDripSayings$Note;"] ++ wsX30)
def wsX5_become : List Cond := .code yX5_become cX5_become 5 none :: ([.fieldLink RX5 13 "DripSayings$Tap" "kind" "I", .fieldLink RX5 16 "DripSayings$Tap" "saying" "I", .fieldLink RX5 19 "DripSayings$Tap" "washer" "I", .fieldLink RX5 22 "DripSayings$Tap" "place" "I"] ++ wsX50)
def wsX3_addTap : List Cond := .code yX3_addTap cX3_addTap 4 none :: ([.fieldLink RX3 27 "DripSayings$Room" "tapCount" "I", .methodLink RX3 37 yX3_tapAt, .instanceMethod yX3_tapAt, .selects RX3 yX3_tapAt yX3_tapAt, .initialized RX3, .code yX3_tapAt cX3_tapAt 2 (some (.object "DripSayings$Tap")), .fieldLink RX3 11 "DripSayings$Room" "taps" "[LDripSayings$Tap;", .methodLink RX3 41 yX5_become, .instanceMethod yX5_become, .selects RX5 yX5_become yX5_become, .initialized RX5, .code yX5_become cX5_become 5 none, .fieldLink RX5 13 "DripSayings$Tap" "kind" "I", .fieldLink RX5 16 "DripSayings$Tap" "saying" "I", .fieldLink RX5 19 "DripSayings$Tap" "washer" "I", .fieldLink RX5 22 "DripSayings$Tap" "place" "I"] ++ wsX30 ++ wsX50)
def wsX3_addNote : List Cond := .code yX3_addNote cX3_addNote 5 none :: ([.fieldLink RX3 31 "DripSayings$Room" "noteCount" "I", .fieldLink RX3 49 "DripSayings$Tap" "number" "I", .fieldLink RX3 52 "DripSayings$Tap" "washer" "I", .methodLink RX3 45 yX3_noteAt, .instanceMethod yX3_noteAt, .selects RX3 yX3_noteAt yX3_noteAt, .initialized RX3, .code yX3_noteAt cX3_noteAt 2 (some (.object "DripSayings$Note")), .fieldLink RX3 22 "DripSayings$Room" "notes" "[LDripSayings$Note;", .methodLink RX3 55 yX0_become, .instanceMethod yX0_become, .selects RX0 yX0_become yX0_become, .initialized RX0, .code yX0_become cX0_become 5 none, .fieldLink RX0 7 "DripSayings$Note" "tap" "I", .fieldLink RX0 13 "DripSayings$Note" "drip" "I", .fieldLink RX0 16 "DripSayings$Note" "beat" "I", .fieldLink RX0 19 "DripSayings$Note" "washer" "I"] ++ wsX30 ++ wsX50 ++ wsX00)
def wsX3_copyFrom_r1 : List Cond := [Cond.fieldLink RX3 27 "DripSayings$Room" "tapCount" "I", Cond.fieldLink RX3 31 "DripSayings$Room" "noteCount" "I", Cond.fieldLink RX3 34 "DripSayings$Room" "changes" "I", Cond.fieldLink RX3 56 "DripSayings$Tap" "kind" "I", Cond.fieldLink RX3 59 "DripSayings$Tap" "saying" "I", Cond.fieldLink RX3 52 "DripSayings$Tap" "washer" "I", Cond.fieldLink RX3 62 "DripSayings$Tap" "place" "I", Cond.fieldLink RX3 65 "DripSayings$Note" "tap" "I", Cond.fieldLink RX3 68 "DripSayings$Note" "drip" "I", Cond.fieldLink RX3 71 "DripSayings$Note" "beat" "I", Cond.fieldLink RX3 74 "DripSayings$Note" "washer" "I", Cond.methodLink RX3 37 yX3_tapAt, Cond.instanceMethod yX3_tapAt, Cond.selects RX3 yX3_tapAt yX3_tapAt, Cond.initialized RX3, Cond.code yX3_tapAt cX3_tapAt 2 (some (.object "DripSayings$Tap")), Cond.fieldLink RX3 11 "DripSayings$Room" "taps" "[LDripSayings$Tap;", Cond.methodLink RX3 41 yX5_become, Cond.instanceMethod yX5_become, Cond.selects RX5 yX5_become yX5_become, Cond.initialized RX5, Cond.code yX5_become cX5_become 5 none, Cond.fieldLink RX5 13 "DripSayings$Tap" "kind" "I", Cond.fieldLink RX5 16 "DripSayings$Tap" "saying" "I"]
def wsX3_copyFrom_r2 : List Cond := [Cond.fieldLink RX5 19 "DripSayings$Tap" "washer" "I", Cond.fieldLink RX5 22 "DripSayings$Tap" "place" "I", Cond.methodLink RX3 45 yX3_noteAt, Cond.instanceMethod yX3_noteAt, Cond.selects RX3 yX3_noteAt yX3_noteAt, Cond.code yX3_noteAt cX3_noteAt 2 (some (.object "DripSayings$Note")), Cond.fieldLink RX3 22 "DripSayings$Room" "notes" "[LDripSayings$Note;", Cond.methodLink RX3 55 yX0_become, Cond.instanceMethod yX0_become, Cond.selects RX0 yX0_become yX0_become, Cond.initialized RX0, Cond.code yX0_become cX0_become 5 none, Cond.fieldLink RX0 7 "DripSayings$Note" "tap" "I", Cond.fieldLink RX0 13 "DripSayings$Note" "drip" "I", Cond.fieldLink RX0 16 "DripSayings$Note" "beat" "I", Cond.fieldLink RX0 19 "DripSayings$Note" "washer" "I"]
def wsX3_copyFrom : List Cond := .code yX3_copyFrom cX3_copyFrom 5 none :: ((wsX3_copyFrom_r1 ++ wsX3_copyFrom_r2) ++ wsX30 ++ wsX50 ++ wsX00)
def wsX3_washerCount : List Cond := .code yX3_washerCount cX3_washerCount 4 (some .int) :: ([.fieldLink RX3 27 "DripSayings$Room" "tapCount" "I", .fieldLink RX3 52 "DripSayings$Tap" "washer" "I", .methodLink RX3 37 yX3_tapAt, .instanceMethod yX3_tapAt, .selects RX3 yX3_tapAt yX3_tapAt, .initialized RX3, .code yX3_tapAt cX3_tapAt 2 (some (.object "DripSayings$Tap")), .fieldLink RX3 11 "DripSayings$Room" "taps" "[LDripSayings$Tap;"] ++ wsX30 ++ wsX50)
def wsX3_heardCount : List Cond := .code yX3_heardCount cX3_heardCount 4 (some .int) :: ([.fieldLink RX3 27 "DripSayings$Room" "tapCount" "I", .fieldLink RX3 62 "DripSayings$Tap" "place" "I", .methodLink RX3 37 yX3_tapAt, .instanceMethod yX3_tapAt, .selects RX3 yX3_tapAt yX3_tapAt, .initialized RX3, .code yX3_tapAt cX3_tapAt 2 (some (.object "DripSayings$Tap")), .fieldLink RX3 11 "DripSayings$Room" "taps" "[LDripSayings$Tap;"] ++ wsX30 ++ wsX50)
def wsX4_init : List Cond := .code yX4_init cX4_init 1 none :: ([.methodLink RX4 3 objectInit, .instanceMethod objectInit, .code objectInit ⟨#[0xb1]⟩ 1 none, .arrayClass .int, .fieldLink RX4 9 "DripSayings$Sayings" "beats" "[I", .fieldLink RX4 15 "DripSayings$Sayings" "lengths" "[I"] ++ wsX40)
def wsX4_clear : List Cond := .code yX4_clear cX4_clear 2 none :: ([.fieldLink RX4 9 "DripSayings$Sayings" "beats" "[I", .fieldLink RX4 15 "DripSayings$Sayings" "lengths" "[I"] ++ wsX40)
def wsX4_addBeat : List Cond := .code yX4_addBeat cX4_addBeat 4 none :: ([.fieldLink RX4 15 "DripSayings$Sayings" "lengths" "[I", .fieldLink RX4 9 "DripSayings$Sayings" "beats" "[I"] ++ wsX40)
def wsX4_lengthOf : List Cond := .code yX4_lengthOf cX4_lengthOf 2 (some .int) :: ([.fieldLink RX4 15 "DripSayings$Sayings" "lengths" "[I"] ++ wsX40)
def wsX4_beatOf : List Cond := .code yX4_beatOf cX4_beatOf 4 (some .int) :: ([.fieldLink RX4 9 "DripSayings$Sayings" "beats" "[I"] ++ wsX40)
def wsX4_beatCount : List Cond := .code yX4_beatCount cX4_beatCount 3 (some .int) :: ([.fieldLink RX4 15 "DripSayings$Sayings" "lengths" "[I"] ++ wsX40)
def wsX4_dripBy : List Cond := .code yX4_dripBy cX4_dripBy 8 (some .int) :: ([.methodLink RX4 18 yX4_lengthOf, .instanceMethod yX4_lengthOf, .selects RX4 yX4_lengthOf yX4_lengthOf, .initialized RX4, .code yX4_lengthOf cX4_lengthOf 2 (some .int), .fieldLink RX4 15 "DripSayings$Sayings" "lengths" "[I", .methodLink RX4 22 yX4_beatOf, .instanceMethod yX4_beatOf, .selects RX4 yX4_beatOf yX4_beatOf, .code yX4_beatOf cX4_beatOf 4 (some .int), .fieldLink RX4 9 "DripSayings$Sayings" "beats" "[I"] ++ wsX40)
def wsX6_init_r1 : List Cond := [Cond.methodLink RX6 1 objectInit, Cond.instanceMethod objectInit, Cond.code objectInit ⟨#[0xb1]⟩ 1 none, Cond.classLink RX6 7 RX1, Cond.instantiable RX1 3, Cond.initialized RX1, Cond.fieldLink RX6 10 "DripSayings" "page" "LDripSayings$Page;", Cond.classLink RX6 16 RX4, Cond.instantiable RX4 2, Cond.initialized RX4, Cond.fieldLink RX6 19 "DripSayings" "sayings" "LDripSayings$Sayings;", Cond.classLink RX6 23 RX3, Cond.instantiable RX3 5, Cond.initialized RX3, Cond.fieldLink RX6 26 "DripSayings" "room" "LDripSayings$Room;", Cond.fieldLink RX6 30 "DripSayings" "kept" "LDripSayings$Room;", Cond.methodLink RX6 9 yX1_init, Cond.instanceMethod yX1_init, Cond.code yX1_init cX1_init 1 none, Cond.methodLink RX1 3 objectInit, Cond.arrayClass .int, Cond.fieldLink RX1 9 "DripSayings$Page" "codes" "[I", Cond.classLink RX1 15 RX2, Cond.instantiable RX2 3]
def wsX6_init_r2 : List Cond := [Cond.initialized RX2, Cond.fieldLink RX1 18 "DripSayings$Page" "reader" "LDripSayings$Reader;", Cond.instanceMethod yX2_init, Cond.code yX2_init cX2_init 1 none, Cond.methodLink RX2 3 objectInit, Cond.methodLink RX6 18 yX4_init, Cond.instanceMethod yX4_init, Cond.code yX4_init cX4_init 1 none, Cond.methodLink RX4 3 objectInit, Cond.fieldLink RX4 9 "DripSayings$Sayings" "beats" "[I", Cond.fieldLink RX4 15 "DripSayings$Sayings" "lengths" "[I", Cond.methodLink RX6 25 yX3_init, Cond.instanceMethod yX3_init, Cond.code yX3_init cX3_init 2 none, Cond.methodLink RX3 3 objectInit, Cond.classLink RX3 9 RX5, Cond.fieldLink RX3 11 "DripSayings$Room" "taps" "[LDripSayings$Tap;", Cond.instantiable RX5 5, Cond.initialized RX5, Cond.classLink RX3 20 RX0, Cond.fieldLink RX3 22 "DripSayings$Room" "notes" "[LDripSayings$Note;", Cond.instantiable RX0 4, Cond.initialized RX0, Cond.methodLink RX3 17 yX5_init]
def wsX6_init_r3 : List Cond := [Cond.instanceMethod yX5_init, Cond.code yX5_init cX5_init 2 none, Cond.methodLink RX5 1 objectInit, Cond.fieldLink RX5 7 "DripSayings$Tap" "number" "I", Cond.instanceMethod yX0_init, Cond.code yX0_init cX0_init 1 none, Cond.methodLink RX0 1 objectInit]
def wsX6_init : List Cond := .code yX6_init cX6_init 1 none :: ((wsX6_init_r1 ++ (wsX6_init_r2 ++ wsX6_init_r3)) ++ wsX10 ++ wsX60 ++ wsX40 ++ wsX30 ++ wsX20 ++ wsX50 ++ wsX00)
def wsX6_letter : List Cond := .code yX6_letter cX6_letter 2 (some .int) :: ([.fieldLink RX6 10 "DripSayings" "page" "LDripSayings$Page;", .fieldLink RX6 33 "DripSayings$Page" "size" "I", .methodLink RX6 37 yX1_add, .instanceMethod yX1_add, .selects RX1 yX1_add yX1_add, .initialized RX1, .code yX1_add cX1_add 2 none, .fieldLink RX1 22 "DripSayings$Page" "size" "I", .fieldLink RX1 9 "DripSayings$Page" "codes" "[I"] ++ wsX60 ++ wsX10)
def wsX6_blank : List Cond := .code yX6_blank cX6_blank 2 (some .int) :: ([.fieldLink RX6 10 "DripSayings" "page" "LDripSayings$Page;", .fieldLink RX6 33 "DripSayings$Page" "size" "I", .methodLink RX6 41 yX1_clear, .instanceMethod yX1_clear, .selects RX1 yX1_clear yX1_clear, .initialized RX1, .code yX1_clear cX1_clear 1 none, .fieldLink RX1 22 "DripSayings$Page" "size" "I"] ++ wsX60 ++ wsX10)
def wsX6_fault_r1 : List Cond := [Cond.fieldLink RX6 10 "DripSayings" "page" "LDripSayings$Page;", Cond.methodLink RX6 44 yX1_firstFault, Cond.instanceMethod yX1_firstFault, Cond.selects RX1 yX1_firstFault yX1_firstFault, Cond.initialized RX1, Cond.code yX1_firstFault cX1_firstFault 2 (some .int), Cond.fieldLink RX1 18 "DripSayings$Page" "reader" "LDripSayings$Reader;", Cond.fieldLink RX1 22 "DripSayings$Page" "size" "I", Cond.methodLink RX1 26 yX2_begin, Cond.instanceMethod yX2_begin, Cond.selects RX2 yX2_begin yX2_begin, Cond.initialized RX2, Cond.code yX2_begin cX2_begin 1 none, Cond.fieldLink RX2 9 "DripSayings$Reader" "saying" "I", Cond.fieldLink RX2 15 "DripSayings$Reader" "taps" "I", Cond.fieldLink RX2 18 "DripSayings$Reader" "letters" "I", Cond.methodLink RX1 29 yX1_codeAt, Cond.instanceMethod yX1_codeAt, Cond.selects RX1 yX1_codeAt yX1_codeAt, Cond.code yX1_codeAt cX1_codeAt 2 (some .int), Cond.fieldLink RX1 9 "DripSayings$Page" "codes" "[I", Cond.methodLink RX1 33 yX2_takes, Cond.instanceMethod yX2_takes, Cond.selects RX2 yX2_takes yX2_takes]
def wsX6_fault_r2 : List Cond := [Cond.code yX2_takes cX2_takes 2 (some .boolean), Cond.methodLink RX2 21 yX2_takesInSaying, Cond.instanceMethod yX2_takesInSaying, Cond.selects RX2 yX2_takesInSaying yX2_takesInSaying, Cond.code yX2_takesInSaying cX2_takesInSaying 3 (some .boolean), Cond.methodLink RX2 25 yX2_takesInTap, Cond.instanceMethod yX2_takesInTap, Cond.selects RX2 yX2_takesInTap yX2_takesInTap, Cond.code yX2_takesInTap cX2_takesInTap 2 (some .boolean), Cond.static yX6_kindOfLetter, Cond.initialized RX6, Cond.code yX6_kindOfLetter cX6_kindOfLetter 1 (some .int), Cond.static yX6_isSaying, Cond.code yX6_isSaying cX6_isSaying 1 (some .boolean)]
def wsX6_fault : List Cond := .code yX6_fault cX6_fault 1 (some .int) :: ((wsX6_fault_r1 ++ wsX6_fault_r2) ++ wsX60 ++ wsX10 ++ wsX20)
def wsX6_readPage_r1 : List Cond := [Cond.fieldLink RX6 10 "DripSayings" "page" "LDripSayings$Page;", Cond.fieldLink RX6 33 "DripSayings$Page" "size" "I", Cond.fieldLink RX6 19 "DripSayings" "sayings" "LDripSayings$Sayings;", Cond.fieldLink RX6 26 "DripSayings" "room" "LDripSayings$Room;", Cond.methodLink RX6 153 yX1_codeAt, Cond.instanceMethod yX1_codeAt, Cond.selects RX1 yX1_codeAt yX1_codeAt, Cond.initialized RX1, Cond.code yX1_codeAt cX1_codeAt 2 (some .int), Cond.fieldLink RX1 22 "DripSayings$Page" "size" "I", Cond.fieldLink RX1 9 "DripSayings$Page" "codes" "[I", Cond.methodLink RX6 156 yX4_addBeat, Cond.instanceMethod yX4_addBeat, Cond.selects RX4 yX4_addBeat yX4_addBeat, Cond.initialized RX4, Cond.code yX4_addBeat cX4_addBeat 4 none, Cond.fieldLink RX4 15 "DripSayings$Sayings" "lengths" "[I", Cond.fieldLink RX4 9 "DripSayings$Sayings" "beats" "[I", Cond.methodLink RX6 159 yX6_kindOfLetter, Cond.static yX6_kindOfLetter, Cond.initialized RX6, Cond.code yX6_kindOfLetter cX6_kindOfLetter 1 (some .int), Cond.methodLink RX6 85 yX3_addTap, Cond.instanceMethod yX3_addTap]
def wsX6_readPage_r2 : List Cond := [Cond.selects RX3 yX3_addTap yX3_addTap, Cond.initialized RX3, Cond.code yX3_addTap cX3_addTap 4 none, Cond.fieldLink RX3 27 "DripSayings$Room" "tapCount" "I", Cond.methodLink RX3 37 yX3_tapAt, Cond.instanceMethod yX3_tapAt, Cond.selects RX3 yX3_tapAt yX3_tapAt, Cond.code yX3_tapAt cX3_tapAt 2 (some (.object "DripSayings$Tap")), Cond.fieldLink RX3 11 "DripSayings$Room" "taps" "[LDripSayings$Tap;", Cond.methodLink RX3 41 yX5_become, Cond.instanceMethod yX5_become, Cond.selects RX5 yX5_become yX5_become, Cond.initialized RX5, Cond.code yX5_become cX5_become 5 none, Cond.fieldLink RX5 13 "DripSayings$Tap" "kind" "I", Cond.fieldLink RX5 16 "DripSayings$Tap" "saying" "I", Cond.fieldLink RX5 19 "DripSayings$Tap" "washer" "I", Cond.fieldLink RX5 22 "DripSayings$Tap" "place" "I"]
def wsX6_readPage : List Cond := .code yX6_readPage cX6_readPage 6 none :: ((wsX6_readPage_r1 ++ wsX6_readPage_r2) ++ wsX60 ++ wsX10 ++ wsX40 ++ wsX30 ++ wsX50)
def wsX6_house_r1 : List Cond := [Cond.fieldLink RX6 10 "DripSayings" "page" "LDripSayings$Page;", Cond.fieldLink RX6 19 "DripSayings" "sayings" "LDripSayings$Sayings;", Cond.fieldLink RX6 26 "DripSayings" "room" "LDripSayings$Room;", Cond.fieldLink RX6 57 "DripSayings" "hasHouse" "Z", Cond.fieldLink RX6 61 "DripSayings" "hasImage" "Z", Cond.fieldLink RX6 64 "DripSayings" "housesRead" "I", Cond.fieldLink RX6 67 "DripSayings$Room" "tapCount" "I", Cond.methodLink RX6 48 yX1_isHouse, Cond.instanceMethod yX1_isHouse, Cond.selects RX1 yX1_isHouse yX1_isHouse, Cond.initialized RX1, Cond.code yX1_isHouse cX1_isHouse 1 (some .boolean), Cond.fieldLink RX1 22 "DripSayings$Page" "size" "I", Cond.fieldLink RX1 18 "DripSayings$Page" "reader" "LDripSayings$Reader;", Cond.methodLink RX1 37 yX1_firstFault, Cond.instanceMethod yX1_firstFault, Cond.selects RX1 yX1_firstFault yX1_firstFault, Cond.code yX1_firstFault cX1_firstFault 2 (some .int), Cond.methodLink RX1 26 yX2_begin, Cond.instanceMethod yX2_begin, Cond.selects RX2 yX2_begin yX2_begin, Cond.initialized RX2, Cond.code yX2_begin cX2_begin 1 none, Cond.fieldLink RX2 9 "DripSayings$Reader" "saying" "I"]
def wsX6_house_r2 : List Cond := [Cond.fieldLink RX2 15 "DripSayings$Reader" "taps" "I", Cond.fieldLink RX2 18 "DripSayings$Reader" "letters" "I", Cond.methodLink RX1 29 yX1_codeAt, Cond.instanceMethod yX1_codeAt, Cond.selects RX1 yX1_codeAt yX1_codeAt, Cond.code yX1_codeAt cX1_codeAt 2 (some .int), Cond.fieldLink RX1 9 "DripSayings$Page" "codes" "[I", Cond.methodLink RX1 33 yX2_takes, Cond.instanceMethod yX2_takes, Cond.selects RX2 yX2_takes yX2_takes, Cond.code yX2_takes cX2_takes 2 (some .boolean), Cond.methodLink RX2 21 yX2_takesInSaying, Cond.instanceMethod yX2_takesInSaying, Cond.selects RX2 yX2_takesInSaying yX2_takesInSaying, Cond.code yX2_takesInSaying cX2_takesInSaying 3 (some .boolean), Cond.methodLink RX2 25 yX2_takesInTap, Cond.instanceMethod yX2_takesInTap, Cond.selects RX2 yX2_takesInTap yX2_takesInTap, Cond.code yX2_takesInTap cX2_takesInTap 2 (some .boolean), Cond.static yX6_kindOfLetter, Cond.initialized RX6, Cond.code yX6_kindOfLetter cX6_kindOfLetter 1 (some .int), Cond.static yX6_isSaying, Cond.code yX6_isSaying cX6_isSaying 1 (some .boolean)]
def wsX6_house_r3 : List Cond := [Cond.methodLink RX1 41 yX2_isAtEnd, Cond.instanceMethod yX2_isAtEnd, Cond.selects RX2 yX2_isAtEnd yX2_isAtEnd, Cond.code yX2_isAtEnd cX2_isAtEnd 1 (some .boolean), Cond.methodLink RX6 52 yX4_clear, Cond.instanceMethod yX4_clear, Cond.selects RX4 yX4_clear yX4_clear, Cond.initialized RX4, Cond.code yX4_clear cX4_clear 2 none, Cond.fieldLink RX4 9 "DripSayings$Sayings" "beats" "[I", Cond.fieldLink RX4 15 "DripSayings$Sayings" "lengths" "[I", Cond.methodLink RX6 53 yX3_clear, Cond.instanceMethod yX3_clear, Cond.selects RX3 yX3_clear yX3_clear, Cond.initialized RX3, Cond.code yX3_clear cX3_clear 1 none, Cond.fieldLink RX3 27 "DripSayings$Room" "tapCount" "I", Cond.fieldLink RX3 31 "DripSayings$Room" "noteCount" "I", Cond.fieldLink RX3 34 "DripSayings$Room" "changes" "I", Cond.methodLink RX6 54 yX6_readPage, Cond.instanceMethod yX6_readPage, Cond.selects RX6 yX6_readPage yX6_readPage, Cond.code yX6_readPage cX6_readPage 6 none, Cond.fieldLink RX6 33 "DripSayings$Page" "size" "I"]
def wsX6_house_r4 : List Cond := [Cond.methodLink RX6 153 yX1_codeAt, Cond.methodLink RX6 156 yX4_addBeat, Cond.instanceMethod yX4_addBeat, Cond.selects RX4 yX4_addBeat yX4_addBeat, Cond.code yX4_addBeat cX4_addBeat 4 none, Cond.methodLink RX6 159 yX6_kindOfLetter, Cond.methodLink RX6 85 yX3_addTap, Cond.instanceMethod yX3_addTap, Cond.selects RX3 yX3_addTap yX3_addTap, Cond.code yX3_addTap cX3_addTap 4 none, Cond.methodLink RX3 37 yX3_tapAt, Cond.instanceMethod yX3_tapAt, Cond.selects RX3 yX3_tapAt yX3_tapAt, Cond.code yX3_tapAt cX3_tapAt 2 (some (.object "DripSayings$Tap")), Cond.fieldLink RX3 11 "DripSayings$Room" "taps" "[LDripSayings$Tap;", Cond.methodLink RX3 41 yX5_become, Cond.instanceMethod yX5_become, Cond.selects RX5 yX5_become yX5_become, Cond.initialized RX5, Cond.code yX5_become cX5_become 5 none, Cond.fieldLink RX5 13 "DripSayings$Tap" "kind" "I", Cond.fieldLink RX5 16 "DripSayings$Tap" "saying" "I", Cond.fieldLink RX5 19 "DripSayings$Tap" "washer" "I", Cond.fieldLink RX5 22 "DripSayings$Tap" "place" "I"]
def wsX6_house_r5 : List Cond := [Cond.methodLink RX6 41 yX1_clear, Cond.instanceMethod yX1_clear, Cond.selects RX1 yX1_clear yX1_clear, Cond.code yX1_clear cX1_clear 1 none]
def wsX6_house : List Cond := .code yX6_house cX6_house 1 (some .int) :: ((wsX6_house_r1 ++ (wsX6_house_r2 ++ (wsX6_house_r3 ++ (wsX6_house_r4 ++ wsX6_house_r5)))) ++ wsX60 ++ wsX30 ++ wsX10 ++ wsX20 ++ wsX40 ++ wsX50)
def wsX6_saying : List Cond := .code yX6_saying cX6_saying 3 (some .int) :: ([.fieldLink RX6 57 "DripSayings" "hasHouse" "Z", .fieldLink RX6 19 "DripSayings" "sayings" "LDripSayings$Sayings;", .methodLink RX6 70 yX6_isSaying, .static yX6_isSaying, .initialized RX6, .code yX6_isSaying cX6_isSaying 1 (some .boolean), .methodLink RX6 74 yX4_lengthOf, .instanceMethod yX4_lengthOf, .selects RX4 yX4_lengthOf yX4_lengthOf, .initialized RX4, .code yX4_lengthOf cX4_lengthOf 2 (some .int), .fieldLink RX4 15 "DripSayings$Sayings" "lengths" "[I", .methodLink RX6 78 yX4_beatOf, .instanceMethod yX4_beatOf, .selects RX4 yX4_beatOf yX4_beatOf, .code yX4_beatOf cX4_beatOf 4 (some .int), .fieldLink RX4 9 "DripSayings$Sayings" "beats" "[I"] ++ wsX60 ++ wsX40)
def wsX6_isKind : List Cond := .code yX6_isKind cX6_isKind 1 (some .boolean) :: ([])
def wsX6_tap_r1 : List Cond := [Cond.fieldLink RX6 57 "DripSayings" "hasHouse" "Z", Cond.fieldLink RX6 26 "DripSayings" "room" "LDripSayings$Room;", Cond.fieldLink RX6 67 "DripSayings$Room" "tapCount" "I", Cond.methodLink RX6 82 yX6_isKind, Cond.static yX6_isKind, Cond.initialized RX6, Cond.code yX6_isKind cX6_isKind 1 (some .boolean), Cond.methodLink RX6 70 yX6_isSaying, Cond.static yX6_isSaying, Cond.code yX6_isSaying cX6_isSaying 1 (some .boolean), Cond.methodLink RX6 85 yX3_addTap, Cond.instanceMethod yX3_addTap, Cond.selects RX3 yX3_addTap yX3_addTap, Cond.initialized RX3, Cond.code yX3_addTap cX3_addTap 4 none, Cond.fieldLink RX3 27 "DripSayings$Room" "tapCount" "I", Cond.methodLink RX3 37 yX3_tapAt, Cond.instanceMethod yX3_tapAt, Cond.selects RX3 yX3_tapAt yX3_tapAt, Cond.code yX3_tapAt cX3_tapAt 2 (some (.object "DripSayings$Tap")), Cond.fieldLink RX3 11 "DripSayings$Room" "taps" "[LDripSayings$Tap;", Cond.methodLink RX3 41 yX5_become, Cond.instanceMethod yX5_become, Cond.selects RX5 yX5_become yX5_become]
def wsX6_tap_r2 : List Cond := [Cond.initialized RX5, Cond.code yX5_become cX5_become 5 none, Cond.fieldLink RX5 13 "DripSayings$Tap" "kind" "I", Cond.fieldLink RX5 16 "DripSayings$Tap" "saying" "I", Cond.fieldLink RX5 19 "DripSayings$Tap" "washer" "I", Cond.fieldLink RX5 22 "DripSayings$Tap" "place" "I"]
def wsX6_tap : List Cond := .code yX6_tap cX6_tap 3 (some .int) :: ((wsX6_tap_r1 ++ wsX6_tap_r2) ++ wsX60 ++ wsX30 ++ wsX50)
def wsX6_enoughToTell : List Cond := .code yX6_enoughToTell cX6_enoughToTell 7 (some .int) :: ([.fieldLink RX6 19 "DripSayings" "sayings" "LDripSayings$Sayings;", .fieldLink RX6 97 "DripSayings$Tap" "kind" "I", .fieldLink RX6 111 "DripSayings$Tap" "washer" "I", .fieldLink RX6 105 "DripSayings$Tap" "place" "I", .methodLink RX6 162 yX4_dripBy, .instanceMethod yX4_dripBy, .selects RX4 yX4_dripBy yX4_dripBy, .initialized RX4, .code yX4_dripBy cX4_dripBy 8 (some .int), .methodLink RX4 18 yX4_lengthOf, .instanceMethod yX4_lengthOf, .selects RX4 yX4_lengthOf yX4_lengthOf, .code yX4_lengthOf cX4_lengthOf 2 (some .int), .fieldLink RX4 15 "DripSayings$Sayings" "lengths" "[I", .methodLink RX4 22 yX4_beatOf, .instanceMethod yX4_beatOf, .selects RX4 yX4_beatOf yX4_beatOf, .code yX4_beatOf cX4_beatOf 4 (some .int), .fieldLink RX4 9 "DripSayings$Sayings" "beats" "[I"] ++ wsX60 ++ wsX50 ++ wsX40)
def wsX6_sureOf_r1 : List Cond := [Cond.methodLink RX6 185 Lib.Math.max.name, Cond.static Lib.Math.max.name, Cond.initialized "java/lang/Math", Cond.code Lib.Math.max.name Lib.Math.max.code 2 (some .int), Cond.methodLink RX6 182 yX6_enoughToTell, Cond.instanceMethod yX6_enoughToTell, Cond.selects RX6 yX6_enoughToTell yX6_enoughToTell, Cond.initialized RX6, Cond.code yX6_enoughToTell cX6_enoughToTell 7 (some .int), Cond.fieldLink RX6 19 "DripSayings" "sayings" "LDripSayings$Sayings;", Cond.fieldLink RX6 97 "DripSayings$Tap" "kind" "I", Cond.fieldLink RX6 111 "DripSayings$Tap" "washer" "I", Cond.fieldLink RX6 105 "DripSayings$Tap" "place" "I", Cond.methodLink RX6 162 yX4_dripBy, Cond.instanceMethod yX4_dripBy, Cond.selects RX4 yX4_dripBy yX4_dripBy, Cond.initialized RX4, Cond.code yX4_dripBy cX4_dripBy 8 (some .int), Cond.methodLink RX4 18 yX4_lengthOf, Cond.instanceMethod yX4_lengthOf, Cond.selects RX4 yX4_lengthOf yX4_lengthOf, Cond.code yX4_lengthOf cX4_lengthOf 2 (some .int), Cond.fieldLink RX4 15 "DripSayings$Sayings" "lengths" "[I", Cond.methodLink RX4 22 yX4_beatOf]
def wsX6_sureOf_r2 : List Cond := [Cond.instanceMethod yX4_beatOf, Cond.selects RX4 yX4_beatOf yX4_beatOf, Cond.code yX4_beatOf cX4_beatOf 4 (some .int), Cond.fieldLink RX4 9 "DripSayings$Sayings" "beats" "[I"]
def wsX6_sureOf : List Cond := .code yX6_sureOf cX6_sureOf 6 (some .int) :: ((wsX6_sureOf_r1 ++ wsX6_sureOf_r2) ++ wsX60 ++ wsX50 ++ wsX40)
def wsX6_slipsOf_r1 : List Cond := [Cond.fieldLink RX6 26 "DripSayings" "room" "LDripSayings$Room;", Cond.fieldLink RX6 121 "DripSayings$Room" "noteCount" "I", Cond.fieldLink RX6 194 "DripSayings$Note" "tap" "I", Cond.fieldLink RX6 199 "DripSayings$Tap" "number" "I", Cond.fieldLink RX6 19 "DripSayings" "sayings" "LDripSayings$Sayings;", Cond.fieldLink RX6 97 "DripSayings$Tap" "kind" "I", Cond.fieldLink RX6 202 "DripSayings$Note" "washer" "I", Cond.fieldLink RX6 203 "DripSayings$Note" "drip" "I", Cond.fieldLink RX6 206 "DripSayings$Note" "beat" "I", Cond.methodLink RX6 190 yX3_noteAt, Cond.instanceMethod yX3_noteAt, Cond.selects RX3 yX3_noteAt yX3_noteAt, Cond.initialized RX3, Cond.code yX3_noteAt cX3_noteAt 2 (some (.object "DripSayings$Note")), Cond.fieldLink RX3 31 "DripSayings$Room" "noteCount" "I", Cond.fieldLink RX3 22 "DripSayings$Room" "notes" "[LDripSayings$Note;", Cond.methodLink RX6 162 yX4_dripBy, Cond.instanceMethod yX4_dripBy, Cond.selects RX4 yX4_dripBy yX4_dripBy, Cond.initialized RX4, Cond.code yX4_dripBy cX4_dripBy 8 (some .int), Cond.methodLink RX4 18 yX4_lengthOf, Cond.instanceMethod yX4_lengthOf, Cond.selects RX4 yX4_lengthOf yX4_lengthOf]
def wsX6_slipsOf_r2 : List Cond := [Cond.code yX4_lengthOf cX4_lengthOf 2 (some .int), Cond.fieldLink RX4 15 "DripSayings$Sayings" "lengths" "[I", Cond.methodLink RX4 22 yX4_beatOf, Cond.instanceMethod yX4_beatOf, Cond.selects RX4 yX4_beatOf yX4_beatOf, Cond.code yX4_beatOf cX4_beatOf 4 (some .int), Cond.fieldLink RX4 9 "DripSayings$Sayings" "beats" "[I"]
def wsX6_slipsOf : List Cond := .code yX6_slipsOf cX6_slipsOf 6 (some .int) :: ((wsX6_slipsOf_r1 ++ wsX6_slipsOf_r2) ++ wsX60 ++ wsX30 ++ wsX00 ++ wsX50 ++ wsX40)
def wsX6_saysOf_r1 : List Cond := [Cond.methodLink RX6 176 yX6_slipsOf, Cond.instanceMethod yX6_slipsOf, Cond.selects RX6 yX6_slipsOf yX6_slipsOf, Cond.initialized RX6, Cond.code yX6_slipsOf cX6_slipsOf 6 (some .int), Cond.fieldLink RX6 26 "DripSayings" "room" "LDripSayings$Room;", Cond.fieldLink RX6 121 "DripSayings$Room" "noteCount" "I", Cond.fieldLink RX6 194 "DripSayings$Note" "tap" "I", Cond.fieldLink RX6 199 "DripSayings$Tap" "number" "I", Cond.fieldLink RX6 19 "DripSayings" "sayings" "LDripSayings$Sayings;", Cond.fieldLink RX6 97 "DripSayings$Tap" "kind" "I", Cond.fieldLink RX6 202 "DripSayings$Note" "washer" "I", Cond.fieldLink RX6 203 "DripSayings$Note" "drip" "I", Cond.fieldLink RX6 206 "DripSayings$Note" "beat" "I", Cond.methodLink RX6 190 yX3_noteAt, Cond.instanceMethod yX3_noteAt, Cond.selects RX3 yX3_noteAt yX3_noteAt, Cond.initialized RX3, Cond.code yX3_noteAt cX3_noteAt 2 (some (.object "DripSayings$Note")), Cond.fieldLink RX3 31 "DripSayings$Room" "noteCount" "I", Cond.fieldLink RX3 22 "DripSayings$Room" "notes" "[LDripSayings$Note;", Cond.methodLink RX6 162 yX4_dripBy, Cond.instanceMethod yX4_dripBy, Cond.selects RX4 yX4_dripBy yX4_dripBy]
def wsX6_saysOf_r2 : List Cond := [Cond.initialized RX4, Cond.code yX4_dripBy cX4_dripBy 8 (some .int), Cond.methodLink RX4 18 yX4_lengthOf, Cond.instanceMethod yX4_lengthOf, Cond.selects RX4 yX4_lengthOf yX4_lengthOf, Cond.code yX4_lengthOf cX4_lengthOf 2 (some .int), Cond.fieldLink RX4 15 "DripSayings$Sayings" "lengths" "[I", Cond.methodLink RX4 22 yX4_beatOf, Cond.instanceMethod yX4_beatOf, Cond.selects RX4 yX4_beatOf yX4_beatOf, Cond.code yX4_beatOf cX4_beatOf 4 (some .int), Cond.fieldLink RX4 9 "DripSayings$Sayings" "beats" "[I"]
def wsX6_saysOf : List Cond := .code yX6_saysOf cX6_saysOf 4 (some .int) :: ((wsX6_saysOf_r1 ++ wsX6_saysOf_r2) ++ wsX60 ++ wsX30 ++ wsX00 ++ wsX50 ++ wsX40)
def wsX6_likelyOf_r1 : List Cond := [Cond.methodLink RX6 176 yX6_slipsOf, Cond.instanceMethod yX6_slipsOf, Cond.selects RX6 yX6_slipsOf yX6_slipsOf, Cond.initialized RX6, Cond.code yX6_slipsOf cX6_slipsOf 6 (some .int), Cond.fieldLink RX6 26 "DripSayings" "room" "LDripSayings$Room;", Cond.fieldLink RX6 121 "DripSayings$Room" "noteCount" "I", Cond.fieldLink RX6 194 "DripSayings$Note" "tap" "I", Cond.fieldLink RX6 199 "DripSayings$Tap" "number" "I", Cond.fieldLink RX6 19 "DripSayings" "sayings" "LDripSayings$Sayings;", Cond.fieldLink RX6 97 "DripSayings$Tap" "kind" "I", Cond.fieldLink RX6 202 "DripSayings$Note" "washer" "I", Cond.fieldLink RX6 203 "DripSayings$Note" "drip" "I", Cond.fieldLink RX6 206 "DripSayings$Note" "beat" "I", Cond.methodLink RX6 190 yX3_noteAt, Cond.instanceMethod yX3_noteAt, Cond.selects RX3 yX3_noteAt yX3_noteAt, Cond.initialized RX3, Cond.code yX3_noteAt cX3_noteAt 2 (some (.object "DripSayings$Note")), Cond.fieldLink RX3 31 "DripSayings$Room" "noteCount" "I", Cond.fieldLink RX3 22 "DripSayings$Room" "notes" "[LDripSayings$Note;", Cond.methodLink RX6 162 yX4_dripBy, Cond.instanceMethod yX4_dripBy, Cond.selects RX4 yX4_dripBy yX4_dripBy]
def wsX6_likelyOf_r2 : List Cond := [Cond.initialized RX4, Cond.code yX4_dripBy cX4_dripBy 8 (some .int), Cond.methodLink RX4 18 yX4_lengthOf, Cond.instanceMethod yX4_lengthOf, Cond.selects RX4 yX4_lengthOf yX4_lengthOf, Cond.code yX4_lengthOf cX4_lengthOf 2 (some .int), Cond.fieldLink RX4 15 "DripSayings$Sayings" "lengths" "[I", Cond.methodLink RX4 22 yX4_beatOf, Cond.instanceMethod yX4_beatOf, Cond.selects RX4 yX4_beatOf yX4_beatOf, Cond.code yX4_beatOf cX4_beatOf 4 (some .int), Cond.fieldLink RX4 9 "DripSayings$Sayings" "beats" "[I"]
def wsX6_likelyOf : List Cond := .code yX6_likelyOf cX6_likelyOf 4 (some .int) :: ((wsX6_likelyOf_r1 ++ wsX6_likelyOf_r2) ++ wsX60 ++ wsX30 ++ wsX00 ++ wsX50 ++ wsX40)
def wsX6_leftAtWorst : List Cond := .code yX6_leftAtWorst cX6_leftAtWorst 7 (some .int) :: ([.fieldLink RX6 19 "DripSayings" "sayings" "LDripSayings$Sayings;", .fieldLink RX6 97 "DripSayings$Tap" "kind" "I", .fieldLink RX6 111 "DripSayings$Tap" "washer" "I", .fieldLink RX6 105 "DripSayings$Tap" "place" "I", .methodLink RX6 185 Lib.Math.max.name, .static Lib.Math.max.name, .initialized "java/lang/Math", .code Lib.Math.max.name Lib.Math.max.code 2 (some .int), .methodLink RX6 162 yX4_dripBy, .instanceMethod yX4_dripBy, .selects RX4 yX4_dripBy yX4_dripBy, .initialized RX4, .code yX4_dripBy cX4_dripBy 8 (some .int), .methodLink RX4 18 yX4_lengthOf, .instanceMethod yX4_lengthOf, .selects RX4 yX4_lengthOf yX4_lengthOf, .code yX4_lengthOf cX4_lengthOf 2 (some .int), .fieldLink RX4 15 "DripSayings$Sayings" "lengths" "[I", .methodLink RX4 22 yX4_beatOf, .instanceMethod yX4_beatOf, .selects RX4 yX4_beatOf yX4_beatOf, .code yX4_beatOf cX4_beatOf 4 (some .int), .fieldLink RX4 9 "DripSayings$Sayings" "beats" "[I"] ++ wsX60 ++ wsX50 ++ wsX40)
def wsX6_bestToHear_r1 : List Cond := [Cond.methodLink RX6 209 yX6_leftAtWorst, Cond.instanceMethod yX6_leftAtWorst, Cond.selects RX6 yX6_leftAtWorst yX6_leftAtWorst, Cond.initialized RX6, Cond.code yX6_leftAtWorst cX6_leftAtWorst 7 (some .int), Cond.fieldLink RX6 19 "DripSayings" "sayings" "LDripSayings$Sayings;", Cond.fieldLink RX6 97 "DripSayings$Tap" "kind" "I", Cond.fieldLink RX6 111 "DripSayings$Tap" "washer" "I", Cond.fieldLink RX6 105 "DripSayings$Tap" "place" "I", Cond.methodLink RX6 185 Lib.Math.max.name, Cond.static Lib.Math.max.name, Cond.initialized "java/lang/Math", Cond.code Lib.Math.max.name Lib.Math.max.code 2 (some .int), Cond.methodLink RX6 162 yX4_dripBy, Cond.instanceMethod yX4_dripBy, Cond.selects RX4 yX4_dripBy yX4_dripBy, Cond.initialized RX4, Cond.code yX4_dripBy cX4_dripBy 8 (some .int), Cond.methodLink RX4 18 yX4_lengthOf, Cond.instanceMethod yX4_lengthOf, Cond.selects RX4 yX4_lengthOf yX4_lengthOf, Cond.code yX4_lengthOf cX4_lengthOf 2 (some .int), Cond.fieldLink RX4 15 "DripSayings$Sayings" "lengths" "[I", Cond.methodLink RX4 22 yX4_beatOf]
def wsX6_bestToHear_r2 : List Cond := [Cond.instanceMethod yX4_beatOf, Cond.selects RX4 yX4_beatOf yX4_beatOf, Cond.code yX4_beatOf cX4_beatOf 4 (some .int), Cond.fieldLink RX4 9 "DripSayings$Sayings" "beats" "[I"]
def wsX6_bestToHear : List Cond := .code yX6_bestToHear cX6_bestToHear 5 (some .int) :: ((wsX6_bestToHear_r1 ++ wsX6_bestToHear_r2) ++ wsX60 ++ wsX50 ++ wsX40)
def wsX6_aboutOf_r1 : List Cond := [Cond.fieldLink RX6 97 "DripSayings$Tap" "kind" "I", Cond.fieldLink RX6 114 "DripSayings$Tap" "saying" "I", Cond.fieldLink RX6 111 "DripSayings$Tap" "washer" "I", Cond.fieldLink RX6 105 "DripSayings$Tap" "place" "I", Cond.methodLink RX6 166 yX6_sureOf, Cond.instanceMethod yX6_sureOf, Cond.selects RX6 yX6_sureOf yX6_sureOf, Cond.initialized RX6, Cond.code yX6_sureOf cX6_sureOf 6 (some .int), Cond.methodLink RX6 185 Lib.Math.max.name, Cond.static Lib.Math.max.name, Cond.initialized "java/lang/Math", Cond.code Lib.Math.max.name Lib.Math.max.code 2 (some .int), Cond.methodLink RX6 182 yX6_enoughToTell, Cond.instanceMethod yX6_enoughToTell, Cond.selects RX6 yX6_enoughToTell yX6_enoughToTell, Cond.code yX6_enoughToTell cX6_enoughToTell 7 (some .int), Cond.fieldLink RX6 19 "DripSayings" "sayings" "LDripSayings$Sayings;", Cond.methodLink RX6 162 yX4_dripBy, Cond.instanceMethod yX4_dripBy, Cond.selects RX4 yX4_dripBy yX4_dripBy, Cond.initialized RX4, Cond.code yX4_dripBy cX4_dripBy 8 (some .int), Cond.methodLink RX4 18 yX4_lengthOf]
def wsX6_aboutOf_r2 : List Cond := [Cond.instanceMethod yX4_lengthOf, Cond.selects RX4 yX4_lengthOf yX4_lengthOf, Cond.code yX4_lengthOf cX4_lengthOf 2 (some .int), Cond.fieldLink RX4 15 "DripSayings$Sayings" "lengths" "[I", Cond.methodLink RX4 22 yX4_beatOf, Cond.instanceMethod yX4_beatOf, Cond.selects RX4 yX4_beatOf yX4_beatOf, Cond.code yX4_beatOf cX4_beatOf 4 (some .int), Cond.fieldLink RX4 9 "DripSayings$Sayings" "beats" "[I", Cond.methodLink RX6 170 yX6_saysOf, Cond.instanceMethod yX6_saysOf, Cond.selects RX6 yX6_saysOf yX6_saysOf, Cond.code yX6_saysOf cX6_saysOf 4 (some .int), Cond.methodLink RX6 176 yX6_slipsOf, Cond.instanceMethod yX6_slipsOf, Cond.selects RX6 yX6_slipsOf yX6_slipsOf, Cond.code yX6_slipsOf cX6_slipsOf 6 (some .int), Cond.fieldLink RX6 26 "DripSayings" "room" "LDripSayings$Room;", Cond.fieldLink RX6 121 "DripSayings$Room" "noteCount" "I", Cond.fieldLink RX6 194 "DripSayings$Note" "tap" "I", Cond.fieldLink RX6 199 "DripSayings$Tap" "number" "I", Cond.fieldLink RX6 202 "DripSayings$Note" "washer" "I", Cond.fieldLink RX6 203 "DripSayings$Note" "drip" "I", Cond.fieldLink RX6 206 "DripSayings$Note" "beat" "I"]
def wsX6_aboutOf_r3 : List Cond := [Cond.methodLink RX6 190 yX3_noteAt, Cond.instanceMethod yX3_noteAt, Cond.selects RX3 yX3_noteAt yX3_noteAt, Cond.initialized RX3, Cond.code yX3_noteAt cX3_noteAt 2 (some (.object "DripSayings$Note")), Cond.fieldLink RX3 31 "DripSayings$Room" "noteCount" "I", Cond.fieldLink RX3 22 "DripSayings$Room" "notes" "[LDripSayings$Note;", Cond.methodLink RX6 173 yX6_likelyOf, Cond.instanceMethod yX6_likelyOf, Cond.selects RX6 yX6_likelyOf yX6_likelyOf, Cond.code yX6_likelyOf cX6_likelyOf 4 (some .int), Cond.methodLink RX6 179 yX6_bestToHear, Cond.instanceMethod yX6_bestToHear, Cond.selects RX6 yX6_bestToHear yX6_bestToHear, Cond.code yX6_bestToHear cX6_bestToHear 5 (some .int), Cond.methodLink RX6 209 yX6_leftAtWorst, Cond.instanceMethod yX6_leftAtWorst, Cond.selects RX6 yX6_leftAtWorst yX6_leftAtWorst, Cond.code yX6_leftAtWorst cX6_leftAtWorst 7 (some .int)]
def wsX6_aboutOf : List Cond := .code yX6_aboutOf cX6_aboutOf 3 (some .int) :: ((wsX6_aboutOf_r1 ++ (wsX6_aboutOf_r2 ++ wsX6_aboutOf_r3)) ++ wsX50 ++ wsX60 ++ wsX40 ++ wsX30 ++ wsX00)
def wsX6_about_r1 : List Cond := [Cond.fieldLink RX6 26 "DripSayings" "room" "LDripSayings$Room;", Cond.methodLink RX6 89 yX3_tapAt, Cond.instanceMethod yX3_tapAt, Cond.selects RX3 yX3_tapAt yX3_tapAt, Cond.initialized RX3, Cond.code yX3_tapAt cX3_tapAt 2 (some (.object "DripSayings$Tap")), Cond.fieldLink RX3 27 "DripSayings$Room" "tapCount" "I", Cond.fieldLink RX3 11 "DripSayings$Room" "taps" "[LDripSayings$Tap;", Cond.methodLink RX6 93 yX6_aboutOf, Cond.instanceMethod yX6_aboutOf, Cond.selects RX6 yX6_aboutOf yX6_aboutOf, Cond.initialized RX6, Cond.code yX6_aboutOf cX6_aboutOf 3 (some .int), Cond.fieldLink RX6 97 "DripSayings$Tap" "kind" "I", Cond.fieldLink RX6 114 "DripSayings$Tap" "saying" "I", Cond.fieldLink RX6 111 "DripSayings$Tap" "washer" "I", Cond.fieldLink RX6 105 "DripSayings$Tap" "place" "I", Cond.methodLink RX6 166 yX6_sureOf, Cond.instanceMethod yX6_sureOf, Cond.selects RX6 yX6_sureOf yX6_sureOf, Cond.code yX6_sureOf cX6_sureOf 6 (some .int), Cond.methodLink RX6 185 Lib.Math.max.name, Cond.static Lib.Math.max.name, Cond.initialized "java/lang/Math"]
def wsX6_about_r2 : List Cond := [Cond.code Lib.Math.max.name Lib.Math.max.code 2 (some .int), Cond.methodLink RX6 182 yX6_enoughToTell, Cond.instanceMethod yX6_enoughToTell, Cond.selects RX6 yX6_enoughToTell yX6_enoughToTell, Cond.code yX6_enoughToTell cX6_enoughToTell 7 (some .int), Cond.fieldLink RX6 19 "DripSayings" "sayings" "LDripSayings$Sayings;", Cond.methodLink RX6 162 yX4_dripBy, Cond.instanceMethod yX4_dripBy, Cond.selects RX4 yX4_dripBy yX4_dripBy, Cond.initialized RX4, Cond.code yX4_dripBy cX4_dripBy 8 (some .int), Cond.methodLink RX4 18 yX4_lengthOf, Cond.instanceMethod yX4_lengthOf, Cond.selects RX4 yX4_lengthOf yX4_lengthOf, Cond.code yX4_lengthOf cX4_lengthOf 2 (some .int), Cond.fieldLink RX4 15 "DripSayings$Sayings" "lengths" "[I", Cond.methodLink RX4 22 yX4_beatOf, Cond.instanceMethod yX4_beatOf, Cond.selects RX4 yX4_beatOf yX4_beatOf, Cond.code yX4_beatOf cX4_beatOf 4 (some .int), Cond.fieldLink RX4 9 "DripSayings$Sayings" "beats" "[I", Cond.methodLink RX6 170 yX6_saysOf, Cond.instanceMethod yX6_saysOf, Cond.selects RX6 yX6_saysOf yX6_saysOf]
def wsX6_about_r3 : List Cond := [Cond.code yX6_saysOf cX6_saysOf 4 (some .int), Cond.methodLink RX6 176 yX6_slipsOf, Cond.instanceMethod yX6_slipsOf, Cond.selects RX6 yX6_slipsOf yX6_slipsOf, Cond.code yX6_slipsOf cX6_slipsOf 6 (some .int), Cond.fieldLink RX6 121 "DripSayings$Room" "noteCount" "I", Cond.fieldLink RX6 194 "DripSayings$Note" "tap" "I", Cond.fieldLink RX6 199 "DripSayings$Tap" "number" "I", Cond.fieldLink RX6 202 "DripSayings$Note" "washer" "I", Cond.fieldLink RX6 203 "DripSayings$Note" "drip" "I", Cond.fieldLink RX6 206 "DripSayings$Note" "beat" "I", Cond.methodLink RX6 190 yX3_noteAt, Cond.instanceMethod yX3_noteAt, Cond.selects RX3 yX3_noteAt yX3_noteAt, Cond.code yX3_noteAt cX3_noteAt 2 (some (.object "DripSayings$Note")), Cond.fieldLink RX3 31 "DripSayings$Room" "noteCount" "I", Cond.fieldLink RX3 22 "DripSayings$Room" "notes" "[LDripSayings$Note;", Cond.methodLink RX6 173 yX6_likelyOf, Cond.instanceMethod yX6_likelyOf, Cond.selects RX6 yX6_likelyOf yX6_likelyOf, Cond.code yX6_likelyOf cX6_likelyOf 4 (some .int), Cond.methodLink RX6 179 yX6_bestToHear, Cond.instanceMethod yX6_bestToHear, Cond.selects RX6 yX6_bestToHear yX6_bestToHear]
def wsX6_about_r4 : List Cond := [Cond.code yX6_bestToHear cX6_bestToHear 5 (some .int), Cond.methodLink RX6 209 yX6_leftAtWorst, Cond.instanceMethod yX6_leftAtWorst, Cond.selects RX6 yX6_leftAtWorst yX6_leftAtWorst, Cond.code yX6_leftAtWorst cX6_leftAtWorst 7 (some .int)]
def wsX6_about : List Cond := .code yX6_about cX6_about 4 (some .int) :: ((wsX6_about_r1 ++ (wsX6_about_r2 ++ (wsX6_about_r3 ++ wsX6_about_r4))) ++ wsX60 ++ wsX30 ++ wsX50 ++ wsX40 ++ wsX00)
def wsX6_as : List Cond := .code yX6_as cX6_as 5 (some .int) :: ([.fieldLink RX6 26 "DripSayings" "room" "LDripSayings$Room;", .fieldLink RX6 97 "DripSayings$Tap" "kind" "I", .methodLink RX6 89 yX3_tapAt, .instanceMethod yX3_tapAt, .selects RX3 yX3_tapAt yX3_tapAt, .initialized RX3, .code yX3_tapAt cX3_tapAt 2 (some (.object "DripSayings$Tap")), .fieldLink RX3 27 "DripSayings$Room" "tapCount" "I", .fieldLink RX3 11 "DripSayings$Room" "taps" "[LDripSayings$Tap;", .methodLink RX6 82 yX6_isKind, .static yX6_isKind, .initialized RX6, .code yX6_isKind cX6_isKind 1 (some .boolean)] ++ wsX60 ++ wsX50 ++ wsX30)
def wsX6_dripOf : List Cond := .code yX6_dripOf cX6_dripOf 3 (some .int) :: ([.fieldLink RX6 19 "DripSayings" "sayings" "LDripSayings$Sayings;", .fieldLink RX6 97 "DripSayings$Tap" "kind" "I", .fieldLink RX6 114 "DripSayings$Tap" "saying" "I", .fieldLink RX6 111 "DripSayings$Tap" "washer" "I", .methodLink RX6 162 yX4_dripBy, .instanceMethod yX4_dripBy, .selects RX4 yX4_dripBy yX4_dripBy, .initialized RX4, .code yX4_dripBy cX4_dripBy 8 (some .int), .methodLink RX4 18 yX4_lengthOf, .instanceMethod yX4_lengthOf, .selects RX4 yX4_lengthOf yX4_lengthOf, .code yX4_lengthOf cX4_lengthOf 2 (some .int), .fieldLink RX4 15 "DripSayings$Sayings" "lengths" "[I", .methodLink RX4 22 yX4_beatOf, .instanceMethod yX4_beatOf, .selects RX4 yX4_beatOf yX4_beatOf, .code yX4_beatOf cX4_beatOf 4 (some .int), .fieldLink RX4 9 "DripSayings$Sayings" "beats" "[I"] ++ wsX60 ++ wsX50 ++ wsX40)
def wsX6_drip_r1 : List Cond := [Cond.fieldLink RX6 26 "DripSayings" "room" "LDripSayings$Room;", Cond.methodLink RX6 89 yX3_tapAt, Cond.instanceMethod yX3_tapAt, Cond.selects RX3 yX3_tapAt yX3_tapAt, Cond.initialized RX3, Cond.code yX3_tapAt cX3_tapAt 2 (some (.object "DripSayings$Tap")), Cond.fieldLink RX3 27 "DripSayings$Room" "tapCount" "I", Cond.fieldLink RX3 11 "DripSayings$Room" "taps" "[LDripSayings$Tap;", Cond.methodLink RX6 102 yX6_dripOf, Cond.instanceMethod yX6_dripOf, Cond.selects RX6 yX6_dripOf yX6_dripOf, Cond.initialized RX6, Cond.code yX6_dripOf cX6_dripOf 3 (some .int), Cond.fieldLink RX6 19 "DripSayings" "sayings" "LDripSayings$Sayings;", Cond.fieldLink RX6 97 "DripSayings$Tap" "kind" "I", Cond.fieldLink RX6 114 "DripSayings$Tap" "saying" "I", Cond.fieldLink RX6 111 "DripSayings$Tap" "washer" "I", Cond.methodLink RX6 162 yX4_dripBy, Cond.instanceMethod yX4_dripBy, Cond.selects RX4 yX4_dripBy yX4_dripBy, Cond.initialized RX4, Cond.code yX4_dripBy cX4_dripBy 8 (some .int), Cond.methodLink RX4 18 yX4_lengthOf, Cond.instanceMethod yX4_lengthOf]
def wsX6_drip_r2 : List Cond := [Cond.selects RX4 yX4_lengthOf yX4_lengthOf, Cond.code yX4_lengthOf cX4_lengthOf 2 (some .int), Cond.fieldLink RX4 15 "DripSayings$Sayings" "lengths" "[I", Cond.methodLink RX4 22 yX4_beatOf, Cond.instanceMethod yX4_beatOf, Cond.selects RX4 yX4_beatOf yX4_beatOf, Cond.code yX4_beatOf cX4_beatOf 4 (some .int), Cond.fieldLink RX4 9 "DripSayings$Sayings" "beats" "[I"]
def wsX6_drip : List Cond := .code yX6_drip cX6_drip 4 (some .int) :: ((wsX6_drip_r1 ++ wsX6_drip_r2) ++ wsX60 ++ wsX30 ++ wsX50 ++ wsX40)
def wsX6_listen_r1 : List Cond := [Cond.fieldLink RX6 26 "DripSayings" "room" "LDripSayings$Room;", Cond.fieldLink RX6 105 "DripSayings$Tap" "place" "I", Cond.fieldLink RX6 108 "DripSayings$Room" "changes" "I", Cond.methodLink RX6 89 yX3_tapAt, Cond.instanceMethod yX3_tapAt, Cond.selects RX3 yX3_tapAt yX3_tapAt, Cond.initialized RX3, Cond.code yX3_tapAt cX3_tapAt 2 (some (.object "DripSayings$Tap")), Cond.fieldLink RX3 27 "DripSayings$Room" "tapCount" "I", Cond.fieldLink RX3 11 "DripSayings$Room" "taps" "[LDripSayings$Tap;", Cond.methodLink RX6 102 yX6_dripOf, Cond.instanceMethod yX6_dripOf, Cond.selects RX6 yX6_dripOf yX6_dripOf, Cond.initialized RX6, Cond.code yX6_dripOf cX6_dripOf 3 (some .int), Cond.fieldLink RX6 19 "DripSayings" "sayings" "LDripSayings$Sayings;", Cond.fieldLink RX6 97 "DripSayings$Tap" "kind" "I", Cond.fieldLink RX6 114 "DripSayings$Tap" "saying" "I", Cond.fieldLink RX6 111 "DripSayings$Tap" "washer" "I", Cond.methodLink RX6 162 yX4_dripBy, Cond.instanceMethod yX4_dripBy, Cond.selects RX4 yX4_dripBy yX4_dripBy, Cond.initialized RX4, Cond.code yX4_dripBy cX4_dripBy 8 (some .int)]
def wsX6_listen_r2 : List Cond := [Cond.methodLink RX4 18 yX4_lengthOf, Cond.instanceMethod yX4_lengthOf, Cond.selects RX4 yX4_lengthOf yX4_lengthOf, Cond.code yX4_lengthOf cX4_lengthOf 2 (some .int), Cond.fieldLink RX4 15 "DripSayings$Sayings" "lengths" "[I", Cond.methodLink RX4 22 yX4_beatOf, Cond.instanceMethod yX4_beatOf, Cond.selects RX4 yX4_beatOf yX4_beatOf, Cond.code yX4_beatOf cX4_beatOf 4 (some .int), Cond.fieldLink RX4 9 "DripSayings$Sayings" "beats" "[I"]
def wsX6_listen : List Cond := .code yX6_listen cX6_listen 4 (some .int) :: ((wsX6_listen_r1 ++ wsX6_listen_r2) ++ wsX60 ++ wsX50 ++ wsX30 ++ wsX40)
def wsX6_washer : List Cond := .code yX6_washer cX6_washer 5 (some .int) :: ([.fieldLink RX6 26 "DripSayings" "room" "LDripSayings$Room;", .fieldLink RX6 111 "DripSayings$Tap" "washer" "I", .fieldLink RX6 108 "DripSayings$Room" "changes" "I", .methodLink RX6 89 yX3_tapAt, .instanceMethod yX3_tapAt, .selects RX3 yX3_tapAt yX3_tapAt, .initialized RX3, .code yX3_tapAt cX3_tapAt 2 (some (.object "DripSayings$Tap")), .fieldLink RX3 27 "DripSayings$Room" "tapCount" "I", .fieldLink RX3 11 "DripSayings$Room" "taps" "[LDripSayings$Tap;"] ++ wsX60 ++ wsX50 ++ wsX30)
def wsX6_teach : List Cond := .code yX6_teach cX6_teach 5 (some .int) :: ([.fieldLink RX6 26 "DripSayings" "room" "LDripSayings$Room;", .fieldLink RX6 114 "DripSayings$Tap" "saying" "I", .fieldLink RX6 108 "DripSayings$Room" "changes" "I", .methodLink RX6 89 yX3_tapAt, .instanceMethod yX3_tapAt, .selects RX3 yX3_tapAt yX3_tapAt, .initialized RX3, .code yX3_tapAt cX3_tapAt 2 (some (.object "DripSayings$Tap")), .fieldLink RX3 27 "DripSayings$Room" "tapCount" "I", .fieldLink RX3 11 "DripSayings$Room" "taps" "[LDripSayings$Tap;", .methodLink RX6 70 yX6_isSaying, .static yX6_isSaying, .initialized RX6, .code yX6_isSaying cX6_isSaying 1 (some .boolean)] ++ wsX60 ++ wsX50 ++ wsX30)
def wsX6_agree_r1 : List Cond := [Cond.fieldLink RX6 26 "DripSayings" "room" "LDripSayings$Room;", Cond.fieldLink RX6 105 "DripSayings$Tap" "place" "I", Cond.methodLink RX6 89 yX3_tapAt, Cond.instanceMethod yX3_tapAt, Cond.selects RX3 yX3_tapAt yX3_tapAt, Cond.initialized RX3, Cond.code yX3_tapAt cX3_tapAt 2 (some (.object "DripSayings$Tap")), Cond.fieldLink RX3 27 "DripSayings$Room" "tapCount" "I", Cond.fieldLink RX3 11 "DripSayings$Room" "taps" "[LDripSayings$Tap;", Cond.methodLink RX6 102 yX6_dripOf, Cond.instanceMethod yX6_dripOf, Cond.selects RX6 yX6_dripOf yX6_dripOf, Cond.initialized RX6, Cond.code yX6_dripOf cX6_dripOf 3 (some .int), Cond.fieldLink RX6 19 "DripSayings" "sayings" "LDripSayings$Sayings;", Cond.fieldLink RX6 97 "DripSayings$Tap" "kind" "I", Cond.fieldLink RX6 114 "DripSayings$Tap" "saying" "I", Cond.fieldLink RX6 111 "DripSayings$Tap" "washer" "I", Cond.methodLink RX6 162 yX4_dripBy, Cond.instanceMethod yX4_dripBy, Cond.selects RX4 yX4_dripBy yX4_dripBy, Cond.initialized RX4, Cond.code yX4_dripBy cX4_dripBy 8 (some .int), Cond.methodLink RX4 18 yX4_lengthOf]
def wsX6_agree_r2 : List Cond := [Cond.instanceMethod yX4_lengthOf, Cond.selects RX4 yX4_lengthOf yX4_lengthOf, Cond.code yX4_lengthOf cX4_lengthOf 2 (some .int), Cond.fieldLink RX4 15 "DripSayings$Sayings" "lengths" "[I", Cond.methodLink RX4 22 yX4_beatOf, Cond.instanceMethod yX4_beatOf, Cond.selects RX4 yX4_beatOf yX4_beatOf, Cond.code yX4_beatOf cX4_beatOf 4 (some .int), Cond.fieldLink RX4 9 "DripSayings$Sayings" "beats" "[I"]
def wsX6_agree : List Cond := .code yX6_agree cX6_agree 7 (some .int) :: ((wsX6_agree_r1 ++ wsX6_agree_r2) ++ wsX60 ++ wsX50 ++ wsX30 ++ wsX40)
def wsX6_unlikeOf : List Cond := .code yX6_unlikeOf cX6_unlikeOf 7 (some .int) :: ([.fieldLink RX6 19 "DripSayings" "sayings" "LDripSayings$Sayings;", .fieldLink RX6 97 "DripSayings$Tap" "kind" "I", .fieldLink RX6 114 "DripSayings$Tap" "saying" "I", .methodLink RX6 162 yX4_dripBy, .instanceMethod yX4_dripBy, .selects RX4 yX4_dripBy yX4_dripBy, .initialized RX4, .code yX4_dripBy cX4_dripBy 8 (some .int), .methodLink RX4 18 yX4_lengthOf, .instanceMethod yX4_lengthOf, .selects RX4 yX4_lengthOf yX4_lengthOf, .code yX4_lengthOf cX4_lengthOf 2 (some .int), .fieldLink RX4 15 "DripSayings$Sayings" "lengths" "[I", .methodLink RX4 22 yX4_beatOf, .instanceMethod yX4_beatOf, .selects RX4 yX4_beatOf yX4_beatOf, .code yX4_beatOf cX4_beatOf 4 (some .int), .fieldLink RX4 9 "DripSayings$Sayings" "beats" "[I"] ++ wsX60 ++ wsX50 ++ wsX40)
def wsX6_nearOf_r1 : List Cond := [Cond.methodLink RX6 215 Lib.Math.min.name, Cond.static Lib.Math.min.name, Cond.initialized "java/lang/Math", Cond.code Lib.Math.min.name Lib.Math.min.code 2 (some .int), Cond.methodLink RX6 212 yX6_unlikeOf, Cond.instanceMethod yX6_unlikeOf, Cond.selects RX6 yX6_unlikeOf yX6_unlikeOf, Cond.initialized RX6, Cond.code yX6_unlikeOf cX6_unlikeOf 7 (some .int), Cond.fieldLink RX6 19 "DripSayings" "sayings" "LDripSayings$Sayings;", Cond.fieldLink RX6 97 "DripSayings$Tap" "kind" "I", Cond.fieldLink RX6 114 "DripSayings$Tap" "saying" "I", Cond.methodLink RX6 162 yX4_dripBy, Cond.instanceMethod yX4_dripBy, Cond.selects RX4 yX4_dripBy yX4_dripBy, Cond.initialized RX4, Cond.code yX4_dripBy cX4_dripBy 8 (some .int), Cond.methodLink RX4 18 yX4_lengthOf, Cond.instanceMethod yX4_lengthOf, Cond.selects RX4 yX4_lengthOf yX4_lengthOf, Cond.code yX4_lengthOf cX4_lengthOf 2 (some .int), Cond.fieldLink RX4 15 "DripSayings$Sayings" "lengths" "[I", Cond.methodLink RX4 22 yX4_beatOf, Cond.instanceMethod yX4_beatOf]
def wsX6_nearOf_r2 : List Cond := [Cond.selects RX4 yX4_beatOf yX4_beatOf, Cond.code yX4_beatOf cX4_beatOf 4 (some .int), Cond.fieldLink RX4 9 "DripSayings$Sayings" "beats" "[I"]
def wsX6_nearOf : List Cond := .code yX6_nearOf cX6_nearOf 6 (some .int) :: ((wsX6_nearOf_r1 ++ wsX6_nearOf_r2) ++ wsX60 ++ wsX50 ++ wsX40)
def wsX6_near_r1 : List Cond := [Cond.fieldLink RX6 26 "DripSayings" "room" "LDripSayings$Room;", Cond.methodLink RX6 89 yX3_tapAt, Cond.instanceMethod yX3_tapAt, Cond.selects RX3 yX3_tapAt yX3_tapAt, Cond.initialized RX3, Cond.code yX3_tapAt cX3_tapAt 2 (some (.object "DripSayings$Tap")), Cond.fieldLink RX3 27 "DripSayings$Room" "tapCount" "I", Cond.fieldLink RX3 11 "DripSayings$Room" "taps" "[LDripSayings$Tap;", Cond.methodLink RX6 70 yX6_isSaying, Cond.static yX6_isSaying, Cond.initialized RX6, Cond.code yX6_isSaying cX6_isSaying 1 (some .boolean), Cond.methodLink RX6 117 yX6_nearOf, Cond.instanceMethod yX6_nearOf, Cond.selects RX6 yX6_nearOf yX6_nearOf, Cond.code yX6_nearOf cX6_nearOf 6 (some .int), Cond.methodLink RX6 215 Lib.Math.min.name, Cond.static Lib.Math.min.name, Cond.initialized "java/lang/Math", Cond.code Lib.Math.min.name Lib.Math.min.code 2 (some .int), Cond.methodLink RX6 212 yX6_unlikeOf, Cond.instanceMethod yX6_unlikeOf, Cond.selects RX6 yX6_unlikeOf yX6_unlikeOf, Cond.code yX6_unlikeOf cX6_unlikeOf 7 (some .int)]
def wsX6_near_r2 : List Cond := [Cond.fieldLink RX6 19 "DripSayings" "sayings" "LDripSayings$Sayings;", Cond.fieldLink RX6 97 "DripSayings$Tap" "kind" "I", Cond.fieldLink RX6 114 "DripSayings$Tap" "saying" "I", Cond.methodLink RX6 162 yX4_dripBy, Cond.instanceMethod yX4_dripBy, Cond.selects RX4 yX4_dripBy yX4_dripBy, Cond.initialized RX4, Cond.code yX4_dripBy cX4_dripBy 8 (some .int), Cond.methodLink RX4 18 yX4_lengthOf, Cond.instanceMethod yX4_lengthOf, Cond.selects RX4 yX4_lengthOf yX4_lengthOf, Cond.code yX4_lengthOf cX4_lengthOf 2 (some .int), Cond.fieldLink RX4 15 "DripSayings$Sayings" "lengths" "[I", Cond.methodLink RX4 22 yX4_beatOf, Cond.instanceMethod yX4_beatOf, Cond.selects RX4 yX4_beatOf yX4_beatOf, Cond.code yX4_beatOf cX4_beatOf 4 (some .int), Cond.fieldLink RX4 9 "DripSayings$Sayings" "beats" "[I"]
def wsX6_near : List Cond := .code yX6_near cX6_near 5 (some .int) :: ((wsX6_near_r1 ++ wsX6_near_r2) ++ wsX60 ++ wsX30 ++ wsX50 ++ wsX40)
def wsX6_put_r1 : List Cond := [Cond.fieldLink RX6 26 "DripSayings" "room" "LDripSayings$Room;", Cond.fieldLink RX6 121 "DripSayings$Room" "noteCount" "I", Cond.methodLink RX6 89 yX3_tapAt, Cond.instanceMethod yX3_tapAt, Cond.selects RX3 yX3_tapAt yX3_tapAt, Cond.initialized RX3, Cond.code yX3_tapAt cX3_tapAt 2 (some (.object "DripSayings$Tap")), Cond.fieldLink RX3 27 "DripSayings$Room" "tapCount" "I", Cond.fieldLink RX3 11 "DripSayings$Room" "taps" "[LDripSayings$Tap;", Cond.methodLink RX6 124 yX3_addNote, Cond.instanceMethod yX3_addNote, Cond.selects RX3 yX3_addNote yX3_addNote, Cond.code yX3_addNote cX3_addNote 5 none, Cond.fieldLink RX3 31 "DripSayings$Room" "noteCount" "I", Cond.fieldLink RX3 49 "DripSayings$Tap" "number" "I", Cond.fieldLink RX3 52 "DripSayings$Tap" "washer" "I", Cond.methodLink RX3 45 yX3_noteAt, Cond.instanceMethod yX3_noteAt, Cond.selects RX3 yX3_noteAt yX3_noteAt, Cond.code yX3_noteAt cX3_noteAt 2 (some (.object "DripSayings$Note")), Cond.fieldLink RX3 22 "DripSayings$Room" "notes" "[LDripSayings$Note;", Cond.methodLink RX3 55 yX0_become, Cond.instanceMethod yX0_become, Cond.selects RX0 yX0_become yX0_become]
def wsX6_put_r2 : List Cond := [Cond.initialized RX0, Cond.code yX0_become cX0_become 5 none, Cond.fieldLink RX0 7 "DripSayings$Note" "tap" "I", Cond.fieldLink RX0 13 "DripSayings$Note" "drip" "I", Cond.fieldLink RX0 16 "DripSayings$Note" "beat" "I", Cond.fieldLink RX0 19 "DripSayings$Note" "washer" "I"]
def wsX6_put : List Cond := .code yX6_put cX6_put 5 (some .int) :: ((wsX6_put_r1 ++ wsX6_put_r2) ++ wsX60 ++ wsX30 ++ wsX50 ++ wsX00)
def wsX6_forget : List Cond := .code yX6_forget cX6_forget 2 (some .int) :: ([.fieldLink RX6 26 "DripSayings" "room" "LDripSayings$Room;", .fieldLink RX6 121 "DripSayings$Room" "noteCount" "I"] ++ wsX60 ++ wsX30)
def wsX6_nextSeed : List Cond := .code yX6_nextSeed cX6_nextSeed 1 (some .int) :: ([.constantLong RX6 218 (1103515245), .constantLong RX6 220 (12345), .constantLong RX6 222 (2147483648)])
def wsX6_drawOf : List Cond := .code yX6_drawOf cX6_drawOf 1 (some .int) :: ([.constant RX6 224 (65536)])
def wsX6_nights_r1 : List Cond := [Cond.fieldLink RX6 57 "DripSayings" "hasHouse" "Z", Cond.fieldLink RX6 26 "DripSayings" "room" "LDripSayings$Room;", Cond.fieldLink RX6 67 "DripSayings$Room" "tapCount" "I", Cond.fieldLink RX6 105 "DripSayings$Tap" "place" "I", Cond.methodLink RX6 89 yX3_tapAt, Cond.instanceMethod yX3_tapAt, Cond.selects RX3 yX3_tapAt yX3_tapAt, Cond.initialized RX3, Cond.code yX3_tapAt cX3_tapAt 2 (some (.object "DripSayings$Tap")), Cond.fieldLink RX3 27 "DripSayings$Room" "tapCount" "I", Cond.fieldLink RX3 11 "DripSayings$Room" "taps" "[LDripSayings$Tap;", Cond.methodLink RX6 128 yX6_nextSeed, Cond.static yX6_nextSeed, Cond.initialized RX6, Cond.code yX6_nextSeed cX6_nextSeed 1 (some .int), Cond.constantLong RX6 218 (1103515245), Cond.constantLong RX6 220 (12345), Cond.constantLong RX6 222 (2147483648), Cond.methodLink RX6 131 yX6_drawOf, Cond.static yX6_drawOf, Cond.code yX6_drawOf cX6_drawOf 1 (some .int), Cond.constant RX6 224 (65536), Cond.methodLink RX6 102 yX6_dripOf, Cond.instanceMethod yX6_dripOf]
def wsX6_nights_r2 : List Cond := [Cond.selects RX6 yX6_dripOf yX6_dripOf, Cond.code yX6_dripOf cX6_dripOf 3 (some .int), Cond.fieldLink RX6 19 "DripSayings" "sayings" "LDripSayings$Sayings;", Cond.fieldLink RX6 97 "DripSayings$Tap" "kind" "I", Cond.fieldLink RX6 114 "DripSayings$Tap" "saying" "I", Cond.fieldLink RX6 111 "DripSayings$Tap" "washer" "I", Cond.methodLink RX6 162 yX4_dripBy, Cond.instanceMethod yX4_dripBy, Cond.selects RX4 yX4_dripBy yX4_dripBy, Cond.initialized RX4, Cond.code yX4_dripBy cX4_dripBy 8 (some .int), Cond.methodLink RX4 18 yX4_lengthOf, Cond.instanceMethod yX4_lengthOf, Cond.selects RX4 yX4_lengthOf yX4_lengthOf, Cond.code yX4_lengthOf cX4_lengthOf 2 (some .int), Cond.fieldLink RX4 15 "DripSayings$Sayings" "lengths" "[I", Cond.methodLink RX4 22 yX4_beatOf, Cond.instanceMethod yX4_beatOf, Cond.selects RX4 yX4_beatOf yX4_beatOf, Cond.code yX4_beatOf cX4_beatOf 4 (some .int), Cond.fieldLink RX4 9 "DripSayings$Sayings" "beats" "[I"]
def wsX6_nights : List Cond := .code yX6_nights cX6_nights 11 (some .int) :: ((wsX6_nights_r1 ++ wsX6_nights_r2) ++ wsX60 ++ wsX30 ++ wsX50 ++ wsX40)
def wsX6_image_r1 : List Cond := [Cond.fieldLink RX6 57 "DripSayings" "hasHouse" "Z", Cond.fieldLink RX6 30 "DripSayings" "kept" "LDripSayings$Room;", Cond.fieldLink RX6 26 "DripSayings" "room" "LDripSayings$Room;", Cond.fieldLink RX6 61 "DripSayings" "hasImage" "Z", Cond.fieldLink RX6 108 "DripSayings$Room" "changes" "I", Cond.methodLink RX6 134 yX3_copyFrom, Cond.instanceMethod yX3_copyFrom, Cond.selects RX3 yX3_copyFrom yX3_copyFrom, Cond.initialized RX3, Cond.code yX3_copyFrom cX3_copyFrom 5 none, Cond.fieldLink RX3 27 "DripSayings$Room" "tapCount" "I", Cond.fieldLink RX3 31 "DripSayings$Room" "noteCount" "I", Cond.fieldLink RX3 34 "DripSayings$Room" "changes" "I", Cond.fieldLink RX3 56 "DripSayings$Tap" "kind" "I", Cond.fieldLink RX3 59 "DripSayings$Tap" "saying" "I", Cond.fieldLink RX3 52 "DripSayings$Tap" "washer" "I", Cond.fieldLink RX3 62 "DripSayings$Tap" "place" "I", Cond.fieldLink RX3 65 "DripSayings$Note" "tap" "I", Cond.fieldLink RX3 68 "DripSayings$Note" "drip" "I", Cond.fieldLink RX3 71 "DripSayings$Note" "beat" "I", Cond.fieldLink RX3 74 "DripSayings$Note" "washer" "I", Cond.methodLink RX3 37 yX3_tapAt, Cond.instanceMethod yX3_tapAt, Cond.selects RX3 yX3_tapAt yX3_tapAt]
def wsX6_image_r2 : List Cond := [Cond.code yX3_tapAt cX3_tapAt 2 (some (.object "DripSayings$Tap")), Cond.fieldLink RX3 11 "DripSayings$Room" "taps" "[LDripSayings$Tap;", Cond.methodLink RX3 41 yX5_become, Cond.instanceMethod yX5_become, Cond.selects RX5 yX5_become yX5_become, Cond.initialized RX5, Cond.code yX5_become cX5_become 5 none, Cond.fieldLink RX5 13 "DripSayings$Tap" "kind" "I", Cond.fieldLink RX5 16 "DripSayings$Tap" "saying" "I", Cond.fieldLink RX5 19 "DripSayings$Tap" "washer" "I", Cond.fieldLink RX5 22 "DripSayings$Tap" "place" "I", Cond.methodLink RX3 45 yX3_noteAt, Cond.instanceMethod yX3_noteAt, Cond.selects RX3 yX3_noteAt yX3_noteAt, Cond.code yX3_noteAt cX3_noteAt 2 (some (.object "DripSayings$Note")), Cond.fieldLink RX3 22 "DripSayings$Room" "notes" "[LDripSayings$Note;", Cond.methodLink RX3 55 yX0_become, Cond.instanceMethod yX0_become, Cond.selects RX0 yX0_become yX0_become, Cond.initialized RX0, Cond.code yX0_become cX0_become 5 none, Cond.fieldLink RX0 7 "DripSayings$Note" "tap" "I", Cond.fieldLink RX0 13 "DripSayings$Note" "drip" "I", Cond.fieldLink RX0 16 "DripSayings$Note" "beat" "I"]
def wsX6_image_r3 : List Cond := [Cond.fieldLink RX0 19 "DripSayings$Note" "washer" "I"]
def wsX6_image : List Cond := .code yX6_image cX6_image 1 (some .int) :: ((wsX6_image_r1 ++ (wsX6_image_r2 ++ wsX6_image_r3)) ++ wsX60 ++ wsX30 ++ wsX50 ++ wsX00)
def wsX6_restore_r1 : List Cond := [Cond.fieldLink RX6 61 "DripSayings" "hasImage" "Z", Cond.fieldLink RX6 26 "DripSayings" "room" "LDripSayings$Room;", Cond.fieldLink RX6 30 "DripSayings" "kept" "LDripSayings$Room;", Cond.fieldLink RX6 108 "DripSayings$Room" "changes" "I", Cond.methodLink RX6 134 yX3_copyFrom, Cond.instanceMethod yX3_copyFrom, Cond.selects RX3 yX3_copyFrom yX3_copyFrom, Cond.initialized RX3, Cond.code yX3_copyFrom cX3_copyFrom 5 none, Cond.fieldLink RX3 27 "DripSayings$Room" "tapCount" "I", Cond.fieldLink RX3 31 "DripSayings$Room" "noteCount" "I", Cond.fieldLink RX3 34 "DripSayings$Room" "changes" "I", Cond.fieldLink RX3 56 "DripSayings$Tap" "kind" "I", Cond.fieldLink RX3 59 "DripSayings$Tap" "saying" "I", Cond.fieldLink RX3 52 "DripSayings$Tap" "washer" "I", Cond.fieldLink RX3 62 "DripSayings$Tap" "place" "I", Cond.fieldLink RX3 65 "DripSayings$Note" "tap" "I", Cond.fieldLink RX3 68 "DripSayings$Note" "drip" "I", Cond.fieldLink RX3 71 "DripSayings$Note" "beat" "I", Cond.fieldLink RX3 74 "DripSayings$Note" "washer" "I", Cond.methodLink RX3 37 yX3_tapAt, Cond.instanceMethod yX3_tapAt, Cond.selects RX3 yX3_tapAt yX3_tapAt, Cond.code yX3_tapAt cX3_tapAt 2 (some (.object "DripSayings$Tap"))]
def wsX6_restore_r2 : List Cond := [Cond.fieldLink RX3 11 "DripSayings$Room" "taps" "[LDripSayings$Tap;", Cond.methodLink RX3 41 yX5_become, Cond.instanceMethod yX5_become, Cond.selects RX5 yX5_become yX5_become, Cond.initialized RX5, Cond.code yX5_become cX5_become 5 none, Cond.fieldLink RX5 13 "DripSayings$Tap" "kind" "I", Cond.fieldLink RX5 16 "DripSayings$Tap" "saying" "I", Cond.fieldLink RX5 19 "DripSayings$Tap" "washer" "I", Cond.fieldLink RX5 22 "DripSayings$Tap" "place" "I", Cond.methodLink RX3 45 yX3_noteAt, Cond.instanceMethod yX3_noteAt, Cond.selects RX3 yX3_noteAt yX3_noteAt, Cond.code yX3_noteAt cX3_noteAt 2 (some (.object "DripSayings$Note")), Cond.fieldLink RX3 22 "DripSayings$Room" "notes" "[LDripSayings$Note;", Cond.methodLink RX3 55 yX0_become, Cond.instanceMethod yX0_become, Cond.selects RX0 yX0_become yX0_become, Cond.initialized RX0, Cond.code yX0_become cX0_become 5 none, Cond.fieldLink RX0 7 "DripSayings$Note" "tap" "I", Cond.fieldLink RX0 13 "DripSayings$Note" "drip" "I", Cond.fieldLink RX0 16 "DripSayings$Note" "beat" "I", Cond.fieldLink RX0 19 "DripSayings$Note" "washer" "I"]
def wsX6_restore : List Cond := .code yX6_restore cX6_restore 1 (some .int) :: ((wsX6_restore_r1 ++ wsX6_restore_r2) ++ wsX60 ++ wsX30 ++ wsX50 ++ wsX00)
def wsX6_countOf_r1 : List Cond := [Cond.fieldLink RX6 26 "DripSayings" "room" "LDripSayings$Room;", Cond.fieldLink RX6 67 "DripSayings$Room" "tapCount" "I", Cond.fieldLink RX6 19 "DripSayings" "sayings" "LDripSayings$Sayings;", Cond.fieldLink RX6 108 "DripSayings$Room" "changes" "I", Cond.fieldLink RX6 121 "DripSayings$Room" "noteCount" "I", Cond.fieldLink RX6 10 "DripSayings" "page" "LDripSayings$Page;", Cond.fieldLink RX6 33 "DripSayings$Page" "size" "I", Cond.fieldLink RX6 64 "DripSayings" "housesRead" "I", Cond.methodLink RX6 225 yX4_beatCount, Cond.instanceMethod yX4_beatCount, Cond.selects RX4 yX4_beatCount yX4_beatCount, Cond.initialized RX4, Cond.code yX4_beatCount cX4_beatCount 3 (some .int), Cond.fieldLink RX4 15 "DripSayings$Sayings" "lengths" "[I", Cond.methodLink RX6 228 yX3_washerCount, Cond.instanceMethod yX3_washerCount, Cond.selects RX3 yX3_washerCount yX3_washerCount, Cond.initialized RX3, Cond.code yX3_washerCount cX3_washerCount 4 (some .int), Cond.fieldLink RX3 27 "DripSayings$Room" "tapCount" "I", Cond.fieldLink RX3 52 "DripSayings$Tap" "washer" "I", Cond.methodLink RX3 37 yX3_tapAt, Cond.instanceMethod yX3_tapAt, Cond.selects RX3 yX3_tapAt yX3_tapAt]
def wsX6_countOf_r2 : List Cond := [Cond.code yX3_tapAt cX3_tapAt 2 (some (.object "DripSayings$Tap")), Cond.fieldLink RX3 11 "DripSayings$Room" "taps" "[LDripSayings$Tap;", Cond.methodLink RX6 231 yX3_heardCount, Cond.instanceMethod yX3_heardCount, Cond.selects RX3 yX3_heardCount yX3_heardCount, Cond.code yX3_heardCount cX3_heardCount 4 (some .int), Cond.fieldLink RX3 62 "DripSayings$Tap" "place" "I"]
def wsX6_countOf : List Cond := .code yX6_countOf cX6_countOf 2 (some .int) :: ((wsX6_countOf_r1 ++ wsX6_countOf_r2) ++ wsX60 ++ wsX30 ++ wsX10 ++ wsX40 ++ wsX50)
def wsX6_count_r1 : List Cond := [Cond.methodLink RX6 138 yX6_countOf, Cond.instanceMethod yX6_countOf, Cond.selects RX6 yX6_countOf yX6_countOf, Cond.initialized RX6, Cond.code yX6_countOf cX6_countOf 2 (some .int), Cond.fieldLink RX6 26 "DripSayings" "room" "LDripSayings$Room;", Cond.fieldLink RX6 67 "DripSayings$Room" "tapCount" "I", Cond.fieldLink RX6 19 "DripSayings" "sayings" "LDripSayings$Sayings;", Cond.fieldLink RX6 108 "DripSayings$Room" "changes" "I", Cond.fieldLink RX6 121 "DripSayings$Room" "noteCount" "I", Cond.fieldLink RX6 10 "DripSayings" "page" "LDripSayings$Page;", Cond.fieldLink RX6 33 "DripSayings$Page" "size" "I", Cond.fieldLink RX6 64 "DripSayings" "housesRead" "I", Cond.methodLink RX6 225 yX4_beatCount, Cond.instanceMethod yX4_beatCount, Cond.selects RX4 yX4_beatCount yX4_beatCount, Cond.initialized RX4, Cond.code yX4_beatCount cX4_beatCount 3 (some .int), Cond.fieldLink RX4 15 "DripSayings$Sayings" "lengths" "[I", Cond.methodLink RX6 228 yX3_washerCount, Cond.instanceMethod yX3_washerCount, Cond.selects RX3 yX3_washerCount yX3_washerCount, Cond.initialized RX3, Cond.code yX3_washerCount cX3_washerCount 4 (some .int)]
def wsX6_count_r2 : List Cond := [Cond.fieldLink RX3 27 "DripSayings$Room" "tapCount" "I", Cond.fieldLink RX3 52 "DripSayings$Tap" "washer" "I", Cond.methodLink RX3 37 yX3_tapAt, Cond.instanceMethod yX3_tapAt, Cond.selects RX3 yX3_tapAt yX3_tapAt, Cond.code yX3_tapAt cX3_tapAt 2 (some (.object "DripSayings$Tap")), Cond.fieldLink RX3 11 "DripSayings$Room" "taps" "[LDripSayings$Tap;", Cond.methodLink RX6 231 yX3_heardCount, Cond.instanceMethod yX3_heardCount, Cond.selects RX3 yX3_heardCount yX3_heardCount, Cond.code yX3_heardCount cX3_heardCount 4 (some .int), Cond.fieldLink RX3 62 "DripSayings$Tap" "place" "I"]
def wsX6_count : List Cond := .code yX6_count cX6_count 2 (some .int) :: ((wsX6_count_r1 ++ wsX6_count_r2) ++ wsX60 ++ wsX30 ++ wsX10 ++ wsX40 ++ wsX50)
def wsX6_digestSayings : List Cond := .code yX6_digestSayings cX6_digestSayings 7 (some .long) :: ([.constantLong RX6 151 (31), .fieldLink RX6 19 "DripSayings" "sayings" "LDripSayings$Sayings;", .methodLink RX6 74 yX4_lengthOf, .instanceMethod yX4_lengthOf, .selects RX4 yX4_lengthOf yX4_lengthOf, .initialized RX4, .code yX4_lengthOf cX4_lengthOf 2 (some .int), .fieldLink RX4 15 "DripSayings$Sayings" "lengths" "[I", .methodLink RX6 78 yX4_beatOf, .instanceMethod yX4_beatOf, .selects RX4 yX4_beatOf yX4_beatOf, .code yX4_beatOf cX4_beatOf 4 (some .int), .fieldLink RX4 9 "DripSayings$Sayings" "beats" "[I"] ++ wsX60 ++ wsX40)
def wsX6_digestTap_r1 : List Cond := [Cond.constantLong RX6 151 (31), Cond.methodLink RX6 93 yX6_aboutOf, Cond.instanceMethod yX6_aboutOf, Cond.selects RX6 yX6_aboutOf yX6_aboutOf, Cond.initialized RX6, Cond.code yX6_aboutOf cX6_aboutOf 3 (some .int), Cond.fieldLink RX6 97 "DripSayings$Tap" "kind" "I", Cond.fieldLink RX6 114 "DripSayings$Tap" "saying" "I", Cond.fieldLink RX6 111 "DripSayings$Tap" "washer" "I", Cond.fieldLink RX6 105 "DripSayings$Tap" "place" "I", Cond.methodLink RX6 166 yX6_sureOf, Cond.instanceMethod yX6_sureOf, Cond.selects RX6 yX6_sureOf yX6_sureOf, Cond.code yX6_sureOf cX6_sureOf 6 (some .int), Cond.methodLink RX6 185 Lib.Math.max.name, Cond.static Lib.Math.max.name, Cond.initialized "java/lang/Math", Cond.code Lib.Math.max.name Lib.Math.max.code 2 (some .int), Cond.methodLink RX6 182 yX6_enoughToTell, Cond.instanceMethod yX6_enoughToTell, Cond.selects RX6 yX6_enoughToTell yX6_enoughToTell, Cond.code yX6_enoughToTell cX6_enoughToTell 7 (some .int), Cond.fieldLink RX6 19 "DripSayings" "sayings" "LDripSayings$Sayings;", Cond.methodLink RX6 162 yX4_dripBy]
def wsX6_digestTap_r2 : List Cond := [Cond.instanceMethod yX4_dripBy, Cond.selects RX4 yX4_dripBy yX4_dripBy, Cond.initialized RX4, Cond.code yX4_dripBy cX4_dripBy 8 (some .int), Cond.methodLink RX4 18 yX4_lengthOf, Cond.instanceMethod yX4_lengthOf, Cond.selects RX4 yX4_lengthOf yX4_lengthOf, Cond.code yX4_lengthOf cX4_lengthOf 2 (some .int), Cond.fieldLink RX4 15 "DripSayings$Sayings" "lengths" "[I", Cond.methodLink RX4 22 yX4_beatOf, Cond.instanceMethod yX4_beatOf, Cond.selects RX4 yX4_beatOf yX4_beatOf, Cond.code yX4_beatOf cX4_beatOf 4 (some .int), Cond.fieldLink RX4 9 "DripSayings$Sayings" "beats" "[I", Cond.methodLink RX6 170 yX6_saysOf, Cond.instanceMethod yX6_saysOf, Cond.selects RX6 yX6_saysOf yX6_saysOf, Cond.code yX6_saysOf cX6_saysOf 4 (some .int), Cond.methodLink RX6 176 yX6_slipsOf, Cond.instanceMethod yX6_slipsOf, Cond.selects RX6 yX6_slipsOf yX6_slipsOf, Cond.code yX6_slipsOf cX6_slipsOf 6 (some .int), Cond.fieldLink RX6 26 "DripSayings" "room" "LDripSayings$Room;", Cond.fieldLink RX6 121 "DripSayings$Room" "noteCount" "I"]
def wsX6_digestTap_r3 : List Cond := [Cond.fieldLink RX6 194 "DripSayings$Note" "tap" "I", Cond.fieldLink RX6 199 "DripSayings$Tap" "number" "I", Cond.fieldLink RX6 202 "DripSayings$Note" "washer" "I", Cond.fieldLink RX6 203 "DripSayings$Note" "drip" "I", Cond.fieldLink RX6 206 "DripSayings$Note" "beat" "I", Cond.methodLink RX6 190 yX3_noteAt, Cond.instanceMethod yX3_noteAt, Cond.selects RX3 yX3_noteAt yX3_noteAt, Cond.initialized RX3, Cond.code yX3_noteAt cX3_noteAt 2 (some (.object "DripSayings$Note")), Cond.fieldLink RX3 31 "DripSayings$Room" "noteCount" "I", Cond.fieldLink RX3 22 "DripSayings$Room" "notes" "[LDripSayings$Note;", Cond.methodLink RX6 173 yX6_likelyOf, Cond.instanceMethod yX6_likelyOf, Cond.selects RX6 yX6_likelyOf yX6_likelyOf, Cond.code yX6_likelyOf cX6_likelyOf 4 (some .int), Cond.methodLink RX6 179 yX6_bestToHear, Cond.instanceMethod yX6_bestToHear, Cond.selects RX6 yX6_bestToHear yX6_bestToHear, Cond.code yX6_bestToHear cX6_bestToHear 5 (some .int), Cond.methodLink RX6 209 yX6_leftAtWorst, Cond.instanceMethod yX6_leftAtWorst, Cond.selects RX6 yX6_leftAtWorst yX6_leftAtWorst, Cond.code yX6_leftAtWorst cX6_leftAtWorst 7 (some .int)]
def wsX6_digestTap_r4 : List Cond := [Cond.methodLink RX6 102 yX6_dripOf, Cond.instanceMethod yX6_dripOf, Cond.selects RX6 yX6_dripOf yX6_dripOf, Cond.code yX6_dripOf cX6_dripOf 3 (some .int), Cond.methodLink RX6 117 yX6_nearOf, Cond.instanceMethod yX6_nearOf, Cond.selects RX6 yX6_nearOf yX6_nearOf, Cond.code yX6_nearOf cX6_nearOf 6 (some .int), Cond.methodLink RX6 215 Lib.Math.min.name, Cond.static Lib.Math.min.name, Cond.code Lib.Math.min.name Lib.Math.min.code 2 (some .int), Cond.methodLink RX6 212 yX6_unlikeOf, Cond.instanceMethod yX6_unlikeOf, Cond.selects RX6 yX6_unlikeOf yX6_unlikeOf, Cond.code yX6_unlikeOf cX6_unlikeOf 7 (some .int)]
def wsX6_digestTap : List Cond := .code yX6_digestTap cX6_digestTap 8 (some .long) :: ((wsX6_digestTap_r1 ++ (wsX6_digestTap_r2 ++ (wsX6_digestTap_r3 ++ wsX6_digestTap_r4))) ++ wsX50 ++ wsX60 ++ wsX40 ++ wsX30 ++ wsX00)
def wsX6_digest_r1 : List Cond := [Cond.constantLong RX6 141 (1061), Cond.fieldLink RX6 57 "DripSayings" "hasHouse" "Z", Cond.fieldLink RX6 26 "DripSayings" "room" "LDripSayings$Room;", Cond.fieldLink RX6 67 "DripSayings$Room" "tapCount" "I", Cond.fieldLink RX6 10 "DripSayings" "page" "LDripSayings$Page;", Cond.fieldLink RX6 33 "DripSayings$Page" "size" "I", Cond.constantLong RX6 151 (31), Cond.methodLink RX6 143 yX6_digestSayings, Cond.instanceMethod yX6_digestSayings, Cond.selects RX6 yX6_digestSayings yX6_digestSayings, Cond.initialized RX6, Cond.code yX6_digestSayings cX6_digestSayings 7 (some .long), Cond.fieldLink RX6 19 "DripSayings" "sayings" "LDripSayings$Sayings;", Cond.methodLink RX6 74 yX4_lengthOf, Cond.instanceMethod yX4_lengthOf, Cond.selects RX4 yX4_lengthOf yX4_lengthOf, Cond.initialized RX4, Cond.code yX4_lengthOf cX4_lengthOf 2 (some .int), Cond.fieldLink RX4 15 "DripSayings$Sayings" "lengths" "[I", Cond.methodLink RX6 78 yX4_beatOf, Cond.instanceMethod yX4_beatOf, Cond.selects RX4 yX4_beatOf yX4_beatOf, Cond.code yX4_beatOf cX4_beatOf 4 (some .int), Cond.fieldLink RX4 9 "DripSayings$Sayings" "beats" "[I"]
def wsX6_digest_r2 : List Cond := [Cond.methodLink RX6 89 yX3_tapAt, Cond.instanceMethod yX3_tapAt, Cond.selects RX3 yX3_tapAt yX3_tapAt, Cond.initialized RX3, Cond.code yX3_tapAt cX3_tapAt 2 (some (.object "DripSayings$Tap")), Cond.fieldLink RX3 27 "DripSayings$Room" "tapCount" "I", Cond.fieldLink RX3 11 "DripSayings$Room" "taps" "[LDripSayings$Tap;", Cond.methodLink RX6 147 yX6_digestTap, Cond.instanceMethod yX6_digestTap, Cond.selects RX6 yX6_digestTap yX6_digestTap, Cond.code yX6_digestTap cX6_digestTap 8 (some .long), Cond.methodLink RX6 93 yX6_aboutOf, Cond.instanceMethod yX6_aboutOf, Cond.selects RX6 yX6_aboutOf yX6_aboutOf, Cond.code yX6_aboutOf cX6_aboutOf 3 (some .int), Cond.fieldLink RX6 97 "DripSayings$Tap" "kind" "I", Cond.fieldLink RX6 114 "DripSayings$Tap" "saying" "I", Cond.fieldLink RX6 111 "DripSayings$Tap" "washer" "I", Cond.fieldLink RX6 105 "DripSayings$Tap" "place" "I", Cond.methodLink RX6 166 yX6_sureOf, Cond.instanceMethod yX6_sureOf, Cond.selects RX6 yX6_sureOf yX6_sureOf, Cond.code yX6_sureOf cX6_sureOf 6 (some .int), Cond.methodLink RX6 185 Lib.Math.max.name]
def wsX6_digest_r3 : List Cond := [Cond.static Lib.Math.max.name, Cond.initialized "java/lang/Math", Cond.code Lib.Math.max.name Lib.Math.max.code 2 (some .int), Cond.methodLink RX6 182 yX6_enoughToTell, Cond.instanceMethod yX6_enoughToTell, Cond.selects RX6 yX6_enoughToTell yX6_enoughToTell, Cond.code yX6_enoughToTell cX6_enoughToTell 7 (some .int), Cond.methodLink RX6 162 yX4_dripBy, Cond.instanceMethod yX4_dripBy, Cond.selects RX4 yX4_dripBy yX4_dripBy, Cond.code yX4_dripBy cX4_dripBy 8 (some .int), Cond.methodLink RX4 18 yX4_lengthOf, Cond.methodLink RX4 22 yX4_beatOf, Cond.methodLink RX6 170 yX6_saysOf, Cond.instanceMethod yX6_saysOf, Cond.selects RX6 yX6_saysOf yX6_saysOf, Cond.code yX6_saysOf cX6_saysOf 4 (some .int), Cond.methodLink RX6 176 yX6_slipsOf, Cond.instanceMethod yX6_slipsOf, Cond.selects RX6 yX6_slipsOf yX6_slipsOf, Cond.code yX6_slipsOf cX6_slipsOf 6 (some .int), Cond.fieldLink RX6 121 "DripSayings$Room" "noteCount" "I", Cond.fieldLink RX6 194 "DripSayings$Note" "tap" "I", Cond.fieldLink RX6 199 "DripSayings$Tap" "number" "I"]
def wsX6_digest_r4 : List Cond := [Cond.fieldLink RX6 202 "DripSayings$Note" "washer" "I", Cond.fieldLink RX6 203 "DripSayings$Note" "drip" "I", Cond.fieldLink RX6 206 "DripSayings$Note" "beat" "I", Cond.methodLink RX6 190 yX3_noteAt, Cond.instanceMethod yX3_noteAt, Cond.selects RX3 yX3_noteAt yX3_noteAt, Cond.code yX3_noteAt cX3_noteAt 2 (some (.object "DripSayings$Note")), Cond.fieldLink RX3 31 "DripSayings$Room" "noteCount" "I", Cond.fieldLink RX3 22 "DripSayings$Room" "notes" "[LDripSayings$Note;", Cond.methodLink RX6 173 yX6_likelyOf, Cond.instanceMethod yX6_likelyOf, Cond.selects RX6 yX6_likelyOf yX6_likelyOf, Cond.code yX6_likelyOf cX6_likelyOf 4 (some .int), Cond.methodLink RX6 179 yX6_bestToHear, Cond.instanceMethod yX6_bestToHear, Cond.selects RX6 yX6_bestToHear yX6_bestToHear, Cond.code yX6_bestToHear cX6_bestToHear 5 (some .int), Cond.methodLink RX6 209 yX6_leftAtWorst, Cond.instanceMethod yX6_leftAtWorst, Cond.selects RX6 yX6_leftAtWorst yX6_leftAtWorst, Cond.code yX6_leftAtWorst cX6_leftAtWorst 7 (some .int), Cond.methodLink RX6 102 yX6_dripOf, Cond.instanceMethod yX6_dripOf, Cond.selects RX6 yX6_dripOf yX6_dripOf]
def wsX6_digest_r5 : List Cond := [Cond.code yX6_dripOf cX6_dripOf 3 (some .int), Cond.methodLink RX6 117 yX6_nearOf, Cond.instanceMethod yX6_nearOf, Cond.selects RX6 yX6_nearOf yX6_nearOf, Cond.code yX6_nearOf cX6_nearOf 6 (some .int), Cond.methodLink RX6 215 Lib.Math.min.name, Cond.static Lib.Math.min.name, Cond.code Lib.Math.min.name Lib.Math.min.code 2 (some .int), Cond.methodLink RX6 212 yX6_unlikeOf, Cond.instanceMethod yX6_unlikeOf, Cond.selects RX6 yX6_unlikeOf yX6_unlikeOf, Cond.code yX6_unlikeOf cX6_unlikeOf 7 (some .int), Cond.methodLink RX6 153 yX1_codeAt, Cond.instanceMethod yX1_codeAt, Cond.selects RX1 yX1_codeAt yX1_codeAt, Cond.initialized RX1, Cond.code yX1_codeAt cX1_codeAt 2 (some .int), Cond.fieldLink RX1 22 "DripSayings$Page" "size" "I", Cond.fieldLink RX1 9 "DripSayings$Page" "codes" "[I", Cond.methodLink RX6 138 yX6_countOf, Cond.instanceMethod yX6_countOf, Cond.selects RX6 yX6_countOf yX6_countOf, Cond.code yX6_countOf cX6_countOf 2 (some .int), Cond.fieldLink RX6 108 "DripSayings$Room" "changes" "I"]
def wsX6_digest_r6 : List Cond := [Cond.fieldLink RX6 64 "DripSayings" "housesRead" "I", Cond.methodLink RX6 225 yX4_beatCount, Cond.instanceMethod yX4_beatCount, Cond.selects RX4 yX4_beatCount yX4_beatCount, Cond.code yX4_beatCount cX4_beatCount 3 (some .int), Cond.methodLink RX6 228 yX3_washerCount, Cond.instanceMethod yX3_washerCount, Cond.selects RX3 yX3_washerCount yX3_washerCount, Cond.code yX3_washerCount cX3_washerCount 4 (some .int), Cond.fieldLink RX3 52 "DripSayings$Tap" "washer" "I", Cond.methodLink RX3 37 yX3_tapAt, Cond.methodLink RX6 231 yX3_heardCount, Cond.instanceMethod yX3_heardCount, Cond.selects RX3 yX3_heardCount yX3_heardCount, Cond.code yX3_heardCount cX3_heardCount 4 (some .int), Cond.fieldLink RX3 62 "DripSayings$Tap" "place" "I"]
def wsX6_digest : List Cond := .code yX6_digest cX6_digest 5 (some .long) :: ((wsX6_digest_r1 ++ (wsX6_digest_r2 ++ (wsX6_digest_r3 ++ (wsX6_digest_r4 ++ (wsX6_digest_r5 ++ wsX6_digest_r6))))) ++ wsX60 ++ wsX30 ++ wsX10 ++ wsX40 ++ wsX50 ++ wsX00)
def wsX7_init : List Cond := .code yX7_init cX7_init 1 none :: ([.methodLink RX7 1 objectInit, .instanceMethod objectInit, .code objectInit ⟨#[0xb1]⟩ 1 none, .arrayClass .int, .fieldLink RX7 7 "DripSayingsModel" "page" "[I", .fieldLink RX7 13 "DripSayingsModel" "readBeats" "[I", .fieldLink RX7 16 "DripSayingsModel" "readTaps" "[I", .fieldLink RX7 19 "DripSayingsModel" "beats" "[I", .fieldLink RX7 22 "DripSayingsModel" "rows" "[I", .fieldLink RX7 25 "DripSayingsModel" "puts" "[I", .fieldLink RX7 28 "DripSayingsModel" "keptRows" "[I", .fieldLink RX7 31 "DripSayingsModel" "keptPutRows" "[I", .fieldLink RX7 34 "DripSayingsModel" "keptHouse" "I"] ++ wsX70)
def wsX7_in : List Cond := .code yX7_in cX7_in 6 (some .boolean) :: ([])
def wsX7_copy : List Cond := .code yX7_copy cX7_copy 3 none :: ([])
def wsX7_letter : List Cond := .code yX7_letter cX7_letter 2 (some .int) :: ([.constantLong RX7 38 (126), .fieldLink RX7 44 "DripSayingsModel" "pageMany" "I", .fieldLink RX7 7 "DripSayingsModel" "page" "[I", .methodLink RX7 40 yX7_in, .static yX7_in, .initialized RX7, .code yX7_in cX7_in 6 (some .boolean)] ++ wsX70)
def wsX7_blank : List Cond := .code yX7_blank cX7_blank 2 (some .int) :: ([.fieldLink RX7 44 "DripSayingsModel" "pageMany" "I"] ++ wsX70)
def wsX7_kindBy : List Cond := .code yX7_kindBy cX7_kindBy 1 (some .int) :: ([])
def wsX7_goSaying : List Cond := .code yX7_goSaying cX7_goSaying 4 (some .boolean) :: ([.fieldLink RX7 47 "DripSayingsModel" "part" "I", .fieldLink RX7 13 "DripSayingsModel" "readBeats" "[I"] ++ wsX70)
def wsX7_goTap : List Cond := .code yX7_goTap cX7_goTap 3 (some .boolean) :: ([.fieldLink RX7 50 "DripSayingsModel" "step" "I", .fieldLink RX7 16 "DripSayingsModel" "readTaps" "[I", .fieldLink RX7 53 "DripSayingsModel" "readMany" "I", .constantLong RX7 60 (48), .constantLong RX7 62 (51), .methodLink RX7 56 yX7_kindBy, .static yX7_kindBy, .initialized RX7, .code yX7_kindBy cX7_kindBy 1 (some .int), .methodLink RX7 40 yX7_in, .static yX7_in, .code yX7_in cX7_in 6 (some .boolean)] ++ wsX70)
def wsX7_faultOf : List Cond := .code yX7_faultOf cX7_faultOf 2 (some .int) :: ([.fieldLink RX7 47 "DripSayingsModel" "part" "I", .fieldLink RX7 13 "DripSayingsModel" "readBeats" "[I", .fieldLink RX7 53 "DripSayingsModel" "readMany" "I", .fieldLink RX7 50 "DripSayingsModel" "step" "I", .fieldLink RX7 44 "DripSayingsModel" "pageMany" "I", .fieldLink RX7 7 "DripSayingsModel" "page" "[I", .methodLink RX7 64 yX7_goSaying, .instanceMethod yX7_goSaying, .selects RX7 yX7_goSaying yX7_goSaying, .initialized RX7, .code yX7_goSaying cX7_goSaying 4 (some .boolean), .methodLink RX7 68 yX7_goTap, .instanceMethod yX7_goTap, .selects RX7 yX7_goTap yX7_goTap, .code yX7_goTap cX7_goTap 3 (some .boolean), .fieldLink RX7 16 "DripSayingsModel" "readTaps" "[I", .constantLong RX7 60 (48), .constantLong RX7 62 (51), .methodLink RX7 56 yX7_kindBy, .static yX7_kindBy, .code yX7_kindBy cX7_kindBy 1 (some .int), .methodLink RX7 40 yX7_in, .static yX7_in, .code yX7_in cX7_in 6 (some .boolean)] ++ wsX70)
def wsX7_fault_r1 : List Cond := [Cond.methodLink RX7 71 yX7_faultOf, Cond.instanceMethod yX7_faultOf, Cond.selects RX7 yX7_faultOf yX7_faultOf, Cond.initialized RX7, Cond.code yX7_faultOf cX7_faultOf 2 (some .int), Cond.fieldLink RX7 47 "DripSayingsModel" "part" "I", Cond.fieldLink RX7 13 "DripSayingsModel" "readBeats" "[I", Cond.fieldLink RX7 53 "DripSayingsModel" "readMany" "I", Cond.fieldLink RX7 50 "DripSayingsModel" "step" "I", Cond.fieldLink RX7 44 "DripSayingsModel" "pageMany" "I", Cond.fieldLink RX7 7 "DripSayingsModel" "page" "[I", Cond.methodLink RX7 64 yX7_goSaying, Cond.instanceMethod yX7_goSaying, Cond.selects RX7 yX7_goSaying yX7_goSaying, Cond.code yX7_goSaying cX7_goSaying 4 (some .boolean), Cond.methodLink RX7 68 yX7_goTap, Cond.instanceMethod yX7_goTap, Cond.selects RX7 yX7_goTap yX7_goTap, Cond.code yX7_goTap cX7_goTap 3 (some .boolean), Cond.fieldLink RX7 16 "DripSayingsModel" "readTaps" "[I", Cond.constantLong RX7 60 (48), Cond.constantLong RX7 62 (51), Cond.methodLink RX7 56 yX7_kindBy, Cond.static yX7_kindBy]
def wsX7_fault_r2 : List Cond := [Cond.code yX7_kindBy cX7_kindBy 1 (some .int), Cond.methodLink RX7 40 yX7_in, Cond.static yX7_in, Cond.code yX7_in cX7_in 6 (some .boolean)]
def wsX7_fault : List Cond := .code yX7_fault cX7_fault 1 (some .int) :: ((wsX7_fault_r1 ++ wsX7_fault_r2) ++ wsX70)
def wsX7_house_r1 : List Cond := [Cond.fieldLink RX7 44 "DripSayingsModel" "pageMany" "I", Cond.fieldLink RX7 47 "DripSayingsModel" "part" "I", Cond.fieldLink RX7 50 "DripSayingsModel" "step" "I", Cond.fieldLink RX7 53 "DripSayingsModel" "readMany" "I", Cond.fieldLink RX7 75 "DripSayingsModel" "taps" "I", Cond.fieldLink RX7 13 "DripSayingsModel" "readBeats" "[I", Cond.fieldLink RX7 19 "DripSayingsModel" "beats" "[I", Cond.fieldLink RX7 22 "DripSayingsModel" "rows" "[I", Cond.fieldLink RX7 16 "DripSayingsModel" "readTaps" "[I", Cond.fieldLink RX7 82 "DripSayingsModel" "changes" "I", Cond.fieldLink RX7 85 "DripSayingsModel" "putMany" "I", Cond.fieldLink RX7 88 "DripSayingsModel" "housesRead" "I", Cond.methodLink RX7 71 yX7_faultOf, Cond.instanceMethod yX7_faultOf, Cond.selects RX7 yX7_faultOf yX7_faultOf, Cond.initialized RX7, Cond.code yX7_faultOf cX7_faultOf 2 (some .int), Cond.fieldLink RX7 7 "DripSayingsModel" "page" "[I", Cond.methodLink RX7 64 yX7_goSaying, Cond.instanceMethod yX7_goSaying, Cond.selects RX7 yX7_goSaying yX7_goSaying, Cond.code yX7_goSaying cX7_goSaying 4 (some .boolean), Cond.methodLink RX7 68 yX7_goTap, Cond.instanceMethod yX7_goTap]
def wsX7_house_r2 : List Cond := [Cond.selects RX7 yX7_goTap yX7_goTap, Cond.code yX7_goTap cX7_goTap 3 (some .boolean), Cond.constantLong RX7 60 (48), Cond.constantLong RX7 62 (51), Cond.methodLink RX7 56 yX7_kindBy, Cond.static yX7_kindBy, Cond.code yX7_kindBy cX7_kindBy 1 (some .int), Cond.methodLink RX7 40 yX7_in, Cond.static yX7_in, Cond.code yX7_in cX7_in 6 (some .boolean), Cond.methodLink RX7 78 yX7_copy, Cond.static yX7_copy, Cond.code yX7_copy cX7_copy 3 none]
def wsX7_house : List Cond := .code yX7_house cX7_house 2 (some .int) :: ((wsX7_house_r1 ++ wsX7_house_r2) ++ wsX70)
def wsX7_lacks : List Cond := .code yX7_lacks cX7_lacks 1 (some .boolean) :: ([.fieldLink RX7 75 "DripSayingsModel" "taps" "I"] ++ wsX70)
def wsX7_isTap : List Cond := .code yX7_isTap cX7_isTap 2 (some .boolean) :: ([.fieldLink RX7 75 "DripSayingsModel" "taps" "I", .methodLink RX7 40 yX7_in, .static yX7_in, .initialized RX7, .code yX7_in cX7_in 6 (some .boolean)] ++ wsX70)
def wsX7_isSaying : List Cond := .code yX7_isSaying cX7_isSaying 1 (some .boolean) :: ([.constantLong RX7 91 (3), .methodLink RX7 40 yX7_in, .static yX7_in, .initialized RX7, .code yX7_in cX7_in 6 (some .boolean)])
def wsX7_tellSaying : List Cond := .code yX7_tellSaying cX7_tellSaying 3 (some .int) :: ([.fieldLink RX7 19 "DripSayingsModel" "beats" "[I", .constantLong RX7 93 (10), .constantLong RX7 95 (13), .methodLink RX7 40 yX7_in, .static yX7_in, .initialized RX7, .code yX7_in cX7_in 6 (some .boolean)] ++ wsX70)
def wsX7_saying : List Cond := .code yX7_saying cX7_saying 3 (some .int) :: ([.methodLink RX7 97 yX7_lacks, .instanceMethod yX7_lacks, .selects RX7 yX7_lacks yX7_lacks, .initialized RX7, .code yX7_lacks cX7_lacks 1 (some .boolean), .fieldLink RX7 75 "DripSayingsModel" "taps" "I", .methodLink RX7 101 yX7_isSaying, .static yX7_isSaying, .code yX7_isSaying cX7_isSaying 1 (some .boolean), .constantLong RX7 91 (3), .methodLink RX7 40 yX7_in, .static yX7_in, .code yX7_in cX7_in 6 (some .boolean), .methodLink RX7 104 yX7_tellSaying, .instanceMethod yX7_tellSaying, .selects RX7 yX7_tellSaying yX7_tellSaying, .code yX7_tellSaying cX7_tellSaying 3 (some .int), .fieldLink RX7 19 "DripSayingsModel" "beats" "[I", .constantLong RX7 93 (10), .constantLong RX7 95 (13)] ++ wsX70)
def wsX7_dripBy : List Cond := .code yX7_dripBy cX7_dripBy 9 (some .int) :: ([.fieldLink RX7 19 "DripSayingsModel" "beats" "[I"] ++ wsX70)
def wsX7_dripAs : List Cond := .code yX7_dripAs cX7_dripAs 4 (some .int) :: ([.fieldLink RX7 22 "DripSayingsModel" "rows" "[I", .methodLink RX7 108 yX7_dripBy, .instanceMethod yX7_dripBy, .selects RX7 yX7_dripBy yX7_dripBy, .initialized RX7, .code yX7_dripBy cX7_dripBy 9 (some .int), .fieldLink RX7 19 "DripSayingsModel" "beats" "[I"] ++ wsX70)
def wsX7_dripOf : List Cond := .code yX7_dripOf cX7_dripOf 3 (some .int) :: ([.fieldLink RX7 22 "DripSayingsModel" "rows" "[I", .methodLink RX7 112 yX7_dripAs, .instanceMethod yX7_dripAs, .selects RX7 yX7_dripAs yX7_dripAs, .initialized RX7, .code yX7_dripAs cX7_dripAs 4 (some .int), .methodLink RX7 108 yX7_dripBy, .instanceMethod yX7_dripBy, .selects RX7 yX7_dripBy yX7_dripBy, .code yX7_dripBy cX7_dripBy 9 (some .int), .fieldLink RX7 19 "DripSayingsModel" "beats" "[I"] ++ wsX70)
def wsX7_tap : List Cond := .code yX7_tap cX7_tap 3 (some .int) :: ([.constantLong RX7 116 (4), .fieldLink RX7 75 "DripSayingsModel" "taps" "I", .fieldLink RX7 22 "DripSayingsModel" "rows" "[I", .methodLink RX7 40 yX7_in, .static yX7_in, .initialized RX7, .code yX7_in cX7_in 6 (some .boolean), .methodLink RX7 101 yX7_isSaying, .static yX7_isSaying, .code yX7_isSaying cX7_isSaying 1 (some .boolean), .constantLong RX7 91 (3), .methodLink RX7 97 yX7_lacks, .instanceMethod yX7_lacks, .selects RX7 yX7_lacks yX7_lacks, .code yX7_lacks cX7_lacks 1 (some .boolean)] ++ wsX70)
def wsX7_patternOf : List Cond := .code yX7_patternOf cX7_patternOf 6 (some .int) :: ([.fieldLink RX7 22 "DripSayingsModel" "rows" "[I", .methodLink RX7 112 yX7_dripAs, .instanceMethod yX7_dripAs, .selects RX7 yX7_dripAs yX7_dripAs, .initialized RX7, .code yX7_dripAs cX7_dripAs 4 (some .int), .methodLink RX7 108 yX7_dripBy, .instanceMethod yX7_dripBy, .selects RX7 yX7_dripBy yX7_dripBy, .code yX7_dripBy cX7_dripBy 9 (some .int), .fieldLink RX7 19 "DripSayingsModel" "beats" "[I"] ++ wsX70)
def wsX7_sureOf : List Cond := .code yX7_sureOf cX7_sureOf 6 (some .int) :: ([.methodLink RX7 118 yX7_patternOf, .instanceMethod yX7_patternOf, .selects RX7 yX7_patternOf yX7_patternOf, .initialized RX7, .code yX7_patternOf cX7_patternOf 6 (some .int), .fieldLink RX7 22 "DripSayingsModel" "rows" "[I", .methodLink RX7 112 yX7_dripAs, .instanceMethod yX7_dripAs, .selects RX7 yX7_dripAs yX7_dripAs, .code yX7_dripAs cX7_dripAs 4 (some .int), .methodLink RX7 108 yX7_dripBy, .instanceMethod yX7_dripBy, .selects RX7 yX7_dripBy yX7_dripBy, .code yX7_dripBy cX7_dripBy 9 (some .int), .fieldLink RX7 19 "DripSayingsModel" "beats" "[I"] ++ wsX70)
def wsX7_slipsBy : List Cond := .code yX7_slipsBy cX7_slipsBy 6 (some .int) :: ([.fieldLink RX7 85 "DripSayingsModel" "putMany" "I", .fieldLink RX7 22 "DripSayingsModel" "rows" "[I", .fieldLink RX7 25 "DripSayingsModel" "puts" "[I", .methodLink RX7 108 yX7_dripBy, .instanceMethod yX7_dripBy, .selects RX7 yX7_dripBy yX7_dripBy, .initialized RX7, .code yX7_dripBy cX7_dripBy 9 (some .int), .fieldLink RX7 19 "DripSayingsModel" "beats" "[I"] ++ wsX70)
def wsX7_saysOf : List Cond := .code yX7_saysOf cX7_saysOf 4 (some .int) :: ([.methodLink RX7 130 yX7_slipsBy, .instanceMethod yX7_slipsBy, .selects RX7 yX7_slipsBy yX7_slipsBy, .initialized RX7, .code yX7_slipsBy cX7_slipsBy 6 (some .int), .fieldLink RX7 85 "DripSayingsModel" "putMany" "I", .fieldLink RX7 22 "DripSayingsModel" "rows" "[I", .fieldLink RX7 25 "DripSayingsModel" "puts" "[I", .methodLink RX7 108 yX7_dripBy, .instanceMethod yX7_dripBy, .selects RX7 yX7_dripBy yX7_dripBy, .code yX7_dripBy cX7_dripBy 9 (some .int), .fieldLink RX7 19 "DripSayingsModel" "beats" "[I"] ++ wsX70)
def wsX7_likelyOf : List Cond := .code yX7_likelyOf cX7_likelyOf 4 (some .int) :: ([.methodLink RX7 130 yX7_slipsBy, .instanceMethod yX7_slipsBy, .selects RX7 yX7_slipsBy yX7_slipsBy, .initialized RX7, .code yX7_slipsBy cX7_slipsBy 6 (some .int), .fieldLink RX7 85 "DripSayingsModel" "putMany" "I", .fieldLink RX7 22 "DripSayingsModel" "rows" "[I", .fieldLink RX7 25 "DripSayingsModel" "puts" "[I", .methodLink RX7 108 yX7_dripBy, .instanceMethod yX7_dripBy, .selects RX7 yX7_dripBy yX7_dripBy, .code yX7_dripBy cX7_dripBy 9 (some .int), .fieldLink RX7 19 "DripSayingsModel" "beats" "[I"] ++ wsX70)
def wsX7_listenOf : List Cond := .code yX7_listenOf cX7_listenOf 10 (some .int) :: ([.fieldLink RX7 22 "DripSayingsModel" "rows" "[I", .methodLink RX7 124 yX7_saysOf, .instanceMethod yX7_saysOf, .selects RX7 yX7_saysOf yX7_saysOf, .initialized RX7, .code yX7_saysOf cX7_saysOf 4 (some .int), .methodLink RX7 130 yX7_slipsBy, .instanceMethod yX7_slipsBy, .selects RX7 yX7_slipsBy yX7_slipsBy, .code yX7_slipsBy cX7_slipsBy 6 (some .int), .fieldLink RX7 85 "DripSayingsModel" "putMany" "I", .fieldLink RX7 25 "DripSayingsModel" "puts" "[I", .methodLink RX7 108 yX7_dripBy, .instanceMethod yX7_dripBy, .selects RX7 yX7_dripBy yX7_dripBy, .code yX7_dripBy cX7_dripBy 9 (some .int), .fieldLink RX7 19 "DripSayingsModel" "beats" "[I", .methodLink RX7 112 yX7_dripAs, .instanceMethod yX7_dripAs, .selects RX7 yX7_dripAs yX7_dripAs, .code yX7_dripAs cX7_dripAs 4 (some .int)] ++ wsX70)
def wsX7_tell_r1 : List Cond := [Cond.fieldLink RX7 22 "DripSayingsModel" "rows" "[I", Cond.methodLink RX7 121 yX7_sureOf, Cond.instanceMethod yX7_sureOf, Cond.selects RX7 yX7_sureOf yX7_sureOf, Cond.initialized RX7, Cond.code yX7_sureOf cX7_sureOf 6 (some .int), Cond.methodLink RX7 118 yX7_patternOf, Cond.instanceMethod yX7_patternOf, Cond.selects RX7 yX7_patternOf yX7_patternOf, Cond.code yX7_patternOf cX7_patternOf 6 (some .int), Cond.methodLink RX7 112 yX7_dripAs, Cond.instanceMethod yX7_dripAs, Cond.selects RX7 yX7_dripAs yX7_dripAs, Cond.code yX7_dripAs cX7_dripAs 4 (some .int), Cond.methodLink RX7 108 yX7_dripBy, Cond.instanceMethod yX7_dripBy, Cond.selects RX7 yX7_dripBy yX7_dripBy, Cond.code yX7_dripBy cX7_dripBy 9 (some .int), Cond.fieldLink RX7 19 "DripSayingsModel" "beats" "[I", Cond.methodLink RX7 124 yX7_saysOf, Cond.instanceMethod yX7_saysOf, Cond.selects RX7 yX7_saysOf yX7_saysOf, Cond.code yX7_saysOf cX7_saysOf 4 (some .int), Cond.methodLink RX7 130 yX7_slipsBy]
def wsX7_tell_r2 : List Cond := [Cond.instanceMethod yX7_slipsBy, Cond.selects RX7 yX7_slipsBy yX7_slipsBy, Cond.code yX7_slipsBy cX7_slipsBy 6 (some .int), Cond.fieldLink RX7 85 "DripSayingsModel" "putMany" "I", Cond.fieldLink RX7 25 "DripSayingsModel" "puts" "[I", Cond.methodLink RX7 127 yX7_likelyOf, Cond.instanceMethod yX7_likelyOf, Cond.selects RX7 yX7_likelyOf yX7_likelyOf, Cond.code yX7_likelyOf cX7_likelyOf 4 (some .int), Cond.methodLink RX7 133 yX7_listenOf, Cond.instanceMethod yX7_listenOf, Cond.selects RX7 yX7_listenOf yX7_listenOf, Cond.code yX7_listenOf cX7_listenOf 10 (some .int)]
def wsX7_tell : List Cond := .code yX7_tell cX7_tell 3 (some .int) :: ((wsX7_tell_r1 ++ wsX7_tell_r2) ++ wsX70)
def wsX7_about_r1 : List Cond := [Cond.methodLink RX7 136 yX7_isTap, Cond.instanceMethod yX7_isTap, Cond.selects RX7 yX7_isTap yX7_isTap, Cond.initialized RX7, Cond.code yX7_isTap cX7_isTap 2 (some .boolean), Cond.fieldLink RX7 75 "DripSayingsModel" "taps" "I", Cond.methodLink RX7 40 yX7_in, Cond.static yX7_in, Cond.code yX7_in cX7_in 6 (some .boolean), Cond.methodLink RX7 139 yX7_tell, Cond.instanceMethod yX7_tell, Cond.selects RX7 yX7_tell yX7_tell, Cond.code yX7_tell cX7_tell 3 (some .int), Cond.fieldLink RX7 22 "DripSayingsModel" "rows" "[I", Cond.methodLink RX7 121 yX7_sureOf, Cond.instanceMethod yX7_sureOf, Cond.selects RX7 yX7_sureOf yX7_sureOf, Cond.code yX7_sureOf cX7_sureOf 6 (some .int), Cond.methodLink RX7 118 yX7_patternOf, Cond.instanceMethod yX7_patternOf, Cond.selects RX7 yX7_patternOf yX7_patternOf, Cond.code yX7_patternOf cX7_patternOf 6 (some .int), Cond.methodLink RX7 112 yX7_dripAs, Cond.instanceMethod yX7_dripAs]
def wsX7_about_r2 : List Cond := [Cond.selects RX7 yX7_dripAs yX7_dripAs, Cond.code yX7_dripAs cX7_dripAs 4 (some .int), Cond.methodLink RX7 108 yX7_dripBy, Cond.instanceMethod yX7_dripBy, Cond.selects RX7 yX7_dripBy yX7_dripBy, Cond.code yX7_dripBy cX7_dripBy 9 (some .int), Cond.fieldLink RX7 19 "DripSayingsModel" "beats" "[I", Cond.methodLink RX7 124 yX7_saysOf, Cond.instanceMethod yX7_saysOf, Cond.selects RX7 yX7_saysOf yX7_saysOf, Cond.code yX7_saysOf cX7_saysOf 4 (some .int), Cond.methodLink RX7 130 yX7_slipsBy, Cond.instanceMethod yX7_slipsBy, Cond.selects RX7 yX7_slipsBy yX7_slipsBy, Cond.code yX7_slipsBy cX7_slipsBy 6 (some .int), Cond.fieldLink RX7 85 "DripSayingsModel" "putMany" "I", Cond.fieldLink RX7 25 "DripSayingsModel" "puts" "[I", Cond.methodLink RX7 127 yX7_likelyOf, Cond.instanceMethod yX7_likelyOf, Cond.selects RX7 yX7_likelyOf yX7_likelyOf, Cond.code yX7_likelyOf cX7_likelyOf 4 (some .int), Cond.methodLink RX7 133 yX7_listenOf, Cond.instanceMethod yX7_listenOf, Cond.selects RX7 yX7_listenOf yX7_listenOf]
def wsX7_about_r3 : List Cond := [Cond.code yX7_listenOf cX7_listenOf 10 (some .int)]
def wsX7_about : List Cond := .code yX7_about cX7_about 3 (some .int) :: ((wsX7_about_r1 ++ (wsX7_about_r2 ++ wsX7_about_r3)) ++ wsX70)
def wsX7_as : List Cond := .code yX7_as cX7_as 5 (some .int) :: ([.constantLong RX7 116 (4), .fieldLink RX7 22 "DripSayingsModel" "rows" "[I", .methodLink RX7 136 yX7_isTap, .instanceMethod yX7_isTap, .selects RX7 yX7_isTap yX7_isTap, .initialized RX7, .code yX7_isTap cX7_isTap 2 (some .boolean), .fieldLink RX7 75 "DripSayingsModel" "taps" "I", .methodLink RX7 40 yX7_in, .static yX7_in, .code yX7_in cX7_in 6 (some .boolean)] ++ wsX70)
def wsX7_drip : List Cond := .code yX7_drip cX7_drip 3 (some .int) :: ([.constantLong RX7 142 (99), .methodLink RX7 136 yX7_isTap, .instanceMethod yX7_isTap, .selects RX7 yX7_isTap yX7_isTap, .initialized RX7, .code yX7_isTap cX7_isTap 2 (some .boolean), .fieldLink RX7 75 "DripSayingsModel" "taps" "I", .methodLink RX7 40 yX7_in, .static yX7_in, .code yX7_in cX7_in 6 (some .boolean), .methodLink RX7 144 yX7_dripOf, .instanceMethod yX7_dripOf, .selects RX7 yX7_dripOf yX7_dripOf, .code yX7_dripOf cX7_dripOf 3 (some .int), .fieldLink RX7 22 "DripSayingsModel" "rows" "[I", .methodLink RX7 112 yX7_dripAs, .instanceMethod yX7_dripAs, .selects RX7 yX7_dripAs yX7_dripAs, .code yX7_dripAs cX7_dripAs 4 (some .int), .methodLink RX7 108 yX7_dripBy, .instanceMethod yX7_dripBy, .selects RX7 yX7_dripBy yX7_dripBy, .code yX7_dripBy cX7_dripBy 9 (some .int), .fieldLink RX7 19 "DripSayingsModel" "beats" "[I"] ++ wsX70)
def wsX7_listen : List Cond := .code yX7_listen cX7_listen 3 (some .int) :: ([.fieldLink RX7 22 "DripSayingsModel" "rows" "[I", .fieldLink RX7 82 "DripSayingsModel" "changes" "I", .methodLink RX7 136 yX7_isTap, .instanceMethod yX7_isTap, .selects RX7 yX7_isTap yX7_isTap, .initialized RX7, .code yX7_isTap cX7_isTap 2 (some .boolean), .fieldLink RX7 75 "DripSayingsModel" "taps" "I", .methodLink RX7 40 yX7_in, .static yX7_in, .code yX7_in cX7_in 6 (some .boolean), .methodLink RX7 144 yX7_dripOf, .instanceMethod yX7_dripOf, .selects RX7 yX7_dripOf yX7_dripOf, .code yX7_dripOf cX7_dripOf 3 (some .int), .methodLink RX7 112 yX7_dripAs, .instanceMethod yX7_dripAs, .selects RX7 yX7_dripAs yX7_dripAs, .code yX7_dripAs cX7_dripAs 4 (some .int), .methodLink RX7 108 yX7_dripBy, .instanceMethod yX7_dripBy, .selects RX7 yX7_dripBy yX7_dripBy, .code yX7_dripBy cX7_dripBy 9 (some .int), .fieldLink RX7 19 "DripSayingsModel" "beats" "[I"] ++ wsX70)
def wsX7_washer : List Cond := .code yX7_washer cX7_washer 4 (some .int) :: ([.fieldLink RX7 22 "DripSayingsModel" "rows" "[I", .fieldLink RX7 82 "DripSayingsModel" "changes" "I", .methodLink RX7 136 yX7_isTap, .instanceMethod yX7_isTap, .selects RX7 yX7_isTap yX7_isTap, .initialized RX7, .code yX7_isTap cX7_isTap 2 (some .boolean), .fieldLink RX7 75 "DripSayingsModel" "taps" "I", .methodLink RX7 40 yX7_in, .static yX7_in, .code yX7_in cX7_in 6 (some .boolean)] ++ wsX70)
def wsX7_teach : List Cond := .code yX7_teach cX7_teach 4 (some .int) :: ([.fieldLink RX7 22 "DripSayingsModel" "rows" "[I", .fieldLink RX7 82 "DripSayingsModel" "changes" "I", .methodLink RX7 136 yX7_isTap, .instanceMethod yX7_isTap, .selects RX7 yX7_isTap yX7_isTap, .initialized RX7, .code yX7_isTap cX7_isTap 2 (some .boolean), .fieldLink RX7 75 "DripSayingsModel" "taps" "I", .methodLink RX7 40 yX7_in, .static yX7_in, .code yX7_in cX7_in 6 (some .boolean), .methodLink RX7 101 yX7_isSaying, .static yX7_isSaying, .code yX7_isSaying cX7_isSaying 1 (some .boolean), .constantLong RX7 91 (3)] ++ wsX70)
def wsX7_agreeOf : List Cond := .code yX7_agreeOf cX7_agreeOf 5 (some .int) :: ([.fieldLink RX7 22 "DripSayingsModel" "rows" "[I", .methodLink RX7 144 yX7_dripOf, .instanceMethod yX7_dripOf, .selects RX7 yX7_dripOf yX7_dripOf, .initialized RX7, .code yX7_dripOf cX7_dripOf 3 (some .int), .methodLink RX7 112 yX7_dripAs, .instanceMethod yX7_dripAs, .selects RX7 yX7_dripAs yX7_dripAs, .code yX7_dripAs cX7_dripAs 4 (some .int), .methodLink RX7 108 yX7_dripBy, .instanceMethod yX7_dripBy, .selects RX7 yX7_dripBy yX7_dripBy, .code yX7_dripBy cX7_dripBy 9 (some .int), .fieldLink RX7 19 "DripSayingsModel" "beats" "[I"] ++ wsX70)
def wsX7_agree_r1 : List Cond := [Cond.methodLink RX7 136 yX7_isTap, Cond.instanceMethod yX7_isTap, Cond.selects RX7 yX7_isTap yX7_isTap, Cond.initialized RX7, Cond.code yX7_isTap cX7_isTap 2 (some .boolean), Cond.fieldLink RX7 75 "DripSayingsModel" "taps" "I", Cond.methodLink RX7 40 yX7_in, Cond.static yX7_in, Cond.code yX7_in cX7_in 6 (some .boolean), Cond.methodLink RX7 147 yX7_agreeOf, Cond.instanceMethod yX7_agreeOf, Cond.selects RX7 yX7_agreeOf yX7_agreeOf, Cond.code yX7_agreeOf cX7_agreeOf 5 (some .int), Cond.fieldLink RX7 22 "DripSayingsModel" "rows" "[I", Cond.methodLink RX7 144 yX7_dripOf, Cond.instanceMethod yX7_dripOf, Cond.selects RX7 yX7_dripOf yX7_dripOf, Cond.code yX7_dripOf cX7_dripOf 3 (some .int), Cond.methodLink RX7 112 yX7_dripAs, Cond.instanceMethod yX7_dripAs, Cond.selects RX7 yX7_dripAs yX7_dripAs, Cond.code yX7_dripAs cX7_dripAs 4 (some .int), Cond.methodLink RX7 108 yX7_dripBy, Cond.instanceMethod yX7_dripBy]
def wsX7_agree_r2 : List Cond := [Cond.selects RX7 yX7_dripBy yX7_dripBy, Cond.code yX7_dripBy cX7_dripBy 9 (some .int), Cond.fieldLink RX7 19 "DripSayingsModel" "beats" "[I"]
def wsX7_agree : List Cond := .code yX7_agree cX7_agree 3 (some .int) :: ((wsX7_agree_r1 ++ wsX7_agree_r2) ++ wsX70)
def wsX7_unlikeBy : List Cond := .code yX7_unlikeBy cX7_unlikeBy 7 (some .int) :: ([.fieldLink RX7 22 "DripSayingsModel" "rows" "[I", .methodLink RX7 108 yX7_dripBy, .instanceMethod yX7_dripBy, .selects RX7 yX7_dripBy yX7_dripBy, .initialized RX7, .code yX7_dripBy cX7_dripBy 9 (some .int), .fieldLink RX7 19 "DripSayingsModel" "beats" "[I"] ++ wsX70)
def wsX7_nearOf : List Cond := .code yX7_nearOf cX7_nearOf 7 (some .int) :: ([.methodLink RX7 150 yX7_unlikeBy, .instanceMethod yX7_unlikeBy, .selects RX7 yX7_unlikeBy yX7_unlikeBy, .initialized RX7, .code yX7_unlikeBy cX7_unlikeBy 7 (some .int), .fieldLink RX7 22 "DripSayingsModel" "rows" "[I", .methodLink RX7 108 yX7_dripBy, .instanceMethod yX7_dripBy, .selects RX7 yX7_dripBy yX7_dripBy, .code yX7_dripBy cX7_dripBy 9 (some .int), .fieldLink RX7 19 "DripSayingsModel" "beats" "[I"] ++ wsX70)
def wsX7_near_r1 : List Cond := [Cond.methodLink RX7 136 yX7_isTap, Cond.instanceMethod yX7_isTap, Cond.selects RX7 yX7_isTap yX7_isTap, Cond.initialized RX7, Cond.code yX7_isTap cX7_isTap 2 (some .boolean), Cond.fieldLink RX7 75 "DripSayingsModel" "taps" "I", Cond.methodLink RX7 40 yX7_in, Cond.static yX7_in, Cond.code yX7_in cX7_in 6 (some .boolean), Cond.methodLink RX7 101 yX7_isSaying, Cond.static yX7_isSaying, Cond.code yX7_isSaying cX7_isSaying 1 (some .boolean), Cond.constantLong RX7 91 (3), Cond.methodLink RX7 153 yX7_nearOf, Cond.instanceMethod yX7_nearOf, Cond.selects RX7 yX7_nearOf yX7_nearOf, Cond.code yX7_nearOf cX7_nearOf 7 (some .int), Cond.methodLink RX7 150 yX7_unlikeBy, Cond.instanceMethod yX7_unlikeBy, Cond.selects RX7 yX7_unlikeBy yX7_unlikeBy, Cond.code yX7_unlikeBy cX7_unlikeBy 7 (some .int), Cond.fieldLink RX7 22 "DripSayingsModel" "rows" "[I", Cond.methodLink RX7 108 yX7_dripBy, Cond.instanceMethod yX7_dripBy]
def wsX7_near_r2 : List Cond := [Cond.selects RX7 yX7_dripBy yX7_dripBy, Cond.code yX7_dripBy cX7_dripBy 9 (some .int), Cond.fieldLink RX7 19 "DripSayingsModel" "beats" "[I"]
def wsX7_near : List Cond := .code yX7_near cX7_near 4 (some .int) :: ((wsX7_near_r1 ++ wsX7_near_r2) ++ wsX70)
def wsX7_put : List Cond := .code yX7_put cX7_put 4 (some .int) :: ([.constantLong RX7 156 (59), .fieldLink RX7 85 "DripSayingsModel" "putMany" "I", .fieldLink RX7 25 "DripSayingsModel" "puts" "[I", .fieldLink RX7 22 "DripSayingsModel" "rows" "[I", .methodLink RX7 136 yX7_isTap, .instanceMethod yX7_isTap, .selects RX7 yX7_isTap yX7_isTap, .initialized RX7, .code yX7_isTap cX7_isTap 2 (some .boolean), .fieldLink RX7 75 "DripSayingsModel" "taps" "I", .methodLink RX7 40 yX7_in, .static yX7_in, .code yX7_in cX7_in 6 (some .boolean)] ++ wsX70)
def wsX7_forget : List Cond := .code yX7_forget cX7_forget 2 (some .int) :: ([.fieldLink RX7 85 "DripSayingsModel" "putMany" "I"] ++ wsX70)
def wsX7_draw : List Cond := .code yX7_draw cX7_draw 2 (some .int) :: ([.constantLong RX7 158 (1103515245), .fieldLink RX7 160 "DripSayingsModel" "seedNow" "I", .constantLong RX7 163 (12345), .constantLong RX7 165 (2147483647), .constant RX7 167 (65536)] ++ wsX70)
def wsX7_nights_r1 : List Cond := [Cond.constantLong RX7 168 (40), Cond.constantLong RX7 170 (2), Cond.fieldLink RX7 160 "DripSayingsModel" "seedNow" "I", Cond.fieldLink RX7 75 "DripSayingsModel" "taps" "I", Cond.fieldLink RX7 22 "DripSayingsModel" "rows" "[I", Cond.methodLink RX7 40 yX7_in, Cond.static yX7_in, Cond.initialized RX7, Cond.code yX7_in cX7_in 6 (some .boolean), Cond.methodLink RX7 97 yX7_lacks, Cond.instanceMethod yX7_lacks, Cond.selects RX7 yX7_lacks yX7_lacks, Cond.code yX7_lacks cX7_lacks 1 (some .boolean), Cond.methodLink RX7 144 yX7_dripOf, Cond.instanceMethod yX7_dripOf, Cond.selects RX7 yX7_dripOf yX7_dripOf, Cond.code yX7_dripOf cX7_dripOf 3 (some .int), Cond.methodLink RX7 112 yX7_dripAs, Cond.instanceMethod yX7_dripAs, Cond.selects RX7 yX7_dripAs yX7_dripAs, Cond.code yX7_dripAs cX7_dripAs 4 (some .int), Cond.methodLink RX7 108 yX7_dripBy, Cond.instanceMethod yX7_dripBy, Cond.selects RX7 yX7_dripBy yX7_dripBy]
def wsX7_nights_r2 : List Cond := [Cond.code yX7_dripBy cX7_dripBy 9 (some .int), Cond.fieldLink RX7 19 "DripSayingsModel" "beats" "[I", Cond.methodLink RX7 172 yX7_draw, Cond.instanceMethod yX7_draw, Cond.selects RX7 yX7_draw yX7_draw, Cond.code yX7_draw cX7_draw 2 (some .int), Cond.constantLong RX7 158 (1103515245), Cond.constantLong RX7 163 (12345), Cond.constantLong RX7 165 (2147483647), Cond.constant RX7 167 (65536)]
def wsX7_nights : List Cond := .code yX7_nights cX7_nights 10 (some .int) :: ((wsX7_nights_r1 ++ wsX7_nights_r2) ++ wsX70)
def wsX7_image : List Cond := .code yX7_image cX7_image 1 (some .int) :: ([.fieldLink RX7 22 "DripSayingsModel" "rows" "[I", .fieldLink RX7 28 "DripSayingsModel" "keptRows" "[I", .fieldLink RX7 25 "DripSayingsModel" "puts" "[I", .fieldLink RX7 31 "DripSayingsModel" "keptPutRows" "[I", .fieldLink RX7 75 "DripSayingsModel" "taps" "I", .fieldLink RX7 175 "DripSayingsModel" "keptTaps" "I", .fieldLink RX7 82 "DripSayingsModel" "changes" "I", .fieldLink RX7 178 "DripSayingsModel" "keptChanges" "I", .fieldLink RX7 85 "DripSayingsModel" "putMany" "I", .fieldLink RX7 181 "DripSayingsModel" "keptPuts" "I", .fieldLink RX7 88 "DripSayingsModel" "housesRead" "I", .fieldLink RX7 34 "DripSayingsModel" "keptHouse" "I", .methodLink RX7 97 yX7_lacks, .instanceMethod yX7_lacks, .selects RX7 yX7_lacks yX7_lacks, .initialized RX7, .code yX7_lacks cX7_lacks 1 (some .boolean), .methodLink RX7 78 yX7_copy, .static yX7_copy, .code yX7_copy cX7_copy 3 none] ++ wsX70)
def wsX7_restore : List Cond := .code yX7_restore cX7_restore 1 (some .int) :: ([.fieldLink RX7 34 "DripSayingsModel" "keptHouse" "I", .fieldLink RX7 88 "DripSayingsModel" "housesRead" "I", .fieldLink RX7 28 "DripSayingsModel" "keptRows" "[I", .fieldLink RX7 22 "DripSayingsModel" "rows" "[I", .fieldLink RX7 31 "DripSayingsModel" "keptPutRows" "[I", .fieldLink RX7 25 "DripSayingsModel" "puts" "[I", .fieldLink RX7 175 "DripSayingsModel" "keptTaps" "I", .fieldLink RX7 75 "DripSayingsModel" "taps" "I", .fieldLink RX7 178 "DripSayingsModel" "keptChanges" "I", .fieldLink RX7 82 "DripSayingsModel" "changes" "I", .fieldLink RX7 181 "DripSayingsModel" "keptPuts" "I", .fieldLink RX7 85 "DripSayingsModel" "putMany" "I", .methodLink RX7 78 yX7_copy, .static yX7_copy, .initialized RX7, .code yX7_copy cX7_copy 3 none] ++ wsX70)
def wsX7_beatsAll : List Cond := .code yX7_beatsAll cX7_beatsAll 3 (some .int) :: ([.fieldLink RX7 19 "DripSayingsModel" "beats" "[I", .methodLink RX7 97 yX7_lacks, .instanceMethod yX7_lacks, .selects RX7 yX7_lacks yX7_lacks, .initialized RX7, .code yX7_lacks cX7_lacks 1 (some .boolean), .fieldLink RX7 75 "DripSayingsModel" "taps" "I"] ++ wsX70)
def wsX7_sumAt : List Cond := .code yX7_sumAt cX7_sumAt 4 (some .int) :: ([.fieldLink RX7 75 "DripSayingsModel" "taps" "I", .fieldLink RX7 22 "DripSayingsModel" "rows" "[I"] ++ wsX70)
def wsX7_countOf : List Cond := .code yX7_countOf cX7_countOf 2 (some .int) :: ([.fieldLink RX7 75 "DripSayingsModel" "taps" "I", .fieldLink RX7 82 "DripSayingsModel" "changes" "I", .fieldLink RX7 85 "DripSayingsModel" "putMany" "I", .fieldLink RX7 44 "DripSayingsModel" "pageMany" "I", .fieldLink RX7 88 "DripSayingsModel" "housesRead" "I", .methodLink RX7 184 yX7_beatsAll, .instanceMethod yX7_beatsAll, .selects RX7 yX7_beatsAll yX7_beatsAll, .initialized RX7, .code yX7_beatsAll cX7_beatsAll 3 (some .int), .fieldLink RX7 19 "DripSayingsModel" "beats" "[I", .methodLink RX7 97 yX7_lacks, .instanceMethod yX7_lacks, .selects RX7 yX7_lacks yX7_lacks, .code yX7_lacks cX7_lacks 1 (some .boolean), .methodLink RX7 187 yX7_sumAt, .instanceMethod yX7_sumAt, .selects RX7 yX7_sumAt yX7_sumAt, .code yX7_sumAt cX7_sumAt 4 (some .int), .fieldLink RX7 22 "DripSayingsModel" "rows" "[I"] ++ wsX70)
def wsX7_count : List Cond := .code yX7_count cX7_count 2 (some .int) :: ([.methodLink RX7 190 yX7_countOf, .instanceMethod yX7_countOf, .selects RX7 yX7_countOf yX7_countOf, .initialized RX7, .code yX7_countOf cX7_countOf 2 (some .int), .fieldLink RX7 75 "DripSayingsModel" "taps" "I", .fieldLink RX7 82 "DripSayingsModel" "changes" "I", .fieldLink RX7 85 "DripSayingsModel" "putMany" "I", .fieldLink RX7 44 "DripSayingsModel" "pageMany" "I", .fieldLink RX7 88 "DripSayingsModel" "housesRead" "I", .methodLink RX7 184 yX7_beatsAll, .instanceMethod yX7_beatsAll, .selects RX7 yX7_beatsAll yX7_beatsAll, .code yX7_beatsAll cX7_beatsAll 3 (some .int), .fieldLink RX7 19 "DripSayingsModel" "beats" "[I", .methodLink RX7 97 yX7_lacks, .instanceMethod yX7_lacks, .selects RX7 yX7_lacks yX7_lacks, .code yX7_lacks cX7_lacks 1 (some .boolean), .methodLink RX7 187 yX7_sumAt, .instanceMethod yX7_sumAt, .selects RX7 yX7_sumAt yX7_sumAt, .code yX7_sumAt cX7_sumAt 4 (some .int), .fieldLink RX7 22 "DripSayingsModel" "rows" "[I"] ++ wsX70)
def wsX7_say : List Cond := .code yX7_say cX7_say 3 none :: ([.constantLong RX7 193 (31), .fieldLink RX7 195 "DripSayingsModel" "hash" "J"] ++ wsX70)
def wsX7_sayTap_r1 : List Cond := [Cond.methodLink RX7 139 yX7_tell, Cond.instanceMethod yX7_tell, Cond.selects RX7 yX7_tell yX7_tell, Cond.initialized RX7, Cond.code yX7_tell cX7_tell 3 (some .int), Cond.fieldLink RX7 22 "DripSayingsModel" "rows" "[I", Cond.methodLink RX7 121 yX7_sureOf, Cond.instanceMethod yX7_sureOf, Cond.selects RX7 yX7_sureOf yX7_sureOf, Cond.code yX7_sureOf cX7_sureOf 6 (some .int), Cond.methodLink RX7 118 yX7_patternOf, Cond.instanceMethod yX7_patternOf, Cond.selects RX7 yX7_patternOf yX7_patternOf, Cond.code yX7_patternOf cX7_patternOf 6 (some .int), Cond.methodLink RX7 112 yX7_dripAs, Cond.instanceMethod yX7_dripAs, Cond.selects RX7 yX7_dripAs yX7_dripAs, Cond.code yX7_dripAs cX7_dripAs 4 (some .int), Cond.methodLink RX7 108 yX7_dripBy, Cond.instanceMethod yX7_dripBy, Cond.selects RX7 yX7_dripBy yX7_dripBy, Cond.code yX7_dripBy cX7_dripBy 9 (some .int), Cond.fieldLink RX7 19 "DripSayingsModel" "beats" "[I", Cond.methodLink RX7 124 yX7_saysOf]
def wsX7_sayTap_r2 : List Cond := [Cond.instanceMethod yX7_saysOf, Cond.selects RX7 yX7_saysOf yX7_saysOf, Cond.code yX7_saysOf cX7_saysOf 4 (some .int), Cond.methodLink RX7 130 yX7_slipsBy, Cond.instanceMethod yX7_slipsBy, Cond.selects RX7 yX7_slipsBy yX7_slipsBy, Cond.code yX7_slipsBy cX7_slipsBy 6 (some .int), Cond.fieldLink RX7 85 "DripSayingsModel" "putMany" "I", Cond.fieldLink RX7 25 "DripSayingsModel" "puts" "[I", Cond.methodLink RX7 127 yX7_likelyOf, Cond.instanceMethod yX7_likelyOf, Cond.selects RX7 yX7_likelyOf yX7_likelyOf, Cond.code yX7_likelyOf cX7_likelyOf 4 (some .int), Cond.methodLink RX7 133 yX7_listenOf, Cond.instanceMethod yX7_listenOf, Cond.selects RX7 yX7_listenOf yX7_listenOf, Cond.code yX7_listenOf cX7_listenOf 10 (some .int), Cond.methodLink RX7 199 yX7_say, Cond.instanceMethod yX7_say, Cond.selects RX7 yX7_say yX7_say, Cond.code yX7_say cX7_say 3 none, Cond.constantLong RX7 193 (31), Cond.fieldLink RX7 195 "DripSayingsModel" "hash" "J", Cond.methodLink RX7 144 yX7_dripOf]
def wsX7_sayTap_r3 : List Cond := [Cond.instanceMethod yX7_dripOf, Cond.selects RX7 yX7_dripOf yX7_dripOf, Cond.code yX7_dripOf cX7_dripOf 3 (some .int), Cond.methodLink RX7 153 yX7_nearOf, Cond.instanceMethod yX7_nearOf, Cond.selects RX7 yX7_nearOf yX7_nearOf, Cond.code yX7_nearOf cX7_nearOf 7 (some .int), Cond.methodLink RX7 150 yX7_unlikeBy, Cond.instanceMethod yX7_unlikeBy, Cond.selects RX7 yX7_unlikeBy yX7_unlikeBy, Cond.code yX7_unlikeBy cX7_unlikeBy 7 (some .int)]
def wsX7_sayTap : List Cond := .code yX7_sayTap cX7_sayTap 3 none :: ((wsX7_sayTap_r1 ++ (wsX7_sayTap_r2 ++ wsX7_sayTap_r3)) ++ wsX70)
def wsX7_digest_r1 : List Cond := [Cond.constantLong RX7 203 (1061), Cond.fieldLink RX7 195 "DripSayingsModel" "hash" "J", Cond.fieldLink RX7 75 "DripSayingsModel" "taps" "I", Cond.fieldLink RX7 44 "DripSayingsModel" "pageMany" "I", Cond.fieldLink RX7 7 "DripSayingsModel" "page" "[I", Cond.methodLink RX7 97 yX7_lacks, Cond.instanceMethod yX7_lacks, Cond.selects RX7 yX7_lacks yX7_lacks, Cond.initialized RX7, Cond.code yX7_lacks cX7_lacks 1 (some .boolean), Cond.methodLink RX7 104 yX7_tellSaying, Cond.instanceMethod yX7_tellSaying, Cond.selects RX7 yX7_tellSaying yX7_tellSaying, Cond.code yX7_tellSaying cX7_tellSaying 3 (some .int), Cond.fieldLink RX7 19 "DripSayingsModel" "beats" "[I", Cond.constantLong RX7 93 (10), Cond.constantLong RX7 95 (13), Cond.methodLink RX7 40 yX7_in, Cond.static yX7_in, Cond.code yX7_in cX7_in 6 (some .boolean), Cond.methodLink RX7 199 yX7_say, Cond.instanceMethod yX7_say, Cond.selects RX7 yX7_say yX7_say, Cond.code yX7_say cX7_say 3 none]
def wsX7_digest_r2 : List Cond := [Cond.constantLong RX7 193 (31), Cond.methodLink RX7 205 yX7_sayTap, Cond.instanceMethod yX7_sayTap, Cond.selects RX7 yX7_sayTap yX7_sayTap, Cond.code yX7_sayTap cX7_sayTap 3 none, Cond.methodLink RX7 139 yX7_tell, Cond.instanceMethod yX7_tell, Cond.selects RX7 yX7_tell yX7_tell, Cond.code yX7_tell cX7_tell 3 (some .int), Cond.fieldLink RX7 22 "DripSayingsModel" "rows" "[I", Cond.methodLink RX7 121 yX7_sureOf, Cond.instanceMethod yX7_sureOf, Cond.selects RX7 yX7_sureOf yX7_sureOf, Cond.code yX7_sureOf cX7_sureOf 6 (some .int), Cond.methodLink RX7 118 yX7_patternOf, Cond.instanceMethod yX7_patternOf, Cond.selects RX7 yX7_patternOf yX7_patternOf, Cond.code yX7_patternOf cX7_patternOf 6 (some .int), Cond.methodLink RX7 112 yX7_dripAs, Cond.instanceMethod yX7_dripAs, Cond.selects RX7 yX7_dripAs yX7_dripAs, Cond.code yX7_dripAs cX7_dripAs 4 (some .int), Cond.methodLink RX7 108 yX7_dripBy, Cond.instanceMethod yX7_dripBy]
def wsX7_digest_r3 : List Cond := [Cond.selects RX7 yX7_dripBy yX7_dripBy, Cond.code yX7_dripBy cX7_dripBy 9 (some .int), Cond.methodLink RX7 124 yX7_saysOf, Cond.instanceMethod yX7_saysOf, Cond.selects RX7 yX7_saysOf yX7_saysOf, Cond.code yX7_saysOf cX7_saysOf 4 (some .int), Cond.methodLink RX7 130 yX7_slipsBy, Cond.instanceMethod yX7_slipsBy, Cond.selects RX7 yX7_slipsBy yX7_slipsBy, Cond.code yX7_slipsBy cX7_slipsBy 6 (some .int), Cond.fieldLink RX7 85 "DripSayingsModel" "putMany" "I", Cond.fieldLink RX7 25 "DripSayingsModel" "puts" "[I", Cond.methodLink RX7 127 yX7_likelyOf, Cond.instanceMethod yX7_likelyOf, Cond.selects RX7 yX7_likelyOf yX7_likelyOf, Cond.code yX7_likelyOf cX7_likelyOf 4 (some .int), Cond.methodLink RX7 133 yX7_listenOf, Cond.instanceMethod yX7_listenOf, Cond.selects RX7 yX7_listenOf yX7_listenOf, Cond.code yX7_listenOf cX7_listenOf 10 (some .int), Cond.methodLink RX7 144 yX7_dripOf, Cond.instanceMethod yX7_dripOf, Cond.selects RX7 yX7_dripOf yX7_dripOf, Cond.code yX7_dripOf cX7_dripOf 3 (some .int)]
def wsX7_digest_r4 : List Cond := [Cond.methodLink RX7 153 yX7_nearOf, Cond.instanceMethod yX7_nearOf, Cond.selects RX7 yX7_nearOf yX7_nearOf, Cond.code yX7_nearOf cX7_nearOf 7 (some .int), Cond.methodLink RX7 150 yX7_unlikeBy, Cond.instanceMethod yX7_unlikeBy, Cond.selects RX7 yX7_unlikeBy yX7_unlikeBy, Cond.code yX7_unlikeBy cX7_unlikeBy 7 (some .int), Cond.methodLink RX7 190 yX7_countOf, Cond.instanceMethod yX7_countOf, Cond.selects RX7 yX7_countOf yX7_countOf, Cond.code yX7_countOf cX7_countOf 2 (some .int), Cond.fieldLink RX7 82 "DripSayingsModel" "changes" "I", Cond.fieldLink RX7 88 "DripSayingsModel" "housesRead" "I", Cond.methodLink RX7 184 yX7_beatsAll, Cond.instanceMethod yX7_beatsAll, Cond.selects RX7 yX7_beatsAll yX7_beatsAll, Cond.code yX7_beatsAll cX7_beatsAll 3 (some .int), Cond.methodLink RX7 187 yX7_sumAt, Cond.instanceMethod yX7_sumAt, Cond.selects RX7 yX7_sumAt yX7_sumAt, Cond.code yX7_sumAt cX7_sumAt 4 (some .int)]
def wsX7_digest : List Cond := .code yX7_digest cX7_digest 3 (some .long) :: ((wsX7_digest_r1 ++ (wsX7_digest_r2 ++ (wsX7_digest_r3 ++ wsX7_digest_r4))) ++ wsX70)
def wsJ9_max_7cf53 : List Cond := .code yJ9_max_7cf53 cJ9_max_7cf53 2 (some .int) :: ([])
def wsJ9_min_7cf53 : List Cond := .code yJ9_min_7cf53 cJ9_min_7cf53 2 (some .int) :: ([])
def wsL_law_r1 : List Cond := [Cond.classLink RL 7 RX6, Cond.instantiable RX6 7, Cond.initialized RX6, Cond.classLink RL 10 RX7, Cond.instantiable RX7 22, Cond.initialized RX7, Cond.methodLink RL 9 yX6_init, Cond.instanceMethod yX6_init, Cond.code yX6_init cX6_init 1 none, Cond.methodLink RX6 1 objectInit, Cond.instanceMethod objectInit, Cond.code objectInit ⟨#[0xb1]⟩ 1 none, Cond.classLink RX6 7 RX1, Cond.instantiable RX1 3, Cond.initialized RX1, Cond.fieldLink RX6 10 "DripSayings" "page" "LDripSayings$Page;", Cond.classLink RX6 16 RX4, Cond.instantiable RX4 2, Cond.initialized RX4, Cond.fieldLink RX6 19 "DripSayings" "sayings" "LDripSayings$Sayings;", Cond.classLink RX6 23 RX3, Cond.instantiable RX3 5, Cond.initialized RX3, Cond.fieldLink RX6 26 "DripSayings" "room" "LDripSayings$Room;"]
def wsL_law_r2 : List Cond := [Cond.fieldLink RX6 30 "DripSayings" "kept" "LDripSayings$Room;", Cond.methodLink RX6 9 yX1_init, Cond.instanceMethod yX1_init, Cond.code yX1_init cX1_init 1 none, Cond.methodLink RX1 3 objectInit, Cond.arrayClass .int, Cond.fieldLink RX1 9 "DripSayings$Page" "codes" "[I", Cond.classLink RX1 15 RX2, Cond.instantiable RX2 3, Cond.initialized RX2, Cond.fieldLink RX1 18 "DripSayings$Page" "reader" "LDripSayings$Reader;", Cond.instanceMethod yX2_init, Cond.code yX2_init cX2_init 1 none, Cond.methodLink RX2 3 objectInit, Cond.methodLink RX6 18 yX4_init, Cond.instanceMethod yX4_init, Cond.code yX4_init cX4_init 1 none, Cond.methodLink RX4 3 objectInit, Cond.fieldLink RX4 9 "DripSayings$Sayings" "beats" "[I", Cond.fieldLink RX4 15 "DripSayings$Sayings" "lengths" "[I", Cond.methodLink RX6 25 yX3_init, Cond.instanceMethod yX3_init, Cond.code yX3_init cX3_init 2 none, Cond.methodLink RX3 3 objectInit]
def wsL_law_r3 : List Cond := [Cond.classLink RX3 9 RX5, Cond.fieldLink RX3 11 "DripSayings$Room" "taps" "[LDripSayings$Tap;", Cond.instantiable RX5 5, Cond.initialized RX5, Cond.classLink RX3 20 RX0, Cond.fieldLink RX3 22 "DripSayings$Room" "notes" "[LDripSayings$Note;", Cond.instantiable RX0 4, Cond.initialized RX0, Cond.methodLink RX3 17 yX5_init, Cond.instanceMethod yX5_init, Cond.code yX5_init cX5_init 2 none, Cond.methodLink RX5 1 objectInit, Cond.fieldLink RX5 7 "DripSayings$Tap" "number" "I", Cond.instanceMethod yX0_init, Cond.code yX0_init cX0_init 1 none, Cond.methodLink RX0 1 objectInit, Cond.methodLink RL 12 yX7_init, Cond.instanceMethod yX7_init, Cond.code yX7_init cX7_init 1 none, Cond.methodLink RX7 1 objectInit, Cond.fieldLink RX7 7 "DripSayingsModel" "page" "[I", Cond.fieldLink RX7 13 "DripSayingsModel" "readBeats" "[I", Cond.fieldLink RX7 16 "DripSayingsModel" "readTaps" "[I", Cond.fieldLink RX7 19 "DripSayingsModel" "beats" "[I"]
def wsL_law_r4 : List Cond := [Cond.fieldLink RX7 22 "DripSayingsModel" "rows" "[I", Cond.fieldLink RX7 25 "DripSayingsModel" "puts" "[I", Cond.fieldLink RX7 28 "DripSayingsModel" "keptRows" "[I", Cond.fieldLink RX7 31 "DripSayingsModel" "keptPutRows" "[I", Cond.fieldLink RX7 34 "DripSayingsModel" "keptHouse" "I", Cond.methodLink RL 13 yX6_letter, Cond.instanceMethod yX6_letter, Cond.selects RX6 yX6_letter yX6_letter, Cond.code yX6_letter cX6_letter 2 (some .int), Cond.fieldLink RX6 33 "DripSayings$Page" "size" "I", Cond.methodLink RX6 37 yX1_add, Cond.instanceMethod yX1_add, Cond.selects RX1 yX1_add yX1_add, Cond.code yX1_add cX1_add 2 none, Cond.fieldLink RX1 22 "DripSayings$Page" "size" "I", Cond.methodLink RL 17 yX7_letter, Cond.instanceMethod yX7_letter, Cond.selects RX7 yX7_letter yX7_letter, Cond.code yX7_letter cX7_letter 2 (some .int), Cond.constantLong RX7 38 (126), Cond.fieldLink RX7 44 "DripSayingsModel" "pageMany" "I", Cond.methodLink RX7 40 yX7_in, Cond.static yX7_in, Cond.code yX7_in cX7_in 6 (some .boolean)]
def wsL_law_r5 : List Cond := [Cond.methodLink RL 18 yX6_blank, Cond.instanceMethod yX6_blank, Cond.selects RX6 yX6_blank yX6_blank, Cond.code yX6_blank cX6_blank 2 (some .int), Cond.methodLink RX6 41 yX1_clear, Cond.instanceMethod yX1_clear, Cond.selects RX1 yX1_clear yX1_clear, Cond.code yX1_clear cX1_clear 1 none, Cond.methodLink RL 22 yX7_blank, Cond.instanceMethod yX7_blank, Cond.selects RX7 yX7_blank yX7_blank, Cond.code yX7_blank cX7_blank 2 (some .int), Cond.methodLink RL 23 yX6_fault, Cond.instanceMethod yX6_fault, Cond.selects RX6 yX6_fault yX6_fault, Cond.code yX6_fault cX6_fault 1 (some .int), Cond.methodLink RX6 44 yX1_firstFault, Cond.instanceMethod yX1_firstFault, Cond.selects RX1 yX1_firstFault yX1_firstFault, Cond.code yX1_firstFault cX1_firstFault 2 (some .int), Cond.methodLink RX1 26 yX2_begin, Cond.instanceMethod yX2_begin, Cond.selects RX2 yX2_begin yX2_begin, Cond.code yX2_begin cX2_begin 1 none]
def wsL_law_r6 : List Cond := [Cond.fieldLink RX2 9 "DripSayings$Reader" "saying" "I", Cond.fieldLink RX2 15 "DripSayings$Reader" "taps" "I", Cond.fieldLink RX2 18 "DripSayings$Reader" "letters" "I", Cond.methodLink RX1 29 yX1_codeAt, Cond.instanceMethod yX1_codeAt, Cond.selects RX1 yX1_codeAt yX1_codeAt, Cond.code yX1_codeAt cX1_codeAt 2 (some .int), Cond.methodLink RX1 33 yX2_takes, Cond.instanceMethod yX2_takes, Cond.selects RX2 yX2_takes yX2_takes, Cond.code yX2_takes cX2_takes 2 (some .boolean), Cond.methodLink RX2 21 yX2_takesInSaying, Cond.instanceMethod yX2_takesInSaying, Cond.selects RX2 yX2_takesInSaying yX2_takesInSaying, Cond.code yX2_takesInSaying cX2_takesInSaying 3 (some .boolean), Cond.methodLink RX2 25 yX2_takesInTap, Cond.instanceMethod yX2_takesInTap, Cond.selects RX2 yX2_takesInTap yX2_takesInTap, Cond.code yX2_takesInTap cX2_takesInTap 2 (some .boolean), Cond.static yX6_kindOfLetter, Cond.code yX6_kindOfLetter cX6_kindOfLetter 1 (some .int), Cond.static yX6_isSaying, Cond.code yX6_isSaying cX6_isSaying 1 (some .boolean), Cond.methodLink RL 26 yX7_fault]
def wsL_law_r7 : List Cond := [Cond.instanceMethod yX7_fault, Cond.selects RX7 yX7_fault yX7_fault, Cond.code yX7_fault cX7_fault 1 (some .int), Cond.methodLink RX7 71 yX7_faultOf, Cond.instanceMethod yX7_faultOf, Cond.selects RX7 yX7_faultOf yX7_faultOf, Cond.code yX7_faultOf cX7_faultOf 2 (some .int), Cond.fieldLink RX7 47 "DripSayingsModel" "part" "I", Cond.fieldLink RX7 53 "DripSayingsModel" "readMany" "I", Cond.fieldLink RX7 50 "DripSayingsModel" "step" "I", Cond.methodLink RX7 64 yX7_goSaying, Cond.instanceMethod yX7_goSaying, Cond.selects RX7 yX7_goSaying yX7_goSaying, Cond.code yX7_goSaying cX7_goSaying 4 (some .boolean), Cond.methodLink RX7 68 yX7_goTap, Cond.instanceMethod yX7_goTap, Cond.selects RX7 yX7_goTap yX7_goTap, Cond.code yX7_goTap cX7_goTap 3 (some .boolean), Cond.constantLong RX7 60 (48), Cond.constantLong RX7 62 (51), Cond.methodLink RX7 56 yX7_kindBy, Cond.static yX7_kindBy, Cond.code yX7_kindBy cX7_kindBy 1 (some .int), Cond.methodLink RL 27 yX6_house]
def wsL_law_r8 : List Cond := [Cond.instanceMethod yX6_house, Cond.selects RX6 yX6_house yX6_house, Cond.code yX6_house cX6_house 1 (some .int), Cond.fieldLink RX6 57 "DripSayings" "hasHouse" "Z", Cond.fieldLink RX6 61 "DripSayings" "hasImage" "Z", Cond.fieldLink RX6 64 "DripSayings" "housesRead" "I", Cond.fieldLink RX6 67 "DripSayings$Room" "tapCount" "I", Cond.methodLink RX6 48 yX1_isHouse, Cond.instanceMethod yX1_isHouse, Cond.selects RX1 yX1_isHouse yX1_isHouse, Cond.code yX1_isHouse cX1_isHouse 1 (some .boolean), Cond.methodLink RX1 37 yX1_firstFault, Cond.methodLink RX1 41 yX2_isAtEnd, Cond.instanceMethod yX2_isAtEnd, Cond.selects RX2 yX2_isAtEnd yX2_isAtEnd, Cond.code yX2_isAtEnd cX2_isAtEnd 1 (some .boolean), Cond.methodLink RX6 52 yX4_clear, Cond.instanceMethod yX4_clear, Cond.selects RX4 yX4_clear yX4_clear, Cond.code yX4_clear cX4_clear 2 none, Cond.methodLink RX6 53 yX3_clear, Cond.instanceMethod yX3_clear, Cond.selects RX3 yX3_clear yX3_clear, Cond.code yX3_clear cX3_clear 1 none]
def wsL_law_r9 : List Cond := [Cond.fieldLink RX3 27 "DripSayings$Room" "tapCount" "I", Cond.fieldLink RX3 31 "DripSayings$Room" "noteCount" "I", Cond.fieldLink RX3 34 "DripSayings$Room" "changes" "I", Cond.methodLink RX6 54 yX6_readPage, Cond.instanceMethod yX6_readPage, Cond.selects RX6 yX6_readPage yX6_readPage, Cond.code yX6_readPage cX6_readPage 6 none, Cond.methodLink RX6 153 yX1_codeAt, Cond.methodLink RX6 156 yX4_addBeat, Cond.instanceMethod yX4_addBeat, Cond.selects RX4 yX4_addBeat yX4_addBeat, Cond.code yX4_addBeat cX4_addBeat 4 none, Cond.methodLink RX6 159 yX6_kindOfLetter, Cond.methodLink RX6 85 yX3_addTap, Cond.instanceMethod yX3_addTap, Cond.selects RX3 yX3_addTap yX3_addTap, Cond.code yX3_addTap cX3_addTap 4 none, Cond.methodLink RX3 37 yX3_tapAt, Cond.instanceMethod yX3_tapAt, Cond.selects RX3 yX3_tapAt yX3_tapAt, Cond.code yX3_tapAt cX3_tapAt 2 (some (.object "DripSayings$Tap")), Cond.methodLink RX3 41 yX5_become, Cond.instanceMethod yX5_become, Cond.selects RX5 yX5_become yX5_become]
def wsL_law_r10 : List Cond := [Cond.code yX5_become cX5_become 5 none, Cond.fieldLink RX5 13 "DripSayings$Tap" "kind" "I", Cond.fieldLink RX5 16 "DripSayings$Tap" "saying" "I", Cond.fieldLink RX5 19 "DripSayings$Tap" "washer" "I", Cond.fieldLink RX5 22 "DripSayings$Tap" "place" "I", Cond.methodLink RL 30 yX7_house, Cond.instanceMethod yX7_house, Cond.selects RX7 yX7_house yX7_house, Cond.code yX7_house cX7_house 2 (some .int), Cond.fieldLink RX7 75 "DripSayingsModel" "taps" "I", Cond.fieldLink RX7 82 "DripSayingsModel" "changes" "I", Cond.fieldLink RX7 85 "DripSayingsModel" "putMany" "I", Cond.fieldLink RX7 88 "DripSayingsModel" "housesRead" "I", Cond.methodLink RX7 78 yX7_copy, Cond.static yX7_copy, Cond.code yX7_copy cX7_copy 3 none, Cond.methodLink RL 31 yX6_saying, Cond.instanceMethod yX6_saying, Cond.selects RX6 yX6_saying yX6_saying, Cond.code yX6_saying cX6_saying 3 (some .int), Cond.methodLink RX6 70 yX6_isSaying, Cond.methodLink RX6 74 yX4_lengthOf, Cond.instanceMethod yX4_lengthOf, Cond.selects RX4 yX4_lengthOf yX4_lengthOf]
def wsL_law_r11 : List Cond := [Cond.code yX4_lengthOf cX4_lengthOf 2 (some .int), Cond.methodLink RX6 78 yX4_beatOf, Cond.instanceMethod yX4_beatOf, Cond.selects RX4 yX4_beatOf yX4_beatOf, Cond.code yX4_beatOf cX4_beatOf 4 (some .int), Cond.methodLink RL 35 yX7_saying, Cond.instanceMethod yX7_saying, Cond.selects RX7 yX7_saying yX7_saying, Cond.code yX7_saying cX7_saying 3 (some .int), Cond.methodLink RX7 97 yX7_lacks, Cond.instanceMethod yX7_lacks, Cond.selects RX7 yX7_lacks yX7_lacks, Cond.code yX7_lacks cX7_lacks 1 (some .boolean), Cond.methodLink RX7 101 yX7_isSaying, Cond.static yX7_isSaying, Cond.code yX7_isSaying cX7_isSaying 1 (some .boolean), Cond.constantLong RX7 91 (3), Cond.methodLink RX7 104 yX7_tellSaying, Cond.instanceMethod yX7_tellSaying, Cond.selects RX7 yX7_tellSaying yX7_tellSaying, Cond.code yX7_tellSaying cX7_tellSaying 3 (some .int), Cond.constantLong RX7 93 (10), Cond.constantLong RX7 95 (13), Cond.methodLink RL 36 yX6_tap]
def wsL_law_r12 : List Cond := [Cond.instanceMethod yX6_tap, Cond.selects RX6 yX6_tap yX6_tap, Cond.code yX6_tap cX6_tap 3 (some .int), Cond.methodLink RX6 82 yX6_isKind, Cond.static yX6_isKind, Cond.code yX6_isKind cX6_isKind 1 (some .boolean), Cond.methodLink RL 39 yX7_tap, Cond.instanceMethod yX7_tap, Cond.selects RX7 yX7_tap yX7_tap, Cond.code yX7_tap cX7_tap 3 (some .int), Cond.constantLong RX7 116 (4), Cond.methodLink RL 40 yX6_about, Cond.instanceMethod yX6_about, Cond.selects RX6 yX6_about yX6_about, Cond.code yX6_about cX6_about 4 (some .int), Cond.methodLink RX6 89 yX3_tapAt, Cond.methodLink RX6 93 yX6_aboutOf, Cond.instanceMethod yX6_aboutOf, Cond.selects RX6 yX6_aboutOf yX6_aboutOf, Cond.code yX6_aboutOf cX6_aboutOf 3 (some .int), Cond.fieldLink RX6 97 "DripSayings$Tap" "kind" "I", Cond.fieldLink RX6 114 "DripSayings$Tap" "saying" "I", Cond.fieldLink RX6 111 "DripSayings$Tap" "washer" "I", Cond.fieldLink RX6 105 "DripSayings$Tap" "place" "I"]
def wsL_law_r13 : List Cond := [Cond.methodLink RX6 166 yX6_sureOf, Cond.instanceMethod yX6_sureOf, Cond.selects RX6 yX6_sureOf yX6_sureOf, Cond.code yX6_sureOf cX6_sureOf 6 (some .int), Cond.methodLink RX6 185 Lib.Math.max.name, Cond.static Lib.Math.max.name, Cond.initialized "java/lang/Math", Cond.code Lib.Math.max.name Lib.Math.max.code 2 (some .int), Cond.methodLink RX6 182 yX6_enoughToTell, Cond.instanceMethod yX6_enoughToTell, Cond.selects RX6 yX6_enoughToTell yX6_enoughToTell, Cond.code yX6_enoughToTell cX6_enoughToTell 7 (some .int), Cond.methodLink RX6 162 yX4_dripBy, Cond.instanceMethod yX4_dripBy, Cond.selects RX4 yX4_dripBy yX4_dripBy, Cond.code yX4_dripBy cX4_dripBy 8 (some .int), Cond.methodLink RX4 18 yX4_lengthOf, Cond.methodLink RX4 22 yX4_beatOf, Cond.methodLink RX6 170 yX6_saysOf, Cond.instanceMethod yX6_saysOf, Cond.selects RX6 yX6_saysOf yX6_saysOf, Cond.code yX6_saysOf cX6_saysOf 4 (some .int), Cond.methodLink RX6 176 yX6_slipsOf, Cond.instanceMethod yX6_slipsOf]
def wsL_law_r14 : List Cond := [Cond.selects RX6 yX6_slipsOf yX6_slipsOf, Cond.code yX6_slipsOf cX6_slipsOf 6 (some .int), Cond.fieldLink RX6 121 "DripSayings$Room" "noteCount" "I", Cond.fieldLink RX6 194 "DripSayings$Note" "tap" "I", Cond.fieldLink RX6 199 "DripSayings$Tap" "number" "I", Cond.fieldLink RX6 202 "DripSayings$Note" "washer" "I", Cond.fieldLink RX6 203 "DripSayings$Note" "drip" "I", Cond.fieldLink RX6 206 "DripSayings$Note" "beat" "I", Cond.methodLink RX6 190 yX3_noteAt, Cond.instanceMethod yX3_noteAt, Cond.selects RX3 yX3_noteAt yX3_noteAt, Cond.code yX3_noteAt cX3_noteAt 2 (some (.object "DripSayings$Note")), Cond.methodLink RX6 173 yX6_likelyOf, Cond.instanceMethod yX6_likelyOf, Cond.selects RX6 yX6_likelyOf yX6_likelyOf, Cond.code yX6_likelyOf cX6_likelyOf 4 (some .int), Cond.methodLink RX6 179 yX6_bestToHear, Cond.instanceMethod yX6_bestToHear, Cond.selects RX6 yX6_bestToHear yX6_bestToHear, Cond.code yX6_bestToHear cX6_bestToHear 5 (some .int), Cond.methodLink RX6 209 yX6_leftAtWorst, Cond.instanceMethod yX6_leftAtWorst, Cond.selects RX6 yX6_leftAtWorst yX6_leftAtWorst, Cond.code yX6_leftAtWorst cX6_leftAtWorst 7 (some .int)]
def wsL_law_r15 : List Cond := [Cond.methodLink RL 43 yX7_about, Cond.instanceMethod yX7_about, Cond.selects RX7 yX7_about yX7_about, Cond.code yX7_about cX7_about 3 (some .int), Cond.methodLink RX7 136 yX7_isTap, Cond.instanceMethod yX7_isTap, Cond.selects RX7 yX7_isTap yX7_isTap, Cond.code yX7_isTap cX7_isTap 2 (some .boolean), Cond.methodLink RX7 139 yX7_tell, Cond.instanceMethod yX7_tell, Cond.selects RX7 yX7_tell yX7_tell, Cond.code yX7_tell cX7_tell 3 (some .int), Cond.methodLink RX7 121 yX7_sureOf, Cond.instanceMethod yX7_sureOf, Cond.selects RX7 yX7_sureOf yX7_sureOf, Cond.code yX7_sureOf cX7_sureOf 6 (some .int), Cond.methodLink RX7 118 yX7_patternOf, Cond.instanceMethod yX7_patternOf, Cond.selects RX7 yX7_patternOf yX7_patternOf, Cond.code yX7_patternOf cX7_patternOf 6 (some .int), Cond.methodLink RX7 112 yX7_dripAs, Cond.instanceMethod yX7_dripAs, Cond.selects RX7 yX7_dripAs yX7_dripAs, Cond.code yX7_dripAs cX7_dripAs 4 (some .int)]
def wsL_law_r16 : List Cond := [Cond.methodLink RX7 108 yX7_dripBy, Cond.instanceMethod yX7_dripBy, Cond.selects RX7 yX7_dripBy yX7_dripBy, Cond.code yX7_dripBy cX7_dripBy 9 (some .int), Cond.methodLink RX7 124 yX7_saysOf, Cond.instanceMethod yX7_saysOf, Cond.selects RX7 yX7_saysOf yX7_saysOf, Cond.code yX7_saysOf cX7_saysOf 4 (some .int), Cond.methodLink RX7 130 yX7_slipsBy, Cond.instanceMethod yX7_slipsBy, Cond.selects RX7 yX7_slipsBy yX7_slipsBy, Cond.code yX7_slipsBy cX7_slipsBy 6 (some .int), Cond.methodLink RX7 127 yX7_likelyOf, Cond.instanceMethod yX7_likelyOf, Cond.selects RX7 yX7_likelyOf yX7_likelyOf, Cond.code yX7_likelyOf cX7_likelyOf 4 (some .int), Cond.methodLink RX7 133 yX7_listenOf, Cond.instanceMethod yX7_listenOf, Cond.selects RX7 yX7_listenOf yX7_listenOf, Cond.code yX7_listenOf cX7_listenOf 10 (some .int), Cond.methodLink RL 44 yX6_as, Cond.instanceMethod yX6_as, Cond.selects RX6 yX6_as yX6_as, Cond.code yX6_as cX6_as 5 (some .int)]
def wsL_law_r17 : List Cond := [Cond.methodLink RL 47 yX7_as, Cond.instanceMethod yX7_as, Cond.selects RX7 yX7_as yX7_as, Cond.code yX7_as cX7_as 5 (some .int), Cond.methodLink RL 48 yX6_drip, Cond.instanceMethod yX6_drip, Cond.selects RX6 yX6_drip yX6_drip, Cond.code yX6_drip cX6_drip 4 (some .int), Cond.methodLink RX6 102 yX6_dripOf, Cond.instanceMethod yX6_dripOf, Cond.selects RX6 yX6_dripOf yX6_dripOf, Cond.code yX6_dripOf cX6_dripOf 3 (some .int), Cond.methodLink RL 51 yX7_drip, Cond.instanceMethod yX7_drip, Cond.selects RX7 yX7_drip yX7_drip, Cond.code yX7_drip cX7_drip 3 (some .int), Cond.constantLong RX7 142 (99), Cond.methodLink RX7 144 yX7_dripOf, Cond.instanceMethod yX7_dripOf, Cond.selects RX7 yX7_dripOf yX7_dripOf, Cond.code yX7_dripOf cX7_dripOf 3 (some .int), Cond.methodLink RL 52 yX6_listen, Cond.instanceMethod yX6_listen, Cond.selects RX6 yX6_listen yX6_listen]
def wsL_law_r18 : List Cond := [Cond.code yX6_listen cX6_listen 4 (some .int), Cond.fieldLink RX6 108 "DripSayings$Room" "changes" "I", Cond.methodLink RL 55 yX7_listen, Cond.instanceMethod yX7_listen, Cond.selects RX7 yX7_listen yX7_listen, Cond.code yX7_listen cX7_listen 3 (some .int), Cond.methodLink RL 56 yX6_washer, Cond.instanceMethod yX6_washer, Cond.selects RX6 yX6_washer yX6_washer, Cond.code yX6_washer cX6_washer 5 (some .int), Cond.methodLink RL 60 yX7_washer, Cond.instanceMethod yX7_washer, Cond.selects RX7 yX7_washer yX7_washer, Cond.code yX7_washer cX7_washer 4 (some .int), Cond.methodLink RL 61 yX6_teach, Cond.instanceMethod yX6_teach, Cond.selects RX6 yX6_teach yX6_teach, Cond.code yX6_teach cX6_teach 5 (some .int), Cond.methodLink RL 64 yX7_teach, Cond.instanceMethod yX7_teach, Cond.selects RX7 yX7_teach yX7_teach, Cond.code yX7_teach cX7_teach 4 (some .int), Cond.methodLink RL 65 yX6_agree, Cond.instanceMethod yX6_agree]
def wsL_law_r19 : List Cond := [Cond.selects RX6 yX6_agree yX6_agree, Cond.code yX6_agree cX6_agree 7 (some .int), Cond.methodLink RL 68 yX7_agree, Cond.instanceMethod yX7_agree, Cond.selects RX7 yX7_agree yX7_agree, Cond.code yX7_agree cX7_agree 3 (some .int), Cond.methodLink RX7 147 yX7_agreeOf, Cond.instanceMethod yX7_agreeOf, Cond.selects RX7 yX7_agreeOf yX7_agreeOf, Cond.code yX7_agreeOf cX7_agreeOf 5 (some .int), Cond.methodLink RL 69 yX6_near, Cond.instanceMethod yX6_near, Cond.selects RX6 yX6_near yX6_near, Cond.code yX6_near cX6_near 5 (some .int), Cond.methodLink RX6 117 yX6_nearOf, Cond.instanceMethod yX6_nearOf, Cond.selects RX6 yX6_nearOf yX6_nearOf, Cond.code yX6_nearOf cX6_nearOf 6 (some .int), Cond.methodLink RX6 215 Lib.Math.min.name, Cond.static Lib.Math.min.name, Cond.code Lib.Math.min.name Lib.Math.min.code 2 (some .int), Cond.methodLink RX6 212 yX6_unlikeOf, Cond.instanceMethod yX6_unlikeOf, Cond.selects RX6 yX6_unlikeOf yX6_unlikeOf]
def wsL_law_r20 : List Cond := [Cond.code yX6_unlikeOf cX6_unlikeOf 7 (some .int), Cond.methodLink RL 73 yX7_near, Cond.instanceMethod yX7_near, Cond.selects RX7 yX7_near yX7_near, Cond.code yX7_near cX7_near 4 (some .int), Cond.methodLink RX7 153 yX7_nearOf, Cond.instanceMethod yX7_nearOf, Cond.selects RX7 yX7_nearOf yX7_nearOf, Cond.code yX7_nearOf cX7_nearOf 7 (some .int), Cond.methodLink RX7 150 yX7_unlikeBy, Cond.instanceMethod yX7_unlikeBy, Cond.selects RX7 yX7_unlikeBy yX7_unlikeBy, Cond.code yX7_unlikeBy cX7_unlikeBy 7 (some .int), Cond.methodLink RL 74 yX6_put, Cond.instanceMethod yX6_put, Cond.selects RX6 yX6_put yX6_put, Cond.code yX6_put cX6_put 5 (some .int), Cond.methodLink RX6 124 yX3_addNote, Cond.instanceMethod yX3_addNote, Cond.selects RX3 yX3_addNote yX3_addNote, Cond.code yX3_addNote cX3_addNote 5 none, Cond.fieldLink RX3 49 "DripSayings$Tap" "number" "I", Cond.fieldLink RX3 52 "DripSayings$Tap" "washer" "I", Cond.methodLink RX3 45 yX3_noteAt]
def wsL_law_r21 : List Cond := [Cond.methodLink RX3 55 yX0_become, Cond.instanceMethod yX0_become, Cond.selects RX0 yX0_become yX0_become, Cond.code yX0_become cX0_become 5 none, Cond.fieldLink RX0 7 "DripSayings$Note" "tap" "I", Cond.fieldLink RX0 13 "DripSayings$Note" "drip" "I", Cond.fieldLink RX0 16 "DripSayings$Note" "beat" "I", Cond.fieldLink RX0 19 "DripSayings$Note" "washer" "I", Cond.methodLink RL 78 yX7_put, Cond.instanceMethod yX7_put, Cond.selects RX7 yX7_put yX7_put, Cond.code yX7_put cX7_put 4 (some .int), Cond.constantLong RX7 156 (59), Cond.methodLink RL 79 yX6_forget, Cond.instanceMethod yX6_forget, Cond.selects RX6 yX6_forget yX6_forget, Cond.code yX6_forget cX6_forget 2 (some .int), Cond.methodLink RL 82 yX7_forget, Cond.instanceMethod yX7_forget, Cond.selects RX7 yX7_forget yX7_forget, Cond.code yX7_forget cX7_forget 2 (some .int), Cond.methodLink RL 83 yX6_nights, Cond.instanceMethod yX6_nights, Cond.selects RX6 yX6_nights yX6_nights]
def wsL_law_r22 : List Cond := [Cond.code yX6_nights cX6_nights 11 (some .int), Cond.methodLink RX6 128 yX6_nextSeed, Cond.static yX6_nextSeed, Cond.code yX6_nextSeed cX6_nextSeed 1 (some .int), Cond.constantLong RX6 218 (1103515245), Cond.constantLong RX6 220 (12345), Cond.constantLong RX6 222 (2147483648), Cond.methodLink RX6 131 yX6_drawOf, Cond.static yX6_drawOf, Cond.code yX6_drawOf cX6_drawOf 1 (some .int), Cond.constant RX6 224 (65536), Cond.methodLink RL 86 yX7_nights, Cond.instanceMethod yX7_nights, Cond.selects RX7 yX7_nights yX7_nights, Cond.code yX7_nights cX7_nights 10 (some .int), Cond.constantLong RX7 168 (40), Cond.constantLong RX7 170 (2), Cond.fieldLink RX7 160 "DripSayingsModel" "seedNow" "I", Cond.methodLink RX7 172 yX7_draw, Cond.instanceMethod yX7_draw, Cond.selects RX7 yX7_draw yX7_draw, Cond.code yX7_draw cX7_draw 2 (some .int), Cond.constantLong RX7 158 (1103515245), Cond.constantLong RX7 163 (12345)]
def wsL_law_r23 : List Cond := [Cond.constantLong RX7 165 (2147483647), Cond.constant RX7 167 (65536), Cond.methodLink RL 87 yX6_image, Cond.instanceMethod yX6_image, Cond.selects RX6 yX6_image yX6_image, Cond.code yX6_image cX6_image 1 (some .int), Cond.methodLink RX6 134 yX3_copyFrom, Cond.instanceMethod yX3_copyFrom, Cond.selects RX3 yX3_copyFrom yX3_copyFrom, Cond.code yX3_copyFrom cX3_copyFrom 5 none, Cond.fieldLink RX3 56 "DripSayings$Tap" "kind" "I", Cond.fieldLink RX3 59 "DripSayings$Tap" "saying" "I", Cond.fieldLink RX3 62 "DripSayings$Tap" "place" "I", Cond.fieldLink RX3 65 "DripSayings$Note" "tap" "I", Cond.fieldLink RX3 68 "DripSayings$Note" "drip" "I", Cond.fieldLink RX3 71 "DripSayings$Note" "beat" "I", Cond.fieldLink RX3 74 "DripSayings$Note" "washer" "I", Cond.methodLink RL 90 yX7_image, Cond.instanceMethod yX7_image, Cond.selects RX7 yX7_image yX7_image, Cond.code yX7_image cX7_image 1 (some .int), Cond.fieldLink RX7 175 "DripSayingsModel" "keptTaps" "I", Cond.fieldLink RX7 178 "DripSayingsModel" "keptChanges" "I", Cond.fieldLink RX7 181 "DripSayingsModel" "keptPuts" "I"]
def wsL_law_r24 : List Cond := [Cond.methodLink RL 91 yX6_restore, Cond.instanceMethod yX6_restore, Cond.selects RX6 yX6_restore yX6_restore, Cond.code yX6_restore cX6_restore 1 (some .int), Cond.methodLink RL 94 yX7_restore, Cond.instanceMethod yX7_restore, Cond.selects RX7 yX7_restore yX7_restore, Cond.code yX7_restore cX7_restore 1 (some .int), Cond.methodLink RL 95 yX6_count, Cond.instanceMethod yX6_count, Cond.selects RX6 yX6_count yX6_count, Cond.code yX6_count cX6_count 2 (some .int), Cond.methodLink RX6 138 yX6_countOf, Cond.instanceMethod yX6_countOf, Cond.selects RX6 yX6_countOf yX6_countOf, Cond.code yX6_countOf cX6_countOf 2 (some .int), Cond.methodLink RX6 225 yX4_beatCount, Cond.instanceMethod yX4_beatCount, Cond.selects RX4 yX4_beatCount yX4_beatCount, Cond.code yX4_beatCount cX4_beatCount 3 (some .int), Cond.methodLink RX6 228 yX3_washerCount, Cond.instanceMethod yX3_washerCount, Cond.selects RX3 yX3_washerCount yX3_washerCount, Cond.code yX3_washerCount cX3_washerCount 4 (some .int)]
def wsL_law_r25 : List Cond := [Cond.methodLink RX6 231 yX3_heardCount, Cond.instanceMethod yX3_heardCount, Cond.selects RX3 yX3_heardCount yX3_heardCount, Cond.code yX3_heardCount cX3_heardCount 4 (some .int), Cond.methodLink RL 98 yX7_count, Cond.instanceMethod yX7_count, Cond.selects RX7 yX7_count yX7_count, Cond.code yX7_count cX7_count 2 (some .int), Cond.methodLink RX7 190 yX7_countOf, Cond.instanceMethod yX7_countOf, Cond.selects RX7 yX7_countOf yX7_countOf, Cond.code yX7_countOf cX7_countOf 2 (some .int), Cond.methodLink RX7 184 yX7_beatsAll, Cond.instanceMethod yX7_beatsAll, Cond.selects RX7 yX7_beatsAll yX7_beatsAll, Cond.code yX7_beatsAll cX7_beatsAll 3 (some .int), Cond.methodLink RX7 187 yX7_sumAt, Cond.instanceMethod yX7_sumAt, Cond.selects RX7 yX7_sumAt yX7_sumAt, Cond.code yX7_sumAt cX7_sumAt 4 (some .int), Cond.methodLink RL 99 yX6_digest, Cond.instanceMethod yX6_digest, Cond.selects RX6 yX6_digest yX6_digest, Cond.code yX6_digest cX6_digest 5 (some .long)]
def wsL_law_r26 : List Cond := [Cond.constantLong RX6 141 (1061), Cond.constantLong RX6 151 (31), Cond.methodLink RX6 143 yX6_digestSayings, Cond.instanceMethod yX6_digestSayings, Cond.selects RX6 yX6_digestSayings yX6_digestSayings, Cond.code yX6_digestSayings cX6_digestSayings 7 (some .long), Cond.methodLink RX6 147 yX6_digestTap, Cond.instanceMethod yX6_digestTap, Cond.selects RX6 yX6_digestTap yX6_digestTap, Cond.code yX6_digestTap cX6_digestTap 8 (some .long), Cond.methodLink RL 103 yX7_digest, Cond.instanceMethod yX7_digest, Cond.selects RX7 yX7_digest yX7_digest, Cond.code yX7_digest cX7_digest 3 (some .long), Cond.constantLong RX7 203 (1061), Cond.fieldLink RX7 195 "DripSayingsModel" "hash" "J", Cond.methodLink RX7 199 yX7_say, Cond.instanceMethod yX7_say, Cond.selects RX7 yX7_say yX7_say, Cond.code yX7_say cX7_say 3 none, Cond.constantLong RX7 193 (31), Cond.methodLink RX7 205 yX7_sayTap, Cond.instanceMethod yX7_sayTap, Cond.selects RX7 yX7_sayTap yX7_sayTap]
def wsL_law_r27 : List Cond := [Cond.code yX7_sayTap cX7_sayTap 3 none]
def wsL_law : List Cond := (wsL_law_r1 ++ (wsL_law_r2 ++ (wsL_law_r3 ++ (wsL_law_r4 ++ (wsL_law_r5 ++ (wsL_law_r6 ++ (wsL_law_r7 ++ (wsL_law_r8 ++ (wsL_law_r9 ++ (wsL_law_r10 ++ (wsL_law_r11 ++ (wsL_law_r12 ++ (wsL_law_r13 ++ (wsL_law_r14 ++ (wsL_law_r15 ++ (wsL_law_r16 ++ (wsL_law_r17 ++ (wsL_law_r18 ++ (wsL_law_r19 ++ (wsL_law_r20 ++ (wsL_law_r21 ++ (wsL_law_r22 ++ (wsL_law_r23 ++ (wsL_law_r24 ++ (wsL_law_r25 ++ (wsL_law_r26 ++ wsL_law_r27)))))))))))))))))))))))))) ++ wsX60 ++ wsX70 ++ wsX10 ++ wsX40 ++ wsX30 ++ wsX20 ++ wsX50 ++ wsX00 ++ ([] : List Cond)
set_option maxRecDepth 20000 in
theorem wsL_law_in : ∀ w ∈ wsL_law, w ∈ lw_tbl := fun w h => (goodIn_p wsL_law [56, 59, 64, 70, 98, 111, 118, 151, 502, 218, 222, 574, 578, 226, 230, 582, 234, 238, 242, 246, 250, 254, 258, 261, 264, 586, 590, 594, 598, 601, 268, 272, 277, 281, 285, 289, 294, 299, 303, 307, 607, 610, 311, 316, 320, 614, 618, 621, 626, 324, 327, 632, 331, 336, 340, 353, 344, 348, 357, 361, 365, 369, 373, 377, 637, 641, 645, 649, 653, 657, 661, 665, 669, 673, 677, 381, 681, 385, 389, 685, 690, 393, 694, 397, 698, 401, 702, 405, 706, 710, 409, 413, 420, 417, 714, 718, 722, 424, 428, 433, 726, 437, 731, 441, 444, 450, 735, 741, 455, 459, 749, 463, 753, 467, 471, 475, 479, 483, 757, 761, 765, 769, 487, 492, 497, 773, 778, 783] (by decide +kernel) (by decide +kernel) w h).1
theorem inlX0 : ∀ w ∈ wsX00, w ∈ wsL_law := fun _ h => List.mem_append_left _ (List.mem_append_right _ h)
theorem inX0 : ∀ w ∈ wsX00, w ∈ lw_tbl := fun w h => wsL_law_in w (inlX0 w h)
theorem inlX1 : ∀ w ∈ wsX10, w ∈ wsL_law := fun _ h => List.mem_append_left _ (List.mem_append_left _ (List.mem_append_left _ (List.mem_append_left _ (List.mem_append_left _ (List.mem_append_left _ (List.mem_append_right _ h))))))
theorem inX1 : ∀ w ∈ wsX10, w ∈ lw_tbl := fun w h => wsL_law_in w (inlX1 w h)
theorem inlX2 : ∀ w ∈ wsX20, w ∈ wsL_law := fun _ h => List.mem_append_left _ (List.mem_append_left _ (List.mem_append_left _ (List.mem_append_right _ h)))
theorem inX2 : ∀ w ∈ wsX20, w ∈ lw_tbl := fun w h => wsL_law_in w (inlX2 w h)
theorem inlX3 : ∀ w ∈ wsX30, w ∈ wsL_law := fun _ h => List.mem_append_left _ (List.mem_append_left _ (List.mem_append_left _ (List.mem_append_left _ (List.mem_append_right _ h))))
theorem inX3 : ∀ w ∈ wsX30, w ∈ lw_tbl := fun w h => wsL_law_in w (inlX3 w h)
theorem inlX4 : ∀ w ∈ wsX40, w ∈ wsL_law := fun _ h => List.mem_append_left _ (List.mem_append_left _ (List.mem_append_left _ (List.mem_append_left _ (List.mem_append_left _ (List.mem_append_right _ h)))))
theorem inX4 : ∀ w ∈ wsX40, w ∈ lw_tbl := fun w h => wsL_law_in w (inlX4 w h)
theorem inlX5 : ∀ w ∈ wsX50, w ∈ wsL_law := fun _ h => List.mem_append_left _ (List.mem_append_left _ (List.mem_append_right _ h))
theorem inX5 : ∀ w ∈ wsX50, w ∈ lw_tbl := fun w h => wsL_law_in w (inlX5 w h)
theorem inlX6 : ∀ w ∈ wsX60, w ∈ wsL_law := fun _ h => List.mem_append_left _ (List.mem_append_left _ (List.mem_append_left _ (List.mem_append_left _ (List.mem_append_left _ (List.mem_append_left _ (List.mem_append_left _ (List.mem_append_left _ (List.mem_append_right _ h))))))))
theorem inX6 : ∀ w ∈ wsX60, w ∈ lw_tbl := fun w h => wsL_law_in w (inlX6 w h)
theorem inlX7 : ∀ w ∈ wsX70, w ∈ wsL_law := fun _ h => List.mem_append_left _ (List.mem_append_left _ (List.mem_append_left _ (List.mem_append_left _ (List.mem_append_left _ (List.mem_append_left _ (List.mem_append_left _ (List.mem_append_right _ h)))))))
theorem inX7 : ∀ w ∈ wsX70, w ∈ lw_tbl := fun w h => wsL_law_in w (inlX7 w h)
theorem inJ9 : ∀ w ∈ wsJ90, w ∈ lw_tbl := by decide +kernel
set_option maxRecDepth 20000 in
theorem ggX1_init_X2_init : GoodIn wsX1_init wsX2_init := goodIn_r _ [11, 12, 2, 3] (by decide +kernel) (by decide +kernel)
set_option maxRecDepth 20000 in
theorem gX1_init_X2_init_n17 : GoodIn wsX1_init (wsX2_init) := ggX1_init_X2_init
set_option maxRecDepth 20000 in
theorem ggX1_firstFault_X2_begin : GoodIn wsX1_firstFault wsX2_begin := goodIn_r _ [7, 8, 9, 10, 37, 38, 39] (by decide +kernel) (by decide +kernel)
set_option maxRecDepth 20000 in
theorem gX1_firstFault_X2_begin : GoodIn wsX1_firstFault (wsV RX1 26 RX2 yX2_begin wsX2_begin) := goodIn_app (goodIn_of _ (by decide +kernel)) ggX1_firstFault_X2_begin
set_option maxRecDepth 20000 in
theorem ggX1_firstFault_X1_codeAt : GoodIn wsX1_firstFault wsX1_codeAt := goodIn_r _ [15, 2, 16, 34, 35, 36] (by decide +kernel) (by decide +kernel)
set_option maxRecDepth 20000 in
theorem gX1_firstFault_X1_codeAt : GoodIn wsX1_firstFault (wsV RX1 29 RX1 yX1_codeAt wsX1_codeAt) := goodIn_app (goodIn_of _ (by decide +kernel)) ggX1_firstFault_X1_codeAt
set_option maxRecDepth 20000 in
theorem ggX1_firstFault_X2_takes : GoodIn wsX1_firstFault wsX2_takes := goodIn_r _ [20, 8, 21, 22, 23, 6, 24, 10, 25, 26, 27, 28, 9, 29, 30, 31, 32, 33, 37, 38, 39] (by decide +kernel) (by decide +kernel)
set_option maxRecDepth 20000 in
theorem gX1_firstFault_X2_takes : GoodIn wsX1_firstFault (wsV RX1 33 RX2 yX2_takes wsX2_takes) := goodIn_app (goodIn_of _ (by decide +kernel)) ggX1_firstFault_X2_takes
set_option maxRecDepth 20000 in
theorem ggX1_isHouse_X1_firstFault : GoodIn wsX1_isHouse wsX1_firstFault := goodIn_r _ [7, 2, 1, 8, 9, 10, 11, 12, 13, 14, 15, 16, 17, 18, 6, 19, 20, 21, 22, 23, 24, 25, 26, 27, 28, 29, 30, 31, 32, 33, 34, 35, 36, 37, 42, 43, 44, 45, 46, 47] (by decide +kernel) (by decide +kernel)
set_option maxRecDepth 20000 in
theorem gX1_isHouse_X1_firstFault : GoodIn wsX1_isHouse (wsV RX1 37 RX1 yX1_firstFault wsX1_firstFault) := goodIn_app (goodIn_of _ (by decide +kernel)) ggX1_isHouse_X1_firstFault
set_option maxRecDepth 20000 in
theorem ggX1_isHouse_X2_isAtEnd : GoodIn wsX1_isHouse wsX2_isAtEnd := goodIn_r _ [41, 13, 15, 45, 46, 47] (by decide +kernel) (by decide +kernel)
set_option maxRecDepth 20000 in
theorem gX1_isHouse_X2_isAtEnd : GoodIn wsX1_isHouse (wsV RX1 41 RX2 yX2_isAtEnd wsX2_isAtEnd) := goodIn_app (goodIn_of _ (by decide +kernel)) ggX1_isHouse_X2_isAtEnd
set_option maxRecDepth 20000 in
theorem ggX2_takes_X2_takesInSaying : GoodIn wsX2_takes wsX2_takesInSaying := goodIn_r _ [6, 7, 1, 18, 19, 20] (by decide +kernel) (by decide +kernel)
set_option maxRecDepth 20000 in
theorem gX2_takes_X2_takesInSaying : GoodIn wsX2_takes (wsV RX2 21 RX2 yX2_takesInSaying wsX2_takesInSaying) := goodIn_app (goodIn_of _ (by decide +kernel)) ggX2_takes_X2_takesInSaying
set_option maxRecDepth 20000 in
theorem ggX2_takes_X2_takesInTap : GoodIn wsX2_takes wsX2_takesInTap := goodIn_r _ [11, 7, 12, 13, 14, 15, 16, 17, 18, 19, 20] (by decide +kernel) (by decide +kernel)
set_option maxRecDepth 20000 in
theorem gX2_takes_X2_takesInTap : GoodIn wsX2_takes (wsV RX2 25 RX2 yX2_takesInTap wsX2_takesInTap) := goodIn_app (goodIn_of _ (by decide +kernel)) ggX2_takes_X2_takesInTap
set_option maxRecDepth 20000 in
theorem ggX2_takesInTap_X6_kindOfLetter : GoodIn wsX2_takesInTap wsX6_kindOfLetter := goodIn_r _ [5] (by decide +kernel) (by decide +kernel)
set_option maxRecDepth 20000 in
theorem gX2_takesInTap_X6_kindOfLetter_n28 : GoodIn wsX2_takesInTap (wsX6_kindOfLetter) := ggX2_takesInTap_X6_kindOfLetter
set_option maxRecDepth 20000 in
theorem ggX2_takesInTap_X6_isSaying : GoodIn wsX2_takesInTap wsX6_isSaying := goodIn_r _ [7] (by decide +kernel) (by decide +kernel)
set_option maxRecDepth 20000 in
theorem gX2_takesInTap_X6_isSaying_n32 : GoodIn wsX2_takesInTap (wsX6_isSaying) := ggX2_takesInTap_X6_isSaying
set_option maxRecDepth 20000 in
theorem ggX3_init_X5_init : GoodIn wsX3_init wsX5_init := goodIn_r _ [14, 15, 2, 3, 16, 25, 26, 27, 28, 29] (by decide +kernel) (by decide +kernel)
set_option maxRecDepth 20000 in
theorem gX3_init_X5_init : GoodIn wsX3_init (wsX5_init) := ggX3_init_X5_init
set_option maxRecDepth 20000 in
theorem ggX3_init_X0_init : GoodIn wsX3_init wsX0_init := goodIn_r _ [18, 19, 2, 3] (by decide +kernel) (by decide +kernel)
set_option maxRecDepth 20000 in
theorem gX3_init_X0_init_n26 : GoodIn wsX3_init (wsX0_init) := ggX3_init_X0_init
set_option maxRecDepth 20000 in
theorem ggX3_addTap_X3_tapAt : GoodIn wsX3_addTap wsX3_tapAt := goodIn_r _ [6, 1, 7, 17, 18, 19, 20, 21] (by decide +kernel) (by decide +kernel)
set_option maxRecDepth 20000 in
theorem gX3_addTap_X3_tapAt : GoodIn wsX3_addTap (wsV RX3 37 RX3 yX3_tapAt wsX3_tapAt) := goodIn_app (goodIn_of _ (by decide +kernel)) ggX3_addTap_X3_tapAt
set_option maxRecDepth 20000 in
theorem ggX3_addTap_X5_become : GoodIn wsX3_addTap wsX5_become := goodIn_r _ [12, 13, 14, 15, 16, 22, 23, 24, 25, 26] (by decide +kernel) (by decide +kernel)
set_option maxRecDepth 20000 in
theorem gX3_addTap_X5_become : GoodIn wsX3_addTap (wsV RX3 41 RX5 yX5_become wsX5_become) := goodIn_app (goodIn_of _ (by decide +kernel)) ggX3_addTap_X5_become
set_option maxRecDepth 20000 in
theorem ggX3_addNote_X3_noteAt : GoodIn wsX3_addNote wsX3_noteAt := goodIn_r _ [8, 1, 9, 19, 20, 21, 22, 23] (by decide +kernel) (by decide +kernel)
set_option maxRecDepth 20000 in
theorem gX3_addNote_X3_noteAt : GoodIn wsX3_addNote (wsV RX3 45 RX3 yX3_noteAt wsX3_noteAt) := goodIn_app (goodIn_of _ (by decide +kernel)) ggX3_addNote_X3_noteAt
set_option maxRecDepth 20000 in
theorem ggX3_addNote_X0_become : GoodIn wsX3_addNote wsX0_become := goodIn_r _ [14, 15, 16, 17, 18, 29, 30, 31, 32] (by decide +kernel) (by decide +kernel)
set_option maxRecDepth 20000 in
theorem gX3_addNote_X0_become : GoodIn wsX3_addNote (wsV RX3 55 RX0 yX0_become wsX0_become) := goodIn_app (goodIn_of _ (by decide +kernel)) ggX3_addNote_X0_become
set_option maxRecDepth 20000 in
theorem ggX3_copyFrom_X3_tapAt : GoodIn wsX3_copyFrom wsX3_tapAt := goodIn_r _ [16, 1, 17, 41, 42, 43, 44, 45] (by decide +kernel) (by decide +kernel)
set_option maxRecDepth 20000 in
theorem gX3_copyFrom_X3_tapAt : GoodIn wsX3_copyFrom (wsV RX3 37 RX3 yX3_tapAt wsX3_tapAt) := goodIn_app (goodIn_of _ (by decide +kernel)) ggX3_copyFrom_X3_tapAt
set_option maxRecDepth 20000 in
theorem ggX3_copyFrom_X5_become : GoodIn wsX3_copyFrom wsX5_become := goodIn_r _ [22, 23, 24, 25, 26, 46, 47, 48, 49, 50] (by decide +kernel) (by decide +kernel)
set_option maxRecDepth 20000 in
theorem gX3_copyFrom_X5_become : GoodIn wsX3_copyFrom (wsV RX3 41 RX5 yX5_become wsX5_become) := goodIn_app (goodIn_of _ (by decide +kernel)) ggX3_copyFrom_X5_become
set_option maxRecDepth 20000 in
theorem ggX3_copyFrom_X3_noteAt : GoodIn wsX3_copyFrom wsX3_noteAt := goodIn_r _ [30, 2, 31, 41, 42, 43, 44, 45] (by decide +kernel) (by decide +kernel)
set_option maxRecDepth 20000 in
theorem gX3_copyFrom_X3_noteAt : GoodIn wsX3_copyFrom (wsV RX3 45 RX3 yX3_noteAt wsX3_noteAt) := goodIn_app (goodIn_of _ (by decide +kernel)) ggX3_copyFrom_X3_noteAt
set_option maxRecDepth 20000 in
theorem ggX3_copyFrom_X0_become : GoodIn wsX3_copyFrom wsX0_become := goodIn_r _ [36, 37, 38, 39, 40, 51, 52, 53, 54] (by decide +kernel) (by decide +kernel)
set_option maxRecDepth 20000 in
theorem gX3_copyFrom_X0_become : GoodIn wsX3_copyFrom (wsV RX3 55 RX0 yX0_become wsX0_become) := goodIn_app (goodIn_of _ (by decide +kernel)) ggX3_copyFrom_X0_become
set_option maxRecDepth 20000 in
theorem ggX3_washerCount_X3_tapAt : GoodIn wsX3_washerCount wsX3_tapAt := goodIn_r _ [7, 1, 8, 9, 10, 11, 12, 13] (by decide +kernel) (by decide +kernel)
set_option maxRecDepth 20000 in
theorem gX3_washerCount_X3_tapAt : GoodIn wsX3_washerCount (wsV RX3 37 RX3 yX3_tapAt wsX3_tapAt) := goodIn_app (goodIn_of _ (by decide +kernel)) ggX3_washerCount_X3_tapAt
set_option maxRecDepth 20000 in
theorem ggX3_heardCount_X3_tapAt : GoodIn wsX3_heardCount wsX3_tapAt := goodIn_r _ [7, 1, 8, 9, 10, 11, 12, 13] (by decide +kernel) (by decide +kernel)
set_option maxRecDepth 20000 in
theorem gX3_heardCount_X3_tapAt : GoodIn wsX3_heardCount (wsV RX3 37 RX3 yX3_tapAt wsX3_tapAt) := goodIn_app (goodIn_of _ (by decide +kernel)) ggX3_heardCount_X3_tapAt
set_option maxRecDepth 20000 in
theorem ggX4_dripBy_X4_lengthOf : GoodIn wsX4_dripBy wsX4_lengthOf := goodIn_r _ [5, 6, 12, 13] (by decide +kernel) (by decide +kernel)
set_option maxRecDepth 20000 in
theorem gX4_dripBy_X4_lengthOf : GoodIn wsX4_dripBy (wsV RX4 18 RX4 yX4_lengthOf wsX4_lengthOf) := goodIn_app (goodIn_of _ (by decide +kernel)) ggX4_dripBy_X4_lengthOf
set_option maxRecDepth 20000 in
theorem ggX4_dripBy_X4_beatOf : GoodIn wsX4_dripBy wsX4_beatOf := goodIn_r _ [10, 11, 12, 13] (by decide +kernel) (by decide +kernel)
set_option maxRecDepth 20000 in
theorem gX4_dripBy_X4_beatOf : GoodIn wsX4_dripBy (wsV RX4 22 RX4 yX4_beatOf wsX4_beatOf) := goodIn_app (goodIn_of _ (by decide +kernel)) ggX4_dripBy_X4_beatOf
set_option maxRecDepth 20000 in
theorem ggX6_init_X1_init : GoodIn wsX6_init wsX1_init := goodIn_r _ [19, 20, 2, 3, 21, 22, 23, 24, 25, 26, 27, 28, 29, 56, 57, 58, 73, 74, 75] (by decide +kernel) (by decide +kernel)
set_option maxRecDepth 20000 in
theorem gX6_init_X1_init : GoodIn wsX6_init (wsX1_init) := ggX6_init_X1_init
set_option maxRecDepth 20000 in
theorem ggX6_init_X4_init : GoodIn wsX6_init wsX4_init := goodIn_r _ [32, 33, 2, 3, 21, 34, 35, 66, 67] (by decide +kernel) (by decide +kernel)
set_option maxRecDepth 20000 in
theorem gX6_init_X4_init : GoodIn wsX6_init (wsX4_init) := ggX6_init_X4_init
set_option maxRecDepth 20000 in
theorem ggX6_init_X3_init : GoodIn wsX6_init wsX3_init := goodIn_r _ [38, 39, 2, 3, 40, 41, 42, 43, 44, 45, 46, 47, 48, 49, 50, 51, 52, 53, 54, 55, 68, 69, 70, 71, 72, 76, 77, 78, 79, 80, 81, 82, 83, 84] (by decide +kernel) (by decide +kernel)
set_option maxRecDepth 20000 in
theorem gX6_init_X3_init : GoodIn wsX6_init (wsX3_init) := ggX6_init_X3_init
set_option maxRecDepth 20000 in
theorem ggX6_letter_X1_add : GoodIn wsX6_letter wsX1_add := goodIn_r _ [7, 8, 9, 17, 18, 19] (by decide +kernel) (by decide +kernel)
set_option maxRecDepth 20000 in
theorem gX6_letter_X1_add : GoodIn wsX6_letter (wsV RX6 37 RX1 yX1_add wsX1_add) := goodIn_app (goodIn_of _ (by decide +kernel)) ggX6_letter_X1_add
set_option maxRecDepth 20000 in
theorem ggX6_blank_X1_clear : GoodIn wsX6_blank wsX1_clear := goodIn_r _ [7, 8, 16, 17, 18] (by decide +kernel) (by decide +kernel)
set_option maxRecDepth 20000 in
theorem gX6_blank_X1_clear : GoodIn wsX6_blank (wsV RX6 41 RX1 yX1_clear wsX1_clear) := goodIn_app (goodIn_of _ (by decide +kernel)) ggX6_blank_X1_clear
set_option maxRecDepth 20000 in
theorem ggX6_fault_X1_firstFault : GoodIn wsX6_fault wsX1_firstFault := goodIn_r _ [6, 7, 8, 9, 10, 11, 12, 13, 14, 15, 16, 17, 18, 19, 5, 20, 21, 22, 23, 24, 25, 26, 27, 28, 29, 30, 31, 32, 33, 34, 35, 36, 37, 38, 46, 47, 48, 49, 50, 51] (by decide +kernel) (by decide +kernel)
set_option maxRecDepth 20000 in
theorem gX6_fault_X1_firstFault : GoodIn wsX6_fault (wsV RX6 44 RX1 yX1_firstFault wsX1_firstFault) := goodIn_app (goodIn_of _ (by decide +kernel)) ggX6_fault_X1_firstFault
set_option maxRecDepth 20000 in
theorem ggX6_house_X1_isHouse : GoodIn wsX6_house wsX1_isHouse := goodIn_r _ [12, 13, 14, 15, 16, 17, 11, 18, 19, 20, 21, 22, 23, 24, 25, 26, 27, 28, 29, 30, 31, 32, 33, 34, 35, 36, 37, 38, 39, 40, 41, 42, 43, 44, 45, 46, 47, 48, 49, 50, 51, 52, 113, 114, 115, 116, 117, 118] (by decide +kernel) (by decide +kernel)
set_option maxRecDepth 20000 in
theorem gX6_house_X1_isHouse : GoodIn wsX6_house (wsV RX6 48 RX1 yX1_isHouse wsX1_isHouse) := goodIn_app (goodIn_of _ (by decide +kernel)) ggX6_house_X1_isHouse
set_option maxRecDepth 20000 in
theorem ggX6_house_X4_clear : GoodIn wsX6_house wsX4_clear := goodIn_r _ [57, 58, 59, 119, 120] (by decide +kernel) (by decide +kernel)
set_option maxRecDepth 20000 in
theorem gX6_house_X4_clear : GoodIn wsX6_house (wsV RX6 52 RX4 yX4_clear wsX4_clear) := goodIn_app (goodIn_of _ (by decide +kernel)) ggX6_house_X4_clear
set_option maxRecDepth 20000 in
theorem ggX6_house_X3_clear : GoodIn wsX6_house wsX3_clear := goodIn_r _ [64, 65, 66, 67, 108, 109, 110, 111, 112] (by decide +kernel) (by decide +kernel)
set_option maxRecDepth 20000 in
theorem gX6_house_X3_clear : GoodIn wsX6_house (wsV RX6 53 RX3 yX3_clear wsX3_clear) := goodIn_app (goodIn_of _ (by decide +kernel)) ggX6_house_X3_clear
set_option maxRecDepth 20000 in
theorem ggX6_house_X6_readPage : GoodIn wsX6_house wsX6_readPage := goodIn_r _ [71, 1, 72, 2, 3, 73, 28, 29, 11, 30, 13, 31, 74, 75, 76, 56, 77, 59, 58, 78, 44, 45, 46, 79, 80, 81, 63, 82, 65, 83, 84, 85, 86, 87, 88, 89, 90, 91, 92, 93, 94, 95, 96, 101, 102, 103, 104, 105, 106, 107, 113, 114, 115, 119, 120, 108, 109, 110, 111, 112, 121, 122, 123, 124, 125] (by decide +kernel) (by decide +kernel)
set_option maxRecDepth 20000 in
theorem gX6_house_X6_readPage : GoodIn wsX6_house (wsV RX6 54 RX6 yX6_readPage wsX6_readPage) := goodIn_app (goodIn_of _ (by decide +kernel)) ggX6_house_X6_readPage
set_option maxRecDepth 20000 in
theorem ggX6_house_X1_clear : GoodIn wsX6_house wsX1_clear := goodIn_r _ [100, 13, 113, 114, 115] (by decide +kernel) (by decide +kernel)
set_option maxRecDepth 20000 in
theorem gX6_house_X1_clear : GoodIn wsX6_house (wsV RX6 41 RX1 yX1_clear wsX1_clear) := goodIn_app (goodIn_of _ (by decide +kernel)) ggX6_house_X1_clear
set_option maxRecDepth 20000 in
theorem ggX6_saying_X6_isSaying : GoodIn wsX6_saying wsX6_isSaying := goodIn_r _ [6] (by decide +kernel) (by decide +kernel)
set_option maxRecDepth 20000 in
theorem gX6_saying_X6_isSaying : GoodIn wsX6_saying (va_wsS RX6 70 yX6_isSaying wsX6_isSaying) := goodIn_app (goodIn_of _ (by decide +kernel)) ggX6_saying_X6_isSaying
set_option maxRecDepth 20000 in
theorem ggX6_saying_X4_lengthOf : GoodIn wsX6_saying wsX4_lengthOf := goodIn_r _ [11, 12, 25, 26] (by decide +kernel) (by decide +kernel)
set_option maxRecDepth 20000 in
theorem gX6_saying_X4_lengthOf : GoodIn wsX6_saying (wsV RX6 74 RX4 yX4_lengthOf wsX4_lengthOf) := goodIn_app (goodIn_of _ (by decide +kernel)) ggX6_saying_X4_lengthOf
set_option maxRecDepth 20000 in
theorem ggX6_saying_X4_beatOf : GoodIn wsX6_saying wsX4_beatOf := goodIn_r _ [16, 17, 25, 26] (by decide +kernel) (by decide +kernel)
set_option maxRecDepth 20000 in
theorem gX6_saying_X4_beatOf : GoodIn wsX6_saying (wsV RX6 78 RX4 yX4_beatOf wsX4_beatOf) := goodIn_app (goodIn_of _ (by decide +kernel)) ggX6_saying_X4_beatOf
set_option maxRecDepth 20000 in
theorem ggX6_tap_X6_isKind : GoodIn wsX6_tap wsX6_isKind := goodIn_r _ [7] (by decide +kernel) (by decide +kernel)
set_option maxRecDepth 20000 in
theorem gX6_tap_X6_isKind : GoodIn wsX6_tap (va_wsS RX6 82 yX6_isKind wsX6_isKind) := goodIn_app (goodIn_of _ (by decide +kernel)) ggX6_tap_X6_isKind
set_option maxRecDepth 20000 in
theorem ggX6_tap_X6_isSaying : GoodIn wsX6_tap wsX6_isSaying := goodIn_r _ [10] (by decide +kernel) (by decide +kernel)
set_option maxRecDepth 20000 in
theorem gX6_tap_X6_isSaying : GoodIn wsX6_tap (va_wsS RX6 70 yX6_isSaying wsX6_isSaying) := goodIn_app (goodIn_of _ (by decide +kernel)) ggX6_tap_X6_isSaying
set_option maxRecDepth 20000 in
theorem ggX6_tap_X3_addTap : GoodIn wsX6_tap wsX3_addTap := goodIn_r _ [15, 16, 17, 18, 19, 14, 20, 21, 22, 23, 24, 25, 26, 27, 28, 29, 30, 38, 39, 40, 41, 42, 43, 44, 45, 46, 47] (by decide +kernel) (by decide +kernel)
set_option maxRecDepth 20000 in
theorem gX6_tap_X3_addTap : GoodIn wsX6_tap (wsV RX6 85 RX3 yX3_addTap wsX3_addTap) := goodIn_app (goodIn_of _ (by decide +kernel)) ggX6_tap_X3_addTap
set_option maxRecDepth 20000 in
theorem ggX6_about_X3_tapAt : GoodIn wsX6_about wsX3_tapAt := goodIn_r _ [6, 7, 8, 85, 86, 87, 88, 89] (by decide +kernel) (by decide +kernel)
set_option maxRecDepth 20000 in
theorem gX6_about_X3_tapAt : GoodIn wsX6_about (wsV RX6 89 RX3 yX3_tapAt wsX3_tapAt) := goodIn_app (goodIn_of _ (by decide +kernel)) ggX6_about_X3_tapAt
set_option maxRecDepth 20000 in
theorem ggX6_about_X6_aboutOf : GoodIn wsX6_about wsX6_aboutOf := goodIn_r _ [13, 14, 15, 16, 17, 18, 19, 20, 12, 21, 22, 23, 24, 25, 26, 27, 28, 29, 30, 31, 32, 33, 34, 35, 36, 37, 38, 39, 40, 41, 42, 43, 44, 45, 46, 47, 48, 49, 50, 51, 52, 53, 1, 54, 55, 56, 57, 58, 59, 60, 61, 62, 5, 63, 64, 65, 66, 67, 68, 69, 70, 71, 72, 73, 74, 75, 76, 77, 90, 91, 92, 93, 94, 78, 79, 80, 81, 82, 83, 84, 95, 96, 85, 86, 87, 88, 89, 97, 98, 99, 100] (by decide +kernel) (by decide +kernel)
set_option maxRecDepth 20000 in
theorem gX6_about_X6_aboutOf : GoodIn wsX6_about (wsV RX6 93 RX6 yX6_aboutOf wsX6_aboutOf) := goodIn_app (goodIn_of _ (by decide +kernel)) ggX6_about_X6_aboutOf
set_option maxRecDepth 20000 in
theorem ggX6_as_X3_tapAt : GoodIn wsX6_as wsX3_tapAt := goodIn_r _ [7, 8, 9, 26, 27, 28, 29, 30] (by decide +kernel) (by decide +kernel)
set_option maxRecDepth 20000 in
theorem gX6_as_X3_tapAt : GoodIn wsX6_as (wsV RX6 89 RX3 yX3_tapAt wsX3_tapAt) := goodIn_app (goodIn_of _ (by decide +kernel)) ggX6_as_X3_tapAt
set_option maxRecDepth 20000 in
theorem ggX6_as_X6_isKind : GoodIn wsX6_as wsX6_isKind := goodIn_r _ [13] (by decide +kernel) (by decide +kernel)
set_option maxRecDepth 20000 in
theorem gX6_as_X6_isKind : GoodIn wsX6_as (va_wsS RX6 82 yX6_isKind wsX6_isKind) := goodIn_app (goodIn_of _ (by decide +kernel)) ggX6_as_X6_isKind
set_option maxRecDepth 20000 in
theorem ggX6_drip_X3_tapAt : GoodIn wsX6_drip wsX3_tapAt := goodIn_r _ [6, 7, 8, 40, 41, 42, 43, 44] (by decide +kernel) (by decide +kernel)
set_option maxRecDepth 20000 in
theorem gX6_drip_X3_tapAt : GoodIn wsX6_drip (wsV RX6 89 RX3 yX3_tapAt wsX3_tapAt) := goodIn_app (goodIn_of _ (by decide +kernel)) ggX6_drip_X3_tapAt
set_option maxRecDepth 20000 in
theorem ggX6_drip_X6_dripOf : GoodIn wsX6_drip wsX6_dripOf := goodIn_r _ [13, 14, 15, 16, 17, 18, 19, 20, 21, 22, 23, 24, 25, 26, 27, 28, 29, 30, 31, 32, 33, 34, 35, 36, 37, 38, 39, 45, 46, 47, 48, 49, 50, 51] (by decide +kernel) (by decide +kernel)
set_option maxRecDepth 20000 in
theorem gX6_drip_X6_dripOf : GoodIn wsX6_drip (wsV RX6 102 RX6 yX6_dripOf wsX6_dripOf) := goodIn_app (goodIn_of _ (by decide +kernel)) ggX6_drip_X6_dripOf
set_option maxRecDepth 20000 in
theorem ggX6_listen_X3_tapAt : GoodIn wsX6_listen wsX3_tapAt := goodIn_r _ [8, 9, 10, 47, 48, 49, 50, 51] (by decide +kernel) (by decide +kernel)
set_option maxRecDepth 20000 in
theorem gX6_listen_X3_tapAt : GoodIn wsX6_listen (wsV RX6 89 RX3 yX3_tapAt wsX3_tapAt) := goodIn_app (goodIn_of _ (by decide +kernel)) ggX6_listen_X3_tapAt
set_option maxRecDepth 20000 in
theorem ggX6_listen_X6_dripOf : GoodIn wsX6_listen wsX6_dripOf := goodIn_r _ [15, 16, 17, 18, 19, 20, 21, 22, 23, 24, 25, 26, 27, 28, 29, 30, 31, 32, 33, 34, 35, 36, 37, 38, 39, 40, 41, 42, 43, 44, 45, 46, 52, 53] (by decide +kernel) (by decide +kernel)
set_option maxRecDepth 20000 in
theorem gX6_listen_X6_dripOf : GoodIn wsX6_listen (wsV RX6 102 RX6 yX6_dripOf wsX6_dripOf) := goodIn_app (goodIn_of _ (by decide +kernel)) ggX6_listen_X6_dripOf
set_option maxRecDepth 20000 in
theorem ggX6_washer_X3_tapAt : GoodIn wsX6_washer wsX3_tapAt := goodIn_r _ [8, 9, 10, 23, 24, 25, 26, 27] (by decide +kernel) (by decide +kernel)
set_option maxRecDepth 20000 in
theorem gX6_washer_X3_tapAt : GoodIn wsX6_washer (wsV RX6 89 RX3 yX3_tapAt wsX3_tapAt) := goodIn_app (goodIn_of _ (by decide +kernel)) ggX6_washer_X3_tapAt
set_option maxRecDepth 20000 in
theorem ggX6_teach_X3_tapAt : GoodIn wsX6_teach wsX3_tapAt := goodIn_r _ [8, 9, 10, 27, 28, 29, 30, 31] (by decide +kernel) (by decide +kernel)
set_option maxRecDepth 20000 in
theorem gX6_teach_X3_tapAt : GoodIn wsX6_teach (wsV RX6 89 RX3 yX3_tapAt wsX3_tapAt) := goodIn_app (goodIn_of _ (by decide +kernel)) ggX6_teach_X3_tapAt
set_option maxRecDepth 20000 in
theorem ggX6_teach_X6_isSaying : GoodIn wsX6_teach wsX6_isSaying := goodIn_r _ [14] (by decide +kernel) (by decide +kernel)
set_option maxRecDepth 20000 in
theorem gX6_teach_X6_isSaying : GoodIn wsX6_teach (va_wsS RX6 70 yX6_isSaying wsX6_isSaying) := goodIn_app (goodIn_of _ (by decide +kernel)) ggX6_teach_X6_isSaying
set_option maxRecDepth 20000 in
theorem ggX6_agree_X3_tapAt : GoodIn wsX6_agree wsX3_tapAt := goodIn_r _ [7, 8, 9, 46, 47, 48, 49, 50] (by decide +kernel) (by decide +kernel)
set_option maxRecDepth 20000 in
theorem gX6_agree_X3_tapAt : GoodIn wsX6_agree (wsV RX6 89 RX3 yX3_tapAt wsX3_tapAt) := goodIn_app (goodIn_of _ (by decide +kernel)) ggX6_agree_X3_tapAt
set_option maxRecDepth 20000 in
theorem ggX6_agree_X6_dripOf : GoodIn wsX6_agree wsX6_dripOf := goodIn_r _ [14, 15, 16, 17, 18, 19, 20, 21, 22, 23, 24, 25, 26, 27, 28, 29, 30, 31, 32, 33, 34, 35, 36, 37, 38, 39, 40, 41, 42, 43, 44, 45, 51, 52] (by decide +kernel) (by decide +kernel)
set_option maxRecDepth 20000 in
theorem gX6_agree_X6_dripOf : GoodIn wsX6_agree (wsV RX6 102 RX6 yX6_dripOf wsX6_dripOf) := goodIn_app (goodIn_of _ (by decide +kernel)) ggX6_agree_X6_dripOf
set_option maxRecDepth 20000 in
theorem ggX6_near_X3_tapAt : GoodIn wsX6_near wsX3_tapAt := goodIn_r _ [6, 7, 8, 50, 51, 52, 53, 54] (by decide +kernel) (by decide +kernel)
set_option maxRecDepth 20000 in
theorem gX6_near_X3_tapAt : GoodIn wsX6_near (wsV RX6 89 RX3 yX3_tapAt wsX3_tapAt) := goodIn_app (goodIn_of _ (by decide +kernel)) ggX6_near_X3_tapAt
set_option maxRecDepth 20000 in
theorem ggX6_near_X6_isSaying : GoodIn wsX6_near wsX6_isSaying := goodIn_r _ [12] (by decide +kernel) (by decide +kernel)
set_option maxRecDepth 20000 in
theorem gX6_near_X6_isSaying : GoodIn wsX6_near (va_wsS RX6 70 yX6_isSaying wsX6_isSaying) := goodIn_app (goodIn_of _ (by decide +kernel)) ggX6_near_X6_isSaying
set_option maxRecDepth 20000 in
theorem ggX6_near_X6_nearOf : GoodIn wsX6_near wsX6_nearOf := goodIn_r _ [16, 17, 18, 19, 20, 21, 22, 23, 11, 24, 25, 26, 27, 28, 29, 30, 31, 32, 33, 34, 35, 36, 37, 38, 39, 40, 41, 42, 43, 44, 45, 46, 47, 48, 49, 55, 56, 57, 58, 59, 60, 61] (by decide +kernel) (by decide +kernel)
set_option maxRecDepth 20000 in
theorem gX6_near_X6_nearOf : GoodIn wsX6_near (wsV RX6 117 RX6 yX6_nearOf wsX6_nearOf) := goodIn_app (goodIn_of _ (by decide +kernel)) ggX6_near_X6_nearOf
set_option maxRecDepth 20000 in
theorem ggX6_put_X3_tapAt : GoodIn wsX6_put wsX3_tapAt := goodIn_r _ [7, 8, 9, 38, 39, 40, 41, 42] (by decide +kernel) (by decide +kernel)
set_option maxRecDepth 20000 in
theorem gX6_put_X3_tapAt : GoodIn wsX6_put (wsV RX6 89 RX3 yX3_tapAt wsX3_tapAt) := goodIn_app (goodIn_of _ (by decide +kernel)) ggX6_put_X3_tapAt
set_option maxRecDepth 20000 in
theorem ggX6_put_X3_addNote : GoodIn wsX6_put wsX3_addNote := goodIn_r _ [13, 14, 15, 16, 17, 18, 19, 6, 20, 21, 22, 23, 24, 25, 26, 27, 28, 29, 30, 38, 39, 40, 41, 42, 43, 44, 45, 46, 47, 48, 49, 50, 51] (by decide +kernel) (by decide +kernel)
set_option maxRecDepth 20000 in
theorem gX6_put_X3_addNote : GoodIn wsX6_put (wsV RX6 124 RX3 yX3_addNote wsX3_addNote) := goodIn_app (goodIn_of _ (by decide +kernel)) ggX6_put_X3_addNote
set_option maxRecDepth 20000 in
theorem ggX6_nights_X3_tapAt : GoodIn wsX6_nights wsX3_tapAt := goodIn_r _ [9, 10, 11, 53, 54, 55, 56, 57] (by decide +kernel) (by decide +kernel)
set_option maxRecDepth 20000 in
theorem gX6_nights_X3_tapAt : GoodIn wsX6_nights (wsV RX6 89 RX3 yX3_tapAt wsX3_tapAt) := goodIn_app (goodIn_of _ (by decide +kernel)) ggX6_nights_X3_tapAt
set_option maxRecDepth 20000 in
theorem ggX6_nights_X6_nextSeed : GoodIn wsX6_nights wsX6_nextSeed := goodIn_r _ [15, 16, 17, 18] (by decide +kernel) (by decide +kernel)
set_option maxRecDepth 20000 in
theorem gX6_nights_X6_nextSeed : GoodIn wsX6_nights (va_wsS RX6 128 yX6_nextSeed wsX6_nextSeed) := goodIn_app (goodIn_of _ (by decide +kernel)) ggX6_nights_X6_nextSeed
set_option maxRecDepth 20000 in
theorem ggX6_nights_X6_drawOf : GoodIn wsX6_nights wsX6_drawOf := goodIn_r _ [21, 22] (by decide +kernel) (by decide +kernel)
set_option maxRecDepth 20000 in
theorem gX6_nights_X6_drawOf : GoodIn wsX6_nights (va_wsS RX6 131 yX6_drawOf wsX6_drawOf) := goodIn_app (goodIn_of _ (by decide +kernel)) ggX6_nights_X6_drawOf
set_option maxRecDepth 20000 in
theorem ggX6_nights_X6_dripOf : GoodIn wsX6_nights wsX6_dripOf := goodIn_r _ [26, 27, 28, 29, 30, 31, 32, 33, 34, 35, 36, 37, 38, 39, 40, 41, 42, 43, 44, 45, 46, 47, 48, 49, 50, 51, 52, 58, 59, 60, 61, 62, 63, 64] (by decide +kernel) (by decide +kernel)
set_option maxRecDepth 20000 in
theorem gX6_nights_X6_dripOf : GoodIn wsX6_nights (wsV RX6 102 RX6 yX6_dripOf wsX6_dripOf) := goodIn_app (goodIn_of _ (by decide +kernel)) ggX6_nights_X6_dripOf
set_option maxRecDepth 20000 in
theorem ggX6_image_X3_copyFrom : GoodIn wsX6_image wsX3_copyFrom := goodIn_r _ [10, 11, 12, 13, 14, 15, 16, 17, 18, 19, 20, 21, 22, 23, 24, 9, 25, 26, 27, 28, 29, 30, 31, 32, 33, 34, 35, 36, 37, 38, 39, 40, 41, 42, 43, 44, 45, 46, 47, 48, 49, 57, 58, 59, 60, 61, 62, 63, 64, 65, 66, 67, 68, 69, 70] (by decide +kernel) (by decide +kernel)
set_option maxRecDepth 20000 in
theorem gX6_image_X3_copyFrom : GoodIn wsX6_image (wsV RX6 134 RX3 yX3_copyFrom wsX3_copyFrom) := goodIn_app (goodIn_of _ (by decide +kernel)) ggX6_image_X3_copyFrom
set_option maxRecDepth 20000 in
theorem ggX6_restore_X3_copyFrom : GoodIn wsX6_restore wsX3_copyFrom := goodIn_r _ [9, 10, 11, 12, 13, 14, 15, 16, 17, 18, 19, 20, 21, 22, 23, 8, 24, 25, 26, 27, 28, 29, 30, 31, 32, 33, 34, 35, 36, 37, 38, 39, 40, 41, 42, 43, 44, 45, 46, 47, 48, 56, 57, 58, 59, 60, 61, 62, 63, 64, 65, 66, 67, 68, 69] (by decide +kernel) (by decide +kernel)
set_option maxRecDepth 20000 in
theorem gX6_restore_X3_copyFrom : GoodIn wsX6_restore (wsV RX6 134 RX3 yX3_copyFrom wsX3_copyFrom) := goodIn_app (goodIn_of _ (by decide +kernel)) ggX6_restore_X3_copyFrom
set_option maxRecDepth 20000 in
theorem ggX6_count_X6_countOf : GoodIn wsX6_count wsX6_countOf := goodIn_r _ [5, 6, 7, 8, 9, 10, 11, 12, 13, 14, 15, 16, 17, 18, 19, 20, 21, 22, 23, 24, 25, 26, 27, 28, 29, 30, 31, 32, 33, 34, 35, 36, 37, 38, 39, 40, 41, 42, 43, 44, 45, 46, 47, 48, 49, 50, 51, 52, 53, 54, 55, 56, 57, 58] (by decide +kernel) (by decide +kernel)
set_option maxRecDepth 20000 in
theorem gX6_count_X6_countOf : GoodIn wsX6_count (wsV RX6 138 RX6 yX6_countOf wsX6_countOf) := goodIn_app (goodIn_of _ (by decide +kernel)) ggX6_count_X6_countOf
set_option maxRecDepth 20000 in
theorem ggX6_digest_X6_digestSayings : GoodIn wsX6_digest wsX6_digestSayings := goodIn_r _ [12, 7, 13, 14, 15, 16, 17, 18, 19, 20, 21, 22, 23, 24, 137, 138, 139, 140, 141, 142, 143, 152, 153] (by decide +kernel) (by decide +kernel)
set_option maxRecDepth 20000 in
theorem gX6_digest_X6_digestSayings : GoodIn wsX6_digest (wsV RX6 143 RX6 yX6_digestSayings wsX6_digestSayings) := goodIn_app (goodIn_of _ (by decide +kernel)) ggX6_digest_X6_digestSayings
set_option maxRecDepth 20000 in
theorem ggX6_digest_X3_tapAt : GoodIn wsX6_digest wsX3_tapAt := goodIn_r _ [29, 30, 31, 144, 145, 146, 147, 148] (by decide +kernel) (by decide +kernel)
set_option maxRecDepth 20000 in
theorem gX6_digest_X3_tapAt : GoodIn wsX6_digest (wsV RX6 89 RX3 yX3_tapAt wsX3_tapAt) := goodIn_app (goodIn_of _ (by decide +kernel)) ggX6_digest_X3_tapAt
set_option maxRecDepth 20000 in
theorem ggX6_digest_X6_digestTap : GoodIn wsX6_digest wsX6_digestTap := goodIn_r _ [35, 7, 36, 37, 38, 11, 39, 40, 41, 42, 43, 44, 45, 46, 47, 48, 49, 50, 51, 52, 53, 54, 55, 13, 56, 57, 58, 17, 59, 60, 15, 16, 18, 19, 61, 21, 22, 23, 24, 62, 63, 64, 65, 66, 67, 68, 69, 3, 70, 71, 72, 73, 74, 75, 76, 77, 78, 28, 79, 80, 81, 82, 83, 84, 85, 86, 87, 88, 89, 90, 91, 92, 93, 94, 95, 96, 97, 98, 99, 100, 101, 102, 103, 104, 105, 106, 107, 108, 154, 155, 156, 157, 158, 137, 138, 139, 140, 141, 142, 143, 152, 153, 144, 145, 146, 147, 148, 159, 160, 161, 162] (by decide +kernel) (by decide +kernel)
set_option maxRecDepth 20000 in
theorem gX6_digest_X6_digestTap : GoodIn wsX6_digest (wsV RX6 147 RX6 yX6_digestTap wsX6_digestTap) := goodIn_app (goodIn_of _ (by decide +kernel)) ggX6_digest_X6_digestTap
set_option maxRecDepth 20000 in
theorem ggX6_digest_X1_codeAt : GoodIn wsX6_digest wsX1_codeAt := goodIn_r _ [113, 114, 115, 149, 150, 151] (by decide +kernel) (by decide +kernel)
set_option maxRecDepth 20000 in
theorem gX6_digest_X1_codeAt : GoodIn wsX6_digest (wsV RX6 153 RX1 yX1_codeAt wsX1_codeAt) := goodIn_app (goodIn_of _ (by decide +kernel)) ggX6_digest_X1_codeAt
set_option maxRecDepth 20000 in
theorem ggX6_digest_X6_countOf : GoodIn wsX6_digest wsX6_countOf := goodIn_r _ [119, 3, 4, 13, 120, 70, 5, 6, 121, 122, 123, 124, 17, 125, 19, 126, 127, 128, 28, 129, 30, 130, 131, 26, 27, 29, 31, 132, 133, 134, 135, 136, 137, 138, 139, 140, 141, 142, 143, 144, 145, 146, 147, 148, 149, 150, 151, 152, 153, 154, 155, 156, 157, 158] (by decide +kernel) (by decide +kernel)
set_option maxRecDepth 20000 in
theorem gX6_digest_X6_countOf : GoodIn wsX6_digest (wsV RX6 138 RX6 yX6_countOf wsX6_countOf) := goodIn_app (goodIn_of _ (by decide +kernel)) ggX6_digest_X6_countOf
set_option maxRecDepth 20000 in
theorem ggX6_readPage_X1_codeAt : GoodIn wsX6_readPage wsX1_codeAt := goodIn_r _ [9, 10, 11, 50, 51, 52] (by decide +kernel) (by decide +kernel)
set_option maxRecDepth 20000 in
theorem gX6_readPage_X1_codeAt : GoodIn wsX6_readPage (wsV RX6 153 RX1 yX1_codeAt wsX1_codeAt) := goodIn_app (goodIn_of _ (by decide +kernel)) ggX6_readPage_X1_codeAt
set_option maxRecDepth 20000 in
theorem ggX6_readPage_X4_addBeat : GoodIn wsX6_readPage wsX4_addBeat := goodIn_r _ [16, 17, 18, 53, 54] (by decide +kernel) (by decide +kernel)
set_option maxRecDepth 20000 in
theorem gX6_readPage_X4_addBeat : GoodIn wsX6_readPage (wsV RX6 156 RX4 yX4_addBeat wsX4_addBeat) := goodIn_app (goodIn_of _ (by decide +kernel)) ggX6_readPage_X4_addBeat
set_option maxRecDepth 20000 in
theorem ggX6_readPage_X6_kindOfLetter : GoodIn wsX6_readPage wsX6_kindOfLetter := goodIn_r _ [22] (by decide +kernel) (by decide +kernel)
set_option maxRecDepth 20000 in
theorem gX6_readPage_X6_kindOfLetter : GoodIn wsX6_readPage (va_wsS RX6 159 yX6_kindOfLetter wsX6_kindOfLetter) := goodIn_app (goodIn_of _ (by decide +kernel)) ggX6_readPage_X6_kindOfLetter
set_option maxRecDepth 20000 in
theorem ggX6_readPage_X3_addTap : GoodIn wsX6_readPage wsX3_addTap := goodIn_r _ [27, 28, 29, 30, 31, 26, 32, 33, 34, 35, 36, 37, 38, 39, 40, 41, 42, 55, 56, 57, 58, 59, 60, 61, 62, 63, 64] (by decide +kernel) (by decide +kernel)
set_option maxRecDepth 20000 in
theorem gX6_readPage_X3_addTap : GoodIn wsX6_readPage (wsV RX6 85 RX3 yX3_addTap wsX3_addTap) := goodIn_app (goodIn_of _ (by decide +kernel)) ggX6_readPage_X3_addTap
set_option maxRecDepth 20000 in
theorem ggX6_dripOf_X4_dripBy : GoodIn wsX6_dripOf wsX4_dripBy := goodIn_r _ [9, 10, 11, 12, 8, 13, 14, 15, 16, 17, 18, 19, 32, 33] (by decide +kernel) (by decide +kernel)
set_option maxRecDepth 20000 in
theorem gX6_dripOf_X4_dripBy : GoodIn wsX6_dripOf (wsV RX6 162 RX4 yX4_dripBy wsX4_dripBy) := goodIn_app (goodIn_of _ (by decide +kernel)) ggX6_dripOf_X4_dripBy
set_option maxRecDepth 20000 in
theorem ggX6_aboutOf_X6_sureOf : GoodIn wsX6_aboutOf wsX6_sureOf := goodIn_r _ [9, 10, 11, 12, 13, 14, 15, 16, 8, 17, 18, 1, 3, 4, 19, 20, 21, 22, 23, 24, 25, 26, 27, 28, 29, 30, 31, 32, 33, 73, 74, 75, 76, 77, 78, 79, 68, 69, 70, 71, 72, 80, 81] (by decide +kernel) (by decide +kernel)
set_option maxRecDepth 20000 in
theorem gX6_aboutOf_X6_sureOf : GoodIn wsX6_aboutOf (wsV RX6 166 RX6 yX6_sureOf wsX6_sureOf) := goodIn_app (goodIn_of _ (by decide +kernel)) ggX6_aboutOf_X6_sureOf
set_option maxRecDepth 20000 in
theorem ggX6_aboutOf_X6_saysOf : GoodIn wsX6_aboutOf wsX6_saysOf := goodIn_r _ [37, 38, 39, 40, 8, 41, 42, 43, 44, 45, 18, 1, 46, 47, 48, 49, 50, 51, 52, 53, 54, 55, 19, 20, 21, 22, 23, 24, 25, 26, 27, 28, 29, 30, 31, 32, 33, 73, 74, 75, 76, 77, 78, 79, 82, 83, 84, 85, 86, 87, 88, 89, 90, 68, 69, 70, 71, 72, 80, 81] (by decide +kernel) (by decide +kernel)
set_option maxRecDepth 20000 in
theorem gX6_aboutOf_X6_saysOf : GoodIn wsX6_aboutOf (wsV RX6 170 RX6 yX6_saysOf wsX6_saysOf) := goodIn_app (goodIn_of _ (by decide +kernel)) ggX6_aboutOf_X6_saysOf
set_option maxRecDepth 20000 in
theorem ggX6_aboutOf_X6_likelyOf : GoodIn wsX6_aboutOf wsX6_likelyOf := goodIn_r _ [59, 38, 39, 40, 8, 41, 42, 43, 44, 45, 18, 1, 46, 47, 48, 49, 50, 51, 52, 53, 54, 55, 19, 20, 21, 22, 23, 24, 25, 26, 27, 28, 29, 30, 31, 32, 33, 73, 74, 75, 76, 77, 78, 79, 82, 83, 84, 85, 86, 87, 88, 89, 90, 68, 69, 70, 71, 72, 80, 81] (by decide +kernel) (by decide +kernel)
set_option maxRecDepth 20000 in
theorem gX6_aboutOf_X6_likelyOf : GoodIn wsX6_aboutOf (wsV RX6 173 RX6 yX6_likelyOf wsX6_likelyOf) := goodIn_app (goodIn_of _ (by decide +kernel)) ggX6_aboutOf_X6_likelyOf
set_option maxRecDepth 20000 in
theorem ggX6_aboutOf_X6_slipsOf : GoodIn wsX6_aboutOf wsX6_slipsOf := goodIn_r _ [41, 42, 43, 44, 45, 18, 1, 46, 47, 48, 49, 50, 51, 52, 53, 54, 55, 19, 20, 21, 22, 23, 24, 25, 26, 27, 28, 29, 30, 31, 32, 33, 73, 74, 75, 76, 77, 78, 79, 82, 83, 84, 85, 86, 87, 88, 89, 90, 68, 69, 70, 71, 72, 80, 81] (by decide +kernel) (by decide +kernel)
set_option maxRecDepth 20000 in
theorem gX6_aboutOf_X6_slipsOf : GoodIn wsX6_aboutOf (wsV RX6 176 RX6 yX6_slipsOf wsX6_slipsOf) := goodIn_app (goodIn_of _ (by decide +kernel)) ggX6_aboutOf_X6_slipsOf
set_option maxRecDepth 20000 in
theorem ggX6_aboutOf_X6_bestToHear : GoodIn wsX6_aboutOf wsX6_bestToHear := goodIn_r _ [63, 64, 65, 66, 8, 67, 18, 1, 3, 4, 10, 11, 12, 13, 19, 20, 21, 22, 23, 24, 25, 26, 27, 28, 29, 30, 31, 32, 33, 73, 74, 75, 76, 77, 78, 79, 68, 69, 70, 71, 72, 80, 81] (by decide +kernel) (by decide +kernel)
set_option maxRecDepth 20000 in
theorem gX6_aboutOf_X6_bestToHear : GoodIn wsX6_aboutOf (wsV RX6 179 RX6 yX6_bestToHear wsX6_bestToHear) := goodIn_app (goodIn_of _ (by decide +kernel)) ggX6_aboutOf_X6_bestToHear
set_option maxRecDepth 20000 in
theorem ggX6_sureOf_X6_enoughToTell : GoodIn wsX6_sureOf wsX6_enoughToTell := goodIn_r _ [9, 10, 11, 12, 13, 14, 15, 16, 17, 18, 19, 20, 21, 22, 23, 24, 25, 26, 27, 28, 29, 30, 31, 32, 33, 34, 35, 36, 37, 38, 39, 40, 41, 42] (by decide +kernel) (by decide +kernel)
set_option maxRecDepth 20000 in
theorem gX6_sureOf_X6_enoughToTell : GoodIn wsX6_sureOf (wsV RX6 182 RX6 yX6_enoughToTell wsX6_enoughToTell) := goodIn_app (goodIn_of _ (by decide +kernel)) ggX6_sureOf_X6_enoughToTell
set_option maxRecDepth 20000 in
theorem ggX6_enoughToTell_X4_dripBy : GoodIn wsX6_enoughToTell wsX4_dripBy := goodIn_r _ [9, 10, 11, 12, 8, 13, 14, 15, 16, 17, 18, 19, 32, 33] (by decide +kernel) (by decide +kernel)
set_option maxRecDepth 20000 in
theorem gX6_enoughToTell_X4_dripBy : GoodIn wsX6_enoughToTell (wsV RX6 162 RX4 yX4_dripBy wsX4_dripBy) := goodIn_app (goodIn_of _ (by decide +kernel)) ggX6_enoughToTell_X4_dripBy
set_option maxRecDepth 20000 in
theorem ggX6_saysOf_X6_slipsOf : GoodIn wsX6_saysOf wsX6_slipsOf := goodIn_r _ [5, 6, 7, 8, 9, 10, 11, 12, 13, 14, 15, 16, 17, 18, 19, 20, 21, 22, 23, 24, 25, 26, 27, 28, 29, 30, 31, 32, 33, 34, 35, 36, 37, 38, 39, 40, 41, 42, 43, 44, 45, 46, 47, 48, 49, 50, 51, 52, 53, 54, 55, 56, 57, 58, 59] (by decide +kernel) (by decide +kernel)
set_option maxRecDepth 20000 in
theorem gX6_saysOf_X6_slipsOf : GoodIn wsX6_saysOf (wsV RX6 176 RX6 yX6_slipsOf wsX6_slipsOf) := goodIn_app (goodIn_of _ (by decide +kernel)) ggX6_saysOf_X6_slipsOf
set_option maxRecDepth 20000 in
theorem ggX6_likelyOf_X6_slipsOf : GoodIn wsX6_likelyOf wsX6_slipsOf := goodIn_r _ [5, 6, 7, 8, 9, 10, 11, 12, 13, 14, 15, 16, 17, 18, 19, 20, 21, 22, 23, 24, 25, 26, 27, 28, 29, 30, 31, 32, 33, 34, 35, 36, 37, 38, 39, 40, 41, 42, 43, 44, 45, 46, 47, 48, 49, 50, 51, 52, 53, 54, 55, 56, 57, 58, 59] (by decide +kernel) (by decide +kernel)
set_option maxRecDepth 20000 in
theorem gX6_likelyOf_X6_slipsOf : GoodIn wsX6_likelyOf (wsV RX6 176 RX6 yX6_slipsOf wsX6_slipsOf) := goodIn_app (goodIn_of _ (by decide +kernel)) ggX6_likelyOf_X6_slipsOf
set_option maxRecDepth 20000 in
theorem ggX6_slipsOf_X3_noteAt : GoodIn wsX6_slipsOf wsX3_noteAt := goodIn_r _ [14, 15, 16, 39, 40, 41, 42, 43] (by decide +kernel) (by decide +kernel)
set_option maxRecDepth 20000 in
theorem gX6_slipsOf_X3_noteAt : GoodIn wsX6_slipsOf (wsV RX6 190 RX3 yX3_noteAt wsX3_noteAt) := goodIn_app (goodIn_of _ (by decide +kernel)) ggX6_slipsOf_X3_noteAt
set_option maxRecDepth 20000 in
theorem ggX6_slipsOf_X4_dripBy : GoodIn wsX6_slipsOf wsX4_dripBy := goodIn_r _ [21, 22, 23, 24, 20, 25, 26, 27, 28, 29, 30, 31, 53, 54] (by decide +kernel) (by decide +kernel)
set_option maxRecDepth 20000 in
theorem gX6_slipsOf_X4_dripBy : GoodIn wsX6_slipsOf (wsV RX6 162 RX4 yX4_dripBy wsX4_dripBy) := goodIn_app (goodIn_of _ (by decide +kernel)) ggX6_slipsOf_X4_dripBy
set_option maxRecDepth 20000 in
theorem ggX6_bestToHear_X6_leftAtWorst : GoodIn wsX6_bestToHear wsX6_leftAtWorst := goodIn_r _ [5, 6, 7, 8, 9, 10, 11, 12, 13, 14, 15, 16, 17, 18, 19, 20, 21, 22, 23, 24, 25, 26, 27, 28, 29, 30, 31, 32, 33, 34, 35, 36, 37, 38, 39, 40, 41, 42] (by decide +kernel) (by decide +kernel)
set_option maxRecDepth 20000 in
theorem gX6_bestToHear_X6_leftAtWorst : GoodIn wsX6_bestToHear (wsV RX6 209 RX6 yX6_leftAtWorst wsX6_leftAtWorst) := goodIn_app (goodIn_of _ (by decide +kernel)) ggX6_bestToHear_X6_leftAtWorst
set_option maxRecDepth 20000 in
theorem ggX6_leftAtWorst_X4_dripBy : GoodIn wsX6_leftAtWorst wsX4_dripBy := goodIn_r _ [13, 14, 15, 16, 12, 17, 18, 19, 20, 21, 22, 23, 36, 37] (by decide +kernel) (by decide +kernel)
set_option maxRecDepth 20000 in
theorem gX6_leftAtWorst_X4_dripBy : GoodIn wsX6_leftAtWorst (wsV RX6 162 RX4 yX4_dripBy wsX4_dripBy) := goodIn_app (goodIn_of _ (by decide +kernel)) ggX6_leftAtWorst_X4_dripBy
set_option maxRecDepth 20000 in
theorem ggX6_nearOf_X6_unlikeOf : GoodIn wsX6_nearOf wsX6_unlikeOf := goodIn_r _ [9, 10, 11, 12, 13, 14, 15, 16, 17, 18, 19, 20, 21, 22, 23, 24, 25, 26, 27, 28, 29, 30, 31, 32, 33, 34, 35, 36, 37, 38, 39, 40, 41] (by decide +kernel) (by decide +kernel)
set_option maxRecDepth 20000 in
theorem gX6_nearOf_X6_unlikeOf : GoodIn wsX6_nearOf (wsV RX6 212 RX6 yX6_unlikeOf wsX6_unlikeOf) := goodIn_app (goodIn_of _ (by decide +kernel)) ggX6_nearOf_X6_unlikeOf
set_option maxRecDepth 20000 in
theorem ggX6_unlikeOf_X4_dripBy : GoodIn wsX6_unlikeOf wsX4_dripBy := goodIn_r _ [8, 9, 10, 11, 7, 12, 13, 14, 15, 16, 17, 18, 31, 32] (by decide +kernel) (by decide +kernel)
set_option maxRecDepth 20000 in
theorem gX6_unlikeOf_X4_dripBy : GoodIn wsX6_unlikeOf (wsV RX6 162 RX4 yX4_dripBy wsX4_dripBy) := goodIn_app (goodIn_of _ (by decide +kernel)) ggX6_unlikeOf_X4_dripBy
set_option maxRecDepth 20000 in
theorem ggX6_countOf_X4_beatCount : GoodIn wsX6_countOf wsX4_beatCount := goodIn_r _ [13, 14, 47, 48] (by decide +kernel) (by decide +kernel)
set_option maxRecDepth 20000 in
theorem gX6_countOf_X4_beatCount : GoodIn wsX6_countOf (wsV RX6 225 RX4 yX4_beatCount wsX4_beatCount) := goodIn_app (goodIn_of _ (by decide +kernel)) ggX6_countOf_X4_beatCount
set_option maxRecDepth 20000 in
theorem ggX6_countOf_X3_washerCount : GoodIn wsX6_countOf wsX3_washerCount := goodIn_r _ [19, 20, 21, 22, 23, 24, 18, 25, 26, 39, 40, 41, 42, 43, 49, 50, 51, 52, 53] (by decide +kernel) (by decide +kernel)
set_option maxRecDepth 20000 in
theorem gX6_countOf_X3_washerCount : GoodIn wsX6_countOf (wsV RX6 228 RX3 yX3_washerCount wsX3_washerCount) := goodIn_app (goodIn_of _ (by decide +kernel)) ggX6_countOf_X3_washerCount
set_option maxRecDepth 20000 in
theorem ggX6_countOf_X3_heardCount : GoodIn wsX6_countOf wsX3_heardCount := goodIn_r _ [30, 20, 31, 22, 23, 24, 18, 25, 26, 39, 40, 41, 42, 43, 49, 50, 51, 52, 53] (by decide +kernel) (by decide +kernel)
set_option maxRecDepth 20000 in
theorem gX6_countOf_X3_heardCount : GoodIn wsX6_countOf (wsV RX6 231 RX3 yX3_heardCount wsX3_heardCount) := goodIn_app (goodIn_of _ (by decide +kernel)) ggX6_countOf_X3_heardCount
set_option maxRecDepth 20000 in
theorem ggX6_digestSayings_X4_lengthOf : GoodIn wsX6_digestSayings wsX4_lengthOf := goodIn_r _ [7, 8, 21, 22] (by decide +kernel) (by decide +kernel)
set_option maxRecDepth 20000 in
theorem gX6_digestSayings_X4_lengthOf : GoodIn wsX6_digestSayings (wsV RX6 74 RX4 yX4_lengthOf wsX4_lengthOf) := goodIn_app (goodIn_of _ (by decide +kernel)) ggX6_digestSayings_X4_lengthOf
set_option maxRecDepth 20000 in
theorem ggX6_digestSayings_X4_beatOf : GoodIn wsX6_digestSayings wsX4_beatOf := goodIn_r _ [12, 13, 21, 22] (by decide +kernel) (by decide +kernel)
set_option maxRecDepth 20000 in
theorem gX6_digestSayings_X4_beatOf : GoodIn wsX6_digestSayings (wsV RX6 78 RX4 yX4_beatOf wsX4_beatOf) := goodIn_app (goodIn_of _ (by decide +kernel)) ggX6_digestSayings_X4_beatOf
set_option maxRecDepth 20000 in
theorem ggX6_digestTap_X6_aboutOf : GoodIn wsX6_digestTap wsX6_aboutOf := goodIn_r _ [6, 7, 8, 9, 10, 11, 12, 13, 5, 14, 15, 16, 17, 18, 19, 20, 21, 22, 23, 24, 25, 26, 27, 28, 29, 30, 31, 32, 33, 34, 35, 36, 37, 38, 39, 40, 41, 42, 43, 44, 45, 46, 47, 48, 49, 50, 51, 52, 53, 54, 55, 56, 57, 58, 59, 60, 61, 62, 63, 64, 65, 66, 67, 68, 69, 70, 71, 72, 88, 89, 90, 91, 92, 93, 94, 95, 96, 97, 98, 99, 100, 101, 102, 103, 104, 105, 106, 107, 108, 109, 110] (by decide +kernel) (by decide +kernel)
set_option maxRecDepth 20000 in
theorem gX6_digestTap_X6_aboutOf : GoodIn wsX6_digestTap (wsV RX6 93 RX6 yX6_aboutOf wsX6_aboutOf) := goodIn_app (goodIn_of _ (by decide +kernel)) ggX6_digestTap_X6_aboutOf
set_option maxRecDepth 20000 in
theorem ggX6_digestTap_X6_dripOf : GoodIn wsX6_digestTap wsX6_dripOf := goodIn_r _ [76, 23, 7, 8, 9, 24, 25, 26, 27, 28, 29, 30, 31, 32, 33, 34, 35, 36, 37, 38, 93, 94, 95, 96, 97, 98, 99, 88, 89, 90, 91, 92, 100, 101] (by decide +kernel) (by decide +kernel)
set_option maxRecDepth 20000 in
theorem gX6_digestTap_X6_dripOf : GoodIn wsX6_digestTap (wsV RX6 102 RX6 yX6_dripOf wsX6_dripOf) := goodIn_app (goodIn_of _ (by decide +kernel)) ggX6_digestTap_X6_dripOf
set_option maxRecDepth 20000 in
theorem ggX6_digestTap_X6_nearOf : GoodIn wsX6_digestTap wsX6_nearOf := goodIn_r _ [80, 81, 82, 17, 83, 84, 85, 86, 5, 87, 23, 7, 8, 24, 25, 26, 27, 28, 29, 30, 31, 32, 33, 34, 35, 36, 37, 38, 93, 94, 95, 96, 97, 98, 99, 88, 89, 90, 91, 92, 100, 101] (by decide +kernel) (by decide +kernel)
set_option maxRecDepth 20000 in
theorem gX6_digestTap_X6_nearOf : GoodIn wsX6_digestTap (wsV RX6 117 RX6 yX6_nearOf wsX6_nearOf) := goodIn_app (goodIn_of _ (by decide +kernel)) ggX6_digestTap_X6_nearOf
set_option maxRecDepth 20000 in
theorem ggX7_letter_X7_in : GoodIn wsX7_letter wsX7_in := goodIn_r _ [7] (by decide +kernel) (by decide +kernel)
set_option maxRecDepth 20000 in
theorem gX7_letter_X7_in : GoodIn wsX7_letter (va_wsS RX7 40 yX7_in wsX7_in) := goodIn_app (goodIn_of _ (by decide +kernel)) ggX7_letter_X7_in
set_option maxRecDepth 20000 in
theorem ggX7_goTap_X7_kindBy : GoodIn wsX7_goTap wsX7_kindBy := goodIn_r _ [9] (by decide +kernel) (by decide +kernel)
set_option maxRecDepth 20000 in
theorem gX7_goTap_X7_kindBy : GoodIn wsX7_goTap (va_wsS RX7 56 yX7_kindBy wsX7_kindBy) := goodIn_app (goodIn_of _ (by decide +kernel)) ggX7_goTap_X7_kindBy
set_option maxRecDepth 20000 in
theorem ggX7_goTap_X7_in : GoodIn wsX7_goTap wsX7_in := goodIn_r _ [12] (by decide +kernel) (by decide +kernel)
set_option maxRecDepth 20000 in
theorem gX7_goTap_X7_in : GoodIn wsX7_goTap (va_wsS RX7 40 yX7_in wsX7_in) := goodIn_app (goodIn_of _ (by decide +kernel)) ggX7_goTap_X7_in
set_option maxRecDepth 20000 in
theorem ggX7_faultOf_X7_goSaying : GoodIn wsX7_faultOf wsX7_goSaying := goodIn_r _ [11, 1, 2, 25, 26, 27, 28, 29, 30, 31, 32, 33, 34, 35, 36, 37, 38, 39, 40, 41, 42, 43, 44, 45, 46] (by decide +kernel) (by decide +kernel)
set_option maxRecDepth 20000 in
theorem gX7_faultOf_X7_goSaying : GoodIn wsX7_faultOf (wsV RX7 64 RX7 yX7_goSaying wsX7_goSaying) := goodIn_app (goodIn_of _ (by decide +kernel)) ggX7_faultOf_X7_goSaying
set_option maxRecDepth 20000 in
theorem ggX7_faultOf_X7_goTap : GoodIn wsX7_faultOf wsX7_goTap := goodIn_r _ [15, 4, 16, 3, 17, 18, 19, 20, 10, 21, 22, 23, 24, 25, 26, 27, 28, 29, 30, 31, 32, 33, 34, 35, 36, 37, 38, 39, 40, 41, 42, 43, 44, 45, 46] (by decide +kernel) (by decide +kernel)
set_option maxRecDepth 20000 in
theorem gX7_faultOf_X7_goTap : GoodIn wsX7_faultOf (wsV RX7 68 RX7 yX7_goTap wsX7_goTap) := goodIn_app (goodIn_of _ (by decide +kernel)) ggX7_faultOf_X7_goTap
set_option maxRecDepth 20000 in
theorem ggX7_fault_X7_faultOf : GoodIn wsX7_fault wsX7_faultOf := goodIn_r _ [5, 6, 7, 8, 9, 10, 11, 12, 13, 14, 4, 15, 16, 17, 18, 19, 20, 21, 22, 23, 24, 25, 26, 27, 28, 29, 30, 31, 32, 33, 34, 35, 36, 37, 38, 39, 40, 41, 42, 43, 44, 45, 46, 47, 48, 49, 50] (by decide +kernel) (by decide +kernel)
set_option maxRecDepth 20000 in
theorem gX7_fault_X7_faultOf : GoodIn wsX7_fault (wsV RX7 71 RX7 yX7_faultOf wsX7_faultOf) := goodIn_app (goodIn_of _ (by decide +kernel)) ggX7_fault_X7_faultOf
set_option maxRecDepth 20000 in
theorem ggX7_house_X7_faultOf : GoodIn wsX7_house wsX7_faultOf := goodIn_r _ [17, 2, 6, 4, 3, 1, 18, 19, 20, 21, 16, 22, 23, 24, 25, 26, 9, 27, 28, 29, 30, 31, 32, 33, 34, 38, 39, 40, 41, 42, 43, 44, 45, 46, 47, 48, 49, 50, 51, 52, 53, 54, 55, 56, 57, 58, 59] (by decide +kernel) (by decide +kernel)
set_option maxRecDepth 20000 in
theorem gX7_house_X7_faultOf : GoodIn wsX7_house (wsV RX7 71 RX7 yX7_faultOf wsX7_faultOf) := goodIn_app (goodIn_of _ (by decide +kernel)) ggX7_house_X7_faultOf
set_option maxRecDepth 20000 in
theorem ggX7_house_X7_copy : GoodIn wsX7_house wsX7_copy := goodIn_r _ [37] (by decide +kernel) (by decide +kernel)
set_option maxRecDepth 20000 in
theorem gX7_house_X7_copy : GoodIn wsX7_house (va_wsS RX7 78 yX7_copy wsX7_copy) := goodIn_app (goodIn_of _ (by decide +kernel)) ggX7_house_X7_copy
set_option maxRecDepth 20000 in
theorem ggX7_isTap_X7_in : GoodIn wsX7_isTap wsX7_in := goodIn_r _ [5] (by decide +kernel) (by decide +kernel)
set_option maxRecDepth 20000 in
theorem gX7_isTap_X7_in : GoodIn wsX7_isTap (va_wsS RX7 40 yX7_in wsX7_in) := goodIn_app (goodIn_of _ (by decide +kernel)) ggX7_isTap_X7_in
set_option maxRecDepth 20000 in
theorem ggX7_isSaying_X7_in : GoodIn wsX7_isSaying wsX7_in := goodIn_r _ [5] (by decide +kernel) (by decide +kernel)
set_option maxRecDepth 20000 in
theorem gX7_isSaying_X7_in : GoodIn wsX7_isSaying (va_wsS RX7 40 yX7_in wsX7_in) := goodIn_app (goodIn_of _ (by decide +kernel)) ggX7_isSaying_X7_in
set_option maxRecDepth 20000 in
theorem ggX7_tellSaying_X7_in : GoodIn wsX7_tellSaying wsX7_in := goodIn_r _ [7] (by decide +kernel) (by decide +kernel)
set_option maxRecDepth 20000 in
theorem gX7_tellSaying_X7_in : GoodIn wsX7_tellSaying (va_wsS RX7 40 yX7_in wsX7_in) := goodIn_app (goodIn_of _ (by decide +kernel)) ggX7_tellSaying_X7_in
set_option maxRecDepth 20000 in
theorem ggX7_saying_X7_lacks : GoodIn wsX7_saying wsX7_lacks := goodIn_r _ [5, 6, 21, 22, 23, 24, 25, 26, 27, 28, 29, 30, 31, 32, 33, 34, 35, 36, 37, 38, 39, 40, 41, 42] (by decide +kernel) (by decide +kernel)
set_option maxRecDepth 20000 in
theorem gX7_saying_X7_lacks : GoodIn wsX7_saying (wsV RX7 97 RX7 yX7_lacks wsX7_lacks) := goodIn_app (goodIn_of _ (by decide +kernel)) ggX7_saying_X7_lacks
set_option maxRecDepth 20000 in
theorem ggX7_saying_X7_isSaying : GoodIn wsX7_saying wsX7_isSaying := goodIn_r _ [9, 10, 11, 12, 4, 13] (by decide +kernel) (by decide +kernel)
set_option maxRecDepth 20000 in
theorem gX7_saying_X7_isSaying : GoodIn wsX7_saying (va_wsS RX7 101 yX7_isSaying wsX7_isSaying) := goodIn_app (goodIn_of _ (by decide +kernel)) ggX7_saying_X7_isSaying
set_option maxRecDepth 20000 in
theorem ggX7_saying_X7_tellSaying : GoodIn wsX7_saying wsX7_tellSaying := goodIn_r _ [17, 18, 19, 20, 11, 12, 4, 13, 21, 22, 23, 24, 25, 26, 27, 28, 29, 30, 31, 32, 33, 34, 35, 36, 37, 38, 39, 40, 41, 42] (by decide +kernel) (by decide +kernel)
set_option maxRecDepth 20000 in
theorem gX7_saying_X7_tellSaying : GoodIn wsX7_saying (wsV RX7 104 RX7 yX7_tellSaying wsX7_tellSaying) := goodIn_app (goodIn_of _ (by decide +kernel)) ggX7_saying_X7_tellSaying
set_option maxRecDepth 20000 in
theorem ggX7_dripAs_X7_dripBy : GoodIn wsX7_dripAs wsX7_dripBy := goodIn_r _ [6, 7, 8, 9, 10, 11, 12, 13, 14, 15, 16, 17, 18, 19, 20, 21, 22, 23, 24, 25, 26, 27, 28, 29] (by decide +kernel) (by decide +kernel)
set_option maxRecDepth 20000 in
theorem gX7_dripAs_X7_dripBy : GoodIn wsX7_dripAs (wsV RX7 108 RX7 yX7_dripBy wsX7_dripBy) := goodIn_app (goodIn_of _ (by decide +kernel)) ggX7_dripAs_X7_dripBy
set_option maxRecDepth 20000 in
theorem ggX7_dripOf_X7_dripAs : GoodIn wsX7_dripOf wsX7_dripAs := goodIn_r _ [6, 1, 7, 8, 9, 5, 10, 11, 12, 13, 14, 15, 16, 17, 18, 19, 20, 21, 22, 23, 24, 25, 26, 27, 28, 29, 30, 31, 32, 33] (by decide +kernel) (by decide +kernel)
set_option maxRecDepth 20000 in
theorem gX7_dripOf_X7_dripAs : GoodIn wsX7_dripOf (wsV RX7 112 RX7 yX7_dripAs wsX7_dripAs) := goodIn_app (goodIn_of _ (by decide +kernel)) ggX7_dripOf_X7_dripAs
set_option maxRecDepth 20000 in
theorem ggX7_tap_X7_in : GoodIn wsX7_tap wsX7_in := goodIn_r _ [7] (by decide +kernel) (by decide +kernel)
set_option maxRecDepth 20000 in
theorem gX7_tap_X7_in : GoodIn wsX7_tap (va_wsS RX7 40 yX7_in wsX7_in) := goodIn_app (goodIn_of _ (by decide +kernel)) ggX7_tap_X7_in
set_option maxRecDepth 20000 in
theorem ggX7_tap_X7_isSaying : GoodIn wsX7_tap wsX7_isSaying := goodIn_r _ [10, 11, 4, 5, 6, 7] (by decide +kernel) (by decide +kernel)
set_option maxRecDepth 20000 in
theorem gX7_tap_X7_isSaying : GoodIn wsX7_tap (va_wsS RX7 101 yX7_isSaying wsX7_isSaying) := goodIn_app (goodIn_of _ (by decide +kernel)) ggX7_tap_X7_isSaying
set_option maxRecDepth 20000 in
theorem ggX7_tap_X7_lacks : GoodIn wsX7_tap wsX7_lacks := goodIn_r _ [15, 2, 16, 17, 18, 19, 20, 21, 22, 23, 24, 25, 26, 27, 28, 29, 30, 31, 32, 33, 34, 35, 36, 37] (by decide +kernel) (by decide +kernel)
set_option maxRecDepth 20000 in
theorem gX7_tap_X7_lacks : GoodIn wsX7_tap (wsV RX7 97 RX7 yX7_lacks wsX7_lacks) := goodIn_app (goodIn_of _ (by decide +kernel)) ggX7_tap_X7_lacks
set_option maxRecDepth 20000 in
theorem ggX7_patternOf_X7_dripAs : GoodIn wsX7_patternOf wsX7_dripAs := goodIn_r _ [6, 1, 7, 8, 9, 5, 10, 11, 12, 13, 14, 15, 16, 17, 18, 19, 20, 21, 22, 23, 24, 25, 26, 27, 28, 29, 30, 31, 32, 33] (by decide +kernel) (by decide +kernel)
set_option maxRecDepth 20000 in
theorem gX7_patternOf_X7_dripAs : GoodIn wsX7_patternOf (wsV RX7 112 RX7 yX7_dripAs wsX7_dripAs) := goodIn_app (goodIn_of _ (by decide +kernel)) ggX7_patternOf_X7_dripAs
set_option maxRecDepth 20000 in
theorem ggX7_sureOf_X7_patternOf : GoodIn wsX7_sureOf wsX7_patternOf := goodIn_r _ [5, 6, 7, 8, 9, 4, 10, 11, 12, 13, 14, 15, 16, 17, 18, 19, 20, 21, 22, 23, 24, 25, 26, 27, 28, 29, 30, 31, 32, 33, 34, 35, 36, 37] (by decide +kernel) (by decide +kernel)
set_option maxRecDepth 20000 in
theorem gX7_sureOf_X7_patternOf : GoodIn wsX7_sureOf (wsV RX7 118 RX7 yX7_patternOf wsX7_patternOf) := goodIn_app (goodIn_of _ (by decide +kernel)) ggX7_sureOf_X7_patternOf
set_option maxRecDepth 20000 in
theorem ggX7_tell_X7_sureOf : GoodIn wsX7_tell wsX7_sureOf := goodIn_r _ [6, 7, 8, 9, 5, 10, 1, 11, 12, 13, 14, 15, 16, 17, 18, 19, 38, 39, 40, 41, 42, 43, 44, 45, 46, 47, 48, 49, 50, 51, 52, 53, 54, 55, 56, 57, 58, 59] (by decide +kernel) (by decide +kernel)
set_option maxRecDepth 20000 in
theorem gX7_tell_X7_sureOf : GoodIn wsX7_tell (wsV RX7 121 RX7 yX7_sureOf wsX7_sureOf) := goodIn_app (goodIn_of _ (by decide +kernel)) ggX7_tell_X7_sureOf
set_option maxRecDepth 20000 in
theorem ggX7_tell_X7_saysOf : GoodIn wsX7_tell wsX7_saysOf := goodIn_r _ [23, 24, 25, 26, 5, 27, 28, 1, 29, 15, 16, 17, 18, 19, 38, 39, 40, 41, 42, 43, 44, 45, 46, 47, 48, 49, 50, 51, 52, 53, 54, 55, 56, 57, 58, 59] (by decide +kernel) (by decide +kernel)
set_option maxRecDepth 20000 in
theorem gX7_tell_X7_saysOf : GoodIn wsX7_tell (wsV RX7 124 RX7 yX7_saysOf wsX7_saysOf) := goodIn_app (goodIn_of _ (by decide +kernel)) ggX7_tell_X7_saysOf
set_option maxRecDepth 20000 in
theorem ggX7_tell_X7_likelyOf : GoodIn wsX7_tell wsX7_likelyOf := goodIn_r _ [33, 24, 25, 26, 5, 27, 28, 1, 29, 15, 16, 17, 18, 19, 38, 39, 40, 41, 42, 43, 44, 45, 46, 47, 48, 49, 50, 51, 52, 53, 54, 55, 56, 57, 58, 59] (by decide +kernel) (by decide +kernel)
set_option maxRecDepth 20000 in
theorem gX7_tell_X7_likelyOf : GoodIn wsX7_tell (wsV RX7 127 RX7 yX7_likelyOf wsX7_likelyOf) := goodIn_app (goodIn_of _ (by decide +kernel)) ggX7_tell_X7_likelyOf
set_option maxRecDepth 20000 in
theorem ggX7_tell_X7_slipsBy : GoodIn wsX7_tell wsX7_slipsBy := goodIn_r _ [27, 28, 1, 29, 15, 16, 17, 5, 18, 19, 38, 39, 40, 41, 42, 43, 44, 45, 46, 47, 48, 49, 50, 51, 52, 53, 54, 55, 56, 57, 58, 59] (by decide +kernel) (by decide +kernel)
set_option maxRecDepth 20000 in
theorem gX7_tell_X7_slipsBy : GoodIn wsX7_tell (wsV RX7 130 RX7 yX7_slipsBy wsX7_slipsBy) := goodIn_app (goodIn_of _ (by decide +kernel)) ggX7_tell_X7_slipsBy
set_option maxRecDepth 20000 in
theorem ggX7_tell_X7_listenOf : GoodIn wsX7_tell wsX7_listenOf := goodIn_r _ [37, 1, 20, 21, 22, 5, 23, 24, 25, 26, 27, 28, 29, 15, 16, 17, 18, 19, 11, 12, 13, 14, 38, 39, 40, 41, 42, 43, 44, 45, 46, 47, 48, 49, 50, 51, 52, 53, 54, 55, 56, 57, 58, 59] (by decide +kernel) (by decide +kernel)
set_option maxRecDepth 20000 in
theorem gX7_tell_X7_listenOf : GoodIn wsX7_tell (wsV RX7 133 RX7 yX7_listenOf wsX7_listenOf) := goodIn_app (goodIn_of _ (by decide +kernel)) ggX7_tell_X7_listenOf
set_option maxRecDepth 20000 in
theorem ggX7_about_X7_isTap : GoodIn wsX7_about wsX7_isTap := goodIn_r _ [5, 6, 7, 8, 4, 9, 50, 51, 52, 53, 54, 55, 56, 57, 58, 59, 60, 61, 62, 63, 64, 65, 66, 67, 68, 69, 70, 71] (by decide +kernel) (by decide +kernel)
set_option maxRecDepth 20000 in
theorem gX7_about_X7_isTap : GoodIn wsX7_about (wsV RX7 136 RX7 yX7_isTap wsX7_isTap) := goodIn_app (goodIn_of _ (by decide +kernel)) ggX7_about_X7_isTap
set_option maxRecDepth 20000 in
theorem ggX7_about_X7_tell : GoodIn wsX7_about wsX7_tell := goodIn_r _ [13, 14, 15, 16, 17, 4, 18, 19, 20, 21, 22, 23, 24, 25, 26, 27, 28, 29, 30, 31, 32, 33, 34, 35, 36, 37, 38, 39, 40, 41, 42, 43, 44, 45, 46, 47, 48, 49, 50, 51, 52, 53, 54, 55, 56, 57, 58, 59, 60, 61, 62, 63, 64, 65, 66, 67, 68, 69, 70, 71] (by decide +kernel) (by decide +kernel)
set_option maxRecDepth 20000 in
theorem gX7_about_X7_tell : GoodIn wsX7_about (wsV RX7 139 RX7 yX7_tell wsX7_tell) := goodIn_app (goodIn_of _ (by decide +kernel)) ggX7_about_X7_tell
set_option maxRecDepth 20000 in
theorem ggX7_as_X7_isTap : GoodIn wsX7_as wsX7_isTap := goodIn_r _ [7, 8, 9, 10, 6, 11, 12, 13, 14, 15, 16, 17, 18, 19, 20, 21, 22, 23, 24, 25, 26, 27, 28, 29, 30, 31, 32, 33] (by decide +kernel) (by decide +kernel)
set_option maxRecDepth 20000 in
theorem gX7_as_X7_isTap : GoodIn wsX7_as (wsV RX7 136 RX7 yX7_isTap wsX7_isTap) := goodIn_app (goodIn_of _ (by decide +kernel)) ggX7_as_X7_isTap
set_option maxRecDepth 20000 in
theorem ggX7_as_X7_in : GoodIn wsX7_as wsX7_in := goodIn_r _ [11] (by decide +kernel) (by decide +kernel)
set_option maxRecDepth 20000 in
theorem gX7_as_X7_in : GoodIn wsX7_as (va_wsS RX7 40 yX7_in wsX7_in) := goodIn_app (goodIn_of _ (by decide +kernel)) ggX7_as_X7_in
set_option maxRecDepth 20000 in
theorem ggX7_drip_X7_isTap : GoodIn wsX7_drip wsX7_isTap := goodIn_r _ [6, 7, 8, 9, 5, 10, 25, 26, 27, 28, 29, 30, 31, 32, 33, 34, 35, 36, 37, 38, 39, 40, 41, 42, 43, 44, 45, 46] (by decide +kernel) (by decide +kernel)
set_option maxRecDepth 20000 in
theorem gX7_drip_X7_isTap : GoodIn wsX7_drip (wsV RX7 136 RX7 yX7_isTap wsX7_isTap) := goodIn_app (goodIn_of _ (by decide +kernel)) ggX7_drip_X7_isTap
set_option maxRecDepth 20000 in
theorem ggX7_drip_X7_in : GoodIn wsX7_drip wsX7_in := goodIn_r _ [10] (by decide +kernel) (by decide +kernel)
set_option maxRecDepth 20000 in
theorem gX7_drip_X7_in : GoodIn wsX7_drip (va_wsS RX7 40 yX7_in wsX7_in) := goodIn_app (goodIn_of _ (by decide +kernel)) ggX7_drip_X7_in
set_option maxRecDepth 20000 in
theorem ggX7_drip_X7_dripOf : GoodIn wsX7_drip wsX7_dripOf := goodIn_r _ [14, 15, 16, 17, 18, 5, 19, 20, 21, 22, 23, 24, 25, 26, 27, 28, 29, 30, 31, 32, 33, 34, 35, 36, 37, 38, 39, 40, 41, 42, 43, 44, 45, 46] (by decide +kernel) (by decide +kernel)
set_option maxRecDepth 20000 in
theorem gX7_drip_X7_dripOf : GoodIn wsX7_drip (wsV RX7 144 RX7 yX7_dripOf wsX7_dripOf) := goodIn_app (goodIn_of _ (by decide +kernel)) ggX7_drip_X7_dripOf
set_option maxRecDepth 20000 in
theorem ggX7_listen_X7_isTap : GoodIn wsX7_listen wsX7_isTap := goodIn_r _ [7, 8, 9, 10, 6, 11, 25, 26, 27, 28, 29, 30, 31, 32, 33, 34, 35, 36, 37, 38, 39, 40, 41, 42, 43, 44, 45, 46] (by decide +kernel) (by decide +kernel)
set_option maxRecDepth 20000 in
theorem gX7_listen_X7_isTap : GoodIn wsX7_listen (wsV RX7 136 RX7 yX7_isTap wsX7_isTap) := goodIn_app (goodIn_of _ (by decide +kernel)) ggX7_listen_X7_isTap
set_option maxRecDepth 20000 in
theorem ggX7_listen_X7_dripOf : GoodIn wsX7_listen wsX7_dripOf := goodIn_r _ [15, 1, 16, 17, 18, 6, 19, 20, 21, 22, 23, 24, 25, 26, 27, 28, 29, 30, 31, 32, 33, 34, 35, 36, 37, 38, 39, 40, 41, 42, 43, 44, 45, 46] (by decide +kernel) (by decide +kernel)
set_option maxRecDepth 20000 in
theorem gX7_listen_X7_dripOf : GoodIn wsX7_listen (wsV RX7 144 RX7 yX7_dripOf wsX7_dripOf) := goodIn_app (goodIn_of _ (by decide +kernel)) ggX7_listen_X7_dripOf
set_option maxRecDepth 20000 in
theorem ggX7_washer_X7_isTap : GoodIn wsX7_washer wsX7_isTap := goodIn_r _ [7, 8, 9, 10, 6, 11, 12, 13, 14, 15, 16, 17, 18, 19, 20, 21, 22, 23, 24, 25, 26, 27, 28, 29, 30, 31, 32, 33] (by decide +kernel) (by decide +kernel)
set_option maxRecDepth 20000 in
theorem gX7_washer_X7_isTap : GoodIn wsX7_washer (wsV RX7 136 RX7 yX7_isTap wsX7_isTap) := goodIn_app (goodIn_of _ (by decide +kernel)) ggX7_washer_X7_isTap
set_option maxRecDepth 20000 in
theorem ggX7_teach_X7_isTap : GoodIn wsX7_teach wsX7_isTap := goodIn_r _ [7, 8, 9, 10, 6, 11, 16, 17, 18, 19, 20, 21, 22, 23, 24, 25, 26, 27, 28, 29, 30, 31, 32, 33, 34, 35, 36, 37] (by decide +kernel) (by decide +kernel)
set_option maxRecDepth 20000 in
theorem gX7_teach_X7_isTap : GoodIn wsX7_teach (wsV RX7 136 RX7 yX7_isTap wsX7_isTap) := goodIn_app (goodIn_of _ (by decide +kernel)) ggX7_teach_X7_isTap
set_option maxRecDepth 20000 in
theorem ggX7_teach_X7_isSaying : GoodIn wsX7_teach wsX7_isSaying := goodIn_r _ [14, 15, 9, 10, 6, 11] (by decide +kernel) (by decide +kernel)
set_option maxRecDepth 20000 in
theorem gX7_teach_X7_isSaying : GoodIn wsX7_teach (va_wsS RX7 101 yX7_isSaying wsX7_isSaying) := goodIn_app (goodIn_of _ (by decide +kernel)) ggX7_teach_X7_isSaying
set_option maxRecDepth 20000 in
theorem ggX7_agreeOf_X7_dripOf : GoodIn wsX7_agreeOf wsX7_dripOf := goodIn_r _ [6, 1, 7, 8, 9, 5, 10, 11, 12, 13, 14, 15, 16, 17, 18, 19, 20, 21, 22, 23, 24, 25, 26, 27, 28, 29, 30, 31, 32, 33, 34, 35, 36, 37] (by decide +kernel) (by decide +kernel)
set_option maxRecDepth 20000 in
theorem gX7_agreeOf_X7_dripOf : GoodIn wsX7_agreeOf (wsV RX7 144 RX7 yX7_dripOf wsX7_dripOf) := goodIn_app (goodIn_of _ (by decide +kernel)) ggX7_agreeOf_X7_dripOf
set_option maxRecDepth 20000 in
theorem ggX7_agree_X7_isTap : GoodIn wsX7_agree wsX7_isTap := goodIn_r _ [5, 6, 7, 8, 4, 9, 28, 29, 30, 31, 32, 33, 34, 35, 36, 37, 38, 39, 40, 41, 42, 43, 44, 45, 46, 47, 48, 49] (by decide +kernel) (by decide +kernel)
set_option maxRecDepth 20000 in
theorem gX7_agree_X7_isTap : GoodIn wsX7_agree (wsV RX7 136 RX7 yX7_isTap wsX7_isTap) := goodIn_app (goodIn_of _ (by decide +kernel)) ggX7_agree_X7_isTap
set_option maxRecDepth 20000 in
theorem ggX7_agree_X7_agreeOf : GoodIn wsX7_agree wsX7_agreeOf := goodIn_r _ [13, 14, 15, 16, 17, 4, 18, 19, 20, 21, 22, 23, 24, 25, 26, 27, 28, 29, 30, 31, 32, 33, 34, 35, 36, 37, 38, 39, 40, 41, 42, 43, 44, 45, 46, 47, 48, 49] (by decide +kernel) (by decide +kernel)
set_option maxRecDepth 20000 in
theorem gX7_agree_X7_agreeOf : GoodIn wsX7_agree (wsV RX7 147 RX7 yX7_agreeOf wsX7_agreeOf) := goodIn_app (goodIn_of _ (by decide +kernel)) ggX7_agree_X7_agreeOf
set_option maxRecDepth 20000 in
theorem ggX7_unlikeBy_X7_dripBy : GoodIn wsX7_unlikeBy wsX7_dripBy := goodIn_r _ [6, 7, 8, 9, 10, 11, 12, 13, 14, 15, 16, 17, 18, 19, 20, 21, 22, 23, 24, 25, 26, 27, 28, 29] (by decide +kernel) (by decide +kernel)
set_option maxRecDepth 20000 in
theorem gX7_unlikeBy_X7_dripBy : GoodIn wsX7_unlikeBy (wsV RX7 108 RX7 yX7_dripBy wsX7_dripBy) := goodIn_app (goodIn_of _ (by decide +kernel)) ggX7_unlikeBy_X7_dripBy
set_option maxRecDepth 20000 in
theorem ggX7_nearOf_X7_unlikeBy : GoodIn wsX7_nearOf wsX7_unlikeBy := goodIn_r _ [5, 6, 7, 8, 9, 4, 10, 11, 12, 13, 14, 15, 16, 17, 18, 19, 20, 21, 22, 23, 24, 25, 26, 27, 28, 29, 30, 31, 32, 33] (by decide +kernel) (by decide +kernel)
set_option maxRecDepth 20000 in
theorem gX7_nearOf_X7_unlikeBy : GoodIn wsX7_nearOf (wsV RX7 150 RX7 yX7_unlikeBy wsX7_unlikeBy) := goodIn_app (goodIn_of _ (by decide +kernel)) ggX7_nearOf_X7_unlikeBy
set_option maxRecDepth 20000 in
theorem ggX7_near_X7_isTap : GoodIn wsX7_near wsX7_isTap := goodIn_r _ [5, 6, 7, 8, 4, 9, 28, 29, 30, 31, 32, 33, 34, 35, 36, 37, 38, 39, 40, 41, 42, 43, 44, 45, 46, 47, 48, 49] (by decide +kernel) (by decide +kernel)
set_option maxRecDepth 20000 in
theorem gX7_near_X7_isTap : GoodIn wsX7_near (wsV RX7 136 RX7 yX7_isTap wsX7_isTap) := goodIn_app (goodIn_of _ (by decide +kernel)) ggX7_near_X7_isTap
set_option maxRecDepth 20000 in
theorem ggX7_near_X7_isSaying : GoodIn wsX7_near wsX7_isSaying := goodIn_r _ [12, 13, 7, 8, 4, 9] (by decide +kernel) (by decide +kernel)
set_option maxRecDepth 20000 in
theorem gX7_near_X7_isSaying : GoodIn wsX7_near (va_wsS RX7 101 yX7_isSaying wsX7_isSaying) := goodIn_app (goodIn_of _ (by decide +kernel)) ggX7_near_X7_isSaying
set_option maxRecDepth 20000 in
theorem ggX7_near_X7_in : GoodIn wsX7_near wsX7_in := goodIn_r _ [9] (by decide +kernel) (by decide +kernel)
set_option maxRecDepth 20000 in
theorem gX7_near_X7_in : GoodIn wsX7_near (va_wsS RX7 40 yX7_in wsX7_in) := goodIn_app (goodIn_of _ (by decide +kernel)) ggX7_near_X7_in
set_option maxRecDepth 20000 in
theorem ggX7_near_X7_nearOf : GoodIn wsX7_near wsX7_nearOf := goodIn_r _ [17, 18, 19, 20, 4, 21, 22, 23, 24, 25, 26, 27, 28, 29, 30, 31, 32, 33, 34, 35, 36, 37, 38, 39, 40, 41, 42, 43, 44, 45, 46, 47, 48, 49] (by decide +kernel) (by decide +kernel)
set_option maxRecDepth 20000 in
theorem gX7_near_X7_nearOf : GoodIn wsX7_near (wsV RX7 153 RX7 yX7_nearOf wsX7_nearOf) := goodIn_app (goodIn_of _ (by decide +kernel)) ggX7_near_X7_nearOf
set_option maxRecDepth 20000 in
theorem ggX7_put_X7_isTap : GoodIn wsX7_put wsX7_isTap := goodIn_r _ [9, 10, 11, 12, 8, 13, 14, 15, 16, 17, 18, 19, 20, 21, 22, 23, 24, 25, 26, 27, 28, 29, 30, 31, 32, 33, 34, 35] (by decide +kernel) (by decide +kernel)
set_option maxRecDepth 20000 in
theorem gX7_put_X7_isTap : GoodIn wsX7_put (wsV RX7 136 RX7 yX7_isTap wsX7_isTap) := goodIn_app (goodIn_of _ (by decide +kernel)) ggX7_put_X7_isTap
set_option maxRecDepth 20000 in
theorem ggX7_put_X7_in : GoodIn wsX7_put wsX7_in := goodIn_r _ [13] (by decide +kernel) (by decide +kernel)
set_option maxRecDepth 20000 in
theorem gX7_put_X7_in : GoodIn wsX7_put (va_wsS RX7 40 yX7_in wsX7_in) := goodIn_app (goodIn_of _ (by decide +kernel)) ggX7_put_X7_in
set_option maxRecDepth 20000 in
theorem ggX7_slipsBy_X7_dripBy : GoodIn wsX7_slipsBy wsX7_dripBy := goodIn_r _ [8, 9, 10, 11, 12, 13, 14, 15, 16, 17, 18, 19, 20, 21, 22, 23, 24, 25, 26, 27, 28, 29, 30, 31] (by decide +kernel) (by decide +kernel)
set_option maxRecDepth 20000 in
theorem gX7_slipsBy_X7_dripBy : GoodIn wsX7_slipsBy (wsV RX7 108 RX7 yX7_dripBy wsX7_dripBy) := goodIn_app (goodIn_of _ (by decide +kernel)) ggX7_slipsBy_X7_dripBy
set_option maxRecDepth 20000 in
theorem ggX7_saysOf_X7_slipsBy : GoodIn wsX7_saysOf wsX7_slipsBy := goodIn_r _ [5, 6, 7, 8, 9, 10, 11, 4, 12, 13, 14, 15, 16, 17, 18, 19, 20, 21, 22, 23, 24, 25, 26, 27, 28, 29, 30, 31, 32, 33, 34, 35] (by decide +kernel) (by decide +kernel)
set_option maxRecDepth 20000 in
theorem gX7_saysOf_X7_slipsBy : GoodIn wsX7_saysOf (wsV RX7 130 RX7 yX7_slipsBy wsX7_slipsBy) := goodIn_app (goodIn_of _ (by decide +kernel)) ggX7_saysOf_X7_slipsBy
set_option maxRecDepth 20000 in
theorem ggX7_likelyOf_X7_slipsBy : GoodIn wsX7_likelyOf wsX7_slipsBy := goodIn_r _ [5, 6, 7, 8, 9, 10, 11, 4, 12, 13, 14, 15, 16, 17, 18, 19, 20, 21, 22, 23, 24, 25, 26, 27, 28, 29, 30, 31, 32, 33, 34, 35] (by decide +kernel) (by decide +kernel)
set_option maxRecDepth 20000 in
theorem gX7_likelyOf_X7_slipsBy : GoodIn wsX7_likelyOf (wsV RX7 130 RX7 yX7_slipsBy wsX7_slipsBy) := goodIn_app (goodIn_of _ (by decide +kernel)) ggX7_likelyOf_X7_slipsBy
set_option maxRecDepth 20000 in
theorem ggX7_listenOf_X7_saysOf : GoodIn wsX7_listenOf wsX7_saysOf := goodIn_r _ [6, 7, 8, 9, 5, 10, 11, 1, 12, 13, 14, 15, 16, 17, 22, 23, 24, 25, 26, 27, 28, 29, 30, 31, 32, 33, 34, 35, 36, 37, 38, 39, 40, 41, 42, 43] (by decide +kernel) (by decide +kernel)
set_option maxRecDepth 20000 in
theorem gX7_listenOf_X7_saysOf : GoodIn wsX7_listenOf (wsV RX7 124 RX7 yX7_saysOf wsX7_saysOf) := goodIn_app (goodIn_of _ (by decide +kernel)) ggX7_listenOf_X7_saysOf
set_option maxRecDepth 20000 in
theorem ggX7_listenOf_X7_dripAs : GoodIn wsX7_listenOf wsX7_dripAs := goodIn_r _ [21, 1, 13, 14, 15, 5, 16, 17, 22, 23, 24, 25, 26, 27, 28, 29, 30, 31, 32, 33, 34, 35, 36, 37, 38, 39, 40, 41, 42, 43] (by decide +kernel) (by decide +kernel)
set_option maxRecDepth 20000 in
theorem gX7_listenOf_X7_dripAs : GoodIn wsX7_listenOf (wsV RX7 112 RX7 yX7_dripAs wsX7_dripAs) := goodIn_app (goodIn_of _ (by decide +kernel)) ggX7_listenOf_X7_dripAs
set_option maxRecDepth 20000 in
theorem ggX7_nights_X7_in : GoodIn wsX7_nights wsX7_in := goodIn_r _ [9] (by decide +kernel) (by decide +kernel)
set_option maxRecDepth 20000 in
theorem gX7_nights_X7_in : GoodIn wsX7_nights (va_wsS RX7 40 yX7_in wsX7_in) := goodIn_app (goodIn_of _ (by decide +kernel)) ggX7_nights_X7_in
set_option maxRecDepth 20000 in
theorem ggX7_nights_X7_lacks : GoodIn wsX7_nights wsX7_lacks := goodIn_r _ [13, 4, 35, 36, 37, 38, 39, 40, 41, 42, 43, 44, 45, 46, 47, 48, 49, 50, 51, 52, 53, 54, 55, 56] (by decide +kernel) (by decide +kernel)
set_option maxRecDepth 20000 in
theorem gX7_nights_X7_lacks : GoodIn wsX7_nights (wsV RX7 97 RX7 yX7_lacks wsX7_lacks) := goodIn_app (goodIn_of _ (by decide +kernel)) ggX7_nights_X7_lacks
set_option maxRecDepth 20000 in
theorem ggX7_nights_X7_dripOf : GoodIn wsX7_nights wsX7_dripOf := goodIn_r _ [17, 5, 18, 19, 20, 8, 21, 22, 23, 24, 25, 26, 35, 36, 37, 38, 39, 40, 41, 42, 43, 44, 45, 46, 47, 48, 49, 50, 51, 52, 53, 54, 55, 56] (by decide +kernel) (by decide +kernel)
set_option maxRecDepth 20000 in
theorem gX7_nights_X7_dripOf : GoodIn wsX7_nights (wsV RX7 144 RX7 yX7_dripOf wsX7_dripOf) := goodIn_app (goodIn_of _ (by decide +kernel)) ggX7_nights_X7_dripOf
set_option maxRecDepth 20000 in
theorem ggX7_nights_X7_draw : GoodIn wsX7_nights wsX7_draw := goodIn_r _ [30, 31, 3, 32, 33, 34, 35, 36, 37, 38, 39, 40, 41, 42, 43, 44, 45, 46, 47, 48, 49, 50, 51, 52, 53, 54, 55, 56] (by decide +kernel) (by decide +kernel)
set_option maxRecDepth 20000 in
theorem gX7_nights_X7_draw : GoodIn wsX7_nights (wsV RX7 172 RX7 yX7_draw wsX7_draw) := goodIn_app (goodIn_of _ (by decide +kernel)) ggX7_nights_X7_draw
set_option maxRecDepth 20000 in
theorem ggX7_image_X7_lacks : GoodIn wsX7_image wsX7_lacks := goodIn_r _ [17, 5, 21, 22, 23, 24, 25, 26, 27, 28, 29, 30, 31, 32, 33, 34, 35, 36, 37, 38, 39, 40, 41, 42] (by decide +kernel) (by decide +kernel)
set_option maxRecDepth 20000 in
theorem gX7_image_X7_lacks : GoodIn wsX7_image (wsV RX7 97 RX7 yX7_lacks wsX7_lacks) := goodIn_app (goodIn_of _ (by decide +kernel)) ggX7_image_X7_lacks
set_option maxRecDepth 20000 in
theorem ggX7_image_X7_copy : GoodIn wsX7_image wsX7_copy := goodIn_r _ [20] (by decide +kernel) (by decide +kernel)
set_option maxRecDepth 20000 in
theorem gX7_image_X7_copy : GoodIn wsX7_image (va_wsS RX7 78 yX7_copy wsX7_copy) := goodIn_app (goodIn_of _ (by decide +kernel)) ggX7_image_X7_copy
set_option maxRecDepth 20000 in
theorem ggX7_restore_X7_copy : GoodIn wsX7_restore wsX7_copy := goodIn_r _ [16] (by decide +kernel) (by decide +kernel)
set_option maxRecDepth 20000 in
theorem gX7_restore_X7_copy : GoodIn wsX7_restore (va_wsS RX7 78 yX7_copy wsX7_copy) := goodIn_app (goodIn_of _ (by decide +kernel)) ggX7_restore_X7_copy
set_option maxRecDepth 20000 in
theorem ggX7_beatsAll_X7_lacks : GoodIn wsX7_beatsAll wsX7_lacks := goodIn_r _ [6, 7, 8, 9, 10, 11, 12, 13, 14, 15, 16, 17, 18, 19, 20, 21, 22, 23, 24, 25, 26, 27, 28, 29] (by decide +kernel) (by decide +kernel)
set_option maxRecDepth 20000 in
theorem gX7_beatsAll_X7_lacks : GoodIn wsX7_beatsAll (wsV RX7 97 RX7 yX7_lacks wsX7_lacks) := goodIn_app (goodIn_of _ (by decide +kernel)) ggX7_beatsAll_X7_lacks
set_option maxRecDepth 20000 in
theorem ggX7_countOf_X7_beatsAll : GoodIn wsX7_countOf wsX7_beatsAll := goodIn_r _ [10, 11, 12, 13, 14, 9, 15, 1, 21, 22, 23, 24, 25, 26, 27, 28, 29, 30, 31, 32, 33, 34, 35, 36, 37, 38, 39, 40, 41, 42] (by decide +kernel) (by decide +kernel)
set_option maxRecDepth 20000 in
theorem gX7_countOf_X7_beatsAll : GoodIn wsX7_countOf (wsV RX7 184 RX7 yX7_beatsAll wsX7_beatsAll) := goodIn_app (goodIn_of _ (by decide +kernel)) ggX7_countOf_X7_beatsAll
set_option maxRecDepth 20000 in
theorem ggX7_countOf_X7_sumAt : GoodIn wsX7_countOf wsX7_sumAt := goodIn_r _ [19, 1, 20, 21, 22, 23, 24, 25, 26, 27, 28, 29, 30, 31, 32, 33, 34, 35, 36, 37, 38, 39, 40, 41, 42] (by decide +kernel) (by decide +kernel)
set_option maxRecDepth 20000 in
theorem gX7_countOf_X7_sumAt : GoodIn wsX7_countOf (wsV RX7 187 RX7 yX7_sumAt wsX7_sumAt) := goodIn_app (goodIn_of _ (by decide +kernel)) ggX7_countOf_X7_sumAt
set_option maxRecDepth 20000 in
theorem ggX7_count_X7_countOf : GoodIn wsX7_count wsX7_countOf := goodIn_r _ [5, 6, 7, 8, 9, 10, 11, 12, 13, 4, 14, 15, 16, 17, 18, 19, 20, 21, 22, 23, 24, 25, 26, 27, 28, 29, 30, 31, 32, 33, 34, 35, 36, 37, 38, 39, 40, 41, 42, 43, 44, 45, 46] (by decide +kernel) (by decide +kernel)
set_option maxRecDepth 20000 in
theorem gX7_count_X7_countOf : GoodIn wsX7_count (wsV RX7 190 RX7 yX7_countOf wsX7_countOf) := goodIn_app (goodIn_of _ (by decide +kernel)) ggX7_count_X7_countOf
set_option maxRecDepth 20000 in
theorem ggX7_sayTap_X7_tell : GoodIn wsX7_sayTap wsX7_tell := goodIn_r _ [5, 6, 7, 8, 9, 4, 10, 11, 12, 13, 14, 15, 16, 17, 18, 19, 20, 21, 22, 23, 24, 25, 26, 27, 28, 29, 30, 31, 32, 33, 34, 35, 36, 37, 38, 39, 40, 41, 60, 61, 62, 63, 64, 65, 66, 67, 68, 69, 70, 71, 72, 73, 74, 75, 76, 77, 78, 79, 80, 81] (by decide +kernel) (by decide +kernel)
set_option maxRecDepth 20000 in
theorem gX7_sayTap_X7_tell : GoodIn wsX7_sayTap (wsV RX7 139 RX7 yX7_tell wsX7_tell) := goodIn_app (goodIn_of _ (by decide +kernel)) ggX7_sayTap_X7_tell
set_option maxRecDepth 20000 in
theorem ggX7_sayTap_X7_say : GoodIn wsX7_sayTap wsX7_say := goodIn_r _ [45, 46, 47, 60, 61, 62, 63, 64, 65, 66, 67, 68, 69, 70, 71, 72, 73, 74, 75, 76, 77, 78, 79, 80, 81] (by decide +kernel) (by decide +kernel)
set_option maxRecDepth 20000 in
theorem gX7_sayTap_X7_say : GoodIn wsX7_sayTap (wsV RX7 199 RX7 yX7_say wsX7_say) := goodIn_app (goodIn_of _ (by decide +kernel)) ggX7_sayTap_X7_say
set_option maxRecDepth 20000 in
theorem ggX7_sayTap_X7_dripOf : GoodIn wsX7_sayTap wsX7_dripOf := goodIn_r _ [51, 6, 15, 16, 17, 4, 18, 19, 20, 21, 22, 23, 60, 61, 62, 63, 64, 65, 66, 67, 68, 69, 70, 71, 72, 73, 74, 75, 76, 77, 78, 79, 80, 81] (by decide +kernel) (by decide +kernel)
set_option maxRecDepth 20000 in
theorem gX7_sayTap_X7_dripOf : GoodIn wsX7_sayTap (wsV RX7 144 RX7 yX7_dripOf wsX7_dripOf) := goodIn_app (goodIn_of _ (by decide +kernel)) ggX7_sayTap_X7_dripOf
set_option maxRecDepth 20000 in
theorem ggX7_sayTap_X7_nearOf : GoodIn wsX7_sayTap wsX7_nearOf := goodIn_r _ [55, 56, 57, 58, 4, 59, 6, 19, 20, 21, 22, 23, 60, 61, 62, 63, 64, 65, 66, 67, 68, 69, 70, 71, 72, 73, 74, 75, 76, 77, 78, 79, 80, 81] (by decide +kernel) (by decide +kernel)
set_option maxRecDepth 20000 in
theorem gX7_sayTap_X7_nearOf : GoodIn wsX7_sayTap (wsV RX7 153 RX7 yX7_nearOf wsX7_nearOf) := goodIn_app (goodIn_of _ (by decide +kernel)) ggX7_sayTap_X7_nearOf
set_option maxRecDepth 20000 in
theorem ggX7_digest_X7_lacks : GoodIn wsX7_digest wsX7_lacks := goodIn_r _ [10, 3, 95, 96, 97, 98, 99, 100, 101, 102, 103, 104, 105, 106, 107, 108, 109, 110, 111, 112, 113, 114, 115, 116] (by decide +kernel) (by decide +kernel)
set_option maxRecDepth 20000 in
theorem gX7_digest_X7_lacks : GoodIn wsX7_digest (wsV RX7 97 RX7 yX7_lacks wsX7_lacks) := goodIn_app (goodIn_of _ (by decide +kernel)) ggX7_digest_X7_lacks
set_option maxRecDepth 20000 in
theorem ggX7_digest_X7_tellSaying : GoodIn wsX7_digest wsX7_tellSaying := goodIn_r _ [14, 15, 16, 17, 18, 19, 9, 20, 95, 96, 97, 98, 99, 100, 101, 102, 103, 104, 105, 106, 107, 108, 109, 110, 111, 112, 113, 114, 115, 116] (by decide +kernel) (by decide +kernel)
set_option maxRecDepth 20000 in
theorem gX7_digest_X7_tellSaying : GoodIn wsX7_digest (wsV RX7 104 RX7 yX7_tellSaying wsX7_tellSaying) := goodIn_app (goodIn_of _ (by decide +kernel)) ggX7_digest_X7_tellSaying
set_option maxRecDepth 20000 in
theorem ggX7_digest_X7_say : GoodIn wsX7_digest wsX7_say := goodIn_r _ [24, 25, 2, 95, 96, 97, 98, 99, 100, 101, 102, 103, 104, 105, 106, 107, 108, 109, 110, 111, 112, 113, 114, 115, 116] (by decide +kernel) (by decide +kernel)
set_option maxRecDepth 20000 in
theorem gX7_digest_X7_say : GoodIn wsX7_digest (wsV RX7 199 RX7 yX7_say wsX7_say) := goodIn_app (goodIn_of _ (by decide +kernel)) ggX7_digest_X7_say
set_option maxRecDepth 20000 in
theorem ggX7_digest_X7_sayTap : GoodIn wsX7_digest wsX7_sayTap := goodIn_r _ [29, 30, 31, 32, 9, 33, 34, 35, 36, 37, 38, 39, 40, 41, 42, 43, 44, 45, 46, 47, 48, 49, 50, 15, 51, 52, 53, 54, 55, 56, 57, 58, 59, 60, 61, 62, 63, 64, 65, 66, 67, 68, 21, 22, 23, 24, 25, 2, 69, 70, 71, 72, 73, 74, 75, 76, 77, 78, 79, 80, 95, 96, 97, 98, 99, 100, 101, 102, 103, 104, 105, 106, 107, 108, 109, 110, 111, 112, 113, 114, 115, 116] (by decide +kernel) (by decide +kernel)
set_option maxRecDepth 20000 in
theorem gX7_digest_X7_sayTap : GoodIn wsX7_digest (wsV RX7 205 RX7 yX7_sayTap wsX7_sayTap) := goodIn_app (goodIn_of _ (by decide +kernel)) ggX7_digest_X7_sayTap
set_option maxRecDepth 20000 in
theorem ggX7_digest_X7_countOf : GoodIn wsX7_digest wsX7_countOf := goodIn_r _ [84, 3, 85, 59, 4, 86, 87, 88, 89, 9, 90, 15, 6, 7, 8, 10, 91, 92, 93, 94, 34, 95, 96, 97, 98, 99, 100, 101, 102, 103, 104, 105, 106, 107, 108, 109, 110, 111, 112, 113, 114, 115, 116] (by decide +kernel) (by decide +kernel)
set_option maxRecDepth 20000 in
theorem gX7_digest_X7_countOf : GoodIn wsX7_digest (wsV RX7 190 RX7 yX7_countOf wsX7_countOf) := goodIn_app (goodIn_of _ (by decide +kernel)) ggX7_digest_X7_countOf
set_option maxRecDepth 20000 in
theorem ggL_law_X6_init : GoodIn wsL_law wsX6_init := goodIn_r _ [8, 9, 10, 11, 12, 13, 14, 15, 16, 17, 18, 19, 20, 21, 22, 23, 24, 25, 26, 27, 28, 29, 30, 31, 32, 33, 34, 35, 36, 37, 38, 39, 40, 41, 42, 43, 44, 45, 46, 47, 48, 49, 50, 51, 52, 53, 54, 55, 56, 57, 58, 59, 60, 61, 62, 63, 654, 655, 656, 625, 626, 627, 628, 629, 630, 631, 657, 658, 659, 660, 661, 662, 663, 664, 665, 666, 667, 668, 669, 670, 671, 672, 673, 674, 675] (by decide +kernel) (by decide +kernel)
set_option maxRecDepth 20000 in
theorem gL_law_X6_init : GoodIn wsL_law (wsX6_init) := ggL_law_X6_init
set_option maxRecDepth 20000 in
theorem ggL_law_X7_init : GoodIn wsL_law wsX7_init := goodIn_r _ [66, 67, 10, 11, 29, 68, 69, 70, 71, 72, 73, 74, 75, 76, 632, 633, 634, 635, 636, 637, 638, 639, 640, 641, 642, 643, 644, 645, 646, 647, 648, 649, 650, 651, 652, 653] (by decide +kernel) (by decide +kernel)
set_option maxRecDepth 20000 in
theorem gL_law_X7_init : GoodIn wsL_law (wsX7_init) := ggL_law_X7_init
set_option maxRecDepth 20000 in
theorem ggL_law_X6_letter : GoodIn wsL_law wsX6_letter := goodIn_r _ [80, 15, 81, 82, 83, 84, 14, 85, 86, 30, 625, 626, 627, 628, 629, 630, 631, 654, 655, 656] (by decide +kernel) (by decide +kernel)
set_option maxRecDepth 20000 in
theorem gL_law_X6_letter : GoodIn wsL_law (wsV RL 13 RX6 yX6_letter wsX6_letter) := goodIn_app (goodIn_of _ (by decide +kernel)) ggL_law_X6_letter
set_option maxRecDepth 20000 in
theorem ggL_law_X7_letter : GoodIn wsL_law wsX7_letter := goodIn_r _ [90, 91, 92, 68, 93, 94, 5, 95, 632, 633, 634, 635, 636, 637, 638, 639, 640, 641, 642, 643, 644, 645, 646, 647, 648, 649, 650, 651, 652, 653] (by decide +kernel) (by decide +kernel)
set_option maxRecDepth 20000 in
theorem gL_law_X7_letter : GoodIn wsL_law (wsV RL 17 RX7 yX7_letter wsX7_letter) := goodIn_app (goodIn_of _ (by decide +kernel)) ggL_law_X7_letter
set_option maxRecDepth 20000 in
theorem ggL_law_X6_blank : GoodIn wsL_law wsX6_blank := goodIn_r _ [99, 15, 81, 100, 101, 102, 14, 103, 86, 625, 626, 627, 628, 629, 630, 631, 654, 655, 656] (by decide +kernel) (by decide +kernel)
set_option maxRecDepth 20000 in
theorem gL_law_X6_blank : GoodIn wsL_law (wsV RL 18 RX6 yX6_blank wsX6_blank) := goodIn_app (goodIn_of _ (by decide +kernel)) ggL_law_X6_blank
set_option maxRecDepth 20000 in
theorem ggL_law_X7_blank : GoodIn wsL_law wsX7_blank := goodIn_r _ [107, 92, 632, 633, 634, 635, 636, 637, 638, 639, 640, 641, 642, 643, 644, 645, 646, 647, 648, 649, 650, 651, 652, 653] (by decide +kernel) (by decide +kernel)
set_option maxRecDepth 20000 in
theorem gL_law_X7_blank : GoodIn wsL_law (wsV RL 22 RX7 yX7_blank wsX7_blank) := goodIn_app (goodIn_of _ (by decide +kernel)) ggL_law_X7_blank
set_option maxRecDepth 20000 in
theorem ggL_law_X6_fault : GoodIn wsL_law wsX6_fault := goodIn_r _ [111, 15, 112, 113, 114, 14, 115, 34, 86, 116, 117, 118, 33, 119, 120, 121, 122, 123, 124, 125, 126, 30, 127, 128, 129, 130, 131, 132, 133, 134, 135, 136, 137, 138, 139, 2, 140, 141, 142, 625, 626, 627, 628, 629, 630, 631, 654, 655, 656, 664, 665, 666] (by decide +kernel) (by decide +kernel)
set_option maxRecDepth 20000 in
theorem gL_law_X6_fault : GoodIn wsL_law (wsV RL 23 RX6 yX6_fault wsX6_fault) := goodIn_app (goodIn_of _ (by decide +kernel)) ggL_law_X6_fault
set_option maxRecDepth 20000 in
theorem ggL_law_X7_fault : GoodIn wsL_law wsX7_fault := goodIn_r _ [146, 147, 148, 149, 5, 150, 151, 69, 152, 153, 92, 68, 154, 155, 156, 157, 158, 159, 160, 161, 70, 162, 163, 164, 165, 166, 93, 94, 95, 632, 633, 634, 635, 636, 637, 638, 639, 640, 641, 642, 643, 644, 645, 646, 647, 648, 649, 650, 651, 652, 653] (by decide +kernel) (by decide +kernel)
set_option maxRecDepth 20000 in
theorem gL_law_X7_fault : GoodIn wsL_law (wsV RL 26 RX7 yX7_fault wsX7_fault) := goodIn_app (goodIn_of _ (by decide +kernel)) ggL_law_X7_fault
set_option maxRecDepth 20000 in
theorem ggL_law_X6_house : GoodIn wsL_law wsX6_house := goodIn_r _ [170, 15, 19, 23, 171, 172, 173, 174, 175, 176, 177, 14, 178, 86, 34, 179, 113, 114, 115, 116, 117, 118, 33, 119, 120, 121, 122, 123, 124, 125, 126, 30, 127, 128, 129, 130, 131, 132, 133, 134, 135, 136, 137, 138, 139, 2, 140, 141, 142, 180, 181, 182, 183, 184, 185, 186, 18, 187, 42, 43, 188, 189, 190, 22, 191, 192, 193, 194, 195, 196, 197, 198, 81, 199, 200, 201, 202, 203, 204, 205, 206, 207, 208, 209, 210, 211, 212, 49, 213, 214, 215, 51, 216, 217, 218, 219, 220, 100, 101, 102, 103, 625, 626, 627, 628, 629, 630, 631, 659, 660, 661, 662, 663, 654, 655, 656, 664, 665, 666, 657, 658, 667, 668, 669, 670, 671] (by decide +kernel) (by decide +kernel)
set_option maxRecDepth 20000 in
theorem gL_law_X6_house : GoodIn wsL_law (wsV RL 27 RX6 yX6_house wsX6_house) := goodIn_app (goodIn_of _ (by decide +kernel)) ggL_law_X6_house
set_option maxRecDepth 20000 in
theorem ggL_law_X7_house : GoodIn wsL_law wsX7_house := goodIn_r _ [224, 92, 151, 153, 152, 225, 69, 71, 72, 70, 226, 227, 228, 147, 148, 149, 5, 150, 68, 154, 155, 156, 157, 158, 159, 160, 161, 162, 163, 164, 165, 166, 93, 94, 95, 229, 230, 231, 632, 633, 634, 635, 636, 637, 638, 639, 640, 641, 642, 643, 644, 645, 646, 647, 648, 649, 650, 651, 652, 653] (by decide +kernel) (by decide +kernel)
set_option maxRecDepth 20000 in
theorem gL_law_X7_house : GoodIn wsL_law (wsV RL 30 RX7 yX7_house wsX7_house) := goodIn_app (goodIn_of _ (by decide +kernel)) ggL_law_X7_house
set_option maxRecDepth 20000 in
theorem ggL_law_X6_saying : GoodIn wsL_law wsX6_saying := goodIn_r _ [235, 171, 19, 236, 141, 2, 142, 237, 238, 239, 18, 240, 43, 241, 242, 243, 244, 42, 625, 626, 627, 628, 629, 630, 631, 657, 658] (by decide +kernel) (by decide +kernel)
set_option maxRecDepth 20000 in
theorem gL_law_X6_saying : GoodIn wsL_law (wsV RL 31 RX6 yX6_saying wsX6_saying) := goodIn_app (goodIn_of _ (by decide +kernel)) ggL_law_X6_saying
set_option maxRecDepth 20000 in
theorem ggL_law_X7_saying : GoodIn wsL_law wsX7_saying := goodIn_r _ [248, 249, 250, 251, 5, 252, 225, 253, 254, 255, 256, 93, 94, 95, 257, 258, 259, 260, 71, 261, 262, 632, 633, 634, 635, 636, 637, 638, 639, 640, 641, 642, 643, 644, 645, 646, 647, 648, 649, 650, 651, 652, 653] (by decide +kernel) (by decide +kernel)
set_option maxRecDepth 20000 in
theorem gL_law_X7_saying : GoodIn wsL_law (wsV RL 35 RX7 yX7_saying wsX7_saying) := goodIn_app (goodIn_of _ (by decide +kernel)) ggL_law_X7_saying
set_option maxRecDepth 20000 in
theorem ggL_law_X6_tap : GoodIn wsL_law wsX6_tap := goodIn_r _ [266, 171, 23, 174, 267, 268, 2, 269, 236, 141, 142, 205, 206, 207, 22, 208, 192, 209, 210, 211, 212, 49, 213, 214, 215, 51, 216, 217, 218, 219, 220, 625, 626, 627, 628, 629, 630, 631, 659, 660, 661, 662, 663, 667, 668, 669, 670, 671] (by decide +kernel) (by decide +kernel)
set_option maxRecDepth 20000 in
theorem gL_law_X6_tap : GoodIn wsL_law (wsV RL 36 RX6 yX6_tap wsX6_tap) := goodIn_app (goodIn_of _ (by decide +kernel)) ggL_law_X6_tap
set_option maxRecDepth 20000 in
theorem ggL_law_X7_tap : GoodIn wsL_law wsX7_tap := goodIn_r _ [273, 274, 225, 72, 93, 94, 5, 95, 253, 254, 255, 256, 249, 250, 251, 252, 632, 633, 634, 635, 636, 637, 638, 639, 640, 641, 642, 643, 644, 645, 646, 647, 648, 649, 650, 651, 652, 653] (by decide +kernel) (by decide +kernel)
set_option maxRecDepth 20000 in
theorem gL_law_X7_tap : GoodIn wsL_law (wsV RL 39 RX7 yX7_tap wsX7_tap) := goodIn_app (goodIn_of _ (by decide +kernel)) ggL_law_X7_tap
set_option maxRecDepth 20000 in
theorem ggL_law_X6_about : GoodIn wsL_law wsX6_about := goodIn_r _ [278, 23, 279, 210, 211, 22, 212, 192, 49, 280, 281, 282, 2, 283, 284, 285, 286, 287, 288, 289, 290, 291, 292, 293, 294, 295, 296, 297, 298, 299, 19, 300, 301, 302, 18, 303, 304, 238, 239, 240, 43, 305, 242, 243, 244, 42, 306, 307, 308, 309, 310, 311, 312, 313, 314, 315, 316, 317, 318, 319, 320, 321, 322, 323, 193, 53, 324, 325, 326, 327, 328, 329, 330, 331, 332, 333, 334, 335, 625, 626, 627, 628, 629, 630, 631, 659, 660, 661, 662, 663, 667, 668, 669, 670, 671, 657, 658, 672, 673, 674, 675] (by decide +kernel) (by decide +kernel)
set_option maxRecDepth 20000 in
theorem gL_law_X6_about : GoodIn wsL_law (wsV RL 40 RX6 yX6_about wsX6_about) := goodIn_app (goodIn_of _ (by decide +kernel)) ggL_law_X6_about
set_option maxRecDepth 20000 in
theorem ggL_law_X7_about : GoodIn wsL_law wsX7_about := goodIn_r _ [339, 340, 341, 342, 5, 343, 225, 93, 94, 95, 344, 345, 346, 347, 72, 348, 349, 350, 351, 352, 353, 354, 355, 356, 357, 358, 359, 360, 361, 362, 363, 71, 364, 365, 366, 367, 368, 369, 370, 371, 227, 73, 372, 373, 374, 375, 376, 377, 378, 379, 632, 633, 634, 635, 636, 637, 638, 639, 640, 641, 642, 643, 644, 645, 646, 647, 648, 649, 650, 651, 652, 653] (by decide +kernel) (by decide +kernel)
set_option maxRecDepth 20000 in
theorem gL_law_X7_about : GoodIn wsL_law (wsV RL 43 RX7 yX7_about wsX7_about) := goodIn_app (goodIn_of _ (by decide +kernel)) ggL_law_X7_about
set_option maxRecDepth 20000 in
theorem ggL_law_X6_as : GoodIn wsL_law wsX6_as := goodIn_r _ [383, 23, 284, 279, 210, 211, 22, 212, 192, 49, 267, 268, 2, 269, 625, 626, 627, 628, 629, 630, 631, 667, 668, 669, 670, 671, 659, 660, 661, 662, 663] (by decide +kernel) (by decide +kernel)
set_option maxRecDepth 20000 in
theorem gL_law_X6_as : GoodIn wsL_law (wsV RL 44 RX6 yX6_as wsX6_as) := goodIn_app (goodIn_of _ (by decide +kernel)) ggL_law_X6_as
set_option maxRecDepth 20000 in
theorem ggL_law_X7_as : GoodIn wsL_law wsX7_as := goodIn_r _ [387, 274, 72, 340, 341, 342, 5, 343, 225, 93, 94, 95, 632, 633, 634, 635, 636, 637, 638, 639, 640, 641, 642, 643, 644, 645, 646, 647, 648, 649, 650, 651, 652, 653] (by decide +kernel) (by decide +kernel)
set_option maxRecDepth 20000 in
theorem gL_law_X7_as : GoodIn wsL_law (wsV RL 47 RX7 yX7_as wsX7_as) := goodIn_app (goodIn_of _ (by decide +kernel)) ggL_law_X7_as
set_option maxRecDepth 20000 in
theorem ggL_law_X6_drip : GoodIn wsL_law wsX6_drip := goodIn_r _ [391, 23, 279, 210, 211, 22, 212, 192, 49, 392, 393, 394, 2, 395, 19, 284, 285, 286, 300, 301, 302, 18, 303, 304, 238, 239, 240, 43, 305, 242, 243, 244, 42, 625, 626, 627, 628, 629, 630, 631, 659, 660, 661, 662, 663, 667, 668, 669, 670, 671, 657, 658] (by decide +kernel) (by decide +kernel)
set_option maxRecDepth 20000 in
theorem gL_law_X6_drip : GoodIn wsL_law (wsV RL 48 RX6 yX6_drip wsX6_drip) := goodIn_app (goodIn_of _ (by decide +kernel)) ggL_law_X6_drip
set_option maxRecDepth 20000 in
theorem ggL_law_X7_drip : GoodIn wsL_law wsX7_drip := goodIn_r _ [399, 400, 340, 341, 342, 5, 343, 225, 93, 94, 95, 401, 402, 403, 404, 72, 356, 357, 358, 359, 360, 361, 362, 363, 71, 632, 633, 634, 635, 636, 637, 638, 639, 640, 641, 642, 643, 644, 645, 646, 647, 648, 649, 650, 651, 652, 653] (by decide +kernel) (by decide +kernel)
set_option maxRecDepth 20000 in
theorem gL_law_X7_drip : GoodIn wsL_law (wsV RL 51 RX7 yX7_drip wsX7_drip) := goodIn_app (goodIn_of _ (by decide +kernel)) ggL_law_X7_drip
set_option maxRecDepth 20000 in
theorem ggL_law_X6_listen : GoodIn wsL_law wsX6_listen := goodIn_r _ [408, 23, 287, 409, 279, 210, 211, 22, 212, 192, 49, 392, 393, 394, 2, 395, 19, 284, 285, 286, 300, 301, 302, 18, 303, 304, 238, 239, 240, 43, 305, 242, 243, 244, 42, 625, 626, 627, 628, 629, 630, 631, 667, 668, 669, 670, 671, 659, 660, 661, 662, 663, 657, 658] (by decide +kernel) (by decide +kernel)
set_option maxRecDepth 20000 in
theorem gL_law_X6_listen : GoodIn wsL_law (wsV RL 52 RX6 yX6_listen wsX6_listen) := goodIn_app (goodIn_of _ (by decide +kernel)) ggL_law_X6_listen
set_option maxRecDepth 20000 in
theorem ggL_law_X7_listen : GoodIn wsL_law wsX7_listen := goodIn_r _ [413, 72, 226, 340, 341, 342, 5, 343, 225, 93, 94, 95, 401, 402, 403, 404, 356, 357, 358, 359, 360, 361, 362, 363, 71, 632, 633, 634, 635, 636, 637, 638, 639, 640, 641, 642, 643, 644, 645, 646, 647, 648, 649, 650, 651, 652, 653] (by decide +kernel) (by decide +kernel)
set_option maxRecDepth 20000 in
theorem gL_law_X7_listen : GoodIn wsL_law (wsV RL 55 RX7 yX7_listen wsX7_listen) := goodIn_app (goodIn_of _ (by decide +kernel)) ggL_law_X7_listen
set_option maxRecDepth 20000 in
theorem ggL_law_X6_washer : GoodIn wsL_law wsX6_washer := goodIn_r _ [417, 23, 286, 409, 279, 210, 211, 22, 212, 192, 49, 625, 626, 627, 628, 629, 630, 631, 667, 668, 669, 670, 671, 659, 660, 661, 662, 663] (by decide +kernel) (by decide +kernel)
set_option maxRecDepth 20000 in
theorem gL_law_X6_washer : GoodIn wsL_law (wsV RL 56 RX6 yX6_washer wsX6_washer) := goodIn_app (goodIn_of _ (by decide +kernel)) ggL_law_X6_washer
set_option maxRecDepth 20000 in
theorem ggL_law_X7_washer : GoodIn wsL_law wsX7_washer := goodIn_r _ [421, 72, 226, 340, 341, 342, 5, 343, 225, 93, 94, 95, 632, 633, 634, 635, 636, 637, 638, 639, 640, 641, 642, 643, 644, 645, 646, 647, 648, 649, 650, 651, 652, 653] (by decide +kernel) (by decide +kernel)
set_option maxRecDepth 20000 in
theorem gL_law_X7_washer : GoodIn wsL_law (wsV RL 60 RX7 yX7_washer wsX7_washer) := goodIn_app (goodIn_of _ (by decide +kernel)) ggL_law_X7_washer
set_option maxRecDepth 20000 in
theorem ggL_law_X6_teach : GoodIn wsL_law wsX6_teach := goodIn_r _ [425, 23, 285, 409, 279, 210, 211, 22, 212, 192, 49, 236, 141, 2, 142, 625, 626, 627, 628, 629, 630, 631, 667, 668, 669, 670, 671, 659, 660, 661, 662, 663] (by decide +kernel) (by decide +kernel)
set_option maxRecDepth 20000 in
theorem gL_law_X6_teach : GoodIn wsL_law (wsV RL 61 RX6 yX6_teach wsX6_teach) := goodIn_app (goodIn_of _ (by decide +kernel)) ggL_law_X6_teach
set_option maxRecDepth 20000 in
theorem ggL_law_X7_teach : GoodIn wsL_law wsX7_teach := goodIn_r _ [429, 72, 226, 340, 341, 342, 5, 343, 225, 93, 94, 95, 253, 254, 255, 256, 632, 633, 634, 635, 636, 637, 638, 639, 640, 641, 642, 643, 644, 645, 646, 647, 648, 649, 650, 651, 652, 653] (by decide +kernel) (by decide +kernel)
set_option maxRecDepth 20000 in
theorem gL_law_X7_teach : GoodIn wsL_law (wsV RL 64 RX7 yX7_teach wsX7_teach) := goodIn_app (goodIn_of _ (by decide +kernel)) ggL_law_X7_teach
set_option maxRecDepth 20000 in
theorem ggL_law_X6_agree : GoodIn wsL_law wsX6_agree := goodIn_r _ [433, 23, 287, 279, 210, 211, 22, 212, 192, 49, 392, 393, 394, 2, 395, 19, 284, 285, 286, 300, 301, 302, 18, 303, 304, 238, 239, 240, 43, 305, 242, 243, 244, 42, 625, 626, 627, 628, 629, 630, 631, 667, 668, 669, 670, 671, 659, 660, 661, 662, 663, 657, 658] (by decide +kernel) (by decide +kernel)
set_option maxRecDepth 20000 in
theorem gL_law_X6_agree : GoodIn wsL_law (wsV RL 65 RX6 yX6_agree wsX6_agree) := goodIn_app (goodIn_of _ (by decide +kernel)) ggL_law_X6_agree
set_option maxRecDepth 20000 in
theorem ggL_law_X7_agree : GoodIn wsL_law wsX7_agree := goodIn_r _ [437, 340, 341, 342, 5, 343, 225, 93, 94, 95, 438, 439, 440, 441, 72, 401, 402, 403, 404, 356, 357, 358, 359, 360, 361, 362, 363, 71, 632, 633, 634, 635, 636, 637, 638, 639, 640, 641, 642, 643, 644, 645, 646, 647, 648, 649, 650, 651, 652, 653] (by decide +kernel) (by decide +kernel)
set_option maxRecDepth 20000 in
theorem gL_law_X7_agree : GoodIn wsL_law (wsV RL 68 RX7 yX7_agree wsX7_agree) := goodIn_app (goodIn_of _ (by decide +kernel)) ggL_law_X7_agree
set_option maxRecDepth 20000 in
theorem ggL_law_X6_near : GoodIn wsL_law wsX6_near := goodIn_r _ [445, 23, 279, 210, 211, 22, 212, 192, 49, 236, 141, 2, 142, 446, 447, 448, 449, 450, 451, 294, 452, 453, 454, 455, 456, 19, 284, 285, 300, 301, 302, 18, 303, 304, 238, 239, 240, 43, 305, 242, 243, 244, 42, 625, 626, 627, 628, 629, 630, 631, 659, 660, 661, 662, 663, 667, 668, 669, 670, 671, 657, 658] (by decide +kernel) (by decide +kernel)
set_option maxRecDepth 20000 in
theorem gL_law_X6_near : GoodIn wsL_law (wsV RL 69 RX6 yX6_near wsX6_near) := goodIn_app (goodIn_of _ (by decide +kernel)) ggL_law_X6_near
set_option maxRecDepth 20000 in
theorem ggL_law_X7_near : GoodIn wsL_law wsX7_near := goodIn_r _ [460, 340, 341, 342, 5, 343, 225, 93, 94, 95, 253, 254, 255, 256, 461, 462, 463, 464, 465, 466, 467, 468, 72, 360, 361, 362, 363, 71, 632, 633, 634, 635, 636, 637, 638, 639, 640, 641, 642, 643, 644, 645, 646, 647, 648, 649, 650, 651, 652, 653] (by decide +kernel) (by decide +kernel)
set_option maxRecDepth 20000 in
theorem gL_law_X7_near : GoodIn wsL_law (wsV RL 73 RX7 yX7_near wsX7_near) := goodIn_app (goodIn_of _ (by decide +kernel)) ggL_law_X7_near
set_option maxRecDepth 20000 in
theorem ggL_law_X6_put : GoodIn wsL_law wsX6_put := goodIn_r _ [472, 23, 314, 279, 210, 211, 22, 212, 192, 49, 473, 474, 475, 476, 193, 477, 478, 479, 321, 322, 323, 53, 480, 481, 482, 55, 483, 484, 485, 486, 487, 625, 626, 627, 628, 629, 630, 631, 659, 660, 661, 662, 663, 667, 668, 669, 670, 671, 672, 673, 674, 675] (by decide +kernel) (by decide +kernel)
set_option maxRecDepth 20000 in
theorem gL_law_X6_put : GoodIn wsL_law (wsV RL 74 RX6 yX6_put wsX6_put) := goodIn_app (goodIn_of _ (by decide +kernel)) ggL_law_X6_put
set_option maxRecDepth 20000 in
theorem ggL_law_X7_put : GoodIn wsL_law wsX7_put := goodIn_r _ [491, 492, 227, 73, 72, 340, 341, 342, 5, 343, 225, 93, 94, 95, 632, 633, 634, 635, 636, 637, 638, 639, 640, 641, 642, 643, 644, 645, 646, 647, 648, 649, 650, 651, 652, 653] (by decide +kernel) (by decide +kernel)
set_option maxRecDepth 20000 in
theorem gL_law_X7_put : GoodIn wsL_law (wsV RL 78 RX7 yX7_put wsX7_put) := goodIn_app (goodIn_of _ (by decide +kernel)) ggL_law_X7_put
set_option maxRecDepth 20000 in
theorem ggL_law_X6_forget : GoodIn wsL_law wsX6_forget := goodIn_r _ [496, 23, 314, 625, 626, 627, 628, 629, 630, 631, 659, 660, 661, 662, 663] (by decide +kernel) (by decide +kernel)
set_option maxRecDepth 20000 in
theorem gL_law_X6_forget : GoodIn wsL_law (wsV RL 79 RX6 yX6_forget wsX6_forget) := goodIn_app (goodIn_of _ (by decide +kernel)) ggL_law_X6_forget
set_option maxRecDepth 20000 in
theorem ggL_law_X7_forget : GoodIn wsL_law wsX7_forget := goodIn_r _ [500, 227, 632, 633, 634, 635, 636, 637, 638, 639, 640, 641, 642, 643, 644, 645, 646, 647, 648, 649, 650, 651, 652, 653] (by decide +kernel) (by decide +kernel)
set_option maxRecDepth 20000 in
theorem gL_law_X7_forget : GoodIn wsL_law (wsV RL 82 RX7 yX7_forget wsX7_forget) := goodIn_app (goodIn_of _ (by decide +kernel)) ggL_law_X7_forget
set_option maxRecDepth 20000 in
theorem ggL_law_X6_nights : GoodIn wsL_law wsX6_nights := goodIn_r _ [504, 171, 23, 174, 287, 279, 210, 211, 22, 212, 192, 49, 505, 506, 2, 507, 508, 509, 510, 511, 512, 513, 514, 392, 393, 394, 395, 19, 284, 285, 286, 300, 301, 302, 18, 303, 304, 238, 239, 240, 43, 305, 242, 243, 244, 42, 625, 626, 627, 628, 629, 630, 631, 659, 660, 661, 662, 663, 667, 668, 669, 670, 671, 657, 658] (by decide +kernel) (by decide +kernel)
set_option maxRecDepth 20000 in
theorem gL_law_X6_nights : GoodIn wsL_law (wsV RL 83 RX6 yX6_nights wsX6_nights) := goodIn_app (goodIn_of _ (by decide +kernel)) ggL_law_X6_nights
set_option maxRecDepth 20000 in
theorem ggL_law_X7_nights : GoodIn wsL_law wsX7_nights := goodIn_r _ [518, 519, 520, 521, 225, 72, 93, 94, 5, 95, 249, 250, 251, 252, 401, 402, 403, 404, 356, 357, 358, 359, 360, 361, 362, 363, 71, 522, 523, 524, 525, 526, 527, 528, 529, 632, 633, 634, 635, 636, 637, 638, 639, 640, 641, 642, 643, 644, 645, 646, 647, 648, 649, 650, 651, 652, 653] (by decide +kernel) (by decide +kernel)
set_option maxRecDepth 20000 in
theorem gL_law_X7_nights : GoodIn wsL_law (wsV RL 86 RX7 yX7_nights wsX7_nights) := goodIn_app (goodIn_of _ (by decide +kernel)) ggL_law_X7_nights
set_option maxRecDepth 20000 in
theorem ggL_law_X6_image : GoodIn wsL_law wsX6_image := goodIn_r _ [533, 171, 24, 23, 172, 409, 534, 535, 536, 22, 537, 192, 193, 194, 538, 539, 478, 540, 541, 542, 543, 544, 209, 210, 211, 212, 49, 213, 214, 215, 51, 216, 217, 218, 219, 220, 479, 321, 322, 323, 53, 480, 481, 482, 55, 483, 484, 485, 486, 487, 625, 626, 627, 628, 629, 630, 631, 659, 660, 661, 662, 663, 667, 668, 669, 670, 671, 672, 673, 674, 675] (by decide +kernel) (by decide +kernel)
set_option maxRecDepth 20000 in
theorem gL_law_X6_image : GoodIn wsL_law (wsV RL 87 RX6 yX6_image wsX6_image) := goodIn_app (goodIn_of _ (by decide +kernel)) ggL_law_X6_image
set_option maxRecDepth 20000 in
theorem ggL_law_X7_image : GoodIn wsL_law wsX7_image := goodIn_r _ [548, 72, 74, 73, 75, 225, 549, 226, 550, 227, 551, 228, 76, 249, 250, 251, 5, 252, 229, 230, 231, 632, 633, 634, 635, 636, 637, 638, 639, 640, 641, 642, 643, 644, 645, 646, 647, 648, 649, 650, 651, 652, 653] (by decide +kernel) (by decide +kernel)
set_option maxRecDepth 20000 in
theorem gL_law_X7_image : GoodIn wsL_law (wsV RL 90 RX7 yX7_image wsX7_image) := goodIn_app (goodIn_of _ (by decide +kernel)) ggL_law_X7_image
set_option maxRecDepth 20000 in
theorem ggL_law_X6_restore : GoodIn wsL_law wsX6_restore := goodIn_r _ [555, 172, 23, 24, 409, 534, 535, 536, 22, 537, 192, 193, 194, 538, 539, 478, 540, 541, 542, 543, 544, 209, 210, 211, 212, 49, 213, 214, 215, 51, 216, 217, 218, 219, 220, 479, 321, 322, 323, 53, 480, 481, 482, 55, 483, 484, 485, 486, 487, 625, 626, 627, 628, 629, 630, 631, 659, 660, 661, 662, 663, 667, 668, 669, 670, 671, 672, 673, 674, 675] (by decide +kernel) (by decide +kernel)
set_option maxRecDepth 20000 in
theorem gL_law_X6_restore : GoodIn wsL_law (wsV RL 91 RX6 yX6_restore wsX6_restore) := goodIn_app (goodIn_of _ (by decide +kernel)) ggL_law_X6_restore
set_option maxRecDepth 20000 in
theorem ggL_law_X7_restore : GoodIn wsL_law wsX7_restore := goodIn_r _ [559, 76, 228, 74, 72, 75, 73, 549, 225, 550, 226, 551, 227, 229, 230, 5, 231, 632, 633, 634, 635, 636, 637, 638, 639, 640, 641, 642, 643, 644, 645, 646, 647, 648, 649, 650, 651, 652, 653] (by decide +kernel) (by decide +kernel)
set_option maxRecDepth 20000 in
theorem gL_law_X7_restore : GoodIn wsL_law (wsV RL 94 RX7 yX7_restore wsX7_restore) := goodIn_app (goodIn_of _ (by decide +kernel)) ggL_law_X7_restore
set_option maxRecDepth 20000 in
theorem ggL_law_X6_count : GoodIn wsL_law wsX6_count := goodIn_r _ [563, 564, 565, 566, 2, 567, 23, 174, 19, 409, 314, 15, 81, 173, 568, 569, 570, 18, 571, 43, 572, 573, 574, 22, 575, 192, 478, 209, 210, 211, 212, 49, 576, 577, 578, 579, 540, 625, 626, 627, 628, 629, 630, 631, 659, 660, 661, 662, 663, 654, 655, 656, 657, 658, 667, 668, 669, 670, 671] (by decide +kernel) (by decide +kernel)
set_option maxRecDepth 20000 in
theorem gL_law_X6_count : GoodIn wsL_law (wsV RL 95 RX6 yX6_count wsX6_count) := goodIn_app (goodIn_of _ (by decide +kernel)) ggL_law_X6_count
set_option maxRecDepth 20000 in
theorem ggL_law_X7_count : GoodIn wsL_law wsX7_count := goodIn_r _ [583, 584, 585, 586, 5, 587, 225, 226, 227, 92, 228, 588, 589, 590, 591, 71, 249, 250, 251, 252, 592, 593, 594, 595, 72, 632, 633, 634, 635, 636, 637, 638, 639, 640, 641, 642, 643, 644, 645, 646, 647, 648, 649, 650, 651, 652, 653] (by decide +kernel) (by decide +kernel)
set_option maxRecDepth 20000 in
theorem gL_law_X7_count : GoodIn wsL_law (wsV RL 98 RX7 yX7_count wsX7_count) := goodIn_app (goodIn_of _ (by decide +kernel)) ggL_law_X7_count
set_option maxRecDepth 20000 in
theorem ggL_law_X6_digest : GoodIn wsL_law wsX6_digest := goodIn_r _ [599, 600, 171, 23, 174, 15, 81, 601, 602, 603, 604, 2, 605, 19, 237, 238, 239, 18, 240, 43, 241, 242, 243, 244, 42, 279, 210, 211, 22, 212, 192, 49, 606, 607, 608, 609, 280, 281, 282, 283, 284, 285, 286, 287, 288, 289, 290, 291, 292, 293, 294, 295, 296, 297, 298, 299, 300, 301, 302, 303, 304, 305, 306, 307, 308, 309, 310, 311, 312, 313, 314, 315, 316, 317, 318, 319, 320, 321, 322, 323, 193, 53, 324, 325, 326, 327, 328, 329, 330, 331, 332, 333, 334, 335, 392, 393, 394, 395, 446, 447, 448, 449, 450, 451, 452, 453, 454, 455, 456, 199, 124, 125, 14, 126, 86, 30, 564, 565, 566, 567, 409, 173, 568, 569, 570, 571, 572, 573, 574, 575, 478, 209, 576, 577, 578, 579, 540, 625, 626, 627, 628, 629, 630, 631, 659, 660, 661, 662, 663, 654, 655, 656, 657, 658, 667, 668, 669, 670, 671, 672, 673, 674, 675] (by decide +kernel) (by decide +kernel)
set_option maxRecDepth 20000 in
theorem gL_law_X6_digest : GoodIn wsL_law (wsV RL 99 RX6 yX6_digest wsX6_digest) := goodIn_app (goodIn_of _ (by decide +kernel)) ggL_law_X6_digest
set_option maxRecDepth 20000 in
theorem ggL_law_X7_digest : GoodIn wsL_law wsX7_digest := goodIn_r _ [613, 614, 615, 225, 92, 68, 249, 250, 251, 5, 252, 257, 258, 259, 260, 71, 261, 262, 93, 94, 95, 616, 617, 618, 619, 620, 621, 622, 623, 624, 344, 345, 346, 347, 72, 348, 349, 350, 351, 352, 353, 354, 355, 356, 357, 358, 359, 360, 361, 362, 363, 364, 365, 366, 367, 368, 369, 370, 371, 227, 73, 372, 373, 374, 375, 376, 377, 378, 379, 401, 402, 403, 404, 461, 462, 463, 464, 465, 466, 467, 468, 584, 585, 586, 587, 226, 228, 588, 589, 590, 591, 592, 593, 594, 595, 632, 633, 634, 635, 636, 637, 638, 639, 640, 641, 642, 643, 644, 645, 646, 647, 648, 649, 650, 651, 652, 653] (by decide +kernel) (by decide +kernel)
set_option maxRecDepth 20000 in
theorem gL_law_X7_digest : GoodIn wsL_law (wsV RL 103 RX7 yX7_digest wsX7_digest) := goodIn_app (goodIn_of _ (by decide +kernel)) ggL_law_X7_digest
abbrev vwCl : List vw_C := [(RX0, TX0, 4), (RX1, TX1, 3), (RX2, TX2, 3), (RX3, TX3, 5), (RX4, TX4, 2), (RX5, TX5, 5), (RX6, TX6, 7), (RX7, TX7, 22)]
end
section
theorem dX0_init_0 : decode cX0_init 0 = .ok (.aload_n 0, 1) := by decide +kernel
theorem dX0_init_1 : decode cX0_init 1 = .ok (.invokespecial 1, 3) := by decide +kernel
theorem dX0_init_4 : decode cX0_init 4 = .ok (.return_, 1) := by decide +kernel
theorem dX0_become_0 : decode cX0_become 0 = .ok (.aload_n 0, 1) := by decide +kernel
theorem dX0_become_1 : decode cX0_become 1 = .ok (.iload_n 1, 1) := by decide +kernel
theorem dX0_become_2 : decode cX0_become 2 = .ok (.putfield 7, 3) := by decide +kernel
theorem dX0_become_5 : decode cX0_become 5 = .ok (.aload_n 0, 1) := by decide +kernel
theorem dX0_become_6 : decode cX0_become 6 = .ok (.iload_n 2, 1) := by decide +kernel
theorem dX0_become_7 : decode cX0_become 7 = .ok (.putfield 13, 3) := by decide +kernel
theorem dX0_become_10 : decode cX0_become 10 = .ok (.aload_n 0, 1) := by decide +kernel
theorem dX0_become_11 : decode cX0_become 11 = .ok (.iload_n 3, 1) := by decide +kernel
theorem dX0_become_12 : decode cX0_become 12 = .ok (.putfield 16, 3) := by decide +kernel
theorem dX0_become_15 : decode cX0_become 15 = .ok (.aload_n 0, 1) := by decide +kernel
theorem dX0_become_16 : decode cX0_become 16 = .ok (.iload 4, 2) := by decide +kernel
theorem dX0_become_18 : decode cX0_become 18 = .ok (.putfield 19, 3) := by decide +kernel
theorem dX0_become_21 : decode cX0_become 21 = .ok (.return_, 1) := by decide +kernel
theorem dX1_init_0 : decode cX1_init 0 = .ok (.aload_n 0, 1) := by decide +kernel
theorem dX1_init_1 : decode cX1_init 1 = .ok (.invokespecial 3, 3) := by decide +kernel
theorem dX1_init_4 : decode cX1_init 4 = .ok (.aload_n 0, 1) := by decide +kernel
theorem dX1_init_5 : decode cX1_init 5 = .ok (.bipush 30, 2) := by decide +kernel
theorem dX1_init_7 : decode cX1_init 7 = .ok (.newarray .int, 2) := by decide +kernel
theorem dX1_init_9 : decode cX1_init 9 = .ok (.putfield 9, 3) := by decide +kernel
theorem dX1_init_12 : decode cX1_init 12 = .ok (.aload_n 0, 1) := by decide +kernel
theorem dX1_init_13 : decode cX1_init 13 = .ok (.new 15, 3) := by decide +kernel
theorem dX1_init_16 : decode cX1_init 16 = .ok (.dup, 1) := by decide +kernel
theorem dX1_init_17 : decode cX1_init 17 = .ok (.invokespecial 17, 3) := by decide +kernel
theorem dX1_init_20 : decode cX1_init 20 = .ok (.putfield 18, 3) := by decide +kernel
theorem dX1_init_23 : decode cX1_init 23 = .ok (.return_, 1) := by decide +kernel
theorem dX1_clear_0 : decode cX1_clear 0 = .ok (.aload_n 0, 1) := by decide +kernel
theorem dX1_clear_1 : decode cX1_clear 1 = .ok (.iconst 0, 1) := by decide +kernel
theorem dX1_clear_2 : decode cX1_clear 2 = .ok (.putfield 22, 3) := by decide +kernel
theorem dX1_clear_5 : decode cX1_clear 5 = .ok (.return_, 1) := by decide +kernel
theorem dX1_add_0 : decode cX1_add 0 = .ok (.aload_n 0, 1) := by decide +kernel
theorem dX1_add_1 : decode cX1_add 1 = .ok (.getfield 22, 3) := by decide +kernel
theorem dX1_add_4 : decode cX1_add 4 = .ok (.ifCond .lt 15, 3) := by decide +kernel
theorem dX1_add_7 : decode cX1_add 7 = .ok (.aload_n 0, 1) := by decide +kernel
theorem dX1_add_8 : decode cX1_add 8 = .ok (.getfield 22, 3) := by decide +kernel
theorem dX1_add_11 : decode cX1_add 11 = .ok (.aload_n 0, 1) := by decide +kernel
theorem dX1_add_12 : decode cX1_add 12 = .ok (.getfield 9, 3) := by decide +kernel
theorem dX1_add_15 : decode cX1_add 15 = .ok (.arraylength, 1) := by decide +kernel
theorem dX1_add_16 : decode cX1_add 16 = .ok (.if_icmp .lt 4, 3) := by decide +kernel
theorem dX1_add_19 : decode cX1_add 19 = .ok (.return_, 1) := by decide +kernel
theorem dX1_add_20 : decode cX1_add 20 = .ok (.aload_n 0, 1) := by decide +kernel
theorem dX1_add_21 : decode cX1_add 21 = .ok (.getfield 9, 3) := by decide +kernel
theorem dX1_add_24 : decode cX1_add 24 = .ok (.aload_n 0, 1) := by decide +kernel
theorem dX1_add_25 : decode cX1_add 25 = .ok (.getfield 22, 3) := by decide +kernel
theorem dX1_add_28 : decode cX1_add 28 = .ok (.iload_n 1, 1) := by decide +kernel
theorem dX1_add_29 : decode cX1_add 29 = .ok (.iastore, 1) := by decide +kernel
theorem dX1_add_30 : decode cX1_add 30 = .ok (.aload_n 0, 1) := by decide +kernel
theorem dX1_add_31 : decode cX1_add 31 = .ok (.dup, 1) := by decide +kernel
theorem dX1_add_32 : decode cX1_add 32 = .ok (.getfield 22, 3) := by decide +kernel
theorem dX1_add_35 : decode cX1_add 35 = .ok (.iconst 1, 1) := by decide +kernel
theorem dX1_add_36 : decode cX1_add 36 = .ok (.iadd, 1) := by decide +kernel
theorem dX1_add_37 : decode cX1_add 37 = .ok (.putfield 22, 3) := by decide +kernel
theorem dX1_add_40 : decode cX1_add 40 = .ok (.return_, 1) := by decide +kernel
theorem dX1_codeAt_0 : decode cX1_codeAt 0 = .ok (.iload_n 1, 1) := by decide +kernel
theorem dX1_codeAt_1 : decode cX1_codeAt 1 = .ok (.ifCond .lt 29, 3) := by decide +kernel
theorem dX1_codeAt_4 : decode cX1_codeAt 4 = .ok (.iload_n 1, 1) := by decide +kernel
theorem dX1_codeAt_5 : decode cX1_codeAt 5 = .ok (.aload_n 0, 1) := by decide +kernel
theorem dX1_codeAt_6 : decode cX1_codeAt 6 = .ok (.getfield 22, 3) := by decide +kernel
theorem dX1_codeAt_9 : decode cX1_codeAt 9 = .ok (.if_icmp .ge 21, 3) := by decide +kernel
theorem dX1_codeAt_12 : decode cX1_codeAt 12 = .ok (.iload_n 1, 1) := by decide +kernel
theorem dX1_codeAt_13 : decode cX1_codeAt 13 = .ok (.aload_n 0, 1) := by decide +kernel
theorem dX1_codeAt_14 : decode cX1_codeAt 14 = .ok (.getfield 9, 3) := by decide +kernel
theorem dX1_codeAt_17 : decode cX1_codeAt 17 = .ok (.arraylength, 1) := by decide +kernel
theorem dX1_codeAt_18 : decode cX1_codeAt 18 = .ok (.if_icmp .ge 12, 3) := by decide +kernel
theorem dX1_codeAt_21 : decode cX1_codeAt 21 = .ok (.aload_n 0, 1) := by decide +kernel
theorem dX1_codeAt_22 : decode cX1_codeAt 22 = .ok (.getfield 9, 3) := by decide +kernel
theorem dX1_codeAt_25 : decode cX1_codeAt 25 = .ok (.iload_n 1, 1) := by decide +kernel
theorem dX1_codeAt_26 : decode cX1_codeAt 26 = .ok (.iaload, 1) := by decide +kernel
theorem dX1_codeAt_27 : decode cX1_codeAt 27 = .ok (.goto 4, 3) := by decide +kernel
theorem dX1_codeAt_30 : decode cX1_codeAt 30 = .ok (.iconst (-1), 1) := by decide +kernel
theorem dX1_codeAt_31 : decode cX1_codeAt 31 = .ok (.ireturn, 1) := by decide +kernel
theorem dX1_firstFault_0 : decode cX1_firstFault 0 = .ok (.aload_n 0, 1) := by decide +kernel
theorem dX1_firstFault_1 : decode cX1_firstFault 1 = .ok (.getfield 18, 3) := by decide +kernel
theorem dX1_firstFault_4 : decode cX1_firstFault 4 = .ok (.invokevirtual 26, 3) := by decide +kernel
theorem dX1_firstFault_7 : decode cX1_firstFault 7 = .ok (.iconst 0, 1) := by decide +kernel
theorem dX1_firstFault_8 : decode cX1_firstFault 8 = .ok (.istore_n 1, 1) := by decide +kernel
theorem dX1_firstFault_9 : decode cX1_firstFault 9 = .ok (.iload_n 1, 1) := by decide +kernel
theorem dX1_firstFault_10 : decode cX1_firstFault 10 = .ok (.aload_n 0, 1) := by decide +kernel
theorem dX1_firstFault_11 : decode cX1_firstFault 11 = .ok (.getfield 22, 3) := by decide +kernel
theorem dX1_firstFault_14 : decode cX1_firstFault 14 = .ok (.if_icmp .ge 26, 3) := by decide +kernel
theorem dX1_firstFault_17 : decode cX1_firstFault 17 = .ok (.aload_n 0, 1) := by decide +kernel
theorem dX1_firstFault_18 : decode cX1_firstFault 18 = .ok (.getfield 18, 3) := by decide +kernel
theorem dX1_firstFault_21 : decode cX1_firstFault 21 = .ok (.aload_n 0, 1) := by decide +kernel
theorem dX1_firstFault_22 : decode cX1_firstFault 22 = .ok (.iload_n 1, 1) := by decide +kernel
theorem dX1_firstFault_23 : decode cX1_firstFault 23 = .ok (.invokevirtual 29, 3) := by decide +kernel
theorem dX1_firstFault_26 : decode cX1_firstFault 26 = .ok (.invokevirtual 33, 3) := by decide +kernel
theorem dX1_firstFault_29 : decode cX1_firstFault 29 = .ok (.ifCond .ne 5, 3) := by decide +kernel
theorem dX1_firstFault_32 : decode cX1_firstFault 32 = .ok (.iload_n 1, 1) := by decide +kernel
theorem dX1_firstFault_33 : decode cX1_firstFault 33 = .ok (.ireturn, 1) := by decide +kernel
theorem dX1_firstFault_34 : decode cX1_firstFault 34 = .ok (.iinc 1 1, 3) := by decide +kernel
theorem dX1_firstFault_37 : decode cX1_firstFault 37 = .ok (.goto (-28), 3) := by decide +kernel
theorem dX1_firstFault_40 : decode cX1_firstFault 40 = .ok (.aload_n 0, 1) := by decide +kernel
theorem dX1_firstFault_41 : decode cX1_firstFault 41 = .ok (.getfield 22, 3) := by decide +kernel
theorem dX1_firstFault_44 : decode cX1_firstFault 44 = .ok (.ireturn, 1) := by decide +kernel
theorem dX1_isHouse_0 : decode cX1_isHouse 0 = .ok (.aload_n 0, 1) := by decide +kernel
theorem dX1_isHouse_1 : decode cX1_isHouse 1 = .ok (.invokevirtual 37, 3) := by decide +kernel
theorem dX1_isHouse_4 : decode cX1_isHouse 4 = .ok (.aload_n 0, 1) := by decide +kernel
theorem dX1_isHouse_5 : decode cX1_isHouse 5 = .ok (.getfield 22, 3) := by decide +kernel
theorem dX1_isHouse_8 : decode cX1_isHouse 8 = .ok (.if_icmp .ne 17, 3) := by decide +kernel
theorem dX1_isHouse_11 : decode cX1_isHouse 11 = .ok (.aload_n 0, 1) := by decide +kernel
theorem dX1_isHouse_12 : decode cX1_isHouse 12 = .ok (.getfield 18, 3) := by decide +kernel
theorem dX1_isHouse_15 : decode cX1_isHouse 15 = .ok (.invokevirtual 41, 3) := by decide +kernel
theorem dX1_isHouse_18 : decode cX1_isHouse 18 = .ok (.ifCond .eq 7, 3) := by decide +kernel
theorem dX1_isHouse_21 : decode cX1_isHouse 21 = .ok (.iconst 1, 1) := by decide +kernel
theorem dX1_isHouse_22 : decode cX1_isHouse 22 = .ok (.goto 4, 3) := by decide +kernel
theorem dX1_isHouse_25 : decode cX1_isHouse 25 = .ok (.iconst 0, 1) := by decide +kernel
theorem dX1_isHouse_26 : decode cX1_isHouse 26 = .ok (.ireturn, 1) := by decide +kernel
theorem dX2_init_0 : decode cX2_init 0 = .ok (.aload_n 0, 1) := by decide +kernel
theorem dX2_init_1 : decode cX2_init 1 = .ok (.invokespecial 3, 3) := by decide +kernel
theorem dX2_init_4 : decode cX2_init 4 = .ok (.return_, 1) := by decide +kernel
theorem dX2_begin_0 : decode cX2_begin 0 = .ok (.aload_n 0, 1) := by decide +kernel
theorem dX2_begin_1 : decode cX2_begin 1 = .ok (.iconst 0, 1) := by decide +kernel
theorem dX2_begin_2 : decode cX2_begin 2 = .ok (.putfield 9, 3) := by decide +kernel
theorem dX2_begin_5 : decode cX2_begin 5 = .ok (.aload_n 0, 1) := by decide +kernel
theorem dX2_begin_6 : decode cX2_begin 6 = .ok (.iconst 0, 1) := by decide +kernel
theorem dX2_begin_7 : decode cX2_begin 7 = .ok (.putfield 15, 3) := by decide +kernel
theorem dX2_begin_10 : decode cX2_begin 10 = .ok (.aload_n 0, 1) := by decide +kernel
theorem dX2_begin_11 : decode cX2_begin 11 = .ok (.iconst 0, 1) := by decide +kernel
theorem dX2_begin_12 : decode cX2_begin 12 = .ok (.putfield 18, 3) := by decide +kernel
theorem dX2_begin_15 : decode cX2_begin 15 = .ok (.return_, 1) := by decide +kernel
theorem dX2_takes_0 : decode cX2_takes 0 = .ok (.aload_n 0, 1) := by decide +kernel
theorem dX2_takes_1 : decode cX2_takes 1 = .ok (.getfield 9, 3) := by decide +kernel
theorem dX2_takes_4 : decode cX2_takes 4 = .ok (.iconst 4, 1) := by decide +kernel
theorem dX2_takes_5 : decode cX2_takes 5 = .ok (.if_icmp .ge 11, 3) := by decide +kernel
theorem dX2_takes_8 : decode cX2_takes 8 = .ok (.aload_n 0, 1) := by decide +kernel
theorem dX2_takes_9 : decode cX2_takes 9 = .ok (.iload_n 1, 1) := by decide +kernel
theorem dX2_takes_10 : decode cX2_takes 10 = .ok (.invokevirtual 21, 3) := by decide +kernel
theorem dX2_takes_13 : decode cX2_takes 13 = .ok (.goto 8, 3) := by decide +kernel
theorem dX2_takes_16 : decode cX2_takes 16 = .ok (.aload_n 0, 1) := by decide +kernel
theorem dX2_takes_17 : decode cX2_takes 17 = .ok (.iload_n 1, 1) := by decide +kernel
theorem dX2_takes_18 : decode cX2_takes 18 = .ok (.invokevirtual 25, 3) := by decide +kernel
theorem dX2_takes_21 : decode cX2_takes 21 = .ok (.ireturn, 1) := by decide +kernel
theorem dX2_isAtEnd_0 : decode cX2_isAtEnd 0 = .ok (.aload_n 0, 1) := by decide +kernel
theorem dX2_isAtEnd_1 : decode cX2_isAtEnd 1 = .ok (.getfield 9, 3) := by decide +kernel
theorem dX2_isAtEnd_4 : decode cX2_isAtEnd 4 = .ok (.iconst 4, 1) := by decide +kernel
theorem dX2_isAtEnd_5 : decode cX2_isAtEnd 5 = .ok (.if_icmp .ne 15, 3) := by decide +kernel
theorem dX2_isAtEnd_8 : decode cX2_isAtEnd 8 = .ok (.aload_n 0, 1) := by decide +kernel
theorem dX2_isAtEnd_9 : decode cX2_isAtEnd 9 = .ok (.getfield 18, 3) := by decide +kernel
theorem dX2_isAtEnd_12 : decode cX2_isAtEnd 12 = .ok (.iconst 2, 1) := by decide +kernel
theorem dX2_isAtEnd_13 : decode cX2_isAtEnd 13 = .ok (.if_icmp .ne 7, 3) := by decide +kernel
theorem dX2_isAtEnd_16 : decode cX2_isAtEnd 16 = .ok (.iconst 1, 1) := by decide +kernel
theorem dX2_isAtEnd_17 : decode cX2_isAtEnd 17 = .ok (.goto 4, 3) := by decide +kernel
theorem dX2_isAtEnd_20 : decode cX2_isAtEnd 20 = .ok (.iconst 0, 1) := by decide +kernel
theorem dX2_isAtEnd_21 : decode cX2_isAtEnd 21 = .ok (.ireturn, 1) := by decide +kernel
theorem dX2_takesInSaying_0 : decode cX2_takesInSaying 0 = .ok (.iload_n 1, 1) := by decide +kernel
theorem dX2_takesInSaying_1 : decode cX2_takesInSaying 1 = .ok (.bipush 115, 2) := by decide +kernel
theorem dX2_takesInSaying_3 : decode cX2_takesInSaying 3 = .ok (.if_icmp .eq 9, 3) := by decide +kernel
theorem dX2_takesInSaying_6 : decode cX2_takesInSaying 6 = .ok (.iload_n 1, 1) := by decide +kernel
theorem dX2_takesInSaying_7 : decode cX2_takesInSaying 7 = .ok (.bipush 108, 2) := by decide +kernel
theorem dX2_takesInSaying_9 : decode cX2_takesInSaying 9 = .ok (.if_icmp .ne 27, 3) := by decide +kernel
theorem dX2_takesInSaying_12 : decode cX2_takesInSaying 12 = .ok (.aload_n 0, 1) := by decide +kernel
theorem dX2_takesInSaying_13 : decode cX2_takesInSaying 13 = .ok (.dup, 1) := by decide +kernel
theorem dX2_takesInSaying_14 : decode cX2_takesInSaying 14 = .ok (.getfield 18, 3) := by decide +kernel
theorem dX2_takesInSaying_17 : decode cX2_takesInSaying 17 = .ok (.iconst 1, 1) := by decide +kernel
theorem dX2_takesInSaying_18 : decode cX2_takesInSaying 18 = .ok (.iadd, 1) := by decide +kernel
theorem dX2_takesInSaying_19 : decode cX2_takesInSaying 19 = .ok (.putfield 18, 3) := by decide +kernel
theorem dX2_takesInSaying_22 : decode cX2_takesInSaying 22 = .ok (.aload_n 0, 1) := by decide +kernel
theorem dX2_takesInSaying_23 : decode cX2_takesInSaying 23 = .ok (.getfield 18, 3) := by decide +kernel
theorem dX2_takesInSaying_26 : decode cX2_takesInSaying 26 = .ok (.iconst 4, 1) := by decide +kernel
theorem dX2_takesInSaying_27 : decode cX2_takesInSaying 27 = .ok (.if_icmp .gt 7, 3) := by decide +kernel
theorem dX2_takesInSaying_30 : decode cX2_takesInSaying 30 = .ok (.iconst 1, 1) := by decide +kernel
theorem dX2_takesInSaying_31 : decode cX2_takesInSaying 31 = .ok (.goto 4, 3) := by decide +kernel
theorem dX2_takesInSaying_34 : decode cX2_takesInSaying 34 = .ok (.iconst 0, 1) := by decide +kernel
theorem dX2_takesInSaying_35 : decode cX2_takesInSaying 35 = .ok (.ireturn, 1) := by decide +kernel
theorem dX2_takesInSaying_36 : decode cX2_takesInSaying 36 = .ok (.aload_n 0, 1) := by decide +kernel
theorem dX2_takesInSaying_37 : decode cX2_takesInSaying 37 = .ok (.getfield 9, 3) := by decide +kernel
theorem dX2_takesInSaying_40 : decode cX2_takesInSaying 40 = .ok (.iconst 3, 1) := by decide +kernel
theorem dX2_takesInSaying_41 : decode cX2_takesInSaying 41 = .ok (.if_icmp .ne 8, 3) := by decide +kernel
theorem dX2_takesInSaying_44 : decode cX2_takesInSaying 44 = .ok (.bipush 59, 2) := by decide +kernel
theorem dX2_takesInSaying_46 : decode cX2_takesInSaying 46 = .ok (.goto 5, 3) := by decide +kernel
theorem dX2_takesInSaying_49 : decode cX2_takesInSaying 49 = .ok (.bipush 44, 2) := by decide +kernel
theorem dX2_takesInSaying_51 : decode cX2_takesInSaying 51 = .ok (.istore_n 2, 1) := by decide +kernel
theorem dX2_takesInSaying_52 : decode cX2_takesInSaying 52 = .ok (.aload_n 0, 1) := by decide +kernel
theorem dX2_takesInSaying_53 : decode cX2_takesInSaying 53 = .ok (.getfield 18, 3) := by decide +kernel
theorem dX2_takesInSaying_56 : decode cX2_takesInSaying 56 = .ok (.ifCond .eq 8, 3) := by decide +kernel
theorem dX2_takesInSaying_59 : decode cX2_takesInSaying 59 = .ok (.iload_n 1, 1) := by decide +kernel
theorem dX2_takesInSaying_60 : decode cX2_takesInSaying 60 = .ok (.iload_n 2, 1) := by decide +kernel
theorem dX2_takesInSaying_61 : decode cX2_takesInSaying 61 = .ok (.if_icmp .eq 5, 3) := by decide +kernel
theorem dX2_takesInSaying_64 : decode cX2_takesInSaying 64 = .ok (.iconst 0, 1) := by decide +kernel
theorem dX2_takesInSaying_65 : decode cX2_takesInSaying 65 = .ok (.ireturn, 1) := by decide +kernel
theorem dX2_takesInSaying_66 : decode cX2_takesInSaying 66 = .ok (.aload_n 0, 1) := by decide +kernel
theorem dX2_takesInSaying_67 : decode cX2_takesInSaying 67 = .ok (.dup, 1) := by decide +kernel
theorem dX2_takesInSaying_68 : decode cX2_takesInSaying 68 = .ok (.getfield 9, 3) := by decide +kernel
theorem dX2_takesInSaying_71 : decode cX2_takesInSaying 71 = .ok (.iconst 1, 1) := by decide +kernel
theorem dX2_takesInSaying_72 : decode cX2_takesInSaying 72 = .ok (.iadd, 1) := by decide +kernel
theorem dX2_takesInSaying_73 : decode cX2_takesInSaying 73 = .ok (.putfield 9, 3) := by decide +kernel
theorem dX2_takesInSaying_76 : decode cX2_takesInSaying 76 = .ok (.aload_n 0, 1) := by decide +kernel
theorem dX2_takesInSaying_77 : decode cX2_takesInSaying 77 = .ok (.iconst 0, 1) := by decide +kernel
theorem dX2_takesInSaying_78 : decode cX2_takesInSaying 78 = .ok (.putfield 18, 3) := by decide +kernel
theorem dX2_takesInSaying_81 : decode cX2_takesInSaying 81 = .ok (.iconst 1, 1) := by decide +kernel
theorem dX2_takesInSaying_82 : decode cX2_takesInSaying 82 = .ok (.ireturn, 1) := by decide +kernel
theorem dX2_takesInTap_0 : decode cX2_takesInTap 0 = .ok (.aload_n 0, 1) := by decide +kernel
theorem dX2_takesInTap_1 : decode cX2_takesInTap 1 = .ok (.getfield 18, 3) := by decide +kernel
theorem dX2_takesInTap_4 : decode cX2_takesInTap 4 = .ok (.ifCond .ne 22, 3) := by decide +kernel
theorem dX2_takesInTap_7 : decode cX2_takesInTap 7 = .ok (.aload_n 0, 1) := by decide +kernel
theorem dX2_takesInTap_8 : decode cX2_takesInTap 8 = .ok (.iconst 1, 1) := by decide +kernel
theorem dX2_takesInTap_9 : decode cX2_takesInTap 9 = .ok (.putfield 18, 3) := by decide +kernel
theorem dX2_takesInTap_12 : decode cX2_takesInTap 12 = .ok (.iload_n 1, 1) := by decide +kernel
theorem dX2_takesInTap_13 : decode cX2_takesInTap 13 = .ok (.invokestatic 28, 3) := by decide +kernel
theorem dX2_takesInTap_16 : decode cX2_takesInTap 16 = .ok (.iconst (-1), 1) := by decide +kernel
theorem dX2_takesInTap_17 : decode cX2_takesInTap 17 = .ok (.if_icmp .eq 7, 3) := by decide +kernel
theorem dX2_takesInTap_20 : decode cX2_takesInTap 20 = .ok (.iconst 1, 1) := by decide +kernel
theorem dX2_takesInTap_21 : decode cX2_takesInTap 21 = .ok (.goto 4, 3) := by decide +kernel
theorem dX2_takesInTap_24 : decode cX2_takesInTap 24 = .ok (.iconst 0, 1) := by decide +kernel
theorem dX2_takesInTap_25 : decode cX2_takesInTap 25 = .ok (.ireturn, 1) := by decide +kernel
theorem dX2_takesInTap_26 : decode cX2_takesInTap 26 = .ok (.aload_n 0, 1) := by decide +kernel
theorem dX2_takesInTap_27 : decode cX2_takesInTap 27 = .ok (.getfield 18, 3) := by decide +kernel
theorem dX2_takesInTap_30 : decode cX2_takesInTap 30 = .ok (.iconst 1, 1) := by decide +kernel
theorem dX2_takesInTap_31 : decode cX2_takesInTap 31 = .ok (.if_icmp .ne 26, 3) := by decide +kernel
theorem dX2_takesInTap_34 : decode cX2_takesInTap 34 = .ok (.aload_n 0, 1) := by decide +kernel
theorem dX2_takesInTap_35 : decode cX2_takesInTap 35 = .ok (.iconst 2, 1) := by decide +kernel
theorem dX2_takesInTap_36 : decode cX2_takesInTap 36 = .ok (.putfield 18, 3) := by decide +kernel
theorem dX2_takesInTap_39 : decode cX2_takesInTap 39 = .ok (.aload_n 0, 1) := by decide +kernel
theorem dX2_takesInTap_40 : decode cX2_takesInTap 40 = .ok (.dup, 1) := by decide +kernel
theorem dX2_takesInTap_41 : decode cX2_takesInTap 41 = .ok (.getfield 15, 3) := by decide +kernel
theorem dX2_takesInTap_44 : decode cX2_takesInTap 44 = .ok (.iconst 1, 1) := by decide +kernel
theorem dX2_takesInTap_45 : decode cX2_takesInTap 45 = .ok (.iadd, 1) := by decide +kernel
theorem dX2_takesInTap_46 : decode cX2_takesInTap 46 = .ok (.putfield 15, 3) := by decide +kernel
theorem dX2_takesInTap_49 : decode cX2_takesInTap 49 = .ok (.iload_n 1, 1) := by decide +kernel
theorem dX2_takesInTap_50 : decode cX2_takesInTap 50 = .ok (.bipush 48, 2) := by decide +kernel
theorem dX2_takesInTap_52 : decode cX2_takesInTap 52 = .ok (.isub, 1) := by decide +kernel
theorem dX2_takesInTap_53 : decode cX2_takesInTap 53 = .ok (.invokestatic 32, 3) := by decide +kernel
theorem dX2_takesInTap_56 : decode cX2_takesInTap 56 = .ok (.ireturn, 1) := by decide +kernel
theorem dX2_takesInTap_57 : decode cX2_takesInTap 57 = .ok (.aload_n 0, 1) := by decide +kernel
theorem dX2_takesInTap_58 : decode cX2_takesInTap 58 = .ok (.iconst 0, 1) := by decide +kernel
theorem dX2_takesInTap_59 : decode cX2_takesInTap 59 = .ok (.putfield 18, 3) := by decide +kernel
theorem dX2_takesInTap_62 : decode cX2_takesInTap 62 = .ok (.iload_n 1, 1) := by decide +kernel
theorem dX2_takesInTap_63 : decode cX2_takesInTap 63 = .ok (.bipush 44, 2) := by decide +kernel
theorem dX2_takesInTap_65 : decode cX2_takesInTap 65 = .ok (.if_icmp .ne 15, 3) := by decide +kernel
theorem dX2_takesInTap_68 : decode cX2_takesInTap 68 = .ok (.aload_n 0, 1) := by decide +kernel
theorem dX2_takesInTap_69 : decode cX2_takesInTap 69 = .ok (.getfield 15, 3) := by decide +kernel
theorem dX2_takesInTap_72 : decode cX2_takesInTap 72 = .ok (.iconst 3, 1) := by decide +kernel
theorem dX2_takesInTap_73 : decode cX2_takesInTap 73 = .ok (.if_icmp .ge 7, 3) := by decide +kernel
theorem dX2_takesInTap_76 : decode cX2_takesInTap 76 = .ok (.iconst 1, 1) := by decide +kernel
theorem dX2_takesInTap_77 : decode cX2_takesInTap 77 = .ok (.goto 4, 3) := by decide +kernel
theorem dX2_takesInTap_80 : decode cX2_takesInTap 80 = .ok (.iconst 0, 1) := by decide +kernel
theorem dX2_takesInTap_81 : decode cX2_takesInTap 81 = .ok (.ireturn, 1) := by decide +kernel
theorem dX3_init_0 : decode cX3_init 0 = .ok (.aload_n 0, 1) := by decide +kernel
theorem dX3_init_1 : decode cX3_init 1 = .ok (.invokespecial 3, 3) := by decide +kernel
theorem dX3_init_4 : decode cX3_init 4 = .ok (.aload_n 0, 1) := by decide +kernel
theorem dX3_init_5 : decode cX3_init 5 = .ok (.iconst 5, 1) := by decide +kernel
theorem dX3_init_6 : decode cX3_init 6 = .ok (.anewarray 9, 3) := by decide +kernel
theorem dX3_init_9 : decode cX3_init 9 = .ok (.putfield 11, 3) := by decide +kernel
theorem dX3_init_12 : decode cX3_init 12 = .ok (.iconst 0, 1) := by decide +kernel
theorem dX3_init_13 : decode cX3_init 13 = .ok (.istore_n 1, 1) := by decide +kernel
theorem dX3_init_14 : decode cX3_init 14 = .ok (.iload_n 1, 1) := by decide +kernel
theorem dX3_init_15 : decode cX3_init 15 = .ok (.aload_n 0, 1) := by decide +kernel
theorem dX3_init_16 : decode cX3_init 16 = .ok (.getfield 11, 3) := by decide +kernel
theorem dX3_init_19 : decode cX3_init 19 = .ok (.arraylength, 1) := by decide +kernel
theorem dX3_init_20 : decode cX3_init 20 = .ok (.if_icmp .ge 23, 3) := by decide +kernel
theorem dX3_init_23 : decode cX3_init 23 = .ok (.aload_n 0, 1) := by decide +kernel
theorem dX3_init_24 : decode cX3_init 24 = .ok (.getfield 11, 3) := by decide +kernel
theorem dX3_init_27 : decode cX3_init 27 = .ok (.iload_n 1, 1) := by decide +kernel
theorem dX3_init_28 : decode cX3_init 28 = .ok (.new 9, 3) := by decide +kernel
theorem dX3_init_31 : decode cX3_init 31 = .ok (.dup, 1) := by decide +kernel
theorem dX3_init_32 : decode cX3_init 32 = .ok (.iload_n 1, 1) := by decide +kernel
theorem dX3_init_33 : decode cX3_init 33 = .ok (.invokespecial 17, 3) := by decide +kernel
theorem dX3_init_36 : decode cX3_init 36 = .ok (.aastore, 1) := by decide +kernel
theorem dX3_init_37 : decode cX3_init 37 = .ok (.iinc 1 1, 3) := by decide +kernel
theorem dX3_init_40 : decode cX3_init 40 = .ok (.goto (-26), 3) := by decide +kernel
theorem dX3_init_43 : decode cX3_init 43 = .ok (.aload_n 0, 1) := by decide +kernel
theorem dX3_init_44 : decode cX3_init 44 = .ok (.bipush 8, 2) := by decide +kernel
theorem dX3_init_46 : decode cX3_init 46 = .ok (.anewarray 20, 3) := by decide +kernel
theorem dX3_init_49 : decode cX3_init 49 = .ok (.putfield 22, 3) := by decide +kernel
theorem dX3_init_52 : decode cX3_init 52 = .ok (.iconst 0, 1) := by decide +kernel
theorem dX3_init_53 : decode cX3_init 53 = .ok (.istore_n 1, 1) := by decide +kernel
theorem dX3_init_54 : decode cX3_init 54 = .ok (.iload_n 1, 1) := by decide +kernel
theorem dX3_init_55 : decode cX3_init 55 = .ok (.aload_n 0, 1) := by decide +kernel
theorem dX3_init_56 : decode cX3_init 56 = .ok (.getfield 22, 3) := by decide +kernel
theorem dX3_init_59 : decode cX3_init 59 = .ok (.arraylength, 1) := by decide +kernel
theorem dX3_init_60 : decode cX3_init 60 = .ok (.if_icmp .ge 22, 3) := by decide +kernel
theorem dX3_init_63 : decode cX3_init 63 = .ok (.aload_n 0, 1) := by decide +kernel
theorem dX3_init_64 : decode cX3_init 64 = .ok (.getfield 22, 3) := by decide +kernel
theorem dX3_init_67 : decode cX3_init 67 = .ok (.iload_n 1, 1) := by decide +kernel
theorem dX3_init_68 : decode cX3_init 68 = .ok (.new 20, 3) := by decide +kernel
theorem dX3_init_71 : decode cX3_init 71 = .ok (.dup, 1) := by decide +kernel
theorem dX3_init_72 : decode cX3_init 72 = .ok (.invokespecial 26, 3) := by decide +kernel
theorem dX3_init_75 : decode cX3_init 75 = .ok (.aastore, 1) := by decide +kernel
theorem dX3_init_76 : decode cX3_init 76 = .ok (.iinc 1 1, 3) := by decide +kernel
theorem dX3_init_79 : decode cX3_init 79 = .ok (.goto (-25), 3) := by decide +kernel
theorem dX3_init_82 : decode cX3_init 82 = .ok (.return_, 1) := by decide +kernel
theorem dX3_clear_0 : decode cX3_clear 0 = .ok (.aload_n 0, 1) := by decide +kernel
theorem dX3_clear_1 : decode cX3_clear 1 = .ok (.iconst 0, 1) := by decide +kernel
theorem dX3_clear_2 : decode cX3_clear 2 = .ok (.putfield 27, 3) := by decide +kernel
theorem dX3_clear_5 : decode cX3_clear 5 = .ok (.aload_n 0, 1) := by decide +kernel
theorem dX3_clear_6 : decode cX3_clear 6 = .ok (.iconst 0, 1) := by decide +kernel
theorem dX3_clear_7 : decode cX3_clear 7 = .ok (.putfield 31, 3) := by decide +kernel
theorem dX3_clear_10 : decode cX3_clear 10 = .ok (.aload_n 0, 1) := by decide +kernel
theorem dX3_clear_11 : decode cX3_clear 11 = .ok (.iconst 0, 1) := by decide +kernel
theorem dX3_clear_12 : decode cX3_clear 12 = .ok (.putfield 34, 3) := by decide +kernel
theorem dX3_clear_15 : decode cX3_clear 15 = .ok (.return_, 1) := by decide +kernel
theorem dX3_tapAt_0 : decode cX3_tapAt 0 = .ok (.iload_n 1, 1) := by decide +kernel
theorem dX3_tapAt_1 : decode cX3_tapAt 1 = .ok (.ifCond .lt 29, 3) := by decide +kernel
theorem dX3_tapAt_4 : decode cX3_tapAt 4 = .ok (.iload_n 1, 1) := by decide +kernel
theorem dX3_tapAt_5 : decode cX3_tapAt 5 = .ok (.aload_n 0, 1) := by decide +kernel
theorem dX3_tapAt_6 : decode cX3_tapAt 6 = .ok (.getfield 27, 3) := by decide +kernel
theorem dX3_tapAt_9 : decode cX3_tapAt 9 = .ok (.if_icmp .ge 21, 3) := by decide +kernel
theorem dX3_tapAt_12 : decode cX3_tapAt 12 = .ok (.iload_n 1, 1) := by decide +kernel
theorem dX3_tapAt_13 : decode cX3_tapAt 13 = .ok (.aload_n 0, 1) := by decide +kernel
theorem dX3_tapAt_14 : decode cX3_tapAt 14 = .ok (.getfield 11, 3) := by decide +kernel
theorem dX3_tapAt_17 : decode cX3_tapAt 17 = .ok (.arraylength, 1) := by decide +kernel
theorem dX3_tapAt_18 : decode cX3_tapAt 18 = .ok (.if_icmp .ge 12, 3) := by decide +kernel
theorem dX3_tapAt_21 : decode cX3_tapAt 21 = .ok (.aload_n 0, 1) := by decide +kernel
theorem dX3_tapAt_22 : decode cX3_tapAt 22 = .ok (.getfield 11, 3) := by decide +kernel
theorem dX3_tapAt_25 : decode cX3_tapAt 25 = .ok (.iload_n 1, 1) := by decide +kernel
theorem dX3_tapAt_26 : decode cX3_tapAt 26 = .ok (.aaload, 1) := by decide +kernel
theorem dX3_tapAt_27 : decode cX3_tapAt 27 = .ok (.goto 4, 3) := by decide +kernel
theorem dX3_tapAt_30 : decode cX3_tapAt 30 = .ok (.aconst_null, 1) := by decide +kernel
theorem dX3_tapAt_31 : decode cX3_tapAt 31 = .ok (.areturn, 1) := by decide +kernel
theorem dX3_noteAt_0 : decode cX3_noteAt 0 = .ok (.iload_n 1, 1) := by decide +kernel
theorem dX3_noteAt_1 : decode cX3_noteAt 1 = .ok (.ifCond .lt 29, 3) := by decide +kernel
theorem dX3_noteAt_4 : decode cX3_noteAt 4 = .ok (.iload_n 1, 1) := by decide +kernel
theorem dX3_noteAt_5 : decode cX3_noteAt 5 = .ok (.aload_n 0, 1) := by decide +kernel
theorem dX3_noteAt_6 : decode cX3_noteAt 6 = .ok (.getfield 31, 3) := by decide +kernel
theorem dX3_noteAt_9 : decode cX3_noteAt 9 = .ok (.if_icmp .ge 21, 3) := by decide +kernel
theorem dX3_noteAt_12 : decode cX3_noteAt 12 = .ok (.iload_n 1, 1) := by decide +kernel
theorem dX3_noteAt_13 : decode cX3_noteAt 13 = .ok (.aload_n 0, 1) := by decide +kernel
theorem dX3_noteAt_14 : decode cX3_noteAt 14 = .ok (.getfield 22, 3) := by decide +kernel
theorem dX3_noteAt_17 : decode cX3_noteAt 17 = .ok (.arraylength, 1) := by decide +kernel
theorem dX3_noteAt_18 : decode cX3_noteAt 18 = .ok (.if_icmp .ge 12, 3) := by decide +kernel
theorem dX3_noteAt_21 : decode cX3_noteAt 21 = .ok (.aload_n 0, 1) := by decide +kernel
theorem dX3_noteAt_22 : decode cX3_noteAt 22 = .ok (.getfield 22, 3) := by decide +kernel
theorem dX3_noteAt_25 : decode cX3_noteAt 25 = .ok (.iload_n 1, 1) := by decide +kernel
theorem dX3_noteAt_26 : decode cX3_noteAt 26 = .ok (.aaload, 1) := by decide +kernel
theorem dX3_noteAt_27 : decode cX3_noteAt 27 = .ok (.goto 4, 3) := by decide +kernel
theorem dX3_noteAt_30 : decode cX3_noteAt 30 = .ok (.aconst_null, 1) := by decide +kernel
theorem dX3_noteAt_31 : decode cX3_noteAt 31 = .ok (.areturn, 1) := by decide +kernel
theorem dX3_addTap_0 : decode cX3_addTap 0 = .ok (.aload_n 0, 1) := by decide +kernel
theorem dX3_addTap_1 : decode cX3_addTap 1 = .ok (.getfield 27, 3) := by decide +kernel
theorem dX3_addTap_4 : decode cX3_addTap 4 = .ok (.iconst 5, 1) := by decide +kernel
theorem dX3_addTap_5 : decode cX3_addTap 5 = .ok (.if_icmp .lt 4, 3) := by decide +kernel
theorem dX3_addTap_8 : decode cX3_addTap 8 = .ok (.return_, 1) := by decide +kernel
theorem dX3_addTap_9 : decode cX3_addTap 9 = .ok (.aload_n 0, 1) := by decide +kernel
theorem dX3_addTap_10 : decode cX3_addTap 10 = .ok (.dup, 1) := by decide +kernel
theorem dX3_addTap_11 : decode cX3_addTap 11 = .ok (.getfield 27, 3) := by decide +kernel
theorem dX3_addTap_14 : decode cX3_addTap 14 = .ok (.iconst 1, 1) := by decide +kernel
theorem dX3_addTap_15 : decode cX3_addTap 15 = .ok (.iadd, 1) := by decide +kernel
theorem dX3_addTap_16 : decode cX3_addTap 16 = .ok (.putfield 27, 3) := by decide +kernel
theorem dX3_addTap_19 : decode cX3_addTap 19 = .ok (.aload_n 0, 1) := by decide +kernel
theorem dX3_addTap_20 : decode cX3_addTap 20 = .ok (.aload_n 0, 1) := by decide +kernel
theorem dX3_addTap_21 : decode cX3_addTap 21 = .ok (.getfield 27, 3) := by decide +kernel
theorem dX3_addTap_24 : decode cX3_addTap 24 = .ok (.iconst 1, 1) := by decide +kernel
theorem dX3_addTap_25 : decode cX3_addTap 25 = .ok (.isub, 1) := by decide +kernel
theorem dX3_addTap_26 : decode cX3_addTap 26 = .ok (.invokevirtual 37, 3) := by decide +kernel
theorem dX3_addTap_29 : decode cX3_addTap 29 = .ok (.astore_n 3, 1) := by decide +kernel
theorem dX3_addTap_30 : decode cX3_addTap 30 = .ok (.aload_n 3, 1) := by decide +kernel
theorem dX3_addTap_31 : decode cX3_addTap 31 = .ok (.ifnull 11, 3) := by decide +kernel
theorem dX3_addTap_34 : decode cX3_addTap 34 = .ok (.aload_n 3, 1) := by decide +kernel
theorem dX3_addTap_35 : decode cX3_addTap 35 = .ok (.iload_n 1, 1) := by decide +kernel
theorem dX3_addTap_36 : decode cX3_addTap 36 = .ok (.iload_n 2, 1) := by decide +kernel
theorem dX3_addTap_37 : decode cX3_addTap 37 = .ok (.iconst 0, 1) := by decide +kernel
theorem dX3_addTap_38 : decode cX3_addTap 38 = .ok (.iconst 0, 1) := by decide +kernel
theorem dX3_addTap_39 : decode cX3_addTap 39 = .ok (.invokevirtual 41, 3) := by decide +kernel
theorem dX3_addTap_42 : decode cX3_addTap 42 = .ok (.return_, 1) := by decide +kernel
theorem dX3_addNote_0 : decode cX3_addNote 0 = .ok (.aload_n 0, 1) := by decide +kernel
theorem dX3_addNote_1 : decode cX3_addNote 1 = .ok (.getfield 31, 3) := by decide +kernel
theorem dX3_addNote_4 : decode cX3_addNote 4 = .ok (.bipush 8, 2) := by decide +kernel
theorem dX3_addNote_6 : decode cX3_addNote 6 = .ok (.if_icmp .lt 4, 3) := by decide +kernel
theorem dX3_addNote_9 : decode cX3_addNote 9 = .ok (.return_, 1) := by decide +kernel
theorem dX3_addNote_10 : decode cX3_addNote 10 = .ok (.aload_n 0, 1) := by decide +kernel
theorem dX3_addNote_11 : decode cX3_addNote 11 = .ok (.dup, 1) := by decide +kernel
theorem dX3_addNote_12 : decode cX3_addNote 12 = .ok (.getfield 31, 3) := by decide +kernel
theorem dX3_addNote_15 : decode cX3_addNote 15 = .ok (.iconst 1, 1) := by decide +kernel
theorem dX3_addNote_16 : decode cX3_addNote 16 = .ok (.iadd, 1) := by decide +kernel
theorem dX3_addNote_17 : decode cX3_addNote 17 = .ok (.putfield 31, 3) := by decide +kernel
theorem dX3_addNote_20 : decode cX3_addNote 20 = .ok (.aload_n 0, 1) := by decide +kernel
theorem dX3_addNote_21 : decode cX3_addNote 21 = .ok (.aload_n 0, 1) := by decide +kernel
theorem dX3_addNote_22 : decode cX3_addNote 22 = .ok (.getfield 31, 3) := by decide +kernel
theorem dX3_addNote_25 : decode cX3_addNote 25 = .ok (.iconst 1, 1) := by decide +kernel
theorem dX3_addNote_26 : decode cX3_addNote 26 = .ok (.isub, 1) := by decide +kernel
theorem dX3_addNote_27 : decode cX3_addNote 27 = .ok (.invokevirtual 45, 3) := by decide +kernel
theorem dX3_addNote_30 : decode cX3_addNote 30 = .ok (.astore 4, 2) := by decide +kernel
theorem dX3_addNote_32 : decode cX3_addNote 32 = .ok (.aload 4, 2) := by decide +kernel
theorem dX3_addNote_34 : decode cX3_addNote 34 = .ok (.ifnull 18, 3) := by decide +kernel
theorem dX3_addNote_37 : decode cX3_addNote 37 = .ok (.aload 4, 2) := by decide +kernel
theorem dX3_addNote_39 : decode cX3_addNote 39 = .ok (.aload_n 1, 1) := by decide +kernel
theorem dX3_addNote_40 : decode cX3_addNote 40 = .ok (.getfield 49, 3) := by decide +kernel
theorem dX3_addNote_43 : decode cX3_addNote 43 = .ok (.iload_n 2, 1) := by decide +kernel
theorem dX3_addNote_44 : decode cX3_addNote 44 = .ok (.iload_n 3, 1) := by decide +kernel
theorem dX3_addNote_45 : decode cX3_addNote 45 = .ok (.aload_n 1, 1) := by decide +kernel
theorem dX3_addNote_46 : decode cX3_addNote 46 = .ok (.getfield 52, 3) := by decide +kernel
theorem dX3_addNote_49 : decode cX3_addNote 49 = .ok (.invokevirtual 55, 3) := by decide +kernel
theorem dX3_addNote_52 : decode cX3_addNote 52 = .ok (.return_, 1) := by decide +kernel
theorem dX3_copyFrom_0 : decode cX3_copyFrom 0 = .ok (.aload_n 0, 1) := by decide +kernel
theorem dX3_copyFrom_1 : decode cX3_copyFrom 1 = .ok (.aload_n 1, 1) := by decide +kernel
theorem dX3_copyFrom_2 : decode cX3_copyFrom 2 = .ok (.getfield 27, 3) := by decide +kernel
theorem dX3_copyFrom_5 : decode cX3_copyFrom 5 = .ok (.putfield 27, 3) := by decide +kernel
theorem dX3_copyFrom_8 : decode cX3_copyFrom 8 = .ok (.aload_n 0, 1) := by decide +kernel
theorem dX3_copyFrom_9 : decode cX3_copyFrom 9 = .ok (.aload_n 1, 1) := by decide +kernel
theorem dX3_copyFrom_10 : decode cX3_copyFrom 10 = .ok (.getfield 31, 3) := by decide +kernel
theorem dX3_copyFrom_13 : decode cX3_copyFrom 13 = .ok (.putfield 31, 3) := by decide +kernel
theorem dX3_copyFrom_16 : decode cX3_copyFrom 16 = .ok (.aload_n 0, 1) := by decide +kernel
theorem dX3_copyFrom_17 : decode cX3_copyFrom 17 = .ok (.aload_n 1, 1) := by decide +kernel
theorem dX3_copyFrom_18 : decode cX3_copyFrom 18 = .ok (.getfield 34, 3) := by decide +kernel
theorem dX3_copyFrom_21 : decode cX3_copyFrom 21 = .ok (.putfield 34, 3) := by decide +kernel
theorem dX3_copyFrom_24 : decode cX3_copyFrom 24 = .ok (.iconst 0, 1) := by decide +kernel
theorem dX3_copyFrom_25 : decode cX3_copyFrom 25 = .ok (.istore_n 2, 1) := by decide +kernel
theorem dX3_copyFrom_26 : decode cX3_copyFrom 26 = .ok (.iload_n 2, 1) := by decide +kernel
theorem dX3_copyFrom_27 : decode cX3_copyFrom 27 = .ok (.aload_n 0, 1) := by decide +kernel
theorem dX3_copyFrom_28 : decode cX3_copyFrom 28 = .ok (.getfield 27, 3) := by decide +kernel
theorem dX3_copyFrom_31 : decode cX3_copyFrom 31 = .ok (.if_icmp .ge 58, 3) := by decide +kernel
theorem dX3_copyFrom_34 : decode cX3_copyFrom 34 = .ok (.aload_n 0, 1) := by decide +kernel
theorem dX3_copyFrom_35 : decode cX3_copyFrom 35 = .ok (.iload_n 2, 1) := by decide +kernel
theorem dX3_copyFrom_36 : decode cX3_copyFrom 36 = .ok (.invokevirtual 37, 3) := by decide +kernel
theorem dX3_copyFrom_39 : decode cX3_copyFrom 39 = .ok (.astore_n 3, 1) := by decide +kernel
theorem dX3_copyFrom_40 : decode cX3_copyFrom 40 = .ok (.aload_n 1, 1) := by decide +kernel
theorem dX3_copyFrom_41 : decode cX3_copyFrom 41 = .ok (.iload_n 2, 1) := by decide +kernel
theorem dX3_copyFrom_42 : decode cX3_copyFrom 42 = .ok (.invokevirtual 37, 3) := by decide +kernel
theorem dX3_copyFrom_45 : decode cX3_copyFrom 45 = .ok (.astore 4, 2) := by decide +kernel
theorem dX3_copyFrom_47 : decode cX3_copyFrom 47 = .ok (.aload_n 3, 1) := by decide +kernel
theorem dX3_copyFrom_48 : decode cX3_copyFrom 48 = .ok (.ifnull 35, 3) := by decide +kernel
theorem dX3_copyFrom_51 : decode cX3_copyFrom 51 = .ok (.aload 4, 2) := by decide +kernel
theorem dX3_copyFrom_53 : decode cX3_copyFrom 53 = .ok (.ifnonnull 6, 3) := by decide +kernel
theorem dX3_copyFrom_56 : decode cX3_copyFrom 56 = .ok (.goto 27, 3) := by decide +kernel
theorem dX3_copyFrom_59 : decode cX3_copyFrom 59 = .ok (.aload_n 3, 1) := by decide +kernel
theorem dX3_copyFrom_60 : decode cX3_copyFrom 60 = .ok (.aload 4, 2) := by decide +kernel
theorem dX3_copyFrom_62 : decode cX3_copyFrom 62 = .ok (.getfield 56, 3) := by decide +kernel
theorem dX3_copyFrom_65 : decode cX3_copyFrom 65 = .ok (.aload 4, 2) := by decide +kernel
theorem dX3_copyFrom_67 : decode cX3_copyFrom 67 = .ok (.getfield 59, 3) := by decide +kernel
theorem dX3_copyFrom_70 : decode cX3_copyFrom 70 = .ok (.aload 4, 2) := by decide +kernel
theorem dX3_copyFrom_72 : decode cX3_copyFrom 72 = .ok (.getfield 52, 3) := by decide +kernel
theorem dX3_copyFrom_75 : decode cX3_copyFrom 75 = .ok (.aload 4, 2) := by decide +kernel
theorem dX3_copyFrom_77 : decode cX3_copyFrom 77 = .ok (.getfield 62, 3) := by decide +kernel
theorem dX3_copyFrom_80 : decode cX3_copyFrom 80 = .ok (.invokevirtual 41, 3) := by decide +kernel
theorem dX3_copyFrom_83 : decode cX3_copyFrom 83 = .ok (.iinc 2 1, 3) := by decide +kernel
theorem dX3_copyFrom_86 : decode cX3_copyFrom 86 = .ok (.goto (-60), 3) := by decide +kernel
theorem dX3_copyFrom_89 : decode cX3_copyFrom 89 = .ok (.iconst 0, 1) := by decide +kernel
theorem dX3_copyFrom_90 : decode cX3_copyFrom 90 = .ok (.istore_n 2, 1) := by decide +kernel
theorem dX3_copyFrom_91 : decode cX3_copyFrom 91 = .ok (.iload_n 2, 1) := by decide +kernel
theorem dX3_copyFrom_92 : decode cX3_copyFrom 92 = .ok (.aload_n 0, 1) := by decide +kernel
theorem dX3_copyFrom_93 : decode cX3_copyFrom 93 = .ok (.getfield 31, 3) := by decide +kernel
theorem dX3_copyFrom_96 : decode cX3_copyFrom 96 = .ok (.if_icmp .ge 58, 3) := by decide +kernel
theorem dX3_copyFrom_99 : decode cX3_copyFrom 99 = .ok (.aload_n 0, 1) := by decide +kernel
theorem dX3_copyFrom_100 : decode cX3_copyFrom 100 = .ok (.iload_n 2, 1) := by decide +kernel
theorem dX3_copyFrom_101 : decode cX3_copyFrom 101 = .ok (.invokevirtual 45, 3) := by decide +kernel
theorem dX3_copyFrom_104 : decode cX3_copyFrom 104 = .ok (.astore_n 3, 1) := by decide +kernel
theorem dX3_copyFrom_105 : decode cX3_copyFrom 105 = .ok (.aload_n 1, 1) := by decide +kernel
theorem dX3_copyFrom_106 : decode cX3_copyFrom 106 = .ok (.iload_n 2, 1) := by decide +kernel
theorem dX3_copyFrom_107 : decode cX3_copyFrom 107 = .ok (.invokevirtual 45, 3) := by decide +kernel
theorem dX3_copyFrom_110 : decode cX3_copyFrom 110 = .ok (.astore 4, 2) := by decide +kernel
theorem dX3_copyFrom_112 : decode cX3_copyFrom 112 = .ok (.aload_n 3, 1) := by decide +kernel
theorem dX3_copyFrom_113 : decode cX3_copyFrom 113 = .ok (.ifnull 35, 3) := by decide +kernel
theorem dX3_copyFrom_116 : decode cX3_copyFrom 116 = .ok (.aload 4, 2) := by decide +kernel
theorem dX3_copyFrom_118 : decode cX3_copyFrom 118 = .ok (.ifnonnull 6, 3) := by decide +kernel
theorem dX3_copyFrom_121 : decode cX3_copyFrom 121 = .ok (.goto 27, 3) := by decide +kernel
theorem dX3_copyFrom_124 : decode cX3_copyFrom 124 = .ok (.aload_n 3, 1) := by decide +kernel
theorem dX3_copyFrom_125 : decode cX3_copyFrom 125 = .ok (.aload 4, 2) := by decide +kernel
theorem dX3_copyFrom_127 : decode cX3_copyFrom 127 = .ok (.getfield 65, 3) := by decide +kernel
theorem dX3_copyFrom_130 : decode cX3_copyFrom 130 = .ok (.aload 4, 2) := by decide +kernel
theorem dX3_copyFrom_132 : decode cX3_copyFrom 132 = .ok (.getfield 68, 3) := by decide +kernel
theorem dX3_copyFrom_135 : decode cX3_copyFrom 135 = .ok (.aload 4, 2) := by decide +kernel
theorem dX3_copyFrom_137 : decode cX3_copyFrom 137 = .ok (.getfield 71, 3) := by decide +kernel
theorem dX3_copyFrom_140 : decode cX3_copyFrom 140 = .ok (.aload 4, 2) := by decide +kernel
theorem dX3_copyFrom_142 : decode cX3_copyFrom 142 = .ok (.getfield 74, 3) := by decide +kernel
theorem dX3_copyFrom_145 : decode cX3_copyFrom 145 = .ok (.invokevirtual 55, 3) := by decide +kernel
theorem dX3_copyFrom_148 : decode cX3_copyFrom 148 = .ok (.iinc 2 1, 3) := by decide +kernel
theorem dX3_copyFrom_151 : decode cX3_copyFrom 151 = .ok (.goto (-60), 3) := by decide +kernel
theorem dX3_copyFrom_154 : decode cX3_copyFrom 154 = .ok (.return_, 1) := by decide +kernel
theorem dX3_washerCount_0 : decode cX3_washerCount 0 = .ok (.iconst 0, 1) := by decide +kernel
theorem dX3_washerCount_1 : decode cX3_washerCount 1 = .ok (.istore_n 1, 1) := by decide +kernel
theorem dX3_washerCount_2 : decode cX3_washerCount 2 = .ok (.iconst 0, 1) := by decide +kernel
theorem dX3_washerCount_3 : decode cX3_washerCount 3 = .ok (.istore_n 2, 1) := by decide +kernel
theorem dX3_washerCount_4 : decode cX3_washerCount 4 = .ok (.iload_n 2, 1) := by decide +kernel
theorem dX3_washerCount_5 : decode cX3_washerCount 5 = .ok (.aload_n 0, 1) := by decide +kernel
theorem dX3_washerCount_6 : decode cX3_washerCount 6 = .ok (.getfield 27, 3) := by decide +kernel
theorem dX3_washerCount_9 : decode cX3_washerCount 9 = .ok (.if_icmp .ge 26, 3) := by decide +kernel
theorem dX3_washerCount_12 : decode cX3_washerCount 12 = .ok (.aload_n 0, 1) := by decide +kernel
theorem dX3_washerCount_13 : decode cX3_washerCount 13 = .ok (.iload_n 2, 1) := by decide +kernel
theorem dX3_washerCount_14 : decode cX3_washerCount 14 = .ok (.invokevirtual 37, 3) := by decide +kernel
theorem dX3_washerCount_17 : decode cX3_washerCount 17 = .ok (.astore_n 3, 1) := by decide +kernel
theorem dX3_washerCount_18 : decode cX3_washerCount 18 = .ok (.aload_n 3, 1) := by decide +kernel
theorem dX3_washerCount_19 : decode cX3_washerCount 19 = .ok (.ifnull 10, 3) := by decide +kernel
theorem dX3_washerCount_22 : decode cX3_washerCount 22 = .ok (.iload_n 1, 1) := by decide +kernel
theorem dX3_washerCount_23 : decode cX3_washerCount 23 = .ok (.aload_n 3, 1) := by decide +kernel
theorem dX3_washerCount_24 : decode cX3_washerCount 24 = .ok (.getfield 52, 3) := by decide +kernel
theorem dX3_washerCount_27 : decode cX3_washerCount 27 = .ok (.iadd, 1) := by decide +kernel
theorem dX3_washerCount_28 : decode cX3_washerCount 28 = .ok (.istore_n 1, 1) := by decide +kernel
theorem dX3_washerCount_29 : decode cX3_washerCount 29 = .ok (.iinc 2 1, 3) := by decide +kernel
theorem dX3_washerCount_32 : decode cX3_washerCount 32 = .ok (.goto (-28), 3) := by decide +kernel
theorem dX3_washerCount_35 : decode cX3_washerCount 35 = .ok (.iload_n 1, 1) := by decide +kernel
theorem dX3_washerCount_36 : decode cX3_washerCount 36 = .ok (.ireturn, 1) := by decide +kernel
theorem dX3_heardCount_0 : decode cX3_heardCount 0 = .ok (.iconst 0, 1) := by decide +kernel
theorem dX3_heardCount_1 : decode cX3_heardCount 1 = .ok (.istore_n 1, 1) := by decide +kernel
theorem dX3_heardCount_2 : decode cX3_heardCount 2 = .ok (.iconst 0, 1) := by decide +kernel
theorem dX3_heardCount_3 : decode cX3_heardCount 3 = .ok (.istore_n 2, 1) := by decide +kernel
theorem dX3_heardCount_4 : decode cX3_heardCount 4 = .ok (.iload_n 2, 1) := by decide +kernel
theorem dX3_heardCount_5 : decode cX3_heardCount 5 = .ok (.aload_n 0, 1) := by decide +kernel
theorem dX3_heardCount_6 : decode cX3_heardCount 6 = .ok (.getfield 27, 3) := by decide +kernel
theorem dX3_heardCount_9 : decode cX3_heardCount 9 = .ok (.if_icmp .ge 26, 3) := by decide +kernel
theorem dX3_heardCount_12 : decode cX3_heardCount 12 = .ok (.aload_n 0, 1) := by decide +kernel
theorem dX3_heardCount_13 : decode cX3_heardCount 13 = .ok (.iload_n 2, 1) := by decide +kernel
theorem dX3_heardCount_14 : decode cX3_heardCount 14 = .ok (.invokevirtual 37, 3) := by decide +kernel
theorem dX3_heardCount_17 : decode cX3_heardCount 17 = .ok (.astore_n 3, 1) := by decide +kernel
theorem dX3_heardCount_18 : decode cX3_heardCount 18 = .ok (.aload_n 3, 1) := by decide +kernel
theorem dX3_heardCount_19 : decode cX3_heardCount 19 = .ok (.ifnull 10, 3) := by decide +kernel
theorem dX3_heardCount_22 : decode cX3_heardCount 22 = .ok (.iload_n 1, 1) := by decide +kernel
theorem dX3_heardCount_23 : decode cX3_heardCount 23 = .ok (.aload_n 3, 1) := by decide +kernel
theorem dX3_heardCount_24 : decode cX3_heardCount 24 = .ok (.getfield 62, 3) := by decide +kernel
theorem dX3_heardCount_27 : decode cX3_heardCount 27 = .ok (.iadd, 1) := by decide +kernel
theorem dX3_heardCount_28 : decode cX3_heardCount 28 = .ok (.istore_n 1, 1) := by decide +kernel
theorem dX3_heardCount_29 : decode cX3_heardCount 29 = .ok (.iinc 2 1, 3) := by decide +kernel
theorem dX3_heardCount_32 : decode cX3_heardCount 32 = .ok (.goto (-28), 3) := by decide +kernel
theorem dX3_heardCount_35 : decode cX3_heardCount 35 = .ok (.iload_n 1, 1) := by decide +kernel
theorem dX3_heardCount_36 : decode cX3_heardCount 36 = .ok (.ireturn, 1) := by decide +kernel
theorem dX4_init_0 : decode cX4_init 0 = .ok (.aload_n 0, 1) := by decide +kernel
theorem dX4_init_1 : decode cX4_init 1 = .ok (.invokespecial 3, 3) := by decide +kernel
theorem dX4_init_4 : decode cX4_init 4 = .ok (.aload_n 0, 1) := by decide +kernel
theorem dX4_init_5 : decode cX4_init 5 = .ok (.bipush 16, 2) := by decide +kernel
theorem dX4_init_7 : decode cX4_init 7 = .ok (.newarray .int, 2) := by decide +kernel
theorem dX4_init_9 : decode cX4_init 9 = .ok (.putfield 9, 3) := by decide +kernel
theorem dX4_init_12 : decode cX4_init 12 = .ok (.aload_n 0, 1) := by decide +kernel
theorem dX4_init_13 : decode cX4_init 13 = .ok (.iconst 4, 1) := by decide +kernel
theorem dX4_init_14 : decode cX4_init 14 = .ok (.newarray .int, 2) := by decide +kernel
theorem dX4_init_16 : decode cX4_init 16 = .ok (.putfield 15, 3) := by decide +kernel
theorem dX4_init_19 : decode cX4_init 19 = .ok (.return_, 1) := by decide +kernel
theorem dX4_clear_0 : decode cX4_clear 0 = .ok (.iconst 0, 1) := by decide +kernel
theorem dX4_clear_1 : decode cX4_clear 1 = .ok (.istore_n 1, 1) := by decide +kernel
theorem dX4_clear_2 : decode cX4_clear 2 = .ok (.iload_n 1, 1) := by decide +kernel
theorem dX4_clear_3 : decode cX4_clear 3 = .ok (.aload_n 0, 1) := by decide +kernel
theorem dX4_clear_4 : decode cX4_clear 4 = .ok (.getfield 9, 3) := by decide +kernel
theorem dX4_clear_7 : decode cX4_clear 7 = .ok (.arraylength, 1) := by decide +kernel
theorem dX4_clear_8 : decode cX4_clear 8 = .ok (.if_icmp .ge 16, 3) := by decide +kernel
theorem dX4_clear_11 : decode cX4_clear 11 = .ok (.aload_n 0, 1) := by decide +kernel
theorem dX4_clear_12 : decode cX4_clear 12 = .ok (.getfield 9, 3) := by decide +kernel
theorem dX4_clear_15 : decode cX4_clear 15 = .ok (.iload_n 1, 1) := by decide +kernel
theorem dX4_clear_16 : decode cX4_clear 16 = .ok (.iconst (-1), 1) := by decide +kernel
theorem dX4_clear_17 : decode cX4_clear 17 = .ok (.iastore, 1) := by decide +kernel
theorem dX4_clear_18 : decode cX4_clear 18 = .ok (.iinc 1 1, 3) := by decide +kernel
theorem dX4_clear_21 : decode cX4_clear 21 = .ok (.goto (-19), 3) := by decide +kernel
theorem dX4_clear_24 : decode cX4_clear 24 = .ok (.iconst 0, 1) := by decide +kernel
theorem dX4_clear_25 : decode cX4_clear 25 = .ok (.istore_n 1, 1) := by decide +kernel
theorem dX4_clear_26 : decode cX4_clear 26 = .ok (.iload_n 1, 1) := by decide +kernel
theorem dX4_clear_27 : decode cX4_clear 27 = .ok (.aload_n 0, 1) := by decide +kernel
theorem dX4_clear_28 : decode cX4_clear 28 = .ok (.getfield 15, 3) := by decide +kernel
theorem dX4_clear_31 : decode cX4_clear 31 = .ok (.arraylength, 1) := by decide +kernel
theorem dX4_clear_32 : decode cX4_clear 32 = .ok (.if_icmp .ge 16, 3) := by decide +kernel
theorem dX4_clear_35 : decode cX4_clear 35 = .ok (.aload_n 0, 1) := by decide +kernel
theorem dX4_clear_36 : decode cX4_clear 36 = .ok (.getfield 15, 3) := by decide +kernel
theorem dX4_clear_39 : decode cX4_clear 39 = .ok (.iload_n 1, 1) := by decide +kernel
theorem dX4_clear_40 : decode cX4_clear 40 = .ok (.iconst 0, 1) := by decide +kernel
theorem dX4_clear_41 : decode cX4_clear 41 = .ok (.iastore, 1) := by decide +kernel
theorem dX4_clear_42 : decode cX4_clear 42 = .ok (.iinc 1 1, 3) := by decide +kernel
theorem dX4_clear_45 : decode cX4_clear 45 = .ok (.goto (-19), 3) := by decide +kernel
theorem dX4_clear_48 : decode cX4_clear 48 = .ok (.return_, 1) := by decide +kernel
theorem dX4_addBeat_0 : decode cX4_addBeat 0 = .ok (.iload_n 1, 1) := by decide +kernel
theorem dX4_addBeat_1 : decode cX4_addBeat 1 = .ok (.ifCond .lt 12, 3) := by decide +kernel
theorem dX4_addBeat_4 : decode cX4_addBeat 4 = .ok (.iload_n 1, 1) := by decide +kernel
theorem dX4_addBeat_5 : decode cX4_addBeat 5 = .ok (.aload_n 0, 1) := by decide +kernel
theorem dX4_addBeat_6 : decode cX4_addBeat 6 = .ok (.getfield 15, 3) := by decide +kernel
theorem dX4_addBeat_9 : decode cX4_addBeat 9 = .ok (.arraylength, 1) := by decide +kernel
theorem dX4_addBeat_10 : decode cX4_addBeat 10 = .ok (.if_icmp .lt 4, 3) := by decide +kernel
theorem dX4_addBeat_13 : decode cX4_addBeat 13 = .ok (.return_, 1) := by decide +kernel
theorem dX4_addBeat_14 : decode cX4_addBeat 14 = .ok (.iload_n 1, 1) := by decide +kernel
theorem dX4_addBeat_15 : decode cX4_addBeat 15 = .ok (.iconst 4, 1) := by decide +kernel
theorem dX4_addBeat_16 : decode cX4_addBeat 16 = .ok (.imul, 1) := by decide +kernel
theorem dX4_addBeat_17 : decode cX4_addBeat 17 = .ok (.aload_n 0, 1) := by decide +kernel
theorem dX4_addBeat_18 : decode cX4_addBeat 18 = .ok (.getfield 15, 3) := by decide +kernel
theorem dX4_addBeat_21 : decode cX4_addBeat 21 = .ok (.iload_n 1, 1) := by decide +kernel
theorem dX4_addBeat_22 : decode cX4_addBeat 22 = .ok (.iaload, 1) := by decide +kernel
theorem dX4_addBeat_23 : decode cX4_addBeat 23 = .ok (.iadd, 1) := by decide +kernel
theorem dX4_addBeat_24 : decode cX4_addBeat 24 = .ok (.istore_n 3, 1) := by decide +kernel
theorem dX4_addBeat_25 : decode cX4_addBeat 25 = .ok (.aload_n 0, 1) := by decide +kernel
theorem dX4_addBeat_26 : decode cX4_addBeat 26 = .ok (.getfield 15, 3) := by decide +kernel
theorem dX4_addBeat_29 : decode cX4_addBeat 29 = .ok (.iload_n 1, 1) := by decide +kernel
theorem dX4_addBeat_30 : decode cX4_addBeat 30 = .ok (.iaload, 1) := by decide +kernel
theorem dX4_addBeat_31 : decode cX4_addBeat 31 = .ok (.iconst 4, 1) := by decide +kernel
theorem dX4_addBeat_32 : decode cX4_addBeat 32 = .ok (.if_icmp .ge 16, 3) := by decide +kernel
theorem dX4_addBeat_35 : decode cX4_addBeat 35 = .ok (.iload_n 3, 1) := by decide +kernel
theorem dX4_addBeat_36 : decode cX4_addBeat 36 = .ok (.ifCond .lt 12, 3) := by decide +kernel
theorem dX4_addBeat_39 : decode cX4_addBeat 39 = .ok (.iload_n 3, 1) := by decide +kernel
theorem dX4_addBeat_40 : decode cX4_addBeat 40 = .ok (.aload_n 0, 1) := by decide +kernel
theorem dX4_addBeat_41 : decode cX4_addBeat 41 = .ok (.getfield 9, 3) := by decide +kernel
theorem dX4_addBeat_44 : decode cX4_addBeat 44 = .ok (.arraylength, 1) := by decide +kernel
theorem dX4_addBeat_45 : decode cX4_addBeat 45 = .ok (.if_icmp .lt 4, 3) := by decide +kernel
theorem dX4_addBeat_48 : decode cX4_addBeat 48 = .ok (.return_, 1) := by decide +kernel
theorem dX4_addBeat_49 : decode cX4_addBeat 49 = .ok (.aload_n 0, 1) := by decide +kernel
theorem dX4_addBeat_50 : decode cX4_addBeat 50 = .ok (.getfield 9, 3) := by decide +kernel
theorem dX4_addBeat_53 : decode cX4_addBeat 53 = .ok (.iload_n 3, 1) := by decide +kernel
theorem dX4_addBeat_54 : decode cX4_addBeat 54 = .ok (.iload_n 2, 1) := by decide +kernel
theorem dX4_addBeat_55 : decode cX4_addBeat 55 = .ok (.iastore, 1) := by decide +kernel
theorem dX4_addBeat_56 : decode cX4_addBeat 56 = .ok (.aload_n 0, 1) := by decide +kernel
theorem dX4_addBeat_57 : decode cX4_addBeat 57 = .ok (.getfield 15, 3) := by decide +kernel
theorem dX4_addBeat_60 : decode cX4_addBeat 60 = .ok (.iload_n 1, 1) := by decide +kernel
theorem dX4_addBeat_61 : decode cX4_addBeat 61 = .ok (.dup2, 1) := by decide +kernel
theorem dX4_addBeat_62 : decode cX4_addBeat 62 = .ok (.iaload, 1) := by decide +kernel
theorem dX4_addBeat_63 : decode cX4_addBeat 63 = .ok (.iconst 1, 1) := by decide +kernel
theorem dX4_addBeat_64 : decode cX4_addBeat 64 = .ok (.iadd, 1) := by decide +kernel
theorem dX4_addBeat_65 : decode cX4_addBeat 65 = .ok (.iastore, 1) := by decide +kernel
theorem dX4_addBeat_66 : decode cX4_addBeat 66 = .ok (.return_, 1) := by decide +kernel
theorem dX4_lengthOf_0 : decode cX4_lengthOf 0 = .ok (.iload_n 1, 1) := by decide +kernel
theorem dX4_lengthOf_1 : decode cX4_lengthOf 1 = .ok (.ifCond .lt 21, 3) := by decide +kernel
theorem dX4_lengthOf_4 : decode cX4_lengthOf 4 = .ok (.iload_n 1, 1) := by decide +kernel
theorem dX4_lengthOf_5 : decode cX4_lengthOf 5 = .ok (.aload_n 0, 1) := by decide +kernel
theorem dX4_lengthOf_6 : decode cX4_lengthOf 6 = .ok (.getfield 15, 3) := by decide +kernel
theorem dX4_lengthOf_9 : decode cX4_lengthOf 9 = .ok (.arraylength, 1) := by decide +kernel
theorem dX4_lengthOf_10 : decode cX4_lengthOf 10 = .ok (.if_icmp .ge 12, 3) := by decide +kernel
theorem dX4_lengthOf_13 : decode cX4_lengthOf 13 = .ok (.aload_n 0, 1) := by decide +kernel
theorem dX4_lengthOf_14 : decode cX4_lengthOf 14 = .ok (.getfield 15, 3) := by decide +kernel
theorem dX4_lengthOf_17 : decode cX4_lengthOf 17 = .ok (.iload_n 1, 1) := by decide +kernel
theorem dX4_lengthOf_18 : decode cX4_lengthOf 18 = .ok (.iaload, 1) := by decide +kernel
theorem dX4_lengthOf_19 : decode cX4_lengthOf 19 = .ok (.goto 4, 3) := by decide +kernel
theorem dX4_lengthOf_22 : decode cX4_lengthOf 22 = .ok (.iconst 0, 1) := by decide +kernel
theorem dX4_lengthOf_23 : decode cX4_lengthOf 23 = .ok (.ireturn, 1) := by decide +kernel
theorem dX4_beatOf_0 : decode cX4_beatOf 0 = .ok (.iload_n 1, 1) := by decide +kernel
theorem dX4_beatOf_1 : decode cX4_beatOf 1 = .ok (.ifCond .lt 17, 3) := by decide +kernel
theorem dX4_beatOf_4 : decode cX4_beatOf 4 = .ok (.iload_n 1, 1) := by decide +kernel
theorem dX4_beatOf_5 : decode cX4_beatOf 5 = .ok (.iconst 4, 1) := by decide +kernel
theorem dX4_beatOf_6 : decode cX4_beatOf 6 = .ok (.if_icmp .ge 12, 3) := by decide +kernel
theorem dX4_beatOf_9 : decode cX4_beatOf 9 = .ok (.iload_n 2, 1) := by decide +kernel
theorem dX4_beatOf_10 : decode cX4_beatOf 10 = .ok (.ifCond .lt 8, 3) := by decide +kernel
theorem dX4_beatOf_13 : decode cX4_beatOf 13 = .ok (.iload_n 2, 1) := by decide +kernel
theorem dX4_beatOf_14 : decode cX4_beatOf 14 = .ok (.iconst 4, 1) := by decide +kernel
theorem dX4_beatOf_15 : decode cX4_beatOf 15 = .ok (.if_icmp .lt 5, 3) := by decide +kernel
theorem dX4_beatOf_18 : decode cX4_beatOf 18 = .ok (.iconst (-1), 1) := by decide +kernel
theorem dX4_beatOf_19 : decode cX4_beatOf 19 = .ok (.ireturn, 1) := by decide +kernel
theorem dX4_beatOf_20 : decode cX4_beatOf 20 = .ok (.iload_n 1, 1) := by decide +kernel
theorem dX4_beatOf_21 : decode cX4_beatOf 21 = .ok (.iconst 4, 1) := by decide +kernel
theorem dX4_beatOf_22 : decode cX4_beatOf 22 = .ok (.imul, 1) := by decide +kernel
theorem dX4_beatOf_23 : decode cX4_beatOf 23 = .ok (.iload_n 2, 1) := by decide +kernel
theorem dX4_beatOf_24 : decode cX4_beatOf 24 = .ok (.iadd, 1) := by decide +kernel
theorem dX4_beatOf_25 : decode cX4_beatOf 25 = .ok (.istore_n 3, 1) := by decide +kernel
theorem dX4_beatOf_26 : decode cX4_beatOf 26 = .ok (.iload_n 3, 1) := by decide +kernel
theorem dX4_beatOf_27 : decode cX4_beatOf 27 = .ok (.aload_n 0, 1) := by decide +kernel
theorem dX4_beatOf_28 : decode cX4_beatOf 28 = .ok (.getfield 9, 3) := by decide +kernel
theorem dX4_beatOf_31 : decode cX4_beatOf 31 = .ok (.arraylength, 1) := by decide +kernel
theorem dX4_beatOf_32 : decode cX4_beatOf 32 = .ok (.if_icmp .ge 12, 3) := by decide +kernel
theorem dX4_beatOf_35 : decode cX4_beatOf 35 = .ok (.aload_n 0, 1) := by decide +kernel
theorem dX4_beatOf_36 : decode cX4_beatOf 36 = .ok (.getfield 9, 3) := by decide +kernel
theorem dX4_beatOf_39 : decode cX4_beatOf 39 = .ok (.iload_n 3, 1) := by decide +kernel
theorem dX4_beatOf_40 : decode cX4_beatOf 40 = .ok (.iaload, 1) := by decide +kernel
theorem dX4_beatOf_41 : decode cX4_beatOf 41 = .ok (.goto 4, 3) := by decide +kernel
theorem dX4_beatOf_44 : decode cX4_beatOf 44 = .ok (.iconst (-1), 1) := by decide +kernel
theorem dX4_beatOf_45 : decode cX4_beatOf 45 = .ok (.ireturn, 1) := by decide +kernel
theorem dX4_beatCount_0 : decode cX4_beatCount 0 = .ok (.iconst 0, 1) := by decide +kernel
theorem dX4_beatCount_1 : decode cX4_beatCount 1 = .ok (.istore_n 1, 1) := by decide +kernel
theorem dX4_beatCount_2 : decode cX4_beatCount 2 = .ok (.iconst 0, 1) := by decide +kernel
theorem dX4_beatCount_3 : decode cX4_beatCount 3 = .ok (.istore_n 2, 1) := by decide +kernel
theorem dX4_beatCount_4 : decode cX4_beatCount 4 = .ok (.iload_n 2, 1) := by decide +kernel
theorem dX4_beatCount_5 : decode cX4_beatCount 5 = .ok (.aload_n 0, 1) := by decide +kernel
theorem dX4_beatCount_6 : decode cX4_beatCount 6 = .ok (.getfield 15, 3) := by decide +kernel
theorem dX4_beatCount_9 : decode cX4_beatCount 9 = .ok (.arraylength, 1) := by decide +kernel
theorem dX4_beatCount_10 : decode cX4_beatCount 10 = .ok (.if_icmp .ge 18, 3) := by decide +kernel
theorem dX4_beatCount_13 : decode cX4_beatCount 13 = .ok (.iload_n 1, 1) := by decide +kernel
theorem dX4_beatCount_14 : decode cX4_beatCount 14 = .ok (.aload_n 0, 1) := by decide +kernel
theorem dX4_beatCount_15 : decode cX4_beatCount 15 = .ok (.getfield 15, 3) := by decide +kernel
theorem dX4_beatCount_18 : decode cX4_beatCount 18 = .ok (.iload_n 2, 1) := by decide +kernel
theorem dX4_beatCount_19 : decode cX4_beatCount 19 = .ok (.iaload, 1) := by decide +kernel
theorem dX4_beatCount_20 : decode cX4_beatCount 20 = .ok (.iadd, 1) := by decide +kernel
theorem dX4_beatCount_21 : decode cX4_beatCount 21 = .ok (.istore_n 1, 1) := by decide +kernel
theorem dX4_beatCount_22 : decode cX4_beatCount 22 = .ok (.iinc 2 1, 3) := by decide +kernel
theorem dX4_beatCount_25 : decode cX4_beatCount 25 = .ok (.goto (-21), 3) := by decide +kernel
theorem dX4_beatCount_28 : decode cX4_beatCount 28 = .ok (.iload_n 1, 1) := by decide +kernel
theorem dX4_beatCount_29 : decode cX4_beatCount 29 = .ok (.ireturn, 1) := by decide +kernel
theorem dX4_dripBy_0 : decode cX4_dripBy 0 = .ok (.aload_n 0, 1) := by decide +kernel
theorem dX4_dripBy_1 : decode cX4_dripBy 1 = .ok (.iload_n 2, 1) := by decide +kernel
theorem dX4_dripBy_2 : decode cX4_dripBy 2 = .ok (.invokevirtual 18, 3) := by decide +kernel
theorem dX4_dripBy_5 : decode cX4_dripBy 5 = .ok (.istore 5, 2) := by decide +kernel
theorem dX4_dripBy_7 : decode cX4_dripBy 7 = .ok (.iload 5, 2) := by decide +kernel
theorem dX4_dripBy_9 : decode cX4_dripBy 9 = .ok (.iconst 1, 1) := by decide +kernel
theorem dX4_dripBy_10 : decode cX4_dripBy 10 = .ok (.if_icmp .lt 8, 3) := by decide +kernel
theorem dX4_dripBy_13 : decode cX4_dripBy 13 = .ok (.iload 4, 2) := by decide +kernel
theorem dX4_dripBy_15 : decode cX4_dripBy 15 = .ok (.ifCond .ge 5, 3) := by decide +kernel
theorem dX4_dripBy_18 : decode cX4_dripBy 18 = .ok (.iconst 0, 1) := by decide +kernel
theorem dX4_dripBy_19 : decode cX4_dripBy 19 = .ok (.ireturn, 1) := by decide +kernel
theorem dX4_dripBy_20 : decode cX4_dripBy 20 = .ok (.iload 4, 2) := by decide +kernel
theorem dX4_dripBy_22 : decode cX4_dripBy 22 = .ok (.iload 5, 2) := by decide +kernel
theorem dX4_dripBy_24 : decode cX4_dripBy 24 = .ok (.irem, 1) := by decide +kernel
theorem dX4_dripBy_25 : decode cX4_dripBy 25 = .ok (.istore 6, 2) := by decide +kernel
theorem dX4_dripBy_27 : decode cX4_dripBy 27 = .ok (.iload 5, 2) := by decide +kernel
theorem dX4_dripBy_29 : decode cX4_dripBy 29 = .ok (.iconst 1, 1) := by decide +kernel
theorem dX4_dripBy_30 : decode cX4_dripBy 30 = .ok (.isub, 1) := by decide +kernel
theorem dX4_dripBy_31 : decode cX4_dripBy 31 = .ok (.iload 6, 2) := by decide +kernel
theorem dX4_dripBy_33 : decode cX4_dripBy 33 = .ok (.isub, 1) := by decide +kernel
theorem dX4_dripBy_34 : decode cX4_dripBy 34 = .ok (.istore 7, 2) := by decide +kernel
theorem dX4_dripBy_36 : decode cX4_dripBy 36 = .ok (.iload_n 1, 1) := by decide +kernel
theorem dX4_dripBy_37 : decode cX4_dripBy 37 = .ok (.tableswitch 94 1 4 #[31, 41, 63, 82], 31) := by decide +kernel
theorem dX4_dripBy_68 : decode cX4_dripBy 68 = .ok (.aload_n 0, 1) := by decide +kernel
theorem dX4_dripBy_69 : decode cX4_dripBy 69 = .ok (.iload_n 2, 1) := by decide +kernel
theorem dX4_dripBy_70 : decode cX4_dripBy 70 = .ok (.iload 7, 2) := by decide +kernel
theorem dX4_dripBy_72 : decode cX4_dripBy 72 = .ok (.invokevirtual 22, 3) := by decide +kernel
theorem dX4_dripBy_75 : decode cX4_dripBy 75 = .ok (.iload_n 3, 1) := by decide +kernel
theorem dX4_dripBy_76 : decode cX4_dripBy 76 = .ok (.ixor, 1) := by decide +kernel
theorem dX4_dripBy_77 : decode cX4_dripBy 77 = .ok (.ireturn, 1) := by decide +kernel
theorem dX4_dripBy_78 : decode cX4_dripBy 78 = .ok (.iload 4, 2) := by decide +kernel
theorem dX4_dripBy_80 : decode cX4_dripBy 80 = .ok (.iconst 2, 1) := by decide +kernel
theorem dX4_dripBy_81 : decode cX4_dripBy 81 = .ok (.irem, 1) := by decide +kernel
theorem dX4_dripBy_82 : decode cX4_dripBy 82 = .ok (.iconst 1, 1) := by decide +kernel
theorem dX4_dripBy_83 : decode cX4_dripBy 83 = .ok (.if_icmp .ne 7, 3) := by decide +kernel
theorem dX4_dripBy_86 : decode cX4_dripBy 86 = .ok (.iconst 0, 1) := by decide +kernel
theorem dX4_dripBy_87 : decode cX4_dripBy 87 = .ok (.goto 10, 3) := by decide +kernel
theorem dX4_dripBy_90 : decode cX4_dripBy 90 = .ok (.aload_n 0, 1) := by decide +kernel
theorem dX4_dripBy_91 : decode cX4_dripBy 91 = .ok (.iload_n 2, 1) := by decide +kernel
theorem dX4_dripBy_92 : decode cX4_dripBy 92 = .ok (.iload 6, 2) := by decide +kernel
theorem dX4_dripBy_94 : decode cX4_dripBy 94 = .ok (.invokevirtual 22, 3) := by decide +kernel
theorem dX4_dripBy_97 : decode cX4_dripBy 97 = .ok (.iload_n 3, 1) := by decide +kernel
theorem dX4_dripBy_98 : decode cX4_dripBy 98 = .ok (.ixor, 1) := by decide +kernel
theorem dX4_dripBy_99 : decode cX4_dripBy 99 = .ok (.ireturn, 1) := by decide +kernel
theorem dX4_dripBy_100 : decode cX4_dripBy 100 = .ok (.iload 6, 2) := by decide +kernel
theorem dX4_dripBy_102 : decode cX4_dripBy 102 = .ok (.ifCond .ne 7, 3) := by decide +kernel
theorem dX4_dripBy_105 : decode cX4_dripBy 105 = .ok (.iconst 1, 1) := by decide +kernel
theorem dX4_dripBy_106 : decode cX4_dripBy 106 = .ok (.goto 10, 3) := by decide +kernel
theorem dX4_dripBy_109 : decode cX4_dripBy 109 = .ok (.aload_n 0, 1) := by decide +kernel
theorem dX4_dripBy_110 : decode cX4_dripBy 110 = .ok (.iload_n 2, 1) := by decide +kernel
theorem dX4_dripBy_111 : decode cX4_dripBy 111 = .ok (.iload 6, 2) := by decide +kernel
theorem dX4_dripBy_113 : decode cX4_dripBy 113 = .ok (.invokevirtual 22, 3) := by decide +kernel
theorem dX4_dripBy_116 : decode cX4_dripBy 116 = .ok (.iload_n 3, 1) := by decide +kernel
theorem dX4_dripBy_117 : decode cX4_dripBy 117 = .ok (.ixor, 1) := by decide +kernel
theorem dX4_dripBy_118 : decode cX4_dripBy 118 = .ok (.ireturn, 1) := by decide +kernel
theorem dX4_dripBy_119 : decode cX4_dripBy 119 = .ok (.aload_n 0, 1) := by decide +kernel
theorem dX4_dripBy_120 : decode cX4_dripBy 120 = .ok (.iload_n 2, 1) := by decide +kernel
theorem dX4_dripBy_121 : decode cX4_dripBy 121 = .ok (.iload 7, 2) := by decide +kernel
theorem dX4_dripBy_123 : decode cX4_dripBy 123 = .ok (.invokevirtual 22, 3) := by decide +kernel
theorem dX4_dripBy_126 : decode cX4_dripBy 126 = .ok (.iconst 1, 1) := by decide +kernel
theorem dX4_dripBy_127 : decode cX4_dripBy 127 = .ok (.ixor, 1) := by decide +kernel
theorem dX4_dripBy_128 : decode cX4_dripBy 128 = .ok (.iload_n 3, 1) := by decide +kernel
theorem dX4_dripBy_129 : decode cX4_dripBy 129 = .ok (.ixor, 1) := by decide +kernel
theorem dX4_dripBy_130 : decode cX4_dripBy 130 = .ok (.ireturn, 1) := by decide +kernel
theorem dX4_dripBy_131 : decode cX4_dripBy 131 = .ok (.aload_n 0, 1) := by decide +kernel
theorem dX4_dripBy_132 : decode cX4_dripBy 132 = .ok (.iload_n 2, 1) := by decide +kernel
theorem dX4_dripBy_133 : decode cX4_dripBy 133 = .ok (.iload 6, 2) := by decide +kernel
theorem dX4_dripBy_135 : decode cX4_dripBy 135 = .ok (.invokevirtual 22, 3) := by decide +kernel
theorem dX4_dripBy_138 : decode cX4_dripBy 138 = .ok (.iload_n 3, 1) := by decide +kernel
theorem dX4_dripBy_139 : decode cX4_dripBy 139 = .ok (.ixor, 1) := by decide +kernel
theorem dX4_dripBy_140 : decode cX4_dripBy 140 = .ok (.ireturn, 1) := by decide +kernel
theorem dX5_init_0 : decode cX5_init 0 = .ok (.aload_n 0, 1) := by decide +kernel
theorem dX5_init_1 : decode cX5_init 1 = .ok (.invokespecial 1, 3) := by decide +kernel
theorem dX5_init_4 : decode cX5_init 4 = .ok (.aload_n 0, 1) := by decide +kernel
theorem dX5_init_5 : decode cX5_init 5 = .ok (.iload_n 1, 1) := by decide +kernel
theorem dX5_init_6 : decode cX5_init 6 = .ok (.putfield 7, 3) := by decide +kernel
theorem dX5_init_9 : decode cX5_init 9 = .ok (.return_, 1) := by decide +kernel
theorem dX5_become_0 : decode cX5_become 0 = .ok (.aload_n 0, 1) := by decide +kernel
theorem dX5_become_1 : decode cX5_become 1 = .ok (.iload_n 1, 1) := by decide +kernel
theorem dX5_become_2 : decode cX5_become 2 = .ok (.putfield 13, 3) := by decide +kernel
theorem dX5_become_5 : decode cX5_become 5 = .ok (.aload_n 0, 1) := by decide +kernel
theorem dX5_become_6 : decode cX5_become 6 = .ok (.iload_n 2, 1) := by decide +kernel
theorem dX5_become_7 : decode cX5_become 7 = .ok (.putfield 16, 3) := by decide +kernel
theorem dX5_become_10 : decode cX5_become 10 = .ok (.aload_n 0, 1) := by decide +kernel
theorem dX5_become_11 : decode cX5_become 11 = .ok (.iload_n 3, 1) := by decide +kernel
theorem dX5_become_12 : decode cX5_become 12 = .ok (.putfield 19, 3) := by decide +kernel
theorem dX5_become_15 : decode cX5_become 15 = .ok (.aload_n 0, 1) := by decide +kernel
theorem dX5_become_16 : decode cX5_become 16 = .ok (.iload 4, 2) := by decide +kernel
theorem dX5_become_18 : decode cX5_become 18 = .ok (.putfield 22, 3) := by decide +kernel
theorem dX5_become_21 : decode cX5_become 21 = .ok (.return_, 1) := by decide +kernel
theorem dX6_init_0 : decode cX6_init 0 = .ok (.aload_n 0, 1) := by decide +kernel
theorem dX6_init_1 : decode cX6_init 1 = .ok (.invokespecial 1, 3) := by decide +kernel
theorem dX6_init_4 : decode cX6_init 4 = .ok (.aload_n 0, 1) := by decide +kernel
theorem dX6_init_5 : decode cX6_init 5 = .ok (.new 7, 3) := by decide +kernel
theorem dX6_init_8 : decode cX6_init 8 = .ok (.dup, 1) := by decide +kernel
theorem dX6_init_9 : decode cX6_init 9 = .ok (.invokespecial 9, 3) := by decide +kernel
theorem dX6_init_12 : decode cX6_init 12 = .ok (.putfield 10, 3) := by decide +kernel
theorem dX6_init_15 : decode cX6_init 15 = .ok (.aload_n 0, 1) := by decide +kernel
theorem dX6_init_16 : decode cX6_init 16 = .ok (.new 16, 3) := by decide +kernel
theorem dX6_init_19 : decode cX6_init 19 = .ok (.dup, 1) := by decide +kernel
theorem dX6_init_20 : decode cX6_init 20 = .ok (.invokespecial 18, 3) := by decide +kernel
theorem dX6_init_23 : decode cX6_init 23 = .ok (.putfield 19, 3) := by decide +kernel
theorem dX6_init_26 : decode cX6_init 26 = .ok (.aload_n 0, 1) := by decide +kernel
theorem dX6_init_27 : decode cX6_init 27 = .ok (.new 23, 3) := by decide +kernel
theorem dX6_init_30 : decode cX6_init 30 = .ok (.dup, 1) := by decide +kernel
theorem dX6_init_31 : decode cX6_init 31 = .ok (.invokespecial 25, 3) := by decide +kernel
theorem dX6_init_34 : decode cX6_init 34 = .ok (.putfield 26, 3) := by decide +kernel
theorem dX6_init_37 : decode cX6_init 37 = .ok (.aload_n 0, 1) := by decide +kernel
theorem dX6_init_38 : decode cX6_init 38 = .ok (.new 23, 3) := by decide +kernel
theorem dX6_init_41 : decode cX6_init 41 = .ok (.dup, 1) := by decide +kernel
theorem dX6_init_42 : decode cX6_init 42 = .ok (.invokespecial 25, 3) := by decide +kernel
theorem dX6_init_45 : decode cX6_init 45 = .ok (.putfield 30, 3) := by decide +kernel
theorem dX6_init_48 : decode cX6_init 48 = .ok (.return_, 1) := by decide +kernel
theorem dX6_letter_0 : decode cX6_letter 0 = .ok (.iload_n 1, 1) := by decide +kernel
theorem dX6_letter_1 : decode cX6_letter 1 = .ok (.iconst 1, 1) := by decide +kernel
theorem dX6_letter_2 : decode cX6_letter 2 = .ok (.if_icmp .lt 9, 3) := by decide +kernel
theorem dX6_letter_5 : decode cX6_letter 5 = .ok (.iload_n 1, 1) := by decide +kernel
theorem dX6_letter_6 : decode cX6_letter 6 = .ok (.bipush 126, 2) := by decide +kernel
theorem dX6_letter_8 : decode cX6_letter 8 = .ok (.if_icmp .le 6, 3) := by decide +kernel
theorem dX6_letter_11 : decode cX6_letter 11 = .ok (.bipush (-102), 2) := by decide +kernel
theorem dX6_letter_13 : decode cX6_letter 13 = .ok (.ireturn, 1) := by decide +kernel
theorem dX6_letter_14 : decode cX6_letter 14 = .ok (.aload_n 0, 1) := by decide +kernel
theorem dX6_letter_15 : decode cX6_letter 15 = .ok (.getfield 10, 3) := by decide +kernel
theorem dX6_letter_18 : decode cX6_letter 18 = .ok (.getfield 33, 3) := by decide +kernel
theorem dX6_letter_21 : decode cX6_letter 21 = .ok (.bipush 30, 2) := by decide +kernel
theorem dX6_letter_23 : decode cX6_letter 23 = .ok (.if_icmp .lt 6, 3) := by decide +kernel
theorem dX6_letter_26 : decode cX6_letter 26 = .ok (.bipush (-104), 2) := by decide +kernel
theorem dX6_letter_28 : decode cX6_letter 28 = .ok (.ireturn, 1) := by decide +kernel
theorem dX6_letter_29 : decode cX6_letter 29 = .ok (.aload_n 0, 1) := by decide +kernel
theorem dX6_letter_30 : decode cX6_letter 30 = .ok (.getfield 10, 3) := by decide +kernel
theorem dX6_letter_33 : decode cX6_letter 33 = .ok (.iload_n 1, 1) := by decide +kernel
theorem dX6_letter_34 : decode cX6_letter 34 = .ok (.invokevirtual 37, 3) := by decide +kernel
theorem dX6_letter_37 : decode cX6_letter 37 = .ok (.aload_n 0, 1) := by decide +kernel
theorem dX6_letter_38 : decode cX6_letter 38 = .ok (.getfield 10, 3) := by decide +kernel
theorem dX6_letter_41 : decode cX6_letter 41 = .ok (.getfield 33, 3) := by decide +kernel
theorem dX6_letter_44 : decode cX6_letter 44 = .ok (.ireturn, 1) := by decide +kernel
theorem dX6_blank_0 : decode cX6_blank 0 = .ok (.aload_n 0, 1) := by decide +kernel
theorem dX6_blank_1 : decode cX6_blank 1 = .ok (.getfield 10, 3) := by decide +kernel
theorem dX6_blank_4 : decode cX6_blank 4 = .ok (.getfield 33, 3) := by decide +kernel
theorem dX6_blank_7 : decode cX6_blank 7 = .ok (.istore_n 1, 1) := by decide +kernel
theorem dX6_blank_8 : decode cX6_blank 8 = .ok (.aload_n 0, 1) := by decide +kernel
theorem dX6_blank_9 : decode cX6_blank 9 = .ok (.getfield 10, 3) := by decide +kernel
theorem dX6_blank_12 : decode cX6_blank 12 = .ok (.invokevirtual 41, 3) := by decide +kernel
theorem dX6_blank_15 : decode cX6_blank 15 = .ok (.iload_n 1, 1) := by decide +kernel
theorem dX6_blank_16 : decode cX6_blank 16 = .ok (.ireturn, 1) := by decide +kernel
theorem dX6_fault_0 : decode cX6_fault 0 = .ok (.aload_n 0, 1) := by decide +kernel
theorem dX6_fault_1 : decode cX6_fault 1 = .ok (.getfield 10, 3) := by decide +kernel
theorem dX6_fault_4 : decode cX6_fault 4 = .ok (.invokevirtual 44, 3) := by decide +kernel
theorem dX6_fault_7 : decode cX6_fault 7 = .ok (.ireturn, 1) := by decide +kernel
theorem dX6_house_0 : decode cX6_house 0 = .ok (.aload_n 0, 1) := by decide +kernel
theorem dX6_house_1 : decode cX6_house 1 = .ok (.getfield 10, 3) := by decide +kernel
theorem dX6_house_4 : decode cX6_house 4 = .ok (.invokevirtual 48, 3) := by decide +kernel
theorem dX6_house_7 : decode cX6_house 7 = .ok (.ifCond .ne 6, 3) := by decide +kernel
theorem dX6_house_10 : decode cX6_house 10 = .ok (.bipush (-103), 2) := by decide +kernel
theorem dX6_house_12 : decode cX6_house 12 = .ok (.ireturn, 1) := by decide +kernel
theorem dX6_house_13 : decode cX6_house 13 = .ok (.aload_n 0, 1) := by decide +kernel
theorem dX6_house_14 : decode cX6_house 14 = .ok (.getfield 19, 3) := by decide +kernel
theorem dX6_house_17 : decode cX6_house 17 = .ok (.invokevirtual 52, 3) := by decide +kernel
theorem dX6_house_20 : decode cX6_house 20 = .ok (.aload_n 0, 1) := by decide +kernel
theorem dX6_house_21 : decode cX6_house 21 = .ok (.getfield 26, 3) := by decide +kernel
theorem dX6_house_24 : decode cX6_house 24 = .ok (.invokevirtual 53, 3) := by decide +kernel
theorem dX6_house_27 : decode cX6_house 27 = .ok (.aload_n 0, 1) := by decide +kernel
theorem dX6_house_28 : decode cX6_house 28 = .ok (.invokevirtual 54, 3) := by decide +kernel
theorem dX6_house_31 : decode cX6_house 31 = .ok (.aload_n 0, 1) := by decide +kernel
theorem dX6_house_32 : decode cX6_house 32 = .ok (.getfield 10, 3) := by decide +kernel
theorem dX6_house_35 : decode cX6_house 35 = .ok (.invokevirtual 41, 3) := by decide +kernel
theorem dX6_house_38 : decode cX6_house 38 = .ok (.aload_n 0, 1) := by decide +kernel
theorem dX6_house_39 : decode cX6_house 39 = .ok (.iconst 1, 1) := by decide +kernel
theorem dX6_house_40 : decode cX6_house 40 = .ok (.putfield 57, 3) := by decide +kernel
theorem dX6_house_43 : decode cX6_house 43 = .ok (.aload_n 0, 1) := by decide +kernel
theorem dX6_house_44 : decode cX6_house 44 = .ok (.iconst 0, 1) := by decide +kernel
theorem dX6_house_45 : decode cX6_house 45 = .ok (.putfield 61, 3) := by decide +kernel
theorem dX6_house_48 : decode cX6_house 48 = .ok (.aload_n 0, 1) := by decide +kernel
theorem dX6_house_49 : decode cX6_house 49 = .ok (.dup, 1) := by decide +kernel
theorem dX6_house_50 : decode cX6_house 50 = .ok (.getfield 64, 3) := by decide +kernel
theorem dX6_house_53 : decode cX6_house 53 = .ok (.iconst 1, 1) := by decide +kernel
theorem dX6_house_54 : decode cX6_house 54 = .ok (.iadd, 1) := by decide +kernel
theorem dX6_house_55 : decode cX6_house 55 = .ok (.putfield 64, 3) := by decide +kernel
theorem dX6_house_58 : decode cX6_house 58 = .ok (.aload_n 0, 1) := by decide +kernel
theorem dX6_house_59 : decode cX6_house 59 = .ok (.getfield 26, 3) := by decide +kernel
theorem dX6_house_62 : decode cX6_house 62 = .ok (.getfield 67, 3) := by decide +kernel
theorem dX6_house_65 : decode cX6_house 65 = .ok (.ireturn, 1) := by decide +kernel
theorem dX6_saying_0 : decode cX6_saying 0 = .ok (.aload_n 0, 1) := by decide +kernel
theorem dX6_saying_1 : decode cX6_saying 1 = .ok (.getfield 57, 3) := by decide +kernel
theorem dX6_saying_4 : decode cX6_saying 4 = .ok (.ifCond .eq 10, 3) := by decide +kernel
theorem dX6_saying_7 : decode cX6_saying 7 = .ok (.iload_n 1, 1) := by decide +kernel
theorem dX6_saying_8 : decode cX6_saying 8 = .ok (.invokestatic 70, 3) := by decide +kernel
theorem dX6_saying_11 : decode cX6_saying 11 = .ok (.ifCond .ne 6, 3) := by decide +kernel
theorem dX6_saying_14 : decode cX6_saying 14 = .ok (.bipush (-101), 2) := by decide +kernel
theorem dX6_saying_16 : decode cX6_saying 16 = .ok (.ireturn, 1) := by decide +kernel
theorem dX6_saying_17 : decode cX6_saying 17 = .ok (.iload_n 2, 1) := by decide +kernel
theorem dX6_saying_18 : decode cX6_saying 18 = .ok (.ifCond .ne 12, 3) := by decide +kernel
theorem dX6_saying_21 : decode cX6_saying 21 = .ok (.aload_n 0, 1) := by decide +kernel
theorem dX6_saying_22 : decode cX6_saying 22 = .ok (.getfield 19, 3) := by decide +kernel
theorem dX6_saying_25 : decode cX6_saying 25 = .ok (.iload_n 1, 1) := by decide +kernel
theorem dX6_saying_26 : decode cX6_saying 26 = .ok (.invokevirtual 74, 3) := by decide +kernel
theorem dX6_saying_29 : decode cX6_saying 29 = .ok (.ireturn, 1) := by decide +kernel
theorem dX6_saying_30 : decode cX6_saying 30 = .ok (.iload_n 2, 1) := by decide +kernel
theorem dX6_saying_31 : decode cX6_saying 31 = .ok (.bipush 10, 2) := by decide +kernel
theorem dX6_saying_33 : decode cX6_saying 33 = .ok (.if_icmp .lt 9, 3) := by decide +kernel
theorem dX6_saying_36 : decode cX6_saying 36 = .ok (.iload_n 2, 1) := by decide +kernel
theorem dX6_saying_37 : decode cX6_saying 37 = .ok (.bipush 14, 2) := by decide +kernel
theorem dX6_saying_39 : decode cX6_saying 39 = .ok (.if_icmp .lt 6, 3) := by decide +kernel
theorem dX6_saying_42 : decode cX6_saying 42 = .ok (.bipush (-102), 2) := by decide +kernel
theorem dX6_saying_44 : decode cX6_saying 44 = .ok (.ireturn, 1) := by decide +kernel
theorem dX6_saying_45 : decode cX6_saying 45 = .ok (.aload_n 0, 1) := by decide +kernel
theorem dX6_saying_46 : decode cX6_saying 46 = .ok (.getfield 19, 3) := by decide +kernel
theorem dX6_saying_49 : decode cX6_saying 49 = .ok (.iload_n 1, 1) := by decide +kernel
theorem dX6_saying_50 : decode cX6_saying 50 = .ok (.iload_n 2, 1) := by decide +kernel
theorem dX6_saying_51 : decode cX6_saying 51 = .ok (.bipush 10, 2) := by decide +kernel
theorem dX6_saying_53 : decode cX6_saying 53 = .ok (.isub, 1) := by decide +kernel
theorem dX6_saying_54 : decode cX6_saying 54 = .ok (.invokevirtual 78, 3) := by decide +kernel
theorem dX6_saying_57 : decode cX6_saying 57 = .ok (.ireturn, 1) := by decide +kernel
theorem dX6_tap_0 : decode cX6_tap 0 = .ok (.iload_n 1, 1) := by decide +kernel
theorem dX6_tap_1 : decode cX6_tap 1 = .ok (.invokestatic 82, 3) := by decide +kernel
theorem dX6_tap_4 : decode cX6_tap 4 = .ok (.ifCond .eq 10, 3) := by decide +kernel
theorem dX6_tap_7 : decode cX6_tap 7 = .ok (.iload_n 2, 1) := by decide +kernel
theorem dX6_tap_8 : decode cX6_tap 8 = .ok (.invokestatic 70, 3) := by decide +kernel
theorem dX6_tap_11 : decode cX6_tap 11 = .ok (.ifCond .ne 6, 3) := by decide +kernel
theorem dX6_tap_14 : decode cX6_tap 14 = .ok (.bipush (-102), 2) := by decide +kernel
theorem dX6_tap_16 : decode cX6_tap 16 = .ok (.ireturn, 1) := by decide +kernel
theorem dX6_tap_17 : decode cX6_tap 17 = .ok (.aload_n 0, 1) := by decide +kernel
theorem dX6_tap_18 : decode cX6_tap 18 = .ok (.getfield 57, 3) := by decide +kernel
theorem dX6_tap_21 : decode cX6_tap 21 = .ok (.ifCond .ne 6, 3) := by decide +kernel
theorem dX6_tap_24 : decode cX6_tap 24 = .ok (.bipush (-103), 2) := by decide +kernel
theorem dX6_tap_26 : decode cX6_tap 26 = .ok (.ireturn, 1) := by decide +kernel
theorem dX6_tap_27 : decode cX6_tap 27 = .ok (.aload_n 0, 1) := by decide +kernel
theorem dX6_tap_28 : decode cX6_tap 28 = .ok (.getfield 26, 3) := by decide +kernel
theorem dX6_tap_31 : decode cX6_tap 31 = .ok (.getfield 67, 3) := by decide +kernel
theorem dX6_tap_34 : decode cX6_tap 34 = .ok (.iconst 5, 1) := by decide +kernel
theorem dX6_tap_35 : decode cX6_tap 35 = .ok (.if_icmp .lt 6, 3) := by decide +kernel
theorem dX6_tap_38 : decode cX6_tap 38 = .ok (.bipush (-104), 2) := by decide +kernel
theorem dX6_tap_40 : decode cX6_tap 40 = .ok (.ireturn, 1) := by decide +kernel
theorem dX6_tap_41 : decode cX6_tap 41 = .ok (.aload_n 0, 1) := by decide +kernel
theorem dX6_tap_42 : decode cX6_tap 42 = .ok (.getfield 26, 3) := by decide +kernel
theorem dX6_tap_45 : decode cX6_tap 45 = .ok (.iload_n 1, 1) := by decide +kernel
theorem dX6_tap_46 : decode cX6_tap 46 = .ok (.iload_n 2, 1) := by decide +kernel
theorem dX6_tap_47 : decode cX6_tap 47 = .ok (.invokevirtual 85, 3) := by decide +kernel
theorem dX6_tap_50 : decode cX6_tap 50 = .ok (.aload_n 0, 1) := by decide +kernel
theorem dX6_tap_51 : decode cX6_tap 51 = .ok (.getfield 26, 3) := by decide +kernel
theorem dX6_tap_54 : decode cX6_tap 54 = .ok (.getfield 67, 3) := by decide +kernel
theorem dX6_tap_57 : decode cX6_tap 57 = .ok (.iconst 1, 1) := by decide +kernel
theorem dX6_tap_58 : decode cX6_tap 58 = .ok (.isub, 1) := by decide +kernel
theorem dX6_tap_59 : decode cX6_tap 59 = .ok (.ireturn, 1) := by decide +kernel
theorem dX6_about_0 : decode cX6_about 0 = .ok (.aload_n 0, 1) := by decide +kernel
theorem dX6_about_1 : decode cX6_about 1 = .ok (.getfield 26, 3) := by decide +kernel
theorem dX6_about_4 : decode cX6_about 4 = .ok (.iload_n 1, 1) := by decide +kernel
theorem dX6_about_5 : decode cX6_about 5 = .ok (.invokevirtual 89, 3) := by decide +kernel
theorem dX6_about_8 : decode cX6_about 8 = .ok (.astore_n 3, 1) := by decide +kernel
theorem dX6_about_9 : decode cX6_about 9 = .ok (.aload_n 3, 1) := by decide +kernel
theorem dX6_about_10 : decode cX6_about 10 = .ok (.ifnonnull 6, 3) := by decide +kernel
theorem dX6_about_13 : decode cX6_about 13 = .ok (.bipush (-101), 2) := by decide +kernel
theorem dX6_about_15 : decode cX6_about 15 = .ok (.ireturn, 1) := by decide +kernel
theorem dX6_about_16 : decode cX6_about 16 = .ok (.iload_n 2, 1) := by decide +kernel
theorem dX6_about_17 : decode cX6_about 17 = .ok (.ifCond .lt 9, 3) := by decide +kernel
theorem dX6_about_20 : decode cX6_about 20 = .ok (.iload_n 2, 1) := by decide +kernel
theorem dX6_about_21 : decode cX6_about 21 = .ok (.bipush 8, 2) := by decide +kernel
theorem dX6_about_23 : decode cX6_about 23 = .ok (.if_icmp .le 6, 3) := by decide +kernel
theorem dX6_about_26 : decode cX6_about 26 = .ok (.bipush (-102), 2) := by decide +kernel
theorem dX6_about_28 : decode cX6_about 28 = .ok (.ireturn, 1) := by decide +kernel
theorem dX6_about_29 : decode cX6_about 29 = .ok (.aload_n 0, 1) := by decide +kernel
theorem dX6_about_30 : decode cX6_about 30 = .ok (.aload_n 3, 1) := by decide +kernel
theorem dX6_about_31 : decode cX6_about 31 = .ok (.iload_n 2, 1) := by decide +kernel
theorem dX6_about_32 : decode cX6_about 32 = .ok (.invokevirtual 93, 3) := by decide +kernel
theorem dX6_about_35 : decode cX6_about 35 = .ok (.ireturn, 1) := by decide +kernel
theorem dX6_as_0 : decode cX6_as 0 = .ok (.aload_n 0, 1) := by decide +kernel
theorem dX6_as_1 : decode cX6_as 1 = .ok (.getfield 26, 3) := by decide +kernel
theorem dX6_as_4 : decode cX6_as 4 = .ok (.iload_n 1, 1) := by decide +kernel
theorem dX6_as_5 : decode cX6_as 5 = .ok (.invokevirtual 89, 3) := by decide +kernel
theorem dX6_as_8 : decode cX6_as 8 = .ok (.astore_n 3, 1) := by decide +kernel
theorem dX6_as_9 : decode cX6_as 9 = .ok (.aload_n 3, 1) := by decide +kernel
theorem dX6_as_10 : decode cX6_as 10 = .ok (.ifnonnull 6, 3) := by decide +kernel
theorem dX6_as_13 : decode cX6_as 13 = .ok (.bipush (-101), 2) := by decide +kernel
theorem dX6_as_15 : decode cX6_as 15 = .ok (.ireturn, 1) := by decide +kernel
theorem dX6_as_16 : decode cX6_as 16 = .ok (.iload_n 2, 1) := by decide +kernel
theorem dX6_as_17 : decode cX6_as 17 = .ok (.invokestatic 82, 3) := by decide +kernel
theorem dX6_as_20 : decode cX6_as 20 = .ok (.ifCond .ne 6, 3) := by decide +kernel
theorem dX6_as_23 : decode cX6_as 23 = .ok (.bipush (-102), 2) := by decide +kernel
theorem dX6_as_25 : decode cX6_as 25 = .ok (.ireturn, 1) := by decide +kernel
theorem dX6_as_26 : decode cX6_as 26 = .ok (.iload_n 2, 1) := by decide +kernel
theorem dX6_as_27 : decode cX6_as 27 = .ok (.ifCond .eq 24, 3) := by decide +kernel
theorem dX6_as_30 : decode cX6_as 30 = .ok (.iload_n 2, 1) := by decide +kernel
theorem dX6_as_31 : decode cX6_as 31 = .ok (.aload_n 3, 1) := by decide +kernel
theorem dX6_as_32 : decode cX6_as 32 = .ok (.getfield 97, 3) := by decide +kernel
theorem dX6_as_35 : decode cX6_as 35 = .ok (.if_icmp .eq 16, 3) := by decide +kernel
theorem dX6_as_38 : decode cX6_as 38 = .ok (.iload_n 2, 1) := by decide +kernel
theorem dX6_as_39 : decode cX6_as 39 = .ok (.iconst 1, 1) := by decide +kernel
theorem dX6_as_40 : decode cX6_as 40 = .ok (.if_icmp .ne 15, 3) := by decide +kernel
theorem dX6_as_43 : decode cX6_as 43 = .ok (.aload_n 3, 1) := by decide +kernel
theorem dX6_as_44 : decode cX6_as 44 = .ok (.getfield 97, 3) := by decide +kernel
theorem dX6_as_47 : decode cX6_as 47 = .ok (.iconst 4, 1) := by decide +kernel
theorem dX6_as_48 : decode cX6_as 48 = .ok (.if_icmp .ne 7, 3) := by decide +kernel
theorem dX6_as_51 : decode cX6_as 51 = .ok (.iconst 1, 1) := by decide +kernel
theorem dX6_as_52 : decode cX6_as 52 = .ok (.goto 4, 3) := by decide +kernel
theorem dX6_as_55 : decode cX6_as 55 = .ok (.iconst 0, 1) := by decide +kernel
theorem dX6_as_56 : decode cX6_as 56 = .ok (.istore 4, 2) := by decide +kernel
theorem dX6_as_58 : decode cX6_as 58 = .ok (.iload 4, 2) := by decide +kernel
theorem dX6_as_60 : decode cX6_as 60 = .ok (.ifCond .eq 7, 3) := by decide +kernel
theorem dX6_as_63 : decode cX6_as 63 = .ok (.iload_n 1, 1) := by decide +kernel
theorem dX6_as_64 : decode cX6_as 64 = .ok (.goto 4, 3) := by decide +kernel
theorem dX6_as_67 : decode cX6_as 67 = .ok (.iconst (-1), 1) := by decide +kernel
theorem dX6_as_68 : decode cX6_as 68 = .ok (.ireturn, 1) := by decide +kernel
theorem dX6_drip_0 : decode cX6_drip 0 = .ok (.aload_n 0, 1) := by decide +kernel
theorem dX6_drip_1 : decode cX6_drip 1 = .ok (.getfield 26, 3) := by decide +kernel
theorem dX6_drip_4 : decode cX6_drip 4 = .ok (.iload_n 1, 1) := by decide +kernel
theorem dX6_drip_5 : decode cX6_drip 5 = .ok (.invokevirtual 89, 3) := by decide +kernel
theorem dX6_drip_8 : decode cX6_drip 8 = .ok (.astore_n 3, 1) := by decide +kernel
theorem dX6_drip_9 : decode cX6_drip 9 = .ok (.aload_n 3, 1) := by decide +kernel
theorem dX6_drip_10 : decode cX6_drip 10 = .ok (.ifnonnull 6, 3) := by decide +kernel
theorem dX6_drip_13 : decode cX6_drip 13 = .ok (.bipush (-101), 2) := by decide +kernel
theorem dX6_drip_15 : decode cX6_drip 15 = .ok (.ireturn, 1) := by decide +kernel
theorem dX6_drip_16 : decode cX6_drip 16 = .ok (.iload_n 2, 1) := by decide +kernel
theorem dX6_drip_17 : decode cX6_drip 17 = .ok (.ifCond .lt 9, 3) := by decide +kernel
theorem dX6_drip_20 : decode cX6_drip 20 = .ok (.iload_n 2, 1) := by decide +kernel
theorem dX6_drip_21 : decode cX6_drip 21 = .ok (.bipush 99, 2) := by decide +kernel
theorem dX6_drip_23 : decode cX6_drip 23 = .ok (.if_icmp .le 6, 3) := by decide +kernel
theorem dX6_drip_26 : decode cX6_drip 26 = .ok (.bipush (-102), 2) := by decide +kernel
theorem dX6_drip_28 : decode cX6_drip 28 = .ok (.ireturn, 1) := by decide +kernel
theorem dX6_drip_29 : decode cX6_drip 29 = .ok (.aload_n 0, 1) := by decide +kernel
theorem dX6_drip_30 : decode cX6_drip 30 = .ok (.aload_n 3, 1) := by decide +kernel
theorem dX6_drip_31 : decode cX6_drip 31 = .ok (.iload_n 2, 1) := by decide +kernel
theorem dX6_drip_32 : decode cX6_drip 32 = .ok (.invokevirtual 102, 3) := by decide +kernel
theorem dX6_drip_35 : decode cX6_drip 35 = .ok (.ireturn, 1) := by decide +kernel
theorem dX6_listen_0 : decode cX6_listen 0 = .ok (.aload_n 0, 1) := by decide +kernel
theorem dX6_listen_1 : decode cX6_listen 1 = .ok (.getfield 26, 3) := by decide +kernel
theorem dX6_listen_4 : decode cX6_listen 4 = .ok (.iload_n 1, 1) := by decide +kernel
theorem dX6_listen_5 : decode cX6_listen 5 = .ok (.invokevirtual 89, 3) := by decide +kernel
theorem dX6_listen_8 : decode cX6_listen 8 = .ok (.astore_n 2, 1) := by decide +kernel
theorem dX6_listen_9 : decode cX6_listen 9 = .ok (.aload_n 2, 1) := by decide +kernel
theorem dX6_listen_10 : decode cX6_listen 10 = .ok (.ifnonnull 6, 3) := by decide +kernel
theorem dX6_listen_13 : decode cX6_listen 13 = .ok (.bipush (-101), 2) := by decide +kernel
theorem dX6_listen_15 : decode cX6_listen 15 = .ok (.ireturn, 1) := by decide +kernel
theorem dX6_listen_16 : decode cX6_listen 16 = .ok (.aload_n 2, 1) := by decide +kernel
theorem dX6_listen_17 : decode cX6_listen 17 = .ok (.getfield 105, 3) := by decide +kernel
theorem dX6_listen_20 : decode cX6_listen 20 = .ok (.bipush 60, 2) := by decide +kernel
theorem dX6_listen_22 : decode cX6_listen 22 = .ok (.if_icmp .lt 6, 3) := by decide +kernel
theorem dX6_listen_25 : decode cX6_listen 25 = .ok (.bipush (-103), 2) := by decide +kernel
theorem dX6_listen_27 : decode cX6_listen 27 = .ok (.ireturn, 1) := by decide +kernel
theorem dX6_listen_28 : decode cX6_listen 28 = .ok (.aload_n 0, 1) := by decide +kernel
theorem dX6_listen_29 : decode cX6_listen 29 = .ok (.aload_n 2, 1) := by decide +kernel
theorem dX6_listen_30 : decode cX6_listen 30 = .ok (.aload_n 2, 1) := by decide +kernel
theorem dX6_listen_31 : decode cX6_listen 31 = .ok (.getfield 105, 3) := by decide +kernel
theorem dX6_listen_34 : decode cX6_listen 34 = .ok (.invokevirtual 102, 3) := by decide +kernel
theorem dX6_listen_37 : decode cX6_listen 37 = .ok (.istore_n 3, 1) := by decide +kernel
theorem dX6_listen_38 : decode cX6_listen 38 = .ok (.aload_n 2, 1) := by decide +kernel
theorem dX6_listen_39 : decode cX6_listen 39 = .ok (.dup, 1) := by decide +kernel
theorem dX6_listen_40 : decode cX6_listen 40 = .ok (.getfield 105, 3) := by decide +kernel
theorem dX6_listen_43 : decode cX6_listen 43 = .ok (.iconst 1, 1) := by decide +kernel
theorem dX6_listen_44 : decode cX6_listen 44 = .ok (.iadd, 1) := by decide +kernel
theorem dX6_listen_45 : decode cX6_listen 45 = .ok (.putfield 105, 3) := by decide +kernel
theorem dX6_listen_48 : decode cX6_listen 48 = .ok (.aload_n 0, 1) := by decide +kernel
theorem dX6_listen_49 : decode cX6_listen 49 = .ok (.getfield 26, 3) := by decide +kernel
theorem dX6_listen_52 : decode cX6_listen 52 = .ok (.dup, 1) := by decide +kernel
theorem dX6_listen_53 : decode cX6_listen 53 = .ok (.getfield 108, 3) := by decide +kernel
theorem dX6_listen_56 : decode cX6_listen 56 = .ok (.iconst 1, 1) := by decide +kernel
theorem dX6_listen_57 : decode cX6_listen 57 = .ok (.iadd, 1) := by decide +kernel
theorem dX6_listen_58 : decode cX6_listen 58 = .ok (.putfield 108, 3) := by decide +kernel
theorem dX6_listen_61 : decode cX6_listen 61 = .ok (.iload_n 3, 1) := by decide +kernel
theorem dX6_listen_62 : decode cX6_listen 62 = .ok (.ireturn, 1) := by decide +kernel
theorem dX6_washer_0 : decode cX6_washer 0 = .ok (.aload_n 0, 1) := by decide +kernel
theorem dX6_washer_1 : decode cX6_washer 1 = .ok (.getfield 26, 3) := by decide +kernel
theorem dX6_washer_4 : decode cX6_washer 4 = .ok (.iload_n 1, 1) := by decide +kernel
theorem dX6_washer_5 : decode cX6_washer 5 = .ok (.invokevirtual 89, 3) := by decide +kernel
theorem dX6_washer_8 : decode cX6_washer 8 = .ok (.astore_n 3, 1) := by decide +kernel
theorem dX6_washer_9 : decode cX6_washer 9 = .ok (.aload_n 3, 1) := by decide +kernel
theorem dX6_washer_10 : decode cX6_washer 10 = .ok (.ifnonnull 6, 3) := by decide +kernel
theorem dX6_washer_13 : decode cX6_washer 13 = .ok (.bipush (-101), 2) := by decide +kernel
theorem dX6_washer_15 : decode cX6_washer 15 = .ok (.ireturn, 1) := by decide +kernel
theorem dX6_washer_16 : decode cX6_washer 16 = .ok (.aload_n 3, 1) := by decide +kernel
theorem dX6_washer_17 : decode cX6_washer 17 = .ok (.getfield 111, 3) := by decide +kernel
theorem dX6_washer_20 : decode cX6_washer 20 = .ok (.istore 4, 2) := by decide +kernel
theorem dX6_washer_22 : decode cX6_washer 22 = .ok (.aload_n 3, 1) := by decide +kernel
theorem dX6_washer_23 : decode cX6_washer 23 = .ok (.iload_n 2, 1) := by decide +kernel
theorem dX6_washer_24 : decode cX6_washer 24 = .ok (.ifCond .eq 7, 3) := by decide +kernel
theorem dX6_washer_27 : decode cX6_washer 27 = .ok (.iconst 1, 1) := by decide +kernel
theorem dX6_washer_28 : decode cX6_washer 28 = .ok (.goto 4, 3) := by decide +kernel
theorem dX6_washer_31 : decode cX6_washer 31 = .ok (.iconst 0, 1) := by decide +kernel
theorem dX6_washer_32 : decode cX6_washer 32 = .ok (.putfield 111, 3) := by decide +kernel
theorem dX6_washer_35 : decode cX6_washer 35 = .ok (.aload_n 0, 1) := by decide +kernel
theorem dX6_washer_36 : decode cX6_washer 36 = .ok (.getfield 26, 3) := by decide +kernel
theorem dX6_washer_39 : decode cX6_washer 39 = .ok (.dup, 1) := by decide +kernel
theorem dX6_washer_40 : decode cX6_washer 40 = .ok (.getfield 108, 3) := by decide +kernel
theorem dX6_washer_43 : decode cX6_washer 43 = .ok (.iconst 1, 1) := by decide +kernel
theorem dX6_washer_44 : decode cX6_washer 44 = .ok (.iadd, 1) := by decide +kernel
theorem dX6_washer_45 : decode cX6_washer 45 = .ok (.putfield 108, 3) := by decide +kernel
theorem dX6_washer_48 : decode cX6_washer 48 = .ok (.iload 4, 2) := by decide +kernel
theorem dX6_washer_50 : decode cX6_washer 50 = .ok (.ireturn, 1) := by decide +kernel
theorem dX6_teach_0 : decode cX6_teach 0 = .ok (.aload_n 0, 1) := by decide +kernel
theorem dX6_teach_1 : decode cX6_teach 1 = .ok (.getfield 26, 3) := by decide +kernel
theorem dX6_teach_4 : decode cX6_teach 4 = .ok (.iload_n 1, 1) := by decide +kernel
theorem dX6_teach_5 : decode cX6_teach 5 = .ok (.invokevirtual 89, 3) := by decide +kernel
theorem dX6_teach_8 : decode cX6_teach 8 = .ok (.astore_n 3, 1) := by decide +kernel
theorem dX6_teach_9 : decode cX6_teach 9 = .ok (.aload_n 3, 1) := by decide +kernel
theorem dX6_teach_10 : decode cX6_teach 10 = .ok (.ifnonnull 6, 3) := by decide +kernel
theorem dX6_teach_13 : decode cX6_teach 13 = .ok (.bipush (-101), 2) := by decide +kernel
theorem dX6_teach_15 : decode cX6_teach 15 = .ok (.ireturn, 1) := by decide +kernel
theorem dX6_teach_16 : decode cX6_teach 16 = .ok (.iload_n 2, 1) := by decide +kernel
theorem dX6_teach_17 : decode cX6_teach 17 = .ok (.invokestatic 70, 3) := by decide +kernel
theorem dX6_teach_20 : decode cX6_teach 20 = .ok (.ifCond .ne 6, 3) := by decide +kernel
theorem dX6_teach_23 : decode cX6_teach 23 = .ok (.bipush (-102), 2) := by decide +kernel
theorem dX6_teach_25 : decode cX6_teach 25 = .ok (.ireturn, 1) := by decide +kernel
theorem dX6_teach_26 : decode cX6_teach 26 = .ok (.aload_n 3, 1) := by decide +kernel
theorem dX6_teach_27 : decode cX6_teach 27 = .ok (.getfield 114, 3) := by decide +kernel
theorem dX6_teach_30 : decode cX6_teach 30 = .ok (.istore 4, 2) := by decide +kernel
theorem dX6_teach_32 : decode cX6_teach 32 = .ok (.aload_n 3, 1) := by decide +kernel
theorem dX6_teach_33 : decode cX6_teach 33 = .ok (.iload_n 2, 1) := by decide +kernel
theorem dX6_teach_34 : decode cX6_teach 34 = .ok (.putfield 114, 3) := by decide +kernel
theorem dX6_teach_37 : decode cX6_teach 37 = .ok (.aload_n 0, 1) := by decide +kernel
theorem dX6_teach_38 : decode cX6_teach 38 = .ok (.getfield 26, 3) := by decide +kernel
theorem dX6_teach_41 : decode cX6_teach 41 = .ok (.dup, 1) := by decide +kernel
theorem dX6_teach_42 : decode cX6_teach 42 = .ok (.getfield 108, 3) := by decide +kernel
theorem dX6_teach_45 : decode cX6_teach 45 = .ok (.iconst 1, 1) := by decide +kernel
theorem dX6_teach_46 : decode cX6_teach 46 = .ok (.iadd, 1) := by decide +kernel
theorem dX6_teach_47 : decode cX6_teach 47 = .ok (.putfield 108, 3) := by decide +kernel
theorem dX6_teach_50 : decode cX6_teach 50 = .ok (.iload 4, 2) := by decide +kernel
theorem dX6_teach_52 : decode cX6_teach 52 = .ok (.ireturn, 1) := by decide +kernel
theorem dX6_agree_0 : decode cX6_agree 0 = .ok (.aload_n 0, 1) := by decide +kernel
theorem dX6_agree_1 : decode cX6_agree 1 = .ok (.getfield 26, 3) := by decide +kernel
theorem dX6_agree_4 : decode cX6_agree 4 = .ok (.iload_n 1, 1) := by decide +kernel
theorem dX6_agree_5 : decode cX6_agree 5 = .ok (.invokevirtual 89, 3) := by decide +kernel
theorem dX6_agree_8 : decode cX6_agree 8 = .ok (.astore_n 3, 1) := by decide +kernel
theorem dX6_agree_9 : decode cX6_agree 9 = .ok (.aload_n 0, 1) := by decide +kernel
theorem dX6_agree_10 : decode cX6_agree 10 = .ok (.getfield 26, 3) := by decide +kernel
theorem dX6_agree_13 : decode cX6_agree 13 = .ok (.iload_n 2, 1) := by decide +kernel
theorem dX6_agree_14 : decode cX6_agree 14 = .ok (.invokevirtual 89, 3) := by decide +kernel
theorem dX6_agree_17 : decode cX6_agree 17 = .ok (.astore 4, 2) := by decide +kernel
theorem dX6_agree_19 : decode cX6_agree 19 = .ok (.aload_n 3, 1) := by decide +kernel
theorem dX6_agree_20 : decode cX6_agree 20 = .ok (.ifnull 13, 3) := by decide +kernel
theorem dX6_agree_23 : decode cX6_agree 23 = .ok (.aload 4, 2) := by decide +kernel
theorem dX6_agree_25 : decode cX6_agree 25 = .ok (.ifnull 8, 3) := by decide +kernel
theorem dX6_agree_28 : decode cX6_agree 28 = .ok (.iload_n 1, 1) := by decide +kernel
theorem dX6_agree_29 : decode cX6_agree 29 = .ok (.iload_n 2, 1) := by decide +kernel
theorem dX6_agree_30 : decode cX6_agree 30 = .ok (.if_icmp .ne 6, 3) := by decide +kernel
theorem dX6_agree_33 : decode cX6_agree 33 = .ok (.bipush (-101), 2) := by decide +kernel
theorem dX6_agree_35 : decode cX6_agree 35 = .ok (.ireturn, 1) := by decide +kernel
theorem dX6_agree_36 : decode cX6_agree 36 = .ok (.iconst 0, 1) := by decide +kernel
theorem dX6_agree_37 : decode cX6_agree 37 = .ok (.istore 5, 2) := by decide +kernel
theorem dX6_agree_39 : decode cX6_agree 39 = .ok (.iconst 0, 1) := by decide +kernel
theorem dX6_agree_40 : decode cX6_agree 40 = .ok (.istore 6, 2) := by decide +kernel
theorem dX6_agree_42 : decode cX6_agree 42 = .ok (.iload 6, 2) := by decide +kernel
theorem dX6_agree_44 : decode cX6_agree 44 = .ok (.bipush 16, 2) := by decide +kernel
theorem dX6_agree_46 : decode cX6_agree 46 = .ok (.if_icmp .ge 41, 3) := by decide +kernel
theorem dX6_agree_49 : decode cX6_agree 49 = .ok (.aload_n 0, 1) := by decide +kernel
theorem dX6_agree_50 : decode cX6_agree 50 = .ok (.aload_n 3, 1) := by decide +kernel
theorem dX6_agree_51 : decode cX6_agree 51 = .ok (.aload_n 3, 1) := by decide +kernel
theorem dX6_agree_52 : decode cX6_agree 52 = .ok (.getfield 105, 3) := by decide +kernel
theorem dX6_agree_55 : decode cX6_agree 55 = .ok (.iload 6, 2) := by decide +kernel
theorem dX6_agree_57 : decode cX6_agree 57 = .ok (.iadd, 1) := by decide +kernel
theorem dX6_agree_58 : decode cX6_agree 58 = .ok (.invokevirtual 102, 3) := by decide +kernel
theorem dX6_agree_61 : decode cX6_agree 61 = .ok (.aload_n 0, 1) := by decide +kernel
theorem dX6_agree_62 : decode cX6_agree 62 = .ok (.aload 4, 2) := by decide +kernel
theorem dX6_agree_64 : decode cX6_agree 64 = .ok (.aload 4, 2) := by decide +kernel
theorem dX6_agree_66 : decode cX6_agree 66 = .ok (.getfield 105, 3) := by decide +kernel
theorem dX6_agree_69 : decode cX6_agree 69 = .ok (.iload 6, 2) := by decide +kernel
theorem dX6_agree_71 : decode cX6_agree 71 = .ok (.iadd, 1) := by decide +kernel
theorem dX6_agree_72 : decode cX6_agree 72 = .ok (.invokevirtual 102, 3) := by decide +kernel
theorem dX6_agree_75 : decode cX6_agree 75 = .ok (.if_icmp .ne 6, 3) := by decide +kernel
theorem dX6_agree_78 : decode cX6_agree 78 = .ok (.iinc 5 1, 3) := by decide +kernel
theorem dX6_agree_81 : decode cX6_agree 81 = .ok (.iinc 6 1, 3) := by decide +kernel
theorem dX6_agree_84 : decode cX6_agree 84 = .ok (.goto (-42), 3) := by decide +kernel
theorem dX6_agree_87 : decode cX6_agree 87 = .ok (.iload 5, 2) := by decide +kernel
theorem dX6_agree_89 : decode cX6_agree 89 = .ok (.ireturn, 1) := by decide +kernel
theorem dX6_near_0 : decode cX6_near 0 = .ok (.aload_n 0, 1) := by decide +kernel
theorem dX6_near_1 : decode cX6_near 1 = .ok (.getfield 26, 3) := by decide +kernel
theorem dX6_near_4 : decode cX6_near 4 = .ok (.iload_n 1, 1) := by decide +kernel
theorem dX6_near_5 : decode cX6_near 5 = .ok (.invokevirtual 89, 3) := by decide +kernel
theorem dX6_near_8 : decode cX6_near 8 = .ok (.astore 4, 2) := by decide +kernel
theorem dX6_near_10 : decode cX6_near 10 = .ok (.aload 4, 2) := by decide +kernel
theorem dX6_near_12 : decode cX6_near 12 = .ok (.ifnonnull 6, 3) := by decide +kernel
theorem dX6_near_15 : decode cX6_near 15 = .ok (.bipush (-101), 2) := by decide +kernel
theorem dX6_near_17 : decode cX6_near 17 = .ok (.ireturn, 1) := by decide +kernel
theorem dX6_near_18 : decode cX6_near 18 = .ok (.iload_n 2, 1) := by decide +kernel
theorem dX6_near_19 : decode cX6_near 19 = .ok (.invokestatic 70, 3) := by decide +kernel
theorem dX6_near_22 : decode cX6_near 22 = .ok (.ifCond .eq 12, 3) := by decide +kernel
theorem dX6_near_25 : decode cX6_near 25 = .ok (.iload_n 3, 1) := by decide +kernel
theorem dX6_near_26 : decode cX6_near 26 = .ok (.ifCond .lt 8, 3) := by decide +kernel
theorem dX6_near_29 : decode cX6_near 29 = .ok (.iload_n 3, 1) := by decide +kernel
theorem dX6_near_30 : decode cX6_near 30 = .ok (.iconst 1, 1) := by decide +kernel
theorem dX6_near_31 : decode cX6_near 31 = .ok (.if_icmp .le 6, 3) := by decide +kernel
theorem dX6_near_34 : decode cX6_near 34 = .ok (.bipush (-102), 2) := by decide +kernel
theorem dX6_near_36 : decode cX6_near 36 = .ok (.ireturn, 1) := by decide +kernel
theorem dX6_near_37 : decode cX6_near 37 = .ok (.aload_n 0, 1) := by decide +kernel
theorem dX6_near_38 : decode cX6_near 38 = .ok (.aload 4, 2) := by decide +kernel
theorem dX6_near_40 : decode cX6_near 40 = .ok (.iload_n 2, 1) := by decide +kernel
theorem dX6_near_41 : decode cX6_near 41 = .ok (.iload_n 3, 1) := by decide +kernel
theorem dX6_near_42 : decode cX6_near 42 = .ok (.invokevirtual 117, 3) := by decide +kernel
theorem dX6_near_45 : decode cX6_near 45 = .ok (.ireturn, 1) := by decide +kernel
theorem dX6_put_0 : decode cX6_put 0 = .ok (.aload_n 0, 1) := by decide +kernel
theorem dX6_put_1 : decode cX6_put 1 = .ok (.getfield 26, 3) := by decide +kernel
theorem dX6_put_4 : decode cX6_put 4 = .ok (.iload_n 1, 1) := by decide +kernel
theorem dX6_put_5 : decode cX6_put 5 = .ok (.invokevirtual 89, 3) := by decide +kernel
theorem dX6_put_8 : decode cX6_put 8 = .ok (.astore 4, 2) := by decide +kernel
theorem dX6_put_10 : decode cX6_put 10 = .ok (.aload 4, 2) := by decide +kernel
theorem dX6_put_12 : decode cX6_put 12 = .ok (.ifnonnull 6, 3) := by decide +kernel
theorem dX6_put_15 : decode cX6_put 15 = .ok (.bipush (-101), 2) := by decide +kernel
theorem dX6_put_17 : decode cX6_put 17 = .ok (.ireturn, 1) := by decide +kernel
theorem dX6_put_18 : decode cX6_put 18 = .ok (.iload_n 2, 1) := by decide +kernel
theorem dX6_put_19 : decode cX6_put 19 = .ok (.ifCond .lt 9, 3) := by decide +kernel
theorem dX6_put_22 : decode cX6_put 22 = .ok (.iload_n 2, 1) := by decide +kernel
theorem dX6_put_23 : decode cX6_put 23 = .ok (.bipush 59, 2) := by decide +kernel
theorem dX6_put_25 : decode cX6_put 25 = .ok (.if_icmp .le 6, 3) := by decide +kernel
theorem dX6_put_28 : decode cX6_put 28 = .ok (.bipush (-102), 2) := by decide +kernel
theorem dX6_put_30 : decode cX6_put 30 = .ok (.ireturn, 1) := by decide +kernel
theorem dX6_put_31 : decode cX6_put 31 = .ok (.aload_n 0, 1) := by decide +kernel
theorem dX6_put_32 : decode cX6_put 32 = .ok (.getfield 26, 3) := by decide +kernel
theorem dX6_put_35 : decode cX6_put 35 = .ok (.getfield 121, 3) := by decide +kernel
theorem dX6_put_38 : decode cX6_put 38 = .ok (.bipush 8, 2) := by decide +kernel
theorem dX6_put_40 : decode cX6_put 40 = .ok (.if_icmp .lt 6, 3) := by decide +kernel
theorem dX6_put_43 : decode cX6_put 43 = .ok (.bipush (-104), 2) := by decide +kernel
theorem dX6_put_45 : decode cX6_put 45 = .ok (.ireturn, 1) := by decide +kernel
theorem dX6_put_46 : decode cX6_put 46 = .ok (.aload_n 0, 1) := by decide +kernel
theorem dX6_put_47 : decode cX6_put 47 = .ok (.getfield 26, 3) := by decide +kernel
theorem dX6_put_50 : decode cX6_put 50 = .ok (.aload 4, 2) := by decide +kernel
theorem dX6_put_52 : decode cX6_put 52 = .ok (.iload_n 2, 1) := by decide +kernel
theorem dX6_put_53 : decode cX6_put 53 = .ok (.iload_n 3, 1) := by decide +kernel
theorem dX6_put_54 : decode cX6_put 54 = .ok (.ifCond .eq 7, 3) := by decide +kernel
theorem dX6_put_57 : decode cX6_put 57 = .ok (.iconst 1, 1) := by decide +kernel
theorem dX6_put_58 : decode cX6_put 58 = .ok (.goto 4, 3) := by decide +kernel
theorem dX6_put_61 : decode cX6_put 61 = .ok (.iconst 0, 1) := by decide +kernel
theorem dX6_put_62 : decode cX6_put 62 = .ok (.invokevirtual 124, 3) := by decide +kernel
theorem dX6_put_65 : decode cX6_put 65 = .ok (.aload_n 0, 1) := by decide +kernel
theorem dX6_put_66 : decode cX6_put 66 = .ok (.getfield 26, 3) := by decide +kernel
theorem dX6_put_69 : decode cX6_put 69 = .ok (.getfield 121, 3) := by decide +kernel
theorem dX6_put_72 : decode cX6_put 72 = .ok (.ireturn, 1) := by decide +kernel
theorem dX6_forget_0 : decode cX6_forget 0 = .ok (.aload_n 0, 1) := by decide +kernel
theorem dX6_forget_1 : decode cX6_forget 1 = .ok (.getfield 26, 3) := by decide +kernel
theorem dX6_forget_4 : decode cX6_forget 4 = .ok (.getfield 121, 3) := by decide +kernel
theorem dX6_forget_7 : decode cX6_forget 7 = .ok (.istore_n 1, 1) := by decide +kernel
theorem dX6_forget_8 : decode cX6_forget 8 = .ok (.aload_n 0, 1) := by decide +kernel
theorem dX6_forget_9 : decode cX6_forget 9 = .ok (.getfield 26, 3) := by decide +kernel
theorem dX6_forget_12 : decode cX6_forget 12 = .ok (.iconst 0, 1) := by decide +kernel
theorem dX6_forget_13 : decode cX6_forget 13 = .ok (.putfield 121, 3) := by decide +kernel
theorem dX6_forget_16 : decode cX6_forget 16 = .ok (.iload_n 1, 1) := by decide +kernel
theorem dX6_forget_17 : decode cX6_forget 17 = .ok (.ireturn, 1) := by decide +kernel
theorem dX6_nights_0 : decode cX6_nights 0 = .ok (.iload_n 1, 1) := by decide +kernel
theorem dX6_nights_1 : decode cX6_nights 1 = .ok (.iconst 1, 1) := by decide +kernel
theorem dX6_nights_2 : decode cX6_nights 2 = .ok (.if_icmp .lt 22, 3) := by decide +kernel
theorem dX6_nights_5 : decode cX6_nights 5 = .ok (.iload_n 1, 1) := by decide +kernel
theorem dX6_nights_6 : decode cX6_nights 6 = .ok (.bipush 40, 2) := by decide +kernel
theorem dX6_nights_8 : decode cX6_nights 8 = .ok (.if_icmp .gt 16, 3) := by decide +kernel
theorem dX6_nights_11 : decode cX6_nights 11 = .ok (.iload_n 2, 1) := by decide +kernel
theorem dX6_nights_12 : decode cX6_nights 12 = .ok (.ifCond .lt 12, 3) := by decide +kernel
theorem dX6_nights_15 : decode cX6_nights 15 = .ok (.iload_n 3, 1) := by decide +kernel
theorem dX6_nights_16 : decode cX6_nights 16 = .ok (.ifCond .lt 8, 3) := by decide +kernel
theorem dX6_nights_19 : decode cX6_nights 19 = .ok (.iload_n 3, 1) := by decide +kernel
theorem dX6_nights_20 : decode cX6_nights 20 = .ok (.iconst 2, 1) := by decide +kernel
theorem dX6_nights_21 : decode cX6_nights 21 = .ok (.if_icmp .le 6, 3) := by decide +kernel
theorem dX6_nights_24 : decode cX6_nights 24 = .ok (.bipush (-102), 2) := by decide +kernel
theorem dX6_nights_26 : decode cX6_nights 26 = .ok (.ireturn, 1) := by decide +kernel
theorem dX6_nights_27 : decode cX6_nights 27 = .ok (.aload_n 0, 1) := by decide +kernel
theorem dX6_nights_28 : decode cX6_nights 28 = .ok (.getfield 57, 3) := by decide +kernel
theorem dX6_nights_31 : decode cX6_nights 31 = .ok (.ifCond .ne 6, 3) := by decide +kernel
theorem dX6_nights_34 : decode cX6_nights 34 = .ok (.bipush (-103), 2) := by decide +kernel
theorem dX6_nights_36 : decode cX6_nights 36 = .ok (.ireturn, 1) := by decide +kernel
theorem dX6_nights_37 : decode cX6_nights 37 = .ok (.iconst 0, 1) := by decide +kernel
theorem dX6_nights_38 : decode cX6_nights 38 = .ok (.istore 4, 2) := by decide +kernel
theorem dX6_nights_40 : decode cX6_nights 40 = .ok (.iconst 0, 1) := by decide +kernel
theorem dX6_nights_41 : decode cX6_nights 41 = .ok (.istore 5, 2) := by decide +kernel
theorem dX6_nights_43 : decode cX6_nights 43 = .ok (.iload_n 2, 1) := by decide +kernel
theorem dX6_nights_44 : decode cX6_nights 44 = .ok (.istore 6, 2) := by decide +kernel
theorem dX6_nights_46 : decode cX6_nights 46 = .ok (.iconst 0, 1) := by decide +kernel
theorem dX6_nights_47 : decode cX6_nights 47 = .ok (.istore 7, 2) := by decide +kernel
theorem dX6_nights_49 : decode cX6_nights 49 = .ok (.iload 7, 2) := by decide +kernel
theorem dX6_nights_51 : decode cX6_nights 51 = .ok (.iload_n 1, 1) := by decide +kernel
theorem dX6_nights_52 : decode cX6_nights 52 = .ok (.if_icmp .ge 100, 3) := by decide +kernel
theorem dX6_nights_55 : decode cX6_nights 55 = .ok (.iconst 0, 1) := by decide +kernel
theorem dX6_nights_56 : decode cX6_nights 56 = .ok (.istore 8, 2) := by decide +kernel
theorem dX6_nights_58 : decode cX6_nights 58 = .ok (.iload 8, 2) := by decide +kernel
theorem dX6_nights_60 : decode cX6_nights 60 = .ok (.aload_n 0, 1) := by decide +kernel
theorem dX6_nights_61 : decode cX6_nights 61 = .ok (.getfield 26, 3) := by decide +kernel
theorem dX6_nights_64 : decode cX6_nights 64 = .ok (.getfield 67, 3) := by decide +kernel
theorem dX6_nights_67 : decode cX6_nights 67 = .ok (.if_icmp .ge 79, 3) := by decide +kernel
theorem dX6_nights_70 : decode cX6_nights 70 = .ok (.aload_n 0, 1) := by decide +kernel
theorem dX6_nights_71 : decode cX6_nights 71 = .ok (.getfield 26, 3) := by decide +kernel
theorem dX6_nights_74 : decode cX6_nights 74 = .ok (.iload 8, 2) := by decide +kernel
theorem dX6_nights_76 : decode cX6_nights 76 = .ok (.invokevirtual 89, 3) := by decide +kernel
theorem dX6_nights_79 : decode cX6_nights 79 = .ok (.astore 9, 2) := by decide +kernel
theorem dX6_nights_81 : decode cX6_nights 81 = .ok (.aload 9, 2) := by decide +kernel
theorem dX6_nights_83 : decode cX6_nights 83 = .ok (.ifnonnull 6, 3) := by decide +kernel
theorem dX6_nights_86 : decode cX6_nights 86 = .ok (.goto 54, 3) := by decide +kernel
theorem dX6_nights_89 : decode cX6_nights 89 = .ok (.iload 6, 2) := by decide +kernel
theorem dX6_nights_91 : decode cX6_nights 91 = .ok (.invokestatic 128, 3) := by decide +kernel
theorem dX6_nights_94 : decode cX6_nights 94 = .ok (.istore 6, 2) := by decide +kernel
theorem dX6_nights_96 : decode cX6_nights 96 = .ok (.iload 6, 2) := by decide +kernel
theorem dX6_nights_98 : decode cX6_nights 98 = .ok (.invokestatic 131, 3) := by decide +kernel
theorem dX6_nights_101 : decode cX6_nights 101 = .ok (.ifCond .ne 7, 3) := by decide +kernel
theorem dX6_nights_104 : decode cX6_nights 104 = .ok (.iconst 1, 1) := by decide +kernel
theorem dX6_nights_105 : decode cX6_nights 105 = .ok (.goto 4, 3) := by decide +kernel
theorem dX6_nights_108 : decode cX6_nights 108 = .ok (.iconst 0, 1) := by decide +kernel
theorem dX6_nights_109 : decode cX6_nights 109 = .ok (.istore 10, 2) := by decide +kernel
theorem dX6_nights_111 : decode cX6_nights 111 = .ok (.iload 5, 2) := by decide +kernel
theorem dX6_nights_113 : decode cX6_nights 113 = .ok (.iload 10, 2) := by decide +kernel
theorem dX6_nights_115 : decode cX6_nights 115 = .ok (.iadd, 1) := by decide +kernel
theorem dX6_nights_116 : decode cX6_nights 116 = .ok (.istore 5, 2) := by decide +kernel
theorem dX6_nights_118 : decode cX6_nights 118 = .ok (.iload 4, 2) := by decide +kernel
theorem dX6_nights_120 : decode cX6_nights 120 = .ok (.aload_n 0, 1) := by decide +kernel
theorem dX6_nights_121 : decode cX6_nights 121 = .ok (.aload 9, 2) := by decide +kernel
theorem dX6_nights_123 : decode cX6_nights 123 = .ok (.aload 9, 2) := by decide +kernel
theorem dX6_nights_125 : decode cX6_nights 125 = .ok (.getfield 105, 3) := by decide +kernel
theorem dX6_nights_128 : decode cX6_nights 128 = .ok (.iload 7, 2) := by decide +kernel
theorem dX6_nights_130 : decode cX6_nights 130 = .ok (.iadd, 1) := by decide +kernel
theorem dX6_nights_131 : decode cX6_nights 131 = .ok (.invokevirtual 102, 3) := by decide +kernel
theorem dX6_nights_134 : decode cX6_nights 134 = .ok (.iload 10, 2) := by decide +kernel
theorem dX6_nights_136 : decode cX6_nights 136 = .ok (.ixor, 1) := by decide +kernel
theorem dX6_nights_137 : decode cX6_nights 137 = .ok (.iadd, 1) := by decide +kernel
theorem dX6_nights_138 : decode cX6_nights 138 = .ok (.istore 4, 2) := by decide +kernel
theorem dX6_nights_140 : decode cX6_nights 140 = .ok (.iinc 8 1, 3) := by decide +kernel
theorem dX6_nights_143 : decode cX6_nights 143 = .ok (.goto (-85), 3) := by decide +kernel
theorem dX6_nights_146 : decode cX6_nights 146 = .ok (.iinc 7 1, 3) := by decide +kernel
theorem dX6_nights_149 : decode cX6_nights 149 = .ok (.goto (-100), 3) := by decide +kernel
theorem dX6_nights_152 : decode cX6_nights 152 = .ok (.iload_n 3, 1) := by decide +kernel
theorem dX6_nights_153 : decode cX6_nights 153 = .ok (.ifCond .ne 8, 3) := by decide +kernel
theorem dX6_nights_156 : decode cX6_nights 156 = .ok (.iload 4, 2) := by decide +kernel
theorem dX6_nights_158 : decode cX6_nights 158 = .ok (.goto 15, 3) := by decide +kernel
theorem dX6_nights_161 : decode cX6_nights 161 = .ok (.iload_n 3, 1) := by decide +kernel
theorem dX6_nights_162 : decode cX6_nights 162 = .ok (.iconst 1, 1) := by decide +kernel
theorem dX6_nights_163 : decode cX6_nights 163 = .ok (.if_icmp .ne 8, 3) := by decide +kernel
theorem dX6_nights_166 : decode cX6_nights 166 = .ok (.iload 5, 2) := by decide +kernel
theorem dX6_nights_168 : decode cX6_nights 168 = .ok (.goto 5, 3) := by decide +kernel
theorem dX6_nights_171 : decode cX6_nights 171 = .ok (.iload 6, 2) := by decide +kernel
theorem dX6_nights_173 : decode cX6_nights 173 = .ok (.ireturn, 1) := by decide +kernel
theorem dX6_image_0 : decode cX6_image 0 = .ok (.aload_n 0, 1) := by decide +kernel
theorem dX6_image_1 : decode cX6_image 1 = .ok (.getfield 57, 3) := by decide +kernel
theorem dX6_image_4 : decode cX6_image 4 = .ok (.ifCond .ne 6, 3) := by decide +kernel
theorem dX6_image_7 : decode cX6_image 7 = .ok (.bipush (-103), 2) := by decide +kernel
theorem dX6_image_9 : decode cX6_image 9 = .ok (.ireturn, 1) := by decide +kernel
theorem dX6_image_10 : decode cX6_image 10 = .ok (.aload_n 0, 1) := by decide +kernel
theorem dX6_image_11 : decode cX6_image 11 = .ok (.getfield 30, 3) := by decide +kernel
theorem dX6_image_14 : decode cX6_image 14 = .ok (.aload_n 0, 1) := by decide +kernel
theorem dX6_image_15 : decode cX6_image 15 = .ok (.getfield 26, 3) := by decide +kernel
theorem dX6_image_18 : decode cX6_image 18 = .ok (.invokevirtual 134, 3) := by decide +kernel
theorem dX6_image_21 : decode cX6_image 21 = .ok (.aload_n 0, 1) := by decide +kernel
theorem dX6_image_22 : decode cX6_image 22 = .ok (.iconst 1, 1) := by decide +kernel
theorem dX6_image_23 : decode cX6_image 23 = .ok (.putfield 61, 3) := by decide +kernel
theorem dX6_image_26 : decode cX6_image 26 = .ok (.aload_n 0, 1) := by decide +kernel
theorem dX6_image_27 : decode cX6_image 27 = .ok (.getfield 26, 3) := by decide +kernel
theorem dX6_image_30 : decode cX6_image 30 = .ok (.getfield 108, 3) := by decide +kernel
theorem dX6_image_33 : decode cX6_image 33 = .ok (.ireturn, 1) := by decide +kernel
theorem dX6_restore_0 : decode cX6_restore 0 = .ok (.aload_n 0, 1) := by decide +kernel
theorem dX6_restore_1 : decode cX6_restore 1 = .ok (.getfield 61, 3) := by decide +kernel
theorem dX6_restore_4 : decode cX6_restore 4 = .ok (.ifCond .ne 6, 3) := by decide +kernel
theorem dX6_restore_7 : decode cX6_restore 7 = .ok (.bipush (-103), 2) := by decide +kernel
theorem dX6_restore_9 : decode cX6_restore 9 = .ok (.ireturn, 1) := by decide +kernel
theorem dX6_restore_10 : decode cX6_restore 10 = .ok (.aload_n 0, 1) := by decide +kernel
theorem dX6_restore_11 : decode cX6_restore 11 = .ok (.getfield 26, 3) := by decide +kernel
theorem dX6_restore_14 : decode cX6_restore 14 = .ok (.aload_n 0, 1) := by decide +kernel
theorem dX6_restore_15 : decode cX6_restore 15 = .ok (.getfield 30, 3) := by decide +kernel
theorem dX6_restore_18 : decode cX6_restore 18 = .ok (.invokevirtual 134, 3) := by decide +kernel
theorem dX6_restore_21 : decode cX6_restore 21 = .ok (.aload_n 0, 1) := by decide +kernel
theorem dX6_restore_22 : decode cX6_restore 22 = .ok (.getfield 26, 3) := by decide +kernel
theorem dX6_restore_25 : decode cX6_restore 25 = .ok (.getfield 108, 3) := by decide +kernel
theorem dX6_restore_28 : decode cX6_restore 28 = .ok (.ireturn, 1) := by decide +kernel
theorem dX6_count_0 : decode cX6_count 0 = .ok (.iload_n 1, 1) := by decide +kernel
theorem dX6_count_1 : decode cX6_count 1 = .ok (.ifCond .lt 9, 3) := by decide +kernel
theorem dX6_count_4 : decode cX6_count 4 = .ok (.iload_n 1, 1) := by decide +kernel
theorem dX6_count_5 : decode cX6_count 5 = .ok (.bipush 7, 2) := by decide +kernel
theorem dX6_count_7 : decode cX6_count 7 = .ok (.if_icmp .le 6, 3) := by decide +kernel
theorem dX6_count_10 : decode cX6_count 10 = .ok (.bipush (-102), 2) := by decide +kernel
theorem dX6_count_12 : decode cX6_count 12 = .ok (.ireturn, 1) := by decide +kernel
theorem dX6_count_13 : decode cX6_count 13 = .ok (.aload_n 0, 1) := by decide +kernel
theorem dX6_count_14 : decode cX6_count 14 = .ok (.iload_n 1, 1) := by decide +kernel
theorem dX6_count_15 : decode cX6_count 15 = .ok (.invokevirtual 138, 3) := by decide +kernel
theorem dX6_count_18 : decode cX6_count 18 = .ok (.ireturn, 1) := by decide +kernel
theorem dX6_digest_0 : decode cX6_digest 0 = .ok (.ldc2_w 141, 3) := by decide +kernel
theorem dX6_digest_3 : decode cX6_digest 3 = .ok (.lstore_n 1, 1) := by decide +kernel
theorem dX6_digest_4 : decode cX6_digest 4 = .ok (.aload_n 0, 1) := by decide +kernel
theorem dX6_digest_5 : decode cX6_digest 5 = .ok (.getfield 57, 3) := by decide +kernel
theorem dX6_digest_8 : decode cX6_digest 8 = .ok (.ifCond .eq 9, 3) := by decide +kernel
theorem dX6_digest_11 : decode cX6_digest 11 = .ok (.aload_n 0, 1) := by decide +kernel
theorem dX6_digest_12 : decode cX6_digest 12 = .ok (.lload_n 1, 1) := by decide +kernel
theorem dX6_digest_13 : decode cX6_digest 13 = .ok (.invokevirtual 143, 3) := by decide +kernel
theorem dX6_digest_16 : decode cX6_digest 16 = .ok (.lstore_n 1, 1) := by decide +kernel
theorem dX6_digest_17 : decode cX6_digest 17 = .ok (.iconst 0, 1) := by decide +kernel
theorem dX6_digest_18 : decode cX6_digest 18 = .ok (.istore_n 3, 1) := by decide +kernel
theorem dX6_digest_19 : decode cX6_digest 19 = .ok (.iload_n 3, 1) := by decide +kernel
theorem dX6_digest_20 : decode cX6_digest 20 = .ok (.aload_n 0, 1) := by decide +kernel
theorem dX6_digest_21 : decode cX6_digest 21 = .ok (.getfield 26, 3) := by decide +kernel
theorem dX6_digest_24 : decode cX6_digest 24 = .ok (.getfield 67, 3) := by decide +kernel
theorem dX6_digest_27 : decode cX6_digest 27 = .ok (.if_icmp .ge 32, 3) := by decide +kernel
theorem dX6_digest_30 : decode cX6_digest 30 = .ok (.aload_n 0, 1) := by decide +kernel
theorem dX6_digest_31 : decode cX6_digest 31 = .ok (.getfield 26, 3) := by decide +kernel
theorem dX6_digest_34 : decode cX6_digest 34 = .ok (.iload_n 3, 1) := by decide +kernel
theorem dX6_digest_35 : decode cX6_digest 35 = .ok (.invokevirtual 89, 3) := by decide +kernel
theorem dX6_digest_38 : decode cX6_digest 38 = .ok (.astore 4, 2) := by decide +kernel
theorem dX6_digest_40 : decode cX6_digest 40 = .ok (.aload 4, 2) := by decide +kernel
theorem dX6_digest_42 : decode cX6_digest 42 = .ok (.ifnull 11, 3) := by decide +kernel
theorem dX6_digest_45 : decode cX6_digest 45 = .ok (.aload_n 0, 1) := by decide +kernel
theorem dX6_digest_46 : decode cX6_digest 46 = .ok (.lload_n 1, 1) := by decide +kernel
theorem dX6_digest_47 : decode cX6_digest 47 = .ok (.aload 4, 2) := by decide +kernel
theorem dX6_digest_49 : decode cX6_digest 49 = .ok (.invokevirtual 147, 3) := by decide +kernel
theorem dX6_digest_52 : decode cX6_digest 52 = .ok (.lstore_n 1, 1) := by decide +kernel
theorem dX6_digest_53 : decode cX6_digest 53 = .ok (.iinc 3 1, 3) := by decide +kernel
theorem dX6_digest_56 : decode cX6_digest 56 = .ok (.goto (-37), 3) := by decide +kernel
theorem dX6_digest_59 : decode cX6_digest 59 = .ok (.iconst 0, 1) := by decide +kernel
theorem dX6_digest_60 : decode cX6_digest 60 = .ok (.istore_n 3, 1) := by decide +kernel
theorem dX6_digest_61 : decode cX6_digest 61 = .ok (.iload_n 3, 1) := by decide +kernel
theorem dX6_digest_62 : decode cX6_digest 62 = .ok (.aload_n 0, 1) := by decide +kernel
theorem dX6_digest_63 : decode cX6_digest 63 = .ok (.getfield 10, 3) := by decide +kernel
theorem dX6_digest_66 : decode cX6_digest 66 = .ok (.getfield 33, 3) := by decide +kernel
theorem dX6_digest_69 : decode cX6_digest 69 = .ok (.if_icmp .ge 25, 3) := by decide +kernel
theorem dX6_digest_72 : decode cX6_digest 72 = .ok (.ldc2_w 151, 3) := by decide +kernel
theorem dX6_digest_75 : decode cX6_digest 75 = .ok (.lload_n 1, 1) := by decide +kernel
theorem dX6_digest_76 : decode cX6_digest 76 = .ok (.lmul, 1) := by decide +kernel
theorem dX6_digest_77 : decode cX6_digest 77 = .ok (.aload_n 0, 1) := by decide +kernel
theorem dX6_digest_78 : decode cX6_digest 78 = .ok (.getfield 10, 3) := by decide +kernel
theorem dX6_digest_81 : decode cX6_digest 81 = .ok (.iload_n 3, 1) := by decide +kernel
theorem dX6_digest_82 : decode cX6_digest 82 = .ok (.invokevirtual 153, 3) := by decide +kernel
theorem dX6_digest_85 : decode cX6_digest 85 = .ok (.i2l, 1) := by decide +kernel
theorem dX6_digest_86 : decode cX6_digest 86 = .ok (.ladd, 1) := by decide +kernel
theorem dX6_digest_87 : decode cX6_digest 87 = .ok (.lstore_n 1, 1) := by decide +kernel
theorem dX6_digest_88 : decode cX6_digest 88 = .ok (.iinc 3 1, 3) := by decide +kernel
theorem dX6_digest_91 : decode cX6_digest 91 = .ok (.goto (-30), 3) := by decide +kernel
theorem dX6_digest_94 : decode cX6_digest 94 = .ok (.iconst 0, 1) := by decide +kernel
theorem dX6_digest_95 : decode cX6_digest 95 = .ok (.istore_n 3, 1) := by decide +kernel
theorem dX6_digest_96 : decode cX6_digest 96 = .ok (.iload_n 3, 1) := by decide +kernel
theorem dX6_digest_97 : decode cX6_digest 97 = .ok (.bipush 7, 2) := by decide +kernel
theorem dX6_digest_99 : decode cX6_digest 99 = .ok (.if_icmp .gt 22, 3) := by decide +kernel
theorem dX6_digest_102 : decode cX6_digest 102 = .ok (.ldc2_w 151, 3) := by decide +kernel
theorem dX6_digest_105 : decode cX6_digest 105 = .ok (.lload_n 1, 1) := by decide +kernel
theorem dX6_digest_106 : decode cX6_digest 106 = .ok (.lmul, 1) := by decide +kernel
theorem dX6_digest_107 : decode cX6_digest 107 = .ok (.aload_n 0, 1) := by decide +kernel
theorem dX6_digest_108 : decode cX6_digest 108 = .ok (.iload_n 3, 1) := by decide +kernel
theorem dX6_digest_109 : decode cX6_digest 109 = .ok (.invokevirtual 138, 3) := by decide +kernel
theorem dX6_digest_112 : decode cX6_digest 112 = .ok (.i2l, 1) := by decide +kernel
theorem dX6_digest_113 : decode cX6_digest 113 = .ok (.ladd, 1) := by decide +kernel
theorem dX6_digest_114 : decode cX6_digest 114 = .ok (.lstore_n 1, 1) := by decide +kernel
theorem dX6_digest_115 : decode cX6_digest 115 = .ok (.iinc 3 1, 3) := by decide +kernel
theorem dX6_digest_118 : decode cX6_digest 118 = .ok (.goto (-22), 3) := by decide +kernel
theorem dX6_digest_121 : decode cX6_digest 121 = .ok (.lload_n 1, 1) := by decide +kernel
theorem dX6_digest_122 : decode cX6_digest 122 = .ok (.lreturn, 1) := by decide +kernel
theorem dX6_isKind_0 : decode cX6_isKind 0 = .ok (.iload_n 0, 1) := by decide +kernel
theorem dX6_isKind_1 : decode cX6_isKind 1 = .ok (.ifCond .lt 12, 3) := by decide +kernel
theorem dX6_isKind_4 : decode cX6_isKind 4 = .ok (.iload_n 0, 1) := by decide +kernel
theorem dX6_isKind_5 : decode cX6_isKind 5 = .ok (.iconst 5, 1) := by decide +kernel
theorem dX6_isKind_6 : decode cX6_isKind 6 = .ok (.if_icmp .ge 7, 3) := by decide +kernel
theorem dX6_isKind_9 : decode cX6_isKind 9 = .ok (.iconst 1, 1) := by decide +kernel
theorem dX6_isKind_10 : decode cX6_isKind 10 = .ok (.goto 4, 3) := by decide +kernel
theorem dX6_isKind_13 : decode cX6_isKind 13 = .ok (.iconst 0, 1) := by decide +kernel
theorem dX6_isKind_14 : decode cX6_isKind 14 = .ok (.ireturn, 1) := by decide +kernel
theorem dX6_isSaying_0 : decode cX6_isSaying 0 = .ok (.iload_n 0, 1) := by decide +kernel
theorem dX6_isSaying_1 : decode cX6_isSaying 1 = .ok (.ifCond .lt 12, 3) := by decide +kernel
theorem dX6_isSaying_4 : decode cX6_isSaying 4 = .ok (.iload_n 0, 1) := by decide +kernel
theorem dX6_isSaying_5 : decode cX6_isSaying 5 = .ok (.iconst 4, 1) := by decide +kernel
theorem dX6_isSaying_6 : decode cX6_isSaying 6 = .ok (.if_icmp .ge 7, 3) := by decide +kernel
theorem dX6_isSaying_9 : decode cX6_isSaying 9 = .ok (.iconst 1, 1) := by decide +kernel
theorem dX6_isSaying_10 : decode cX6_isSaying 10 = .ok (.goto 4, 3) := by decide +kernel
theorem dX6_isSaying_13 : decode cX6_isSaying 13 = .ok (.iconst 0, 1) := by decide +kernel
theorem dX6_isSaying_14 : decode cX6_isSaying 14 = .ok (.ireturn, 1) := by decide +kernel
theorem dX6_kindOfLetter_0 : decode cX6_kindOfLetter 0 = .ok (.iload_n 0, 1) := by decide +kernel
theorem dX6_kindOfLetter_1 : decode cX6_kindOfLetter 1 = .ok (.lookupswitch 61 #[(98, 53), (101, 59), (111, 57), (116, 51), (119, 55)], 51) := by decide +kernel
theorem dX6_kindOfLetter_52 : decode cX6_kindOfLetter 52 = .ok (.iconst 0, 1) := by decide +kernel
theorem dX6_kindOfLetter_53 : decode cX6_kindOfLetter 53 = .ok (.ireturn, 1) := by decide +kernel
theorem dX6_kindOfLetter_54 : decode cX6_kindOfLetter 54 = .ok (.iconst 1, 1) := by decide +kernel
theorem dX6_kindOfLetter_55 : decode cX6_kindOfLetter 55 = .ok (.ireturn, 1) := by decide +kernel
theorem dX6_kindOfLetter_56 : decode cX6_kindOfLetter 56 = .ok (.iconst 2, 1) := by decide +kernel
theorem dX6_kindOfLetter_57 : decode cX6_kindOfLetter 57 = .ok (.ireturn, 1) := by decide +kernel
theorem dX6_kindOfLetter_58 : decode cX6_kindOfLetter 58 = .ok (.iconst 3, 1) := by decide +kernel
theorem dX6_kindOfLetter_59 : decode cX6_kindOfLetter 59 = .ok (.ireturn, 1) := by decide +kernel
theorem dX6_kindOfLetter_60 : decode cX6_kindOfLetter 60 = .ok (.iconst 4, 1) := by decide +kernel
theorem dX6_kindOfLetter_61 : decode cX6_kindOfLetter 61 = .ok (.ireturn, 1) := by decide +kernel
theorem dX6_kindOfLetter_62 : decode cX6_kindOfLetter 62 = .ok (.iconst (-1), 1) := by decide +kernel
theorem dX6_kindOfLetter_63 : decode cX6_kindOfLetter 63 = .ok (.ireturn, 1) := by decide +kernel
theorem dX6_readPage_0 : decode cX6_readPage 0 = .ok (.iconst 0, 1) := by decide +kernel
theorem dX6_readPage_1 : decode cX6_readPage 1 = .ok (.istore_n 1, 1) := by decide +kernel
theorem dX6_readPage_2 : decode cX6_readPage 2 = .ok (.iconst 0, 1) := by decide +kernel
theorem dX6_readPage_3 : decode cX6_readPage 3 = .ok (.istore_n 2, 1) := by decide +kernel
theorem dX6_readPage_4 : decode cX6_readPage 4 = .ok (.iconst 0, 1) := by decide +kernel
theorem dX6_readPage_5 : decode cX6_readPage 5 = .ok (.istore_n 3, 1) := by decide +kernel
theorem dX6_readPage_6 : decode cX6_readPage 6 = .ok (.iconst 0, 1) := by decide +kernel
theorem dX6_readPage_7 : decode cX6_readPage 7 = .ok (.istore 4, 2) := by decide +kernel
theorem dX6_readPage_9 : decode cX6_readPage 9 = .ok (.iload 4, 2) := by decide +kernel
theorem dX6_readPage_11 : decode cX6_readPage 11 = .ok (.aload_n 0, 1) := by decide +kernel
theorem dX6_readPage_12 : decode cX6_readPage 12 = .ok (.getfield 10, 3) := by decide +kernel
theorem dX6_readPage_15 : decode cX6_readPage 15 = .ok (.getfield 33, 3) := by decide +kernel
theorem dX6_readPage_18 : decode cX6_readPage 18 = .ok (.if_icmp .ge 103, 3) := by decide +kernel
theorem dX6_readPage_21 : decode cX6_readPage 21 = .ok (.aload_n 0, 1) := by decide +kernel
theorem dX6_readPage_22 : decode cX6_readPage 22 = .ok (.getfield 10, 3) := by decide +kernel
theorem dX6_readPage_25 : decode cX6_readPage 25 = .ok (.iload 4, 2) := by decide +kernel
theorem dX6_readPage_27 : decode cX6_readPage 27 = .ok (.invokevirtual 153, 3) := by decide +kernel
theorem dX6_readPage_30 : decode cX6_readPage 30 = .ok (.istore 5, 2) := by decide +kernel
theorem dX6_readPage_32 : decode cX6_readPage 32 = .ok (.iload 5, 2) := by decide +kernel
theorem dX6_readPage_34 : decode cX6_readPage 34 = .ok (.bipush 44, 2) := by decide +kernel
theorem dX6_readPage_36 : decode cX6_readPage 36 = .ok (.if_icmp .ne 9, 3) := by decide +kernel
theorem dX6_readPage_39 : decode cX6_readPage 39 = .ok (.iinc 2 1, 3) := by decide +kernel
theorem dX6_readPage_42 : decode cX6_readPage 42 = .ok (.goto 73, 3) := by decide +kernel
theorem dX6_readPage_45 : decode cX6_readPage 45 = .ok (.iload 5, 2) := by decide +kernel
theorem dX6_readPage_47 : decode cX6_readPage 47 = .ok (.bipush 59, 2) := by decide +kernel
theorem dX6_readPage_49 : decode cX6_readPage 49 = .ok (.if_icmp .ne 8, 3) := by decide +kernel
theorem dX6_readPage_52 : decode cX6_readPage 52 = .ok (.iconst 1, 1) := by decide +kernel
theorem dX6_readPage_53 : decode cX6_readPage 53 = .ok (.istore_n 1, 1) := by decide +kernel
theorem dX6_readPage_54 : decode cX6_readPage 54 = .ok (.goto 61, 3) := by decide +kernel
theorem dX6_readPage_57 : decode cX6_readPage 57 = .ok (.iload_n 1, 1) := by decide +kernel
theorem dX6_readPage_58 : decode cX6_readPage 58 = .ok (.ifCond .ne 26, 3) := by decide +kernel
theorem dX6_readPage_61 : decode cX6_readPage 61 = .ok (.aload_n 0, 1) := by decide +kernel
theorem dX6_readPage_62 : decode cX6_readPage 62 = .ok (.getfield 19, 3) := by decide +kernel
theorem dX6_readPage_65 : decode cX6_readPage 65 = .ok (.iload_n 2, 1) := by decide +kernel
theorem dX6_readPage_66 : decode cX6_readPage 66 = .ok (.iload 5, 2) := by decide +kernel
theorem dX6_readPage_68 : decode cX6_readPage 68 = .ok (.bipush 108, 2) := by decide +kernel
theorem dX6_readPage_70 : decode cX6_readPage 70 = .ok (.if_icmp .ne 7, 3) := by decide +kernel
theorem dX6_readPage_73 : decode cX6_readPage 73 = .ok (.iconst 1, 1) := by decide +kernel
theorem dX6_readPage_74 : decode cX6_readPage 74 = .ok (.goto 4, 3) := by decide +kernel
theorem dX6_readPage_77 : decode cX6_readPage 77 = .ok (.iconst 0, 1) := by decide +kernel
theorem dX6_readPage_78 : decode cX6_readPage 78 = .ok (.invokevirtual 156, 3) := by decide +kernel
theorem dX6_readPage_81 : decode cX6_readPage 81 = .ok (.goto 34, 3) := by decide +kernel
theorem dX6_readPage_84 : decode cX6_readPage 84 = .ok (.iload 5, 2) := by decide +kernel
theorem dX6_readPage_86 : decode cX6_readPage 86 = .ok (.invokestatic 159, 3) := by decide +kernel
theorem dX6_readPage_89 : decode cX6_readPage 89 = .ok (.iconst (-1), 1) := by decide +kernel
theorem dX6_readPage_90 : decode cX6_readPage 90 = .ok (.if_icmp .eq 12, 3) := by decide +kernel
theorem dX6_readPage_93 : decode cX6_readPage 93 = .ok (.iload 5, 2) := by decide +kernel
theorem dX6_readPage_95 : decode cX6_readPage 95 = .ok (.invokestatic 159, 3) := by decide +kernel
theorem dX6_readPage_98 : decode cX6_readPage 98 = .ok (.istore_n 3, 1) := by decide +kernel
theorem dX6_readPage_99 : decode cX6_readPage 99 = .ok (.goto 16, 3) := by decide +kernel
theorem dX6_readPage_102 : decode cX6_readPage 102 = .ok (.aload_n 0, 1) := by decide +kernel
theorem dX6_readPage_103 : decode cX6_readPage 103 = .ok (.getfield 26, 3) := by decide +kernel
theorem dX6_readPage_106 : decode cX6_readPage 106 = .ok (.iload_n 3, 1) := by decide +kernel
theorem dX6_readPage_107 : decode cX6_readPage 107 = .ok (.iload 5, 2) := by decide +kernel
theorem dX6_readPage_109 : decode cX6_readPage 109 = .ok (.bipush 48, 2) := by decide +kernel
theorem dX6_readPage_111 : decode cX6_readPage 111 = .ok (.isub, 1) := by decide +kernel
theorem dX6_readPage_112 : decode cX6_readPage 112 = .ok (.invokevirtual 85, 3) := by decide +kernel
theorem dX6_readPage_115 : decode cX6_readPage 115 = .ok (.iinc 4 1, 3) := by decide +kernel
theorem dX6_readPage_118 : decode cX6_readPage 118 = .ok (.goto (-109), 3) := by decide +kernel
theorem dX6_readPage_121 : decode cX6_readPage 121 = .ok (.return_, 1) := by decide +kernel
theorem dX6_dripOf_0 : decode cX6_dripOf 0 = .ok (.aload_n 0, 1) := by decide +kernel
theorem dX6_dripOf_1 : decode cX6_dripOf 1 = .ok (.getfield 19, 3) := by decide +kernel
theorem dX6_dripOf_4 : decode cX6_dripOf 4 = .ok (.aload_n 1, 1) := by decide +kernel
theorem dX6_dripOf_5 : decode cX6_dripOf 5 = .ok (.getfield 97, 3) := by decide +kernel
theorem dX6_dripOf_8 : decode cX6_dripOf 8 = .ok (.aload_n 1, 1) := by decide +kernel
theorem dX6_dripOf_9 : decode cX6_dripOf 9 = .ok (.getfield 114, 3) := by decide +kernel
theorem dX6_dripOf_12 : decode cX6_dripOf 12 = .ok (.aload_n 1, 1) := by decide +kernel
theorem dX6_dripOf_13 : decode cX6_dripOf 13 = .ok (.getfield 111, 3) := by decide +kernel
theorem dX6_dripOf_16 : decode cX6_dripOf 16 = .ok (.iload_n 2, 1) := by decide +kernel
theorem dX6_dripOf_17 : decode cX6_dripOf 17 = .ok (.invokevirtual 162, 3) := by decide +kernel
theorem dX6_dripOf_20 : decode cX6_dripOf 20 = .ok (.ireturn, 1) := by decide +kernel
theorem dX6_aboutOf_0 : decode cX6_aboutOf 0 = .ok (.iload_n 2, 1) := by decide +kernel
theorem dX6_aboutOf_1 : decode cX6_aboutOf 1 = .ok (.tableswitch 96 0 7 #[47, 52, 57, 62, 67, 73, 79, 85], 47) := by decide +kernel
theorem dX6_aboutOf_48 : decode cX6_aboutOf 48 = .ok (.aload_n 1, 1) := by decide +kernel
theorem dX6_aboutOf_49 : decode cX6_aboutOf 49 = .ok (.getfield 97, 3) := by decide +kernel
theorem dX6_aboutOf_52 : decode cX6_aboutOf 52 = .ok (.ireturn, 1) := by decide +kernel
theorem dX6_aboutOf_53 : decode cX6_aboutOf 53 = .ok (.aload_n 1, 1) := by decide +kernel
theorem dX6_aboutOf_54 : decode cX6_aboutOf 54 = .ok (.getfield 114, 3) := by decide +kernel
theorem dX6_aboutOf_57 : decode cX6_aboutOf 57 = .ok (.ireturn, 1) := by decide +kernel
theorem dX6_aboutOf_58 : decode cX6_aboutOf 58 = .ok (.aload_n 1, 1) := by decide +kernel
theorem dX6_aboutOf_59 : decode cX6_aboutOf 59 = .ok (.getfield 111, 3) := by decide +kernel
theorem dX6_aboutOf_62 : decode cX6_aboutOf 62 = .ok (.ireturn, 1) := by decide +kernel
theorem dX6_aboutOf_63 : decode cX6_aboutOf 63 = .ok (.aload_n 1, 1) := by decide +kernel
theorem dX6_aboutOf_64 : decode cX6_aboutOf 64 = .ok (.getfield 105, 3) := by decide +kernel
theorem dX6_aboutOf_67 : decode cX6_aboutOf 67 = .ok (.ireturn, 1) := by decide +kernel
theorem dX6_aboutOf_68 : decode cX6_aboutOf 68 = .ok (.aload_n 0, 1) := by decide +kernel
theorem dX6_aboutOf_69 : decode cX6_aboutOf 69 = .ok (.aload_n 1, 1) := by decide +kernel
theorem dX6_aboutOf_70 : decode cX6_aboutOf 70 = .ok (.invokevirtual 166, 3) := by decide +kernel
theorem dX6_aboutOf_73 : decode cX6_aboutOf 73 = .ok (.ireturn, 1) := by decide +kernel
theorem dX6_aboutOf_74 : decode cX6_aboutOf 74 = .ok (.aload_n 0, 1) := by decide +kernel
theorem dX6_aboutOf_75 : decode cX6_aboutOf 75 = .ok (.aload_n 1, 1) := by decide +kernel
theorem dX6_aboutOf_76 : decode cX6_aboutOf 76 = .ok (.invokevirtual 170, 3) := by decide +kernel
theorem dX6_aboutOf_79 : decode cX6_aboutOf 79 = .ok (.ireturn, 1) := by decide +kernel
theorem dX6_aboutOf_80 : decode cX6_aboutOf 80 = .ok (.aload_n 0, 1) := by decide +kernel
theorem dX6_aboutOf_81 : decode cX6_aboutOf 81 = .ok (.aload_n 1, 1) := by decide +kernel
theorem dX6_aboutOf_82 : decode cX6_aboutOf 82 = .ok (.invokevirtual 173, 3) := by decide +kernel
theorem dX6_aboutOf_85 : decode cX6_aboutOf 85 = .ok (.ireturn, 1) := by decide +kernel
theorem dX6_aboutOf_86 : decode cX6_aboutOf 86 = .ok (.aload_n 0, 1) := by decide +kernel
theorem dX6_aboutOf_87 : decode cX6_aboutOf 87 = .ok (.aload_n 1, 1) := by decide +kernel
theorem dX6_aboutOf_88 : decode cX6_aboutOf 88 = .ok (.aload_n 0, 1) := by decide +kernel
theorem dX6_aboutOf_89 : decode cX6_aboutOf 89 = .ok (.aload_n 1, 1) := by decide +kernel
theorem dX6_aboutOf_90 : decode cX6_aboutOf 90 = .ok (.invokevirtual 173, 3) := by decide +kernel
theorem dX6_aboutOf_93 : decode cX6_aboutOf 93 = .ok (.invokevirtual 176, 3) := by decide +kernel
theorem dX6_aboutOf_96 : decode cX6_aboutOf 96 = .ok (.ireturn, 1) := by decide +kernel
theorem dX6_aboutOf_97 : decode cX6_aboutOf 97 = .ok (.aload_n 0, 1) := by decide +kernel
theorem dX6_aboutOf_98 : decode cX6_aboutOf 98 = .ok (.aload_n 1, 1) := by decide +kernel
theorem dX6_aboutOf_99 : decode cX6_aboutOf 99 = .ok (.aload_n 0, 1) := by decide +kernel
theorem dX6_aboutOf_100 : decode cX6_aboutOf 100 = .ok (.aload_n 1, 1) := by decide +kernel
theorem dX6_aboutOf_101 : decode cX6_aboutOf 101 = .ok (.invokevirtual 170, 3) := by decide +kernel
theorem dX6_aboutOf_104 : decode cX6_aboutOf 104 = .ok (.invokevirtual 179, 3) := by decide +kernel
theorem dX6_aboutOf_107 : decode cX6_aboutOf 107 = .ok (.ireturn, 1) := by decide +kernel
theorem dX6_sureOf_0 : decode cX6_sureOf 0 = .ok (.iconst 0, 1) := by decide +kernel
theorem dX6_sureOf_1 : decode cX6_sureOf 1 = .ok (.istore_n 2, 1) := by decide +kernel
theorem dX6_sureOf_2 : decode cX6_sureOf 2 = .ok (.iconst 0, 1) := by decide +kernel
theorem dX6_sureOf_3 : decode cX6_sureOf 3 = .ok (.istore_n 3, 1) := by decide +kernel
theorem dX6_sureOf_4 : decode cX6_sureOf 4 = .ok (.iload_n 3, 1) := by decide +kernel
theorem dX6_sureOf_5 : decode cX6_sureOf 5 = .ok (.iconst 4, 1) := by decide +kernel
theorem dX6_sureOf_6 : decode cX6_sureOf 6 = .ok (.if_icmp .ge 51, 3) := by decide +kernel
theorem dX6_sureOf_9 : decode cX6_sureOf 9 = .ok (.iload_n 3, 1) := by decide +kernel
theorem dX6_sureOf_10 : decode cX6_sureOf 10 = .ok (.iconst 1, 1) := by decide +kernel
theorem dX6_sureOf_11 : decode cX6_sureOf 11 = .ok (.iadd, 1) := by decide +kernel
theorem dX6_sureOf_12 : decode cX6_sureOf 12 = .ok (.istore 4, 2) := by decide +kernel
theorem dX6_sureOf_14 : decode cX6_sureOf 14 = .ok (.iload 4, 2) := by decide +kernel
theorem dX6_sureOf_16 : decode cX6_sureOf 16 = .ok (.iconst 4, 1) := by decide +kernel
theorem dX6_sureOf_17 : decode cX6_sureOf 17 = .ok (.if_icmp .ge 34, 3) := by decide +kernel
theorem dX6_sureOf_20 : decode cX6_sureOf 20 = .ok (.aload_n 0, 1) := by decide +kernel
theorem dX6_sureOf_21 : decode cX6_sureOf 21 = .ok (.aload_n 1, 1) := by decide +kernel
theorem dX6_sureOf_22 : decode cX6_sureOf 22 = .ok (.iload_n 3, 1) := by decide +kernel
theorem dX6_sureOf_23 : decode cX6_sureOf 23 = .ok (.iload 4, 2) := by decide +kernel
theorem dX6_sureOf_25 : decode cX6_sureOf 25 = .ok (.invokevirtual 182, 3) := by decide +kernel
theorem dX6_sureOf_28 : decode cX6_sureOf 28 = .ok (.istore 5, 2) := by decide +kernel
theorem dX6_sureOf_30 : decode cX6_sureOf 30 = .ok (.iload 5, 2) := by decide +kernel
theorem dX6_sureOf_32 : decode cX6_sureOf 32 = .ok (.iconst (-1), 1) := by decide +kernel
theorem dX6_sureOf_33 : decode cX6_sureOf 33 = .ok (.if_icmp .ne 5, 3) := by decide +kernel
theorem dX6_sureOf_36 : decode cX6_sureOf 36 = .ok (.iconst (-1), 1) := by decide +kernel
theorem dX6_sureOf_37 : decode cX6_sureOf 37 = .ok (.ireturn, 1) := by decide +kernel
theorem dX6_sureOf_38 : decode cX6_sureOf 38 = .ok (.iload_n 2, 1) := by decide +kernel
theorem dX6_sureOf_39 : decode cX6_sureOf 39 = .ok (.iload 5, 2) := by decide +kernel
theorem dX6_sureOf_41 : decode cX6_sureOf 41 = .ok (.invokestatic 185, 3) := by decide +kernel
theorem dX6_sureOf_44 : decode cX6_sureOf 44 = .ok (.istore_n 2, 1) := by decide +kernel
theorem dX6_sureOf_45 : decode cX6_sureOf 45 = .ok (.iinc 4 1, 3) := by decide +kernel
theorem dX6_sureOf_48 : decode cX6_sureOf 48 = .ok (.goto (-34), 3) := by decide +kernel
theorem dX6_sureOf_51 : decode cX6_sureOf 51 = .ok (.iinc 3 1, 3) := by decide +kernel
theorem dX6_sureOf_54 : decode cX6_sureOf 54 = .ok (.goto (-50), 3) := by decide +kernel
theorem dX6_sureOf_57 : decode cX6_sureOf 57 = .ok (.iload_n 2, 1) := by decide +kernel
theorem dX6_sureOf_58 : decode cX6_sureOf 58 = .ok (.ireturn, 1) := by decide +kernel
theorem dX6_enoughToTell_0 : decode cX6_enoughToTell 0 = .ok (.iconst 0, 1) := by decide +kernel
theorem dX6_enoughToTell_1 : decode cX6_enoughToTell 1 = .ok (.istore 4, 2) := by decide +kernel
theorem dX6_enoughToTell_3 : decode cX6_enoughToTell 3 = .ok (.iload 4, 2) := by decide +kernel
theorem dX6_enoughToTell_5 : decode cX6_enoughToTell 5 = .ok (.bipush 16, 2) := by decide +kernel
theorem dX6_enoughToTell_7 : decode cX6_enoughToTell 7 = .ok (.if_icmp .ge 71, 3) := by decide +kernel
theorem dX6_enoughToTell_10 : decode cX6_enoughToTell 10 = .ok (.aload_n 0, 1) := by decide +kernel
theorem dX6_enoughToTell_11 : decode cX6_enoughToTell 11 = .ok (.getfield 19, 3) := by decide +kernel
theorem dX6_enoughToTell_14 : decode cX6_enoughToTell 14 = .ok (.aload_n 1, 1) := by decide +kernel
theorem dX6_enoughToTell_15 : decode cX6_enoughToTell 15 = .ok (.getfield 97, 3) := by decide +kernel
theorem dX6_enoughToTell_18 : decode cX6_enoughToTell 18 = .ok (.iload_n 2, 1) := by decide +kernel
theorem dX6_enoughToTell_19 : decode cX6_enoughToTell 19 = .ok (.aload_n 1, 1) := by decide +kernel
theorem dX6_enoughToTell_20 : decode cX6_enoughToTell 20 = .ok (.getfield 111, 3) := by decide +kernel
theorem dX6_enoughToTell_23 : decode cX6_enoughToTell 23 = .ok (.aload_n 1, 1) := by decide +kernel
theorem dX6_enoughToTell_24 : decode cX6_enoughToTell 24 = .ok (.getfield 105, 3) := by decide +kernel
theorem dX6_enoughToTell_27 : decode cX6_enoughToTell 27 = .ok (.iload 4, 2) := by decide +kernel
theorem dX6_enoughToTell_29 : decode cX6_enoughToTell 29 = .ok (.iadd, 1) := by decide +kernel
theorem dX6_enoughToTell_30 : decode cX6_enoughToTell 30 = .ok (.invokevirtual 162, 3) := by decide +kernel
theorem dX6_enoughToTell_33 : decode cX6_enoughToTell 33 = .ok (.istore 5, 2) := by decide +kernel
theorem dX6_enoughToTell_35 : decode cX6_enoughToTell 35 = .ok (.aload_n 0, 1) := by decide +kernel
theorem dX6_enoughToTell_36 : decode cX6_enoughToTell 36 = .ok (.getfield 19, 3) := by decide +kernel
theorem dX6_enoughToTell_39 : decode cX6_enoughToTell 39 = .ok (.aload_n 1, 1) := by decide +kernel
theorem dX6_enoughToTell_40 : decode cX6_enoughToTell 40 = .ok (.getfield 97, 3) := by decide +kernel
theorem dX6_enoughToTell_43 : decode cX6_enoughToTell 43 = .ok (.iload_n 3, 1) := by decide +kernel
theorem dX6_enoughToTell_44 : decode cX6_enoughToTell 44 = .ok (.aload_n 1, 1) := by decide +kernel
theorem dX6_enoughToTell_45 : decode cX6_enoughToTell 45 = .ok (.getfield 111, 3) := by decide +kernel
theorem dX6_enoughToTell_48 : decode cX6_enoughToTell 48 = .ok (.aload_n 1, 1) := by decide +kernel
theorem dX6_enoughToTell_49 : decode cX6_enoughToTell 49 = .ok (.getfield 105, 3) := by decide +kernel
theorem dX6_enoughToTell_52 : decode cX6_enoughToTell 52 = .ok (.iload 4, 2) := by decide +kernel
theorem dX6_enoughToTell_54 : decode cX6_enoughToTell 54 = .ok (.iadd, 1) := by decide +kernel
theorem dX6_enoughToTell_55 : decode cX6_enoughToTell 55 = .ok (.invokevirtual 162, 3) := by decide +kernel
theorem dX6_enoughToTell_58 : decode cX6_enoughToTell 58 = .ok (.istore 6, 2) := by decide +kernel
theorem dX6_enoughToTell_60 : decode cX6_enoughToTell 60 = .ok (.iload 5, 2) := by decide +kernel
theorem dX6_enoughToTell_62 : decode cX6_enoughToTell 62 = .ok (.iload 6, 2) := by decide +kernel
theorem dX6_enoughToTell_64 : decode cX6_enoughToTell 64 = .ok (.if_icmp .eq 8, 3) := by decide +kernel
theorem dX6_enoughToTell_67 : decode cX6_enoughToTell 67 = .ok (.iload 4, 2) := by decide +kernel
theorem dX6_enoughToTell_69 : decode cX6_enoughToTell 69 = .ok (.iconst 1, 1) := by decide +kernel
theorem dX6_enoughToTell_70 : decode cX6_enoughToTell 70 = .ok (.iadd, 1) := by decide +kernel
theorem dX6_enoughToTell_71 : decode cX6_enoughToTell 71 = .ok (.ireturn, 1) := by decide +kernel
theorem dX6_enoughToTell_72 : decode cX6_enoughToTell 72 = .ok (.iinc 4 1, 3) := by decide +kernel
theorem dX6_enoughToTell_75 : decode cX6_enoughToTell 75 = .ok (.goto (-72), 3) := by decide +kernel
theorem dX6_enoughToTell_78 : decode cX6_enoughToTell 78 = .ok (.iconst (-1), 1) := by decide +kernel
theorem dX6_enoughToTell_79 : decode cX6_enoughToTell 79 = .ok (.ireturn, 1) := by decide +kernel
theorem dX6_saysOf_0 : decode cX6_saysOf 0 = .ok (.iconst 0, 1) := by decide +kernel
theorem dX6_saysOf_1 : decode cX6_saysOf 1 = .ok (.istore_n 2, 1) := by decide +kernel
theorem dX6_saysOf_2 : decode cX6_saysOf 2 = .ok (.iconst 0, 1) := by decide +kernel
theorem dX6_saysOf_3 : decode cX6_saysOf 3 = .ok (.istore_n 3, 1) := by decide +kernel
theorem dX6_saysOf_4 : decode cX6_saysOf 4 = .ok (.iload_n 3, 1) := by decide +kernel
theorem dX6_saysOf_5 : decode cX6_saysOf 5 = .ok (.iconst 4, 1) := by decide +kernel
theorem dX6_saysOf_6 : decode cX6_saysOf 6 = .ok (.if_icmp .ge 24, 3) := by decide +kernel
theorem dX6_saysOf_9 : decode cX6_saysOf 9 = .ok (.aload_n 0, 1) := by decide +kernel
theorem dX6_saysOf_10 : decode cX6_saysOf 10 = .ok (.aload_n 1, 1) := by decide +kernel
theorem dX6_saysOf_11 : decode cX6_saysOf 11 = .ok (.iload_n 3, 1) := by decide +kernel
theorem dX6_saysOf_12 : decode cX6_saysOf 12 = .ok (.invokevirtual 176, 3) := by decide +kernel
theorem dX6_saysOf_15 : decode cX6_saysOf 15 = .ok (.ifCond .ne 9, 3) := by decide +kernel
theorem dX6_saysOf_18 : decode cX6_saysOf 18 = .ok (.iload_n 2, 1) := by decide +kernel
theorem dX6_saysOf_19 : decode cX6_saysOf 19 = .ok (.iconst 1, 1) := by decide +kernel
theorem dX6_saysOf_20 : decode cX6_saysOf 20 = .ok (.iload_n 3, 1) := by decide +kernel
theorem dX6_saysOf_21 : decode cX6_saysOf 21 = .ok (.ishl, 1) := by decide +kernel
theorem dX6_saysOf_22 : decode cX6_saysOf 22 = .ok (.ior, 1) := by decide +kernel
theorem dX6_saysOf_23 : decode cX6_saysOf 23 = .ok (.istore_n 2, 1) := by decide +kernel
theorem dX6_saysOf_24 : decode cX6_saysOf 24 = .ok (.iinc 3 1, 3) := by decide +kernel
theorem dX6_saysOf_27 : decode cX6_saysOf 27 = .ok (.goto (-23), 3) := by decide +kernel
theorem dX6_saysOf_30 : decode cX6_saysOf 30 = .ok (.iload_n 2, 1) := by decide +kernel
theorem dX6_saysOf_31 : decode cX6_saysOf 31 = .ok (.ireturn, 1) := by decide +kernel
theorem dX6_likelyOf_0 : decode cX6_likelyOf 0 = .ok (.iconst 0, 1) := by decide +kernel
theorem dX6_likelyOf_1 : decode cX6_likelyOf 1 = .ok (.istore_n 2, 1) := by decide +kernel
theorem dX6_likelyOf_2 : decode cX6_likelyOf 2 = .ok (.iconst 1, 1) := by decide +kernel
theorem dX6_likelyOf_3 : decode cX6_likelyOf 3 = .ok (.istore_n 3, 1) := by decide +kernel
theorem dX6_likelyOf_4 : decode cX6_likelyOf 4 = .ok (.iload_n 3, 1) := by decide +kernel
theorem dX6_likelyOf_5 : decode cX6_likelyOf 5 = .ok (.iconst 4, 1) := by decide +kernel
theorem dX6_likelyOf_6 : decode cX6_likelyOf 6 = .ok (.if_icmp .ge 26, 3) := by decide +kernel
theorem dX6_likelyOf_9 : decode cX6_likelyOf 9 = .ok (.aload_n 0, 1) := by decide +kernel
theorem dX6_likelyOf_10 : decode cX6_likelyOf 10 = .ok (.aload_n 1, 1) := by decide +kernel
theorem dX6_likelyOf_11 : decode cX6_likelyOf 11 = .ok (.iload_n 3, 1) := by decide +kernel
theorem dX6_likelyOf_12 : decode cX6_likelyOf 12 = .ok (.invokevirtual 176, 3) := by decide +kernel
theorem dX6_likelyOf_15 : decode cX6_likelyOf 15 = .ok (.aload_n 0, 1) := by decide +kernel
theorem dX6_likelyOf_16 : decode cX6_likelyOf 16 = .ok (.aload_n 1, 1) := by decide +kernel
theorem dX6_likelyOf_17 : decode cX6_likelyOf 17 = .ok (.iload_n 2, 1) := by decide +kernel
theorem dX6_likelyOf_18 : decode cX6_likelyOf 18 = .ok (.invokevirtual 176, 3) := by decide +kernel
theorem dX6_likelyOf_21 : decode cX6_likelyOf 21 = .ok (.if_icmp .ge 5, 3) := by decide +kernel
theorem dX6_likelyOf_24 : decode cX6_likelyOf 24 = .ok (.iload_n 3, 1) := by decide +kernel
theorem dX6_likelyOf_25 : decode cX6_likelyOf 25 = .ok (.istore_n 2, 1) := by decide +kernel
theorem dX6_likelyOf_26 : decode cX6_likelyOf 26 = .ok (.iinc 3 1, 3) := by decide +kernel
theorem dX6_likelyOf_29 : decode cX6_likelyOf 29 = .ok (.goto (-25), 3) := by decide +kernel
theorem dX6_likelyOf_32 : decode cX6_likelyOf 32 = .ok (.iload_n 2, 1) := by decide +kernel
theorem dX6_likelyOf_33 : decode cX6_likelyOf 33 = .ok (.ireturn, 1) := by decide +kernel
theorem dX6_slipsOf_0 : decode cX6_slipsOf 0 = .ok (.iconst 0, 1) := by decide +kernel
theorem dX6_slipsOf_1 : decode cX6_slipsOf 1 = .ok (.istore_n 3, 1) := by decide +kernel
theorem dX6_slipsOf_2 : decode cX6_slipsOf 2 = .ok (.iconst 0, 1) := by decide +kernel
theorem dX6_slipsOf_3 : decode cX6_slipsOf 3 = .ok (.istore 4, 2) := by decide +kernel
theorem dX6_slipsOf_5 : decode cX6_slipsOf 5 = .ok (.iload 4, 2) := by decide +kernel
theorem dX6_slipsOf_7 : decode cX6_slipsOf 7 = .ok (.aload_n 0, 1) := by decide +kernel
theorem dX6_slipsOf_8 : decode cX6_slipsOf 8 = .ok (.getfield 26, 3) := by decide +kernel
theorem dX6_slipsOf_11 : decode cX6_slipsOf 11 = .ok (.getfield 121, 3) := by decide +kernel
theorem dX6_slipsOf_14 : decode cX6_slipsOf 14 = .ok (.if_icmp .ge 73, 3) := by decide +kernel
theorem dX6_slipsOf_17 : decode cX6_slipsOf 17 = .ok (.aload_n 0, 1) := by decide +kernel
theorem dX6_slipsOf_18 : decode cX6_slipsOf 18 = .ok (.getfield 26, 3) := by decide +kernel
theorem dX6_slipsOf_21 : decode cX6_slipsOf 21 = .ok (.iload 4, 2) := by decide +kernel
theorem dX6_slipsOf_23 : decode cX6_slipsOf 23 = .ok (.invokevirtual 190, 3) := by decide +kernel
theorem dX6_slipsOf_26 : decode cX6_slipsOf 26 = .ok (.astore 5, 2) := by decide +kernel
theorem dX6_slipsOf_28 : decode cX6_slipsOf 28 = .ok (.aload 5, 2) := by decide +kernel
theorem dX6_slipsOf_30 : decode cX6_slipsOf 30 = .ok (.ifnull 51, 3) := by decide +kernel
theorem dX6_slipsOf_33 : decode cX6_slipsOf 33 = .ok (.aload 5, 2) := by decide +kernel
theorem dX6_slipsOf_35 : decode cX6_slipsOf 35 = .ok (.getfield 194, 3) := by decide +kernel
theorem dX6_slipsOf_38 : decode cX6_slipsOf 38 = .ok (.aload_n 1, 1) := by decide +kernel
theorem dX6_slipsOf_39 : decode cX6_slipsOf 39 = .ok (.getfield 199, 3) := by decide +kernel
theorem dX6_slipsOf_42 : decode cX6_slipsOf 42 = .ok (.if_icmp .eq 6, 3) := by decide +kernel
theorem dX6_slipsOf_45 : decode cX6_slipsOf 45 = .ok (.goto 36, 3) := by decide +kernel
theorem dX6_slipsOf_48 : decode cX6_slipsOf 48 = .ok (.aload_n 0, 1) := by decide +kernel
theorem dX6_slipsOf_49 : decode cX6_slipsOf 49 = .ok (.getfield 19, 3) := by decide +kernel
theorem dX6_slipsOf_52 : decode cX6_slipsOf 52 = .ok (.aload_n 1, 1) := by decide +kernel
theorem dX6_slipsOf_53 : decode cX6_slipsOf 53 = .ok (.getfield 97, 3) := by decide +kernel
theorem dX6_slipsOf_56 : decode cX6_slipsOf 56 = .ok (.iload_n 2, 1) := by decide +kernel
theorem dX6_slipsOf_57 : decode cX6_slipsOf 57 = .ok (.aload 5, 2) := by decide +kernel
theorem dX6_slipsOf_59 : decode cX6_slipsOf 59 = .ok (.getfield 202, 3) := by decide +kernel
theorem dX6_slipsOf_62 : decode cX6_slipsOf 62 = .ok (.aload 5, 2) := by decide +kernel
theorem dX6_slipsOf_64 : decode cX6_slipsOf 64 = .ok (.getfield 203, 3) := by decide +kernel
theorem dX6_slipsOf_67 : decode cX6_slipsOf 67 = .ok (.invokevirtual 162, 3) := by decide +kernel
theorem dX6_slipsOf_70 : decode cX6_slipsOf 70 = .ok (.aload 5, 2) := by decide +kernel
theorem dX6_slipsOf_72 : decode cX6_slipsOf 72 = .ok (.getfield 206, 3) := by decide +kernel
theorem dX6_slipsOf_75 : decode cX6_slipsOf 75 = .ok (.if_icmp .eq 6, 3) := by decide +kernel
theorem dX6_slipsOf_78 : decode cX6_slipsOf 78 = .ok (.iinc 3 1, 3) := by decide +kernel
theorem dX6_slipsOf_81 : decode cX6_slipsOf 81 = .ok (.iinc 4 1, 3) := by decide +kernel
theorem dX6_slipsOf_84 : decode cX6_slipsOf 84 = .ok (.goto (-79), 3) := by decide +kernel
theorem dX6_slipsOf_87 : decode cX6_slipsOf 87 = .ok (.iload_n 3, 1) := by decide +kernel
theorem dX6_slipsOf_88 : decode cX6_slipsOf 88 = .ok (.ireturn, 1) := by decide +kernel
theorem dX6_bestToHear_0 : decode cX6_bestToHear 0 = .ok (.iload_n 2, 1) := by decide +kernel
theorem dX6_bestToHear_1 : decode cX6_bestToHear 1 = .ok (.ifCond .ne 5, 3) := by decide +kernel
theorem dX6_bestToHear_4 : decode cX6_bestToHear 4 = .ok (.iconst (-1), 1) := by decide +kernel
theorem dX6_bestToHear_5 : decode cX6_bestToHear 5 = .ok (.ireturn, 1) := by decide +kernel
theorem dX6_bestToHear_6 : decode cX6_bestToHear 6 = .ok (.iconst 0, 1) := by decide +kernel
theorem dX6_bestToHear_7 : decode cX6_bestToHear 7 = .ok (.istore_n 3, 1) := by decide +kernel
theorem dX6_bestToHear_8 : decode cX6_bestToHear 8 = .ok (.iconst 1, 1) := by decide +kernel
theorem dX6_bestToHear_9 : decode cX6_bestToHear 9 = .ok (.istore 4, 2) := by decide +kernel
theorem dX6_bestToHear_11 : decode cX6_bestToHear 11 = .ok (.iload 4, 2) := by decide +kernel
theorem dX6_bestToHear_13 : decode cX6_bestToHear 13 = .ok (.bipush 8, 2) := by decide +kernel
theorem dX6_bestToHear_15 : decode cX6_bestToHear 15 = .ok (.if_icmp .ge 30, 3) := by decide +kernel
theorem dX6_bestToHear_18 : decode cX6_bestToHear 18 = .ok (.aload_n 0, 1) := by decide +kernel
theorem dX6_bestToHear_19 : decode cX6_bestToHear 19 = .ok (.aload_n 1, 1) := by decide +kernel
theorem dX6_bestToHear_20 : decode cX6_bestToHear 20 = .ok (.iload_n 2, 1) := by decide +kernel
theorem dX6_bestToHear_21 : decode cX6_bestToHear 21 = .ok (.iload 4, 2) := by decide +kernel
theorem dX6_bestToHear_23 : decode cX6_bestToHear 23 = .ok (.invokevirtual 209, 3) := by decide +kernel
theorem dX6_bestToHear_26 : decode cX6_bestToHear 26 = .ok (.aload_n 0, 1) := by decide +kernel
theorem dX6_bestToHear_27 : decode cX6_bestToHear 27 = .ok (.aload_n 1, 1) := by decide +kernel
theorem dX6_bestToHear_28 : decode cX6_bestToHear 28 = .ok (.iload_n 2, 1) := by decide +kernel
theorem dX6_bestToHear_29 : decode cX6_bestToHear 29 = .ok (.iload_n 3, 1) := by decide +kernel
theorem dX6_bestToHear_30 : decode cX6_bestToHear 30 = .ok (.invokevirtual 209, 3) := by decide +kernel
theorem dX6_bestToHear_33 : decode cX6_bestToHear 33 = .ok (.if_icmp .ge 6, 3) := by decide +kernel
theorem dX6_bestToHear_36 : decode cX6_bestToHear 36 = .ok (.iload 4, 2) := by decide +kernel
theorem dX6_bestToHear_38 : decode cX6_bestToHear 38 = .ok (.istore_n 3, 1) := by decide +kernel
theorem dX6_bestToHear_39 : decode cX6_bestToHear 39 = .ok (.iinc 4 1, 3) := by decide +kernel
theorem dX6_bestToHear_42 : decode cX6_bestToHear 42 = .ok (.goto (-31), 3) := by decide +kernel
theorem dX6_bestToHear_45 : decode cX6_bestToHear 45 = .ok (.iload_n 3, 1) := by decide +kernel
theorem dX6_bestToHear_46 : decode cX6_bestToHear 46 = .ok (.ireturn, 1) := by decide +kernel
theorem dX6_leftAtWorst_0 : decode cX6_leftAtWorst 0 = .ok (.iconst 0, 1) := by decide +kernel
theorem dX6_leftAtWorst_1 : decode cX6_leftAtWorst 1 = .ok (.istore 4, 2) := by decide +kernel
theorem dX6_leftAtWorst_3 : decode cX6_leftAtWorst 3 = .ok (.iconst 0, 1) := by decide +kernel
theorem dX6_leftAtWorst_4 : decode cX6_leftAtWorst 4 = .ok (.istore 5, 2) := by decide +kernel
theorem dX6_leftAtWorst_6 : decode cX6_leftAtWorst 6 = .ok (.iconst 0, 1) := by decide +kernel
theorem dX6_leftAtWorst_7 : decode cX6_leftAtWorst 7 = .ok (.istore 6, 2) := by decide +kernel
theorem dX6_leftAtWorst_9 : decode cX6_leftAtWorst 9 = .ok (.iload 6, 2) := by decide +kernel
theorem dX6_leftAtWorst_11 : decode cX6_leftAtWorst 11 = .ok (.iconst 4, 1) := by decide +kernel
theorem dX6_leftAtWorst_12 : decode cX6_leftAtWorst 12 = .ok (.if_icmp .ge 57, 3) := by decide +kernel
theorem dX6_leftAtWorst_15 : decode cX6_leftAtWorst 15 = .ok (.iload_n 2, 1) := by decide +kernel
theorem dX6_leftAtWorst_16 : decode cX6_leftAtWorst 16 = .ok (.iload 6, 2) := by decide +kernel
theorem dX6_leftAtWorst_18 : decode cX6_leftAtWorst 18 = .ok (.ishr, 1) := by decide +kernel
theorem dX6_leftAtWorst_19 : decode cX6_leftAtWorst 19 = .ok (.iconst 1, 1) := by decide +kernel
theorem dX6_leftAtWorst_20 : decode cX6_leftAtWorst 20 = .ok (.iand, 1) := by decide +kernel
theorem dX6_leftAtWorst_21 : decode cX6_leftAtWorst 21 = .ok (.ifCond .ne 6, 3) := by decide +kernel
theorem dX6_leftAtWorst_24 : decode cX6_leftAtWorst 24 = .ok (.goto 39, 3) := by decide +kernel
theorem dX6_leftAtWorst_27 : decode cX6_leftAtWorst 27 = .ok (.aload_n 0, 1) := by decide +kernel
theorem dX6_leftAtWorst_28 : decode cX6_leftAtWorst 28 = .ok (.getfield 19, 3) := by decide +kernel
theorem dX6_leftAtWorst_31 : decode cX6_leftAtWorst 31 = .ok (.aload_n 1, 1) := by decide +kernel
theorem dX6_leftAtWorst_32 : decode cX6_leftAtWorst 32 = .ok (.getfield 97, 3) := by decide +kernel
theorem dX6_leftAtWorst_35 : decode cX6_leftAtWorst 35 = .ok (.iload 6, 2) := by decide +kernel
theorem dX6_leftAtWorst_37 : decode cX6_leftAtWorst 37 = .ok (.aload_n 1, 1) := by decide +kernel
theorem dX6_leftAtWorst_38 : decode cX6_leftAtWorst 38 = .ok (.getfield 111, 3) := by decide +kernel
theorem dX6_leftAtWorst_41 : decode cX6_leftAtWorst 41 = .ok (.aload_n 1, 1) := by decide +kernel
theorem dX6_leftAtWorst_42 : decode cX6_leftAtWorst 42 = .ok (.getfield 105, 3) := by decide +kernel
theorem dX6_leftAtWorst_45 : decode cX6_leftAtWorst 45 = .ok (.iload_n 3, 1) := by decide +kernel
theorem dX6_leftAtWorst_46 : decode cX6_leftAtWorst 46 = .ok (.iadd, 1) := by decide +kernel
theorem dX6_leftAtWorst_47 : decode cX6_leftAtWorst 47 = .ok (.invokevirtual 162, 3) := by decide +kernel
theorem dX6_leftAtWorst_50 : decode cX6_leftAtWorst 50 = .ok (.iconst 1, 1) := by decide +kernel
theorem dX6_leftAtWorst_51 : decode cX6_leftAtWorst 51 = .ok (.if_icmp .ne 9, 3) := by decide +kernel
theorem dX6_leftAtWorst_54 : decode cX6_leftAtWorst 54 = .ok (.iinc 5 1, 3) := by decide +kernel
theorem dX6_leftAtWorst_57 : decode cX6_leftAtWorst 57 = .ok (.goto 6, 3) := by decide +kernel
theorem dX6_leftAtWorst_60 : decode cX6_leftAtWorst 60 = .ok (.iinc 4 1, 3) := by decide +kernel
theorem dX6_leftAtWorst_63 : decode cX6_leftAtWorst 63 = .ok (.iinc 6 1, 3) := by decide +kernel
theorem dX6_leftAtWorst_66 : decode cX6_leftAtWorst 66 = .ok (.goto (-57), 3) := by decide +kernel
theorem dX6_leftAtWorst_69 : decode cX6_leftAtWorst 69 = .ok (.iload 4, 2) := by decide +kernel
theorem dX6_leftAtWorst_71 : decode cX6_leftAtWorst 71 = .ok (.iload 5, 2) := by decide +kernel
theorem dX6_leftAtWorst_73 : decode cX6_leftAtWorst 73 = .ok (.invokestatic 185, 3) := by decide +kernel
theorem dX6_leftAtWorst_76 : decode cX6_leftAtWorst 76 = .ok (.ireturn, 1) := by decide +kernel
theorem dX6_nearOf_0 : decode cX6_nearOf 0 = .ok (.aload_n 0, 1) := by decide +kernel
theorem dX6_nearOf_1 : decode cX6_nearOf 1 = .ok (.aload_n 1, 1) := by decide +kernel
theorem dX6_nearOf_2 : decode cX6_nearOf 2 = .ok (.iconst 0, 1) := by decide +kernel
theorem dX6_nearOf_3 : decode cX6_nearOf 3 = .ok (.iload_n 2, 1) := by decide +kernel
theorem dX6_nearOf_4 : decode cX6_nearOf 4 = .ok (.invokevirtual 212, 3) := by decide +kernel
theorem dX6_nearOf_7 : decode cX6_nearOf 7 = .ok (.istore 4, 2) := by decide +kernel
theorem dX6_nearOf_9 : decode cX6_nearOf 9 = .ok (.aload_n 0, 1) := by decide +kernel
theorem dX6_nearOf_10 : decode cX6_nearOf 10 = .ok (.aload_n 1, 1) := by decide +kernel
theorem dX6_nearOf_11 : decode cX6_nearOf 11 = .ok (.iconst 1, 1) := by decide +kernel
theorem dX6_nearOf_12 : decode cX6_nearOf 12 = .ok (.iload_n 2, 1) := by decide +kernel
theorem dX6_nearOf_13 : decode cX6_nearOf 13 = .ok (.invokevirtual 212, 3) := by decide +kernel
theorem dX6_nearOf_16 : decode cX6_nearOf 16 = .ok (.istore 5, 2) := by decide +kernel
theorem dX6_nearOf_18 : decode cX6_nearOf 18 = .ok (.iload_n 3, 1) := by decide +kernel
theorem dX6_nearOf_19 : decode cX6_nearOf 19 = .ok (.ifCond .ne 16, 3) := by decide +kernel
theorem dX6_nearOf_22 : decode cX6_nearOf 22 = .ok (.iload 5, 2) := by decide +kernel
theorem dX6_nearOf_24 : decode cX6_nearOf 24 = .ok (.iload 4, 2) := by decide +kernel
theorem dX6_nearOf_26 : decode cX6_nearOf 26 = .ok (.if_icmp .ge 7, 3) := by decide +kernel
theorem dX6_nearOf_29 : decode cX6_nearOf 29 = .ok (.iconst 1, 1) := by decide +kernel
theorem dX6_nearOf_30 : decode cX6_nearOf 30 = .ok (.goto 4, 3) := by decide +kernel
theorem dX6_nearOf_33 : decode cX6_nearOf 33 = .ok (.iconst 0, 1) := by decide +kernel
theorem dX6_nearOf_34 : decode cX6_nearOf 34 = .ok (.ireturn, 1) := by decide +kernel
theorem dX6_nearOf_35 : decode cX6_nearOf 35 = .ok (.iload 5, 2) := by decide +kernel
theorem dX6_nearOf_37 : decode cX6_nearOf 37 = .ok (.iload 4, 2) := by decide +kernel
theorem dX6_nearOf_39 : decode cX6_nearOf 39 = .ok (.invokestatic 215, 3) := by decide +kernel
theorem dX6_nearOf_42 : decode cX6_nearOf 42 = .ok (.ireturn, 1) := by decide +kernel
theorem dX6_unlikeOf_0 : decode cX6_unlikeOf 0 = .ok (.iconst 0, 1) := by decide +kernel
theorem dX6_unlikeOf_1 : decode cX6_unlikeOf 1 = .ok (.istore 4, 2) := by decide +kernel
theorem dX6_unlikeOf_3 : decode cX6_unlikeOf 3 = .ok (.iconst 0, 1) := by decide +kernel
theorem dX6_unlikeOf_4 : decode cX6_unlikeOf 4 = .ok (.istore 5, 2) := by decide +kernel
theorem dX6_unlikeOf_6 : decode cX6_unlikeOf 6 = .ok (.iload 5, 2) := by decide +kernel
theorem dX6_unlikeOf_8 : decode cX6_unlikeOf 8 = .ok (.bipush 12, 2) := by decide +kernel
theorem dX6_unlikeOf_10 : decode cX6_unlikeOf 10 = .ok (.if_icmp .ge 49, 3) := by decide +kernel
theorem dX6_unlikeOf_13 : decode cX6_unlikeOf 13 = .ok (.aload_n 0, 1) := by decide +kernel
theorem dX6_unlikeOf_14 : decode cX6_unlikeOf 14 = .ok (.getfield 19, 3) := by decide +kernel
theorem dX6_unlikeOf_17 : decode cX6_unlikeOf 17 = .ok (.aload_n 1, 1) := by decide +kernel
theorem dX6_unlikeOf_18 : decode cX6_unlikeOf 18 = .ok (.getfield 97, 3) := by decide +kernel
theorem dX6_unlikeOf_21 : decode cX6_unlikeOf 21 = .ok (.aload_n 1, 1) := by decide +kernel
theorem dX6_unlikeOf_22 : decode cX6_unlikeOf 22 = .ok (.getfield 114, 3) := by decide +kernel
theorem dX6_unlikeOf_25 : decode cX6_unlikeOf 25 = .ok (.iload_n 2, 1) := by decide +kernel
theorem dX6_unlikeOf_26 : decode cX6_unlikeOf 26 = .ok (.iload 5, 2) := by decide +kernel
theorem dX6_unlikeOf_28 : decode cX6_unlikeOf 28 = .ok (.invokevirtual 162, 3) := by decide +kernel
theorem dX6_unlikeOf_31 : decode cX6_unlikeOf 31 = .ok (.istore 6, 2) := by decide +kernel
theorem dX6_unlikeOf_33 : decode cX6_unlikeOf 33 = .ok (.iload 6, 2) := by decide +kernel
theorem dX6_unlikeOf_35 : decode cX6_unlikeOf 35 = .ok (.aload_n 0, 1) := by decide +kernel
theorem dX6_unlikeOf_36 : decode cX6_unlikeOf 36 = .ok (.getfield 19, 3) := by decide +kernel
theorem dX6_unlikeOf_39 : decode cX6_unlikeOf 39 = .ok (.iconst 0, 1) := by decide +kernel
theorem dX6_unlikeOf_40 : decode cX6_unlikeOf 40 = .ok (.iload_n 3, 1) := by decide +kernel
theorem dX6_unlikeOf_41 : decode cX6_unlikeOf 41 = .ok (.iconst 0, 1) := by decide +kernel
theorem dX6_unlikeOf_42 : decode cX6_unlikeOf 42 = .ok (.iload 5, 2) := by decide +kernel
theorem dX6_unlikeOf_44 : decode cX6_unlikeOf 44 = .ok (.invokevirtual 162, 3) := by decide +kernel
theorem dX6_unlikeOf_47 : decode cX6_unlikeOf 47 = .ok (.if_icmp .eq 6, 3) := by decide +kernel
theorem dX6_unlikeOf_50 : decode cX6_unlikeOf 50 = .ok (.iinc 4 1, 3) := by decide +kernel
theorem dX6_unlikeOf_53 : decode cX6_unlikeOf 53 = .ok (.iinc 5 1, 3) := by decide +kernel
theorem dX6_unlikeOf_56 : decode cX6_unlikeOf 56 = .ok (.goto (-50), 3) := by decide +kernel
theorem dX6_unlikeOf_59 : decode cX6_unlikeOf 59 = .ok (.iload 4, 2) := by decide +kernel
theorem dX6_unlikeOf_61 : decode cX6_unlikeOf 61 = .ok (.ireturn, 1) := by decide +kernel
theorem dX6_nextSeed_0 : decode cX6_nextSeed 0 = .ok (.ldc2_w 218, 3) := by decide +kernel
theorem dX6_nextSeed_3 : decode cX6_nextSeed 3 = .ok (.iload_n 0, 1) := by decide +kernel
theorem dX6_nextSeed_4 : decode cX6_nextSeed 4 = .ok (.i2l, 1) := by decide +kernel
theorem dX6_nextSeed_5 : decode cX6_nextSeed 5 = .ok (.lmul, 1) := by decide +kernel
theorem dX6_nextSeed_6 : decode cX6_nextSeed 6 = .ok (.ldc2_w 220, 3) := by decide +kernel
theorem dX6_nextSeed_9 : decode cX6_nextSeed 9 = .ok (.ladd, 1) := by decide +kernel
theorem dX6_nextSeed_10 : decode cX6_nextSeed 10 = .ok (.ldc2_w 222, 3) := by decide +kernel
theorem dX6_nextSeed_13 : decode cX6_nextSeed 13 = .ok (.lrem, 1) := by decide +kernel
theorem dX6_nextSeed_14 : decode cX6_nextSeed 14 = .ok (.l2i, 1) := by decide +kernel
theorem dX6_nextSeed_15 : decode cX6_nextSeed 15 = .ok (.ireturn, 1) := by decide +kernel
theorem dX6_drawOf_0 : decode cX6_drawOf 0 = .ok (.iload_n 0, 1) := by decide +kernel
theorem dX6_drawOf_1 : decode cX6_drawOf 1 = .ok (.ldc 224, 2) := by decide +kernel
theorem dX6_drawOf_3 : decode cX6_drawOf 3 = .ok (.idiv, 1) := by decide +kernel
theorem dX6_drawOf_4 : decode cX6_drawOf 4 = .ok (.bipush 8, 2) := by decide +kernel
theorem dX6_drawOf_6 : decode cX6_drawOf 6 = .ok (.irem, 1) := by decide +kernel
theorem dX6_drawOf_7 : decode cX6_drawOf 7 = .ok (.ireturn, 1) := by decide +kernel
theorem dX6_countOf_0 : decode cX6_countOf 0 = .ok (.iload_n 1, 1) := by decide +kernel
theorem dX6_countOf_1 : decode cX6_countOf 1 = .ok (.tableswitch 99 0 6 #[43, 51, 59, 67, 75, 83, 91], 43) := by decide +kernel
theorem dX6_countOf_44 : decode cX6_countOf 44 = .ok (.aload_n 0, 1) := by decide +kernel
theorem dX6_countOf_45 : decode cX6_countOf 45 = .ok (.getfield 26, 3) := by decide +kernel
theorem dX6_countOf_48 : decode cX6_countOf 48 = .ok (.getfield 67, 3) := by decide +kernel
theorem dX6_countOf_51 : decode cX6_countOf 51 = .ok (.ireturn, 1) := by decide +kernel
theorem dX6_countOf_52 : decode cX6_countOf 52 = .ok (.aload_n 0, 1) := by decide +kernel
theorem dX6_countOf_53 : decode cX6_countOf 53 = .ok (.getfield 19, 3) := by decide +kernel
theorem dX6_countOf_56 : decode cX6_countOf 56 = .ok (.invokevirtual 225, 3) := by decide +kernel
theorem dX6_countOf_59 : decode cX6_countOf 59 = .ok (.ireturn, 1) := by decide +kernel
theorem dX6_countOf_60 : decode cX6_countOf 60 = .ok (.aload_n 0, 1) := by decide +kernel
theorem dX6_countOf_61 : decode cX6_countOf 61 = .ok (.getfield 26, 3) := by decide +kernel
theorem dX6_countOf_64 : decode cX6_countOf 64 = .ok (.invokevirtual 228, 3) := by decide +kernel
theorem dX6_countOf_67 : decode cX6_countOf 67 = .ok (.ireturn, 1) := by decide +kernel
theorem dX6_countOf_68 : decode cX6_countOf 68 = .ok (.aload_n 0, 1) := by decide +kernel
theorem dX6_countOf_69 : decode cX6_countOf 69 = .ok (.getfield 26, 3) := by decide +kernel
theorem dX6_countOf_72 : decode cX6_countOf 72 = .ok (.invokevirtual 231, 3) := by decide +kernel
theorem dX6_countOf_75 : decode cX6_countOf 75 = .ok (.ireturn, 1) := by decide +kernel
theorem dX6_countOf_76 : decode cX6_countOf 76 = .ok (.aload_n 0, 1) := by decide +kernel
theorem dX6_countOf_77 : decode cX6_countOf 77 = .ok (.getfield 26, 3) := by decide +kernel
theorem dX6_countOf_80 : decode cX6_countOf 80 = .ok (.getfield 108, 3) := by decide +kernel
theorem dX6_countOf_83 : decode cX6_countOf 83 = .ok (.ireturn, 1) := by decide +kernel
theorem dX6_countOf_84 : decode cX6_countOf 84 = .ok (.aload_n 0, 1) := by decide +kernel
theorem dX6_countOf_85 : decode cX6_countOf 85 = .ok (.getfield 26, 3) := by decide +kernel
theorem dX6_countOf_88 : decode cX6_countOf 88 = .ok (.getfield 121, 3) := by decide +kernel
theorem dX6_countOf_91 : decode cX6_countOf 91 = .ok (.ireturn, 1) := by decide +kernel
theorem dX6_countOf_92 : decode cX6_countOf 92 = .ok (.aload_n 0, 1) := by decide +kernel
theorem dX6_countOf_93 : decode cX6_countOf 93 = .ok (.getfield 10, 3) := by decide +kernel
theorem dX6_countOf_96 : decode cX6_countOf 96 = .ok (.getfield 33, 3) := by decide +kernel
theorem dX6_countOf_99 : decode cX6_countOf 99 = .ok (.ireturn, 1) := by decide +kernel
theorem dX6_countOf_100 : decode cX6_countOf 100 = .ok (.aload_n 0, 1) := by decide +kernel
theorem dX6_countOf_101 : decode cX6_countOf 101 = .ok (.getfield 64, 3) := by decide +kernel
theorem dX6_countOf_104 : decode cX6_countOf 104 = .ok (.ireturn, 1) := by decide +kernel
theorem dX6_digestSayings_0 : decode cX6_digestSayings 0 = .ok (.lload_n 1, 1) := by decide +kernel
theorem dX6_digestSayings_1 : decode cX6_digestSayings 1 = .ok (.lstore_n 3, 1) := by decide +kernel
theorem dX6_digestSayings_2 : decode cX6_digestSayings 2 = .ok (.iconst 0, 1) := by decide +kernel
theorem dX6_digestSayings_3 : decode cX6_digestSayings 3 = .ok (.istore 5, 2) := by decide +kernel
theorem dX6_digestSayings_5 : decode cX6_digestSayings 5 = .ok (.iload 5, 2) := by decide +kernel
theorem dX6_digestSayings_7 : decode cX6_digestSayings 7 = .ok (.iconst 4, 1) := by decide +kernel
theorem dX6_digestSayings_8 : decode cX6_digestSayings 8 = .ok (.if_icmp .ge 60, 3) := by decide +kernel
theorem dX6_digestSayings_11 : decode cX6_digestSayings 11 = .ok (.ldc2_w 151, 3) := by decide +kernel
theorem dX6_digestSayings_14 : decode cX6_digestSayings 14 = .ok (.lload_n 3, 1) := by decide +kernel
theorem dX6_digestSayings_15 : decode cX6_digestSayings 15 = .ok (.lmul, 1) := by decide +kernel
theorem dX6_digestSayings_16 : decode cX6_digestSayings 16 = .ok (.aload_n 0, 1) := by decide +kernel
theorem dX6_digestSayings_17 : decode cX6_digestSayings 17 = .ok (.getfield 19, 3) := by decide +kernel
theorem dX6_digestSayings_20 : decode cX6_digestSayings 20 = .ok (.iload 5, 2) := by decide +kernel
theorem dX6_digestSayings_22 : decode cX6_digestSayings 22 = .ok (.invokevirtual 74, 3) := by decide +kernel
theorem dX6_digestSayings_25 : decode cX6_digestSayings 25 = .ok (.i2l, 1) := by decide +kernel
theorem dX6_digestSayings_26 : decode cX6_digestSayings 26 = .ok (.ladd, 1) := by decide +kernel
theorem dX6_digestSayings_27 : decode cX6_digestSayings 27 = .ok (.lstore_n 3, 1) := by decide +kernel
theorem dX6_digestSayings_28 : decode cX6_digestSayings 28 = .ok (.iconst 0, 1) := by decide +kernel
theorem dX6_digestSayings_29 : decode cX6_digestSayings 29 = .ok (.istore 6, 2) := by decide +kernel
theorem dX6_digestSayings_31 : decode cX6_digestSayings 31 = .ok (.iload 6, 2) := by decide +kernel
theorem dX6_digestSayings_33 : decode cX6_digestSayings 33 = .ok (.iconst 4, 1) := by decide +kernel
theorem dX6_digestSayings_34 : decode cX6_digestSayings 34 = .ok (.if_icmp .ge 28, 3) := by decide +kernel
theorem dX6_digestSayings_37 : decode cX6_digestSayings 37 = .ok (.ldc2_w 151, 3) := by decide +kernel
theorem dX6_digestSayings_40 : decode cX6_digestSayings 40 = .ok (.lload_n 3, 1) := by decide +kernel
theorem dX6_digestSayings_41 : decode cX6_digestSayings 41 = .ok (.lmul, 1) := by decide +kernel
theorem dX6_digestSayings_42 : decode cX6_digestSayings 42 = .ok (.aload_n 0, 1) := by decide +kernel
theorem dX6_digestSayings_43 : decode cX6_digestSayings 43 = .ok (.getfield 19, 3) := by decide +kernel
theorem dX6_digestSayings_46 : decode cX6_digestSayings 46 = .ok (.iload 5, 2) := by decide +kernel
theorem dX6_digestSayings_48 : decode cX6_digestSayings 48 = .ok (.iload 6, 2) := by decide +kernel
theorem dX6_digestSayings_50 : decode cX6_digestSayings 50 = .ok (.invokevirtual 78, 3) := by decide +kernel
theorem dX6_digestSayings_53 : decode cX6_digestSayings 53 = .ok (.i2l, 1) := by decide +kernel
theorem dX6_digestSayings_54 : decode cX6_digestSayings 54 = .ok (.ladd, 1) := by decide +kernel
theorem dX6_digestSayings_55 : decode cX6_digestSayings 55 = .ok (.lstore_n 3, 1) := by decide +kernel
theorem dX6_digestSayings_56 : decode cX6_digestSayings 56 = .ok (.iinc 6 1, 3) := by decide +kernel
theorem dX6_digestSayings_59 : decode cX6_digestSayings 59 = .ok (.goto (-28), 3) := by decide +kernel
theorem dX6_digestSayings_62 : decode cX6_digestSayings 62 = .ok (.iinc 5 1, 3) := by decide +kernel
theorem dX6_digestSayings_65 : decode cX6_digestSayings 65 = .ok (.goto (-60), 3) := by decide +kernel
theorem dX6_digestSayings_68 : decode cX6_digestSayings 68 = .ok (.lload_n 3, 1) := by decide +kernel
theorem dX6_digestSayings_69 : decode cX6_digestSayings 69 = .ok (.lreturn, 1) := by decide +kernel
theorem dX6_digestTap_0 : decode cX6_digestTap 0 = .ok (.lload_n 1, 1) := by decide +kernel
theorem dX6_digestTap_1 : decode cX6_digestTap 1 = .ok (.lstore 4, 2) := by decide +kernel
theorem dX6_digestTap_3 : decode cX6_digestTap 3 = .ok (.iconst 0, 1) := by decide +kernel
theorem dX6_digestTap_4 : decode cX6_digestTap 4 = .ok (.istore 6, 2) := by decide +kernel
theorem dX6_digestTap_6 : decode cX6_digestTap 6 = .ok (.iload 6, 2) := by decide +kernel
theorem dX6_digestTap_8 : decode cX6_digestTap 8 = .ok (.bipush 8, 2) := by decide +kernel
theorem dX6_digestTap_10 : decode cX6_digestTap 10 = .ok (.if_icmp .gt 26, 3) := by decide +kernel
theorem dX6_digestTap_13 : decode cX6_digestTap 13 = .ok (.ldc2_w 151, 3) := by decide +kernel
theorem dX6_digestTap_16 : decode cX6_digestTap 16 = .ok (.lload 4, 2) := by decide +kernel
theorem dX6_digestTap_18 : decode cX6_digestTap 18 = .ok (.lmul, 1) := by decide +kernel
theorem dX6_digestTap_19 : decode cX6_digestTap 19 = .ok (.aload_n 0, 1) := by decide +kernel
theorem dX6_digestTap_20 : decode cX6_digestTap 20 = .ok (.aload_n 3, 1) := by decide +kernel
theorem dX6_digestTap_21 : decode cX6_digestTap 21 = .ok (.iload 6, 2) := by decide +kernel
theorem dX6_digestTap_23 : decode cX6_digestTap 23 = .ok (.invokevirtual 93, 3) := by decide +kernel
theorem dX6_digestTap_26 : decode cX6_digestTap 26 = .ok (.i2l, 1) := by decide +kernel
theorem dX6_digestTap_27 : decode cX6_digestTap 27 = .ok (.ladd, 1) := by decide +kernel
theorem dX6_digestTap_28 : decode cX6_digestTap 28 = .ok (.lstore 4, 2) := by decide +kernel
theorem dX6_digestTap_30 : decode cX6_digestTap 30 = .ok (.iinc 6 1, 3) := by decide +kernel
theorem dX6_digestTap_33 : decode cX6_digestTap 33 = .ok (.goto (-27), 3) := by decide +kernel
theorem dX6_digestTap_36 : decode cX6_digestTap 36 = .ok (.iconst 0, 1) := by decide +kernel
theorem dX6_digestTap_37 : decode cX6_digestTap 37 = .ok (.istore 6, 2) := by decide +kernel
theorem dX6_digestTap_39 : decode cX6_digestTap 39 = .ok (.iload 6, 2) := by decide +kernel
theorem dX6_digestTap_41 : decode cX6_digestTap 41 = .ok (.bipush 8, 2) := by decide +kernel
theorem dX6_digestTap_43 : decode cX6_digestTap 43 = .ok (.if_icmp .ge 26, 3) := by decide +kernel
theorem dX6_digestTap_46 : decode cX6_digestTap 46 = .ok (.ldc2_w 151, 3) := by decide +kernel
theorem dX6_digestTap_49 : decode cX6_digestTap 49 = .ok (.lload 4, 2) := by decide +kernel
theorem dX6_digestTap_51 : decode cX6_digestTap 51 = .ok (.lmul, 1) := by decide +kernel
theorem dX6_digestTap_52 : decode cX6_digestTap 52 = .ok (.aload_n 0, 1) := by decide +kernel
theorem dX6_digestTap_53 : decode cX6_digestTap 53 = .ok (.aload_n 3, 1) := by decide +kernel
theorem dX6_digestTap_54 : decode cX6_digestTap 54 = .ok (.iload 6, 2) := by decide +kernel
theorem dX6_digestTap_56 : decode cX6_digestTap 56 = .ok (.invokevirtual 102, 3) := by decide +kernel
theorem dX6_digestTap_59 : decode cX6_digestTap 59 = .ok (.i2l, 1) := by decide +kernel
theorem dX6_digestTap_60 : decode cX6_digestTap 60 = .ok (.ladd, 1) := by decide +kernel
theorem dX6_digestTap_61 : decode cX6_digestTap 61 = .ok (.lstore 4, 2) := by decide +kernel
theorem dX6_digestTap_63 : decode cX6_digestTap 63 = .ok (.iinc 6 1, 3) := by decide +kernel
theorem dX6_digestTap_66 : decode cX6_digestTap 66 = .ok (.goto (-27), 3) := by decide +kernel
theorem dX6_digestTap_69 : decode cX6_digestTap 69 = .ok (.iconst 0, 1) := by decide +kernel
theorem dX6_digestTap_70 : decode cX6_digestTap 70 = .ok (.istore 6, 2) := by decide +kernel
theorem dX6_digestTap_72 : decode cX6_digestTap 72 = .ok (.iload 6, 2) := by decide +kernel
theorem dX6_digestTap_74 : decode cX6_digestTap 74 = .ok (.iconst 4, 1) := by decide +kernel
theorem dX6_digestTap_75 : decode cX6_digestTap 75 = .ok (.if_icmp .ge 43, 3) := by decide +kernel
theorem dX6_digestTap_78 : decode cX6_digestTap 78 = .ok (.iconst 0, 1) := by decide +kernel
theorem dX6_digestTap_79 : decode cX6_digestTap 79 = .ok (.istore 7, 2) := by decide +kernel
theorem dX6_digestTap_81 : decode cX6_digestTap 81 = .ok (.iload 7, 2) := by decide +kernel
theorem dX6_digestTap_83 : decode cX6_digestTap 83 = .ok (.iconst 1, 1) := by decide +kernel
theorem dX6_digestTap_84 : decode cX6_digestTap 84 = .ok (.if_icmp .gt 28, 3) := by decide +kernel
theorem dX6_digestTap_87 : decode cX6_digestTap 87 = .ok (.ldc2_w 151, 3) := by decide +kernel
theorem dX6_digestTap_90 : decode cX6_digestTap 90 = .ok (.lload 4, 2) := by decide +kernel
theorem dX6_digestTap_92 : decode cX6_digestTap 92 = .ok (.lmul, 1) := by decide +kernel
theorem dX6_digestTap_93 : decode cX6_digestTap 93 = .ok (.aload_n 0, 1) := by decide +kernel
theorem dX6_digestTap_94 : decode cX6_digestTap 94 = .ok (.aload_n 3, 1) := by decide +kernel
theorem dX6_digestTap_95 : decode cX6_digestTap 95 = .ok (.iload 6, 2) := by decide +kernel
theorem dX6_digestTap_97 : decode cX6_digestTap 97 = .ok (.iload 7, 2) := by decide +kernel
theorem dX6_digestTap_99 : decode cX6_digestTap 99 = .ok (.invokevirtual 117, 3) := by decide +kernel
theorem dX6_digestTap_102 : decode cX6_digestTap 102 = .ok (.i2l, 1) := by decide +kernel
theorem dX6_digestTap_103 : decode cX6_digestTap 103 = .ok (.ladd, 1) := by decide +kernel
theorem dX6_digestTap_104 : decode cX6_digestTap 104 = .ok (.lstore 4, 2) := by decide +kernel
theorem dX6_digestTap_106 : decode cX6_digestTap 106 = .ok (.iinc 7 1, 3) := by decide +kernel
theorem dX6_digestTap_109 : decode cX6_digestTap 109 = .ok (.goto (-28), 3) := by decide +kernel
theorem dX6_digestTap_112 : decode cX6_digestTap 112 = .ok (.iinc 6 1, 3) := by decide +kernel
theorem dX6_digestTap_115 : decode cX6_digestTap 115 = .ok (.goto (-43), 3) := by decide +kernel
theorem dX6_digestTap_118 : decode cX6_digestTap 118 = .ok (.lload 4, 2) := by decide +kernel
theorem dX6_digestTap_120 : decode cX6_digestTap 120 = .ok (.lreturn, 1) := by decide +kernel
theorem dJ9_max_7cf53_0 : decode cJ9_max_7cf53 0 = .ok (.iload_n 0, 1) := by decide +kernel
theorem dJ9_max_7cf53_1 : decode cJ9_max_7cf53 1 = .ok (.iload_n 1, 1) := by decide +kernel
theorem dJ9_max_7cf53_2 : decode cJ9_max_7cf53 2 = .ok (.if_icmp .lt 7, 3) := by decide +kernel
theorem dJ9_max_7cf53_5 : decode cJ9_max_7cf53 5 = .ok (.iload_n 0, 1) := by decide +kernel
theorem dJ9_max_7cf53_6 : decode cJ9_max_7cf53 6 = .ok (.goto 4, 3) := by decide +kernel
theorem dJ9_max_7cf53_9 : decode cJ9_max_7cf53 9 = .ok (.iload_n 1, 1) := by decide +kernel
theorem dJ9_max_7cf53_10 : decode cJ9_max_7cf53 10 = .ok (.ireturn, 1) := by decide +kernel
theorem dJ9_min_7cf53_0 : decode cJ9_min_7cf53 0 = .ok (.iload_n 0, 1) := by decide +kernel
theorem dJ9_min_7cf53_1 : decode cJ9_min_7cf53 1 = .ok (.iload_n 1, 1) := by decide +kernel
theorem dJ9_min_7cf53_2 : decode cJ9_min_7cf53 2 = .ok (.if_icmp .gt 7, 3) := by decide +kernel
theorem dJ9_min_7cf53_5 : decode cJ9_min_7cf53 5 = .ok (.iload_n 0, 1) := by decide +kernel
theorem dJ9_min_7cf53_6 : decode cJ9_min_7cf53 6 = .ok (.goto 4, 3) := by decide +kernel
theorem dJ9_min_7cf53_9 : decode cJ9_min_7cf53 9 = .ok (.iload_n 1, 1) := by decide +kernel
theorem dJ9_min_7cf53_10 : decode cJ9_min_7cf53 10 = .ok (.ireturn, 1) := by decide +kernel
end
section
theorem dX7_init_0 : decode cX7_init 0 = .ok (.aload_n 0, 1) := by decide +kernel
theorem dX7_init_1 : decode cX7_init 1 = .ok (.invokespecial 1, 3) := by decide +kernel
theorem dX7_init_4 : decode cX7_init 4 = .ok (.aload_n 0, 1) := by decide +kernel
theorem dX7_init_5 : decode cX7_init 5 = .ok (.bipush 30, 2) := by decide +kernel
theorem dX7_init_7 : decode cX7_init 7 = .ok (.newarray .int, 2) := by decide +kernel
theorem dX7_init_9 : decode cX7_init 9 = .ok (.putfield 7, 3) := by decide +kernel
theorem dX7_init_12 : decode cX7_init 12 = .ok (.aload_n 0, 1) := by decide +kernel
theorem dX7_init_13 : decode cX7_init 13 = .ok (.bipush 25, 2) := by decide +kernel
theorem dX7_init_15 : decode cX7_init 15 = .ok (.newarray .int, 2) := by decide +kernel
theorem dX7_init_17 : decode cX7_init 17 = .ok (.putfield 13, 3) := by decide +kernel
theorem dX7_init_20 : decode cX7_init 20 = .ok (.aload_n 0, 1) := by decide +kernel
theorem dX7_init_21 : decode cX7_init 21 = .ok (.bipush 12, 2) := by decide +kernel
theorem dX7_init_23 : decode cX7_init 23 = .ok (.newarray .int, 2) := by decide +kernel
theorem dX7_init_25 : decode cX7_init 25 = .ok (.putfield 16, 3) := by decide +kernel
theorem dX7_init_28 : decode cX7_init 28 = .ok (.aload_n 0, 1) := by decide +kernel
theorem dX7_init_29 : decode cX7_init 29 = .ok (.bipush 25, 2) := by decide +kernel
theorem dX7_init_31 : decode cX7_init 31 = .ok (.newarray .int, 2) := by decide +kernel
theorem dX7_init_33 : decode cX7_init 33 = .ok (.putfield 19, 3) := by decide +kernel
theorem dX7_init_36 : decode cX7_init 36 = .ok (.aload_n 0, 1) := by decide +kernel
theorem dX7_init_37 : decode cX7_init 37 = .ok (.bipush 20, 2) := by decide +kernel
theorem dX7_init_39 : decode cX7_init 39 = .ok (.newarray .int, 2) := by decide +kernel
theorem dX7_init_41 : decode cX7_init 41 = .ok (.putfield 22, 3) := by decide +kernel
theorem dX7_init_44 : decode cX7_init 44 = .ok (.aload_n 0, 1) := by decide +kernel
theorem dX7_init_45 : decode cX7_init 45 = .ok (.bipush 32, 2) := by decide +kernel
theorem dX7_init_47 : decode cX7_init 47 = .ok (.newarray .int, 2) := by decide +kernel
theorem dX7_init_49 : decode cX7_init 49 = .ok (.putfield 25, 3) := by decide +kernel
theorem dX7_init_52 : decode cX7_init 52 = .ok (.aload_n 0, 1) := by decide +kernel
theorem dX7_init_53 : decode cX7_init 53 = .ok (.bipush 20, 2) := by decide +kernel
theorem dX7_init_55 : decode cX7_init 55 = .ok (.newarray .int, 2) := by decide +kernel
theorem dX7_init_57 : decode cX7_init 57 = .ok (.putfield 28, 3) := by decide +kernel
theorem dX7_init_60 : decode cX7_init 60 = .ok (.aload_n 0, 1) := by decide +kernel
theorem dX7_init_61 : decode cX7_init 61 = .ok (.bipush 32, 2) := by decide +kernel
theorem dX7_init_63 : decode cX7_init 63 = .ok (.newarray .int, 2) := by decide +kernel
theorem dX7_init_65 : decode cX7_init 65 = .ok (.putfield 31, 3) := by decide +kernel
theorem dX7_init_68 : decode cX7_init 68 = .ok (.aload_n 0, 1) := by decide +kernel
theorem dX7_init_69 : decode cX7_init 69 = .ok (.iconst (-1), 1) := by decide +kernel
theorem dX7_init_70 : decode cX7_init 70 = .ok (.putfield 34, 3) := by decide +kernel
theorem dX7_init_73 : decode cX7_init 73 = .ok (.return_, 1) := by decide +kernel
theorem dX7_in_0 : decode cX7_in 0 = .ok (.lload_n 0, 1) := by decide +kernel
theorem dX7_in_1 : decode cX7_in 1 = .ok (.lload_n 2, 1) := by decide +kernel
theorem dX7_in_2 : decode cX7_in 2 = .ok (.lcmp, 1) := by decide +kernel
theorem dX7_in_3 : decode cX7_in 3 = .ok (.ifCond .lt 14, 3) := by decide +kernel
theorem dX7_in_6 : decode cX7_in 6 = .ok (.lload_n 0, 1) := by decide +kernel
theorem dX7_in_7 : decode cX7_in 7 = .ok (.lload 4, 2) := by decide +kernel
theorem dX7_in_9 : decode cX7_in 9 = .ok (.lcmp, 1) := by decide +kernel
theorem dX7_in_10 : decode cX7_in 10 = .ok (.ifCond .gt 7, 3) := by decide +kernel
theorem dX7_in_13 : decode cX7_in 13 = .ok (.iconst 1, 1) := by decide +kernel
theorem dX7_in_14 : decode cX7_in 14 = .ok (.goto 4, 3) := by decide +kernel
theorem dX7_in_17 : decode cX7_in 17 = .ok (.iconst 0, 1) := by decide +kernel
theorem dX7_in_18 : decode cX7_in 18 = .ok (.ireturn, 1) := by decide +kernel
theorem dX7_copy_0 : decode cX7_copy 0 = .ok (.iconst 0, 1) := by decide +kernel
theorem dX7_copy_1 : decode cX7_copy 1 = .ok (.istore_n 2, 1) := by decide +kernel
theorem dX7_copy_2 : decode cX7_copy 2 = .ok (.iload_n 2, 1) := by decide +kernel
theorem dX7_copy_3 : decode cX7_copy 3 = .ok (.aload_n 0, 1) := by decide +kernel
theorem dX7_copy_4 : decode cX7_copy 4 = .ok (.arraylength, 1) := by decide +kernel
theorem dX7_copy_5 : decode cX7_copy 5 = .ok (.if_icmp .ge 15, 3) := by decide +kernel
theorem dX7_copy_8 : decode cX7_copy 8 = .ok (.aload_n 1, 1) := by decide +kernel
theorem dX7_copy_9 : decode cX7_copy 9 = .ok (.iload_n 2, 1) := by decide +kernel
theorem dX7_copy_10 : decode cX7_copy 10 = .ok (.aload_n 0, 1) := by decide +kernel
theorem dX7_copy_11 : decode cX7_copy 11 = .ok (.iload_n 2, 1) := by decide +kernel
theorem dX7_copy_12 : decode cX7_copy 12 = .ok (.iaload, 1) := by decide +kernel
theorem dX7_copy_13 : decode cX7_copy 13 = .ok (.iastore, 1) := by decide +kernel
theorem dX7_copy_14 : decode cX7_copy 14 = .ok (.iinc 2 1, 3) := by decide +kernel
theorem dX7_copy_17 : decode cX7_copy 17 = .ok (.goto (-15), 3) := by decide +kernel
theorem dX7_copy_20 : decode cX7_copy 20 = .ok (.return_, 1) := by decide +kernel
theorem dX7_letter_0 : decode cX7_letter 0 = .ok (.iload_n 1, 1) := by decide +kernel
theorem dX7_letter_1 : decode cX7_letter 1 = .ok (.i2l, 1) := by decide +kernel
theorem dX7_letter_2 : decode cX7_letter 2 = .ok (.lconst 1, 1) := by decide +kernel
theorem dX7_letter_3 : decode cX7_letter 3 = .ok (.ldc2_w 38, 3) := by decide +kernel
theorem dX7_letter_6 : decode cX7_letter 6 = .ok (.invokestatic 40, 3) := by decide +kernel
theorem dX7_letter_9 : decode cX7_letter 9 = .ok (.ifCond .ne 6, 3) := by decide +kernel
theorem dX7_letter_12 : decode cX7_letter 12 = .ok (.bipush (-102), 2) := by decide +kernel
theorem dX7_letter_14 : decode cX7_letter 14 = .ok (.ireturn, 1) := by decide +kernel
theorem dX7_letter_15 : decode cX7_letter 15 = .ok (.aload_n 0, 1) := by decide +kernel
theorem dX7_letter_16 : decode cX7_letter 16 = .ok (.getfield 44, 3) := by decide +kernel
theorem dX7_letter_19 : decode cX7_letter 19 = .ok (.bipush 30, 2) := by decide +kernel
theorem dX7_letter_21 : decode cX7_letter 21 = .ok (.if_icmp .ne 6, 3) := by decide +kernel
theorem dX7_letter_24 : decode cX7_letter 24 = .ok (.bipush (-104), 2) := by decide +kernel
theorem dX7_letter_26 : decode cX7_letter 26 = .ok (.ireturn, 1) := by decide +kernel
theorem dX7_letter_27 : decode cX7_letter 27 = .ok (.aload_n 0, 1) := by decide +kernel
theorem dX7_letter_28 : decode cX7_letter 28 = .ok (.getfield 7, 3) := by decide +kernel
theorem dX7_letter_31 : decode cX7_letter 31 = .ok (.aload_n 0, 1) := by decide +kernel
theorem dX7_letter_32 : decode cX7_letter 32 = .ok (.getfield 44, 3) := by decide +kernel
theorem dX7_letter_35 : decode cX7_letter 35 = .ok (.iload_n 1, 1) := by decide +kernel
theorem dX7_letter_36 : decode cX7_letter 36 = .ok (.iastore, 1) := by decide +kernel
theorem dX7_letter_37 : decode cX7_letter 37 = .ok (.aload_n 0, 1) := by decide +kernel
theorem dX7_letter_38 : decode cX7_letter 38 = .ok (.dup, 1) := by decide +kernel
theorem dX7_letter_39 : decode cX7_letter 39 = .ok (.getfield 44, 3) := by decide +kernel
theorem dX7_letter_42 : decode cX7_letter 42 = .ok (.iconst 1, 1) := by decide +kernel
theorem dX7_letter_43 : decode cX7_letter 43 = .ok (.iadd, 1) := by decide +kernel
theorem dX7_letter_44 : decode cX7_letter 44 = .ok (.putfield 44, 3) := by decide +kernel
theorem dX7_letter_47 : decode cX7_letter 47 = .ok (.aload_n 0, 1) := by decide +kernel
theorem dX7_letter_48 : decode cX7_letter 48 = .ok (.getfield 44, 3) := by decide +kernel
theorem dX7_letter_51 : decode cX7_letter 51 = .ok (.ireturn, 1) := by decide +kernel
theorem dX7_blank_0 : decode cX7_blank 0 = .ok (.aload_n 0, 1) := by decide +kernel
theorem dX7_blank_1 : decode cX7_blank 1 = .ok (.getfield 44, 3) := by decide +kernel
theorem dX7_blank_4 : decode cX7_blank 4 = .ok (.istore_n 1, 1) := by decide +kernel
theorem dX7_blank_5 : decode cX7_blank 5 = .ok (.aload_n 0, 1) := by decide +kernel
theorem dX7_blank_6 : decode cX7_blank 6 = .ok (.iconst 0, 1) := by decide +kernel
theorem dX7_blank_7 : decode cX7_blank 7 = .ok (.putfield 44, 3) := by decide +kernel
theorem dX7_blank_10 : decode cX7_blank 10 = .ok (.iload_n 1, 1) := by decide +kernel
theorem dX7_blank_11 : decode cX7_blank 11 = .ok (.ireturn, 1) := by decide +kernel
theorem dX7_kindBy_0 : decode cX7_kindBy 0 = .ok (.iload_n 0, 1) := by decide +kernel
theorem dX7_kindBy_1 : decode cX7_kindBy 1 = .ok (.bipush 116, 2) := by decide +kernel
theorem dX7_kindBy_3 : decode cX7_kindBy 3 = .ok (.if_icmp .ne 7, 3) := by decide +kernel
theorem dX7_kindBy_6 : decode cX7_kindBy 6 = .ok (.iconst 0, 1) := by decide +kernel
theorem dX7_kindBy_7 : decode cX7_kindBy 7 = .ok (.goto 44, 3) := by decide +kernel
theorem dX7_kindBy_10 : decode cX7_kindBy 10 = .ok (.iload_n 0, 1) := by decide +kernel
theorem dX7_kindBy_11 : decode cX7_kindBy 11 = .ok (.bipush 98, 2) := by decide +kernel
theorem dX7_kindBy_13 : decode cX7_kindBy 13 = .ok (.if_icmp .ne 7, 3) := by decide +kernel
theorem dX7_kindBy_16 : decode cX7_kindBy 16 = .ok (.iconst 1, 1) := by decide +kernel
theorem dX7_kindBy_17 : decode cX7_kindBy 17 = .ok (.goto 34, 3) := by decide +kernel
theorem dX7_kindBy_20 : decode cX7_kindBy 20 = .ok (.iload_n 0, 1) := by decide +kernel
theorem dX7_kindBy_21 : decode cX7_kindBy 21 = .ok (.bipush 119, 2) := by decide +kernel
theorem dX7_kindBy_23 : decode cX7_kindBy 23 = .ok (.if_icmp .ne 7, 3) := by decide +kernel
theorem dX7_kindBy_26 : decode cX7_kindBy 26 = .ok (.iconst 2, 1) := by decide +kernel
theorem dX7_kindBy_27 : decode cX7_kindBy 27 = .ok (.goto 24, 3) := by decide +kernel
theorem dX7_kindBy_30 : decode cX7_kindBy 30 = .ok (.iload_n 0, 1) := by decide +kernel
theorem dX7_kindBy_31 : decode cX7_kindBy 31 = .ok (.bipush 111, 2) := by decide +kernel
theorem dX7_kindBy_33 : decode cX7_kindBy 33 = .ok (.if_icmp .ne 7, 3) := by decide +kernel
theorem dX7_kindBy_36 : decode cX7_kindBy 36 = .ok (.iconst 3, 1) := by decide +kernel
theorem dX7_kindBy_37 : decode cX7_kindBy 37 = .ok (.goto 14, 3) := by decide +kernel
theorem dX7_kindBy_40 : decode cX7_kindBy 40 = .ok (.iload_n 0, 1) := by decide +kernel
theorem dX7_kindBy_41 : decode cX7_kindBy 41 = .ok (.bipush 101, 2) := by decide +kernel
theorem dX7_kindBy_43 : decode cX7_kindBy 43 = .ok (.if_icmp .ne 7, 3) := by decide +kernel
theorem dX7_kindBy_46 : decode cX7_kindBy 46 = .ok (.iconst 4, 1) := by decide +kernel
theorem dX7_kindBy_47 : decode cX7_kindBy 47 = .ok (.goto 4, 3) := by decide +kernel
theorem dX7_kindBy_50 : decode cX7_kindBy 50 = .ok (.iconst (-1), 1) := by decide +kernel
theorem dX7_kindBy_51 : decode cX7_kindBy 51 = .ok (.ireturn, 1) := by decide +kernel
theorem dX7_goSaying_0 : decode cX7_goSaying 0 = .ok (.iconst 5, 1) := by decide +kernel
theorem dX7_goSaying_1 : decode cX7_goSaying 1 = .ok (.aload_n 0, 1) := by decide +kernel
theorem dX7_goSaying_2 : decode cX7_goSaying 2 = .ok (.getfield 47, 3) := by decide +kernel
theorem dX7_goSaying_5 : decode cX7_goSaying 5 = .ok (.imul, 1) := by decide +kernel
theorem dX7_goSaying_6 : decode cX7_goSaying 6 = .ok (.istore_n 2, 1) := by decide +kernel
theorem dX7_goSaying_7 : decode cX7_goSaying 7 = .ok (.iload_n 1, 1) := by decide +kernel
theorem dX7_goSaying_8 : decode cX7_goSaying 8 = .ok (.bipush 44, 2) := by decide +kernel
theorem dX7_goSaying_10 : decode cX7_goSaying 10 = .ok (.if_icmp .eq 9, 3) := by decide +kernel
theorem dX7_goSaying_13 : decode cX7_goSaying 13 = .ok (.iload_n 1, 1) := by decide +kernel
theorem dX7_goSaying_14 : decode cX7_goSaying 14 = .ok (.bipush 59, 2) := by decide +kernel
theorem dX7_goSaying_16 : decode cX7_goSaying 16 = .ok (.if_icmp .ne 69, 3) := by decide +kernel
theorem dX7_goSaying_19 : decode cX7_goSaying 19 = .ok (.aload_n 0, 1) := by decide +kernel
theorem dX7_goSaying_20 : decode cX7_goSaying 20 = .ok (.getfield 13, 3) := by decide +kernel
theorem dX7_goSaying_23 : decode cX7_goSaying 23 = .ok (.iload_n 2, 1) := by decide +kernel
theorem dX7_goSaying_24 : decode cX7_goSaying 24 = .ok (.iaload, 1) := by decide +kernel
theorem dX7_goSaying_25 : decode cX7_goSaying 25 = .ok (.ifCond .le 34, 3) := by decide +kernel
theorem dX7_goSaying_28 : decode cX7_goSaying 28 = .ok (.iload_n 1, 1) := by decide +kernel
theorem dX7_goSaying_29 : decode cX7_goSaying 29 = .ok (.bipush 59, 2) := by decide +kernel
theorem dX7_goSaying_31 : decode cX7_goSaying 31 = .ok (.if_icmp .ne 7, 3) := by decide +kernel
theorem dX7_goSaying_34 : decode cX7_goSaying 34 = .ok (.iconst 1, 1) := by decide +kernel
theorem dX7_goSaying_35 : decode cX7_goSaying 35 = .ok (.goto 4, 3) := by decide +kernel
theorem dX7_goSaying_38 : decode cX7_goSaying 38 = .ok (.iconst 0, 1) := by decide +kernel
theorem dX7_goSaying_39 : decode cX7_goSaying 39 = .ok (.aload_n 0, 1) := by decide +kernel
theorem dX7_goSaying_40 : decode cX7_goSaying 40 = .ok (.getfield 47, 3) := by decide +kernel
theorem dX7_goSaying_43 : decode cX7_goSaying 43 = .ok (.iconst 3, 1) := by decide +kernel
theorem dX7_goSaying_44 : decode cX7_goSaying 44 = .ok (.if_icmp .ne 7, 3) := by decide +kernel
theorem dX7_goSaying_47 : decode cX7_goSaying 47 = .ok (.iconst 1, 1) := by decide +kernel
theorem dX7_goSaying_48 : decode cX7_goSaying 48 = .ok (.goto 4, 3) := by decide +kernel
theorem dX7_goSaying_51 : decode cX7_goSaying 51 = .ok (.iconst 0, 1) := by decide +kernel
theorem dX7_goSaying_52 : decode cX7_goSaying 52 = .ok (.if_icmp .ne 7, 3) := by decide +kernel
theorem dX7_goSaying_55 : decode cX7_goSaying 55 = .ok (.iconst 1, 1) := by decide +kernel
theorem dX7_goSaying_56 : decode cX7_goSaying 56 = .ok (.goto 4, 3) := by decide +kernel
theorem dX7_goSaying_59 : decode cX7_goSaying 59 = .ok (.iconst 0, 1) := by decide +kernel
theorem dX7_goSaying_60 : decode cX7_goSaying 60 = .ok (.istore_n 3, 1) := by decide +kernel
theorem dX7_goSaying_61 : decode cX7_goSaying 61 = .ok (.aload_n 0, 1) := by decide +kernel
theorem dX7_goSaying_62 : decode cX7_goSaying 62 = .ok (.dup, 1) := by decide +kernel
theorem dX7_goSaying_63 : decode cX7_goSaying 63 = .ok (.getfield 47, 3) := by decide +kernel
theorem dX7_goSaying_66 : decode cX7_goSaying 66 = .ok (.iconst 1, 1) := by decide +kernel
theorem dX7_goSaying_67 : decode cX7_goSaying 67 = .ok (.iadd, 1) := by decide +kernel
theorem dX7_goSaying_68 : decode cX7_goSaying 68 = .ok (.putfield 47, 3) := by decide +kernel
theorem dX7_goSaying_71 : decode cX7_goSaying 71 = .ok (.aload_n 0, 1) := by decide +kernel
theorem dX7_goSaying_72 : decode cX7_goSaying 72 = .ok (.getfield 13, 3) := by decide +kernel
theorem dX7_goSaying_75 : decode cX7_goSaying 75 = .ok (.iconst 5, 1) := by decide +kernel
theorem dX7_goSaying_76 : decode cX7_goSaying 76 = .ok (.aload_n 0, 1) := by decide +kernel
theorem dX7_goSaying_77 : decode cX7_goSaying 77 = .ok (.getfield 47, 3) := by decide +kernel
theorem dX7_goSaying_80 : decode cX7_goSaying 80 = .ok (.imul, 1) := by decide +kernel
theorem dX7_goSaying_81 : decode cX7_goSaying 81 = .ok (.iconst 0, 1) := by decide +kernel
theorem dX7_goSaying_82 : decode cX7_goSaying 82 = .ok (.iastore, 1) := by decide +kernel
theorem dX7_goSaying_83 : decode cX7_goSaying 83 = .ok (.iload_n 3, 1) := by decide +kernel
theorem dX7_goSaying_84 : decode cX7_goSaying 84 = .ok (.ireturn, 1) := by decide +kernel
theorem dX7_goSaying_85 : decode cX7_goSaying 85 = .ok (.iload_n 1, 1) := by decide +kernel
theorem dX7_goSaying_86 : decode cX7_goSaying 86 = .ok (.bipush 115, 2) := by decide +kernel
theorem dX7_goSaying_88 : decode cX7_goSaying 88 = .ok (.if_icmp .eq 9, 3) := by decide +kernel
theorem dX7_goSaying_91 : decode cX7_goSaying 91 = .ok (.iload_n 1, 1) := by decide +kernel
theorem dX7_goSaying_92 : decode cX7_goSaying 92 = .ok (.bipush 108, 2) := by decide +kernel
theorem dX7_goSaying_94 : decode cX7_goSaying 94 = .ok (.if_icmp .ne 13, 3) := by decide +kernel
theorem dX7_goSaying_97 : decode cX7_goSaying 97 = .ok (.aload_n 0, 1) := by decide +kernel
theorem dX7_goSaying_98 : decode cX7_goSaying 98 = .ok (.getfield 13, 3) := by decide +kernel
theorem dX7_goSaying_101 : decode cX7_goSaying 101 = .ok (.iload_n 2, 1) := by decide +kernel
theorem dX7_goSaying_102 : decode cX7_goSaying 102 = .ok (.iaload, 1) := by decide +kernel
theorem dX7_goSaying_103 : decode cX7_goSaying 103 = .ok (.iconst 4, 1) := by decide +kernel
theorem dX7_goSaying_104 : decode cX7_goSaying 104 = .ok (.if_icmp .ne 5, 3) := by decide +kernel
theorem dX7_goSaying_107 : decode cX7_goSaying 107 = .ok (.iconst 0, 1) := by decide +kernel
theorem dX7_goSaying_108 : decode cX7_goSaying 108 = .ok (.ireturn, 1) := by decide +kernel
theorem dX7_goSaying_109 : decode cX7_goSaying 109 = .ok (.aload_n 0, 1) := by decide +kernel
theorem dX7_goSaying_110 : decode cX7_goSaying 110 = .ok (.getfield 13, 3) := by decide +kernel
theorem dX7_goSaying_113 : decode cX7_goSaying 113 = .ok (.iload_n 2, 1) := by decide +kernel
theorem dX7_goSaying_114 : decode cX7_goSaying 114 = .ok (.dup2, 1) := by decide +kernel
theorem dX7_goSaying_115 : decode cX7_goSaying 115 = .ok (.iaload, 1) := by decide +kernel
theorem dX7_goSaying_116 : decode cX7_goSaying 116 = .ok (.iconst 1, 1) := by decide +kernel
theorem dX7_goSaying_117 : decode cX7_goSaying 117 = .ok (.iadd, 1) := by decide +kernel
theorem dX7_goSaying_118 : decode cX7_goSaying 118 = .ok (.iastore, 1) := by decide +kernel
theorem dX7_goSaying_119 : decode cX7_goSaying 119 = .ok (.aload_n 0, 1) := by decide +kernel
theorem dX7_goSaying_120 : decode cX7_goSaying 120 = .ok (.getfield 13, 3) := by decide +kernel
theorem dX7_goSaying_123 : decode cX7_goSaying 123 = .ok (.iload_n 2, 1) := by decide +kernel
theorem dX7_goSaying_124 : decode cX7_goSaying 124 = .ok (.aload_n 0, 1) := by decide +kernel
theorem dX7_goSaying_125 : decode cX7_goSaying 125 = .ok (.getfield 13, 3) := by decide +kernel
theorem dX7_goSaying_128 : decode cX7_goSaying 128 = .ok (.iload_n 2, 1) := by decide +kernel
theorem dX7_goSaying_129 : decode cX7_goSaying 129 = .ok (.iaload, 1) := by decide +kernel
theorem dX7_goSaying_130 : decode cX7_goSaying 130 = .ok (.iadd, 1) := by decide +kernel
theorem dX7_goSaying_131 : decode cX7_goSaying 131 = .ok (.iload_n 1, 1) := by decide +kernel
theorem dX7_goSaying_132 : decode cX7_goSaying 132 = .ok (.bipush 108, 2) := by decide +kernel
theorem dX7_goSaying_134 : decode cX7_goSaying 134 = .ok (.if_icmp .ne 7, 3) := by decide +kernel
theorem dX7_goSaying_137 : decode cX7_goSaying 137 = .ok (.iconst 1, 1) := by decide +kernel
theorem dX7_goSaying_138 : decode cX7_goSaying 138 = .ok (.goto 4, 3) := by decide +kernel
theorem dX7_goSaying_141 : decode cX7_goSaying 141 = .ok (.iconst 0, 1) := by decide +kernel
theorem dX7_goSaying_142 : decode cX7_goSaying 142 = .ok (.iastore, 1) := by decide +kernel
theorem dX7_goSaying_143 : decode cX7_goSaying 143 = .ok (.iconst 1, 1) := by decide +kernel
theorem dX7_goSaying_144 : decode cX7_goSaying 144 = .ok (.ireturn, 1) := by decide +kernel
theorem dX7_goTap_0 : decode cX7_goTap 0 = .ok (.aload_n 0, 1) := by decide +kernel
theorem dX7_goTap_1 : decode cX7_goTap 1 = .ok (.getfield 50, 3) := by decide +kernel
theorem dX7_goTap_4 : decode cX7_goTap 4 = .ok (.istore_n 2, 1) := by decide +kernel
theorem dX7_goTap_5 : decode cX7_goTap 5 = .ok (.aload_n 0, 1) := by decide +kernel
theorem dX7_goTap_6 : decode cX7_goTap 6 = .ok (.aload_n 0, 1) := by decide +kernel
theorem dX7_goTap_7 : decode cX7_goTap 7 = .ok (.getfield 50, 3) := by decide +kernel
theorem dX7_goTap_10 : decode cX7_goTap 10 = .ok (.iconst 1, 1) := by decide +kernel
theorem dX7_goTap_11 : decode cX7_goTap 11 = .ok (.iadd, 1) := by decide +kernel
theorem dX7_goTap_12 : decode cX7_goTap 12 = .ok (.iconst 3, 1) := by decide +kernel
theorem dX7_goTap_13 : decode cX7_goTap 13 = .ok (.irem, 1) := by decide +kernel
theorem dX7_goTap_14 : decode cX7_goTap 14 = .ok (.putfield 50, 3) := by decide +kernel
theorem dX7_goTap_17 : decode cX7_goTap 17 = .ok (.iload_n 2, 1) := by decide +kernel
theorem dX7_goTap_18 : decode cX7_goTap 18 = .ok (.ifCond .ne 32, 3) := by decide +kernel
theorem dX7_goTap_21 : decode cX7_goTap 21 = .ok (.aload_n 0, 1) := by decide +kernel
theorem dX7_goTap_22 : decode cX7_goTap 22 = .ok (.getfield 16, 3) := by decide +kernel
theorem dX7_goTap_25 : decode cX7_goTap 25 = .ok (.iconst 4, 1) := by decide +kernel
theorem dX7_goTap_26 : decode cX7_goTap 26 = .ok (.aload_n 0, 1) := by decide +kernel
theorem dX7_goTap_27 : decode cX7_goTap 27 = .ok (.getfield 53, 3) := by decide +kernel
theorem dX7_goTap_30 : decode cX7_goTap 30 = .ok (.imul, 1) := by decide +kernel
theorem dX7_goTap_31 : decode cX7_goTap 31 = .ok (.iload_n 1, 1) := by decide +kernel
theorem dX7_goTap_32 : decode cX7_goTap 32 = .ok (.invokestatic 56, 3) := by decide +kernel
theorem dX7_goTap_35 : decode cX7_goTap 35 = .ok (.iastore, 1) := by decide +kernel
theorem dX7_goTap_36 : decode cX7_goTap 36 = .ok (.iload_n 1, 1) := by decide +kernel
theorem dX7_goTap_37 : decode cX7_goTap 37 = .ok (.invokestatic 56, 3) := by decide +kernel
theorem dX7_goTap_40 : decode cX7_goTap 40 = .ok (.iconst (-1), 1) := by decide +kernel
theorem dX7_goTap_41 : decode cX7_goTap 41 = .ok (.if_icmp .eq 7, 3) := by decide +kernel
theorem dX7_goTap_44 : decode cX7_goTap 44 = .ok (.iconst 1, 1) := by decide +kernel
theorem dX7_goTap_45 : decode cX7_goTap 45 = .ok (.goto 4, 3) := by decide +kernel
theorem dX7_goTap_48 : decode cX7_goTap 48 = .ok (.iconst 0, 1) := by decide +kernel
theorem dX7_goTap_49 : decode cX7_goTap 49 = .ok (.ireturn, 1) := by decide +kernel
theorem dX7_goTap_50 : decode cX7_goTap 50 = .ok (.iload_n 2, 1) := by decide +kernel
theorem dX7_goTap_51 : decode cX7_goTap 51 = .ok (.iconst 1, 1) := by decide +kernel
theorem dX7_goTap_52 : decode cX7_goTap 52 = .ok (.if_icmp .ne 42, 3) := by decide +kernel
theorem dX7_goTap_55 : decode cX7_goTap 55 = .ok (.aload_n 0, 1) := by decide +kernel
theorem dX7_goTap_56 : decode cX7_goTap 56 = .ok (.getfield 16, 3) := by decide +kernel
theorem dX7_goTap_59 : decode cX7_goTap 59 = .ok (.iconst 4, 1) := by decide +kernel
theorem dX7_goTap_60 : decode cX7_goTap 60 = .ok (.aload_n 0, 1) := by decide +kernel
theorem dX7_goTap_61 : decode cX7_goTap 61 = .ok (.getfield 53, 3) := by decide +kernel
theorem dX7_goTap_64 : decode cX7_goTap 64 = .ok (.imul, 1) := by decide +kernel
theorem dX7_goTap_65 : decode cX7_goTap 65 = .ok (.iconst 1, 1) := by decide +kernel
theorem dX7_goTap_66 : decode cX7_goTap 66 = .ok (.iadd, 1) := by decide +kernel
theorem dX7_goTap_67 : decode cX7_goTap 67 = .ok (.iload_n 1, 1) := by decide +kernel
theorem dX7_goTap_68 : decode cX7_goTap 68 = .ok (.bipush 48, 2) := by decide +kernel
theorem dX7_goTap_70 : decode cX7_goTap 70 = .ok (.isub, 1) := by decide +kernel
theorem dX7_goTap_71 : decode cX7_goTap 71 = .ok (.iastore, 1) := by decide +kernel
theorem dX7_goTap_72 : decode cX7_goTap 72 = .ok (.aload_n 0, 1) := by decide +kernel
theorem dX7_goTap_73 : decode cX7_goTap 73 = .ok (.dup, 1) := by decide +kernel
theorem dX7_goTap_74 : decode cX7_goTap 74 = .ok (.getfield 53, 3) := by decide +kernel
theorem dX7_goTap_77 : decode cX7_goTap 77 = .ok (.iconst 1, 1) := by decide +kernel
theorem dX7_goTap_78 : decode cX7_goTap 78 = .ok (.iadd, 1) := by decide +kernel
theorem dX7_goTap_79 : decode cX7_goTap 79 = .ok (.putfield 53, 3) := by decide +kernel
theorem dX7_goTap_82 : decode cX7_goTap 82 = .ok (.iload_n 1, 1) := by decide +kernel
theorem dX7_goTap_83 : decode cX7_goTap 83 = .ok (.i2l, 1) := by decide +kernel
theorem dX7_goTap_84 : decode cX7_goTap 84 = .ok (.ldc2_w 60, 3) := by decide +kernel
theorem dX7_goTap_87 : decode cX7_goTap 87 = .ok (.ldc2_w 62, 3) := by decide +kernel
theorem dX7_goTap_90 : decode cX7_goTap 90 = .ok (.invokestatic 40, 3) := by decide +kernel
theorem dX7_goTap_93 : decode cX7_goTap 93 = .ok (.ireturn, 1) := by decide +kernel
theorem dX7_goTap_94 : decode cX7_goTap 94 = .ok (.iload_n 1, 1) := by decide +kernel
theorem dX7_goTap_95 : decode cX7_goTap 95 = .ok (.bipush 44, 2) := by decide +kernel
theorem dX7_goTap_97 : decode cX7_goTap 97 = .ok (.if_icmp .ne 15, 3) := by decide +kernel
theorem dX7_goTap_100 : decode cX7_goTap 100 = .ok (.aload_n 0, 1) := by decide +kernel
theorem dX7_goTap_101 : decode cX7_goTap 101 = .ok (.getfield 53, 3) := by decide +kernel
theorem dX7_goTap_104 : decode cX7_goTap 104 = .ok (.iconst 3, 1) := by decide +kernel
theorem dX7_goTap_105 : decode cX7_goTap 105 = .ok (.if_icmp .ge 7, 3) := by decide +kernel
theorem dX7_goTap_108 : decode cX7_goTap 108 = .ok (.iconst 1, 1) := by decide +kernel
theorem dX7_goTap_109 : decode cX7_goTap 109 = .ok (.goto 4, 3) := by decide +kernel
theorem dX7_goTap_112 : decode cX7_goTap 112 = .ok (.iconst 0, 1) := by decide +kernel
theorem dX7_goTap_113 : decode cX7_goTap 113 = .ok (.ireturn, 1) := by decide +kernel
theorem dX7_faultOf_0 : decode cX7_faultOf 0 = .ok (.aload_n 0, 1) := by decide +kernel
theorem dX7_faultOf_1 : decode cX7_faultOf 1 = .ok (.iconst 0, 1) := by decide +kernel
theorem dX7_faultOf_2 : decode cX7_faultOf 2 = .ok (.putfield 47, 3) := by decide +kernel
theorem dX7_faultOf_5 : decode cX7_faultOf 5 = .ok (.aload_n 0, 1) := by decide +kernel
theorem dX7_faultOf_6 : decode cX7_faultOf 6 = .ok (.getfield 13, 3) := by decide +kernel
theorem dX7_faultOf_9 : decode cX7_faultOf 9 = .ok (.iconst 0, 1) := by decide +kernel
theorem dX7_faultOf_10 : decode cX7_faultOf 10 = .ok (.iconst 0, 1) := by decide +kernel
theorem dX7_faultOf_11 : decode cX7_faultOf 11 = .ok (.iastore, 1) := by decide +kernel
theorem dX7_faultOf_12 : decode cX7_faultOf 12 = .ok (.aload_n 0, 1) := by decide +kernel
theorem dX7_faultOf_13 : decode cX7_faultOf 13 = .ok (.iconst 0, 1) := by decide +kernel
theorem dX7_faultOf_14 : decode cX7_faultOf 14 = .ok (.putfield 53, 3) := by decide +kernel
theorem dX7_faultOf_17 : decode cX7_faultOf 17 = .ok (.aload_n 0, 1) := by decide +kernel
theorem dX7_faultOf_18 : decode cX7_faultOf 18 = .ok (.iconst 0, 1) := by decide +kernel
theorem dX7_faultOf_19 : decode cX7_faultOf 19 = .ok (.putfield 50, 3) := by decide +kernel
theorem dX7_faultOf_22 : decode cX7_faultOf 22 = .ok (.iconst 0, 1) := by decide +kernel
theorem dX7_faultOf_23 : decode cX7_faultOf 23 = .ok (.istore_n 1, 1) := by decide +kernel
theorem dX7_faultOf_24 : decode cX7_faultOf 24 = .ok (.iload_n 1, 1) := by decide +kernel
theorem dX7_faultOf_25 : decode cX7_faultOf 25 = .ok (.aload_n 0, 1) := by decide +kernel
theorem dX7_faultOf_26 : decode cX7_faultOf 26 = .ok (.getfield 44, 3) := by decide +kernel
theorem dX7_faultOf_29 : decode cX7_faultOf 29 = .ok (.if_icmp .ge 46, 3) := by decide +kernel
theorem dX7_faultOf_32 : decode cX7_faultOf 32 = .ok (.aload_n 0, 1) := by decide +kernel
theorem dX7_faultOf_33 : decode cX7_faultOf 33 = .ok (.getfield 47, 3) := by decide +kernel
theorem dX7_faultOf_36 : decode cX7_faultOf 36 = .ok (.iconst 4, 1) := by decide +kernel
theorem dX7_faultOf_37 : decode cX7_faultOf 37 = .ok (.if_icmp .ge 19, 3) := by decide +kernel
theorem dX7_faultOf_40 : decode cX7_faultOf 40 = .ok (.aload_n 0, 1) := by decide +kernel
theorem dX7_faultOf_41 : decode cX7_faultOf 41 = .ok (.aload_n 0, 1) := by decide +kernel
theorem dX7_faultOf_42 : decode cX7_faultOf 42 = .ok (.getfield 7, 3) := by decide +kernel
theorem dX7_faultOf_45 : decode cX7_faultOf 45 = .ok (.iload_n 1, 1) := by decide +kernel
theorem dX7_faultOf_46 : decode cX7_faultOf 46 = .ok (.iaload, 1) := by decide +kernel
theorem dX7_faultOf_47 : decode cX7_faultOf 47 = .ok (.invokevirtual 64, 3) := by decide +kernel
theorem dX7_faultOf_50 : decode cX7_faultOf 50 = .ok (.ifCond .eq 25, 3) := by decide +kernel
theorem dX7_faultOf_53 : decode cX7_faultOf 53 = .ok (.goto 16, 3) := by decide +kernel
theorem dX7_faultOf_56 : decode cX7_faultOf 56 = .ok (.aload_n 0, 1) := by decide +kernel
theorem dX7_faultOf_57 : decode cX7_faultOf 57 = .ok (.aload_n 0, 1) := by decide +kernel
theorem dX7_faultOf_58 : decode cX7_faultOf 58 = .ok (.getfield 7, 3) := by decide +kernel
theorem dX7_faultOf_61 : decode cX7_faultOf 61 = .ok (.iload_n 1, 1) := by decide +kernel
theorem dX7_faultOf_62 : decode cX7_faultOf 62 = .ok (.iaload, 1) := by decide +kernel
theorem dX7_faultOf_63 : decode cX7_faultOf 63 = .ok (.invokevirtual 68, 3) := by decide +kernel
theorem dX7_faultOf_66 : decode cX7_faultOf 66 = .ok (.ifCond .eq 9, 3) := by decide +kernel
theorem dX7_faultOf_69 : decode cX7_faultOf 69 = .ok (.iinc 1 1, 3) := by decide +kernel
theorem dX7_faultOf_72 : decode cX7_faultOf 72 = .ok (.goto (-48), 3) := by decide +kernel
theorem dX7_faultOf_75 : decode cX7_faultOf 75 = .ok (.iload_n 1, 1) := by decide +kernel
theorem dX7_faultOf_76 : decode cX7_faultOf 76 = .ok (.ireturn, 1) := by decide +kernel
theorem dX7_fault_0 : decode cX7_fault 0 = .ok (.aload_n 0, 1) := by decide +kernel
theorem dX7_fault_1 : decode cX7_fault 1 = .ok (.invokevirtual 71, 3) := by decide +kernel
theorem dX7_fault_4 : decode cX7_fault 4 = .ok (.ireturn, 1) := by decide +kernel
theorem dX7_house_0 : decode cX7_house 0 = .ok (.aload_n 0, 1) := by decide +kernel
theorem dX7_house_1 : decode cX7_house 1 = .ok (.invokevirtual 71, 3) := by decide +kernel
theorem dX7_house_4 : decode cX7_house 4 = .ok (.aload_n 0, 1) := by decide +kernel
theorem dX7_house_5 : decode cX7_house 5 = .ok (.getfield 44, 3) := by decide +kernel
theorem dX7_house_8 : decode cX7_house 8 = .ok (.if_icmp .lt 19, 3) := by decide +kernel
theorem dX7_house_11 : decode cX7_house 11 = .ok (.aload_n 0, 1) := by decide +kernel
theorem dX7_house_12 : decode cX7_house 12 = .ok (.getfield 47, 3) := by decide +kernel
theorem dX7_house_15 : decode cX7_house 15 = .ok (.iconst 4, 1) := by decide +kernel
theorem dX7_house_16 : decode cX7_house 16 = .ok (.if_icmp .lt 11, 3) := by decide +kernel
theorem dX7_house_19 : decode cX7_house 19 = .ok (.aload_n 0, 1) := by decide +kernel
theorem dX7_house_20 : decode cX7_house 20 = .ok (.getfield 50, 3) := by decide +kernel
theorem dX7_house_23 : decode cX7_house 23 = .ok (.iconst 2, 1) := by decide +kernel
theorem dX7_house_24 : decode cX7_house 24 = .ok (.if_icmp .eq 6, 3) := by decide +kernel
theorem dX7_house_27 : decode cX7_house 27 = .ok (.bipush (-103), 2) := by decide +kernel
theorem dX7_house_29 : decode cX7_house 29 = .ok (.ireturn, 1) := by decide +kernel
theorem dX7_house_30 : decode cX7_house 30 = .ok (.aload_n 0, 1) := by decide +kernel
theorem dX7_house_31 : decode cX7_house 31 = .ok (.aload_n 0, 1) := by decide +kernel
theorem dX7_house_32 : decode cX7_house 32 = .ok (.getfield 53, 3) := by decide +kernel
theorem dX7_house_35 : decode cX7_house 35 = .ok (.putfield 75, 3) := by decide +kernel
theorem dX7_house_38 : decode cX7_house 38 = .ok (.aload_n 0, 1) := by decide +kernel
theorem dX7_house_39 : decode cX7_house 39 = .ok (.getfield 13, 3) := by decide +kernel
theorem dX7_house_42 : decode cX7_house 42 = .ok (.aload_n 0, 1) := by decide +kernel
theorem dX7_house_43 : decode cX7_house 43 = .ok (.getfield 19, 3) := by decide +kernel
theorem dX7_house_46 : decode cX7_house 46 = .ok (.invokestatic 78, 3) := by decide +kernel
theorem dX7_house_49 : decode cX7_house 49 = .ok (.iconst 0, 1) := by decide +kernel
theorem dX7_house_50 : decode cX7_house 50 = .ok (.istore_n 1, 1) := by decide +kernel
theorem dX7_house_51 : decode cX7_house 51 = .ok (.iload_n 1, 1) := by decide +kernel
theorem dX7_house_52 : decode cX7_house 52 = .ok (.aload_n 0, 1) := by decide +kernel
theorem dX7_house_53 : decode cX7_house 53 = .ok (.getfield 75, 3) := by decide +kernel
theorem dX7_house_56 : decode cX7_house 56 = .ok (.if_icmp .ge 67, 3) := by decide +kernel
theorem dX7_house_59 : decode cX7_house 59 = .ok (.aload_n 0, 1) := by decide +kernel
theorem dX7_house_60 : decode cX7_house 60 = .ok (.getfield 22, 3) := by decide +kernel
theorem dX7_house_63 : decode cX7_house 63 = .ok (.iconst 4, 1) := by decide +kernel
theorem dX7_house_64 : decode cX7_house 64 = .ok (.iload_n 1, 1) := by decide +kernel
theorem dX7_house_65 : decode cX7_house 65 = .ok (.imul, 1) := by decide +kernel
theorem dX7_house_66 : decode cX7_house 66 = .ok (.aload_n 0, 1) := by decide +kernel
theorem dX7_house_67 : decode cX7_house 67 = .ok (.getfield 16, 3) := by decide +kernel
theorem dX7_house_70 : decode cX7_house 70 = .ok (.iconst 4, 1) := by decide +kernel
theorem dX7_house_71 : decode cX7_house 71 = .ok (.iload_n 1, 1) := by decide +kernel
theorem dX7_house_72 : decode cX7_house 72 = .ok (.imul, 1) := by decide +kernel
theorem dX7_house_73 : decode cX7_house 73 = .ok (.iaload, 1) := by decide +kernel
theorem dX7_house_74 : decode cX7_house 74 = .ok (.iastore, 1) := by decide +kernel
theorem dX7_house_75 : decode cX7_house 75 = .ok (.aload_n 0, 1) := by decide +kernel
theorem dX7_house_76 : decode cX7_house 76 = .ok (.getfield 22, 3) := by decide +kernel
theorem dX7_house_79 : decode cX7_house 79 = .ok (.iconst 4, 1) := by decide +kernel
theorem dX7_house_80 : decode cX7_house 80 = .ok (.iload_n 1, 1) := by decide +kernel
theorem dX7_house_81 : decode cX7_house 81 = .ok (.imul, 1) := by decide +kernel
theorem dX7_house_82 : decode cX7_house 82 = .ok (.iconst 1, 1) := by decide +kernel
theorem dX7_house_83 : decode cX7_house 83 = .ok (.iadd, 1) := by decide +kernel
theorem dX7_house_84 : decode cX7_house 84 = .ok (.aload_n 0, 1) := by decide +kernel
theorem dX7_house_85 : decode cX7_house 85 = .ok (.getfield 16, 3) := by decide +kernel
theorem dX7_house_88 : decode cX7_house 88 = .ok (.iconst 4, 1) := by decide +kernel
theorem dX7_house_89 : decode cX7_house 89 = .ok (.iload_n 1, 1) := by decide +kernel
theorem dX7_house_90 : decode cX7_house 90 = .ok (.imul, 1) := by decide +kernel
theorem dX7_house_91 : decode cX7_house 91 = .ok (.iconst 1, 1) := by decide +kernel
theorem dX7_house_92 : decode cX7_house 92 = .ok (.iadd, 1) := by decide +kernel
theorem dX7_house_93 : decode cX7_house 93 = .ok (.iaload, 1) := by decide +kernel
theorem dX7_house_94 : decode cX7_house 94 = .ok (.iastore, 1) := by decide +kernel
theorem dX7_house_95 : decode cX7_house 95 = .ok (.aload_n 0, 1) := by decide +kernel
theorem dX7_house_96 : decode cX7_house 96 = .ok (.getfield 22, 3) := by decide +kernel
theorem dX7_house_99 : decode cX7_house 99 = .ok (.iconst 4, 1) := by decide +kernel
theorem dX7_house_100 : decode cX7_house 100 = .ok (.iload_n 1, 1) := by decide +kernel
theorem dX7_house_101 : decode cX7_house 101 = .ok (.imul, 1) := by decide +kernel
theorem dX7_house_102 : decode cX7_house 102 = .ok (.iconst 2, 1) := by decide +kernel
theorem dX7_house_103 : decode cX7_house 103 = .ok (.iadd, 1) := by decide +kernel
theorem dX7_house_104 : decode cX7_house 104 = .ok (.iconst 0, 1) := by decide +kernel
theorem dX7_house_105 : decode cX7_house 105 = .ok (.iastore, 1) := by decide +kernel
theorem dX7_house_106 : decode cX7_house 106 = .ok (.aload_n 0, 1) := by decide +kernel
theorem dX7_house_107 : decode cX7_house 107 = .ok (.getfield 22, 3) := by decide +kernel
theorem dX7_house_110 : decode cX7_house 110 = .ok (.iconst 4, 1) := by decide +kernel
theorem dX7_house_111 : decode cX7_house 111 = .ok (.iload_n 1, 1) := by decide +kernel
theorem dX7_house_112 : decode cX7_house 112 = .ok (.imul, 1) := by decide +kernel
theorem dX7_house_113 : decode cX7_house 113 = .ok (.iconst 3, 1) := by decide +kernel
theorem dX7_house_114 : decode cX7_house 114 = .ok (.iadd, 1) := by decide +kernel
theorem dX7_house_115 : decode cX7_house 115 = .ok (.iconst 0, 1) := by decide +kernel
theorem dX7_house_116 : decode cX7_house 116 = .ok (.iastore, 1) := by decide +kernel
theorem dX7_house_117 : decode cX7_house 117 = .ok (.iinc 1 1, 3) := by decide +kernel
theorem dX7_house_120 : decode cX7_house 120 = .ok (.goto (-69), 3) := by decide +kernel
theorem dX7_house_123 : decode cX7_house 123 = .ok (.aload_n 0, 1) := by decide +kernel
theorem dX7_house_124 : decode cX7_house 124 = .ok (.iconst 0, 1) := by decide +kernel
theorem dX7_house_125 : decode cX7_house 125 = .ok (.putfield 82, 3) := by decide +kernel
theorem dX7_house_128 : decode cX7_house 128 = .ok (.aload_n 0, 1) := by decide +kernel
theorem dX7_house_129 : decode cX7_house 129 = .ok (.iconst 0, 1) := by decide +kernel
theorem dX7_house_130 : decode cX7_house 130 = .ok (.putfield 85, 3) := by decide +kernel
theorem dX7_house_133 : decode cX7_house 133 = .ok (.aload_n 0, 1) := by decide +kernel
theorem dX7_house_134 : decode cX7_house 134 = .ok (.dup, 1) := by decide +kernel
theorem dX7_house_135 : decode cX7_house 135 = .ok (.getfield 88, 3) := by decide +kernel
theorem dX7_house_138 : decode cX7_house 138 = .ok (.iconst 1, 1) := by decide +kernel
theorem dX7_house_139 : decode cX7_house 139 = .ok (.iadd, 1) := by decide +kernel
theorem dX7_house_140 : decode cX7_house 140 = .ok (.putfield 88, 3) := by decide +kernel
theorem dX7_house_143 : decode cX7_house 143 = .ok (.aload_n 0, 1) := by decide +kernel
theorem dX7_house_144 : decode cX7_house 144 = .ok (.iconst 0, 1) := by decide +kernel
theorem dX7_house_145 : decode cX7_house 145 = .ok (.putfield 44, 3) := by decide +kernel
theorem dX7_house_148 : decode cX7_house 148 = .ok (.aload_n 0, 1) := by decide +kernel
theorem dX7_house_149 : decode cX7_house 149 = .ok (.getfield 75, 3) := by decide +kernel
theorem dX7_house_152 : decode cX7_house 152 = .ok (.ireturn, 1) := by decide +kernel
theorem dX7_lacks_0 : decode cX7_lacks 0 = .ok (.aload_n 0, 1) := by decide +kernel
theorem dX7_lacks_1 : decode cX7_lacks 1 = .ok (.getfield 75, 3) := by decide +kernel
theorem dX7_lacks_4 : decode cX7_lacks 4 = .ok (.ifCond .ne 7, 3) := by decide +kernel
theorem dX7_lacks_7 : decode cX7_lacks 7 = .ok (.iconst 1, 1) := by decide +kernel
theorem dX7_lacks_8 : decode cX7_lacks 8 = .ok (.goto 4, 3) := by decide +kernel
theorem dX7_lacks_11 : decode cX7_lacks 11 = .ok (.iconst 0, 1) := by decide +kernel
theorem dX7_lacks_12 : decode cX7_lacks 12 = .ok (.ireturn, 1) := by decide +kernel
theorem dX7_isTap_0 : decode cX7_isTap 0 = .ok (.iload_n 1, 1) := by decide +kernel
theorem dX7_isTap_1 : decode cX7_isTap 1 = .ok (.i2l, 1) := by decide +kernel
theorem dX7_isTap_2 : decode cX7_isTap 2 = .ok (.lconst 0, 1) := by decide +kernel
theorem dX7_isTap_3 : decode cX7_isTap 3 = .ok (.aload_n 0, 1) := by decide +kernel
theorem dX7_isTap_4 : decode cX7_isTap 4 = .ok (.getfield 75, 3) := by decide +kernel
theorem dX7_isTap_7 : decode cX7_isTap 7 = .ok (.iconst 1, 1) := by decide +kernel
theorem dX7_isTap_8 : decode cX7_isTap 8 = .ok (.isub, 1) := by decide +kernel
theorem dX7_isTap_9 : decode cX7_isTap 9 = .ok (.i2l, 1) := by decide +kernel
theorem dX7_isTap_10 : decode cX7_isTap 10 = .ok (.invokestatic 40, 3) := by decide +kernel
theorem dX7_isTap_13 : decode cX7_isTap 13 = .ok (.ireturn, 1) := by decide +kernel
theorem dX7_isSaying_0 : decode cX7_isSaying 0 = .ok (.iload_n 0, 1) := by decide +kernel
theorem dX7_isSaying_1 : decode cX7_isSaying 1 = .ok (.i2l, 1) := by decide +kernel
theorem dX7_isSaying_2 : decode cX7_isSaying 2 = .ok (.lconst 0, 1) := by decide +kernel
theorem dX7_isSaying_3 : decode cX7_isSaying 3 = .ok (.ldc2_w 91, 3) := by decide +kernel
theorem dX7_isSaying_6 : decode cX7_isSaying 6 = .ok (.invokestatic 40, 3) := by decide +kernel
theorem dX7_isSaying_9 : decode cX7_isSaying 9 = .ok (.ireturn, 1) := by decide +kernel
theorem dX7_tellSaying_0 : decode cX7_tellSaying 0 = .ok (.iload_n 2, 1) := by decide +kernel
theorem dX7_tellSaying_1 : decode cX7_tellSaying 1 = .ok (.ifCond .ne 12, 3) := by decide +kernel
theorem dX7_tellSaying_4 : decode cX7_tellSaying 4 = .ok (.aload_n 0, 1) := by decide +kernel
theorem dX7_tellSaying_5 : decode cX7_tellSaying 5 = .ok (.getfield 19, 3) := by decide +kernel
theorem dX7_tellSaying_8 : decode cX7_tellSaying 8 = .ok (.iconst 5, 1) := by decide +kernel
theorem dX7_tellSaying_9 : decode cX7_tellSaying 9 = .ok (.iload_n 1, 1) := by decide +kernel
theorem dX7_tellSaying_10 : decode cX7_tellSaying 10 = .ok (.imul, 1) := by decide +kernel
theorem dX7_tellSaying_11 : decode cX7_tellSaying 11 = .ok (.iaload, 1) := by decide +kernel
theorem dX7_tellSaying_12 : decode cX7_tellSaying 12 = .ok (.ireturn, 1) := by decide +kernel
theorem dX7_tellSaying_13 : decode cX7_tellSaying 13 = .ok (.iload_n 2, 1) := by decide +kernel
theorem dX7_tellSaying_14 : decode cX7_tellSaying 14 = .ok (.i2l, 1) := by decide +kernel
theorem dX7_tellSaying_15 : decode cX7_tellSaying 15 = .ok (.ldc2_w 93, 3) := by decide +kernel
theorem dX7_tellSaying_18 : decode cX7_tellSaying 18 = .ok (.ldc2_w 95, 3) := by decide +kernel
theorem dX7_tellSaying_21 : decode cX7_tellSaying 21 = .ok (.invokestatic 40, 3) := by decide +kernel
theorem dX7_tellSaying_24 : decode cX7_tellSaying 24 = .ok (.ifCond .ne 6, 3) := by decide +kernel
theorem dX7_tellSaying_27 : decode cX7_tellSaying 27 = .ok (.bipush (-102), 2) := by decide +kernel
theorem dX7_tellSaying_29 : decode cX7_tellSaying 29 = .ok (.ireturn, 1) := by decide +kernel
theorem dX7_tellSaying_30 : decode cX7_tellSaying 30 = .ok (.iload_n 2, 1) := by decide +kernel
theorem dX7_tellSaying_31 : decode cX7_tellSaying 31 = .ok (.bipush 10, 2) := by decide +kernel
theorem dX7_tellSaying_33 : decode cX7_tellSaying 33 = .ok (.isub, 1) := by decide +kernel
theorem dX7_tellSaying_34 : decode cX7_tellSaying 34 = .ok (.aload_n 0, 1) := by decide +kernel
theorem dX7_tellSaying_35 : decode cX7_tellSaying 35 = .ok (.getfield 19, 3) := by decide +kernel
theorem dX7_tellSaying_38 : decode cX7_tellSaying 38 = .ok (.iconst 5, 1) := by decide +kernel
theorem dX7_tellSaying_39 : decode cX7_tellSaying 39 = .ok (.iload_n 1, 1) := by decide +kernel
theorem dX7_tellSaying_40 : decode cX7_tellSaying 40 = .ok (.imul, 1) := by decide +kernel
theorem dX7_tellSaying_41 : decode cX7_tellSaying 41 = .ok (.iaload, 1) := by decide +kernel
theorem dX7_tellSaying_42 : decode cX7_tellSaying 42 = .ok (.if_icmp .ge 19, 3) := by decide +kernel
theorem dX7_tellSaying_45 : decode cX7_tellSaying 45 = .ok (.aload_n 0, 1) := by decide +kernel
theorem dX7_tellSaying_46 : decode cX7_tellSaying 46 = .ok (.getfield 19, 3) := by decide +kernel
theorem dX7_tellSaying_49 : decode cX7_tellSaying 49 = .ok (.iconst 5, 1) := by decide +kernel
theorem dX7_tellSaying_50 : decode cX7_tellSaying 50 = .ok (.iload_n 1, 1) := by decide +kernel
theorem dX7_tellSaying_51 : decode cX7_tellSaying 51 = .ok (.imul, 1) := by decide +kernel
theorem dX7_tellSaying_52 : decode cX7_tellSaying 52 = .ok (.iload_n 2, 1) := by decide +kernel
theorem dX7_tellSaying_53 : decode cX7_tellSaying 53 = .ok (.iadd, 1) := by decide +kernel
theorem dX7_tellSaying_54 : decode cX7_tellSaying 54 = .ok (.bipush 9, 2) := by decide +kernel
theorem dX7_tellSaying_56 : decode cX7_tellSaying 56 = .ok (.isub, 1) := by decide +kernel
theorem dX7_tellSaying_57 : decode cX7_tellSaying 57 = .ok (.iaload, 1) := by decide +kernel
theorem dX7_tellSaying_58 : decode cX7_tellSaying 58 = .ok (.goto 4, 3) := by decide +kernel
theorem dX7_tellSaying_61 : decode cX7_tellSaying 61 = .ok (.iconst (-1), 1) := by decide +kernel
theorem dX7_tellSaying_62 : decode cX7_tellSaying 62 = .ok (.ireturn, 1) := by decide +kernel
theorem dX7_saying_0 : decode cX7_saying 0 = .ok (.aload_n 0, 1) := by decide +kernel
theorem dX7_saying_1 : decode cX7_saying 1 = .ok (.invokevirtual 97, 3) := by decide +kernel
theorem dX7_saying_4 : decode cX7_saying 4 = .ok (.ifCond .ne 19, 3) := by decide +kernel
theorem dX7_saying_7 : decode cX7_saying 7 = .ok (.iload_n 1, 1) := by decide +kernel
theorem dX7_saying_8 : decode cX7_saying 8 = .ok (.invokestatic 101, 3) := by decide +kernel
theorem dX7_saying_11 : decode cX7_saying 11 = .ok (.ifCond .eq 12, 3) := by decide +kernel
theorem dX7_saying_14 : decode cX7_saying 14 = .ok (.aload_n 0, 1) := by decide +kernel
theorem dX7_saying_15 : decode cX7_saying 15 = .ok (.iload_n 1, 1) := by decide +kernel
theorem dX7_saying_16 : decode cX7_saying 16 = .ok (.iload_n 2, 1) := by decide +kernel
theorem dX7_saying_17 : decode cX7_saying 17 = .ok (.invokevirtual 104, 3) := by decide +kernel
theorem dX7_saying_20 : decode cX7_saying 20 = .ok (.goto 5, 3) := by decide +kernel
theorem dX7_saying_23 : decode cX7_saying 23 = .ok (.bipush (-101), 2) := by decide +kernel
theorem dX7_saying_25 : decode cX7_saying 25 = .ok (.ireturn, 1) := by decide +kernel
theorem dX7_dripBy_0 : decode cX7_dripBy 0 = .ok (.aload_n 0, 1) := by decide +kernel
theorem dX7_dripBy_1 : decode cX7_dripBy 1 = .ok (.getfield 19, 3) := by decide +kernel
theorem dX7_dripBy_4 : decode cX7_dripBy 4 = .ok (.iconst 5, 1) := by decide +kernel
theorem dX7_dripBy_5 : decode cX7_dripBy 5 = .ok (.iload_n 3, 1) := by decide +kernel
theorem dX7_dripBy_6 : decode cX7_dripBy 6 = .ok (.imul, 1) := by decide +kernel
theorem dX7_dripBy_7 : decode cX7_dripBy 7 = .ok (.iaload, 1) := by decide +kernel
theorem dX7_dripBy_8 : decode cX7_dripBy 8 = .ok (.istore 5, 2) := by decide +kernel
theorem dX7_dripBy_10 : decode cX7_dripBy 10 = .ok (.iload 4, 2) := by decide +kernel
theorem dX7_dripBy_12 : decode cX7_dripBy 12 = .ok (.iload 5, 2) := by decide +kernel
theorem dX7_dripBy_14 : decode cX7_dripBy 14 = .ok (.irem, 1) := by decide +kernel
theorem dX7_dripBy_15 : decode cX7_dripBy 15 = .ok (.istore 6, 2) := by decide +kernel
theorem dX7_dripBy_17 : decode cX7_dripBy 17 = .ok (.iload_n 1, 1) := by decide +kernel
theorem dX7_dripBy_18 : decode cX7_dripBy 18 = .ok (.iconst 1, 1) := by decide +kernel
theorem dX7_dripBy_19 : decode cX7_dripBy 19 = .ok (.if_icmp .eq 8, 3) := by decide +kernel
theorem dX7_dripBy_22 : decode cX7_dripBy 22 = .ok (.iload_n 1, 1) := by decide +kernel
theorem dX7_dripBy_23 : decode cX7_dripBy 23 = .ok (.iconst 4, 1) := by decide +kernel
theorem dX7_dripBy_24 : decode cX7_dripBy 24 = .ok (.if_icmp .ne 13, 3) := by decide +kernel
theorem dX7_dripBy_27 : decode cX7_dripBy 27 = .ok (.iload 5, 2) := by decide +kernel
theorem dX7_dripBy_29 : decode cX7_dripBy 29 = .ok (.iconst 1, 1) := by decide +kernel
theorem dX7_dripBy_30 : decode cX7_dripBy 30 = .ok (.isub, 1) := by decide +kernel
theorem dX7_dripBy_31 : decode cX7_dripBy 31 = .ok (.iload 6, 2) := by decide +kernel
theorem dX7_dripBy_33 : decode cX7_dripBy 33 = .ok (.isub, 1) := by decide +kernel
theorem dX7_dripBy_34 : decode cX7_dripBy 34 = .ok (.goto 5, 3) := by decide +kernel
theorem dX7_dripBy_37 : decode cX7_dripBy 37 = .ok (.iload 6, 2) := by decide +kernel
theorem dX7_dripBy_39 : decode cX7_dripBy 39 = .ok (.istore 7, 2) := by decide +kernel
theorem dX7_dripBy_41 : decode cX7_dripBy 41 = .ok (.aload_n 0, 1) := by decide +kernel
theorem dX7_dripBy_42 : decode cX7_dripBy 42 = .ok (.getfield 19, 3) := by decide +kernel
theorem dX7_dripBy_45 : decode cX7_dripBy 45 = .ok (.iconst 5, 1) := by decide +kernel
theorem dX7_dripBy_46 : decode cX7_dripBy 46 = .ok (.iload_n 3, 1) := by decide +kernel
theorem dX7_dripBy_47 : decode cX7_dripBy 47 = .ok (.imul, 1) := by decide +kernel
theorem dX7_dripBy_48 : decode cX7_dripBy 48 = .ok (.iconst 1, 1) := by decide +kernel
theorem dX7_dripBy_49 : decode cX7_dripBy 49 = .ok (.iadd, 1) := by decide +kernel
theorem dX7_dripBy_50 : decode cX7_dripBy 50 = .ok (.iload 7, 2) := by decide +kernel
theorem dX7_dripBy_52 : decode cX7_dripBy 52 = .ok (.iadd, 1) := by decide +kernel
theorem dX7_dripBy_53 : decode cX7_dripBy 53 = .ok (.iaload, 1) := by decide +kernel
theorem dX7_dripBy_54 : decode cX7_dripBy 54 = .ok (.istore 8, 2) := by decide +kernel
theorem dX7_dripBy_56 : decode cX7_dripBy 56 = .ok (.iload_n 1, 1) := by decide +kernel
theorem dX7_dripBy_57 : decode cX7_dripBy 57 = .ok (.iconst 2, 1) := by decide +kernel
theorem dX7_dripBy_58 : decode cX7_dripBy 58 = .ok (.if_icmp .ne 14, 3) := by decide +kernel
theorem dX7_dripBy_61 : decode cX7_dripBy 61 = .ok (.iload 4, 2) := by decide +kernel
theorem dX7_dripBy_63 : decode cX7_dripBy 63 = .ok (.iconst 2, 1) := by decide +kernel
theorem dX7_dripBy_64 : decode cX7_dripBy 64 = .ok (.irem, 1) := by decide +kernel
theorem dX7_dripBy_65 : decode cX7_dripBy 65 = .ok (.iconst 1, 1) := by decide +kernel
theorem dX7_dripBy_66 : decode cX7_dripBy 66 = .ok (.if_icmp .ne 6, 3) := by decide +kernel
theorem dX7_dripBy_69 : decode cX7_dripBy 69 = .ok (.iconst 0, 1) := by decide +kernel
theorem dX7_dripBy_70 : decode cX7_dripBy 70 = .ok (.istore 8, 2) := by decide +kernel
theorem dX7_dripBy_72 : decode cX7_dripBy 72 = .ok (.iload_n 1, 1) := by decide +kernel
theorem dX7_dripBy_73 : decode cX7_dripBy 73 = .ok (.iconst 3, 1) := by decide +kernel
theorem dX7_dripBy_74 : decode cX7_dripBy 74 = .ok (.if_icmp .ne 11, 3) := by decide +kernel
theorem dX7_dripBy_77 : decode cX7_dripBy 77 = .ok (.iload 6, 2) := by decide +kernel
theorem dX7_dripBy_79 : decode cX7_dripBy 79 = .ok (.ifCond .ne 6, 3) := by decide +kernel
theorem dX7_dripBy_82 : decode cX7_dripBy 82 = .ok (.iconst 1, 1) := by decide +kernel
theorem dX7_dripBy_83 : decode cX7_dripBy 83 = .ok (.istore 8, 2) := by decide +kernel
theorem dX7_dripBy_85 : decode cX7_dripBy 85 = .ok (.iload_n 1, 1) := by decide +kernel
theorem dX7_dripBy_86 : decode cX7_dripBy 86 = .ok (.iconst 4, 1) := by decide +kernel
theorem dX7_dripBy_87 : decode cX7_dripBy 87 = .ok (.if_icmp .ne 9, 3) := by decide +kernel
theorem dX7_dripBy_90 : decode cX7_dripBy 90 = .ok (.iconst 1, 1) := by decide +kernel
theorem dX7_dripBy_91 : decode cX7_dripBy 91 = .ok (.iload 8, 2) := by decide +kernel
theorem dX7_dripBy_93 : decode cX7_dripBy 93 = .ok (.isub, 1) := by decide +kernel
theorem dX7_dripBy_94 : decode cX7_dripBy 94 = .ok (.istore 8, 2) := by decide +kernel
theorem dX7_dripBy_96 : decode cX7_dripBy 96 = .ok (.iload_n 2, 1) := by decide +kernel
theorem dX7_dripBy_97 : decode cX7_dripBy 97 = .ok (.iconst 1, 1) := by decide +kernel
theorem dX7_dripBy_98 : decode cX7_dripBy 98 = .ok (.if_icmp .ne 10, 3) := by decide +kernel
theorem dX7_dripBy_101 : decode cX7_dripBy 101 = .ok (.iconst 1, 1) := by decide +kernel
theorem dX7_dripBy_102 : decode cX7_dripBy 102 = .ok (.iload 8, 2) := by decide +kernel
theorem dX7_dripBy_104 : decode cX7_dripBy 104 = .ok (.isub, 1) := by decide +kernel
theorem dX7_dripBy_105 : decode cX7_dripBy 105 = .ok (.goto 5, 3) := by decide +kernel
theorem dX7_dripBy_108 : decode cX7_dripBy 108 = .ok (.iload 8, 2) := by decide +kernel
theorem dX7_dripBy_110 : decode cX7_dripBy 110 = .ok (.ireturn, 1) := by decide +kernel
theorem dX7_dripAs_0 : decode cX7_dripAs 0 = .ok (.aload_n 0, 1) := by decide +kernel
theorem dX7_dripAs_1 : decode cX7_dripAs 1 = .ok (.aload_n 0, 1) := by decide +kernel
theorem dX7_dripAs_2 : decode cX7_dripAs 2 = .ok (.getfield 22, 3) := by decide +kernel
theorem dX7_dripAs_5 : decode cX7_dripAs 5 = .ok (.iconst 4, 1) := by decide +kernel
theorem dX7_dripAs_6 : decode cX7_dripAs 6 = .ok (.iload_n 1, 1) := by decide +kernel
theorem dX7_dripAs_7 : decode cX7_dripAs 7 = .ok (.imul, 1) := by decide +kernel
theorem dX7_dripAs_8 : decode cX7_dripAs 8 = .ok (.iaload, 1) := by decide +kernel
theorem dX7_dripAs_9 : decode cX7_dripAs 9 = .ok (.aload_n 0, 1) := by decide +kernel
theorem dX7_dripAs_10 : decode cX7_dripAs 10 = .ok (.getfield 22, 3) := by decide +kernel
theorem dX7_dripAs_13 : decode cX7_dripAs 13 = .ok (.iconst 4, 1) := by decide +kernel
theorem dX7_dripAs_14 : decode cX7_dripAs 14 = .ok (.iload_n 1, 1) := by decide +kernel
theorem dX7_dripAs_15 : decode cX7_dripAs 15 = .ok (.imul, 1) := by decide +kernel
theorem dX7_dripAs_16 : decode cX7_dripAs 16 = .ok (.iconst 2, 1) := by decide +kernel
theorem dX7_dripAs_17 : decode cX7_dripAs 17 = .ok (.iadd, 1) := by decide +kernel
theorem dX7_dripAs_18 : decode cX7_dripAs 18 = .ok (.iaload, 1) := by decide +kernel
theorem dX7_dripAs_19 : decode cX7_dripAs 19 = .ok (.iload_n 2, 1) := by decide +kernel
theorem dX7_dripAs_20 : decode cX7_dripAs 20 = .ok (.iload_n 3, 1) := by decide +kernel
theorem dX7_dripAs_21 : decode cX7_dripAs 21 = .ok (.invokevirtual 108, 3) := by decide +kernel
theorem dX7_dripAs_24 : decode cX7_dripAs 24 = .ok (.ireturn, 1) := by decide +kernel
theorem dX7_dripOf_0 : decode cX7_dripOf 0 = .ok (.aload_n 0, 1) := by decide +kernel
theorem dX7_dripOf_1 : decode cX7_dripOf 1 = .ok (.iload_n 1, 1) := by decide +kernel
theorem dX7_dripOf_2 : decode cX7_dripOf 2 = .ok (.aload_n 0, 1) := by decide +kernel
theorem dX7_dripOf_3 : decode cX7_dripOf 3 = .ok (.getfield 22, 3) := by decide +kernel
theorem dX7_dripOf_6 : decode cX7_dripOf 6 = .ok (.iconst 4, 1) := by decide +kernel
theorem dX7_dripOf_7 : decode cX7_dripOf 7 = .ok (.iload_n 1, 1) := by decide +kernel
theorem dX7_dripOf_8 : decode cX7_dripOf 8 = .ok (.imul, 1) := by decide +kernel
theorem dX7_dripOf_9 : decode cX7_dripOf 9 = .ok (.iconst 1, 1) := by decide +kernel
theorem dX7_dripOf_10 : decode cX7_dripOf 10 = .ok (.iadd, 1) := by decide +kernel
theorem dX7_dripOf_11 : decode cX7_dripOf 11 = .ok (.iaload, 1) := by decide +kernel
theorem dX7_dripOf_12 : decode cX7_dripOf 12 = .ok (.iload_n 2, 1) := by decide +kernel
theorem dX7_dripOf_13 : decode cX7_dripOf 13 = .ok (.invokevirtual 112, 3) := by decide +kernel
theorem dX7_dripOf_16 : decode cX7_dripOf 16 = .ok (.ireturn, 1) := by decide +kernel
theorem dX7_tap_0 : decode cX7_tap 0 = .ok (.iload_n 1, 1) := by decide +kernel
theorem dX7_tap_1 : decode cX7_tap 1 = .ok (.i2l, 1) := by decide +kernel
theorem dX7_tap_2 : decode cX7_tap 2 = .ok (.lconst 0, 1) := by decide +kernel
theorem dX7_tap_3 : decode cX7_tap 3 = .ok (.ldc2_w 116, 3) := by decide +kernel
theorem dX7_tap_6 : decode cX7_tap 6 = .ok (.invokestatic 40, 3) := by decide +kernel
theorem dX7_tap_9 : decode cX7_tap 9 = .ok (.ifCond .eq 10, 3) := by decide +kernel
theorem dX7_tap_12 : decode cX7_tap 12 = .ok (.iload_n 2, 1) := by decide +kernel
theorem dX7_tap_13 : decode cX7_tap 13 = .ok (.invokestatic 101, 3) := by decide +kernel
theorem dX7_tap_16 : decode cX7_tap 16 = .ok (.ifCond .ne 6, 3) := by decide +kernel
theorem dX7_tap_19 : decode cX7_tap 19 = .ok (.bipush (-102), 2) := by decide +kernel
theorem dX7_tap_21 : decode cX7_tap 21 = .ok (.ireturn, 1) := by decide +kernel
theorem dX7_tap_22 : decode cX7_tap 22 = .ok (.aload_n 0, 1) := by decide +kernel
theorem dX7_tap_23 : decode cX7_tap 23 = .ok (.invokevirtual 97, 3) := by decide +kernel
theorem dX7_tap_26 : decode cX7_tap 26 = .ok (.ifCond .eq 6, 3) := by decide +kernel
theorem dX7_tap_29 : decode cX7_tap 29 = .ok (.bipush (-103), 2) := by decide +kernel
theorem dX7_tap_31 : decode cX7_tap 31 = .ok (.ireturn, 1) := by decide +kernel
theorem dX7_tap_32 : decode cX7_tap 32 = .ok (.aload_n 0, 1) := by decide +kernel
theorem dX7_tap_33 : decode cX7_tap 33 = .ok (.getfield 75, 3) := by decide +kernel
theorem dX7_tap_36 : decode cX7_tap 36 = .ok (.iconst 5, 1) := by decide +kernel
theorem dX7_tap_37 : decode cX7_tap 37 = .ok (.if_icmp .ne 6, 3) := by decide +kernel
theorem dX7_tap_40 : decode cX7_tap 40 = .ok (.bipush (-104), 2) := by decide +kernel
theorem dX7_tap_42 : decode cX7_tap 42 = .ok (.ireturn, 1) := by decide +kernel
theorem dX7_tap_43 : decode cX7_tap 43 = .ok (.aload_n 0, 1) := by decide +kernel
theorem dX7_tap_44 : decode cX7_tap 44 = .ok (.getfield 22, 3) := by decide +kernel
theorem dX7_tap_47 : decode cX7_tap 47 = .ok (.iconst 4, 1) := by decide +kernel
theorem dX7_tap_48 : decode cX7_tap 48 = .ok (.aload_n 0, 1) := by decide +kernel
theorem dX7_tap_49 : decode cX7_tap 49 = .ok (.getfield 75, 3) := by decide +kernel
theorem dX7_tap_52 : decode cX7_tap 52 = .ok (.imul, 1) := by decide +kernel
theorem dX7_tap_53 : decode cX7_tap 53 = .ok (.iload_n 1, 1) := by decide +kernel
theorem dX7_tap_54 : decode cX7_tap 54 = .ok (.iastore, 1) := by decide +kernel
theorem dX7_tap_55 : decode cX7_tap 55 = .ok (.aload_n 0, 1) := by decide +kernel
theorem dX7_tap_56 : decode cX7_tap 56 = .ok (.getfield 22, 3) := by decide +kernel
theorem dX7_tap_59 : decode cX7_tap 59 = .ok (.iconst 4, 1) := by decide +kernel
theorem dX7_tap_60 : decode cX7_tap 60 = .ok (.aload_n 0, 1) := by decide +kernel
theorem dX7_tap_61 : decode cX7_tap 61 = .ok (.getfield 75, 3) := by decide +kernel
theorem dX7_tap_64 : decode cX7_tap 64 = .ok (.imul, 1) := by decide +kernel
theorem dX7_tap_65 : decode cX7_tap 65 = .ok (.iconst 1, 1) := by decide +kernel
theorem dX7_tap_66 : decode cX7_tap 66 = .ok (.iadd, 1) := by decide +kernel
theorem dX7_tap_67 : decode cX7_tap 67 = .ok (.iload_n 2, 1) := by decide +kernel
theorem dX7_tap_68 : decode cX7_tap 68 = .ok (.iastore, 1) := by decide +kernel
theorem dX7_tap_69 : decode cX7_tap 69 = .ok (.aload_n 0, 1) := by decide +kernel
theorem dX7_tap_70 : decode cX7_tap 70 = .ok (.getfield 22, 3) := by decide +kernel
theorem dX7_tap_73 : decode cX7_tap 73 = .ok (.iconst 4, 1) := by decide +kernel
theorem dX7_tap_74 : decode cX7_tap 74 = .ok (.aload_n 0, 1) := by decide +kernel
theorem dX7_tap_75 : decode cX7_tap 75 = .ok (.getfield 75, 3) := by decide +kernel
theorem dX7_tap_78 : decode cX7_tap 78 = .ok (.imul, 1) := by decide +kernel
theorem dX7_tap_79 : decode cX7_tap 79 = .ok (.iconst 2, 1) := by decide +kernel
theorem dX7_tap_80 : decode cX7_tap 80 = .ok (.iadd, 1) := by decide +kernel
theorem dX7_tap_81 : decode cX7_tap 81 = .ok (.iconst 0, 1) := by decide +kernel
theorem dX7_tap_82 : decode cX7_tap 82 = .ok (.iastore, 1) := by decide +kernel
theorem dX7_tap_83 : decode cX7_tap 83 = .ok (.aload_n 0, 1) := by decide +kernel
theorem dX7_tap_84 : decode cX7_tap 84 = .ok (.getfield 22, 3) := by decide +kernel
theorem dX7_tap_87 : decode cX7_tap 87 = .ok (.iconst 4, 1) := by decide +kernel
theorem dX7_tap_88 : decode cX7_tap 88 = .ok (.aload_n 0, 1) := by decide +kernel
theorem dX7_tap_89 : decode cX7_tap 89 = .ok (.getfield 75, 3) := by decide +kernel
theorem dX7_tap_92 : decode cX7_tap 92 = .ok (.imul, 1) := by decide +kernel
theorem dX7_tap_93 : decode cX7_tap 93 = .ok (.iconst 3, 1) := by decide +kernel
theorem dX7_tap_94 : decode cX7_tap 94 = .ok (.iadd, 1) := by decide +kernel
theorem dX7_tap_95 : decode cX7_tap 95 = .ok (.iconst 0, 1) := by decide +kernel
theorem dX7_tap_96 : decode cX7_tap 96 = .ok (.iastore, 1) := by decide +kernel
theorem dX7_tap_97 : decode cX7_tap 97 = .ok (.aload_n 0, 1) := by decide +kernel
theorem dX7_tap_98 : decode cX7_tap 98 = .ok (.dup, 1) := by decide +kernel
theorem dX7_tap_99 : decode cX7_tap 99 = .ok (.getfield 75, 3) := by decide +kernel
theorem dX7_tap_102 : decode cX7_tap 102 = .ok (.iconst 1, 1) := by decide +kernel
theorem dX7_tap_103 : decode cX7_tap 103 = .ok (.iadd, 1) := by decide +kernel
theorem dX7_tap_104 : decode cX7_tap 104 = .ok (.putfield 75, 3) := by decide +kernel
theorem dX7_tap_107 : decode cX7_tap 107 = .ok (.aload_n 0, 1) := by decide +kernel
theorem dX7_tap_108 : decode cX7_tap 108 = .ok (.getfield 75, 3) := by decide +kernel
theorem dX7_tap_111 : decode cX7_tap 111 = .ok (.iconst 1, 1) := by decide +kernel
theorem dX7_tap_112 : decode cX7_tap 112 = .ok (.isub, 1) := by decide +kernel
theorem dX7_tap_113 : decode cX7_tap 113 = .ok (.ireturn, 1) := by decide +kernel
theorem dX7_patternOf_0 : decode cX7_patternOf 0 = .ok (.iconst 0, 1) := by decide +kernel
theorem dX7_patternOf_1 : decode cX7_patternOf 1 = .ok (.istore 4, 2) := by decide +kernel
theorem dX7_patternOf_3 : decode cX7_patternOf 3 = .ok (.iconst 0, 1) := by decide +kernel
theorem dX7_patternOf_4 : decode cX7_patternOf 4 = .ok (.istore 5, 2) := by decide +kernel
theorem dX7_patternOf_6 : decode cX7_patternOf 6 = .ok (.iload 5, 2) := by decide +kernel
theorem dX7_patternOf_8 : decode cX7_patternOf 8 = .ok (.iload_n 3, 1) := by decide +kernel
theorem dX7_patternOf_9 : decode cX7_patternOf 9 = .ok (.if_icmp .ge 36, 3) := by decide +kernel
theorem dX7_patternOf_12 : decode cX7_patternOf 12 = .ok (.iload 4, 2) := by decide +kernel
theorem dX7_patternOf_14 : decode cX7_patternOf 14 = .ok (.aload_n 0, 1) := by decide +kernel
theorem dX7_patternOf_15 : decode cX7_patternOf 15 = .ok (.iload_n 1, 1) := by decide +kernel
theorem dX7_patternOf_16 : decode cX7_patternOf 16 = .ok (.iload_n 2, 1) := by decide +kernel
theorem dX7_patternOf_17 : decode cX7_patternOf 17 = .ok (.aload_n 0, 1) := by decide +kernel
theorem dX7_patternOf_18 : decode cX7_patternOf 18 = .ok (.getfield 22, 3) := by decide +kernel
theorem dX7_patternOf_21 : decode cX7_patternOf 21 = .ok (.iconst 4, 1) := by decide +kernel
theorem dX7_patternOf_22 : decode cX7_patternOf 22 = .ok (.iload_n 1, 1) := by decide +kernel
theorem dX7_patternOf_23 : decode cX7_patternOf 23 = .ok (.imul, 1) := by decide +kernel
theorem dX7_patternOf_24 : decode cX7_patternOf 24 = .ok (.iconst 3, 1) := by decide +kernel
theorem dX7_patternOf_25 : decode cX7_patternOf 25 = .ok (.iadd, 1) := by decide +kernel
theorem dX7_patternOf_26 : decode cX7_patternOf 26 = .ok (.iaload, 1) := by decide +kernel
theorem dX7_patternOf_27 : decode cX7_patternOf 27 = .ok (.iload 5, 2) := by decide +kernel
theorem dX7_patternOf_29 : decode cX7_patternOf 29 = .ok (.iadd, 1) := by decide +kernel
theorem dX7_patternOf_30 : decode cX7_patternOf 30 = .ok (.invokevirtual 112, 3) := by decide +kernel
theorem dX7_patternOf_33 : decode cX7_patternOf 33 = .ok (.iload 5, 2) := by decide +kernel
theorem dX7_patternOf_35 : decode cX7_patternOf 35 = .ok (.ishl, 1) := by decide +kernel
theorem dX7_patternOf_36 : decode cX7_patternOf 36 = .ok (.ior, 1) := by decide +kernel
theorem dX7_patternOf_37 : decode cX7_patternOf 37 = .ok (.istore 4, 2) := by decide +kernel
theorem dX7_patternOf_39 : decode cX7_patternOf 39 = .ok (.iinc 5 1, 3) := by decide +kernel
theorem dX7_patternOf_42 : decode cX7_patternOf 42 = .ok (.goto (-36), 3) := by decide +kernel
theorem dX7_patternOf_45 : decode cX7_patternOf 45 = .ok (.iload 4, 2) := by decide +kernel
theorem dX7_patternOf_47 : decode cX7_patternOf 47 = .ok (.ireturn, 1) := by decide +kernel
theorem dX7_sureOf_0 : decode cX7_sureOf 0 = .ok (.iconst 1, 1) := by decide +kernel
theorem dX7_sureOf_1 : decode cX7_sureOf 1 = .ok (.istore_n 2, 1) := by decide +kernel
theorem dX7_sureOf_2 : decode cX7_sureOf 2 = .ok (.iload_n 2, 1) := by decide +kernel
theorem dX7_sureOf_3 : decode cX7_sureOf 3 = .ok (.bipush 17, 2) := by decide +kernel
theorem dX7_sureOf_5 : decode cX7_sureOf 5 = .ok (.if_icmp .ge 77, 3) := by decide +kernel
theorem dX7_sureOf_8 : decode cX7_sureOf 8 = .ok (.iconst 1, 1) := by decide +kernel
theorem dX7_sureOf_9 : decode cX7_sureOf 9 = .ok (.istore_n 3, 1) := by decide +kernel
theorem dX7_sureOf_10 : decode cX7_sureOf 10 = .ok (.iconst 0, 1) := by decide +kernel
theorem dX7_sureOf_11 : decode cX7_sureOf 11 = .ok (.istore 4, 2) := by decide +kernel
theorem dX7_sureOf_13 : decode cX7_sureOf 13 = .ok (.iload 4, 2) := by decide +kernel
theorem dX7_sureOf_15 : decode cX7_sureOf 15 = .ok (.iconst 4, 1) := by decide +kernel
theorem dX7_sureOf_16 : decode cX7_sureOf 16 = .ok (.if_icmp .ge 54, 3) := by decide +kernel
theorem dX7_sureOf_19 : decode cX7_sureOf 19 = .ok (.iconst 0, 1) := by decide +kernel
theorem dX7_sureOf_20 : decode cX7_sureOf 20 = .ok (.istore 5, 2) := by decide +kernel
theorem dX7_sureOf_22 : decode cX7_sureOf 22 = .ok (.iload 5, 2) := by decide +kernel
theorem dX7_sureOf_24 : decode cX7_sureOf 24 = .ok (.iload 4, 2) := by decide +kernel
theorem dX7_sureOf_26 : decode cX7_sureOf 26 = .ok (.if_icmp .ge 38, 3) := by decide +kernel
theorem dX7_sureOf_29 : decode cX7_sureOf 29 = .ok (.iload_n 3, 1) := by decide +kernel
theorem dX7_sureOf_30 : decode cX7_sureOf 30 = .ok (.ifCond .eq 26, 3) := by decide +kernel
theorem dX7_sureOf_33 : decode cX7_sureOf 33 = .ok (.aload_n 0, 1) := by decide +kernel
theorem dX7_sureOf_34 : decode cX7_sureOf 34 = .ok (.iload_n 1, 1) := by decide +kernel
theorem dX7_sureOf_35 : decode cX7_sureOf 35 = .ok (.iload 4, 2) := by decide +kernel
theorem dX7_sureOf_37 : decode cX7_sureOf 37 = .ok (.iload_n 2, 1) := by decide +kernel
theorem dX7_sureOf_38 : decode cX7_sureOf 38 = .ok (.invokevirtual 118, 3) := by decide +kernel
theorem dX7_sureOf_41 : decode cX7_sureOf 41 = .ok (.aload_n 0, 1) := by decide +kernel
theorem dX7_sureOf_42 : decode cX7_sureOf 42 = .ok (.iload_n 1, 1) := by decide +kernel
theorem dX7_sureOf_43 : decode cX7_sureOf 43 = .ok (.iload 5, 2) := by decide +kernel
theorem dX7_sureOf_45 : decode cX7_sureOf 45 = .ok (.iload_n 2, 1) := by decide +kernel
theorem dX7_sureOf_46 : decode cX7_sureOf 46 = .ok (.invokevirtual 118, 3) := by decide +kernel
theorem dX7_sureOf_49 : decode cX7_sureOf 49 = .ok (.if_icmp .eq 7, 3) := by decide +kernel
theorem dX7_sureOf_52 : decode cX7_sureOf 52 = .ok (.iconst 1, 1) := by decide +kernel
theorem dX7_sureOf_53 : decode cX7_sureOf 53 = .ok (.goto 4, 3) := by decide +kernel
theorem dX7_sureOf_56 : decode cX7_sureOf 56 = .ok (.iconst 0, 1) := by decide +kernel
theorem dX7_sureOf_57 : decode cX7_sureOf 57 = .ok (.istore_n 3, 1) := by decide +kernel
theorem dX7_sureOf_58 : decode cX7_sureOf 58 = .ok (.iinc 5 1, 3) := by decide +kernel
theorem dX7_sureOf_61 : decode cX7_sureOf 61 = .ok (.goto (-39), 3) := by decide +kernel
theorem dX7_sureOf_64 : decode cX7_sureOf 64 = .ok (.iinc 4 1, 3) := by decide +kernel
theorem dX7_sureOf_67 : decode cX7_sureOf 67 = .ok (.goto (-54), 3) := by decide +kernel
theorem dX7_sureOf_70 : decode cX7_sureOf 70 = .ok (.iload_n 3, 1) := by decide +kernel
theorem dX7_sureOf_71 : decode cX7_sureOf 71 = .ok (.ifCond .eq 5, 3) := by decide +kernel
theorem dX7_sureOf_74 : decode cX7_sureOf 74 = .ok (.iload_n 2, 1) := by decide +kernel
theorem dX7_sureOf_75 : decode cX7_sureOf 75 = .ok (.ireturn, 1) := by decide +kernel
theorem dX7_sureOf_76 : decode cX7_sureOf 76 = .ok (.iinc 2 1, 3) := by decide +kernel
theorem dX7_sureOf_79 : decode cX7_sureOf 79 = .ok (.goto (-77), 3) := by decide +kernel
theorem dX7_sureOf_82 : decode cX7_sureOf 82 = .ok (.iconst (-1), 1) := by decide +kernel
theorem dX7_sureOf_83 : decode cX7_sureOf 83 = .ok (.ireturn, 1) := by decide +kernel
theorem dX7_tell_0 : decode cX7_tell 0 = .ok (.iload_n 2, 1) := by decide +kernel
theorem dX7_tell_1 : decode cX7_tell 1 = .ok (.tableswitch 97 0 8 #[51, 51, 51, 51, 62, 68, 74, 80, 91], 51) := by decide +kernel
theorem dX7_tell_52 : decode cX7_tell 52 = .ok (.aload_n 0, 1) := by decide +kernel
theorem dX7_tell_53 : decode cX7_tell 53 = .ok (.getfield 22, 3) := by decide +kernel
theorem dX7_tell_56 : decode cX7_tell 56 = .ok (.iconst 4, 1) := by decide +kernel
theorem dX7_tell_57 : decode cX7_tell 57 = .ok (.iload_n 1, 1) := by decide +kernel
theorem dX7_tell_58 : decode cX7_tell 58 = .ok (.imul, 1) := by decide +kernel
theorem dX7_tell_59 : decode cX7_tell 59 = .ok (.iload_n 2, 1) := by decide +kernel
theorem dX7_tell_60 : decode cX7_tell 60 = .ok (.iadd, 1) := by decide +kernel
theorem dX7_tell_61 : decode cX7_tell 61 = .ok (.iaload, 1) := by decide +kernel
theorem dX7_tell_62 : decode cX7_tell 62 = .ok (.ireturn, 1) := by decide +kernel
theorem dX7_tell_63 : decode cX7_tell 63 = .ok (.aload_n 0, 1) := by decide +kernel
theorem dX7_tell_64 : decode cX7_tell 64 = .ok (.iload_n 1, 1) := by decide +kernel
theorem dX7_tell_65 : decode cX7_tell 65 = .ok (.invokevirtual 121, 3) := by decide +kernel
theorem dX7_tell_68 : decode cX7_tell 68 = .ok (.ireturn, 1) := by decide +kernel
theorem dX7_tell_69 : decode cX7_tell 69 = .ok (.aload_n 0, 1) := by decide +kernel
theorem dX7_tell_70 : decode cX7_tell 70 = .ok (.iload_n 1, 1) := by decide +kernel
theorem dX7_tell_71 : decode cX7_tell 71 = .ok (.invokevirtual 124, 3) := by decide +kernel
theorem dX7_tell_74 : decode cX7_tell 74 = .ok (.ireturn, 1) := by decide +kernel
theorem dX7_tell_75 : decode cX7_tell 75 = .ok (.aload_n 0, 1) := by decide +kernel
theorem dX7_tell_76 : decode cX7_tell 76 = .ok (.iload_n 1, 1) := by decide +kernel
theorem dX7_tell_77 : decode cX7_tell 77 = .ok (.invokevirtual 127, 3) := by decide +kernel
theorem dX7_tell_80 : decode cX7_tell 80 = .ok (.ireturn, 1) := by decide +kernel
theorem dX7_tell_81 : decode cX7_tell 81 = .ok (.aload_n 0, 1) := by decide +kernel
theorem dX7_tell_82 : decode cX7_tell 82 = .ok (.iload_n 1, 1) := by decide +kernel
theorem dX7_tell_83 : decode cX7_tell 83 = .ok (.aload_n 0, 1) := by decide +kernel
theorem dX7_tell_84 : decode cX7_tell 84 = .ok (.iload_n 1, 1) := by decide +kernel
theorem dX7_tell_85 : decode cX7_tell 85 = .ok (.invokevirtual 127, 3) := by decide +kernel
theorem dX7_tell_88 : decode cX7_tell 88 = .ok (.invokevirtual 130, 3) := by decide +kernel
theorem dX7_tell_91 : decode cX7_tell 91 = .ok (.ireturn, 1) := by decide +kernel
theorem dX7_tell_92 : decode cX7_tell 92 = .ok (.aload_n 0, 1) := by decide +kernel
theorem dX7_tell_93 : decode cX7_tell 93 = .ok (.iload_n 1, 1) := by decide +kernel
theorem dX7_tell_94 : decode cX7_tell 94 = .ok (.invokevirtual 133, 3) := by decide +kernel
theorem dX7_tell_97 : decode cX7_tell 97 = .ok (.ireturn, 1) := by decide +kernel
theorem dX7_tell_98 : decode cX7_tell 98 = .ok (.bipush (-102), 2) := by decide +kernel
theorem dX7_tell_100 : decode cX7_tell 100 = .ok (.ireturn, 1) := by decide +kernel
theorem dX7_about_0 : decode cX7_about 0 = .ok (.aload_n 0, 1) := by decide +kernel
theorem dX7_about_1 : decode cX7_about 1 = .ok (.iload_n 1, 1) := by decide +kernel
theorem dX7_about_2 : decode cX7_about 2 = .ok (.invokevirtual 136, 3) := by decide +kernel
theorem dX7_about_5 : decode cX7_about 5 = .ok (.ifCond .eq 12, 3) := by decide +kernel
theorem dX7_about_8 : decode cX7_about 8 = .ok (.aload_n 0, 1) := by decide +kernel
theorem dX7_about_9 : decode cX7_about 9 = .ok (.iload_n 1, 1) := by decide +kernel
theorem dX7_about_10 : decode cX7_about 10 = .ok (.iload_n 2, 1) := by decide +kernel
theorem dX7_about_11 : decode cX7_about 11 = .ok (.invokevirtual 139, 3) := by decide +kernel
theorem dX7_about_14 : decode cX7_about 14 = .ok (.goto 5, 3) := by decide +kernel
theorem dX7_about_17 : decode cX7_about 17 = .ok (.bipush (-101), 2) := by decide +kernel
theorem dX7_about_19 : decode cX7_about 19 = .ok (.ireturn, 1) := by decide +kernel
theorem dX7_as_0 : decode cX7_as 0 = .ok (.aload_n 0, 1) := by decide +kernel
theorem dX7_as_1 : decode cX7_as 1 = .ok (.iload_n 1, 1) := by decide +kernel
theorem dX7_as_2 : decode cX7_as 2 = .ok (.invokevirtual 136, 3) := by decide +kernel
theorem dX7_as_5 : decode cX7_as 5 = .ok (.ifCond .ne 6, 3) := by decide +kernel
theorem dX7_as_8 : decode cX7_as 8 = .ok (.bipush (-101), 2) := by decide +kernel
theorem dX7_as_10 : decode cX7_as 10 = .ok (.ireturn, 1) := by decide +kernel
theorem dX7_as_11 : decode cX7_as 11 = .ok (.iload_n 2, 1) := by decide +kernel
theorem dX7_as_12 : decode cX7_as 12 = .ok (.i2l, 1) := by decide +kernel
theorem dX7_as_13 : decode cX7_as 13 = .ok (.lconst 0, 1) := by decide +kernel
theorem dX7_as_14 : decode cX7_as 14 = .ok (.ldc2_w 116, 3) := by decide +kernel
theorem dX7_as_17 : decode cX7_as 17 = .ok (.invokestatic 40, 3) := by decide +kernel
theorem dX7_as_20 : decode cX7_as 20 = .ok (.ifCond .ne 6, 3) := by decide +kernel
theorem dX7_as_23 : decode cX7_as 23 = .ok (.bipush (-102), 2) := by decide +kernel
theorem dX7_as_25 : decode cX7_as 25 = .ok (.ireturn, 1) := by decide +kernel
theorem dX7_as_26 : decode cX7_as 26 = .ok (.aload_n 0, 1) := by decide +kernel
theorem dX7_as_27 : decode cX7_as 27 = .ok (.getfield 22, 3) := by decide +kernel
theorem dX7_as_30 : decode cX7_as 30 = .ok (.iconst 4, 1) := by decide +kernel
theorem dX7_as_31 : decode cX7_as 31 = .ok (.iload_n 1, 1) := by decide +kernel
theorem dX7_as_32 : decode cX7_as 32 = .ok (.imul, 1) := by decide +kernel
theorem dX7_as_33 : decode cX7_as 33 = .ok (.iaload, 1) := by decide +kernel
theorem dX7_as_34 : decode cX7_as 34 = .ok (.istore_n 3, 1) := by decide +kernel
theorem dX7_as_35 : decode cX7_as 35 = .ok (.iload_n 2, 1) := by decide +kernel
theorem dX7_as_36 : decode cX7_as 36 = .ok (.ifCond .eq 18, 3) := by decide +kernel
theorem dX7_as_39 : decode cX7_as 39 = .ok (.iload_n 2, 1) := by decide +kernel
theorem dX7_as_40 : decode cX7_as 40 = .ok (.iload_n 3, 1) := by decide +kernel
theorem dX7_as_41 : decode cX7_as 41 = .ok (.if_icmp .eq 13, 3) := by decide +kernel
theorem dX7_as_44 : decode cX7_as 44 = .ok (.iload_n 2, 1) := by decide +kernel
theorem dX7_as_45 : decode cX7_as 45 = .ok (.iconst 1, 1) := by decide +kernel
theorem dX7_as_46 : decode cX7_as 46 = .ok (.if_icmp .ne 12, 3) := by decide +kernel
theorem dX7_as_49 : decode cX7_as 49 = .ok (.iload_n 3, 1) := by decide +kernel
theorem dX7_as_50 : decode cX7_as 50 = .ok (.iconst 4, 1) := by decide +kernel
theorem dX7_as_51 : decode cX7_as 51 = .ok (.if_icmp .ne 7, 3) := by decide +kernel
theorem dX7_as_54 : decode cX7_as 54 = .ok (.iconst 1, 1) := by decide +kernel
theorem dX7_as_55 : decode cX7_as 55 = .ok (.goto 4, 3) := by decide +kernel
theorem dX7_as_58 : decode cX7_as 58 = .ok (.iconst 0, 1) := by decide +kernel
theorem dX7_as_59 : decode cX7_as 59 = .ok (.istore 4, 2) := by decide +kernel
theorem dX7_as_61 : decode cX7_as 61 = .ok (.iload 4, 2) := by decide +kernel
theorem dX7_as_63 : decode cX7_as 63 = .ok (.ifCond .eq 7, 3) := by decide +kernel
theorem dX7_as_66 : decode cX7_as 66 = .ok (.iload_n 1, 1) := by decide +kernel
theorem dX7_as_67 : decode cX7_as 67 = .ok (.goto 4, 3) := by decide +kernel
theorem dX7_as_70 : decode cX7_as 70 = .ok (.iconst (-1), 1) := by decide +kernel
theorem dX7_as_71 : decode cX7_as 71 = .ok (.ireturn, 1) := by decide +kernel
theorem dX7_drip_0 : decode cX7_drip 0 = .ok (.aload_n 0, 1) := by decide +kernel
theorem dX7_drip_1 : decode cX7_drip 1 = .ok (.iload_n 1, 1) := by decide +kernel
theorem dX7_drip_2 : decode cX7_drip 2 = .ok (.invokevirtual 136, 3) := by decide +kernel
theorem dX7_drip_5 : decode cX7_drip 5 = .ok (.ifCond .ne 6, 3) := by decide +kernel
theorem dX7_drip_8 : decode cX7_drip 8 = .ok (.bipush (-101), 2) := by decide +kernel
theorem dX7_drip_10 : decode cX7_drip 10 = .ok (.ireturn, 1) := by decide +kernel
theorem dX7_drip_11 : decode cX7_drip 11 = .ok (.iload_n 2, 1) := by decide +kernel
theorem dX7_drip_12 : decode cX7_drip 12 = .ok (.i2l, 1) := by decide +kernel
theorem dX7_drip_13 : decode cX7_drip 13 = .ok (.lconst 0, 1) := by decide +kernel
theorem dX7_drip_14 : decode cX7_drip 14 = .ok (.ldc2_w 142, 3) := by decide +kernel
theorem dX7_drip_17 : decode cX7_drip 17 = .ok (.invokestatic 40, 3) := by decide +kernel
theorem dX7_drip_20 : decode cX7_drip 20 = .ok (.ifCond .eq 12, 3) := by decide +kernel
theorem dX7_drip_23 : decode cX7_drip 23 = .ok (.aload_n 0, 1) := by decide +kernel
theorem dX7_drip_24 : decode cX7_drip 24 = .ok (.iload_n 1, 1) := by decide +kernel
theorem dX7_drip_25 : decode cX7_drip 25 = .ok (.iload_n 2, 1) := by decide +kernel
theorem dX7_drip_26 : decode cX7_drip 26 = .ok (.invokevirtual 144, 3) := by decide +kernel
theorem dX7_drip_29 : decode cX7_drip 29 = .ok (.goto 5, 3) := by decide +kernel
theorem dX7_drip_32 : decode cX7_drip 32 = .ok (.bipush (-102), 2) := by decide +kernel
theorem dX7_drip_34 : decode cX7_drip 34 = .ok (.ireturn, 1) := by decide +kernel
theorem dX7_listen_0 : decode cX7_listen 0 = .ok (.aload_n 0, 1) := by decide +kernel
theorem dX7_listen_1 : decode cX7_listen 1 = .ok (.iload_n 1, 1) := by decide +kernel
theorem dX7_listen_2 : decode cX7_listen 2 = .ok (.invokevirtual 136, 3) := by decide +kernel
theorem dX7_listen_5 : decode cX7_listen 5 = .ok (.ifCond .ne 6, 3) := by decide +kernel
theorem dX7_listen_8 : decode cX7_listen 8 = .ok (.bipush (-101), 2) := by decide +kernel
theorem dX7_listen_10 : decode cX7_listen 10 = .ok (.ireturn, 1) := by decide +kernel
theorem dX7_listen_11 : decode cX7_listen 11 = .ok (.aload_n 0, 1) := by decide +kernel
theorem dX7_listen_12 : decode cX7_listen 12 = .ok (.getfield 22, 3) := by decide +kernel
theorem dX7_listen_15 : decode cX7_listen 15 = .ok (.iconst 4, 1) := by decide +kernel
theorem dX7_listen_16 : decode cX7_listen 16 = .ok (.iload_n 1, 1) := by decide +kernel
theorem dX7_listen_17 : decode cX7_listen 17 = .ok (.imul, 1) := by decide +kernel
theorem dX7_listen_18 : decode cX7_listen 18 = .ok (.iconst 3, 1) := by decide +kernel
theorem dX7_listen_19 : decode cX7_listen 19 = .ok (.iadd, 1) := by decide +kernel
theorem dX7_listen_20 : decode cX7_listen 20 = .ok (.iaload, 1) := by decide +kernel
theorem dX7_listen_21 : decode cX7_listen 21 = .ok (.bipush 60, 2) := by decide +kernel
theorem dX7_listen_23 : decode cX7_listen 23 = .ok (.if_icmp .ne 6, 3) := by decide +kernel
theorem dX7_listen_26 : decode cX7_listen 26 = .ok (.bipush (-103), 2) := by decide +kernel
theorem dX7_listen_28 : decode cX7_listen 28 = .ok (.ireturn, 1) := by decide +kernel
theorem dX7_listen_29 : decode cX7_listen 29 = .ok (.aload_n 0, 1) := by decide +kernel
theorem dX7_listen_30 : decode cX7_listen 30 = .ok (.iload_n 1, 1) := by decide +kernel
theorem dX7_listen_31 : decode cX7_listen 31 = .ok (.aload_n 0, 1) := by decide +kernel
theorem dX7_listen_32 : decode cX7_listen 32 = .ok (.getfield 22, 3) := by decide +kernel
theorem dX7_listen_35 : decode cX7_listen 35 = .ok (.iconst 4, 1) := by decide +kernel
theorem dX7_listen_36 : decode cX7_listen 36 = .ok (.iload_n 1, 1) := by decide +kernel
theorem dX7_listen_37 : decode cX7_listen 37 = .ok (.imul, 1) := by decide +kernel
theorem dX7_listen_38 : decode cX7_listen 38 = .ok (.iconst 3, 1) := by decide +kernel
theorem dX7_listen_39 : decode cX7_listen 39 = .ok (.iadd, 1) := by decide +kernel
theorem dX7_listen_40 : decode cX7_listen 40 = .ok (.iaload, 1) := by decide +kernel
theorem dX7_listen_41 : decode cX7_listen 41 = .ok (.invokevirtual 144, 3) := by decide +kernel
theorem dX7_listen_44 : decode cX7_listen 44 = .ok (.istore_n 2, 1) := by decide +kernel
theorem dX7_listen_45 : decode cX7_listen 45 = .ok (.aload_n 0, 1) := by decide +kernel
theorem dX7_listen_46 : decode cX7_listen 46 = .ok (.getfield 22, 3) := by decide +kernel
theorem dX7_listen_49 : decode cX7_listen 49 = .ok (.iconst 4, 1) := by decide +kernel
theorem dX7_listen_50 : decode cX7_listen 50 = .ok (.iload_n 1, 1) := by decide +kernel
theorem dX7_listen_51 : decode cX7_listen 51 = .ok (.imul, 1) := by decide +kernel
theorem dX7_listen_52 : decode cX7_listen 52 = .ok (.iconst 3, 1) := by decide +kernel
theorem dX7_listen_53 : decode cX7_listen 53 = .ok (.iadd, 1) := by decide +kernel
theorem dX7_listen_54 : decode cX7_listen 54 = .ok (.dup2, 1) := by decide +kernel
theorem dX7_listen_55 : decode cX7_listen 55 = .ok (.iaload, 1) := by decide +kernel
theorem dX7_listen_56 : decode cX7_listen 56 = .ok (.iconst 1, 1) := by decide +kernel
theorem dX7_listen_57 : decode cX7_listen 57 = .ok (.iadd, 1) := by decide +kernel
theorem dX7_listen_58 : decode cX7_listen 58 = .ok (.iastore, 1) := by decide +kernel
theorem dX7_listen_59 : decode cX7_listen 59 = .ok (.aload_n 0, 1) := by decide +kernel
theorem dX7_listen_60 : decode cX7_listen 60 = .ok (.dup, 1) := by decide +kernel
theorem dX7_listen_61 : decode cX7_listen 61 = .ok (.getfield 82, 3) := by decide +kernel
theorem dX7_listen_64 : decode cX7_listen 64 = .ok (.iconst 1, 1) := by decide +kernel
theorem dX7_listen_65 : decode cX7_listen 65 = .ok (.iadd, 1) := by decide +kernel
theorem dX7_listen_66 : decode cX7_listen 66 = .ok (.putfield 82, 3) := by decide +kernel
theorem dX7_listen_69 : decode cX7_listen 69 = .ok (.iload_n 2, 1) := by decide +kernel
theorem dX7_listen_70 : decode cX7_listen 70 = .ok (.ireturn, 1) := by decide +kernel
theorem dX7_washer_0 : decode cX7_washer 0 = .ok (.aload_n 0, 1) := by decide +kernel
theorem dX7_washer_1 : decode cX7_washer 1 = .ok (.iload_n 1, 1) := by decide +kernel
theorem dX7_washer_2 : decode cX7_washer 2 = .ok (.invokevirtual 136, 3) := by decide +kernel
theorem dX7_washer_5 : decode cX7_washer 5 = .ok (.ifCond .ne 6, 3) := by decide +kernel
theorem dX7_washer_8 : decode cX7_washer 8 = .ok (.bipush (-101), 2) := by decide +kernel
theorem dX7_washer_10 : decode cX7_washer 10 = .ok (.ireturn, 1) := by decide +kernel
theorem dX7_washer_11 : decode cX7_washer 11 = .ok (.aload_n 0, 1) := by decide +kernel
theorem dX7_washer_12 : decode cX7_washer 12 = .ok (.getfield 22, 3) := by decide +kernel
theorem dX7_washer_15 : decode cX7_washer 15 = .ok (.iconst 4, 1) := by decide +kernel
theorem dX7_washer_16 : decode cX7_washer 16 = .ok (.iload_n 1, 1) := by decide +kernel
theorem dX7_washer_17 : decode cX7_washer 17 = .ok (.imul, 1) := by decide +kernel
theorem dX7_washer_18 : decode cX7_washer 18 = .ok (.iconst 2, 1) := by decide +kernel
theorem dX7_washer_19 : decode cX7_washer 19 = .ok (.iadd, 1) := by decide +kernel
theorem dX7_washer_20 : decode cX7_washer 20 = .ok (.iaload, 1) := by decide +kernel
theorem dX7_washer_21 : decode cX7_washer 21 = .ok (.istore_n 3, 1) := by decide +kernel
theorem dX7_washer_22 : decode cX7_washer 22 = .ok (.aload_n 0, 1) := by decide +kernel
theorem dX7_washer_23 : decode cX7_washer 23 = .ok (.getfield 22, 3) := by decide +kernel
theorem dX7_washer_26 : decode cX7_washer 26 = .ok (.iconst 4, 1) := by decide +kernel
theorem dX7_washer_27 : decode cX7_washer 27 = .ok (.iload_n 1, 1) := by decide +kernel
theorem dX7_washer_28 : decode cX7_washer 28 = .ok (.imul, 1) := by decide +kernel
theorem dX7_washer_29 : decode cX7_washer 29 = .ok (.iconst 2, 1) := by decide +kernel
theorem dX7_washer_30 : decode cX7_washer 30 = .ok (.iadd, 1) := by decide +kernel
theorem dX7_washer_31 : decode cX7_washer 31 = .ok (.iload_n 2, 1) := by decide +kernel
theorem dX7_washer_32 : decode cX7_washer 32 = .ok (.ifCond .eq 7, 3) := by decide +kernel
theorem dX7_washer_35 : decode cX7_washer 35 = .ok (.iconst 1, 1) := by decide +kernel
theorem dX7_washer_36 : decode cX7_washer 36 = .ok (.goto 4, 3) := by decide +kernel
theorem dX7_washer_39 : decode cX7_washer 39 = .ok (.iconst 0, 1) := by decide +kernel
theorem dX7_washer_40 : decode cX7_washer 40 = .ok (.iastore, 1) := by decide +kernel
theorem dX7_washer_41 : decode cX7_washer 41 = .ok (.aload_n 0, 1) := by decide +kernel
theorem dX7_washer_42 : decode cX7_washer 42 = .ok (.dup, 1) := by decide +kernel
theorem dX7_washer_43 : decode cX7_washer 43 = .ok (.getfield 82, 3) := by decide +kernel
theorem dX7_washer_46 : decode cX7_washer 46 = .ok (.iconst 1, 1) := by decide +kernel
theorem dX7_washer_47 : decode cX7_washer 47 = .ok (.iadd, 1) := by decide +kernel
theorem dX7_washer_48 : decode cX7_washer 48 = .ok (.putfield 82, 3) := by decide +kernel
theorem dX7_washer_51 : decode cX7_washer 51 = .ok (.iload_n 3, 1) := by decide +kernel
theorem dX7_washer_52 : decode cX7_washer 52 = .ok (.ireturn, 1) := by decide +kernel
theorem dX7_teach_0 : decode cX7_teach 0 = .ok (.aload_n 0, 1) := by decide +kernel
theorem dX7_teach_1 : decode cX7_teach 1 = .ok (.iload_n 1, 1) := by decide +kernel
theorem dX7_teach_2 : decode cX7_teach 2 = .ok (.invokevirtual 136, 3) := by decide +kernel
theorem dX7_teach_5 : decode cX7_teach 5 = .ok (.ifCond .ne 6, 3) := by decide +kernel
theorem dX7_teach_8 : decode cX7_teach 8 = .ok (.bipush (-101), 2) := by decide +kernel
theorem dX7_teach_10 : decode cX7_teach 10 = .ok (.ireturn, 1) := by decide +kernel
theorem dX7_teach_11 : decode cX7_teach 11 = .ok (.iload_n 2, 1) := by decide +kernel
theorem dX7_teach_12 : decode cX7_teach 12 = .ok (.invokestatic 101, 3) := by decide +kernel
theorem dX7_teach_15 : decode cX7_teach 15 = .ok (.ifCond .ne 6, 3) := by decide +kernel
theorem dX7_teach_18 : decode cX7_teach 18 = .ok (.bipush (-102), 2) := by decide +kernel
theorem dX7_teach_20 : decode cX7_teach 20 = .ok (.ireturn, 1) := by decide +kernel
theorem dX7_teach_21 : decode cX7_teach 21 = .ok (.aload_n 0, 1) := by decide +kernel
theorem dX7_teach_22 : decode cX7_teach 22 = .ok (.getfield 22, 3) := by decide +kernel
theorem dX7_teach_25 : decode cX7_teach 25 = .ok (.iconst 4, 1) := by decide +kernel
theorem dX7_teach_26 : decode cX7_teach 26 = .ok (.iload_n 1, 1) := by decide +kernel
theorem dX7_teach_27 : decode cX7_teach 27 = .ok (.imul, 1) := by decide +kernel
theorem dX7_teach_28 : decode cX7_teach 28 = .ok (.iconst 1, 1) := by decide +kernel
theorem dX7_teach_29 : decode cX7_teach 29 = .ok (.iadd, 1) := by decide +kernel
theorem dX7_teach_30 : decode cX7_teach 30 = .ok (.iaload, 1) := by decide +kernel
theorem dX7_teach_31 : decode cX7_teach 31 = .ok (.istore_n 3, 1) := by decide +kernel
theorem dX7_teach_32 : decode cX7_teach 32 = .ok (.aload_n 0, 1) := by decide +kernel
theorem dX7_teach_33 : decode cX7_teach 33 = .ok (.getfield 22, 3) := by decide +kernel
theorem dX7_teach_36 : decode cX7_teach 36 = .ok (.iconst 4, 1) := by decide +kernel
theorem dX7_teach_37 : decode cX7_teach 37 = .ok (.iload_n 1, 1) := by decide +kernel
theorem dX7_teach_38 : decode cX7_teach 38 = .ok (.imul, 1) := by decide +kernel
theorem dX7_teach_39 : decode cX7_teach 39 = .ok (.iconst 1, 1) := by decide +kernel
theorem dX7_teach_40 : decode cX7_teach 40 = .ok (.iadd, 1) := by decide +kernel
theorem dX7_teach_41 : decode cX7_teach 41 = .ok (.iload_n 2, 1) := by decide +kernel
theorem dX7_teach_42 : decode cX7_teach 42 = .ok (.iastore, 1) := by decide +kernel
theorem dX7_teach_43 : decode cX7_teach 43 = .ok (.aload_n 0, 1) := by decide +kernel
theorem dX7_teach_44 : decode cX7_teach 44 = .ok (.dup, 1) := by decide +kernel
theorem dX7_teach_45 : decode cX7_teach 45 = .ok (.getfield 82, 3) := by decide +kernel
theorem dX7_teach_48 : decode cX7_teach 48 = .ok (.iconst 1, 1) := by decide +kernel
theorem dX7_teach_49 : decode cX7_teach 49 = .ok (.iadd, 1) := by decide +kernel
theorem dX7_teach_50 : decode cX7_teach 50 = .ok (.putfield 82, 3) := by decide +kernel
theorem dX7_teach_53 : decode cX7_teach 53 = .ok (.iload_n 3, 1) := by decide +kernel
theorem dX7_teach_54 : decode cX7_teach 54 = .ok (.ireturn, 1) := by decide +kernel
theorem dX7_agreeOf_0 : decode cX7_agreeOf 0 = .ok (.iconst 0, 1) := by decide +kernel
theorem dX7_agreeOf_1 : decode cX7_agreeOf 1 = .ok (.istore_n 3, 1) := by decide +kernel
theorem dX7_agreeOf_2 : decode cX7_agreeOf 2 = .ok (.iconst 0, 1) := by decide +kernel
theorem dX7_agreeOf_3 : decode cX7_agreeOf 3 = .ok (.istore 4, 2) := by decide +kernel
theorem dX7_agreeOf_5 : decode cX7_agreeOf 5 = .ok (.iload 4, 2) := by decide +kernel
theorem dX7_agreeOf_7 : decode cX7_agreeOf 7 = .ok (.bipush 16, 2) := by decide +kernel
theorem dX7_agreeOf_9 : decode cX7_agreeOf 9 = .ok (.if_icmp .ge 56, 3) := by decide +kernel
theorem dX7_agreeOf_12 : decode cX7_agreeOf 12 = .ok (.iload_n 3, 1) := by decide +kernel
theorem dX7_agreeOf_13 : decode cX7_agreeOf 13 = .ok (.aload_n 0, 1) := by decide +kernel
theorem dX7_agreeOf_14 : decode cX7_agreeOf 14 = .ok (.iload_n 1, 1) := by decide +kernel
theorem dX7_agreeOf_15 : decode cX7_agreeOf 15 = .ok (.aload_n 0, 1) := by decide +kernel
theorem dX7_agreeOf_16 : decode cX7_agreeOf 16 = .ok (.getfield 22, 3) := by decide +kernel
theorem dX7_agreeOf_19 : decode cX7_agreeOf 19 = .ok (.iconst 4, 1) := by decide +kernel
theorem dX7_agreeOf_20 : decode cX7_agreeOf 20 = .ok (.iload_n 1, 1) := by decide +kernel
theorem dX7_agreeOf_21 : decode cX7_agreeOf 21 = .ok (.imul, 1) := by decide +kernel
theorem dX7_agreeOf_22 : decode cX7_agreeOf 22 = .ok (.iconst 3, 1) := by decide +kernel
theorem dX7_agreeOf_23 : decode cX7_agreeOf 23 = .ok (.iadd, 1) := by decide +kernel
theorem dX7_agreeOf_24 : decode cX7_agreeOf 24 = .ok (.iaload, 1) := by decide +kernel
theorem dX7_agreeOf_25 : decode cX7_agreeOf 25 = .ok (.iload 4, 2) := by decide +kernel
theorem dX7_agreeOf_27 : decode cX7_agreeOf 27 = .ok (.iadd, 1) := by decide +kernel
theorem dX7_agreeOf_28 : decode cX7_agreeOf 28 = .ok (.invokevirtual 144, 3) := by decide +kernel
theorem dX7_agreeOf_31 : decode cX7_agreeOf 31 = .ok (.aload_n 0, 1) := by decide +kernel
theorem dX7_agreeOf_32 : decode cX7_agreeOf 32 = .ok (.iload_n 2, 1) := by decide +kernel
theorem dX7_agreeOf_33 : decode cX7_agreeOf 33 = .ok (.aload_n 0, 1) := by decide +kernel
theorem dX7_agreeOf_34 : decode cX7_agreeOf 34 = .ok (.getfield 22, 3) := by decide +kernel
theorem dX7_agreeOf_37 : decode cX7_agreeOf 37 = .ok (.iconst 4, 1) := by decide +kernel
theorem dX7_agreeOf_38 : decode cX7_agreeOf 38 = .ok (.iload_n 2, 1) := by decide +kernel
theorem dX7_agreeOf_39 : decode cX7_agreeOf 39 = .ok (.imul, 1) := by decide +kernel
theorem dX7_agreeOf_40 : decode cX7_agreeOf 40 = .ok (.iconst 3, 1) := by decide +kernel
theorem dX7_agreeOf_41 : decode cX7_agreeOf 41 = .ok (.iadd, 1) := by decide +kernel
theorem dX7_agreeOf_42 : decode cX7_agreeOf 42 = .ok (.iaload, 1) := by decide +kernel
theorem dX7_agreeOf_43 : decode cX7_agreeOf 43 = .ok (.iload 4, 2) := by decide +kernel
theorem dX7_agreeOf_45 : decode cX7_agreeOf 45 = .ok (.iadd, 1) := by decide +kernel
theorem dX7_agreeOf_46 : decode cX7_agreeOf 46 = .ok (.invokevirtual 144, 3) := by decide +kernel
theorem dX7_agreeOf_49 : decode cX7_agreeOf 49 = .ok (.if_icmp .ne 7, 3) := by decide +kernel
theorem dX7_agreeOf_52 : decode cX7_agreeOf 52 = .ok (.iconst 1, 1) := by decide +kernel
theorem dX7_agreeOf_53 : decode cX7_agreeOf 53 = .ok (.goto 4, 3) := by decide +kernel
theorem dX7_agreeOf_56 : decode cX7_agreeOf 56 = .ok (.iconst 0, 1) := by decide +kernel
theorem dX7_agreeOf_57 : decode cX7_agreeOf 57 = .ok (.iadd, 1) := by decide +kernel
theorem dX7_agreeOf_58 : decode cX7_agreeOf 58 = .ok (.istore_n 3, 1) := by decide +kernel
theorem dX7_agreeOf_59 : decode cX7_agreeOf 59 = .ok (.iinc 4 1, 3) := by decide +kernel
theorem dX7_agreeOf_62 : decode cX7_agreeOf 62 = .ok (.goto (-57), 3) := by decide +kernel
theorem dX7_agreeOf_65 : decode cX7_agreeOf 65 = .ok (.iload_n 3, 1) := by decide +kernel
theorem dX7_agreeOf_66 : decode cX7_agreeOf 66 = .ok (.ireturn, 1) := by decide +kernel
theorem dX7_agree_0 : decode cX7_agree 0 = .ok (.aload_n 0, 1) := by decide +kernel
theorem dX7_agree_1 : decode cX7_agree 1 = .ok (.iload_n 1, 1) := by decide +kernel
theorem dX7_agree_2 : decode cX7_agree 2 = .ok (.invokevirtual 136, 3) := by decide +kernel
theorem dX7_agree_5 : decode cX7_agree 5 = .ok (.ifCond .eq 25, 3) := by decide +kernel
theorem dX7_agree_8 : decode cX7_agree 8 = .ok (.aload_n 0, 1) := by decide +kernel
theorem dX7_agree_9 : decode cX7_agree 9 = .ok (.iload_n 2, 1) := by decide +kernel
theorem dX7_agree_10 : decode cX7_agree 10 = .ok (.invokevirtual 136, 3) := by decide +kernel
theorem dX7_agree_13 : decode cX7_agree 13 = .ok (.ifCond .eq 17, 3) := by decide +kernel
theorem dX7_agree_16 : decode cX7_agree 16 = .ok (.iload_n 1, 1) := by decide +kernel
theorem dX7_agree_17 : decode cX7_agree 17 = .ok (.iload_n 2, 1) := by decide +kernel
theorem dX7_agree_18 : decode cX7_agree 18 = .ok (.if_icmp .eq 12, 3) := by decide +kernel
theorem dX7_agree_21 : decode cX7_agree 21 = .ok (.aload_n 0, 1) := by decide +kernel
theorem dX7_agree_22 : decode cX7_agree 22 = .ok (.iload_n 1, 1) := by decide +kernel
theorem dX7_agree_23 : decode cX7_agree 23 = .ok (.iload_n 2, 1) := by decide +kernel
theorem dX7_agree_24 : decode cX7_agree 24 = .ok (.invokevirtual 147, 3) := by decide +kernel
theorem dX7_agree_27 : decode cX7_agree 27 = .ok (.goto 5, 3) := by decide +kernel
theorem dX7_agree_30 : decode cX7_agree 30 = .ok (.bipush (-101), 2) := by decide +kernel
theorem dX7_agree_32 : decode cX7_agree 32 = .ok (.ireturn, 1) := by decide +kernel
theorem dX7_unlikeBy_0 : decode cX7_unlikeBy 0 = .ok (.iconst 0, 1) := by decide +kernel
theorem dX7_unlikeBy_1 : decode cX7_unlikeBy 1 = .ok (.istore 4, 2) := by decide +kernel
theorem dX7_unlikeBy_3 : decode cX7_unlikeBy 3 = .ok (.iconst 0, 1) := by decide +kernel
theorem dX7_unlikeBy_4 : decode cX7_unlikeBy 4 = .ok (.istore 5, 2) := by decide +kernel
theorem dX7_unlikeBy_6 : decode cX7_unlikeBy 6 = .ok (.iload 5, 2) := by decide +kernel
theorem dX7_unlikeBy_8 : decode cX7_unlikeBy 8 = .ok (.bipush 12, 2) := by decide +kernel
theorem dX7_unlikeBy_10 : decode cX7_unlikeBy 10 = .ok (.if_icmp .ge 60, 3) := by decide +kernel
theorem dX7_unlikeBy_13 : decode cX7_unlikeBy 13 = .ok (.aload_n 0, 1) := by decide +kernel
theorem dX7_unlikeBy_14 : decode cX7_unlikeBy 14 = .ok (.aload_n 0, 1) := by decide +kernel
theorem dX7_unlikeBy_15 : decode cX7_unlikeBy 15 = .ok (.getfield 22, 3) := by decide +kernel
theorem dX7_unlikeBy_18 : decode cX7_unlikeBy 18 = .ok (.iconst 4, 1) := by decide +kernel
theorem dX7_unlikeBy_19 : decode cX7_unlikeBy 19 = .ok (.iload_n 1, 1) := by decide +kernel
theorem dX7_unlikeBy_20 : decode cX7_unlikeBy 20 = .ok (.imul, 1) := by decide +kernel
theorem dX7_unlikeBy_21 : decode cX7_unlikeBy 21 = .ok (.iaload, 1) := by decide +kernel
theorem dX7_unlikeBy_22 : decode cX7_unlikeBy 22 = .ok (.iload_n 3, 1) := by decide +kernel
theorem dX7_unlikeBy_23 : decode cX7_unlikeBy 23 = .ok (.aload_n 0, 1) := by decide +kernel
theorem dX7_unlikeBy_24 : decode cX7_unlikeBy 24 = .ok (.getfield 22, 3) := by decide +kernel
theorem dX7_unlikeBy_27 : decode cX7_unlikeBy 27 = .ok (.iconst 4, 1) := by decide +kernel
theorem dX7_unlikeBy_28 : decode cX7_unlikeBy 28 = .ok (.iload_n 1, 1) := by decide +kernel
theorem dX7_unlikeBy_29 : decode cX7_unlikeBy 29 = .ok (.imul, 1) := by decide +kernel
theorem dX7_unlikeBy_30 : decode cX7_unlikeBy 30 = .ok (.iconst 1, 1) := by decide +kernel
theorem dX7_unlikeBy_31 : decode cX7_unlikeBy 31 = .ok (.iadd, 1) := by decide +kernel
theorem dX7_unlikeBy_32 : decode cX7_unlikeBy 32 = .ok (.iaload, 1) := by decide +kernel
theorem dX7_unlikeBy_33 : decode cX7_unlikeBy 33 = .ok (.iload 5, 2) := by decide +kernel
theorem dX7_unlikeBy_35 : decode cX7_unlikeBy 35 = .ok (.invokevirtual 108, 3) := by decide +kernel
theorem dX7_unlikeBy_38 : decode cX7_unlikeBy 38 = .ok (.istore 6, 2) := by decide +kernel
theorem dX7_unlikeBy_40 : decode cX7_unlikeBy 40 = .ok (.iload 4, 2) := by decide +kernel
theorem dX7_unlikeBy_42 : decode cX7_unlikeBy 42 = .ok (.iload 6, 2) := by decide +kernel
theorem dX7_unlikeBy_44 : decode cX7_unlikeBy 44 = .ok (.aload_n 0, 1) := by decide +kernel
theorem dX7_unlikeBy_45 : decode cX7_unlikeBy 45 = .ok (.iconst 0, 1) := by decide +kernel
theorem dX7_unlikeBy_46 : decode cX7_unlikeBy 46 = .ok (.iconst 0, 1) := by decide +kernel
theorem dX7_unlikeBy_47 : decode cX7_unlikeBy 47 = .ok (.iload_n 2, 1) := by decide +kernel
theorem dX7_unlikeBy_48 : decode cX7_unlikeBy 48 = .ok (.iload 5, 2) := by decide +kernel
theorem dX7_unlikeBy_50 : decode cX7_unlikeBy 50 = .ok (.invokevirtual 108, 3) := by decide +kernel
theorem dX7_unlikeBy_53 : decode cX7_unlikeBy 53 = .ok (.if_icmp .ne 7, 3) := by decide +kernel
theorem dX7_unlikeBy_56 : decode cX7_unlikeBy 56 = .ok (.iconst 0, 1) := by decide +kernel
theorem dX7_unlikeBy_57 : decode cX7_unlikeBy 57 = .ok (.goto 4, 3) := by decide +kernel
theorem dX7_unlikeBy_60 : decode cX7_unlikeBy 60 = .ok (.iconst 1, 1) := by decide +kernel
theorem dX7_unlikeBy_61 : decode cX7_unlikeBy 61 = .ok (.iadd, 1) := by decide +kernel
theorem dX7_unlikeBy_62 : decode cX7_unlikeBy 62 = .ok (.istore 4, 2) := by decide +kernel
theorem dX7_unlikeBy_64 : decode cX7_unlikeBy 64 = .ok (.iinc 5 1, 3) := by decide +kernel
theorem dX7_unlikeBy_67 : decode cX7_unlikeBy 67 = .ok (.goto (-61), 3) := by decide +kernel
theorem dX7_unlikeBy_70 : decode cX7_unlikeBy 70 = .ok (.iload 4, 2) := by decide +kernel
theorem dX7_unlikeBy_72 : decode cX7_unlikeBy 72 = .ok (.ireturn, 1) := by decide +kernel
theorem dX7_nearOf_0 : decode cX7_nearOf 0 = .ok (.aload_n 0, 1) := by decide +kernel
theorem dX7_nearOf_1 : decode cX7_nearOf 1 = .ok (.iload_n 1, 1) := by decide +kernel
theorem dX7_nearOf_2 : decode cX7_nearOf 2 = .ok (.iload_n 2, 1) := by decide +kernel
theorem dX7_nearOf_3 : decode cX7_nearOf 3 = .ok (.iconst 0, 1) := by decide +kernel
theorem dX7_nearOf_4 : decode cX7_nearOf 4 = .ok (.invokevirtual 150, 3) := by decide +kernel
theorem dX7_nearOf_7 : decode cX7_nearOf 7 = .ok (.istore 4, 2) := by decide +kernel
theorem dX7_nearOf_9 : decode cX7_nearOf 9 = .ok (.aload_n 0, 1) := by decide +kernel
theorem dX7_nearOf_10 : decode cX7_nearOf 10 = .ok (.iload_n 1, 1) := by decide +kernel
theorem dX7_nearOf_11 : decode cX7_nearOf 11 = .ok (.iload_n 2, 1) := by decide +kernel
theorem dX7_nearOf_12 : decode cX7_nearOf 12 = .ok (.iconst 1, 1) := by decide +kernel
theorem dX7_nearOf_13 : decode cX7_nearOf 13 = .ok (.invokevirtual 150, 3) := by decide +kernel
theorem dX7_nearOf_16 : decode cX7_nearOf 16 = .ok (.istore 5, 2) := by decide +kernel
theorem dX7_nearOf_18 : decode cX7_nearOf 18 = .ok (.iload 5, 2) := by decide +kernel
theorem dX7_nearOf_20 : decode cX7_nearOf 20 = .ok (.iload 4, 2) := by decide +kernel
theorem dX7_nearOf_22 : decode cX7_nearOf 22 = .ok (.if_icmp .ge 7, 3) := by decide +kernel
theorem dX7_nearOf_25 : decode cX7_nearOf 25 = .ok (.iconst 1, 1) := by decide +kernel
theorem dX7_nearOf_26 : decode cX7_nearOf 26 = .ok (.goto 4, 3) := by decide +kernel
theorem dX7_nearOf_29 : decode cX7_nearOf 29 = .ok (.iconst 0, 1) := by decide +kernel
theorem dX7_nearOf_30 : decode cX7_nearOf 30 = .ok (.istore 6, 2) := by decide +kernel
theorem dX7_nearOf_32 : decode cX7_nearOf 32 = .ok (.iload_n 3, 1) := by decide +kernel
theorem dX7_nearOf_33 : decode cX7_nearOf 33 = .ok (.ifCond .ne 16, 3) := by decide +kernel
theorem dX7_nearOf_36 : decode cX7_nearOf 36 = .ok (.iload 6, 2) := by decide +kernel
theorem dX7_nearOf_38 : decode cX7_nearOf 38 = .ok (.ifCond .eq 7, 3) := by decide +kernel
theorem dX7_nearOf_41 : decode cX7_nearOf 41 = .ok (.iconst 1, 1) := by decide +kernel
theorem dX7_nearOf_42 : decode cX7_nearOf 42 = .ok (.goto 19, 3) := by decide +kernel
theorem dX7_nearOf_45 : decode cX7_nearOf 45 = .ok (.iconst 0, 1) := by decide +kernel
theorem dX7_nearOf_46 : decode cX7_nearOf 46 = .ok (.goto 15, 3) := by decide +kernel
theorem dX7_nearOf_49 : decode cX7_nearOf 49 = .ok (.iload 6, 2) := by decide +kernel
theorem dX7_nearOf_51 : decode cX7_nearOf 51 = .ok (.ifCond .eq 8, 3) := by decide +kernel
theorem dX7_nearOf_54 : decode cX7_nearOf 54 = .ok (.iload 5, 2) := by decide +kernel
theorem dX7_nearOf_56 : decode cX7_nearOf 56 = .ok (.goto 5, 3) := by decide +kernel
theorem dX7_nearOf_59 : decode cX7_nearOf 59 = .ok (.iload 4, 2) := by decide +kernel
theorem dX7_nearOf_61 : decode cX7_nearOf 61 = .ok (.ireturn, 1) := by decide +kernel
theorem dX7_near_0 : decode cX7_near 0 = .ok (.aload_n 0, 1) := by decide +kernel
theorem dX7_near_1 : decode cX7_near 1 = .ok (.iload_n 1, 1) := by decide +kernel
theorem dX7_near_2 : decode cX7_near 2 = .ok (.invokevirtual 136, 3) := by decide +kernel
theorem dX7_near_5 : decode cX7_near 5 = .ok (.ifCond .ne 6, 3) := by decide +kernel
theorem dX7_near_8 : decode cX7_near 8 = .ok (.bipush (-101), 2) := by decide +kernel
theorem dX7_near_10 : decode cX7_near 10 = .ok (.ireturn, 1) := by decide +kernel
theorem dX7_near_11 : decode cX7_near 11 = .ok (.iload_n 2, 1) := by decide +kernel
theorem dX7_near_12 : decode cX7_near 12 = .ok (.invokestatic 101, 3) := by decide +kernel
theorem dX7_near_15 : decode cX7_near 15 = .ok (.ifCond .eq 23, 3) := by decide +kernel
theorem dX7_near_18 : decode cX7_near 18 = .ok (.iload_n 3, 1) := by decide +kernel
theorem dX7_near_19 : decode cX7_near 19 = .ok (.i2l, 1) := by decide +kernel
theorem dX7_near_20 : decode cX7_near 20 = .ok (.lconst 0, 1) := by decide +kernel
theorem dX7_near_21 : decode cX7_near 21 = .ok (.lconst 1, 1) := by decide +kernel
theorem dX7_near_22 : decode cX7_near 22 = .ok (.invokestatic 40, 3) := by decide +kernel
theorem dX7_near_25 : decode cX7_near 25 = .ok (.ifCond .eq 13, 3) := by decide +kernel
theorem dX7_near_28 : decode cX7_near 28 = .ok (.aload_n 0, 1) := by decide +kernel
theorem dX7_near_29 : decode cX7_near 29 = .ok (.iload_n 1, 1) := by decide +kernel
theorem dX7_near_30 : decode cX7_near 30 = .ok (.iload_n 2, 1) := by decide +kernel
theorem dX7_near_31 : decode cX7_near 31 = .ok (.iload_n 3, 1) := by decide +kernel
theorem dX7_near_32 : decode cX7_near 32 = .ok (.invokevirtual 153, 3) := by decide +kernel
theorem dX7_near_35 : decode cX7_near 35 = .ok (.goto 5, 3) := by decide +kernel
theorem dX7_near_38 : decode cX7_near 38 = .ok (.bipush (-102), 2) := by decide +kernel
theorem dX7_near_40 : decode cX7_near 40 = .ok (.ireturn, 1) := by decide +kernel
theorem dX7_put_0 : decode cX7_put 0 = .ok (.aload_n 0, 1) := by decide +kernel
theorem dX7_put_1 : decode cX7_put 1 = .ok (.iload_n 1, 1) := by decide +kernel
theorem dX7_put_2 : decode cX7_put 2 = .ok (.invokevirtual 136, 3) := by decide +kernel
theorem dX7_put_5 : decode cX7_put 5 = .ok (.ifCond .ne 6, 3) := by decide +kernel
theorem dX7_put_8 : decode cX7_put 8 = .ok (.bipush (-101), 2) := by decide +kernel
theorem dX7_put_10 : decode cX7_put 10 = .ok (.ireturn, 1) := by decide +kernel
theorem dX7_put_11 : decode cX7_put 11 = .ok (.iload_n 2, 1) := by decide +kernel
theorem dX7_put_12 : decode cX7_put 12 = .ok (.i2l, 1) := by decide +kernel
theorem dX7_put_13 : decode cX7_put 13 = .ok (.lconst 0, 1) := by decide +kernel
theorem dX7_put_14 : decode cX7_put 14 = .ok (.ldc2_w 156, 3) := by decide +kernel
theorem dX7_put_17 : decode cX7_put 17 = .ok (.invokestatic 40, 3) := by decide +kernel
theorem dX7_put_20 : decode cX7_put 20 = .ok (.ifCond .ne 6, 3) := by decide +kernel
theorem dX7_put_23 : decode cX7_put 23 = .ok (.bipush (-102), 2) := by decide +kernel
theorem dX7_put_25 : decode cX7_put 25 = .ok (.ireturn, 1) := by decide +kernel
theorem dX7_put_26 : decode cX7_put 26 = .ok (.aload_n 0, 1) := by decide +kernel
theorem dX7_put_27 : decode cX7_put 27 = .ok (.getfield 85, 3) := by decide +kernel
theorem dX7_put_30 : decode cX7_put 30 = .ok (.bipush 8, 2) := by decide +kernel
theorem dX7_put_32 : decode cX7_put 32 = .ok (.if_icmp .ne 6, 3) := by decide +kernel
theorem dX7_put_35 : decode cX7_put 35 = .ok (.bipush (-104), 2) := by decide +kernel
theorem dX7_put_37 : decode cX7_put 37 = .ok (.ireturn, 1) := by decide +kernel
theorem dX7_put_38 : decode cX7_put 38 = .ok (.aload_n 0, 1) := by decide +kernel
theorem dX7_put_39 : decode cX7_put 39 = .ok (.getfield 25, 3) := by decide +kernel
theorem dX7_put_42 : decode cX7_put 42 = .ok (.iconst 4, 1) := by decide +kernel
theorem dX7_put_43 : decode cX7_put 43 = .ok (.aload_n 0, 1) := by decide +kernel
theorem dX7_put_44 : decode cX7_put 44 = .ok (.getfield 85, 3) := by decide +kernel
theorem dX7_put_47 : decode cX7_put 47 = .ok (.imul, 1) := by decide +kernel
theorem dX7_put_48 : decode cX7_put 48 = .ok (.iload_n 1, 1) := by decide +kernel
theorem dX7_put_49 : decode cX7_put 49 = .ok (.iastore, 1) := by decide +kernel
theorem dX7_put_50 : decode cX7_put 50 = .ok (.aload_n 0, 1) := by decide +kernel
theorem dX7_put_51 : decode cX7_put 51 = .ok (.getfield 25, 3) := by decide +kernel
theorem dX7_put_54 : decode cX7_put 54 = .ok (.iconst 4, 1) := by decide +kernel
theorem dX7_put_55 : decode cX7_put 55 = .ok (.aload_n 0, 1) := by decide +kernel
theorem dX7_put_56 : decode cX7_put 56 = .ok (.getfield 85, 3) := by decide +kernel
theorem dX7_put_59 : decode cX7_put 59 = .ok (.imul, 1) := by decide +kernel
theorem dX7_put_60 : decode cX7_put 60 = .ok (.iconst 1, 1) := by decide +kernel
theorem dX7_put_61 : decode cX7_put 61 = .ok (.iadd, 1) := by decide +kernel
theorem dX7_put_62 : decode cX7_put 62 = .ok (.iload_n 2, 1) := by decide +kernel
theorem dX7_put_63 : decode cX7_put 63 = .ok (.iastore, 1) := by decide +kernel
theorem dX7_put_64 : decode cX7_put 64 = .ok (.aload_n 0, 1) := by decide +kernel
theorem dX7_put_65 : decode cX7_put 65 = .ok (.getfield 25, 3) := by decide +kernel
theorem dX7_put_68 : decode cX7_put 68 = .ok (.iconst 4, 1) := by decide +kernel
theorem dX7_put_69 : decode cX7_put 69 = .ok (.aload_n 0, 1) := by decide +kernel
theorem dX7_put_70 : decode cX7_put 70 = .ok (.getfield 85, 3) := by decide +kernel
theorem dX7_put_73 : decode cX7_put 73 = .ok (.imul, 1) := by decide +kernel
theorem dX7_put_74 : decode cX7_put 74 = .ok (.iconst 2, 1) := by decide +kernel
theorem dX7_put_75 : decode cX7_put 75 = .ok (.iadd, 1) := by decide +kernel
theorem dX7_put_76 : decode cX7_put 76 = .ok (.iload_n 3, 1) := by decide +kernel
theorem dX7_put_77 : decode cX7_put 77 = .ok (.ifCond .eq 7, 3) := by decide +kernel
theorem dX7_put_80 : decode cX7_put 80 = .ok (.iconst 1, 1) := by decide +kernel
theorem dX7_put_81 : decode cX7_put 81 = .ok (.goto 4, 3) := by decide +kernel
theorem dX7_put_84 : decode cX7_put 84 = .ok (.iconst 0, 1) := by decide +kernel
theorem dX7_put_85 : decode cX7_put 85 = .ok (.iastore, 1) := by decide +kernel
theorem dX7_put_86 : decode cX7_put 86 = .ok (.aload_n 0, 1) := by decide +kernel
theorem dX7_put_87 : decode cX7_put 87 = .ok (.getfield 25, 3) := by decide +kernel
theorem dX7_put_90 : decode cX7_put 90 = .ok (.iconst 4, 1) := by decide +kernel
theorem dX7_put_91 : decode cX7_put 91 = .ok (.aload_n 0, 1) := by decide +kernel
theorem dX7_put_92 : decode cX7_put 92 = .ok (.getfield 85, 3) := by decide +kernel
theorem dX7_put_95 : decode cX7_put 95 = .ok (.imul, 1) := by decide +kernel
theorem dX7_put_96 : decode cX7_put 96 = .ok (.iconst 3, 1) := by decide +kernel
theorem dX7_put_97 : decode cX7_put 97 = .ok (.iadd, 1) := by decide +kernel
theorem dX7_put_98 : decode cX7_put 98 = .ok (.aload_n 0, 1) := by decide +kernel
theorem dX7_put_99 : decode cX7_put 99 = .ok (.getfield 22, 3) := by decide +kernel
theorem dX7_put_102 : decode cX7_put 102 = .ok (.iconst 4, 1) := by decide +kernel
theorem dX7_put_103 : decode cX7_put 103 = .ok (.iload_n 1, 1) := by decide +kernel
theorem dX7_put_104 : decode cX7_put 104 = .ok (.imul, 1) := by decide +kernel
theorem dX7_put_105 : decode cX7_put 105 = .ok (.iconst 2, 1) := by decide +kernel
theorem dX7_put_106 : decode cX7_put 106 = .ok (.iadd, 1) := by decide +kernel
theorem dX7_put_107 : decode cX7_put 107 = .ok (.iaload, 1) := by decide +kernel
theorem dX7_put_108 : decode cX7_put 108 = .ok (.iastore, 1) := by decide +kernel
theorem dX7_put_109 : decode cX7_put 109 = .ok (.aload_n 0, 1) := by decide +kernel
theorem dX7_put_110 : decode cX7_put 110 = .ok (.dup, 1) := by decide +kernel
theorem dX7_put_111 : decode cX7_put 111 = .ok (.getfield 85, 3) := by decide +kernel
theorem dX7_put_114 : decode cX7_put 114 = .ok (.iconst 1, 1) := by decide +kernel
theorem dX7_put_115 : decode cX7_put 115 = .ok (.iadd, 1) := by decide +kernel
theorem dX7_put_116 : decode cX7_put 116 = .ok (.putfield 85, 3) := by decide +kernel
theorem dX7_put_119 : decode cX7_put 119 = .ok (.aload_n 0, 1) := by decide +kernel
theorem dX7_put_120 : decode cX7_put 120 = .ok (.getfield 85, 3) := by decide +kernel
theorem dX7_put_123 : decode cX7_put 123 = .ok (.ireturn, 1) := by decide +kernel
theorem dX7_forget_0 : decode cX7_forget 0 = .ok (.aload_n 0, 1) := by decide +kernel
theorem dX7_forget_1 : decode cX7_forget 1 = .ok (.getfield 85, 3) := by decide +kernel
theorem dX7_forget_4 : decode cX7_forget 4 = .ok (.istore_n 1, 1) := by decide +kernel
theorem dX7_forget_5 : decode cX7_forget 5 = .ok (.aload_n 0, 1) := by decide +kernel
theorem dX7_forget_6 : decode cX7_forget 6 = .ok (.iconst 0, 1) := by decide +kernel
theorem dX7_forget_7 : decode cX7_forget 7 = .ok (.putfield 85, 3) := by decide +kernel
theorem dX7_forget_10 : decode cX7_forget 10 = .ok (.iload_n 1, 1) := by decide +kernel
theorem dX7_forget_11 : decode cX7_forget 11 = .ok (.ireturn, 1) := by decide +kernel
theorem dX7_slipsBy_0 : decode cX7_slipsBy 0 = .ok (.iconst 0, 1) := by decide +kernel
theorem dX7_slipsBy_1 : decode cX7_slipsBy 1 = .ok (.istore_n 3, 1) := by decide +kernel
theorem dX7_slipsBy_2 : decode cX7_slipsBy 2 = .ok (.iconst 0, 1) := by decide +kernel
theorem dX7_slipsBy_3 : decode cX7_slipsBy 3 = .ok (.istore 4, 2) := by decide +kernel
theorem dX7_slipsBy_5 : decode cX7_slipsBy 5 = .ok (.iload 4, 2) := by decide +kernel
theorem dX7_slipsBy_7 : decode cX7_slipsBy 7 = .ok (.iconst 4, 1) := by decide +kernel
theorem dX7_slipsBy_8 : decode cX7_slipsBy 8 = .ok (.aload_n 0, 1) := by decide +kernel
theorem dX7_slipsBy_9 : decode cX7_slipsBy 9 = .ok (.getfield 85, 3) := by decide +kernel
theorem dX7_slipsBy_12 : decode cX7_slipsBy 12 = .ok (.imul, 1) := by decide +kernel
theorem dX7_slipsBy_13 : decode cX7_slipsBy 13 = .ok (.if_icmp .ge 75, 3) := by decide +kernel
theorem dX7_slipsBy_16 : decode cX7_slipsBy 16 = .ok (.aload_n 0, 1) := by decide +kernel
theorem dX7_slipsBy_17 : decode cX7_slipsBy 17 = .ok (.aload_n 0, 1) := by decide +kernel
theorem dX7_slipsBy_18 : decode cX7_slipsBy 18 = .ok (.getfield 22, 3) := by decide +kernel
theorem dX7_slipsBy_21 : decode cX7_slipsBy 21 = .ok (.iconst 4, 1) := by decide +kernel
theorem dX7_slipsBy_22 : decode cX7_slipsBy 22 = .ok (.iload_n 1, 1) := by decide +kernel
theorem dX7_slipsBy_23 : decode cX7_slipsBy 23 = .ok (.imul, 1) := by decide +kernel
theorem dX7_slipsBy_24 : decode cX7_slipsBy 24 = .ok (.iaload, 1) := by decide +kernel
theorem dX7_slipsBy_25 : decode cX7_slipsBy 25 = .ok (.aload_n 0, 1) := by decide +kernel
theorem dX7_slipsBy_26 : decode cX7_slipsBy 26 = .ok (.getfield 25, 3) := by decide +kernel
theorem dX7_slipsBy_29 : decode cX7_slipsBy 29 = .ok (.iload 4, 2) := by decide +kernel
theorem dX7_slipsBy_31 : decode cX7_slipsBy 31 = .ok (.iconst 3, 1) := by decide +kernel
theorem dX7_slipsBy_32 : decode cX7_slipsBy 32 = .ok (.iadd, 1) := by decide +kernel
theorem dX7_slipsBy_33 : decode cX7_slipsBy 33 = .ok (.iaload, 1) := by decide +kernel
theorem dX7_slipsBy_34 : decode cX7_slipsBy 34 = .ok (.iload_n 2, 1) := by decide +kernel
theorem dX7_slipsBy_35 : decode cX7_slipsBy 35 = .ok (.aload_n 0, 1) := by decide +kernel
theorem dX7_slipsBy_36 : decode cX7_slipsBy 36 = .ok (.getfield 25, 3) := by decide +kernel
theorem dX7_slipsBy_39 : decode cX7_slipsBy 39 = .ok (.iload 4, 2) := by decide +kernel
theorem dX7_slipsBy_41 : decode cX7_slipsBy 41 = .ok (.iconst 1, 1) := by decide +kernel
theorem dX7_slipsBy_42 : decode cX7_slipsBy 42 = .ok (.iadd, 1) := by decide +kernel
theorem dX7_slipsBy_43 : decode cX7_slipsBy 43 = .ok (.iaload, 1) := by decide +kernel
theorem dX7_slipsBy_44 : decode cX7_slipsBy 44 = .ok (.invokevirtual 108, 3) := by decide +kernel
theorem dX7_slipsBy_47 : decode cX7_slipsBy 47 = .ok (.istore 5, 2) := by decide +kernel
theorem dX7_slipsBy_49 : decode cX7_slipsBy 49 = .ok (.iload_n 3, 1) := by decide +kernel
theorem dX7_slipsBy_50 : decode cX7_slipsBy 50 = .ok (.aload_n 0, 1) := by decide +kernel
theorem dX7_slipsBy_51 : decode cX7_slipsBy 51 = .ok (.getfield 25, 3) := by decide +kernel
theorem dX7_slipsBy_54 : decode cX7_slipsBy 54 = .ok (.iload 4, 2) := by decide +kernel
theorem dX7_slipsBy_56 : decode cX7_slipsBy 56 = .ok (.iaload, 1) := by decide +kernel
theorem dX7_slipsBy_57 : decode cX7_slipsBy 57 = .ok (.iload_n 1, 1) := by decide +kernel
theorem dX7_slipsBy_58 : decode cX7_slipsBy 58 = .ok (.if_icmp .ne 21, 3) := by decide +kernel
theorem dX7_slipsBy_61 : decode cX7_slipsBy 61 = .ok (.iload 5, 2) := by decide +kernel
theorem dX7_slipsBy_63 : decode cX7_slipsBy 63 = .ok (.aload_n 0, 1) := by decide +kernel
theorem dX7_slipsBy_64 : decode cX7_slipsBy 64 = .ok (.getfield 25, 3) := by decide +kernel
theorem dX7_slipsBy_67 : decode cX7_slipsBy 67 = .ok (.iload 4, 2) := by decide +kernel
theorem dX7_slipsBy_69 : decode cX7_slipsBy 69 = .ok (.iconst 2, 1) := by decide +kernel
theorem dX7_slipsBy_70 : decode cX7_slipsBy 70 = .ok (.iadd, 1) := by decide +kernel
theorem dX7_slipsBy_71 : decode cX7_slipsBy 71 = .ok (.iaload, 1) := by decide +kernel
theorem dX7_slipsBy_72 : decode cX7_slipsBy 72 = .ok (.if_icmp .eq 7, 3) := by decide +kernel
theorem dX7_slipsBy_75 : decode cX7_slipsBy 75 = .ok (.iconst 1, 1) := by decide +kernel
theorem dX7_slipsBy_76 : decode cX7_slipsBy 76 = .ok (.goto 4, 3) := by decide +kernel
theorem dX7_slipsBy_79 : decode cX7_slipsBy 79 = .ok (.iconst 0, 1) := by decide +kernel
theorem dX7_slipsBy_80 : decode cX7_slipsBy 80 = .ok (.iadd, 1) := by decide +kernel
theorem dX7_slipsBy_81 : decode cX7_slipsBy 81 = .ok (.istore_n 3, 1) := by decide +kernel
theorem dX7_slipsBy_82 : decode cX7_slipsBy 82 = .ok (.iinc 4 4, 3) := by decide +kernel
theorem dX7_slipsBy_85 : decode cX7_slipsBy 85 = .ok (.goto (-80), 3) := by decide +kernel
theorem dX7_slipsBy_88 : decode cX7_slipsBy 88 = .ok (.iload_n 3, 1) := by decide +kernel
theorem dX7_slipsBy_89 : decode cX7_slipsBy 89 = .ok (.ireturn, 1) := by decide +kernel
theorem dX7_saysOf_0 : decode cX7_saysOf 0 = .ok (.iconst 0, 1) := by decide +kernel
theorem dX7_saysOf_1 : decode cX7_saysOf 1 = .ok (.istore_n 2, 1) := by decide +kernel
theorem dX7_saysOf_2 : decode cX7_saysOf 2 = .ok (.iconst 0, 1) := by decide +kernel
theorem dX7_saysOf_3 : decode cX7_saysOf 3 = .ok (.istore_n 3, 1) := by decide +kernel
theorem dX7_saysOf_4 : decode cX7_saysOf 4 = .ok (.iload_n 3, 1) := by decide +kernel
theorem dX7_saysOf_5 : decode cX7_saysOf 5 = .ok (.iconst 4, 1) := by decide +kernel
theorem dX7_saysOf_6 : decode cX7_saysOf 6 = .ok (.if_icmp .ge 28, 3) := by decide +kernel
theorem dX7_saysOf_9 : decode cX7_saysOf 9 = .ok (.iload_n 2, 1) := by decide +kernel
theorem dX7_saysOf_10 : decode cX7_saysOf 10 = .ok (.aload_n 0, 1) := by decide +kernel
theorem dX7_saysOf_11 : decode cX7_saysOf 11 = .ok (.iload_n 1, 1) := by decide +kernel
theorem dX7_saysOf_12 : decode cX7_saysOf 12 = .ok (.iload_n 3, 1) := by decide +kernel
theorem dX7_saysOf_13 : decode cX7_saysOf 13 = .ok (.invokevirtual 130, 3) := by decide +kernel
theorem dX7_saysOf_16 : decode cX7_saysOf 16 = .ok (.ifCond .ne 9, 3) := by decide +kernel
theorem dX7_saysOf_19 : decode cX7_saysOf 19 = .ok (.iconst 1, 1) := by decide +kernel
theorem dX7_saysOf_20 : decode cX7_saysOf 20 = .ok (.iload_n 3, 1) := by decide +kernel
theorem dX7_saysOf_21 : decode cX7_saysOf 21 = .ok (.ishl, 1) := by decide +kernel
theorem dX7_saysOf_22 : decode cX7_saysOf 22 = .ok (.goto 4, 3) := by decide +kernel
theorem dX7_saysOf_25 : decode cX7_saysOf 25 = .ok (.iconst 0, 1) := by decide +kernel
theorem dX7_saysOf_26 : decode cX7_saysOf 26 = .ok (.ior, 1) := by decide +kernel
theorem dX7_saysOf_27 : decode cX7_saysOf 27 = .ok (.istore_n 2, 1) := by decide +kernel
theorem dX7_saysOf_28 : decode cX7_saysOf 28 = .ok (.iinc 3 1, 3) := by decide +kernel
theorem dX7_saysOf_31 : decode cX7_saysOf 31 = .ok (.goto (-27), 3) := by decide +kernel
theorem dX7_saysOf_34 : decode cX7_saysOf 34 = .ok (.iload_n 2, 1) := by decide +kernel
theorem dX7_saysOf_35 : decode cX7_saysOf 35 = .ok (.ireturn, 1) := by decide +kernel
theorem dX7_likelyOf_0 : decode cX7_likelyOf 0 = .ok (.iconst 0, 1) := by decide +kernel
theorem dX7_likelyOf_1 : decode cX7_likelyOf 1 = .ok (.istore_n 2, 1) := by decide +kernel
theorem dX7_likelyOf_2 : decode cX7_likelyOf 2 = .ok (.iconst 1, 1) := by decide +kernel
theorem dX7_likelyOf_3 : decode cX7_likelyOf 3 = .ok (.istore_n 3, 1) := by decide +kernel
theorem dX7_likelyOf_4 : decode cX7_likelyOf 4 = .ok (.iload_n 3, 1) := by decide +kernel
theorem dX7_likelyOf_5 : decode cX7_likelyOf 5 = .ok (.iconst 4, 1) := by decide +kernel
theorem dX7_likelyOf_6 : decode cX7_likelyOf 6 = .ok (.if_icmp .ge 30, 3) := by decide +kernel
theorem dX7_likelyOf_9 : decode cX7_likelyOf 9 = .ok (.aload_n 0, 1) := by decide +kernel
theorem dX7_likelyOf_10 : decode cX7_likelyOf 10 = .ok (.iload_n 1, 1) := by decide +kernel
theorem dX7_likelyOf_11 : decode cX7_likelyOf 11 = .ok (.iload_n 3, 1) := by decide +kernel
theorem dX7_likelyOf_12 : decode cX7_likelyOf 12 = .ok (.invokevirtual 130, 3) := by decide +kernel
theorem dX7_likelyOf_15 : decode cX7_likelyOf 15 = .ok (.aload_n 0, 1) := by decide +kernel
theorem dX7_likelyOf_16 : decode cX7_likelyOf 16 = .ok (.iload_n 1, 1) := by decide +kernel
theorem dX7_likelyOf_17 : decode cX7_likelyOf 17 = .ok (.iload_n 2, 1) := by decide +kernel
theorem dX7_likelyOf_18 : decode cX7_likelyOf 18 = .ok (.invokevirtual 130, 3) := by decide +kernel
theorem dX7_likelyOf_21 : decode cX7_likelyOf 21 = .ok (.if_icmp .ge 7, 3) := by decide +kernel
theorem dX7_likelyOf_24 : decode cX7_likelyOf 24 = .ok (.iload_n 3, 1) := by decide +kernel
theorem dX7_likelyOf_25 : decode cX7_likelyOf 25 = .ok (.goto 4, 3) := by decide +kernel
theorem dX7_likelyOf_28 : decode cX7_likelyOf 28 = .ok (.iload_n 2, 1) := by decide +kernel
theorem dX7_likelyOf_29 : decode cX7_likelyOf 29 = .ok (.istore_n 2, 1) := by decide +kernel
theorem dX7_likelyOf_30 : decode cX7_likelyOf 30 = .ok (.iinc 3 1, 3) := by decide +kernel
theorem dX7_likelyOf_33 : decode cX7_likelyOf 33 = .ok (.goto (-29), 3) := by decide +kernel
theorem dX7_likelyOf_36 : decode cX7_likelyOf 36 = .ok (.iload_n 2, 1) := by decide +kernel
theorem dX7_likelyOf_37 : decode cX7_likelyOf 37 = .ok (.ireturn, 1) := by decide +kernel
theorem dX7_listenOf_0 : decode cX7_listenOf 0 = .ok (.aload_n 0, 1) := by decide +kernel
theorem dX7_listenOf_1 : decode cX7_listenOf 1 = .ok (.iload_n 1, 1) := by decide +kernel
theorem dX7_listenOf_2 : decode cX7_listenOf 2 = .ok (.invokevirtual 124, 3) := by decide +kernel
theorem dX7_listenOf_5 : decode cX7_listenOf 5 = .ok (.istore_n 2, 1) := by decide +kernel
theorem dX7_listenOf_6 : decode cX7_listenOf 6 = .ok (.iconst (-1), 1) := by decide +kernel
theorem dX7_listenOf_7 : decode cX7_listenOf 7 = .ok (.istore_n 3, 1) := by decide +kernel
theorem dX7_listenOf_8 : decode cX7_listenOf 8 = .ok (.iconst 5, 1) := by decide +kernel
theorem dX7_listenOf_9 : decode cX7_listenOf 9 = .ok (.istore 4, 2) := by decide +kernel
theorem dX7_listenOf_11 : decode cX7_listenOf 11 = .ok (.iconst 0, 1) := by decide +kernel
theorem dX7_listenOf_12 : decode cX7_listenOf 12 = .ok (.istore 5, 2) := by decide +kernel
theorem dX7_listenOf_14 : decode cX7_listenOf 14 = .ok (.iload 5, 2) := by decide +kernel
theorem dX7_listenOf_16 : decode cX7_listenOf 16 = .ok (.bipush 8, 2) := by decide +kernel
theorem dX7_listenOf_18 : decode cX7_listenOf 18 = .ok (.if_icmp .ge 129, 3) := by decide +kernel
theorem dX7_listenOf_21 : decode cX7_listenOf 21 = .ok (.iload_n 2, 1) := by decide +kernel
theorem dX7_listenOf_22 : decode cX7_listenOf 22 = .ok (.ifCond .eq 125, 3) := by decide +kernel
theorem dX7_listenOf_25 : decode cX7_listenOf 25 = .ok (.iconst 0, 1) := by decide +kernel
theorem dX7_listenOf_26 : decode cX7_listenOf 26 = .ok (.istore 6, 2) := by decide +kernel
theorem dX7_listenOf_28 : decode cX7_listenOf 28 = .ok (.iconst 0, 1) := by decide +kernel
theorem dX7_listenOf_29 : decode cX7_listenOf 29 = .ok (.istore 7, 2) := by decide +kernel
theorem dX7_listenOf_31 : decode cX7_listenOf 31 = .ok (.iconst 0, 1) := by decide +kernel
theorem dX7_listenOf_32 : decode cX7_listenOf 32 = .ok (.istore 8, 2) := by decide +kernel
theorem dX7_listenOf_34 : decode cX7_listenOf 34 = .ok (.iload 8, 2) := by decide +kernel
theorem dX7_listenOf_36 : decode cX7_listenOf 36 = .ok (.iconst 4, 1) := by decide +kernel
theorem dX7_listenOf_37 : decode cX7_listenOf 37 = .ok (.if_icmp .ge 52, 3) := by decide +kernel
theorem dX7_listenOf_40 : decode cX7_listenOf 40 = .ok (.iload_n 2, 1) := by decide +kernel
theorem dX7_listenOf_41 : decode cX7_listenOf 41 = .ok (.iload 8, 2) := by decide +kernel
theorem dX7_listenOf_43 : decode cX7_listenOf 43 = .ok (.ishr, 1) := by decide +kernel
theorem dX7_listenOf_44 : decode cX7_listenOf 44 = .ok (.iconst 1, 1) := by decide +kernel
theorem dX7_listenOf_45 : decode cX7_listenOf 45 = .ok (.iand, 1) := by decide +kernel
theorem dX7_listenOf_46 : decode cX7_listenOf 46 = .ok (.istore 9, 2) := by decide +kernel
theorem dX7_listenOf_48 : decode cX7_listenOf 48 = .ok (.iload 7, 2) := by decide +kernel
theorem dX7_listenOf_50 : decode cX7_listenOf 50 = .ok (.iload 9, 2) := by decide +kernel
theorem dX7_listenOf_52 : decode cX7_listenOf 52 = .ok (.iadd, 1) := by decide +kernel
theorem dX7_listenOf_53 : decode cX7_listenOf 53 = .ok (.istore 7, 2) := by decide +kernel
theorem dX7_listenOf_55 : decode cX7_listenOf 55 = .ok (.iload 6, 2) := by decide +kernel
theorem dX7_listenOf_57 : decode cX7_listenOf 57 = .ok (.iload 9, 2) := by decide +kernel
theorem dX7_listenOf_59 : decode cX7_listenOf 59 = .ok (.aload_n 0, 1) := by decide +kernel
theorem dX7_listenOf_60 : decode cX7_listenOf 60 = .ok (.iload_n 1, 1) := by decide +kernel
theorem dX7_listenOf_61 : decode cX7_listenOf 61 = .ok (.iload 8, 2) := by decide +kernel
theorem dX7_listenOf_63 : decode cX7_listenOf 63 = .ok (.aload_n 0, 1) := by decide +kernel
theorem dX7_listenOf_64 : decode cX7_listenOf 64 = .ok (.getfield 22, 3) := by decide +kernel
theorem dX7_listenOf_67 : decode cX7_listenOf 67 = .ok (.iconst 4, 1) := by decide +kernel
theorem dX7_listenOf_68 : decode cX7_listenOf 68 = .ok (.iload_n 1, 1) := by decide +kernel
theorem dX7_listenOf_69 : decode cX7_listenOf 69 = .ok (.imul, 1) := by decide +kernel
theorem dX7_listenOf_70 : decode cX7_listenOf 70 = .ok (.iconst 3, 1) := by decide +kernel
theorem dX7_listenOf_71 : decode cX7_listenOf 71 = .ok (.iadd, 1) := by decide +kernel
theorem dX7_listenOf_72 : decode cX7_listenOf 72 = .ok (.iaload, 1) := by decide +kernel
theorem dX7_listenOf_73 : decode cX7_listenOf 73 = .ok (.iload 5, 2) := by decide +kernel
theorem dX7_listenOf_75 : decode cX7_listenOf 75 = .ok (.iadd, 1) := by decide +kernel
theorem dX7_listenOf_76 : decode cX7_listenOf 76 = .ok (.invokevirtual 112, 3) := by decide +kernel
theorem dX7_listenOf_79 : decode cX7_listenOf 79 = .ok (.imul, 1) := by decide +kernel
theorem dX7_listenOf_80 : decode cX7_listenOf 80 = .ok (.iadd, 1) := by decide +kernel
theorem dX7_listenOf_81 : decode cX7_listenOf 81 = .ok (.istore 6, 2) := by decide +kernel
theorem dX7_listenOf_83 : decode cX7_listenOf 83 = .ok (.iinc 8 1, 3) := by decide +kernel
theorem dX7_listenOf_86 : decode cX7_listenOf 86 = .ok (.goto (-52), 3) := by decide +kernel
theorem dX7_listenOf_89 : decode cX7_listenOf 89 = .ok (.iload 6, 2) := by decide +kernel
theorem dX7_listenOf_91 : decode cX7_listenOf 91 = .ok (.iload 7, 2) := by decide +kernel
theorem dX7_listenOf_93 : decode cX7_listenOf 93 = .ok (.iload 6, 2) := by decide +kernel
theorem dX7_listenOf_95 : decode cX7_listenOf 95 = .ok (.isub, 1) := by decide +kernel
theorem dX7_listenOf_96 : decode cX7_listenOf 96 = .ok (.if_icmp .le 8, 3) := by decide +kernel
theorem dX7_listenOf_99 : decode cX7_listenOf 99 = .ok (.iload 6, 2) := by decide +kernel
theorem dX7_listenOf_101 : decode cX7_listenOf 101 = .ok (.goto 8, 3) := by decide +kernel
theorem dX7_listenOf_104 : decode cX7_listenOf 104 = .ok (.iload 7, 2) := by decide +kernel
theorem dX7_listenOf_106 : decode cX7_listenOf 106 = .ok (.iload 6, 2) := by decide +kernel
theorem dX7_listenOf_108 : decode cX7_listenOf 108 = .ok (.isub, 1) := by decide +kernel
theorem dX7_listenOf_109 : decode cX7_listenOf 109 = .ok (.istore 8, 2) := by decide +kernel
theorem dX7_listenOf_111 : decode cX7_listenOf 111 = .ok (.iload 8, 2) := by decide +kernel
theorem dX7_listenOf_113 : decode cX7_listenOf 113 = .ok (.iload 4, 2) := by decide +kernel
theorem dX7_listenOf_115 : decode cX7_listenOf 115 = .ok (.if_icmp .ge 8, 3) := by decide +kernel
theorem dX7_listenOf_118 : decode cX7_listenOf 118 = .ok (.iload 5, 2) := by decide +kernel
theorem dX7_listenOf_120 : decode cX7_listenOf 120 = .ok (.goto 4, 3) := by decide +kernel
theorem dX7_listenOf_123 : decode cX7_listenOf 123 = .ok (.iload_n 3, 1) := by decide +kernel
theorem dX7_listenOf_124 : decode cX7_listenOf 124 = .ok (.istore_n 3, 1) := by decide +kernel
theorem dX7_listenOf_125 : decode cX7_listenOf 125 = .ok (.iload 8, 2) := by decide +kernel
theorem dX7_listenOf_127 : decode cX7_listenOf 127 = .ok (.iload 4, 2) := by decide +kernel
theorem dX7_listenOf_129 : decode cX7_listenOf 129 = .ok (.if_icmp .ge 8, 3) := by decide +kernel
theorem dX7_listenOf_132 : decode cX7_listenOf 132 = .ok (.iload 8, 2) := by decide +kernel
theorem dX7_listenOf_134 : decode cX7_listenOf 134 = .ok (.goto 5, 3) := by decide +kernel
theorem dX7_listenOf_137 : decode cX7_listenOf 137 = .ok (.iload 4, 2) := by decide +kernel
theorem dX7_listenOf_139 : decode cX7_listenOf 139 = .ok (.istore 4, 2) := by decide +kernel
theorem dX7_listenOf_141 : decode cX7_listenOf 141 = .ok (.iinc 5 1, 3) := by decide +kernel
theorem dX7_listenOf_144 : decode cX7_listenOf 144 = .ok (.goto (-130), 3) := by decide +kernel
theorem dX7_listenOf_147 : decode cX7_listenOf 147 = .ok (.iload_n 3, 1) := by decide +kernel
theorem dX7_listenOf_148 : decode cX7_listenOf 148 = .ok (.ireturn, 1) := by decide +kernel
theorem dX7_draw_0 : decode cX7_draw 0 = .ok (.aload_n 0, 1) := by decide +kernel
theorem dX7_draw_1 : decode cX7_draw 1 = .ok (.ldc2_w 158, 3) := by decide +kernel
theorem dX7_draw_4 : decode cX7_draw 4 = .ok (.aload_n 0, 1) := by decide +kernel
theorem dX7_draw_5 : decode cX7_draw 5 = .ok (.getfield 160, 3) := by decide +kernel
theorem dX7_draw_8 : decode cX7_draw 8 = .ok (.i2l, 1) := by decide +kernel
theorem dX7_draw_9 : decode cX7_draw 9 = .ok (.lmul, 1) := by decide +kernel
theorem dX7_draw_10 : decode cX7_draw 10 = .ok (.ldc2_w 163, 3) := by decide +kernel
theorem dX7_draw_13 : decode cX7_draw 13 = .ok (.ladd, 1) := by decide +kernel
theorem dX7_draw_14 : decode cX7_draw 14 = .ok (.ldc2_w 165, 3) := by decide +kernel
theorem dX7_draw_17 : decode cX7_draw 17 = .ok (.land, 1) := by decide +kernel
theorem dX7_draw_18 : decode cX7_draw 18 = .ok (.l2i, 1) := by decide +kernel
theorem dX7_draw_19 : decode cX7_draw 19 = .ok (.putfield 160, 3) := by decide +kernel
theorem dX7_draw_22 : decode cX7_draw 22 = .ok (.aload_n 0, 1) := by decide +kernel
theorem dX7_draw_23 : decode cX7_draw 23 = .ok (.getfield 160, 3) := by decide +kernel
theorem dX7_draw_26 : decode cX7_draw 26 = .ok (.ldc 167, 2) := by decide +kernel
theorem dX7_draw_28 : decode cX7_draw 28 = .ok (.idiv, 1) := by decide +kernel
theorem dX7_draw_29 : decode cX7_draw 29 = .ok (.iload_n 1, 1) := by decide +kernel
theorem dX7_draw_30 : decode cX7_draw 30 = .ok (.irem, 1) := by decide +kernel
theorem dX7_draw_31 : decode cX7_draw 31 = .ok (.ireturn, 1) := by decide +kernel
theorem dX7_nights_0 : decode cX7_nights 0 = .ok (.iload_n 1, 1) := by decide +kernel
theorem dX7_nights_1 : decode cX7_nights 1 = .ok (.i2l, 1) := by decide +kernel
theorem dX7_nights_2 : decode cX7_nights 2 = .ok (.lconst 1, 1) := by decide +kernel
theorem dX7_nights_3 : decode cX7_nights 3 = .ok (.ldc2_w 168, 3) := by decide +kernel
theorem dX7_nights_6 : decode cX7_nights 6 = .ok (.invokestatic 40, 3) := by decide +kernel
theorem dX7_nights_9 : decode cX7_nights 9 = .ok (.ifCond .eq 19, 3) := by decide +kernel
theorem dX7_nights_12 : decode cX7_nights 12 = .ok (.iload_n 2, 1) := by decide +kernel
theorem dX7_nights_13 : decode cX7_nights 13 = .ok (.ifCond .lt 15, 3) := by decide +kernel
theorem dX7_nights_16 : decode cX7_nights 16 = .ok (.iload_n 3, 1) := by decide +kernel
theorem dX7_nights_17 : decode cX7_nights 17 = .ok (.i2l, 1) := by decide +kernel
theorem dX7_nights_18 : decode cX7_nights 18 = .ok (.lconst 0, 1) := by decide +kernel
theorem dX7_nights_19 : decode cX7_nights 19 = .ok (.ldc2_w 170, 3) := by decide +kernel
theorem dX7_nights_22 : decode cX7_nights 22 = .ok (.invokestatic 40, 3) := by decide +kernel
theorem dX7_nights_25 : decode cX7_nights 25 = .ok (.ifCond .ne 6, 3) := by decide +kernel
theorem dX7_nights_28 : decode cX7_nights 28 = .ok (.bipush (-102), 2) := by decide +kernel
theorem dX7_nights_30 : decode cX7_nights 30 = .ok (.ireturn, 1) := by decide +kernel
theorem dX7_nights_31 : decode cX7_nights 31 = .ok (.aload_n 0, 1) := by decide +kernel
theorem dX7_nights_32 : decode cX7_nights 32 = .ok (.invokevirtual 97, 3) := by decide +kernel
theorem dX7_nights_35 : decode cX7_nights 35 = .ok (.ifCond .eq 6, 3) := by decide +kernel
theorem dX7_nights_38 : decode cX7_nights 38 = .ok (.bipush (-103), 2) := by decide +kernel
theorem dX7_nights_40 : decode cX7_nights 40 = .ok (.ireturn, 1) := by decide +kernel
theorem dX7_nights_41 : decode cX7_nights 41 = .ok (.aload_n 0, 1) := by decide +kernel
theorem dX7_nights_42 : decode cX7_nights 42 = .ok (.iload_n 2, 1) := by decide +kernel
theorem dX7_nights_43 : decode cX7_nights 43 = .ok (.putfield 160, 3) := by decide +kernel
theorem dX7_nights_46 : decode cX7_nights 46 = .ok (.iconst 0, 1) := by decide +kernel
theorem dX7_nights_47 : decode cX7_nights 47 = .ok (.istore 4, 2) := by decide +kernel
theorem dX7_nights_49 : decode cX7_nights 49 = .ok (.iconst 0, 1) := by decide +kernel
theorem dX7_nights_50 : decode cX7_nights 50 = .ok (.istore 5, 2) := by decide +kernel
theorem dX7_nights_52 : decode cX7_nights 52 = .ok (.iconst 0, 1) := by decide +kernel
theorem dX7_nights_53 : decode cX7_nights 53 = .ok (.istore 6, 2) := by decide +kernel
theorem dX7_nights_55 : decode cX7_nights 55 = .ok (.iload 6, 2) := by decide +kernel
theorem dX7_nights_57 : decode cX7_nights 57 = .ok (.iload_n 1, 1) := by decide +kernel
theorem dX7_nights_58 : decode cX7_nights 58 = .ok (.if_icmp .ge 99, 3) := by decide +kernel
theorem dX7_nights_61 : decode cX7_nights 61 = .ok (.iconst 0, 1) := by decide +kernel
theorem dX7_nights_62 : decode cX7_nights 62 = .ok (.istore 7, 2) := by decide +kernel
theorem dX7_nights_64 : decode cX7_nights 64 = .ok (.iload 7, 2) := by decide +kernel
theorem dX7_nights_66 : decode cX7_nights 66 = .ok (.aload_n 0, 1) := by decide +kernel
theorem dX7_nights_67 : decode cX7_nights 67 = .ok (.getfield 75, 3) := by decide +kernel
theorem dX7_nights_70 : decode cX7_nights 70 = .ok (.if_icmp .ge 81, 3) := by decide +kernel
theorem dX7_nights_73 : decode cX7_nights 73 = .ok (.aload_n 0, 1) := by decide +kernel
theorem dX7_nights_74 : decode cX7_nights 74 = .ok (.iload 7, 2) := by decide +kernel
theorem dX7_nights_76 : decode cX7_nights 76 = .ok (.aload_n 0, 1) := by decide +kernel
theorem dX7_nights_77 : decode cX7_nights 77 = .ok (.getfield 22, 3) := by decide +kernel
theorem dX7_nights_80 : decode cX7_nights 80 = .ok (.iconst 4, 1) := by decide +kernel
theorem dX7_nights_81 : decode cX7_nights 81 = .ok (.iload 7, 2) := by decide +kernel
theorem dX7_nights_83 : decode cX7_nights 83 = .ok (.imul, 1) := by decide +kernel
theorem dX7_nights_84 : decode cX7_nights 84 = .ok (.iconst 3, 1) := by decide +kernel
theorem dX7_nights_85 : decode cX7_nights 85 = .ok (.iadd, 1) := by decide +kernel
theorem dX7_nights_86 : decode cX7_nights 86 = .ok (.iaload, 1) := by decide +kernel
theorem dX7_nights_87 : decode cX7_nights 87 = .ok (.iload 6, 2) := by decide +kernel
theorem dX7_nights_89 : decode cX7_nights 89 = .ok (.iadd, 1) := by decide +kernel
theorem dX7_nights_90 : decode cX7_nights 90 = .ok (.invokevirtual 144, 3) := by decide +kernel
theorem dX7_nights_93 : decode cX7_nights 93 = .ok (.istore 8, 2) := by decide +kernel
theorem dX7_nights_95 : decode cX7_nights 95 = .ok (.aload_n 0, 1) := by decide +kernel
theorem dX7_nights_96 : decode cX7_nights 96 = .ok (.bipush 8, 2) := by decide +kernel
theorem dX7_nights_98 : decode cX7_nights 98 = .ok (.invokevirtual 172, 3) := by decide +kernel
theorem dX7_nights_101 : decode cX7_nights 101 = .ok (.ifCond .ne 7, 3) := by decide +kernel
theorem dX7_nights_104 : decode cX7_nights 104 = .ok (.iconst 1, 1) := by decide +kernel
theorem dX7_nights_105 : decode cX7_nights 105 = .ok (.goto 4, 3) := by decide +kernel
theorem dX7_nights_108 : decode cX7_nights 108 = .ok (.iconst 0, 1) := by decide +kernel
theorem dX7_nights_109 : decode cX7_nights 109 = .ok (.istore 9, 2) := by decide +kernel
theorem dX7_nights_111 : decode cX7_nights 111 = .ok (.iload 5, 2) := by decide +kernel
theorem dX7_nights_113 : decode cX7_nights 113 = .ok (.iload 9, 2) := by decide +kernel
theorem dX7_nights_115 : decode cX7_nights 115 = .ok (.ifCond .eq 7, 3) := by decide +kernel
theorem dX7_nights_118 : decode cX7_nights 118 = .ok (.iconst 1, 1) := by decide +kernel
theorem dX7_nights_119 : decode cX7_nights 119 = .ok (.goto 4, 3) := by decide +kernel
theorem dX7_nights_122 : decode cX7_nights 122 = .ok (.iconst 0, 1) := by decide +kernel
theorem dX7_nights_123 : decode cX7_nights 123 = .ok (.iadd, 1) := by decide +kernel
theorem dX7_nights_124 : decode cX7_nights 124 = .ok (.istore 5, 2) := by decide +kernel
theorem dX7_nights_126 : decode cX7_nights 126 = .ok (.iload 4, 2) := by decide +kernel
theorem dX7_nights_128 : decode cX7_nights 128 = .ok (.iload 9, 2) := by decide +kernel
theorem dX7_nights_130 : decode cX7_nights 130 = .ok (.ifCond .eq 10, 3) := by decide +kernel
theorem dX7_nights_133 : decode cX7_nights 133 = .ok (.iconst 1, 1) := by decide +kernel
theorem dX7_nights_134 : decode cX7_nights 134 = .ok (.iload 8, 2) := by decide +kernel
theorem dX7_nights_136 : decode cX7_nights 136 = .ok (.isub, 1) := by decide +kernel
theorem dX7_nights_137 : decode cX7_nights 137 = .ok (.goto 5, 3) := by decide +kernel
theorem dX7_nights_140 : decode cX7_nights 140 = .ok (.iload 8, 2) := by decide +kernel
theorem dX7_nights_142 : decode cX7_nights 142 = .ok (.iadd, 1) := by decide +kernel
theorem dX7_nights_143 : decode cX7_nights 143 = .ok (.istore 4, 2) := by decide +kernel
theorem dX7_nights_145 : decode cX7_nights 145 = .ok (.iinc 7 1, 3) := by decide +kernel
theorem dX7_nights_148 : decode cX7_nights 148 = .ok (.goto (-84), 3) := by decide +kernel
theorem dX7_nights_151 : decode cX7_nights 151 = .ok (.iinc 6 1, 3) := by decide +kernel
theorem dX7_nights_154 : decode cX7_nights 154 = .ok (.goto (-99), 3) := by decide +kernel
theorem dX7_nights_157 : decode cX7_nights 157 = .ok (.iload_n 3, 1) := by decide +kernel
theorem dX7_nights_158 : decode cX7_nights 158 = .ok (.ifCond .ne 8, 3) := by decide +kernel
theorem dX7_nights_161 : decode cX7_nights 161 = .ok (.iload 4, 2) := by decide +kernel
theorem dX7_nights_163 : decode cX7_nights 163 = .ok (.goto 17, 3) := by decide +kernel
theorem dX7_nights_166 : decode cX7_nights 166 = .ok (.iload_n 3, 1) := by decide +kernel
theorem dX7_nights_167 : decode cX7_nights 167 = .ok (.iconst 1, 1) := by decide +kernel
theorem dX7_nights_168 : decode cX7_nights 168 = .ok (.if_icmp .ne 8, 3) := by decide +kernel
theorem dX7_nights_171 : decode cX7_nights 171 = .ok (.iload 5, 2) := by decide +kernel
theorem dX7_nights_173 : decode cX7_nights 173 = .ok (.goto 7, 3) := by decide +kernel
theorem dX7_nights_176 : decode cX7_nights 176 = .ok (.aload_n 0, 1) := by decide +kernel
theorem dX7_nights_177 : decode cX7_nights 177 = .ok (.getfield 160, 3) := by decide +kernel
theorem dX7_nights_180 : decode cX7_nights 180 = .ok (.ireturn, 1) := by decide +kernel
theorem dX7_image_0 : decode cX7_image 0 = .ok (.aload_n 0, 1) := by decide +kernel
theorem dX7_image_1 : decode cX7_image 1 = .ok (.invokevirtual 97, 3) := by decide +kernel
theorem dX7_image_4 : decode cX7_image 4 = .ok (.ifCond .eq 6, 3) := by decide +kernel
theorem dX7_image_7 : decode cX7_image 7 = .ok (.bipush (-103), 2) := by decide +kernel
theorem dX7_image_9 : decode cX7_image 9 = .ok (.ireturn, 1) := by decide +kernel
theorem dX7_image_10 : decode cX7_image 10 = .ok (.aload_n 0, 1) := by decide +kernel
theorem dX7_image_11 : decode cX7_image 11 = .ok (.getfield 22, 3) := by decide +kernel
theorem dX7_image_14 : decode cX7_image 14 = .ok (.aload_n 0, 1) := by decide +kernel
theorem dX7_image_15 : decode cX7_image 15 = .ok (.getfield 28, 3) := by decide +kernel
theorem dX7_image_18 : decode cX7_image 18 = .ok (.invokestatic 78, 3) := by decide +kernel
theorem dX7_image_21 : decode cX7_image 21 = .ok (.aload_n 0, 1) := by decide +kernel
theorem dX7_image_22 : decode cX7_image 22 = .ok (.getfield 25, 3) := by decide +kernel
theorem dX7_image_25 : decode cX7_image 25 = .ok (.aload_n 0, 1) := by decide +kernel
theorem dX7_image_26 : decode cX7_image 26 = .ok (.getfield 31, 3) := by decide +kernel
theorem dX7_image_29 : decode cX7_image 29 = .ok (.invokestatic 78, 3) := by decide +kernel
theorem dX7_image_32 : decode cX7_image 32 = .ok (.aload_n 0, 1) := by decide +kernel
theorem dX7_image_33 : decode cX7_image 33 = .ok (.aload_n 0, 1) := by decide +kernel
theorem dX7_image_34 : decode cX7_image 34 = .ok (.getfield 75, 3) := by decide +kernel
theorem dX7_image_37 : decode cX7_image 37 = .ok (.putfield 175, 3) := by decide +kernel
theorem dX7_image_40 : decode cX7_image 40 = .ok (.aload_n 0, 1) := by decide +kernel
theorem dX7_image_41 : decode cX7_image 41 = .ok (.aload_n 0, 1) := by decide +kernel
theorem dX7_image_42 : decode cX7_image 42 = .ok (.getfield 82, 3) := by decide +kernel
theorem dX7_image_45 : decode cX7_image 45 = .ok (.putfield 178, 3) := by decide +kernel
theorem dX7_image_48 : decode cX7_image 48 = .ok (.aload_n 0, 1) := by decide +kernel
theorem dX7_image_49 : decode cX7_image 49 = .ok (.aload_n 0, 1) := by decide +kernel
theorem dX7_image_50 : decode cX7_image 50 = .ok (.getfield 85, 3) := by decide +kernel
theorem dX7_image_53 : decode cX7_image 53 = .ok (.putfield 181, 3) := by decide +kernel
theorem dX7_image_56 : decode cX7_image 56 = .ok (.aload_n 0, 1) := by decide +kernel
theorem dX7_image_57 : decode cX7_image 57 = .ok (.aload_n 0, 1) := by decide +kernel
theorem dX7_image_58 : decode cX7_image 58 = .ok (.getfield 88, 3) := by decide +kernel
theorem dX7_image_61 : decode cX7_image 61 = .ok (.putfield 34, 3) := by decide +kernel
theorem dX7_image_64 : decode cX7_image 64 = .ok (.aload_n 0, 1) := by decide +kernel
theorem dX7_image_65 : decode cX7_image 65 = .ok (.getfield 82, 3) := by decide +kernel
theorem dX7_image_68 : decode cX7_image 68 = .ok (.ireturn, 1) := by decide +kernel
theorem dX7_restore_0 : decode cX7_restore 0 = .ok (.aload_n 0, 1) := by decide +kernel
theorem dX7_restore_1 : decode cX7_restore 1 = .ok (.getfield 34, 3) := by decide +kernel
theorem dX7_restore_4 : decode cX7_restore 4 = .ok (.aload_n 0, 1) := by decide +kernel
theorem dX7_restore_5 : decode cX7_restore 5 = .ok (.getfield 88, 3) := by decide +kernel
theorem dX7_restore_8 : decode cX7_restore 8 = .ok (.if_icmp .eq 6, 3) := by decide +kernel
theorem dX7_restore_11 : decode cX7_restore 11 = .ok (.bipush (-103), 2) := by decide +kernel
theorem dX7_restore_13 : decode cX7_restore 13 = .ok (.ireturn, 1) := by decide +kernel
theorem dX7_restore_14 : decode cX7_restore 14 = .ok (.aload_n 0, 1) := by decide +kernel
theorem dX7_restore_15 : decode cX7_restore 15 = .ok (.getfield 28, 3) := by decide +kernel
theorem dX7_restore_18 : decode cX7_restore 18 = .ok (.aload_n 0, 1) := by decide +kernel
theorem dX7_restore_19 : decode cX7_restore 19 = .ok (.getfield 22, 3) := by decide +kernel
theorem dX7_restore_22 : decode cX7_restore 22 = .ok (.invokestatic 78, 3) := by decide +kernel
theorem dX7_restore_25 : decode cX7_restore 25 = .ok (.aload_n 0, 1) := by decide +kernel
theorem dX7_restore_26 : decode cX7_restore 26 = .ok (.getfield 31, 3) := by decide +kernel
theorem dX7_restore_29 : decode cX7_restore 29 = .ok (.aload_n 0, 1) := by decide +kernel
theorem dX7_restore_30 : decode cX7_restore 30 = .ok (.getfield 25, 3) := by decide +kernel
theorem dX7_restore_33 : decode cX7_restore 33 = .ok (.invokestatic 78, 3) := by decide +kernel
theorem dX7_restore_36 : decode cX7_restore 36 = .ok (.aload_n 0, 1) := by decide +kernel
theorem dX7_restore_37 : decode cX7_restore 37 = .ok (.aload_n 0, 1) := by decide +kernel
theorem dX7_restore_38 : decode cX7_restore 38 = .ok (.getfield 175, 3) := by decide +kernel
theorem dX7_restore_41 : decode cX7_restore 41 = .ok (.putfield 75, 3) := by decide +kernel
theorem dX7_restore_44 : decode cX7_restore 44 = .ok (.aload_n 0, 1) := by decide +kernel
theorem dX7_restore_45 : decode cX7_restore 45 = .ok (.aload_n 0, 1) := by decide +kernel
theorem dX7_restore_46 : decode cX7_restore 46 = .ok (.getfield 178, 3) := by decide +kernel
theorem dX7_restore_49 : decode cX7_restore 49 = .ok (.putfield 82, 3) := by decide +kernel
theorem dX7_restore_52 : decode cX7_restore 52 = .ok (.aload_n 0, 1) := by decide +kernel
theorem dX7_restore_53 : decode cX7_restore 53 = .ok (.aload_n 0, 1) := by decide +kernel
theorem dX7_restore_54 : decode cX7_restore 54 = .ok (.getfield 181, 3) := by decide +kernel
theorem dX7_restore_57 : decode cX7_restore 57 = .ok (.putfield 85, 3) := by decide +kernel
theorem dX7_restore_60 : decode cX7_restore 60 = .ok (.aload_n 0, 1) := by decide +kernel
theorem dX7_restore_61 : decode cX7_restore 61 = .ok (.getfield 82, 3) := by decide +kernel
theorem dX7_restore_64 : decode cX7_restore 64 = .ok (.ireturn, 1) := by decide +kernel
theorem dX7_beatsAll_0 : decode cX7_beatsAll 0 = .ok (.iconst 0, 1) := by decide +kernel
theorem dX7_beatsAll_1 : decode cX7_beatsAll 1 = .ok (.istore_n 1, 1) := by decide +kernel
theorem dX7_beatsAll_2 : decode cX7_beatsAll 2 = .ok (.iconst 0, 1) := by decide +kernel
theorem dX7_beatsAll_3 : decode cX7_beatsAll 3 = .ok (.istore_n 2, 1) := by decide +kernel
theorem dX7_beatsAll_4 : decode cX7_beatsAll 4 = .ok (.iload_n 2, 1) := by decide +kernel
theorem dX7_beatsAll_5 : decode cX7_beatsAll 5 = .ok (.iconst 4, 1) := by decide +kernel
theorem dX7_beatsAll_6 : decode cX7_beatsAll 6 = .ok (.if_icmp .ge 27, 3) := by decide +kernel
theorem dX7_beatsAll_9 : decode cX7_beatsAll 9 = .ok (.aload_n 0, 1) := by decide +kernel
theorem dX7_beatsAll_10 : decode cX7_beatsAll 10 = .ok (.invokevirtual 97, 3) := by decide +kernel
theorem dX7_beatsAll_13 : decode cX7_beatsAll 13 = .ok (.ifCond .ne 20, 3) := by decide +kernel
theorem dX7_beatsAll_16 : decode cX7_beatsAll 16 = .ok (.iload_n 1, 1) := by decide +kernel
theorem dX7_beatsAll_17 : decode cX7_beatsAll 17 = .ok (.aload_n 0, 1) := by decide +kernel
theorem dX7_beatsAll_18 : decode cX7_beatsAll 18 = .ok (.getfield 19, 3) := by decide +kernel
theorem dX7_beatsAll_21 : decode cX7_beatsAll 21 = .ok (.iconst 5, 1) := by decide +kernel
theorem dX7_beatsAll_22 : decode cX7_beatsAll 22 = .ok (.iload_n 2, 1) := by decide +kernel
theorem dX7_beatsAll_23 : decode cX7_beatsAll 23 = .ok (.imul, 1) := by decide +kernel
theorem dX7_beatsAll_24 : decode cX7_beatsAll 24 = .ok (.iaload, 1) := by decide +kernel
theorem dX7_beatsAll_25 : decode cX7_beatsAll 25 = .ok (.iadd, 1) := by decide +kernel
theorem dX7_beatsAll_26 : decode cX7_beatsAll 26 = .ok (.istore_n 1, 1) := by decide +kernel
theorem dX7_beatsAll_27 : decode cX7_beatsAll 27 = .ok (.iinc 2 1, 3) := by decide +kernel
theorem dX7_beatsAll_30 : decode cX7_beatsAll 30 = .ok (.goto (-26), 3) := by decide +kernel
theorem dX7_beatsAll_33 : decode cX7_beatsAll 33 = .ok (.iload_n 1, 1) := by decide +kernel
theorem dX7_beatsAll_34 : decode cX7_beatsAll 34 = .ok (.ireturn, 1) := by decide +kernel
theorem dX7_sumAt_0 : decode cX7_sumAt 0 = .ok (.iconst 0, 1) := by decide +kernel
theorem dX7_sumAt_1 : decode cX7_sumAt 1 = .ok (.istore_n 2, 1) := by decide +kernel
theorem dX7_sumAt_2 : decode cX7_sumAt 2 = .ok (.iconst 0, 1) := by decide +kernel
theorem dX7_sumAt_3 : decode cX7_sumAt 3 = .ok (.istore_n 3, 1) := by decide +kernel
theorem dX7_sumAt_4 : decode cX7_sumAt 4 = .ok (.iload_n 3, 1) := by decide +kernel
theorem dX7_sumAt_5 : decode cX7_sumAt 5 = .ok (.aload_n 0, 1) := by decide +kernel
theorem dX7_sumAt_6 : decode cX7_sumAt 6 = .ok (.getfield 75, 3) := by decide +kernel
theorem dX7_sumAt_9 : decode cX7_sumAt 9 = .ok (.if_icmp .ge 22, 3) := by decide +kernel
theorem dX7_sumAt_12 : decode cX7_sumAt 12 = .ok (.iload_n 2, 1) := by decide +kernel
theorem dX7_sumAt_13 : decode cX7_sumAt 13 = .ok (.aload_n 0, 1) := by decide +kernel
theorem dX7_sumAt_14 : decode cX7_sumAt 14 = .ok (.getfield 22, 3) := by decide +kernel
theorem dX7_sumAt_17 : decode cX7_sumAt 17 = .ok (.iconst 4, 1) := by decide +kernel
theorem dX7_sumAt_18 : decode cX7_sumAt 18 = .ok (.iload_n 3, 1) := by decide +kernel
theorem dX7_sumAt_19 : decode cX7_sumAt 19 = .ok (.imul, 1) := by decide +kernel
theorem dX7_sumAt_20 : decode cX7_sumAt 20 = .ok (.iload_n 1, 1) := by decide +kernel
theorem dX7_sumAt_21 : decode cX7_sumAt 21 = .ok (.iadd, 1) := by decide +kernel
theorem dX7_sumAt_22 : decode cX7_sumAt 22 = .ok (.iaload, 1) := by decide +kernel
theorem dX7_sumAt_23 : decode cX7_sumAt 23 = .ok (.iadd, 1) := by decide +kernel
theorem dX7_sumAt_24 : decode cX7_sumAt 24 = .ok (.istore_n 2, 1) := by decide +kernel
theorem dX7_sumAt_25 : decode cX7_sumAt 25 = .ok (.iinc 3 1, 3) := by decide +kernel
theorem dX7_sumAt_28 : decode cX7_sumAt 28 = .ok (.goto (-24), 3) := by decide +kernel
theorem dX7_sumAt_31 : decode cX7_sumAt 31 = .ok (.iload_n 2, 1) := by decide +kernel
theorem dX7_sumAt_32 : decode cX7_sumAt 32 = .ok (.ireturn, 1) := by decide +kernel
theorem dX7_countOf_0 : decode cX7_countOf 0 = .ok (.iload_n 1, 1) := by decide +kernel
theorem dX7_countOf_1 : decode cX7_countOf 1 = .ok (.tableswitch 89 0 7 #[47, 52, 57, 63, 69, 74, 79, 84], 47) := by decide +kernel
theorem dX7_countOf_48 : decode cX7_countOf 48 = .ok (.aload_n 0, 1) := by decide +kernel
theorem dX7_countOf_49 : decode cX7_countOf 49 = .ok (.getfield 75, 3) := by decide +kernel
theorem dX7_countOf_52 : decode cX7_countOf 52 = .ok (.ireturn, 1) := by decide +kernel
theorem dX7_countOf_53 : decode cX7_countOf 53 = .ok (.aload_n 0, 1) := by decide +kernel
theorem dX7_countOf_54 : decode cX7_countOf 54 = .ok (.invokevirtual 184, 3) := by decide +kernel
theorem dX7_countOf_57 : decode cX7_countOf 57 = .ok (.ireturn, 1) := by decide +kernel
theorem dX7_countOf_58 : decode cX7_countOf 58 = .ok (.aload_n 0, 1) := by decide +kernel
theorem dX7_countOf_59 : decode cX7_countOf 59 = .ok (.iconst 2, 1) := by decide +kernel
theorem dX7_countOf_60 : decode cX7_countOf 60 = .ok (.invokevirtual 187, 3) := by decide +kernel
theorem dX7_countOf_63 : decode cX7_countOf 63 = .ok (.ireturn, 1) := by decide +kernel
theorem dX7_countOf_64 : decode cX7_countOf 64 = .ok (.aload_n 0, 1) := by decide +kernel
theorem dX7_countOf_65 : decode cX7_countOf 65 = .ok (.iconst 3, 1) := by decide +kernel
theorem dX7_countOf_66 : decode cX7_countOf 66 = .ok (.invokevirtual 187, 3) := by decide +kernel
theorem dX7_countOf_69 : decode cX7_countOf 69 = .ok (.ireturn, 1) := by decide +kernel
theorem dX7_countOf_70 : decode cX7_countOf 70 = .ok (.aload_n 0, 1) := by decide +kernel
theorem dX7_countOf_71 : decode cX7_countOf 71 = .ok (.getfield 82, 3) := by decide +kernel
theorem dX7_countOf_74 : decode cX7_countOf 74 = .ok (.ireturn, 1) := by decide +kernel
theorem dX7_countOf_75 : decode cX7_countOf 75 = .ok (.aload_n 0, 1) := by decide +kernel
theorem dX7_countOf_76 : decode cX7_countOf 76 = .ok (.getfield 85, 3) := by decide +kernel
theorem dX7_countOf_79 : decode cX7_countOf 79 = .ok (.ireturn, 1) := by decide +kernel
theorem dX7_countOf_80 : decode cX7_countOf 80 = .ok (.aload_n 0, 1) := by decide +kernel
theorem dX7_countOf_81 : decode cX7_countOf 81 = .ok (.getfield 44, 3) := by decide +kernel
theorem dX7_countOf_84 : decode cX7_countOf 84 = .ok (.ireturn, 1) := by decide +kernel
theorem dX7_countOf_85 : decode cX7_countOf 85 = .ok (.aload_n 0, 1) := by decide +kernel
theorem dX7_countOf_86 : decode cX7_countOf 86 = .ok (.getfield 88, 3) := by decide +kernel
theorem dX7_countOf_89 : decode cX7_countOf 89 = .ok (.ireturn, 1) := by decide +kernel
theorem dX7_countOf_90 : decode cX7_countOf 90 = .ok (.bipush (-102), 2) := by decide +kernel
theorem dX7_countOf_92 : decode cX7_countOf 92 = .ok (.ireturn, 1) := by decide +kernel
theorem dX7_count_0 : decode cX7_count 0 = .ok (.aload_n 0, 1) := by decide +kernel
theorem dX7_count_1 : decode cX7_count 1 = .ok (.iload_n 1, 1) := by decide +kernel
theorem dX7_count_2 : decode cX7_count 2 = .ok (.invokevirtual 190, 3) := by decide +kernel
theorem dX7_count_5 : decode cX7_count 5 = .ok (.ireturn, 1) := by decide +kernel
theorem dX7_say_0 : decode cX7_say 0 = .ok (.aload_n 0, 1) := by decide +kernel
theorem dX7_say_1 : decode cX7_say 1 = .ok (.ldc2_w 193, 3) := by decide +kernel
theorem dX7_say_4 : decode cX7_say 4 = .ok (.aload_n 0, 1) := by decide +kernel
theorem dX7_say_5 : decode cX7_say 5 = .ok (.getfield 195, 3) := by decide +kernel
theorem dX7_say_8 : decode cX7_say 8 = .ok (.lmul, 1) := by decide +kernel
theorem dX7_say_9 : decode cX7_say 9 = .ok (.lload_n 1, 1) := by decide +kernel
theorem dX7_say_10 : decode cX7_say 10 = .ok (.ladd, 1) := by decide +kernel
theorem dX7_say_11 : decode cX7_say 11 = .ok (.putfield 195, 3) := by decide +kernel
theorem dX7_say_14 : decode cX7_say 14 = .ok (.return_, 1) := by decide +kernel
theorem dX7_sayTap_0 : decode cX7_sayTap 0 = .ok (.iconst 0, 1) := by decide +kernel
theorem dX7_sayTap_1 : decode cX7_sayTap 1 = .ok (.istore_n 2, 1) := by decide +kernel
theorem dX7_sayTap_2 : decode cX7_sayTap 2 = .ok (.iload_n 2, 1) := by decide +kernel
theorem dX7_sayTap_3 : decode cX7_sayTap 3 = .ok (.bipush 9, 2) := by decide +kernel
theorem dX7_sayTap_5 : decode cX7_sayTap 5 = .ok (.if_icmp .ge 20, 3) := by decide +kernel
theorem dX7_sayTap_8 : decode cX7_sayTap 8 = .ok (.aload_n 0, 1) := by decide +kernel
theorem dX7_sayTap_9 : decode cX7_sayTap 9 = .ok (.aload_n 0, 1) := by decide +kernel
theorem dX7_sayTap_10 : decode cX7_sayTap 10 = .ok (.iload_n 1, 1) := by decide +kernel
theorem dX7_sayTap_11 : decode cX7_sayTap 11 = .ok (.iload_n 2, 1) := by decide +kernel
theorem dX7_sayTap_12 : decode cX7_sayTap 12 = .ok (.invokevirtual 139, 3) := by decide +kernel
theorem dX7_sayTap_15 : decode cX7_sayTap 15 = .ok (.i2l, 1) := by decide +kernel
theorem dX7_sayTap_16 : decode cX7_sayTap 16 = .ok (.invokevirtual 199, 3) := by decide +kernel
theorem dX7_sayTap_19 : decode cX7_sayTap 19 = .ok (.iinc 2 1, 3) := by decide +kernel
theorem dX7_sayTap_22 : decode cX7_sayTap 22 = .ok (.goto (-20), 3) := by decide +kernel
theorem dX7_sayTap_25 : decode cX7_sayTap 25 = .ok (.iconst 0, 1) := by decide +kernel
theorem dX7_sayTap_26 : decode cX7_sayTap 26 = .ok (.istore_n 2, 1) := by decide +kernel
theorem dX7_sayTap_27 : decode cX7_sayTap 27 = .ok (.iload_n 2, 1) := by decide +kernel
theorem dX7_sayTap_28 : decode cX7_sayTap 28 = .ok (.bipush 8, 2) := by decide +kernel
theorem dX7_sayTap_30 : decode cX7_sayTap 30 = .ok (.if_icmp .ge 20, 3) := by decide +kernel
theorem dX7_sayTap_33 : decode cX7_sayTap 33 = .ok (.aload_n 0, 1) := by decide +kernel
theorem dX7_sayTap_34 : decode cX7_sayTap 34 = .ok (.aload_n 0, 1) := by decide +kernel
theorem dX7_sayTap_35 : decode cX7_sayTap 35 = .ok (.iload_n 1, 1) := by decide +kernel
theorem dX7_sayTap_36 : decode cX7_sayTap 36 = .ok (.iload_n 2, 1) := by decide +kernel
theorem dX7_sayTap_37 : decode cX7_sayTap 37 = .ok (.invokevirtual 144, 3) := by decide +kernel
theorem dX7_sayTap_40 : decode cX7_sayTap 40 = .ok (.i2l, 1) := by decide +kernel
theorem dX7_sayTap_41 : decode cX7_sayTap 41 = .ok (.invokevirtual 199, 3) := by decide +kernel
theorem dX7_sayTap_44 : decode cX7_sayTap 44 = .ok (.iinc 2 1, 3) := by decide +kernel
theorem dX7_sayTap_47 : decode cX7_sayTap 47 = .ok (.goto (-20), 3) := by decide +kernel
theorem dX7_sayTap_50 : decode cX7_sayTap 50 = .ok (.iconst 0, 1) := by decide +kernel
theorem dX7_sayTap_51 : decode cX7_sayTap 51 = .ok (.istore_n 2, 1) := by decide +kernel
theorem dX7_sayTap_52 : decode cX7_sayTap 52 = .ok (.iload_n 2, 1) := by decide +kernel
theorem dX7_sayTap_53 : decode cX7_sayTap 53 = .ok (.iconst 4, 1) := by decide +kernel
theorem dX7_sayTap_54 : decode cX7_sayTap 54 = .ok (.if_icmp .ge 33, 3) := by decide +kernel
theorem dX7_sayTap_57 : decode cX7_sayTap 57 = .ok (.aload_n 0, 1) := by decide +kernel
theorem dX7_sayTap_58 : decode cX7_sayTap 58 = .ok (.aload_n 0, 1) := by decide +kernel
theorem dX7_sayTap_59 : decode cX7_sayTap 59 = .ok (.iload_n 1, 1) := by decide +kernel
theorem dX7_sayTap_60 : decode cX7_sayTap 60 = .ok (.iload_n 2, 1) := by decide +kernel
theorem dX7_sayTap_61 : decode cX7_sayTap 61 = .ok (.iconst 0, 1) := by decide +kernel
theorem dX7_sayTap_62 : decode cX7_sayTap 62 = .ok (.invokevirtual 153, 3) := by decide +kernel
theorem dX7_sayTap_65 : decode cX7_sayTap 65 = .ok (.i2l, 1) := by decide +kernel
theorem dX7_sayTap_66 : decode cX7_sayTap 66 = .ok (.invokevirtual 199, 3) := by decide +kernel
theorem dX7_sayTap_69 : decode cX7_sayTap 69 = .ok (.aload_n 0, 1) := by decide +kernel
theorem dX7_sayTap_70 : decode cX7_sayTap 70 = .ok (.aload_n 0, 1) := by decide +kernel
theorem dX7_sayTap_71 : decode cX7_sayTap 71 = .ok (.iload_n 1, 1) := by decide +kernel
theorem dX7_sayTap_72 : decode cX7_sayTap 72 = .ok (.iload_n 2, 1) := by decide +kernel
theorem dX7_sayTap_73 : decode cX7_sayTap 73 = .ok (.iconst 1, 1) := by decide +kernel
theorem dX7_sayTap_74 : decode cX7_sayTap 74 = .ok (.invokevirtual 153, 3) := by decide +kernel
theorem dX7_sayTap_77 : decode cX7_sayTap 77 = .ok (.i2l, 1) := by decide +kernel
theorem dX7_sayTap_78 : decode cX7_sayTap 78 = .ok (.invokevirtual 199, 3) := by decide +kernel
theorem dX7_sayTap_81 : decode cX7_sayTap 81 = .ok (.iinc 2 1, 3) := by decide +kernel
theorem dX7_sayTap_84 : decode cX7_sayTap 84 = .ok (.goto (-32), 3) := by decide +kernel
theorem dX7_sayTap_87 : decode cX7_sayTap 87 = .ok (.return_, 1) := by decide +kernel
theorem dX7_digest_0 : decode cX7_digest 0 = .ok (.aload_n 0, 1) := by decide +kernel
theorem dX7_digest_1 : decode cX7_digest 1 = .ok (.ldc2_w 203, 3) := by decide +kernel
theorem dX7_digest_4 : decode cX7_digest 4 = .ok (.putfield 195, 3) := by decide +kernel
theorem dX7_digest_7 : decode cX7_digest 7 = .ok (.iconst 0, 1) := by decide +kernel
theorem dX7_digest_8 : decode cX7_digest 8 = .ok (.istore_n 1, 1) := by decide +kernel
theorem dX7_digest_9 : decode cX7_digest 9 = .ok (.iload_n 1, 1) := by decide +kernel
theorem dX7_digest_10 : decode cX7_digest 10 = .ok (.iconst 4, 1) := by decide +kernel
theorem dX7_digest_11 : decode cX7_digest 11 = .ok (.if_icmp .ge 53, 3) := by decide +kernel
theorem dX7_digest_14 : decode cX7_digest 14 = .ok (.aload_n 0, 1) := by decide +kernel
theorem dX7_digest_15 : decode cX7_digest 15 = .ok (.invokevirtual 97, 3) := by decide +kernel
theorem dX7_digest_18 : decode cX7_digest 18 = .ok (.ifCond .ne 46, 3) := by decide +kernel
theorem dX7_digest_21 : decode cX7_digest 21 = .ok (.aload_n 0, 1) := by decide +kernel
theorem dX7_digest_22 : decode cX7_digest 22 = .ok (.aload_n 0, 1) := by decide +kernel
theorem dX7_digest_23 : decode cX7_digest 23 = .ok (.iload_n 1, 1) := by decide +kernel
theorem dX7_digest_24 : decode cX7_digest 24 = .ok (.iconst 0, 1) := by decide +kernel
theorem dX7_digest_25 : decode cX7_digest 25 = .ok (.invokevirtual 104, 3) := by decide +kernel
theorem dX7_digest_28 : decode cX7_digest 28 = .ok (.i2l, 1) := by decide +kernel
theorem dX7_digest_29 : decode cX7_digest 29 = .ok (.invokevirtual 199, 3) := by decide +kernel
theorem dX7_digest_32 : decode cX7_digest 32 = .ok (.bipush 10, 2) := by decide +kernel
theorem dX7_digest_34 : decode cX7_digest 34 = .ok (.istore_n 2, 1) := by decide +kernel
theorem dX7_digest_35 : decode cX7_digest 35 = .ok (.iload_n 2, 1) := by decide +kernel
theorem dX7_digest_36 : decode cX7_digest 36 = .ok (.bipush 14, 2) := by decide +kernel
theorem dX7_digest_38 : decode cX7_digest 38 = .ok (.if_icmp .ge 20, 3) := by decide +kernel
theorem dX7_digest_41 : decode cX7_digest 41 = .ok (.aload_n 0, 1) := by decide +kernel
theorem dX7_digest_42 : decode cX7_digest 42 = .ok (.aload_n 0, 1) := by decide +kernel
theorem dX7_digest_43 : decode cX7_digest 43 = .ok (.iload_n 1, 1) := by decide +kernel
theorem dX7_digest_44 : decode cX7_digest 44 = .ok (.iload_n 2, 1) := by decide +kernel
theorem dX7_digest_45 : decode cX7_digest 45 = .ok (.invokevirtual 104, 3) := by decide +kernel
theorem dX7_digest_48 : decode cX7_digest 48 = .ok (.i2l, 1) := by decide +kernel
theorem dX7_digest_49 : decode cX7_digest 49 = .ok (.invokevirtual 199, 3) := by decide +kernel
theorem dX7_digest_52 : decode cX7_digest 52 = .ok (.iinc 2 1, 3) := by decide +kernel
theorem dX7_digest_55 : decode cX7_digest 55 = .ok (.goto (-20), 3) := by decide +kernel
theorem dX7_digest_58 : decode cX7_digest 58 = .ok (.iinc 1 1, 3) := by decide +kernel
theorem dX7_digest_61 : decode cX7_digest 61 = .ok (.goto (-52), 3) := by decide +kernel
theorem dX7_digest_64 : decode cX7_digest 64 = .ok (.iconst 0, 1) := by decide +kernel
theorem dX7_digest_65 : decode cX7_digest 65 = .ok (.istore_n 1, 1) := by decide +kernel
theorem dX7_digest_66 : decode cX7_digest 66 = .ok (.iload_n 1, 1) := by decide +kernel
theorem dX7_digest_67 : decode cX7_digest 67 = .ok (.aload_n 0, 1) := by decide +kernel
theorem dX7_digest_68 : decode cX7_digest 68 = .ok (.getfield 75, 3) := by decide +kernel
theorem dX7_digest_71 : decode cX7_digest 71 = .ok (.if_icmp .ge 14, 3) := by decide +kernel
theorem dX7_digest_74 : decode cX7_digest 74 = .ok (.aload_n 0, 1) := by decide +kernel
theorem dX7_digest_75 : decode cX7_digest 75 = .ok (.iload_n 1, 1) := by decide +kernel
theorem dX7_digest_76 : decode cX7_digest 76 = .ok (.invokevirtual 205, 3) := by decide +kernel
theorem dX7_digest_79 : decode cX7_digest 79 = .ok (.iinc 1 1, 3) := by decide +kernel
theorem dX7_digest_82 : decode cX7_digest 82 = .ok (.goto (-16), 3) := by decide +kernel
theorem dX7_digest_85 : decode cX7_digest 85 = .ok (.iconst 0, 1) := by decide +kernel
theorem dX7_digest_86 : decode cX7_digest 86 = .ok (.istore_n 1, 1) := by decide +kernel
theorem dX7_digest_87 : decode cX7_digest 87 = .ok (.iload_n 1, 1) := by decide +kernel
theorem dX7_digest_88 : decode cX7_digest 88 = .ok (.aload_n 0, 1) := by decide +kernel
theorem dX7_digest_89 : decode cX7_digest 89 = .ok (.getfield 44, 3) := by decide +kernel
theorem dX7_digest_92 : decode cX7_digest 92 = .ok (.if_icmp .ge 20, 3) := by decide +kernel
theorem dX7_digest_95 : decode cX7_digest 95 = .ok (.aload_n 0, 1) := by decide +kernel
theorem dX7_digest_96 : decode cX7_digest 96 = .ok (.aload_n 0, 1) := by decide +kernel
theorem dX7_digest_97 : decode cX7_digest 97 = .ok (.getfield 7, 3) := by decide +kernel
theorem dX7_digest_100 : decode cX7_digest 100 = .ok (.iload_n 1, 1) := by decide +kernel
theorem dX7_digest_101 : decode cX7_digest 101 = .ok (.iaload, 1) := by decide +kernel
theorem dX7_digest_102 : decode cX7_digest 102 = .ok (.i2l, 1) := by decide +kernel
theorem dX7_digest_103 : decode cX7_digest 103 = .ok (.invokevirtual 199, 3) := by decide +kernel
theorem dX7_digest_106 : decode cX7_digest 106 = .ok (.iinc 1 1, 3) := by decide +kernel
theorem dX7_digest_109 : decode cX7_digest 109 = .ok (.goto (-22), 3) := by decide +kernel
theorem dX7_digest_112 : decode cX7_digest 112 = .ok (.iconst 0, 1) := by decide +kernel
theorem dX7_digest_113 : decode cX7_digest 113 = .ok (.istore_n 1, 1) := by decide +kernel
theorem dX7_digest_114 : decode cX7_digest 114 = .ok (.iload_n 1, 1) := by decide +kernel
theorem dX7_digest_115 : decode cX7_digest 115 = .ok (.bipush 8, 2) := by decide +kernel
theorem dX7_digest_117 : decode cX7_digest 117 = .ok (.if_icmp .ge 19, 3) := by decide +kernel
theorem dX7_digest_120 : decode cX7_digest 120 = .ok (.aload_n 0, 1) := by decide +kernel
theorem dX7_digest_121 : decode cX7_digest 121 = .ok (.aload_n 0, 1) := by decide +kernel
theorem dX7_digest_122 : decode cX7_digest 122 = .ok (.iload_n 1, 1) := by decide +kernel
theorem dX7_digest_123 : decode cX7_digest 123 = .ok (.invokevirtual 190, 3) := by decide +kernel
theorem dX7_digest_126 : decode cX7_digest 126 = .ok (.i2l, 1) := by decide +kernel
theorem dX7_digest_127 : decode cX7_digest 127 = .ok (.invokevirtual 199, 3) := by decide +kernel
theorem dX7_digest_130 : decode cX7_digest 130 = .ok (.iinc 1 1, 3) := by decide +kernel
theorem dX7_digest_133 : decode cX7_digest 133 = .ok (.goto (-19), 3) := by decide +kernel
theorem dX7_digest_136 : decode cX7_digest 136 = .ok (.aload_n 0, 1) := by decide +kernel
theorem dX7_digest_137 : decode cX7_digest 137 = .ok (.getfield 195, 3) := by decide +kernel
theorem dX7_digest_140 : decode cX7_digest 140 = .ok (.lreturn, 1) := by decide +kernel
end
section
theorem dL_law_0 : decode cL_law 0 = .ok (.new 7, 3) := by decide +kernel
theorem dL_law_3 : decode cL_law 3 = .ok (.dup, 1) := by decide +kernel
theorem dL_law_4 : decode cL_law 4 = .ok (.invokespecial 9, 3) := by decide +kernel
theorem dL_law_7 : decode cL_law 7 = .ok (.astore_n 1, 1) := by decide +kernel
theorem dL_law_8 : decode cL_law 8 = .ok (.new 10, 3) := by decide +kernel
theorem dL_law_11 : decode cL_law 11 = .ok (.dup, 1) := by decide +kernel
theorem dL_law_12 : decode cL_law 12 = .ok (.invokespecial 12, 3) := by decide +kernel
theorem dL_law_15 : decode cL_law 15 = .ok (.astore_n 2, 1) := by decide +kernel
theorem dL_law_16 : decode cL_law 16 = .ok (.iconst 0, 1) := by decide +kernel
theorem dL_law_17 : decode cL_law 17 = .ok (.istore_n 3, 1) := by decide +kernel
theorem dL_law_18 : decode cL_law 18 = .ok (.iload_n 3, 1) := by decide +kernel
theorem dL_law_19 : decode cL_law 19 = .ok (.aload_n 0, 1) := by decide +kernel
theorem dL_law_20 : decode cL_law 20 = .ok (.arraylength, 1) := by decide +kernel
theorem dL_law_21 : decode cL_law 21 = .ok (.iconst 4, 1) := by decide +kernel
theorem dL_law_22 : decode cL_law 22 = .ok (.isub, 1) := by decide +kernel
theorem dL_law_23 : decode cL_law 23 = .ok (.if_icmp .gt 701, 3) := by decide +kernel
theorem dL_law_26 : decode cL_law 26 = .ok (.aload_n 0, 1) := by decide +kernel
theorem dL_law_27 : decode cL_law 27 = .ok (.iload_n 3, 1) := by decide +kernel
theorem dL_law_28 : decode cL_law 28 = .ok (.iaload, 1) := by decide +kernel
theorem dL_law_29 : decode cL_law 29 = .ok (.bipush 31, 2) := by decide +kernel
theorem dL_law_31 : decode cL_law 31 = .ok (.iand, 1) := by decide +kernel
theorem dL_law_32 : decode cL_law 32 = .ok (.tableswitch 686 0 20 #[100, 123, 136, 149, 162, 195, 228, 261, 294, 327, 350, 399, 432, 465, 508, 567, 580, 623, 636, 649, 672], 100) := by decide +kernel
theorem dL_law_132 : decode cL_law 132 = .ok (.aload_n 1, 1) := by decide +kernel
theorem dL_law_133 : decode cL_law 133 = .ok (.aload_n 0, 1) := by decide +kernel
theorem dL_law_134 : decode cL_law 134 = .ok (.iload_n 3, 1) := by decide +kernel
theorem dL_law_135 : decode cL_law 135 = .ok (.iconst 1, 1) := by decide +kernel
theorem dL_law_136 : decode cL_law 136 = .ok (.iadd, 1) := by decide +kernel
theorem dL_law_137 : decode cL_law 137 = .ok (.iaload, 1) := by decide +kernel
theorem dL_law_138 : decode cL_law 138 = .ok (.invokevirtual 13, 3) := by decide +kernel
theorem dL_law_141 : decode cL_law 141 = .ok (.aload_n 2, 1) := by decide +kernel
theorem dL_law_142 : decode cL_law 142 = .ok (.aload_n 0, 1) := by decide +kernel
theorem dL_law_143 : decode cL_law 143 = .ok (.iload_n 3, 1) := by decide +kernel
theorem dL_law_144 : decode cL_law 144 = .ok (.iconst 1, 1) := by decide +kernel
theorem dL_law_145 : decode cL_law 145 = .ok (.iadd, 1) := by decide +kernel
theorem dL_law_146 : decode cL_law 146 = .ok (.iaload, 1) := by decide +kernel
theorem dL_law_147 : decode cL_law 147 = .ok (.invokevirtual 17, 3) := by decide +kernel
theorem dL_law_150 : decode cL_law 150 = .ok (.if_icmp .eq 568, 3) := by decide +kernel
theorem dL_law_153 : decode cL_law 153 = .ok (.iconst 0, 1) := by decide +kernel
theorem dL_law_154 : decode cL_law 154 = .ok (.ireturn, 1) := by decide +kernel
theorem dL_law_155 : decode cL_law 155 = .ok (.aload_n 1, 1) := by decide +kernel
theorem dL_law_156 : decode cL_law 156 = .ok (.invokevirtual 18, 3) := by decide +kernel
theorem dL_law_159 : decode cL_law 159 = .ok (.aload_n 2, 1) := by decide +kernel
theorem dL_law_160 : decode cL_law 160 = .ok (.invokevirtual 22, 3) := by decide +kernel
theorem dL_law_163 : decode cL_law 163 = .ok (.if_icmp .eq 555, 3) := by decide +kernel
theorem dL_law_166 : decode cL_law 166 = .ok (.iconst 0, 1) := by decide +kernel
theorem dL_law_167 : decode cL_law 167 = .ok (.ireturn, 1) := by decide +kernel
theorem dL_law_168 : decode cL_law 168 = .ok (.aload_n 1, 1) := by decide +kernel
theorem dL_law_169 : decode cL_law 169 = .ok (.invokevirtual 23, 3) := by decide +kernel
theorem dL_law_172 : decode cL_law 172 = .ok (.aload_n 2, 1) := by decide +kernel
theorem dL_law_173 : decode cL_law 173 = .ok (.invokevirtual 26, 3) := by decide +kernel
theorem dL_law_176 : decode cL_law 176 = .ok (.if_icmp .eq 542, 3) := by decide +kernel
theorem dL_law_179 : decode cL_law 179 = .ok (.iconst 0, 1) := by decide +kernel
theorem dL_law_180 : decode cL_law 180 = .ok (.ireturn, 1) := by decide +kernel
theorem dL_law_181 : decode cL_law 181 = .ok (.aload_n 1, 1) := by decide +kernel
theorem dL_law_182 : decode cL_law 182 = .ok (.invokevirtual 27, 3) := by decide +kernel
theorem dL_law_185 : decode cL_law 185 = .ok (.aload_n 2, 1) := by decide +kernel
theorem dL_law_186 : decode cL_law 186 = .ok (.invokevirtual 30, 3) := by decide +kernel
theorem dL_law_189 : decode cL_law 189 = .ok (.if_icmp .eq 529, 3) := by decide +kernel
theorem dL_law_192 : decode cL_law 192 = .ok (.iconst 0, 1) := by decide +kernel
theorem dL_law_193 : decode cL_law 193 = .ok (.ireturn, 1) := by decide +kernel
theorem dL_law_194 : decode cL_law 194 = .ok (.aload_n 1, 1) := by decide +kernel
theorem dL_law_195 : decode cL_law 195 = .ok (.aload_n 0, 1) := by decide +kernel
theorem dL_law_196 : decode cL_law 196 = .ok (.iload_n 3, 1) := by decide +kernel
theorem dL_law_197 : decode cL_law 197 = .ok (.iconst 1, 1) := by decide +kernel
theorem dL_law_198 : decode cL_law 198 = .ok (.iadd, 1) := by decide +kernel
theorem dL_law_199 : decode cL_law 199 = .ok (.iaload, 1) := by decide +kernel
theorem dL_law_200 : decode cL_law 200 = .ok (.aload_n 0, 1) := by decide +kernel
theorem dL_law_201 : decode cL_law 201 = .ok (.iload_n 3, 1) := by decide +kernel
theorem dL_law_202 : decode cL_law 202 = .ok (.iconst 2, 1) := by decide +kernel
theorem dL_law_203 : decode cL_law 203 = .ok (.iadd, 1) := by decide +kernel
theorem dL_law_204 : decode cL_law 204 = .ok (.iaload, 1) := by decide +kernel
theorem dL_law_205 : decode cL_law 205 = .ok (.invokevirtual 31, 3) := by decide +kernel
theorem dL_law_208 : decode cL_law 208 = .ok (.aload_n 2, 1) := by decide +kernel
theorem dL_law_209 : decode cL_law 209 = .ok (.aload_n 0, 1) := by decide +kernel
theorem dL_law_210 : decode cL_law 210 = .ok (.iload_n 3, 1) := by decide +kernel
theorem dL_law_211 : decode cL_law 211 = .ok (.iconst 1, 1) := by decide +kernel
theorem dL_law_212 : decode cL_law 212 = .ok (.iadd, 1) := by decide +kernel
theorem dL_law_213 : decode cL_law 213 = .ok (.iaload, 1) := by decide +kernel
theorem dL_law_214 : decode cL_law 214 = .ok (.aload_n 0, 1) := by decide +kernel
theorem dL_law_215 : decode cL_law 215 = .ok (.iload_n 3, 1) := by decide +kernel
theorem dL_law_216 : decode cL_law 216 = .ok (.iconst 2, 1) := by decide +kernel
theorem dL_law_217 : decode cL_law 217 = .ok (.iadd, 1) := by decide +kernel
theorem dL_law_218 : decode cL_law 218 = .ok (.iaload, 1) := by decide +kernel
theorem dL_law_219 : decode cL_law 219 = .ok (.invokevirtual 35, 3) := by decide +kernel
theorem dL_law_222 : decode cL_law 222 = .ok (.if_icmp .eq 496, 3) := by decide +kernel
theorem dL_law_225 : decode cL_law 225 = .ok (.iconst 0, 1) := by decide +kernel
theorem dL_law_226 : decode cL_law 226 = .ok (.ireturn, 1) := by decide +kernel
theorem dL_law_227 : decode cL_law 227 = .ok (.aload_n 1, 1) := by decide +kernel
theorem dL_law_228 : decode cL_law 228 = .ok (.aload_n 0, 1) := by decide +kernel
theorem dL_law_229 : decode cL_law 229 = .ok (.iload_n 3, 1) := by decide +kernel
theorem dL_law_230 : decode cL_law 230 = .ok (.iconst 1, 1) := by decide +kernel
theorem dL_law_231 : decode cL_law 231 = .ok (.iadd, 1) := by decide +kernel
theorem dL_law_232 : decode cL_law 232 = .ok (.iaload, 1) := by decide +kernel
theorem dL_law_233 : decode cL_law 233 = .ok (.aload_n 0, 1) := by decide +kernel
theorem dL_law_234 : decode cL_law 234 = .ok (.iload_n 3, 1) := by decide +kernel
theorem dL_law_235 : decode cL_law 235 = .ok (.iconst 2, 1) := by decide +kernel
theorem dL_law_236 : decode cL_law 236 = .ok (.iadd, 1) := by decide +kernel
theorem dL_law_237 : decode cL_law 237 = .ok (.iaload, 1) := by decide +kernel
theorem dL_law_238 : decode cL_law 238 = .ok (.invokevirtual 36, 3) := by decide +kernel
theorem dL_law_241 : decode cL_law 241 = .ok (.aload_n 2, 1) := by decide +kernel
theorem dL_law_242 : decode cL_law 242 = .ok (.aload_n 0, 1) := by decide +kernel
theorem dL_law_243 : decode cL_law 243 = .ok (.iload_n 3, 1) := by decide +kernel
theorem dL_law_244 : decode cL_law 244 = .ok (.iconst 1, 1) := by decide +kernel
theorem dL_law_245 : decode cL_law 245 = .ok (.iadd, 1) := by decide +kernel
theorem dL_law_246 : decode cL_law 246 = .ok (.iaload, 1) := by decide +kernel
theorem dL_law_247 : decode cL_law 247 = .ok (.aload_n 0, 1) := by decide +kernel
theorem dL_law_248 : decode cL_law 248 = .ok (.iload_n 3, 1) := by decide +kernel
theorem dL_law_249 : decode cL_law 249 = .ok (.iconst 2, 1) := by decide +kernel
theorem dL_law_250 : decode cL_law 250 = .ok (.iadd, 1) := by decide +kernel
theorem dL_law_251 : decode cL_law 251 = .ok (.iaload, 1) := by decide +kernel
theorem dL_law_252 : decode cL_law 252 = .ok (.invokevirtual 39, 3) := by decide +kernel
theorem dL_law_255 : decode cL_law 255 = .ok (.if_icmp .eq 463, 3) := by decide +kernel
theorem dL_law_258 : decode cL_law 258 = .ok (.iconst 0, 1) := by decide +kernel
theorem dL_law_259 : decode cL_law 259 = .ok (.ireturn, 1) := by decide +kernel
theorem dL_law_260 : decode cL_law 260 = .ok (.aload_n 1, 1) := by decide +kernel
theorem dL_law_261 : decode cL_law 261 = .ok (.aload_n 0, 1) := by decide +kernel
theorem dL_law_262 : decode cL_law 262 = .ok (.iload_n 3, 1) := by decide +kernel
theorem dL_law_263 : decode cL_law 263 = .ok (.iconst 1, 1) := by decide +kernel
theorem dL_law_264 : decode cL_law 264 = .ok (.iadd, 1) := by decide +kernel
theorem dL_law_265 : decode cL_law 265 = .ok (.iaload, 1) := by decide +kernel
theorem dL_law_266 : decode cL_law 266 = .ok (.aload_n 0, 1) := by decide +kernel
theorem dL_law_267 : decode cL_law 267 = .ok (.iload_n 3, 1) := by decide +kernel
theorem dL_law_268 : decode cL_law 268 = .ok (.iconst 2, 1) := by decide +kernel
theorem dL_law_269 : decode cL_law 269 = .ok (.iadd, 1) := by decide +kernel
theorem dL_law_270 : decode cL_law 270 = .ok (.iaload, 1) := by decide +kernel
theorem dL_law_271 : decode cL_law 271 = .ok (.invokevirtual 40, 3) := by decide +kernel
theorem dL_law_274 : decode cL_law 274 = .ok (.aload_n 2, 1) := by decide +kernel
theorem dL_law_275 : decode cL_law 275 = .ok (.aload_n 0, 1) := by decide +kernel
theorem dL_law_276 : decode cL_law 276 = .ok (.iload_n 3, 1) := by decide +kernel
theorem dL_law_277 : decode cL_law 277 = .ok (.iconst 1, 1) := by decide +kernel
theorem dL_law_278 : decode cL_law 278 = .ok (.iadd, 1) := by decide +kernel
theorem dL_law_279 : decode cL_law 279 = .ok (.iaload, 1) := by decide +kernel
theorem dL_law_280 : decode cL_law 280 = .ok (.aload_n 0, 1) := by decide +kernel
theorem dL_law_281 : decode cL_law 281 = .ok (.iload_n 3, 1) := by decide +kernel
theorem dL_law_282 : decode cL_law 282 = .ok (.iconst 2, 1) := by decide +kernel
theorem dL_law_283 : decode cL_law 283 = .ok (.iadd, 1) := by decide +kernel
theorem dL_law_284 : decode cL_law 284 = .ok (.iaload, 1) := by decide +kernel
theorem dL_law_285 : decode cL_law 285 = .ok (.invokevirtual 43, 3) := by decide +kernel
theorem dL_law_288 : decode cL_law 288 = .ok (.if_icmp .eq 430, 3) := by decide +kernel
theorem dL_law_291 : decode cL_law 291 = .ok (.iconst 0, 1) := by decide +kernel
theorem dL_law_292 : decode cL_law 292 = .ok (.ireturn, 1) := by decide +kernel
theorem dL_law_293 : decode cL_law 293 = .ok (.aload_n 1, 1) := by decide +kernel
theorem dL_law_294 : decode cL_law 294 = .ok (.aload_n 0, 1) := by decide +kernel
theorem dL_law_295 : decode cL_law 295 = .ok (.iload_n 3, 1) := by decide +kernel
theorem dL_law_296 : decode cL_law 296 = .ok (.iconst 1, 1) := by decide +kernel
theorem dL_law_297 : decode cL_law 297 = .ok (.iadd, 1) := by decide +kernel
theorem dL_law_298 : decode cL_law 298 = .ok (.iaload, 1) := by decide +kernel
theorem dL_law_299 : decode cL_law 299 = .ok (.aload_n 0, 1) := by decide +kernel
theorem dL_law_300 : decode cL_law 300 = .ok (.iload_n 3, 1) := by decide +kernel
theorem dL_law_301 : decode cL_law 301 = .ok (.iconst 2, 1) := by decide +kernel
theorem dL_law_302 : decode cL_law 302 = .ok (.iadd, 1) := by decide +kernel
theorem dL_law_303 : decode cL_law 303 = .ok (.iaload, 1) := by decide +kernel
theorem dL_law_304 : decode cL_law 304 = .ok (.invokevirtual 44, 3) := by decide +kernel
theorem dL_law_307 : decode cL_law 307 = .ok (.aload_n 2, 1) := by decide +kernel
theorem dL_law_308 : decode cL_law 308 = .ok (.aload_n 0, 1) := by decide +kernel
theorem dL_law_309 : decode cL_law 309 = .ok (.iload_n 3, 1) := by decide +kernel
theorem dL_law_310 : decode cL_law 310 = .ok (.iconst 1, 1) := by decide +kernel
theorem dL_law_311 : decode cL_law 311 = .ok (.iadd, 1) := by decide +kernel
theorem dL_law_312 : decode cL_law 312 = .ok (.iaload, 1) := by decide +kernel
theorem dL_law_313 : decode cL_law 313 = .ok (.aload_n 0, 1) := by decide +kernel
theorem dL_law_314 : decode cL_law 314 = .ok (.iload_n 3, 1) := by decide +kernel
theorem dL_law_315 : decode cL_law 315 = .ok (.iconst 2, 1) := by decide +kernel
theorem dL_law_316 : decode cL_law 316 = .ok (.iadd, 1) := by decide +kernel
theorem dL_law_317 : decode cL_law 317 = .ok (.iaload, 1) := by decide +kernel
theorem dL_law_318 : decode cL_law 318 = .ok (.invokevirtual 47, 3) := by decide +kernel
theorem dL_law_321 : decode cL_law 321 = .ok (.if_icmp .eq 397, 3) := by decide +kernel
theorem dL_law_324 : decode cL_law 324 = .ok (.iconst 0, 1) := by decide +kernel
theorem dL_law_325 : decode cL_law 325 = .ok (.ireturn, 1) := by decide +kernel
theorem dL_law_326 : decode cL_law 326 = .ok (.aload_n 1, 1) := by decide +kernel
theorem dL_law_327 : decode cL_law 327 = .ok (.aload_n 0, 1) := by decide +kernel
theorem dL_law_328 : decode cL_law 328 = .ok (.iload_n 3, 1) := by decide +kernel
theorem dL_law_329 : decode cL_law 329 = .ok (.iconst 1, 1) := by decide +kernel
theorem dL_law_330 : decode cL_law 330 = .ok (.iadd, 1) := by decide +kernel
theorem dL_law_331 : decode cL_law 331 = .ok (.iaload, 1) := by decide +kernel
theorem dL_law_332 : decode cL_law 332 = .ok (.aload_n 0, 1) := by decide +kernel
theorem dL_law_333 : decode cL_law 333 = .ok (.iload_n 3, 1) := by decide +kernel
theorem dL_law_334 : decode cL_law 334 = .ok (.iconst 2, 1) := by decide +kernel
theorem dL_law_335 : decode cL_law 335 = .ok (.iadd, 1) := by decide +kernel
theorem dL_law_336 : decode cL_law 336 = .ok (.iaload, 1) := by decide +kernel
theorem dL_law_337 : decode cL_law 337 = .ok (.invokevirtual 48, 3) := by decide +kernel
theorem dL_law_340 : decode cL_law 340 = .ok (.aload_n 2, 1) := by decide +kernel
theorem dL_law_341 : decode cL_law 341 = .ok (.aload_n 0, 1) := by decide +kernel
theorem dL_law_342 : decode cL_law 342 = .ok (.iload_n 3, 1) := by decide +kernel
theorem dL_law_343 : decode cL_law 343 = .ok (.iconst 1, 1) := by decide +kernel
theorem dL_law_344 : decode cL_law 344 = .ok (.iadd, 1) := by decide +kernel
theorem dL_law_345 : decode cL_law 345 = .ok (.iaload, 1) := by decide +kernel
theorem dL_law_346 : decode cL_law 346 = .ok (.aload_n 0, 1) := by decide +kernel
theorem dL_law_347 : decode cL_law 347 = .ok (.iload_n 3, 1) := by decide +kernel
theorem dL_law_348 : decode cL_law 348 = .ok (.iconst 2, 1) := by decide +kernel
theorem dL_law_349 : decode cL_law 349 = .ok (.iadd, 1) := by decide +kernel
theorem dL_law_350 : decode cL_law 350 = .ok (.iaload, 1) := by decide +kernel
theorem dL_law_351 : decode cL_law 351 = .ok (.invokevirtual 51, 3) := by decide +kernel
theorem dL_law_354 : decode cL_law 354 = .ok (.if_icmp .eq 364, 3) := by decide +kernel
theorem dL_law_357 : decode cL_law 357 = .ok (.iconst 0, 1) := by decide +kernel
theorem dL_law_358 : decode cL_law 358 = .ok (.ireturn, 1) := by decide +kernel
theorem dL_law_359 : decode cL_law 359 = .ok (.aload_n 1, 1) := by decide +kernel
theorem dL_law_360 : decode cL_law 360 = .ok (.aload_n 0, 1) := by decide +kernel
theorem dL_law_361 : decode cL_law 361 = .ok (.iload_n 3, 1) := by decide +kernel
theorem dL_law_362 : decode cL_law 362 = .ok (.iconst 1, 1) := by decide +kernel
theorem dL_law_363 : decode cL_law 363 = .ok (.iadd, 1) := by decide +kernel
theorem dL_law_364 : decode cL_law 364 = .ok (.iaload, 1) := by decide +kernel
theorem dL_law_365 : decode cL_law 365 = .ok (.invokevirtual 52, 3) := by decide +kernel
theorem dL_law_368 : decode cL_law 368 = .ok (.aload_n 2, 1) := by decide +kernel
theorem dL_law_369 : decode cL_law 369 = .ok (.aload_n 0, 1) := by decide +kernel
theorem dL_law_370 : decode cL_law 370 = .ok (.iload_n 3, 1) := by decide +kernel
theorem dL_law_371 : decode cL_law 371 = .ok (.iconst 1, 1) := by decide +kernel
theorem dL_law_372 : decode cL_law 372 = .ok (.iadd, 1) := by decide +kernel
theorem dL_law_373 : decode cL_law 373 = .ok (.iaload, 1) := by decide +kernel
theorem dL_law_374 : decode cL_law 374 = .ok (.invokevirtual 55, 3) := by decide +kernel
theorem dL_law_377 : decode cL_law 377 = .ok (.if_icmp .eq 341, 3) := by decide +kernel
theorem dL_law_380 : decode cL_law 380 = .ok (.iconst 0, 1) := by decide +kernel
theorem dL_law_381 : decode cL_law 381 = .ok (.ireturn, 1) := by decide +kernel
theorem dL_law_382 : decode cL_law 382 = .ok (.aload_n 1, 1) := by decide +kernel
theorem dL_law_383 : decode cL_law 383 = .ok (.aload_n 0, 1) := by decide +kernel
theorem dL_law_384 : decode cL_law 384 = .ok (.iload_n 3, 1) := by decide +kernel
theorem dL_law_385 : decode cL_law 385 = .ok (.iconst 1, 1) := by decide +kernel
theorem dL_law_386 : decode cL_law 386 = .ok (.iadd, 1) := by decide +kernel
theorem dL_law_387 : decode cL_law 387 = .ok (.iaload, 1) := by decide +kernel
theorem dL_law_388 : decode cL_law 388 = .ok (.aload_n 0, 1) := by decide +kernel
theorem dL_law_389 : decode cL_law 389 = .ok (.iload_n 3, 1) := by decide +kernel
theorem dL_law_390 : decode cL_law 390 = .ok (.iconst 2, 1) := by decide +kernel
theorem dL_law_391 : decode cL_law 391 = .ok (.iadd, 1) := by decide +kernel
theorem dL_law_392 : decode cL_law 392 = .ok (.iaload, 1) := by decide +kernel
theorem dL_law_393 : decode cL_law 393 = .ok (.ifCond .eq 7, 3) := by decide +kernel
theorem dL_law_396 : decode cL_law 396 = .ok (.iconst 1, 1) := by decide +kernel
theorem dL_law_397 : decode cL_law 397 = .ok (.goto 4, 3) := by decide +kernel
theorem dL_law_400 : decode cL_law 400 = .ok (.iconst 0, 1) := by decide +kernel
theorem dL_law_401 : decode cL_law 401 = .ok (.invokevirtual 56, 3) := by decide +kernel
theorem dL_law_404 : decode cL_law 404 = .ok (.aload_n 2, 1) := by decide +kernel
theorem dL_law_405 : decode cL_law 405 = .ok (.aload_n 0, 1) := by decide +kernel
theorem dL_law_406 : decode cL_law 406 = .ok (.iload_n 3, 1) := by decide +kernel
theorem dL_law_407 : decode cL_law 407 = .ok (.iconst 1, 1) := by decide +kernel
theorem dL_law_408 : decode cL_law 408 = .ok (.iadd, 1) := by decide +kernel
theorem dL_law_409 : decode cL_law 409 = .ok (.iaload, 1) := by decide +kernel
theorem dL_law_410 : decode cL_law 410 = .ok (.aload_n 0, 1) := by decide +kernel
theorem dL_law_411 : decode cL_law 411 = .ok (.iload_n 3, 1) := by decide +kernel
theorem dL_law_412 : decode cL_law 412 = .ok (.iconst 2, 1) := by decide +kernel
theorem dL_law_413 : decode cL_law 413 = .ok (.iadd, 1) := by decide +kernel
theorem dL_law_414 : decode cL_law 414 = .ok (.iaload, 1) := by decide +kernel
theorem dL_law_415 : decode cL_law 415 = .ok (.ifCond .eq 7, 3) := by decide +kernel
theorem dL_law_418 : decode cL_law 418 = .ok (.iconst 1, 1) := by decide +kernel
theorem dL_law_419 : decode cL_law 419 = .ok (.goto 4, 3) := by decide +kernel
theorem dL_law_422 : decode cL_law 422 = .ok (.iconst 0, 1) := by decide +kernel
theorem dL_law_423 : decode cL_law 423 = .ok (.invokevirtual 60, 3) := by decide +kernel
theorem dL_law_426 : decode cL_law 426 = .ok (.if_icmp .eq 292, 3) := by decide +kernel
theorem dL_law_429 : decode cL_law 429 = .ok (.iconst 0, 1) := by decide +kernel
theorem dL_law_430 : decode cL_law 430 = .ok (.ireturn, 1) := by decide +kernel
theorem dL_law_431 : decode cL_law 431 = .ok (.aload_n 1, 1) := by decide +kernel
theorem dL_law_432 : decode cL_law 432 = .ok (.aload_n 0, 1) := by decide +kernel
theorem dL_law_433 : decode cL_law 433 = .ok (.iload_n 3, 1) := by decide +kernel
theorem dL_law_434 : decode cL_law 434 = .ok (.iconst 1, 1) := by decide +kernel
theorem dL_law_435 : decode cL_law 435 = .ok (.iadd, 1) := by decide +kernel
theorem dL_law_436 : decode cL_law 436 = .ok (.iaload, 1) := by decide +kernel
theorem dL_law_437 : decode cL_law 437 = .ok (.aload_n 0, 1) := by decide +kernel
theorem dL_law_438 : decode cL_law 438 = .ok (.iload_n 3, 1) := by decide +kernel
theorem dL_law_439 : decode cL_law 439 = .ok (.iconst 2, 1) := by decide +kernel
theorem dL_law_440 : decode cL_law 440 = .ok (.iadd, 1) := by decide +kernel
theorem dL_law_441 : decode cL_law 441 = .ok (.iaload, 1) := by decide +kernel
theorem dL_law_442 : decode cL_law 442 = .ok (.invokevirtual 61, 3) := by decide +kernel
theorem dL_law_445 : decode cL_law 445 = .ok (.aload_n 2, 1) := by decide +kernel
theorem dL_law_446 : decode cL_law 446 = .ok (.aload_n 0, 1) := by decide +kernel
theorem dL_law_447 : decode cL_law 447 = .ok (.iload_n 3, 1) := by decide +kernel
theorem dL_law_448 : decode cL_law 448 = .ok (.iconst 1, 1) := by decide +kernel
theorem dL_law_449 : decode cL_law 449 = .ok (.iadd, 1) := by decide +kernel
theorem dL_law_450 : decode cL_law 450 = .ok (.iaload, 1) := by decide +kernel
theorem dL_law_451 : decode cL_law 451 = .ok (.aload_n 0, 1) := by decide +kernel
theorem dL_law_452 : decode cL_law 452 = .ok (.iload_n 3, 1) := by decide +kernel
theorem dL_law_453 : decode cL_law 453 = .ok (.iconst 2, 1) := by decide +kernel
theorem dL_law_454 : decode cL_law 454 = .ok (.iadd, 1) := by decide +kernel
theorem dL_law_455 : decode cL_law 455 = .ok (.iaload, 1) := by decide +kernel
theorem dL_law_456 : decode cL_law 456 = .ok (.invokevirtual 64, 3) := by decide +kernel
theorem dL_law_459 : decode cL_law 459 = .ok (.if_icmp .eq 259, 3) := by decide +kernel
theorem dL_law_462 : decode cL_law 462 = .ok (.iconst 0, 1) := by decide +kernel
theorem dL_law_463 : decode cL_law 463 = .ok (.ireturn, 1) := by decide +kernel
theorem dL_law_464 : decode cL_law 464 = .ok (.aload_n 1, 1) := by decide +kernel
theorem dL_law_465 : decode cL_law 465 = .ok (.aload_n 0, 1) := by decide +kernel
theorem dL_law_466 : decode cL_law 466 = .ok (.iload_n 3, 1) := by decide +kernel
theorem dL_law_467 : decode cL_law 467 = .ok (.iconst 1, 1) := by decide +kernel
theorem dL_law_468 : decode cL_law 468 = .ok (.iadd, 1) := by decide +kernel
theorem dL_law_469 : decode cL_law 469 = .ok (.iaload, 1) := by decide +kernel
theorem dL_law_470 : decode cL_law 470 = .ok (.aload_n 0, 1) := by decide +kernel
theorem dL_law_471 : decode cL_law 471 = .ok (.iload_n 3, 1) := by decide +kernel
theorem dL_law_472 : decode cL_law 472 = .ok (.iconst 2, 1) := by decide +kernel
theorem dL_law_473 : decode cL_law 473 = .ok (.iadd, 1) := by decide +kernel
theorem dL_law_474 : decode cL_law 474 = .ok (.iaload, 1) := by decide +kernel
theorem dL_law_475 : decode cL_law 475 = .ok (.invokevirtual 65, 3) := by decide +kernel
theorem dL_law_478 : decode cL_law 478 = .ok (.aload_n 2, 1) := by decide +kernel
theorem dL_law_479 : decode cL_law 479 = .ok (.aload_n 0, 1) := by decide +kernel
theorem dL_law_480 : decode cL_law 480 = .ok (.iload_n 3, 1) := by decide +kernel
theorem dL_law_481 : decode cL_law 481 = .ok (.iconst 1, 1) := by decide +kernel
theorem dL_law_482 : decode cL_law 482 = .ok (.iadd, 1) := by decide +kernel
theorem dL_law_483 : decode cL_law 483 = .ok (.iaload, 1) := by decide +kernel
theorem dL_law_484 : decode cL_law 484 = .ok (.aload_n 0, 1) := by decide +kernel
theorem dL_law_485 : decode cL_law 485 = .ok (.iload_n 3, 1) := by decide +kernel
theorem dL_law_486 : decode cL_law 486 = .ok (.iconst 2, 1) := by decide +kernel
theorem dL_law_487 : decode cL_law 487 = .ok (.iadd, 1) := by decide +kernel
theorem dL_law_488 : decode cL_law 488 = .ok (.iaload, 1) := by decide +kernel
theorem dL_law_489 : decode cL_law 489 = .ok (.invokevirtual 68, 3) := by decide +kernel
theorem dL_law_492 : decode cL_law 492 = .ok (.if_icmp .eq 226, 3) := by decide +kernel
theorem dL_law_495 : decode cL_law 495 = .ok (.iconst 0, 1) := by decide +kernel
theorem dL_law_496 : decode cL_law 496 = .ok (.ireturn, 1) := by decide +kernel
theorem dL_law_497 : decode cL_law 497 = .ok (.aload_n 1, 1) := by decide +kernel
theorem dL_law_498 : decode cL_law 498 = .ok (.aload_n 0, 1) := by decide +kernel
theorem dL_law_499 : decode cL_law 499 = .ok (.iload_n 3, 1) := by decide +kernel
theorem dL_law_500 : decode cL_law 500 = .ok (.iconst 1, 1) := by decide +kernel
theorem dL_law_501 : decode cL_law 501 = .ok (.iadd, 1) := by decide +kernel
theorem dL_law_502 : decode cL_law 502 = .ok (.iaload, 1) := by decide +kernel
theorem dL_law_503 : decode cL_law 503 = .ok (.aload_n 0, 1) := by decide +kernel
theorem dL_law_504 : decode cL_law 504 = .ok (.iload_n 3, 1) := by decide +kernel
theorem dL_law_505 : decode cL_law 505 = .ok (.iconst 2, 1) := by decide +kernel
theorem dL_law_506 : decode cL_law 506 = .ok (.iadd, 1) := by decide +kernel
theorem dL_law_507 : decode cL_law 507 = .ok (.iaload, 1) := by decide +kernel
theorem dL_law_508 : decode cL_law 508 = .ok (.aload_n 0, 1) := by decide +kernel
theorem dL_law_509 : decode cL_law 509 = .ok (.iload_n 3, 1) := by decide +kernel
theorem dL_law_510 : decode cL_law 510 = .ok (.iconst 3, 1) := by decide +kernel
theorem dL_law_511 : decode cL_law 511 = .ok (.iadd, 1) := by decide +kernel
theorem dL_law_512 : decode cL_law 512 = .ok (.iaload, 1) := by decide +kernel
theorem dL_law_513 : decode cL_law 513 = .ok (.invokevirtual 69, 3) := by decide +kernel
theorem dL_law_516 : decode cL_law 516 = .ok (.aload_n 2, 1) := by decide +kernel
theorem dL_law_517 : decode cL_law 517 = .ok (.aload_n 0, 1) := by decide +kernel
theorem dL_law_518 : decode cL_law 518 = .ok (.iload_n 3, 1) := by decide +kernel
theorem dL_law_519 : decode cL_law 519 = .ok (.iconst 1, 1) := by decide +kernel
theorem dL_law_520 : decode cL_law 520 = .ok (.iadd, 1) := by decide +kernel
theorem dL_law_521 : decode cL_law 521 = .ok (.iaload, 1) := by decide +kernel
theorem dL_law_522 : decode cL_law 522 = .ok (.aload_n 0, 1) := by decide +kernel
theorem dL_law_523 : decode cL_law 523 = .ok (.iload_n 3, 1) := by decide +kernel
theorem dL_law_524 : decode cL_law 524 = .ok (.iconst 2, 1) := by decide +kernel
theorem dL_law_525 : decode cL_law 525 = .ok (.iadd, 1) := by decide +kernel
theorem dL_law_526 : decode cL_law 526 = .ok (.iaload, 1) := by decide +kernel
theorem dL_law_527 : decode cL_law 527 = .ok (.aload_n 0, 1) := by decide +kernel
theorem dL_law_528 : decode cL_law 528 = .ok (.iload_n 3, 1) := by decide +kernel
theorem dL_law_529 : decode cL_law 529 = .ok (.iconst 3, 1) := by decide +kernel
theorem dL_law_530 : decode cL_law 530 = .ok (.iadd, 1) := by decide +kernel
theorem dL_law_531 : decode cL_law 531 = .ok (.iaload, 1) := by decide +kernel
theorem dL_law_532 : decode cL_law 532 = .ok (.invokevirtual 73, 3) := by decide +kernel
theorem dL_law_535 : decode cL_law 535 = .ok (.if_icmp .eq 183, 3) := by decide +kernel
theorem dL_law_538 : decode cL_law 538 = .ok (.iconst 0, 1) := by decide +kernel
theorem dL_law_539 : decode cL_law 539 = .ok (.ireturn, 1) := by decide +kernel
theorem dL_law_540 : decode cL_law 540 = .ok (.aload_n 1, 1) := by decide +kernel
theorem dL_law_541 : decode cL_law 541 = .ok (.aload_n 0, 1) := by decide +kernel
theorem dL_law_542 : decode cL_law 542 = .ok (.iload_n 3, 1) := by decide +kernel
theorem dL_law_543 : decode cL_law 543 = .ok (.iconst 1, 1) := by decide +kernel
theorem dL_law_544 : decode cL_law 544 = .ok (.iadd, 1) := by decide +kernel
theorem dL_law_545 : decode cL_law 545 = .ok (.iaload, 1) := by decide +kernel
theorem dL_law_546 : decode cL_law 546 = .ok (.aload_n 0, 1) := by decide +kernel
theorem dL_law_547 : decode cL_law 547 = .ok (.iload_n 3, 1) := by decide +kernel
theorem dL_law_548 : decode cL_law 548 = .ok (.iconst 2, 1) := by decide +kernel
theorem dL_law_549 : decode cL_law 549 = .ok (.iadd, 1) := by decide +kernel
theorem dL_law_550 : decode cL_law 550 = .ok (.iaload, 1) := by decide +kernel
theorem dL_law_551 : decode cL_law 551 = .ok (.aload_n 0, 1) := by decide +kernel
theorem dL_law_552 : decode cL_law 552 = .ok (.iload_n 3, 1) := by decide +kernel
theorem dL_law_553 : decode cL_law 553 = .ok (.iconst 3, 1) := by decide +kernel
theorem dL_law_554 : decode cL_law 554 = .ok (.iadd, 1) := by decide +kernel
theorem dL_law_555 : decode cL_law 555 = .ok (.iaload, 1) := by decide +kernel
theorem dL_law_556 : decode cL_law 556 = .ok (.ifCond .eq 7, 3) := by decide +kernel
theorem dL_law_559 : decode cL_law 559 = .ok (.iconst 1, 1) := by decide +kernel
theorem dL_law_560 : decode cL_law 560 = .ok (.goto 4, 3) := by decide +kernel
theorem dL_law_563 : decode cL_law 563 = .ok (.iconst 0, 1) := by decide +kernel
theorem dL_law_564 : decode cL_law 564 = .ok (.invokevirtual 74, 3) := by decide +kernel
theorem dL_law_567 : decode cL_law 567 = .ok (.aload_n 2, 1) := by decide +kernel
theorem dL_law_568 : decode cL_law 568 = .ok (.aload_n 0, 1) := by decide +kernel
theorem dL_law_569 : decode cL_law 569 = .ok (.iload_n 3, 1) := by decide +kernel
theorem dL_law_570 : decode cL_law 570 = .ok (.iconst 1, 1) := by decide +kernel
theorem dL_law_571 : decode cL_law 571 = .ok (.iadd, 1) := by decide +kernel
theorem dL_law_572 : decode cL_law 572 = .ok (.iaload, 1) := by decide +kernel
theorem dL_law_573 : decode cL_law 573 = .ok (.aload_n 0, 1) := by decide +kernel
theorem dL_law_574 : decode cL_law 574 = .ok (.iload_n 3, 1) := by decide +kernel
theorem dL_law_575 : decode cL_law 575 = .ok (.iconst 2, 1) := by decide +kernel
theorem dL_law_576 : decode cL_law 576 = .ok (.iadd, 1) := by decide +kernel
theorem dL_law_577 : decode cL_law 577 = .ok (.iaload, 1) := by decide +kernel
theorem dL_law_578 : decode cL_law 578 = .ok (.aload_n 0, 1) := by decide +kernel
theorem dL_law_579 : decode cL_law 579 = .ok (.iload_n 3, 1) := by decide +kernel
theorem dL_law_580 : decode cL_law 580 = .ok (.iconst 3, 1) := by decide +kernel
theorem dL_law_581 : decode cL_law 581 = .ok (.iadd, 1) := by decide +kernel
theorem dL_law_582 : decode cL_law 582 = .ok (.iaload, 1) := by decide +kernel
theorem dL_law_583 : decode cL_law 583 = .ok (.ifCond .eq 7, 3) := by decide +kernel
theorem dL_law_586 : decode cL_law 586 = .ok (.iconst 1, 1) := by decide +kernel
theorem dL_law_587 : decode cL_law 587 = .ok (.goto 4, 3) := by decide +kernel
theorem dL_law_590 : decode cL_law 590 = .ok (.iconst 0, 1) := by decide +kernel
theorem dL_law_591 : decode cL_law 591 = .ok (.invokevirtual 78, 3) := by decide +kernel
theorem dL_law_594 : decode cL_law 594 = .ok (.if_icmp .eq 124, 3) := by decide +kernel
theorem dL_law_597 : decode cL_law 597 = .ok (.iconst 0, 1) := by decide +kernel
theorem dL_law_598 : decode cL_law 598 = .ok (.ireturn, 1) := by decide +kernel
theorem dL_law_599 : decode cL_law 599 = .ok (.aload_n 1, 1) := by decide +kernel
theorem dL_law_600 : decode cL_law 600 = .ok (.invokevirtual 79, 3) := by decide +kernel
theorem dL_law_603 : decode cL_law 603 = .ok (.aload_n 2, 1) := by decide +kernel
theorem dL_law_604 : decode cL_law 604 = .ok (.invokevirtual 82, 3) := by decide +kernel
theorem dL_law_607 : decode cL_law 607 = .ok (.if_icmp .eq 111, 3) := by decide +kernel
theorem dL_law_610 : decode cL_law 610 = .ok (.iconst 0, 1) := by decide +kernel
theorem dL_law_611 : decode cL_law 611 = .ok (.ireturn, 1) := by decide +kernel
theorem dL_law_612 : decode cL_law 612 = .ok (.aload_n 1, 1) := by decide +kernel
theorem dL_law_613 : decode cL_law 613 = .ok (.aload_n 0, 1) := by decide +kernel
theorem dL_law_614 : decode cL_law 614 = .ok (.iload_n 3, 1) := by decide +kernel
theorem dL_law_615 : decode cL_law 615 = .ok (.iconst 1, 1) := by decide +kernel
theorem dL_law_616 : decode cL_law 616 = .ok (.iadd, 1) := by decide +kernel
theorem dL_law_617 : decode cL_law 617 = .ok (.iaload, 1) := by decide +kernel
theorem dL_law_618 : decode cL_law 618 = .ok (.aload_n 0, 1) := by decide +kernel
theorem dL_law_619 : decode cL_law 619 = .ok (.iload_n 3, 1) := by decide +kernel
theorem dL_law_620 : decode cL_law 620 = .ok (.iconst 2, 1) := by decide +kernel
theorem dL_law_621 : decode cL_law 621 = .ok (.iadd, 1) := by decide +kernel
theorem dL_law_622 : decode cL_law 622 = .ok (.iaload, 1) := by decide +kernel
theorem dL_law_623 : decode cL_law 623 = .ok (.aload_n 0, 1) := by decide +kernel
theorem dL_law_624 : decode cL_law 624 = .ok (.iload_n 3, 1) := by decide +kernel
theorem dL_law_625 : decode cL_law 625 = .ok (.iconst 3, 1) := by decide +kernel
theorem dL_law_626 : decode cL_law 626 = .ok (.iadd, 1) := by decide +kernel
theorem dL_law_627 : decode cL_law 627 = .ok (.iaload, 1) := by decide +kernel
theorem dL_law_628 : decode cL_law 628 = .ok (.invokevirtual 83, 3) := by decide +kernel
theorem dL_law_631 : decode cL_law 631 = .ok (.aload_n 2, 1) := by decide +kernel
theorem dL_law_632 : decode cL_law 632 = .ok (.aload_n 0, 1) := by decide +kernel
theorem dL_law_633 : decode cL_law 633 = .ok (.iload_n 3, 1) := by decide +kernel
theorem dL_law_634 : decode cL_law 634 = .ok (.iconst 1, 1) := by decide +kernel
theorem dL_law_635 : decode cL_law 635 = .ok (.iadd, 1) := by decide +kernel
theorem dL_law_636 : decode cL_law 636 = .ok (.iaload, 1) := by decide +kernel
theorem dL_law_637 : decode cL_law 637 = .ok (.aload_n 0, 1) := by decide +kernel
theorem dL_law_638 : decode cL_law 638 = .ok (.iload_n 3, 1) := by decide +kernel
theorem dL_law_639 : decode cL_law 639 = .ok (.iconst 2, 1) := by decide +kernel
theorem dL_law_640 : decode cL_law 640 = .ok (.iadd, 1) := by decide +kernel
theorem dL_law_641 : decode cL_law 641 = .ok (.iaload, 1) := by decide +kernel
theorem dL_law_642 : decode cL_law 642 = .ok (.aload_n 0, 1) := by decide +kernel
theorem dL_law_643 : decode cL_law 643 = .ok (.iload_n 3, 1) := by decide +kernel
theorem dL_law_644 : decode cL_law 644 = .ok (.iconst 3, 1) := by decide +kernel
theorem dL_law_645 : decode cL_law 645 = .ok (.iadd, 1) := by decide +kernel
theorem dL_law_646 : decode cL_law 646 = .ok (.iaload, 1) := by decide +kernel
theorem dL_law_647 : decode cL_law 647 = .ok (.invokevirtual 86, 3) := by decide +kernel
theorem dL_law_650 : decode cL_law 650 = .ok (.if_icmp .eq 68, 3) := by decide +kernel
theorem dL_law_653 : decode cL_law 653 = .ok (.iconst 0, 1) := by decide +kernel
theorem dL_law_654 : decode cL_law 654 = .ok (.ireturn, 1) := by decide +kernel
theorem dL_law_655 : decode cL_law 655 = .ok (.aload_n 1, 1) := by decide +kernel
theorem dL_law_656 : decode cL_law 656 = .ok (.invokevirtual 87, 3) := by decide +kernel
theorem dL_law_659 : decode cL_law 659 = .ok (.aload_n 2, 1) := by decide +kernel
theorem dL_law_660 : decode cL_law 660 = .ok (.invokevirtual 90, 3) := by decide +kernel
theorem dL_law_663 : decode cL_law 663 = .ok (.if_icmp .eq 55, 3) := by decide +kernel
theorem dL_law_666 : decode cL_law 666 = .ok (.iconst 0, 1) := by decide +kernel
theorem dL_law_667 : decode cL_law 667 = .ok (.ireturn, 1) := by decide +kernel
theorem dL_law_668 : decode cL_law 668 = .ok (.aload_n 1, 1) := by decide +kernel
theorem dL_law_669 : decode cL_law 669 = .ok (.invokevirtual 91, 3) := by decide +kernel
theorem dL_law_672 : decode cL_law 672 = .ok (.aload_n 2, 1) := by decide +kernel
theorem dL_law_673 : decode cL_law 673 = .ok (.invokevirtual 94, 3) := by decide +kernel
theorem dL_law_676 : decode cL_law 676 = .ok (.if_icmp .eq 42, 3) := by decide +kernel
theorem dL_law_679 : decode cL_law 679 = .ok (.iconst 0, 1) := by decide +kernel
theorem dL_law_680 : decode cL_law 680 = .ok (.ireturn, 1) := by decide +kernel
theorem dL_law_681 : decode cL_law 681 = .ok (.aload_n 1, 1) := by decide +kernel
theorem dL_law_682 : decode cL_law 682 = .ok (.aload_n 0, 1) := by decide +kernel
theorem dL_law_683 : decode cL_law 683 = .ok (.iload_n 3, 1) := by decide +kernel
theorem dL_law_684 : decode cL_law 684 = .ok (.iconst 1, 1) := by decide +kernel
theorem dL_law_685 : decode cL_law 685 = .ok (.iadd, 1) := by decide +kernel
theorem dL_law_686 : decode cL_law 686 = .ok (.iaload, 1) := by decide +kernel
theorem dL_law_687 : decode cL_law 687 = .ok (.invokevirtual 95, 3) := by decide +kernel
theorem dL_law_690 : decode cL_law 690 = .ok (.aload_n 2, 1) := by decide +kernel
theorem dL_law_691 : decode cL_law 691 = .ok (.aload_n 0, 1) := by decide +kernel
theorem dL_law_692 : decode cL_law 692 = .ok (.iload_n 3, 1) := by decide +kernel
theorem dL_law_693 : decode cL_law 693 = .ok (.iconst 1, 1) := by decide +kernel
theorem dL_law_694 : decode cL_law 694 = .ok (.iadd, 1) := by decide +kernel
theorem dL_law_695 : decode cL_law 695 = .ok (.iaload, 1) := by decide +kernel
theorem dL_law_696 : decode cL_law 696 = .ok (.invokevirtual 98, 3) := by decide +kernel
theorem dL_law_699 : decode cL_law 699 = .ok (.if_icmp .eq 19, 3) := by decide +kernel
theorem dL_law_702 : decode cL_law 702 = .ok (.iconst 0, 1) := by decide +kernel
theorem dL_law_703 : decode cL_law 703 = .ok (.ireturn, 1) := by decide +kernel
theorem dL_law_704 : decode cL_law 704 = .ok (.aload_n 1, 1) := by decide +kernel
theorem dL_law_705 : decode cL_law 705 = .ok (.invokevirtual 99, 3) := by decide +kernel
theorem dL_law_708 : decode cL_law 708 = .ok (.aload_n 2, 1) := by decide +kernel
theorem dL_law_709 : decode cL_law 709 = .ok (.invokevirtual 103, 3) := by decide +kernel
theorem dL_law_712 : decode cL_law 712 = .ok (.lcmp, 1) := by decide +kernel
theorem dL_law_713 : decode cL_law 713 = .ok (.ifCond .eq 5, 3) := by decide +kernel
theorem dL_law_716 : decode cL_law 716 = .ok (.iconst 0, 1) := by decide +kernel
theorem dL_law_717 : decode cL_law 717 = .ok (.ireturn, 1) := by decide +kernel
theorem dL_law_718 : decode cL_law 718 = .ok (.iinc 3 4, 3) := by decide +kernel
theorem dL_law_721 : decode cL_law 721 = .ok (.goto (-703), 3) := by decide +kernel
theorem dL_law_724 : decode cL_law 724 = .ok (.iconst 1, 1) := by decide +kernel
theorem dL_law_725 : decode cL_law 725 = .ok (.ireturn, 1) := by decide +kernel
end
section
theorem try_0 : 1 + 1 = 2 := rfl
end
