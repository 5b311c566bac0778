/-- the tables' words that hold behind any warming -/
def wAll : List Cond := lw_tbl.filter goodWord
theorem wAll_in {w : Cond} (h : w ∈ wAll) : w ∈ lw_tbl := (List.mem_filter.mp h).1
theorem wAll_ok {w : Cond} (h : w ∈ wAll) : goodWord w = true := (List.mem_filter.mp h).2
theorem wA_t1 {w : Cond} (h : w ∈ tables_1_1) : w ∈ lw_tbl := List.mem_append_right _ (List.mem_append_left _ h)
theorem wA_t2 {w : Cond} (h : w ∈ tables_1_2) : w ∈ lw_tbl := List.mem_append_right _ (List.mem_append_right _ (List.mem_append_left _ h))
theorem wA_t3 {w : Cond} (h : w ∈ tables_1_3) : w ∈ lw_tbl := List.mem_append_right _ (List.mem_append_right _ (List.mem_append_right _ (List.mem_append_left _ h)))
theorem wA_t4 {w : Cond} (h : w ∈ tables_1_4) : w ∈ lw_tbl := List.mem_append_right _ (List.mem_append_right _ (List.mem_append_right _ (List.mem_append_right _ h)))
theorem wA_s {w : Cond} (h : w ∈ k2_sels lw_privs) : w ∈ lw_tbl := List.mem_append_left _ h
theorem wA_g {w : Cond} (h : w ∈ lw_tbl) (g : goodWord w = true) : w ∈ wAll := List.mem_filter.mpr ⟨h, g⟩
/-- a method's words: its code, and all the tables' -/
abbrev wA (y : MethodName) (b : ByteArray) (n : Nat) (r : Option FieldType) : List Cond := Cond.code y b n r :: wAll
theorem gA {y : MethodName} {b : ByteArray} {n : Nat} {r : Option FieldType} (h : Cond.code y b n r ∈ wAll) : GoodIn wAll (wA y b n r) := fun w hw => (List.mem_cons.mp hw).elim (fun e => e ▸ ⟨h, good_of_word (wAll_ok h)⟩) (fun q => ⟨q, good_of_word (wAll_ok q)⟩)
theorem gV {own C : String} {idx : Nat} {y : MethodName} {b : ByteArray} {n : Nat} {r : Option FieldType} (h1 : Cond.methodLink own idx y ∈ wAll) (h2 : Cond.instanceMethod y ∈ wAll) (h3 : Cond.selects C y y ∈ wAll) (h4 : Cond.initialized C ∈ wAll) (h : Cond.code y b n r ∈ wAll) : GoodIn wAll (wsV own idx C y (wA y b n r)) := fun w hw => (List.mem_append.mp hw).elim (fun q => by
  have hm : w ∈ wAll := by
    simp only [List.mem_cons, List.not_mem_nil, or_false] at q
    rcases q with q | q | q | q <;> (subst q; assumption)
  exact ⟨hm, good_of_word (wAll_ok hm)⟩) (gA h w)
theorem gS {own : String} {idx : Nat} {y : MethodName} {b : ByteArray} {n : Nat} {r : Option FieldType} (h1 : Cond.methodLink own idx y ∈ wAll) (h2 : Cond.static y ∈ wAll) (h4 : Cond.initialized own ∈ wAll) (h : Cond.code y b n r ∈ wAll) : GoodIn wAll (wsS own idx y (wA y b n r)) := fun w hw => (List.mem_append.mp hw).elim (fun q => by
  have hm : w ∈ wAll := by
    simp only [List.mem_cons, List.not_mem_nil, or_false] at q
    rcases q with q | q | q <;> (subst q; assumption)
  exact ⟨hm, good_of_word (wAll_ok hm)⟩) (gA h w)
theorem mg_0 : Cond.initialized RL ∈ wAll := wA_g (wA_t1 (List.mem_of_getElem? (i := 0) rfl)) rfl
theorem mg_1 : Cond.initialized RX6 ∈ wAll := wA_g (wA_t1 (List.mem_of_getElem? (i := 1) rfl)) rfl
theorem mg_2 : Cond.initialized RX1 ∈ wAll := wA_g (wA_t1 (List.mem_of_getElem? (i := 2) rfl)) rfl
theorem mg_3 : Cond.initialized RX2 ∈ wAll := wA_g (wA_t1 (List.mem_of_getElem? (i := 3) rfl)) rfl
theorem mg_4 : Cond.initialized RX4 ∈ wAll := wA_g (wA_t1 (List.mem_of_getElem? (i := 4) rfl)) rfl
theorem mg_5 : Cond.initialized RX3 ∈ wAll := wA_g (wA_t1 (List.mem_of_getElem? (i := 5) rfl)) rfl
theorem mg_6 : Cond.initialized RX5 ∈ wAll := wA_g (wA_t1 (List.mem_of_getElem? (i := 6) rfl)) rfl
theorem mg_7 : Cond.initialized RX0 ∈ wAll := wA_g (wA_t1 (List.mem_of_getElem? (i := 7) rfl)) rfl
theorem mg_8 : Cond.initialized RX7 ∈ wAll := wA_g (wA_t1 (List.mem_of_getElem? (i := 8) rfl)) rfl
theorem mg_9 : Cond.initialized RJ9 ∈ wAll := wA_g (wA_t1 (List.mem_of_getElem? (i := 9) rfl)) rfl
theorem mg_10 : Cond.classLink RL 7 RX6 ∈ wAll := wA_g (wA_t1 (List.mem_of_getElem? (i := 10) rfl)) rfl
theorem mg_11 : Cond.instantiable RX6 7 ∈ wAll := wA_g (wA_t1 (List.mem_of_getElem? (i := 11) rfl)) rfl
theorem mg_12 : Cond.methodLink RL 9 yX6_init ∈ wAll := wA_g (wA_t1 (List.mem_of_getElem? (i := 12) rfl)) rfl
theorem mg_13 : Cond.instanceMethod yX6_init ∈ wAll := wA_g (wA_t1 (List.mem_of_getElem? (i := 13) rfl)) rfl
theorem mg_14 : Cond.code yX6_init cX6_init 1 (Option.none : Option FieldType) ∈ wAll := wA_g (wA_t1 (List.mem_of_getElem? (i := 14) rfl)) rfl
theorem mg_15 : Cond.methodLink RX6 1 objectInit ∈ wAll := wA_g (wA_t1 (List.mem_of_getElem? (i := 15) rfl)) rfl
theorem mg_16 : Cond.instanceMethod objectInit ∈ wAll := wA_g (wA_t1 (List.mem_of_getElem? (i := 16) rfl)) rfl
theorem mg_17 : Cond.code objectInit object_method_1_code 1 (Option.none : Option FieldType) ∈ wAll := wA_g (wA_t1 (List.mem_of_getElem? (i := 17) rfl)) rfl
theorem mg_18 : Cond.classLink RX6 7 RX1 ∈ wAll := wA_g (wA_t1 (List.mem_of_getElem? (i := 18) rfl)) rfl
theorem mg_19 : Cond.instantiable RX1 3 ∈ wAll := wA_g (wA_t1 (List.mem_of_getElem? (i := 19) rfl)) rfl
theorem mg_20 : Cond.methodLink RX6 9 yX1_init ∈ wAll := wA_g (wA_t1 (List.mem_of_getElem? (i := 20) rfl)) rfl
theorem mg_21 : Cond.instanceMethod yX1_init ∈ wAll := wA_g (wA_t1 (List.mem_of_getElem? (i := 21) rfl)) rfl
theorem mg_22 : Cond.code yX1_init cX1_init 1 (Option.none : Option FieldType) ∈ wAll := wA_g (wA_t1 (List.mem_of_getElem? (i := 22) rfl)) rfl
theorem mg_23 : Cond.methodLink RX1 3 objectInit ∈ wAll := wA_g (wA_t1 (List.mem_of_getElem? (i := 23) rfl)) rfl
theorem mg_24 : Cond.classLink RX1 15 RX2 ∈ wAll := wA_g (wA_t1 (List.mem_of_getElem? (i := 24) rfl)) rfl
theorem mg_25 : Cond.instantiable RX2 3 ∈ wAll := wA_g (wA_t1 (List.mem_of_getElem? (i := 25) rfl)) rfl
theorem mt_26 : Cond.methodLinkNest RX1 17 yX2_init "DripSayings" ∈ lw_tbl := wA_t1 (List.mem_of_getElem? (i := 26) rfl)
theorem mg_27 : Cond.instanceMethod yX2_init ∈ wAll := wA_g (wA_t1 (List.mem_of_getElem? (i := 27) rfl)) rfl
theorem mg_28 : Cond.code yX2_init cX2_init 1 (Option.none : Option FieldType) ∈ wAll := wA_g (wA_t1 (List.mem_of_getElem? (i := 28) rfl)) rfl
theorem mg_29 : Cond.methodLink RX2 3 objectInit ∈ wAll := wA_g (wA_t1 (List.mem_of_getElem? (i := 29) rfl)) rfl
theorem mg_30 : Cond.fieldLink RX2 9 "DripSayings$Reader" "saying" "I" ∈ wAll := wA_g (wA_t1 (List.mem_of_getElem? (i := 30) rfl)) rfl
theorem mg_31 : Cond.fieldLink RX2 15 "DripSayings$Reader" "taps" "I" ∈ wAll := wA_g (wA_t1 (List.mem_of_getElem? (i := 31) rfl)) rfl
theorem mg_32 : Cond.fieldLink RX2 18 "DripSayings$Reader" "letters" "I" ∈ wAll := wA_g (wA_t1 (List.mem_of_getElem? (i := 32) rfl)) rfl
theorem mg_33 : Cond.lays RX2 "DripSayings$Reader" "saying" "I" ∈ wAll := wA_g (wA_t1 (List.mem_of_getElem? (i := 33) rfl)) rfl
theorem mg_35 : Cond.lays RX2 "DripSayings$Reader" "taps" "I" ∈ wAll := wA_g (wA_t1 (List.mem_of_getElem? (i := 35) rfl)) rfl
theorem mg_37 : Cond.lays RX2 "DripSayings$Reader" "letters" "I" ∈ wAll := wA_g (wA_t1 (List.mem_of_getElem? (i := 37) rfl)) rfl
theorem mg_40 : Cond.arrayClass FieldType.int ∈ wAll := wA_g (wA_t1 (List.mem_of_getElem? (i := 40) rfl)) rfl
theorem mg_41 : Cond.fieldLink RX1 9 "DripSayings$Page" "codes" "[I" ∈ wAll := wA_g (wA_t1 (List.mem_of_getElem? (i := 41) rfl)) rfl
theorem mg_42 : Cond.fieldLink RX1 18 "DripSayings$Page" "reader" "LDripSayings$Reader;" ∈ wAll := wA_g (wA_t1 (List.mem_of_getElem? (i := 42) rfl)) rfl
theorem mg_43 : Cond.fieldLink RX1 22 "DripSayings$Page" "size" "I" ∈ wAll := wA_g (wA_t1 (List.mem_of_getElem? (i := 43) rfl)) rfl
theorem mg_44 : Cond.fieldLink RX6 33 "DripSayings$Page" "size" "I" ∈ wAll := wA_g (wA_t1 (List.mem_of_getElem? (i := 44) rfl)) rfl
theorem mg_45 : Cond.laysFinal RX1 "DripSayings$Page" "codes" "[I" ∈ wAll := wA_g (wA_t1 (List.mem_of_getElem? (i := 45) rfl)) rfl
theorem mg_47 : Cond.laysFinal RX1 "DripSayings$Page" "reader" "LDripSayings$Reader;" ∈ wAll := wA_g (wA_t1 (List.mem_of_getElem? (i := 47) rfl)) rfl
theorem mg_49 : Cond.lays RX1 "DripSayings$Page" "size" "I" ∈ wAll := wA_g (wA_t1 (List.mem_of_getElem? (i := 49) rfl)) rfl
theorem mg_52 : Cond.classLink RX6 16 RX4 ∈ wAll := wA_g (wA_t1 (List.mem_of_getElem? (i := 52) rfl)) rfl
theorem mg_53 : Cond.instantiable RX4 2 ∈ wAll := wA_g (wA_t1 (List.mem_of_getElem? (i := 53) rfl)) rfl
theorem mg_54 : Cond.methodLink RX6 18 yX4_init ∈ wAll := wA_g (wA_t1 (List.mem_of_getElem? (i := 54) rfl)) rfl
theorem mg_55 : Cond.instanceMethod yX4_init ∈ wAll := wA_g (wA_t1 (List.mem_of_getElem? (i := 55) rfl)) rfl
theorem mg_56 : Cond.code yX4_init cX4_init 1 (Option.none : Option FieldType) ∈ wAll := wA_g (wA_t1 (List.mem_of_getElem? (i := 56) rfl)) rfl
theorem mg_57 : Cond.methodLink RX4 3 objectInit ∈ wAll := wA_g (wA_t1 (List.mem_of_getElem? (i := 57) rfl)) rfl
theorem mg_58 : Cond.fieldLink RX4 9 "DripSayings$Sayings" "beats" "[I" ∈ wAll := wA_g (wA_t1 (List.mem_of_getElem? (i := 58) rfl)) rfl
theorem mg_59 : Cond.fieldLink RX4 15 "DripSayings$Sayings" "lengths" "[I" ∈ wAll := wA_g (wA_t1 (List.mem_of_getElem? (i := 59) rfl)) rfl
theorem mg_60 : Cond.laysFinal RX4 "DripSayings$Sayings" "beats" "[I" ∈ wAll := wA_g (wA_t1 (List.mem_of_getElem? (i := 60) rfl)) rfl
theorem mg_62 : Cond.laysFinal RX4 "DripSayings$Sayings" "lengths" "[I" ∈ wAll := wA_g (wA_t1 (List.mem_of_getElem? (i := 62) rfl)) rfl
theorem mg_65 : Cond.classLink RX6 23 RX3 ∈ wAll := wA_g (wA_t1 (List.mem_of_getElem? (i := 65) rfl)) rfl
theorem mg_66 : Cond.instantiable RX3 5 ∈ wAll := wA_g (wA_t1 (List.mem_of_getElem? (i := 66) rfl)) rfl
theorem mg_67 : Cond.methodLink RX6 25 yX3_init ∈ wAll := wA_g (wA_t1 (List.mem_of_getElem? (i := 67) rfl)) rfl
theorem mg_68 : Cond.instanceMethod yX3_init ∈ wAll := wA_g (wA_t1 (List.mem_of_getElem? (i := 68) rfl)) rfl
theorem mg_69 : Cond.code yX3_init cX3_init 2 (Option.none : Option FieldType) ∈ wAll := wA_g (wA_t1 (List.mem_of_getElem? (i := 69) rfl)) rfl
theorem mg_70 : Cond.methodLink RX3 3 objectInit ∈ wAll := wA_g (wA_t1 (List.mem_of_getElem? (i := 70) rfl)) rfl
theorem mg_71 : Cond.classLink RX3 9 RX5 ∈ wAll := wA_g (wA_t1 (List.mem_of_getElem? (i := 71) rfl)) rfl
theorem mt_72 : Cond.arrayOver (FieldType.object "DripSayings$Tap") ∈ lw_tbl := wA_t1 (List.mem_of_getElem? (i := 72) rfl)
theorem mg_73 : Cond.instantiable RX5 5 ∈ wAll := wA_g (wA_t1 (List.mem_of_getElem? (i := 73) rfl)) rfl
theorem mg_74 : Cond.methodLink RX3 17 yX5_init ∈ wAll := wA_g (wA_t1 (List.mem_of_getElem? (i := 74) rfl)) rfl
theorem mg_75 : Cond.instanceMethod yX5_init ∈ wAll := wA_g (wA_t1 (List.mem_of_getElem? (i := 75) rfl)) rfl
theorem mg_76 : Cond.code yX5_init cX5_init 2 (Option.none : Option FieldType) ∈ wAll := wA_g (wA_t1 (List.mem_of_getElem? (i := 76) rfl)) rfl
theorem mg_77 : Cond.methodLink RX5 1 objectInit ∈ wAll := wA_g (wA_t1 (List.mem_of_getElem? (i := 77) rfl)) rfl
theorem mg_78 : Cond.fieldLink RX5 7 "DripSayings$Tap" "number" "I" ∈ wAll := wA_g (wA_t1 (List.mem_of_getElem? (i := 78) rfl)) rfl
theorem mg_79 : Cond.fieldLink RX3 49 "DripSayings$Tap" "number" "I" ∈ wAll := wA_g (wA_t1 (List.mem_of_getElem? (i := 79) rfl)) rfl
theorem mg_80 : Cond.fieldLink RX6 199 "DripSayings$Tap" "number" "I" ∈ wAll := wA_g (wA_t1 (List.mem_of_getElem? (i := 80) rfl)) rfl
theorem mg_81 : Cond.fieldLink RX5 13 "DripSayings$Tap" "kind" "I" ∈ wAll := wA_g (wA_t1 (List.mem_of_getElem? (i := 81) rfl)) rfl
theorem mg_82 : Cond.fieldLink RX3 56 "DripSayings$Tap" "kind" "I" ∈ wAll := wA_g (wA_t1 (List.mem_of_getElem? (i := 82) rfl)) rfl
theorem mg_83 : Cond.fieldLink RX6 97 "DripSayings$Tap" "kind" "I" ∈ wAll := wA_g (wA_t1 (List.mem_of_getElem? (i := 83) rfl)) rfl
theorem mg_84 : Cond.fieldLink RX5 16 "DripSayings$Tap" "saying" "I" ∈ wAll := wA_g (wA_t1 (List.mem_of_getElem? (i := 84) rfl)) rfl
theorem mg_85 : Cond.fieldLink RX3 59 "DripSayings$Tap" "saying" "I" ∈ wAll := wA_g (wA_t1 (List.mem_of_getElem? (i := 85) rfl)) rfl
theorem mg_86 : Cond.fieldLink RX6 114 "DripSayings$Tap" "saying" "I" ∈ wAll := wA_g (wA_t1 (List.mem_of_getElem? (i := 86) rfl)) rfl
theorem mg_87 : Cond.fieldLink RX5 19 "DripSayings$Tap" "washer" "I" ∈ wAll := wA_g (wA_t1 (List.mem_of_getElem? (i := 87) rfl)) rfl
theorem mg_88 : Cond.fieldLink RX3 52 "DripSayings$Tap" "washer" "I" ∈ wAll := wA_g (wA_t1 (List.mem_of_getElem? (i := 88) rfl)) rfl
theorem mg_89 : Cond.fieldLink RX6 111 "DripSayings$Tap" "washer" "I" ∈ wAll := wA_g (wA_t1 (List.mem_of_getElem? (i := 89) rfl)) rfl
theorem mg_90 : Cond.fieldLink RX5 22 "DripSayings$Tap" "place" "I" ∈ wAll := wA_g (wA_t1 (List.mem_of_getElem? (i := 90) rfl)) rfl
theorem mg_91 : Cond.fieldLink RX3 62 "DripSayings$Tap" "place" "I" ∈ wAll := wA_g (wA_t1 (List.mem_of_getElem? (i := 91) rfl)) rfl
theorem mg_92 : Cond.fieldLink RX6 105 "DripSayings$Tap" "place" "I" ∈ wAll := wA_g (wA_t1 (List.mem_of_getElem? (i := 92) rfl)) rfl
theorem mg_93 : Cond.laysFinal RX5 "DripSayings$Tap" "number" "I" ∈ wAll := wA_g (wA_t1 (List.mem_of_getElem? (i := 93) rfl)) rfl
theorem mg_95 : Cond.lays RX5 "DripSayings$Tap" "kind" "I" ∈ wAll := wA_g (wA_t1 (List.mem_of_getElem? (i := 95) rfl)) rfl
theorem mg_97 : Cond.lays RX5 "DripSayings$Tap" "saying" "I" ∈ wAll := wA_g (wA_t1 (List.mem_of_getElem? (i := 97) rfl)) rfl
theorem mg_99 : Cond.lays RX5 "DripSayings$Tap" "washer" "I" ∈ wAll := wA_g (wA_t1 (List.mem_of_getElem? (i := 99) rfl)) rfl
theorem mg_101 : Cond.lays RX5 "DripSayings$Tap" "place" "I" ∈ wAll := wA_g (wA_t1 (List.mem_of_getElem? (i := 101) rfl)) rfl
theorem mg_104 : Cond.classLink RX3 20 RX0 ∈ wAll := wA_g (wA_t1 (List.mem_of_getElem? (i := 104) rfl)) rfl
theorem mt_105 : Cond.arrayOver (FieldType.object "DripSayings$Note") ∈ lw_tbl := wA_t1 (List.mem_of_getElem? (i := 105) rfl)
theorem mg_106 : Cond.instantiable RX0 4 ∈ wAll := wA_g (wA_t1 (List.mem_of_getElem? (i := 106) rfl)) rfl
theorem mt_107 : Cond.methodLinkNest RX3 26 yX0_init "DripSayings" ∈ lw_tbl := wA_t1 (List.mem_of_getElem? (i := 107) rfl)
theorem mg_108 : Cond.instanceMethod yX0_init ∈ wAll := wA_g (wA_t1 (List.mem_of_getElem? (i := 108) rfl)) rfl
theorem mg_109 : Cond.code yX0_init cX0_init 1 (Option.none : Option FieldType) ∈ wAll := wA_g (wA_t1 (List.mem_of_getElem? (i := 109) rfl)) rfl
theorem mg_110 : Cond.methodLink RX0 1 objectInit ∈ wAll := wA_g (wA_t1 (List.mem_of_getElem? (i := 110) rfl)) rfl
theorem mg_111 : Cond.fieldLink RX0 7 "DripSayings$Note" "tap" "I" ∈ wAll := wA_g (wA_t1 (List.mem_of_getElem? (i := 111) rfl)) rfl
theorem mg_112 : Cond.fieldLink RX3 65 "DripSayings$Note" "tap" "I" ∈ wAll := wA_g (wA_t1 (List.mem_of_getElem? (i := 112) rfl)) rfl
theorem mg_113 : Cond.fieldLink RX6 194 "DripSayings$Note" "tap" "I" ∈ wAll := wA_g (wA_t1 (List.mem_of_getElem? (i := 113) rfl)) rfl
theorem mg_114 : Cond.fieldLink RX0 13 "DripSayings$Note" "drip" "I" ∈ wAll := wA_g (wA_t1 (List.mem_of_getElem? (i := 114) rfl)) rfl
theorem mg_115 : Cond.fieldLink RX3 68 "DripSayings$Note" "drip" "I" ∈ wAll := wA_g (wA_t1 (List.mem_of_getElem? (i := 115) rfl)) rfl
theorem mg_116 : Cond.fieldLink RX6 203 "DripSayings$Note" "drip" "I" ∈ wAll := wA_g (wA_t1 (List.mem_of_getElem? (i := 116) rfl)) rfl
theorem mg_117 : Cond.fieldLink RX0 16 "DripSayings$Note" "beat" "I" ∈ wAll := wA_g (wA_t1 (List.mem_of_getElem? (i := 117) rfl)) rfl
theorem mg_118 : Cond.fieldLink RX3 71 "DripSayings$Note" "beat" "I" ∈ wAll := wA_g (wA_t1 (List.mem_of_getElem? (i := 118) rfl)) rfl
theorem mg_119 : Cond.fieldLink RX6 206 "DripSayings$Note" "beat" "I" ∈ wAll := wA_g (wA_t1 (List.mem_of_getElem? (i := 119) rfl)) rfl
theorem mg_120 : Cond.fieldLink RX0 19 "DripSayings$Note" "washer" "I" ∈ wAll := wA_g (wA_t1 (List.mem_of_getElem? (i := 120) rfl)) rfl
theorem mg_121 : Cond.fieldLink RX3 74 "DripSayings$Note" "washer" "I" ∈ wAll := wA_g (wA_t1 (List.mem_of_getElem? (i := 121) rfl)) rfl
theorem mg_122 : Cond.fieldLink RX6 202 "DripSayings$Note" "washer" "I" ∈ wAll := wA_g (wA_t1 (List.mem_of_getElem? (i := 122) rfl)) rfl
theorem mg_123 : Cond.lays RX0 "DripSayings$Note" "tap" "I" ∈ wAll := wA_g (wA_t1 (List.mem_of_getElem? (i := 123) rfl)) rfl
theorem mg_125 : Cond.lays RX0 "DripSayings$Note" "drip" "I" ∈ wAll := wA_g (wA_t1 (List.mem_of_getElem? (i := 125) rfl)) rfl
theorem mg_127 : Cond.lays RX0 "DripSayings$Note" "beat" "I" ∈ wAll := wA_g (wA_t1 (List.mem_of_getElem? (i := 127) rfl)) rfl
theorem mg_129 : Cond.lays RX0 "DripSayings$Note" "washer" "I" ∈ wAll := wA_g (wA_t1 (List.mem_of_getElem? (i := 129) rfl)) rfl
theorem mg_132 : Cond.fieldLink RX3 11 "DripSayings$Room" "taps" "[LDripSayings$Tap;" ∈ wAll := wA_g (wA_t1 (List.mem_of_getElem? (i := 132) rfl)) rfl
theorem mg_133 : Cond.fieldLink RX3 22 "DripSayings$Room" "notes" "[LDripSayings$Note;" ∈ wAll := wA_g (wA_t1 (List.mem_of_getElem? (i := 133) rfl)) rfl
theorem mg_134 : Cond.fieldLink RX3 27 "DripSayings$Room" "tapCount" "I" ∈ wAll := wA_g (wA_t1 (List.mem_of_getElem? (i := 134) rfl)) rfl
theorem mg_135 : Cond.fieldLink RX6 67 "DripSayings$Room" "tapCount" "I" ∈ wAll := wA_g (wA_t1 (List.mem_of_getElem? (i := 135) rfl)) rfl
theorem mg_136 : Cond.fieldLink RX3 31 "DripSayings$Room" "noteCount" "I" ∈ wAll := wA_g (wA_t1 (List.mem_of_getElem? (i := 136) rfl)) rfl
theorem mg_137 : Cond.fieldLink RX6 121 "DripSayings$Room" "noteCount" "I" ∈ wAll := wA_g (wA_t1 (List.mem_of_getElem? (i := 137) rfl)) rfl
theorem mg_138 : Cond.fieldLink RX3 34 "DripSayings$Room" "changes" "I" ∈ wAll := wA_g (wA_t1 (List.mem_of_getElem? (i := 138) rfl)) rfl
theorem mg_139 : Cond.fieldLink RX6 108 "DripSayings$Room" "changes" "I" ∈ wAll := wA_g (wA_t1 (List.mem_of_getElem? (i := 139) rfl)) rfl
theorem mg_140 : Cond.laysFinal RX3 "DripSayings$Room" "taps" "[LDripSayings$Tap;" ∈ wAll := wA_g (wA_t1 (List.mem_of_getElem? (i := 140) rfl)) rfl
theorem mg_142 : Cond.laysFinal RX3 "DripSayings$Room" "notes" "[LDripSayings$Note;" ∈ wAll := wA_g (wA_t1 (List.mem_of_getElem? (i := 142) rfl)) rfl
theorem mg_144 : Cond.lays RX3 "DripSayings$Room" "tapCount" "I" ∈ wAll := wA_g (wA_t1 (List.mem_of_getElem? (i := 144) rfl)) rfl
theorem mg_146 : Cond.lays RX3 "DripSayings$Room" "noteCount" "I" ∈ wAll := wA_g (wA_t1 (List.mem_of_getElem? (i := 146) rfl)) rfl
theorem mg_148 : Cond.lays RX3 "DripSayings$Room" "changes" "I" ∈ wAll := wA_g (wA_t1 (List.mem_of_getElem? (i := 148) rfl)) rfl
theorem mg_151 : Cond.fieldLink RX6 10 "DripSayings" "page" "LDripSayings$Page;" ∈ wAll := wA_g (wA_t1 (List.mem_of_getElem? (i := 151) rfl)) rfl
theorem mg_152 : Cond.fieldLink RX6 19 "DripSayings" "sayings" "LDripSayings$Sayings;" ∈ wAll := wA_g (wA_t1 (List.mem_of_getElem? (i := 152) rfl)) rfl
theorem mg_153 : Cond.fieldLink RX6 26 "DripSayings" "room" "LDripSayings$Room;" ∈ wAll := wA_g (wA_t1 (List.mem_of_getElem? (i := 153) rfl)) rfl
theorem mg_154 : Cond.fieldLink RX6 30 "DripSayings" "kept" "LDripSayings$Room;" ∈ wAll := wA_g (wA_t1 (List.mem_of_getElem? (i := 154) rfl)) rfl
theorem mg_155 : Cond.fieldLink RX6 57 "DripSayings" "hasHouse" "Z" ∈ wAll := wA_g (wA_t1 (List.mem_of_getElem? (i := 155) rfl)) rfl
theorem mg_156 : Cond.fieldLink RX6 61 "DripSayings" "hasImage" "Z" ∈ wAll := wA_g (wA_t1 (List.mem_of_getElem? (i := 156) rfl)) rfl
theorem mg_157 : Cond.fieldLink RX6 64 "DripSayings" "housesRead" "I" ∈ wAll := wA_g (wA_t1 (List.mem_of_getElem? (i := 157) rfl)) rfl
theorem mg_158 : Cond.laysFinal RX6 "DripSayings" "page" "LDripSayings$Page;" ∈ wAll := wA_g (wA_t1 (List.mem_of_getElem? (i := 158) rfl)) rfl
theorem mg_160 : Cond.laysFinal RX6 "DripSayings" "sayings" "LDripSayings$Sayings;" ∈ wAll := wA_g (wA_t1 (List.mem_of_getElem? (i := 160) rfl)) rfl
theorem mg_162 : Cond.laysFinal RX6 "DripSayings" "room" "LDripSayings$Room;" ∈ wAll := wA_g (wA_t1 (List.mem_of_getElem? (i := 162) rfl)) rfl
theorem mg_164 : Cond.laysFinal RX6 "DripSayings" "kept" "LDripSayings$Room;" ∈ wAll := wA_g (wA_t1 (List.mem_of_getElem? (i := 164) rfl)) rfl
theorem mg_166 : Cond.lays RX6 "DripSayings" "hasHouse" "Z" ∈ wAll := wA_g (wA_t1 (List.mem_of_getElem? (i := 166) rfl)) rfl
theorem mg_168 : Cond.lays RX6 "DripSayings" "hasImage" "Z" ∈ wAll := wA_g (wA_t1 (List.mem_of_getElem? (i := 168) rfl)) rfl
theorem mg_170 : Cond.lays RX6 "DripSayings" "housesRead" "I" ∈ wAll := wA_g (wA_t1 (List.mem_of_getElem? (i := 170) rfl)) rfl
theorem mg_173 : Cond.methodLink RL 13 yX6_letter ∈ wAll := wA_g (wA_t1 (List.mem_of_getElem? (i := 173) rfl)) rfl
theorem mg_174 : Cond.instanceMethod yX6_letter ∈ wAll := wA_g (wA_t1 (List.mem_of_getElem? (i := 174) rfl)) rfl
theorem mg_175 : Cond.selects RX6 yX6_letter yX6_letter ∈ wAll := wA_g (wA_t1 (List.mem_of_getElem? (i := 175) rfl)) rfl
theorem mg_176 : Cond.code yX6_letter cX6_letter 2 (Option.some FieldType.int) ∈ wAll := wA_g (wA_t1 (List.mem_of_getElem? (i := 176) rfl)) rfl
theorem mg_177 : Cond.methodLink RX6 37 yX1_add ∈ wAll := wA_g (wA_t1 (List.mem_of_getElem? (i := 177) rfl)) rfl
theorem mg_178 : Cond.instanceMethod yX1_add ∈ wAll := wA_g (wA_t1 (List.mem_of_getElem? (i := 178) rfl)) rfl
theorem mg_179 : Cond.selects RX1 yX1_add yX1_add ∈ wAll := wA_g (wA_t1 (List.mem_of_getElem? (i := 179) rfl)) rfl
theorem mg_180 : Cond.code yX1_add cX1_add 2 (Option.none : Option FieldType) ∈ wAll := wA_g (wA_t1 (List.mem_of_getElem? (i := 180) rfl)) rfl
theorem mg_181 : Cond.methodLink RL 18 yX6_blank ∈ wAll := wA_g (wA_t1 (List.mem_of_getElem? (i := 181) rfl)) rfl
theorem mg_182 : Cond.instanceMethod yX6_blank ∈ wAll := wA_g (wA_t1 (List.mem_of_getElem? (i := 182) rfl)) rfl
theorem mg_183 : Cond.selects RX6 yX6_blank yX6_blank ∈ wAll := wA_g (wA_t1 (List.mem_of_getElem? (i := 183) rfl)) rfl
theorem mg_184 : Cond.code yX6_blank cX6_blank 2 (Option.some FieldType.int) ∈ wAll := wA_g (wA_t1 (List.mem_of_getElem? (i := 184) rfl)) rfl
theorem mg_185 : Cond.methodLink RX6 41 yX1_clear ∈ wAll := wA_g (wA_t1 (List.mem_of_getElem? (i := 185) rfl)) rfl
theorem mg_186 : Cond.instanceMethod yX1_clear ∈ wAll := wA_g (wA_t1 (List.mem_of_getElem? (i := 186) rfl)) rfl
theorem mg_187 : Cond.selects RX1 yX1_clear yX1_clear ∈ wAll := wA_g (wA_t1 (List.mem_of_getElem? (i := 187) rfl)) rfl
theorem mg_188 : Cond.code yX1_clear cX1_clear 1 (Option.none : Option FieldType) ∈ wAll := wA_g (wA_t1 (List.mem_of_getElem? (i := 188) rfl)) rfl
theorem mg_189 : Cond.methodLink RL 23 yX6_fault ∈ wAll := wA_g (wA_t1 (List.mem_of_getElem? (i := 189) rfl)) rfl
theorem mg_190 : Cond.instanceMethod yX6_fault ∈ wAll := wA_g (wA_t1 (List.mem_of_getElem? (i := 190) rfl)) rfl
theorem mg_191 : Cond.selects RX6 yX6_fault yX6_fault ∈ wAll := wA_g (wA_t1 (List.mem_of_getElem? (i := 191) rfl)) rfl
theorem mg_192 : Cond.code yX6_fault cX6_fault 1 (Option.some FieldType.int) ∈ wAll := wA_g (wA_t1 (List.mem_of_getElem? (i := 192) rfl)) rfl
theorem mg_193 : Cond.methodLink RX6 44 yX1_firstFault ∈ wAll := wA_g (wA_t1 (List.mem_of_getElem? (i := 193) rfl)) rfl
theorem mg_194 : Cond.instanceMethod yX1_firstFault ∈ wAll := wA_g (wA_t1 (List.mem_of_getElem? (i := 194) rfl)) rfl
theorem mg_195 : Cond.selects RX1 yX1_firstFault yX1_firstFault ∈ wAll := wA_g (wA_t1 (List.mem_of_getElem? (i := 195) rfl)) rfl
theorem mg_196 : Cond.code yX1_firstFault cX1_firstFault 2 (Option.some FieldType.int) ∈ wAll := wA_g (wA_t1 (List.mem_of_getElem? (i := 196) rfl)) rfl
theorem mg_197 : Cond.methodLink RX1 26 yX2_begin ∈ wAll := wA_g (wA_t1 (List.mem_of_getElem? (i := 197) rfl)) rfl
theorem mg_198 : Cond.instanceMethod yX2_begin ∈ wAll := wA_g (wA_t1 (List.mem_of_getElem? (i := 198) rfl)) rfl
theorem mg_199 : Cond.selects RX2 yX2_begin yX2_begin ∈ wAll := wA_g (wA_t1 (List.mem_of_getElem? (i := 199) rfl)) rfl
theorem mg_200 : Cond.code yX2_begin cX2_begin 1 (Option.none : Option FieldType) ∈ wAll := wA_g (wA_t1 (List.mem_of_getElem? (i := 200) rfl)) rfl
theorem mg_201 : Cond.methodLink RX1 29 yX1_codeAt ∈ wAll := wA_g (wA_t1 (List.mem_of_getElem? (i := 201) rfl)) rfl
theorem mg_202 : Cond.instanceMethod yX1_codeAt ∈ wAll := wA_g (wA_t1 (List.mem_of_getElem? (i := 202) rfl)) rfl
theorem mg_203 : Cond.selects RX1 yX1_codeAt yX1_codeAt ∈ wAll := wA_g (wA_t1 (List.mem_of_getElem? (i := 203) rfl)) rfl
theorem mg_204 : Cond.code yX1_codeAt cX1_codeAt 2 (Option.some FieldType.int) ∈ wAll := wA_g (wA_t1 (List.mem_of_getElem? (i := 204) rfl)) rfl
theorem mg_205 : Cond.methodLink RX1 33 yX2_takes ∈ wAll := wA_g (wA_t1 (List.mem_of_getElem? (i := 205) rfl)) rfl
theorem mg_206 : Cond.instanceMethod yX2_takes ∈ wAll := wA_g (wA_t1 (List.mem_of_getElem? (i := 206) rfl)) rfl
theorem mg_207 : Cond.selects RX2 yX2_takes yX2_takes ∈ wAll := wA_g (wA_t1 (List.mem_of_getElem? (i := 207) rfl)) rfl
theorem mg_208 : Cond.code yX2_takes cX2_takes 2 (Option.some FieldType.boolean) ∈ wAll := wA_g (wA_t1 (List.mem_of_getElem? (i := 208) rfl)) rfl
theorem mg_209 : Cond.methodLink RX2 21 yX2_takesInSaying ∈ wAll := wA_g (wA_t1 (List.mem_of_getElem? (i := 209) rfl)) rfl
theorem mg_211 : Cond.instanceMethod yX2_takesInSaying ∈ wAll := wA_g (wA_t1 (List.mem_of_getElem? (i := 211) rfl)) rfl
theorem mg_212 : Cond.code yX2_takesInSaying cX2_takesInSaying 3 (Option.some FieldType.boolean) ∈ wAll := wA_g (wA_t1 (List.mem_of_getElem? (i := 212) rfl)) rfl
theorem mg_213 : Cond.methodLink RX2 25 yX2_takesInTap ∈ wAll := wA_g (wA_t1 (List.mem_of_getElem? (i := 213) rfl)) rfl
theorem mg_215 : Cond.instanceMethod yX2_takesInTap ∈ wAll := wA_g (wA_t1 (List.mem_of_getElem? (i := 215) rfl)) rfl
theorem mg_216 : Cond.code yX2_takesInTap cX2_takesInTap 2 (Option.some FieldType.boolean) ∈ wAll := wA_g (wA_t1 (List.mem_of_getElem? (i := 216) rfl)) rfl
theorem mt_217 : Cond.methodLinkNest RX2 28 yX6_kindOfLetter "DripSayings" ∈ lw_tbl := wA_t1 (List.mem_of_getElem? (i := 217) rfl)
theorem mg_218 : Cond.static yX6_kindOfLetter ∈ wAll := wA_g (wA_t1 (List.mem_of_getElem? (i := 218) rfl)) rfl
theorem mg_219 : Cond.code yX6_kindOfLetter cX6_kindOfLetter 1 (Option.some FieldType.int) ∈ wAll := wA_g (wA_t1 (List.mem_of_getElem? (i := 219) rfl)) rfl
theorem mt_220 : Cond.methodLinkNest RX2 32 yX6_isSaying "DripSayings" ∈ lw_tbl := wA_t1 (List.mem_of_getElem? (i := 220) rfl)
theorem mg_221 : Cond.static yX6_isSaying ∈ wAll := wA_g (wA_t1 (List.mem_of_getElem? (i := 221) rfl)) rfl
theorem mg_222 : Cond.code yX6_isSaying cX6_isSaying 1 (Option.some FieldType.boolean) ∈ wAll := wA_g (wA_t1 (List.mem_of_getElem? (i := 222) rfl)) rfl
theorem mg_223 : Cond.methodLink RL 27 yX6_house ∈ wAll := wA_g (wA_t1 (List.mem_of_getElem? (i := 223) rfl)) rfl
theorem mg_224 : Cond.instanceMethod yX6_house ∈ wAll := wA_g (wA_t1 (List.mem_of_getElem? (i := 224) rfl)) rfl
theorem mg_225 : Cond.selects RX6 yX6_house yX6_house ∈ wAll := wA_g (wA_t1 (List.mem_of_getElem? (i := 225) rfl)) rfl
theorem mg_226 : Cond.code yX6_house cX6_house 1 (Option.some FieldType.int) ∈ wAll := wA_g (wA_t1 (List.mem_of_getElem? (i := 226) rfl)) rfl
theorem mg_227 : Cond.methodLink RX6 48 yX1_isHouse ∈ wAll := wA_g (wA_t1 (List.mem_of_getElem? (i := 227) rfl)) rfl
theorem mg_228 : Cond.instanceMethod yX1_isHouse ∈ wAll := wA_g (wA_t1 (List.mem_of_getElem? (i := 228) rfl)) rfl
theorem mg_229 : Cond.selects RX1 yX1_isHouse yX1_isHouse ∈ wAll := wA_g (wA_t1 (List.mem_of_getElem? (i := 229) rfl)) rfl
theorem mg_230 : Cond.code yX1_isHouse cX1_isHouse 1 (Option.some FieldType.boolean) ∈ wAll := wA_g (wA_t1 (List.mem_of_getElem? (i := 230) rfl)) rfl
theorem mg_231 : Cond.methodLink RX1 37 yX1_firstFault ∈ wAll := wA_g (wA_t1 (List.mem_of_getElem? (i := 231) rfl)) rfl
theorem mg_232 : Cond.methodLink RX1 41 yX2_isAtEnd ∈ wAll := wA_g (wA_t1 (List.mem_of_getElem? (i := 232) rfl)) rfl
theorem mg_233 : Cond.instanceMethod yX2_isAtEnd ∈ wAll := wA_g (wA_t1 (List.mem_of_getElem? (i := 233) rfl)) rfl
theorem mg_234 : Cond.selects RX2 yX2_isAtEnd yX2_isAtEnd ∈ wAll := wA_g (wA_t1 (List.mem_of_getElem? (i := 234) rfl)) rfl
theorem mg_235 : Cond.code yX2_isAtEnd cX2_isAtEnd 1 (Option.some FieldType.boolean) ∈ wAll := wA_g (wA_t1 (List.mem_of_getElem? (i := 235) rfl)) rfl
theorem mg_236 : Cond.methodLink RX6 52 yX4_clear ∈ wAll := wA_g (wA_t1 (List.mem_of_getElem? (i := 236) rfl)) rfl
theorem mg_237 : Cond.instanceMethod yX4_clear ∈ wAll := wA_g (wA_t1 (List.mem_of_getElem? (i := 237) rfl)) rfl
theorem mg_238 : Cond.selects RX4 yX4_clear yX4_clear ∈ wAll := wA_g (wA_t1 (List.mem_of_getElem? (i := 238) rfl)) rfl
theorem mg_239 : Cond.code yX4_clear cX4_clear 2 (Option.none : Option FieldType) ∈ wAll := wA_g (wA_t1 (List.mem_of_getElem? (i := 239) rfl)) rfl
theorem mg_240 : Cond.methodLink RX6 53 yX3_clear ∈ wAll := wA_g (wA_t2 (List.mem_of_getElem? (i := 0) rfl)) rfl
theorem mg_241 : Cond.instanceMethod yX3_clear ∈ wAll := wA_g (wA_t2 (List.mem_of_getElem? (i := 1) rfl)) rfl
theorem mg_242 : Cond.selects RX3 yX3_clear yX3_clear ∈ wAll := wA_g (wA_t2 (List.mem_of_getElem? (i := 2) rfl)) rfl
theorem mg_243 : Cond.code yX3_clear cX3_clear 1 (Option.none : Option FieldType) ∈ wAll := wA_g (wA_t2 (List.mem_of_getElem? (i := 3) rfl)) rfl
theorem mg_244 : Cond.methodLink RX6 54 yX6_readPage ∈ wAll := wA_g (wA_t2 (List.mem_of_getElem? (i := 4) rfl)) rfl
theorem mg_246 : Cond.instanceMethod yX6_readPage ∈ wAll := wA_g (wA_t2 (List.mem_of_getElem? (i := 6) rfl)) rfl
theorem mg_247 : Cond.code yX6_readPage cX6_readPage 6 (Option.none : Option FieldType) ∈ wAll := wA_g (wA_t2 (List.mem_of_getElem? (i := 7) rfl)) rfl
theorem mg_248 : Cond.methodLink RX6 153 yX1_codeAt ∈ wAll := wA_g (wA_t2 (List.mem_of_getElem? (i := 8) rfl)) rfl
theorem mg_249 : Cond.methodLink RX6 156 yX4_addBeat ∈ wAll := wA_g (wA_t2 (List.mem_of_getElem? (i := 9) rfl)) rfl
theorem mg_250 : Cond.instanceMethod yX4_addBeat ∈ wAll := wA_g (wA_t2 (List.mem_of_getElem? (i := 10) rfl)) rfl
theorem mg_251 : Cond.selects RX4 yX4_addBeat yX4_addBeat ∈ wAll := wA_g (wA_t2 (List.mem_of_getElem? (i := 11) rfl)) rfl
theorem mg_252 : Cond.code yX4_addBeat cX4_addBeat 4 (Option.none : Option FieldType) ∈ wAll := wA_g (wA_t2 (List.mem_of_getElem? (i := 12) rfl)) rfl
theorem mg_253 : Cond.methodLink RX6 159 yX6_kindOfLetter ∈ wAll := wA_g (wA_t2 (List.mem_of_getElem? (i := 13) rfl)) rfl
theorem mg_254 : Cond.methodLink RX6 85 yX3_addTap ∈ wAll := wA_g (wA_t2 (List.mem_of_getElem? (i := 14) rfl)) rfl
theorem mg_255 : Cond.instanceMethod yX3_addTap ∈ wAll := wA_g (wA_t2 (List.mem_of_getElem? (i := 15) rfl)) rfl
theorem mg_256 : Cond.selects RX3 yX3_addTap yX3_addTap ∈ wAll := wA_g (wA_t2 (List.mem_of_getElem? (i := 16) rfl)) rfl
theorem mg_257 : Cond.code yX3_addTap cX3_addTap 4 (Option.none : Option FieldType) ∈ wAll := wA_g (wA_t2 (List.mem_of_getElem? (i := 17) rfl)) rfl
theorem mg_258 : Cond.methodLink RX3 37 yX3_tapAt ∈ wAll := wA_g (wA_t2 (List.mem_of_getElem? (i := 18) rfl)) rfl
theorem mg_259 : Cond.instanceMethod yX3_tapAt ∈ wAll := wA_g (wA_t2 (List.mem_of_getElem? (i := 19) rfl)) rfl
theorem mg_260 : Cond.selects RX3 yX3_tapAt yX3_tapAt ∈ wAll := wA_g (wA_t2 (List.mem_of_getElem? (i := 20) rfl)) rfl
theorem mg_261 : Cond.code yX3_tapAt cX3_tapAt 2 (Option.some (FieldType.object "DripSayings$Tap")) ∈ wAll := wA_g (wA_t2 (List.mem_of_getElem? (i := 21) rfl)) rfl
theorem mg_262 : Cond.methodLink RX3 41 yX5_become ∈ wAll := wA_g (wA_t2 (List.mem_of_getElem? (i := 22) rfl)) rfl
theorem mg_263 : Cond.instanceMethod yX5_become ∈ wAll := wA_g (wA_t2 (List.mem_of_getElem? (i := 23) rfl)) rfl
theorem mg_264 : Cond.selects RX5 yX5_become yX5_become ∈ wAll := wA_g (wA_t2 (List.mem_of_getElem? (i := 24) rfl)) rfl
theorem mg_265 : Cond.code yX5_become cX5_become 5 (Option.none : Option FieldType) ∈ wAll := wA_g (wA_t2 (List.mem_of_getElem? (i := 25) rfl)) rfl
theorem mg_266 : Cond.methodLink RL 31 yX6_saying ∈ wAll := wA_g (wA_t2 (List.mem_of_getElem? (i := 26) rfl)) rfl
theorem mg_267 : Cond.instanceMethod yX6_saying ∈ wAll := wA_g (wA_t2 (List.mem_of_getElem? (i := 27) rfl)) rfl
theorem mg_268 : Cond.selects RX6 yX6_saying yX6_saying ∈ wAll := wA_g (wA_t2 (List.mem_of_getElem? (i := 28) rfl)) rfl
theorem mg_269 : Cond.code yX6_saying cX6_saying 3 (Option.some FieldType.int) ∈ wAll := wA_g (wA_t2 (List.mem_of_getElem? (i := 29) rfl)) rfl
theorem mg_270 : Cond.methodLink RX6 70 yX6_isSaying ∈ wAll := wA_g (wA_t2 (List.mem_of_getElem? (i := 30) rfl)) rfl
theorem mg_271 : Cond.methodLink RX6 74 yX4_lengthOf ∈ wAll := wA_g (wA_t2 (List.mem_of_getElem? (i := 31) rfl)) rfl
theorem mg_272 : Cond.instanceMethod yX4_lengthOf ∈ wAll := wA_g (wA_t2 (List.mem_of_getElem? (i := 32) rfl)) rfl
theorem mg_273 : Cond.selects RX4 yX4_lengthOf yX4_lengthOf ∈ wAll := wA_g (wA_t2 (List.mem_of_getElem? (i := 33) rfl)) rfl
theorem mg_274 : Cond.code yX4_lengthOf cX4_lengthOf 2 (Option.some FieldType.int) ∈ wAll := wA_g (wA_t2 (List.mem_of_getElem? (i := 34) rfl)) rfl
theorem mg_275 : Cond.methodLink RX6 78 yX4_beatOf ∈ wAll := wA_g (wA_t2 (List.mem_of_getElem? (i := 35) rfl)) rfl
theorem mg_276 : Cond.instanceMethod yX4_beatOf ∈ wAll := wA_g (wA_t2 (List.mem_of_getElem? (i := 36) rfl)) rfl
theorem mg_277 : Cond.selects RX4 yX4_beatOf yX4_beatOf ∈ wAll := wA_g (wA_t2 (List.mem_of_getElem? (i := 37) rfl)) rfl
theorem mg_278 : Cond.code yX4_beatOf cX4_beatOf 4 (Option.some FieldType.int) ∈ wAll := wA_g (wA_t2 (List.mem_of_getElem? (i := 38) rfl)) rfl
theorem mg_279 : Cond.methodLink RL 36 yX6_tap ∈ wAll := wA_g (wA_t2 (List.mem_of_getElem? (i := 39) rfl)) rfl
theorem mg_280 : Cond.instanceMethod yX6_tap ∈ wAll := wA_g (wA_t2 (List.mem_of_getElem? (i := 40) rfl)) rfl
theorem mg_281 : Cond.selects RX6 yX6_tap yX6_tap ∈ wAll := wA_g (wA_t2 (List.mem_of_getElem? (i := 41) rfl)) rfl
theorem mg_282 : Cond.code yX6_tap cX6_tap 3 (Option.some FieldType.int) ∈ wAll := wA_g (wA_t2 (List.mem_of_getElem? (i := 42) rfl)) rfl
theorem mg_283 : Cond.methodLink RX6 82 yX6_isKind ∈ wAll := wA_g (wA_t2 (List.mem_of_getElem? (i := 43) rfl)) rfl
theorem mg_284 : Cond.static yX6_isKind ∈ wAll := wA_g (wA_t2 (List.mem_of_getElem? (i := 44) rfl)) rfl
theorem mg_285 : Cond.code yX6_isKind cX6_isKind 1 (Option.some FieldType.boolean) ∈ wAll := wA_g (wA_t2 (List.mem_of_getElem? (i := 45) rfl)) rfl
theorem mg_286 : Cond.methodLink RL 40 yX6_about ∈ wAll := wA_g (wA_t2 (List.mem_of_getElem? (i := 46) rfl)) rfl
theorem mg_287 : Cond.instanceMethod yX6_about ∈ wAll := wA_g (wA_t2 (List.mem_of_getElem? (i := 47) rfl)) rfl
theorem mg_288 : Cond.selects RX6 yX6_about yX6_about ∈ wAll := wA_g (wA_t2 (List.mem_of_getElem? (i := 48) rfl)) rfl
theorem mg_289 : Cond.code yX6_about cX6_about 4 (Option.some FieldType.int) ∈ wAll := wA_g (wA_t2 (List.mem_of_getElem? (i := 49) rfl)) rfl
theorem mg_290 : Cond.methodLink RX6 89 yX3_tapAt ∈ wAll := wA_g (wA_t2 (List.mem_of_getElem? (i := 50) rfl)) rfl
theorem mg_291 : Cond.methodLink RX6 93 yX6_aboutOf ∈ wAll := wA_g (wA_t2 (List.mem_of_getElem? (i := 51) rfl)) rfl
theorem mg_293 : Cond.instanceMethod yX6_aboutOf ∈ wAll := wA_g (wA_t2 (List.mem_of_getElem? (i := 53) rfl)) rfl
theorem mg_294 : Cond.code yX6_aboutOf cX6_aboutOf 3 (Option.some FieldType.int) ∈ wAll := wA_g (wA_t2 (List.mem_of_getElem? (i := 54) rfl)) rfl
theorem mg_295 : Cond.methodLink RX6 166 yX6_sureOf ∈ wAll := wA_g (wA_t2 (List.mem_of_getElem? (i := 55) rfl)) rfl
theorem mg_297 : Cond.instanceMethod yX6_sureOf ∈ wAll := wA_g (wA_t2 (List.mem_of_getElem? (i := 57) rfl)) rfl
theorem mg_298 : Cond.code yX6_sureOf cX6_sureOf 6 (Option.some FieldType.int) ∈ wAll := wA_g (wA_t2 (List.mem_of_getElem? (i := 58) rfl)) rfl
theorem mg_299 : Cond.methodLink RX6 182 yX6_enoughToTell ∈ wAll := wA_g (wA_t2 (List.mem_of_getElem? (i := 59) rfl)) rfl
theorem mg_301 : Cond.instanceMethod yX6_enoughToTell ∈ wAll := wA_g (wA_t2 (List.mem_of_getElem? (i := 61) rfl)) rfl
theorem mg_302 : Cond.code yX6_enoughToTell cX6_enoughToTell 7 (Option.some FieldType.int) ∈ wAll := wA_g (wA_t2 (List.mem_of_getElem? (i := 62) rfl)) rfl
theorem mg_303 : Cond.methodLink RX6 162 yX4_dripBy ∈ wAll := wA_g (wA_t2 (List.mem_of_getElem? (i := 63) rfl)) rfl
theorem mg_304 : Cond.instanceMethod yX4_dripBy ∈ wAll := wA_g (wA_t2 (List.mem_of_getElem? (i := 64) rfl)) rfl
theorem mg_305 : Cond.selects RX4 yX4_dripBy yX4_dripBy ∈ wAll := wA_g (wA_t2 (List.mem_of_getElem? (i := 65) rfl)) rfl
theorem mg_306 : Cond.code yX4_dripBy cX4_dripBy 8 (Option.some FieldType.int) ∈ wAll := wA_g (wA_t2 (List.mem_of_getElem? (i := 66) rfl)) rfl
theorem mg_307 : Cond.methodLink RX4 18 yX4_lengthOf ∈ wAll := wA_g (wA_t2 (List.mem_of_getElem? (i := 67) rfl)) rfl
theorem mg_308 : Cond.methodLink RX4 22 yX4_beatOf ∈ wAll := wA_g (wA_t2 (List.mem_of_getElem? (i := 68) rfl)) rfl
theorem mg_309 : Cond.methodLink RX6 185 yJ9_max_7cf53 ∈ wAll := wA_g (wA_t2 (List.mem_of_getElem? (i := 69) rfl)) rfl
theorem mg_310 : Cond.static yJ9_max_7cf53 ∈ wAll := wA_g (wA_t2 (List.mem_of_getElem? (i := 70) rfl)) rfl
theorem mg_311 : Cond.code yJ9_max_7cf53 cJ9_max_7cf53 2 (Option.some FieldType.int) ∈ wAll := wA_g (wA_t2 (List.mem_of_getElem? (i := 71) rfl)) rfl
theorem mg_312 : Cond.methodLink RX6 170 yX6_saysOf ∈ wAll := wA_g (wA_t2 (List.mem_of_getElem? (i := 72) rfl)) rfl
theorem mg_314 : Cond.instanceMethod yX6_saysOf ∈ wAll := wA_g (wA_t2 (List.mem_of_getElem? (i := 74) rfl)) rfl
theorem mg_315 : Cond.code yX6_saysOf cX6_saysOf 4 (Option.some FieldType.int) ∈ wAll := wA_g (wA_t2 (List.mem_of_getElem? (i := 75) rfl)) rfl
theorem mg_316 : Cond.methodLink RX6 176 yX6_slipsOf ∈ wAll := wA_g (wA_t2 (List.mem_of_getElem? (i := 76) rfl)) rfl
theorem mg_318 : Cond.instanceMethod yX6_slipsOf ∈ wAll := wA_g (wA_t2 (List.mem_of_getElem? (i := 78) rfl)) rfl
theorem mg_319 : Cond.code yX6_slipsOf cX6_slipsOf 6 (Option.some FieldType.int) ∈ wAll := wA_g (wA_t2 (List.mem_of_getElem? (i := 79) rfl)) rfl
theorem mg_320 : Cond.methodLink RX6 190 yX3_noteAt ∈ wAll := wA_g (wA_t2 (List.mem_of_getElem? (i := 80) rfl)) rfl
theorem mg_321 : Cond.instanceMethod yX3_noteAt ∈ wAll := wA_g (wA_t2 (List.mem_of_getElem? (i := 81) rfl)) rfl
theorem mg_322 : Cond.selects RX3 yX3_noteAt yX3_noteAt ∈ wAll := wA_g (wA_t2 (List.mem_of_getElem? (i := 82) rfl)) rfl
theorem mg_323 : Cond.code yX3_noteAt cX3_noteAt 2 (Option.some (FieldType.object "DripSayings$Note")) ∈ wAll := wA_g (wA_t2 (List.mem_of_getElem? (i := 83) rfl)) rfl
theorem mg_324 : Cond.methodLink RX6 173 yX6_likelyOf ∈ wAll := wA_g (wA_t2 (List.mem_of_getElem? (i := 84) rfl)) rfl
theorem mg_326 : Cond.instanceMethod yX6_likelyOf ∈ wAll := wA_g (wA_t2 (List.mem_of_getElem? (i := 86) rfl)) rfl
theorem mg_327 : Cond.code yX6_likelyOf cX6_likelyOf 4 (Option.some FieldType.int) ∈ wAll := wA_g (wA_t2 (List.mem_of_getElem? (i := 87) rfl)) rfl
theorem mg_328 : Cond.methodLink RX6 179 yX6_bestToHear ∈ wAll := wA_g (wA_t2 (List.mem_of_getElem? (i := 88) rfl)) rfl
theorem mg_330 : Cond.instanceMethod yX6_bestToHear ∈ wAll := wA_g (wA_t2 (List.mem_of_getElem? (i := 90) rfl)) rfl
theorem mg_331 : Cond.code yX6_bestToHear cX6_bestToHear 5 (Option.some FieldType.int) ∈ wAll := wA_g (wA_t2 (List.mem_of_getElem? (i := 91) rfl)) rfl
theorem mg_332 : Cond.methodLink RX6 209 yX6_leftAtWorst ∈ wAll := wA_g (wA_t2 (List.mem_of_getElem? (i := 92) rfl)) rfl
theorem mg_334 : Cond.instanceMethod yX6_leftAtWorst ∈ wAll := wA_g (wA_t2 (List.mem_of_getElem? (i := 94) rfl)) rfl
theorem mg_335 : Cond.code yX6_leftAtWorst cX6_leftAtWorst 7 (Option.some FieldType.int) ∈ wAll := wA_g (wA_t2 (List.mem_of_getElem? (i := 95) rfl)) rfl
theorem mg_336 : Cond.methodLink RL 44 yX6_as ∈ wAll := wA_g (wA_t2 (List.mem_of_getElem? (i := 96) rfl)) rfl
theorem mg_337 : Cond.instanceMethod yX6_as ∈ wAll := wA_g (wA_t2 (List.mem_of_getElem? (i := 97) rfl)) rfl
theorem mg_338 : Cond.selects RX6 yX6_as yX6_as ∈ wAll := wA_g (wA_t2 (List.mem_of_getElem? (i := 98) rfl)) rfl
theorem mg_339 : Cond.code yX6_as cX6_as 5 (Option.some FieldType.int) ∈ wAll := wA_g (wA_t2 (List.mem_of_getElem? (i := 99) rfl)) rfl
theorem mg_340 : Cond.methodLink RL 48 yX6_drip ∈ wAll := wA_g (wA_t2 (List.mem_of_getElem? (i := 100) rfl)) rfl
theorem mg_341 : Cond.instanceMethod yX6_drip ∈ wAll := wA_g (wA_t2 (List.mem_of_getElem? (i := 101) rfl)) rfl
theorem mg_342 : Cond.selects RX6 yX6_drip yX6_drip ∈ wAll := wA_g (wA_t2 (List.mem_of_getElem? (i := 102) rfl)) rfl
theorem mg_343 : Cond.code yX6_drip cX6_drip 4 (Option.some FieldType.int) ∈ wAll := wA_g (wA_t2 (List.mem_of_getElem? (i := 103) rfl)) rfl
theorem mg_344 : Cond.methodLink RX6 102 yX6_dripOf ∈ wAll := wA_g (wA_t2 (List.mem_of_getElem? (i := 104) rfl)) rfl
theorem mg_346 : Cond.instanceMethod yX6_dripOf ∈ wAll := wA_g (wA_t2 (List.mem_of_getElem? (i := 106) rfl)) rfl
theorem mg_347 : Cond.code yX6_dripOf cX6_dripOf 3 (Option.some FieldType.int) ∈ wAll := wA_g (wA_t2 (List.mem_of_getElem? (i := 107) rfl)) rfl
theorem mg_348 : Cond.methodLink RL 52 yX6_listen ∈ wAll := wA_g (wA_t2 (List.mem_of_getElem? (i := 108) rfl)) rfl
theorem mg_349 : Cond.instanceMethod yX6_listen ∈ wAll := wA_g (wA_t2 (List.mem_of_getElem? (i := 109) rfl)) rfl
theorem mg_350 : Cond.selects RX6 yX6_listen yX6_listen ∈ wAll := wA_g (wA_t2 (List.mem_of_getElem? (i := 110) rfl)) rfl
theorem mg_351 : Cond.code yX6_listen cX6_listen 4 (Option.some FieldType.int) ∈ wAll := wA_g (wA_t2 (List.mem_of_getElem? (i := 111) rfl)) rfl
theorem mg_352 : Cond.methodLink RL 56 yX6_washer ∈ wAll := wA_g (wA_t2 (List.mem_of_getElem? (i := 112) rfl)) rfl
theorem mg_353 : Cond.instanceMethod yX6_washer ∈ wAll := wA_g (wA_t2 (List.mem_of_getElem? (i := 113) rfl)) rfl
theorem mg_354 : Cond.selects RX6 yX6_washer yX6_washer ∈ wAll := wA_g (wA_t2 (List.mem_of_getElem? (i := 114) rfl)) rfl
theorem mg_355 : Cond.code yX6_washer cX6_washer 5 (Option.some FieldType.int) ∈ wAll := wA_g (wA_t2 (List.mem_of_getElem? (i := 115) rfl)) rfl
theorem mg_356 : Cond.methodLink RL 61 yX6_teach ∈ wAll := wA_g (wA_t2 (List.mem_of_getElem? (i := 116) rfl)) rfl
theorem mg_357 : Cond.instanceMethod yX6_teach ∈ wAll := wA_g (wA_t2 (List.mem_of_getElem? (i := 117) rfl)) rfl
theorem mg_358 : Cond.selects RX6 yX6_teach yX6_teach ∈ wAll := wA_g (wA_t2 (List.mem_of_getElem? (i := 118) rfl)) rfl
theorem mg_359 : Cond.code yX6_teach cX6_teach 5 (Option.some FieldType.int) ∈ wAll := wA_g (wA_t2 (List.mem_of_getElem? (i := 119) rfl)) rfl
theorem mg_360 : Cond.methodLink RL 65 yX6_agree ∈ wAll := wA_g (wA_t2 (List.mem_of_getElem? (i := 120) rfl)) rfl
theorem mg_361 : Cond.instanceMethod yX6_agree ∈ wAll := wA_g (wA_t2 (List.mem_of_getElem? (i := 121) rfl)) rfl
theorem mg_362 : Cond.selects RX6 yX6_agree yX6_agree ∈ wAll := wA_g (wA_t2 (List.mem_of_getElem? (i := 122) rfl)) rfl
theorem mg_363 : Cond.code yX6_agree cX6_agree 7 (Option.some FieldType.int) ∈ wAll := wA_g (wA_t2 (List.mem_of_getElem? (i := 123) rfl)) rfl
theorem mg_364 : Cond.methodLink RL 69 yX6_near ∈ wAll := wA_g (wA_t2 (List.mem_of_getElem? (i := 124) rfl)) rfl
theorem mg_365 : Cond.instanceMethod yX6_near ∈ wAll := wA_g (wA_t2 (List.mem_of_getElem? (i := 125) rfl)) rfl
theorem mg_366 : Cond.selects RX6 yX6_near yX6_near ∈ wAll := wA_g (wA_t2 (List.mem_of_getElem? (i := 126) rfl)) rfl
theorem mg_367 : Cond.code yX6_near cX6_near 5 (Option.some FieldType.int) ∈ wAll := wA_g (wA_t2 (List.mem_of_getElem? (i := 127) rfl)) rfl
theorem mg_368 : Cond.methodLink RX6 117 yX6_nearOf ∈ wAll := wA_g (wA_t2 (List.mem_of_getElem? (i := 128) rfl)) rfl
theorem mg_370 : Cond.instanceMethod yX6_nearOf ∈ wAll := wA_g (wA_t2 (List.mem_of_getElem? (i := 130) rfl)) rfl
theorem mg_371 : Cond.code yX6_nearOf cX6_nearOf 6 (Option.some FieldType.int) ∈ wAll := wA_g (wA_t2 (List.mem_of_getElem? (i := 131) rfl)) rfl
theorem mg_372 : Cond.methodLink RX6 212 yX6_unlikeOf ∈ wAll := wA_g (wA_t2 (List.mem_of_getElem? (i := 132) rfl)) rfl
theorem mg_374 : Cond.instanceMethod yX6_unlikeOf ∈ wAll := wA_g (wA_t2 (List.mem_of_getElem? (i := 134) rfl)) rfl
theorem mg_375 : Cond.code yX6_unlikeOf cX6_unlikeOf 7 (Option.some FieldType.int) ∈ wAll := wA_g (wA_t2 (List.mem_of_getElem? (i := 135) rfl)) rfl
theorem mg_376 : Cond.methodLink RX6 215 yJ9_min_7cf53 ∈ wAll := wA_g (wA_t2 (List.mem_of_getElem? (i := 136) rfl)) rfl
theorem mg_377 : Cond.static yJ9_min_7cf53 ∈ wAll := wA_g (wA_t2 (List.mem_of_getElem? (i := 137) rfl)) rfl
theorem mg_378 : Cond.code yJ9_min_7cf53 cJ9_min_7cf53 2 (Option.some FieldType.int) ∈ wAll := wA_g (wA_t2 (List.mem_of_getElem? (i := 138) rfl)) rfl
theorem mg_379 : Cond.methodLink RL 74 yX6_put ∈ wAll := wA_g (wA_t2 (List.mem_of_getElem? (i := 139) rfl)) rfl
theorem mg_380 : Cond.instanceMethod yX6_put ∈ wAll := wA_g (wA_t2 (List.mem_of_getElem? (i := 140) rfl)) rfl
theorem mg_381 : Cond.selects RX6 yX6_put yX6_put ∈ wAll := wA_g (wA_t2 (List.mem_of_getElem? (i := 141) rfl)) rfl
theorem mg_382 : Cond.code yX6_put cX6_put 5 (Option.some FieldType.int) ∈ wAll := wA_g (wA_t2 (List.mem_of_getElem? (i := 142) rfl)) rfl
theorem mg_383 : Cond.methodLink RX6 124 yX3_addNote ∈ wAll := wA_g (wA_t2 (List.mem_of_getElem? (i := 143) rfl)) rfl
theorem mg_384 : Cond.instanceMethod yX3_addNote ∈ wAll := wA_g (wA_t2 (List.mem_of_getElem? (i := 144) rfl)) rfl
theorem mg_385 : Cond.selects RX3 yX3_addNote yX3_addNote ∈ wAll := wA_g (wA_t2 (List.mem_of_getElem? (i := 145) rfl)) rfl
theorem mg_386 : Cond.code yX3_addNote cX3_addNote 5 (Option.none : Option FieldType) ∈ wAll := wA_g (wA_t2 (List.mem_of_getElem? (i := 146) rfl)) rfl
theorem mg_387 : Cond.methodLink RX3 45 yX3_noteAt ∈ wAll := wA_g (wA_t2 (List.mem_of_getElem? (i := 147) rfl)) rfl
theorem mg_388 : Cond.methodLink RX3 55 yX0_become ∈ wAll := wA_g (wA_t2 (List.mem_of_getElem? (i := 148) rfl)) rfl
theorem mg_389 : Cond.instanceMethod yX0_become ∈ wAll := wA_g (wA_t2 (List.mem_of_getElem? (i := 149) rfl)) rfl
theorem mg_390 : Cond.selects RX0 yX0_become yX0_become ∈ wAll := wA_g (wA_t2 (List.mem_of_getElem? (i := 150) rfl)) rfl
theorem mg_391 : Cond.code yX0_become cX0_become 5 (Option.none : Option FieldType) ∈ wAll := wA_g (wA_t2 (List.mem_of_getElem? (i := 151) rfl)) rfl
theorem mg_392 : Cond.methodLink RL 79 yX6_forget ∈ wAll := wA_g (wA_t2 (List.mem_of_getElem? (i := 152) rfl)) rfl
theorem mg_393 : Cond.instanceMethod yX6_forget ∈ wAll := wA_g (wA_t2 (List.mem_of_getElem? (i := 153) rfl)) rfl
theorem mg_394 : Cond.selects RX6 yX6_forget yX6_forget ∈ wAll := wA_g (wA_t2 (List.mem_of_getElem? (i := 154) rfl)) rfl
theorem mg_395 : Cond.code yX6_forget cX6_forget 2 (Option.some FieldType.int) ∈ wAll := wA_g (wA_t2 (List.mem_of_getElem? (i := 155) rfl)) rfl
theorem mg_396 : Cond.methodLink RL 83 yX6_nights ∈ wAll := wA_g (wA_t2 (List.mem_of_getElem? (i := 156) rfl)) rfl
theorem mg_397 : Cond.instanceMethod yX6_nights ∈ wAll := wA_g (wA_t2 (List.mem_of_getElem? (i := 157) rfl)) rfl
theorem mg_398 : Cond.selects RX6 yX6_nights yX6_nights ∈ wAll := wA_g (wA_t2 (List.mem_of_getElem? (i := 158) rfl)) rfl
theorem mg_399 : Cond.code yX6_nights cX6_nights 11 (Option.some FieldType.int) ∈ wAll := wA_g (wA_t2 (List.mem_of_getElem? (i := 159) rfl)) rfl
theorem mg_400 : Cond.methodLink RX6 128 yX6_nextSeed ∈ wAll := wA_g (wA_t2 (List.mem_of_getElem? (i := 160) rfl)) rfl
theorem mg_401 : Cond.static yX6_nextSeed ∈ wAll := wA_g (wA_t2 (List.mem_of_getElem? (i := 161) rfl)) rfl
theorem mg_402 : Cond.code yX6_nextSeed cX6_nextSeed 1 (Option.some FieldType.int) ∈ wAll := wA_g (wA_t2 (List.mem_of_getElem? (i := 162) rfl)) rfl
theorem mg_403 : Cond.constantLong RX6 218 (1103515245 : Int64) ∈ wAll := wA_g (wA_t2 (List.mem_of_getElem? (i := 163) rfl)) rfl
theorem mg_404 : Cond.constantLong RX6 220 (12345 : Int64) ∈ wAll := wA_g (wA_t2 (List.mem_of_getElem? (i := 164) rfl)) rfl
theorem mg_405 : Cond.constantLong RX6 222 (2147483648 : Int64) ∈ wAll := wA_g (wA_t2 (List.mem_of_getElem? (i := 165) rfl)) rfl
theorem mg_406 : Cond.methodLink RX6 131 yX6_drawOf ∈ wAll := wA_g (wA_t2 (List.mem_of_getElem? (i := 166) rfl)) rfl
theorem mg_407 : Cond.static yX6_drawOf ∈ wAll := wA_g (wA_t2 (List.mem_of_getElem? (i := 167) rfl)) rfl
theorem mg_408 : Cond.code yX6_drawOf cX6_drawOf 1 (Option.some FieldType.int) ∈ wAll := wA_g (wA_t2 (List.mem_of_getElem? (i := 168) rfl)) rfl
theorem mg_409 : Cond.constant RX6 224 (65536 : Int32) ∈ wAll := wA_g (wA_t2 (List.mem_of_getElem? (i := 169) rfl)) rfl
theorem mg_410 : Cond.methodLink RL 87 yX6_image ∈ wAll := wA_g (wA_t2 (List.mem_of_getElem? (i := 170) rfl)) rfl
theorem mg_411 : Cond.instanceMethod yX6_image ∈ wAll := wA_g (wA_t2 (List.mem_of_getElem? (i := 171) rfl)) rfl
theorem mg_412 : Cond.selects RX6 yX6_image yX6_image ∈ wAll := wA_g (wA_t2 (List.mem_of_getElem? (i := 172) rfl)) rfl
theorem mg_413 : Cond.code yX6_image cX6_image 1 (Option.some FieldType.int) ∈ wAll := wA_g (wA_t2 (List.mem_of_getElem? (i := 173) rfl)) rfl
theorem mg_414 : Cond.methodLink RX6 134 yX3_copyFrom ∈ wAll := wA_g (wA_t2 (List.mem_of_getElem? (i := 174) rfl)) rfl
theorem mg_415 : Cond.instanceMethod yX3_copyFrom ∈ wAll := wA_g (wA_t2 (List.mem_of_getElem? (i := 175) rfl)) rfl
theorem mg_416 : Cond.selects RX3 yX3_copyFrom yX3_copyFrom ∈ wAll := wA_g (wA_t2 (List.mem_of_getElem? (i := 176) rfl)) rfl
theorem mg_417 : Cond.code yX3_copyFrom cX3_copyFrom 5 (Option.none : Option FieldType) ∈ wAll := wA_g (wA_t2 (List.mem_of_getElem? (i := 177) rfl)) rfl
theorem mg_418 : Cond.methodLink RL 91 yX6_restore ∈ wAll := wA_g (wA_t2 (List.mem_of_getElem? (i := 178) rfl)) rfl
theorem mg_419 : Cond.instanceMethod yX6_restore ∈ wAll := wA_g (wA_t2 (List.mem_of_getElem? (i := 179) rfl)) rfl
theorem mg_420 : Cond.selects RX6 yX6_restore yX6_restore ∈ wAll := wA_g (wA_t2 (List.mem_of_getElem? (i := 180) rfl)) rfl
theorem mg_421 : Cond.code yX6_restore cX6_restore 1 (Option.some FieldType.int) ∈ wAll := wA_g (wA_t2 (List.mem_of_getElem? (i := 181) rfl)) rfl
theorem mg_422 : Cond.methodLink RL 95 yX6_count ∈ wAll := wA_g (wA_t2 (List.mem_of_getElem? (i := 182) rfl)) rfl
theorem mg_423 : Cond.instanceMethod yX6_count ∈ wAll := wA_g (wA_t2 (List.mem_of_getElem? (i := 183) rfl)) rfl
theorem mg_424 : Cond.selects RX6 yX6_count yX6_count ∈ wAll := wA_g (wA_t2 (List.mem_of_getElem? (i := 184) rfl)) rfl
theorem mg_425 : Cond.code yX6_count cX6_count 2 (Option.some FieldType.int) ∈ wAll := wA_g (wA_t2 (List.mem_of_getElem? (i := 185) rfl)) rfl
theorem mg_426 : Cond.methodLink RX6 138 yX6_countOf ∈ wAll := wA_g (wA_t2 (List.mem_of_getElem? (i := 186) rfl)) rfl
theorem mg_428 : Cond.instanceMethod yX6_countOf ∈ wAll := wA_g (wA_t2 (List.mem_of_getElem? (i := 188) rfl)) rfl
theorem mg_429 : Cond.code yX6_countOf cX6_countOf 2 (Option.some FieldType.int) ∈ wAll := wA_g (wA_t2 (List.mem_of_getElem? (i := 189) rfl)) rfl
theorem mg_430 : Cond.methodLink RX6 225 yX4_beatCount ∈ wAll := wA_g (wA_t2 (List.mem_of_getElem? (i := 190) rfl)) rfl
theorem mg_431 : Cond.instanceMethod yX4_beatCount ∈ wAll := wA_g (wA_t2 (List.mem_of_getElem? (i := 191) rfl)) rfl
theorem mg_432 : Cond.selects RX4 yX4_beatCount yX4_beatCount ∈ wAll := wA_g (wA_t2 (List.mem_of_getElem? (i := 192) rfl)) rfl
theorem mg_433 : Cond.code yX4_beatCount cX4_beatCount 3 (Option.some FieldType.int) ∈ wAll := wA_g (wA_t2 (List.mem_of_getElem? (i := 193) rfl)) rfl
theorem mg_434 : Cond.methodLink RX6 228 yX3_washerCount ∈ wAll := wA_g (wA_t2 (List.mem_of_getElem? (i := 194) rfl)) rfl
theorem mg_435 : Cond.instanceMethod yX3_washerCount ∈ wAll := wA_g (wA_t2 (List.mem_of_getElem? (i := 195) rfl)) rfl
theorem mg_436 : Cond.selects RX3 yX3_washerCount yX3_washerCount ∈ wAll := wA_g (wA_t2 (List.mem_of_getElem? (i := 196) rfl)) rfl
theorem mg_437 : Cond.code yX3_washerCount cX3_washerCount 4 (Option.some FieldType.int) ∈ wAll := wA_g (wA_t2 (List.mem_of_getElem? (i := 197) rfl)) rfl
theorem mg_438 : Cond.methodLink RX6 231 yX3_heardCount ∈ wAll := wA_g (wA_t2 (List.mem_of_getElem? (i := 198) rfl)) rfl
theorem mg_439 : Cond.instanceMethod yX3_heardCount ∈ wAll := wA_g (wA_t2 (List.mem_of_getElem? (i := 199) rfl)) rfl
theorem mg_440 : Cond.selects RX3 yX3_heardCount yX3_heardCount ∈ wAll := wA_g (wA_t2 (List.mem_of_getElem? (i := 200) rfl)) rfl
theorem mg_441 : Cond.code yX3_heardCount cX3_heardCount 4 (Option.some FieldType.int) ∈ wAll := wA_g (wA_t2 (List.mem_of_getElem? (i := 201) rfl)) rfl
theorem mg_442 : Cond.methodLink RL 99 yX6_digest ∈ wAll := wA_g (wA_t2 (List.mem_of_getElem? (i := 202) rfl)) rfl
theorem mg_443 : Cond.instanceMethod yX6_digest ∈ wAll := wA_g (wA_t2 (List.mem_of_getElem? (i := 203) rfl)) rfl
theorem mg_444 : Cond.selects RX6 yX6_digest yX6_digest ∈ wAll := wA_g (wA_t2 (List.mem_of_getElem? (i := 204) rfl)) rfl
theorem mg_445 : Cond.code yX6_digest cX6_digest 5 (Option.some FieldType.long) ∈ wAll := wA_g (wA_t2 (List.mem_of_getElem? (i := 205) rfl)) rfl
theorem mg_446 : Cond.constantLong RX6 141 (1061 : Int64) ∈ wAll := wA_g (wA_t2 (List.mem_of_getElem? (i := 206) rfl)) rfl
theorem mg_447 : Cond.methodLink RX6 143 yX6_digestSayings ∈ wAll := wA_g (wA_t2 (List.mem_of_getElem? (i := 207) rfl)) rfl
theorem mg_449 : Cond.instanceMethod yX6_digestSayings ∈ wAll := wA_g (wA_t2 (List.mem_of_getElem? (i := 209) rfl)) rfl
theorem mg_450 : Cond.code yX6_digestSayings cX6_digestSayings 7 (Option.some FieldType.long) ∈ wAll := wA_g (wA_t2 (List.mem_of_getElem? (i := 210) rfl)) rfl
theorem mg_451 : Cond.constantLong RX6 151 (31 : Int64) ∈ wAll := wA_g (wA_t2 (List.mem_of_getElem? (i := 211) rfl)) rfl
theorem mg_452 : Cond.methodLink RX6 147 yX6_digestTap ∈ wAll := wA_g (wA_t2 (List.mem_of_getElem? (i := 212) rfl)) rfl
theorem mg_454 : Cond.instanceMethod yX6_digestTap ∈ wAll := wA_g (wA_t2 (List.mem_of_getElem? (i := 214) rfl)) rfl
theorem mg_455 : Cond.code yX6_digestTap cX6_digestTap 8 (Option.some FieldType.long) ∈ wAll := wA_g (wA_t2 (List.mem_of_getElem? (i := 215) rfl)) rfl
theorem mg_456 : Cond.classLink RL 10 RX7 ∈ wAll := wA_g (wA_t2 (List.mem_of_getElem? (i := 216) rfl)) rfl
theorem mg_457 : Cond.instantiable RX7 22 ∈ wAll := wA_g (wA_t2 (List.mem_of_getElem? (i := 217) rfl)) rfl
theorem mg_458 : Cond.methodLink RL 12 yX7_init ∈ wAll := wA_g (wA_t2 (List.mem_of_getElem? (i := 218) rfl)) rfl
theorem mg_459 : Cond.instanceMethod yX7_init ∈ wAll := wA_g (wA_t2 (List.mem_of_getElem? (i := 219) rfl)) rfl
theorem mg_460 : Cond.code yX7_init cX7_init 1 (Option.none : Option FieldType) ∈ wAll := wA_g (wA_t2 (List.mem_of_getElem? (i := 220) rfl)) rfl
theorem mg_461 : Cond.methodLink RX7 1 objectInit ∈ wAll := wA_g (wA_t2 (List.mem_of_getElem? (i := 221) rfl)) rfl
theorem mg_462 : Cond.fieldLink RX7 7 "DripSayingsModel" "page" "[I" ∈ wAll := wA_g (wA_t2 (List.mem_of_getElem? (i := 222) rfl)) rfl
theorem mg_463 : Cond.fieldLink RX7 44 "DripSayingsModel" "pageMany" "I" ∈ wAll := wA_g (wA_t2 (List.mem_of_getElem? (i := 223) rfl)) rfl
theorem mg_464 : Cond.fieldLink RX7 47 "DripSayingsModel" "part" "I" ∈ wAll := wA_g (wA_t2 (List.mem_of_getElem? (i := 224) rfl)) rfl
theorem mg_465 : Cond.fieldLink RX7 13 "DripSayingsModel" "readBeats" "[I" ∈ wAll := wA_g (wA_t2 (List.mem_of_getElem? (i := 225) rfl)) rfl
theorem mg_466 : Cond.fieldLink RX7 16 "DripSayingsModel" "readTaps" "[I" ∈ wAll := wA_g (wA_t2 (List.mem_of_getElem? (i := 226) rfl)) rfl
theorem mg_467 : Cond.fieldLink RX7 53 "DripSayingsModel" "readMany" "I" ∈ wAll := wA_g (wA_t2 (List.mem_of_getElem? (i := 227) rfl)) rfl
theorem mg_468 : Cond.fieldLink RX7 50 "DripSayingsModel" "step" "I" ∈ wAll := wA_g (wA_t2 (List.mem_of_getElem? (i := 228) rfl)) rfl
theorem mg_469 : Cond.fieldLink RX7 75 "DripSayingsModel" "taps" "I" ∈ wAll := wA_g (wA_t2 (List.mem_of_getElem? (i := 229) rfl)) rfl
theorem mg_470 : Cond.fieldLink RX7 82 "DripSayingsModel" "changes" "I" ∈ wAll := wA_g (wA_t2 (List.mem_of_getElem? (i := 230) rfl)) rfl
theorem mg_471 : Cond.fieldLink RX7 88 "DripSayingsModel" "housesRead" "I" ∈ wAll := wA_g (wA_t2 (List.mem_of_getElem? (i := 231) rfl)) rfl
theorem mg_472 : Cond.fieldLink RX7 19 "DripSayingsModel" "beats" "[I" ∈ wAll := wA_g (wA_t2 (List.mem_of_getElem? (i := 232) rfl)) rfl
theorem mg_473 : Cond.fieldLink RX7 22 "DripSayingsModel" "rows" "[I" ∈ wAll := wA_g (wA_t2 (List.mem_of_getElem? (i := 233) rfl)) rfl
theorem mg_474 : Cond.fieldLink RX7 85 "DripSayingsModel" "putMany" "I" ∈ wAll := wA_g (wA_t2 (List.mem_of_getElem? (i := 234) rfl)) rfl
theorem mg_475 : Cond.fieldLink RX7 25 "DripSayingsModel" "puts" "[I" ∈ wAll := wA_g (wA_t2 (List.mem_of_getElem? (i := 235) rfl)) rfl
theorem mg_476 : Cond.fieldLink RX7 160 "DripSayingsModel" "seedNow" "I" ∈ wAll := wA_g (wA_t2 (List.mem_of_getElem? (i := 236) rfl)) rfl
theorem mg_477 : Cond.fieldLink RX7 34 "DripSayingsModel" "keptHouse" "I" ∈ wAll := wA_g (wA_t2 (List.mem_of_getElem? (i := 237) rfl)) rfl
theorem mg_478 : Cond.fieldLink RX7 175 "DripSayingsModel" "keptTaps" "I" ∈ wAll := wA_g (wA_t2 (List.mem_of_getElem? (i := 238) rfl)) rfl
theorem mg_479 : Cond.fieldLink RX7 178 "DripSayingsModel" "keptChanges" "I" ∈ wAll := wA_g (wA_t2 (List.mem_of_getElem? (i := 239) rfl)) rfl
theorem mg_480 : Cond.fieldLink RX7 181 "DripSayingsModel" "keptPuts" "I" ∈ wAll := wA_g (wA_t3 (List.mem_of_getElem? (i := 0) rfl)) rfl
theorem mg_481 : Cond.fieldLink RX7 28 "DripSayingsModel" "keptRows" "[I" ∈ wAll := wA_g (wA_t3 (List.mem_of_getElem? (i := 1) rfl)) rfl
theorem mg_482 : Cond.fieldLink RX7 31 "DripSayingsModel" "keptPutRows" "[I" ∈ wAll := wA_g (wA_t3 (List.mem_of_getElem? (i := 2) rfl)) rfl
theorem mg_483 : Cond.fieldLink RX7 195 "DripSayingsModel" "hash" "J" ∈ wAll := wA_g (wA_t3 (List.mem_of_getElem? (i := 3) rfl)) rfl
theorem mg_484 : Cond.laysFinal RX7 "DripSayingsModel" "page" "[I" ∈ wAll := wA_g (wA_t3 (List.mem_of_getElem? (i := 4) rfl)) rfl
theorem mg_486 : Cond.lays RX7 "DripSayingsModel" "pageMany" "I" ∈ wAll := wA_g (wA_t3 (List.mem_of_getElem? (i := 6) rfl)) rfl
theorem mg_488 : Cond.lays RX7 "DripSayingsModel" "part" "I" ∈ wAll := wA_g (wA_t3 (List.mem_of_getElem? (i := 8) rfl)) rfl
theorem mg_490 : Cond.laysFinal RX7 "DripSayingsModel" "readBeats" "[I" ∈ wAll := wA_g (wA_t3 (List.mem_of_getElem? (i := 10) rfl)) rfl
theorem mg_492 : Cond.laysFinal RX7 "DripSayingsModel" "readTaps" "[I" ∈ wAll := wA_g (wA_t3 (List.mem_of_getElem? (i := 12) rfl)) rfl
theorem mg_494 : Cond.lays RX7 "DripSayingsModel" "readMany" "I" ∈ wAll := wA_g (wA_t3 (List.mem_of_getElem? (i := 14) rfl)) rfl
theorem mg_496 : Cond.lays RX7 "DripSayingsModel" "step" "I" ∈ wAll := wA_g (wA_t3 (List.mem_of_getElem? (i := 16) rfl)) rfl
theorem mg_498 : Cond.lays RX7 "DripSayingsModel" "taps" "I" ∈ wAll := wA_g (wA_t3 (List.mem_of_getElem? (i := 18) rfl)) rfl
theorem mg_500 : Cond.lays RX7 "DripSayingsModel" "changes" "I" ∈ wAll := wA_g (wA_t3 (List.mem_of_getElem? (i := 20) rfl)) rfl
theorem mg_502 : Cond.lays RX7 "DripSayingsModel" "housesRead" "I" ∈ wAll := wA_g (wA_t3 (List.mem_of_getElem? (i := 22) rfl)) rfl
theorem mg_504 : Cond.laysFinal RX7 "DripSayingsModel" "beats" "[I" ∈ wAll := wA_g (wA_t3 (List.mem_of_getElem? (i := 24) rfl)) rfl
theorem mg_506 : Cond.laysFinal RX7 "DripSayingsModel" "rows" "[I" ∈ wAll := wA_g (wA_t3 (List.mem_of_getElem? (i := 26) rfl)) rfl
theorem mg_508 : Cond.lays RX7 "DripSayingsModel" "putMany" "I" ∈ wAll := wA_g (wA_t3 (List.mem_of_getElem? (i := 28) rfl)) rfl
theorem mg_510 : Cond.laysFinal RX7 "DripSayingsModel" "puts" "[I" ∈ wAll := wA_g (wA_t3 (List.mem_of_getElem? (i := 30) rfl)) rfl
theorem mg_512 : Cond.lays RX7 "DripSayingsModel" "seedNow" "I" ∈ wAll := wA_g (wA_t3 (List.mem_of_getElem? (i := 32) rfl)) rfl
theorem mg_514 : Cond.lays RX7 "DripSayingsModel" "keptHouse" "I" ∈ wAll := wA_g (wA_t3 (List.mem_of_getElem? (i := 34) rfl)) rfl
theorem mg_516 : Cond.lays RX7 "DripSayingsModel" "keptTaps" "I" ∈ wAll := wA_g (wA_t3 (List.mem_of_getElem? (i := 36) rfl)) rfl
theorem mg_518 : Cond.lays RX7 "DripSayingsModel" "keptChanges" "I" ∈ wAll := wA_g (wA_t3 (List.mem_of_getElem? (i := 38) rfl)) rfl
theorem mg_520 : Cond.lays RX7 "DripSayingsModel" "keptPuts" "I" ∈ wAll := wA_g (wA_t3 (List.mem_of_getElem? (i := 40) rfl)) rfl
theorem mg_522 : Cond.laysFinal RX7 "DripSayingsModel" "keptRows" "[I" ∈ wAll := wA_g (wA_t3 (List.mem_of_getElem? (i := 42) rfl)) rfl
theorem mg_524 : Cond.laysFinal RX7 "DripSayingsModel" "keptPutRows" "[I" ∈ wAll := wA_g (wA_t3 (List.mem_of_getElem? (i := 44) rfl)) rfl
theorem mg_526 : Cond.lays RX7 "DripSayingsModel" "hash" "J" ∈ wAll := wA_g (wA_t3 (List.mem_of_getElem? (i := 46) rfl)) rfl
theorem mg_529 : Cond.methodLink RL 17 yX7_letter ∈ wAll := wA_g (wA_t3 (List.mem_of_getElem? (i := 49) rfl)) rfl
theorem mg_530 : Cond.instanceMethod yX7_letter ∈ wAll := wA_g (wA_t3 (List.mem_of_getElem? (i := 50) rfl)) rfl
theorem mg_531 : Cond.selects RX7 yX7_letter yX7_letter ∈ wAll := wA_g (wA_t3 (List.mem_of_getElem? (i := 51) rfl)) rfl
theorem mg_532 : Cond.code yX7_letter cX7_letter 2 (Option.some FieldType.int) ∈ wAll := wA_g (wA_t3 (List.mem_of_getElem? (i := 52) rfl)) rfl
theorem mg_533 : Cond.constantLong RX7 38 (126 : Int64) ∈ wAll := wA_g (wA_t3 (List.mem_of_getElem? (i := 53) rfl)) rfl
theorem mg_534 : Cond.methodLink RX7 40 yX7_in ∈ wAll := wA_g (wA_t3 (List.mem_of_getElem? (i := 54) rfl)) rfl
theorem mg_535 : Cond.static yX7_in ∈ wAll := wA_g (wA_t3 (List.mem_of_getElem? (i := 55) rfl)) rfl
theorem mg_536 : Cond.code yX7_in cX7_in 6 (Option.some FieldType.boolean) ∈ wAll := wA_g (wA_t3 (List.mem_of_getElem? (i := 56) rfl)) rfl
theorem mg_537 : Cond.methodLink RL 22 yX7_blank ∈ wAll := wA_g (wA_t3 (List.mem_of_getElem? (i := 57) rfl)) rfl
theorem mg_538 : Cond.instanceMethod yX7_blank ∈ wAll := wA_g (wA_t3 (List.mem_of_getElem? (i := 58) rfl)) rfl
theorem mg_539 : Cond.selects RX7 yX7_blank yX7_blank ∈ wAll := wA_g (wA_t3 (List.mem_of_getElem? (i := 59) rfl)) rfl
theorem mg_540 : Cond.code yX7_blank cX7_blank 2 (Option.some FieldType.int) ∈ wAll := wA_g (wA_t3 (List.mem_of_getElem? (i := 60) rfl)) rfl
theorem mg_541 : Cond.methodLink RL 26 yX7_fault ∈ wAll := wA_g (wA_t3 (List.mem_of_getElem? (i := 61) rfl)) rfl
theorem mg_542 : Cond.instanceMethod yX7_fault ∈ wAll := wA_g (wA_t3 (List.mem_of_getElem? (i := 62) rfl)) rfl
theorem mg_543 : Cond.selects RX7 yX7_fault yX7_fault ∈ wAll := wA_g (wA_t3 (List.mem_of_getElem? (i := 63) rfl)) rfl
theorem mg_544 : Cond.code yX7_fault cX7_fault 1 (Option.some FieldType.int) ∈ wAll := wA_g (wA_t3 (List.mem_of_getElem? (i := 64) rfl)) rfl
theorem mg_545 : Cond.methodLink RX7 71 yX7_faultOf ∈ wAll := wA_g (wA_t3 (List.mem_of_getElem? (i := 65) rfl)) rfl
theorem mg_547 : Cond.instanceMethod yX7_faultOf ∈ wAll := wA_g (wA_t3 (List.mem_of_getElem? (i := 67) rfl)) rfl
theorem mg_548 : Cond.code yX7_faultOf cX7_faultOf 2 (Option.some FieldType.int) ∈ wAll := wA_g (wA_t3 (List.mem_of_getElem? (i := 68) rfl)) rfl
theorem mg_549 : Cond.methodLink RX7 64 yX7_goSaying ∈ wAll := wA_g (wA_t3 (List.mem_of_getElem? (i := 69) rfl)) rfl
theorem mg_551 : Cond.instanceMethod yX7_goSaying ∈ wAll := wA_g (wA_t3 (List.mem_of_getElem? (i := 71) rfl)) rfl
theorem mg_552 : Cond.code yX7_goSaying cX7_goSaying 4 (Option.some FieldType.boolean) ∈ wAll := wA_g (wA_t3 (List.mem_of_getElem? (i := 72) rfl)) rfl
theorem mg_553 : Cond.methodLink RX7 68 yX7_goTap ∈ wAll := wA_g (wA_t3 (List.mem_of_getElem? (i := 73) rfl)) rfl
theorem mg_555 : Cond.instanceMethod yX7_goTap ∈ wAll := wA_g (wA_t3 (List.mem_of_getElem? (i := 75) rfl)) rfl
theorem mg_556 : Cond.code yX7_goTap cX7_goTap 3 (Option.some FieldType.boolean) ∈ wAll := wA_g (wA_t3 (List.mem_of_getElem? (i := 76) rfl)) rfl
theorem mg_557 : Cond.methodLink RX7 56 yX7_kindBy ∈ wAll := wA_g (wA_t3 (List.mem_of_getElem? (i := 77) rfl)) rfl
theorem mg_558 : Cond.static yX7_kindBy ∈ wAll := wA_g (wA_t3 (List.mem_of_getElem? (i := 78) rfl)) rfl
theorem mg_559 : Cond.code yX7_kindBy cX7_kindBy 1 (Option.some FieldType.int) ∈ wAll := wA_g (wA_t3 (List.mem_of_getElem? (i := 79) rfl)) rfl
theorem mg_560 : Cond.constantLong RX7 60 (48 : Int64) ∈ wAll := wA_g (wA_t3 (List.mem_of_getElem? (i := 80) rfl)) rfl
theorem mg_561 : Cond.constantLong RX7 62 (51 : Int64) ∈ wAll := wA_g (wA_t3 (List.mem_of_getElem? (i := 81) rfl)) rfl
theorem mg_562 : Cond.methodLink RL 30 yX7_house ∈ wAll := wA_g (wA_t3 (List.mem_of_getElem? (i := 82) rfl)) rfl
theorem mg_563 : Cond.instanceMethod yX7_house ∈ wAll := wA_g (wA_t3 (List.mem_of_getElem? (i := 83) rfl)) rfl
theorem mg_564 : Cond.selects RX7 yX7_house yX7_house ∈ wAll := wA_g (wA_t3 (List.mem_of_getElem? (i := 84) rfl)) rfl
theorem mg_565 : Cond.code yX7_house cX7_house 2 (Option.some FieldType.int) ∈ wAll := wA_g (wA_t3 (List.mem_of_getElem? (i := 85) rfl)) rfl
theorem mg_566 : Cond.methodLink RX7 78 yX7_copy ∈ wAll := wA_g (wA_t3 (List.mem_of_getElem? (i := 86) rfl)) rfl
theorem mg_567 : Cond.static yX7_copy ∈ wAll := wA_g (wA_t3 (List.mem_of_getElem? (i := 87) rfl)) rfl
theorem mg_568 : Cond.code yX7_copy cX7_copy 3 (Option.none : Option FieldType) ∈ wAll := wA_g (wA_t3 (List.mem_of_getElem? (i := 88) rfl)) rfl
theorem mg_569 : Cond.methodLink RL 35 yX7_saying ∈ wAll := wA_g (wA_t3 (List.mem_of_getElem? (i := 89) rfl)) rfl
theorem mg_570 : Cond.instanceMethod yX7_saying ∈ wAll := wA_g (wA_t3 (List.mem_of_getElem? (i := 90) rfl)) rfl
theorem mg_571 : Cond.selects RX7 yX7_saying yX7_saying ∈ wAll := wA_g (wA_t3 (List.mem_of_getElem? (i := 91) rfl)) rfl
theorem mg_572 : Cond.code yX7_saying cX7_saying 3 (Option.some FieldType.int) ∈ wAll := wA_g (wA_t3 (List.mem_of_getElem? (i := 92) rfl)) rfl
theorem mg_573 : Cond.methodLink RX7 97 yX7_lacks ∈ wAll := wA_g (wA_t3 (List.mem_of_getElem? (i := 93) rfl)) rfl
theorem mg_575 : Cond.instanceMethod yX7_lacks ∈ wAll := wA_g (wA_t3 (List.mem_of_getElem? (i := 95) rfl)) rfl
theorem mg_576 : Cond.code yX7_lacks cX7_lacks 1 (Option.some FieldType.boolean) ∈ wAll := wA_g (wA_t3 (List.mem_of_getElem? (i := 96) rfl)) rfl
theorem mg_577 : Cond.methodLink RX7 101 yX7_isSaying ∈ wAll := wA_g (wA_t3 (List.mem_of_getElem? (i := 97) rfl)) rfl
theorem mg_578 : Cond.static yX7_isSaying ∈ wAll := wA_g (wA_t3 (List.mem_of_getElem? (i := 98) rfl)) rfl
theorem mg_579 : Cond.code yX7_isSaying cX7_isSaying 1 (Option.some FieldType.boolean) ∈ wAll := wA_g (wA_t3 (List.mem_of_getElem? (i := 99) rfl)) rfl
theorem mg_580 : Cond.constantLong RX7 91 (3 : Int64) ∈ wAll := wA_g (wA_t3 (List.mem_of_getElem? (i := 100) rfl)) rfl
theorem mg_581 : Cond.methodLink RX7 104 yX7_tellSaying ∈ wAll := wA_g (wA_t3 (List.mem_of_getElem? (i := 101) rfl)) rfl
theorem mg_583 : Cond.instanceMethod yX7_tellSaying ∈ wAll := wA_g (wA_t3 (List.mem_of_getElem? (i := 103) rfl)) rfl
theorem mg_584 : Cond.code yX7_tellSaying cX7_tellSaying 3 (Option.some FieldType.int) ∈ wAll := wA_g (wA_t3 (List.mem_of_getElem? (i := 104) rfl)) rfl
theorem mg_585 : Cond.constantLong RX7 93 (10 : Int64) ∈ wAll := wA_g (wA_t3 (List.mem_of_getElem? (i := 105) rfl)) rfl
theorem mg_586 : Cond.constantLong RX7 95 (13 : Int64) ∈ wAll := wA_g (wA_t3 (List.mem_of_getElem? (i := 106) rfl)) rfl
theorem mg_587 : Cond.methodLink RL 39 yX7_tap ∈ wAll := wA_g (wA_t3 (List.mem_of_getElem? (i := 107) rfl)) rfl
theorem mg_588 : Cond.instanceMethod yX7_tap ∈ wAll := wA_g (wA_t3 (List.mem_of_getElem? (i := 108) rfl)) rfl
theorem mg_589 : Cond.selects RX7 yX7_tap yX7_tap ∈ wAll := wA_g (wA_t3 (List.mem_of_getElem? (i := 109) rfl)) rfl
theorem mg_590 : Cond.code yX7_tap cX7_tap 3 (Option.some FieldType.int) ∈ wAll := wA_g (wA_t3 (List.mem_of_getElem? (i := 110) rfl)) rfl
theorem mg_591 : Cond.constantLong RX7 116 (4 : Int64) ∈ wAll := wA_g (wA_t3 (List.mem_of_getElem? (i := 111) rfl)) rfl
theorem mg_592 : Cond.methodLink RL 43 yX7_about ∈ wAll := wA_g (wA_t3 (List.mem_of_getElem? (i := 112) rfl)) rfl
theorem mg_593 : Cond.instanceMethod yX7_about ∈ wAll := wA_g (wA_t3 (List.mem_of_getElem? (i := 113) rfl)) rfl
theorem mg_594 : Cond.selects RX7 yX7_about yX7_about ∈ wAll := wA_g (wA_t3 (List.mem_of_getElem? (i := 114) rfl)) rfl
theorem mg_595 : Cond.code yX7_about cX7_about 3 (Option.some FieldType.int) ∈ wAll := wA_g (wA_t3 (List.mem_of_getElem? (i := 115) rfl)) rfl
theorem mg_596 : Cond.methodLink RX7 136 yX7_isTap ∈ wAll := wA_g (wA_t3 (List.mem_of_getElem? (i := 116) rfl)) rfl
theorem mg_598 : Cond.instanceMethod yX7_isTap ∈ wAll := wA_g (wA_t3 (List.mem_of_getElem? (i := 118) rfl)) rfl
theorem mg_599 : Cond.code yX7_isTap cX7_isTap 2 (Option.some FieldType.boolean) ∈ wAll := wA_g (wA_t3 (List.mem_of_getElem? (i := 119) rfl)) rfl
theorem mg_600 : Cond.methodLink RX7 139 yX7_tell ∈ wAll := wA_g (wA_t3 (List.mem_of_getElem? (i := 120) rfl)) rfl
theorem mg_602 : Cond.instanceMethod yX7_tell ∈ wAll := wA_g (wA_t3 (List.mem_of_getElem? (i := 122) rfl)) rfl
theorem mg_603 : Cond.code yX7_tell cX7_tell 3 (Option.some FieldType.int) ∈ wAll := wA_g (wA_t3 (List.mem_of_getElem? (i := 123) rfl)) rfl
theorem mg_604 : Cond.methodLink RX7 121 yX7_sureOf ∈ wAll := wA_g (wA_t3 (List.mem_of_getElem? (i := 124) rfl)) rfl
theorem mg_606 : Cond.instanceMethod yX7_sureOf ∈ wAll := wA_g (wA_t3 (List.mem_of_getElem? (i := 126) rfl)) rfl
theorem mg_607 : Cond.code yX7_sureOf cX7_sureOf 6 (Option.some FieldType.int) ∈ wAll := wA_g (wA_t3 (List.mem_of_getElem? (i := 127) rfl)) rfl
theorem mg_608 : Cond.methodLink RX7 118 yX7_patternOf ∈ wAll := wA_g (wA_t3 (List.mem_of_getElem? (i := 128) rfl)) rfl
theorem mg_610 : Cond.instanceMethod yX7_patternOf ∈ wAll := wA_g (wA_t3 (List.mem_of_getElem? (i := 130) rfl)) rfl
theorem mg_611 : Cond.code yX7_patternOf cX7_patternOf 6 (Option.some FieldType.int) ∈ wAll := wA_g (wA_t3 (List.mem_of_getElem? (i := 131) rfl)) rfl
theorem mg_612 : Cond.methodLink RX7 112 yX7_dripAs ∈ wAll := wA_g (wA_t3 (List.mem_of_getElem? (i := 132) rfl)) rfl
theorem mg_614 : Cond.instanceMethod yX7_dripAs ∈ wAll := wA_g (wA_t3 (List.mem_of_getElem? (i := 134) rfl)) rfl
theorem mg_615 : Cond.code yX7_dripAs cX7_dripAs 4 (Option.some FieldType.int) ∈ wAll := wA_g (wA_t3 (List.mem_of_getElem? (i := 135) rfl)) rfl
theorem mg_616 : Cond.methodLink RX7 108 yX7_dripBy ∈ wAll := wA_g (wA_t3 (List.mem_of_getElem? (i := 136) rfl)) rfl
theorem mg_618 : Cond.instanceMethod yX7_dripBy ∈ wAll := wA_g (wA_t3 (List.mem_of_getElem? (i := 138) rfl)) rfl
theorem mg_619 : Cond.code yX7_dripBy cX7_dripBy 9 (Option.some FieldType.int) ∈ wAll := wA_g (wA_t3 (List.mem_of_getElem? (i := 139) rfl)) rfl
theorem mg_620 : Cond.methodLink RX7 124 yX7_saysOf ∈ wAll := wA_g (wA_t3 (List.mem_of_getElem? (i := 140) rfl)) rfl
theorem mg_622 : Cond.instanceMethod yX7_saysOf ∈ wAll := wA_g (wA_t3 (List.mem_of_getElem? (i := 142) rfl)) rfl
theorem mg_623 : Cond.code yX7_saysOf cX7_saysOf 4 (Option.some FieldType.int) ∈ wAll := wA_g (wA_t3 (List.mem_of_getElem? (i := 143) rfl)) rfl
theorem mg_624 : Cond.methodLink RX7 130 yX7_slipsBy ∈ wAll := wA_g (wA_t3 (List.mem_of_getElem? (i := 144) rfl)) rfl
theorem mg_626 : Cond.instanceMethod yX7_slipsBy ∈ wAll := wA_g (wA_t3 (List.mem_of_getElem? (i := 146) rfl)) rfl
theorem mg_627 : Cond.code yX7_slipsBy cX7_slipsBy 6 (Option.some FieldType.int) ∈ wAll := wA_g (wA_t3 (List.mem_of_getElem? (i := 147) rfl)) rfl
theorem mg_628 : Cond.methodLink RX7 127 yX7_likelyOf ∈ wAll := wA_g (wA_t3 (List.mem_of_getElem? (i := 148) rfl)) rfl
theorem mg_630 : Cond.instanceMethod yX7_likelyOf ∈ wAll := wA_g (wA_t3 (List.mem_of_getElem? (i := 150) rfl)) rfl
theorem mg_631 : Cond.code yX7_likelyOf cX7_likelyOf 4 (Option.some FieldType.int) ∈ wAll := wA_g (wA_t3 (List.mem_of_getElem? (i := 151) rfl)) rfl
theorem mg_632 : Cond.methodLink RX7 133 yX7_listenOf ∈ wAll := wA_g (wA_t3 (List.mem_of_getElem? (i := 152) rfl)) rfl
theorem mg_634 : Cond.instanceMethod yX7_listenOf ∈ wAll := wA_g (wA_t3 (List.mem_of_getElem? (i := 154) rfl)) rfl
theorem mg_635 : Cond.code yX7_listenOf cX7_listenOf 10 (Option.some FieldType.int) ∈ wAll := wA_g (wA_t3 (List.mem_of_getElem? (i := 155) rfl)) rfl
theorem mg_636 : Cond.methodLink RL 47 yX7_as ∈ wAll := wA_g (wA_t3 (List.mem_of_getElem? (i := 156) rfl)) rfl
theorem mg_637 : Cond.instanceMethod yX7_as ∈ wAll := wA_g (wA_t3 (List.mem_of_getElem? (i := 157) rfl)) rfl
theorem mg_638 : Cond.selects RX7 yX7_as yX7_as ∈ wAll := wA_g (wA_t3 (List.mem_of_getElem? (i := 158) rfl)) rfl
theorem mg_639 : Cond.code yX7_as cX7_as 5 (Option.some FieldType.int) ∈ wAll := wA_g (wA_t3 (List.mem_of_getElem? (i := 159) rfl)) rfl
theorem mg_640 : Cond.methodLink RL 51 yX7_drip ∈ wAll := wA_g (wA_t3 (List.mem_of_getElem? (i := 160) rfl)) rfl
theorem mg_641 : Cond.instanceMethod yX7_drip ∈ wAll := wA_g (wA_t3 (List.mem_of_getElem? (i := 161) rfl)) rfl
theorem mg_642 : Cond.selects RX7 yX7_drip yX7_drip ∈ wAll := wA_g (wA_t3 (List.mem_of_getElem? (i := 162) rfl)) rfl
theorem mg_643 : Cond.code yX7_drip cX7_drip 3 (Option.some FieldType.int) ∈ wAll := wA_g (wA_t3 (List.mem_of_getElem? (i := 163) rfl)) rfl
theorem mg_644 : Cond.constantLong RX7 142 (99 : Int64) ∈ wAll := wA_g (wA_t3 (List.mem_of_getElem? (i := 164) rfl)) rfl
theorem mg_645 : Cond.methodLink RX7 144 yX7_dripOf ∈ wAll := wA_g (wA_t3 (List.mem_of_getElem? (i := 165) rfl)) rfl
theorem mg_647 : Cond.instanceMethod yX7_dripOf ∈ wAll := wA_g (wA_t3 (List.mem_of_getElem? (i := 167) rfl)) rfl
theorem mg_648 : Cond.code yX7_dripOf cX7_dripOf 3 (Option.some FieldType.int) ∈ wAll := wA_g (wA_t3 (List.mem_of_getElem? (i := 168) rfl)) rfl
theorem mg_649 : Cond.methodLink RL 55 yX7_listen ∈ wAll := wA_g (wA_t3 (List.mem_of_getElem? (i := 169) rfl)) rfl
theorem mg_650 : Cond.instanceMethod yX7_listen ∈ wAll := wA_g (wA_t3 (List.mem_of_getElem? (i := 170) rfl)) rfl
theorem mg_651 : Cond.selects RX7 yX7_listen yX7_listen ∈ wAll := wA_g (wA_t3 (List.mem_of_getElem? (i := 171) rfl)) rfl
theorem mg_652 : Cond.code yX7_listen cX7_listen 3 (Option.some FieldType.int) ∈ wAll := wA_g (wA_t3 (List.mem_of_getElem? (i := 172) rfl)) rfl
theorem mg_653 : Cond.methodLink RL 60 yX7_washer ∈ wAll := wA_g (wA_t3 (List.mem_of_getElem? (i := 173) rfl)) rfl
theorem mg_654 : Cond.instanceMethod yX7_washer ∈ wAll := wA_g (wA_t3 (List.mem_of_getElem? (i := 174) rfl)) rfl
theorem mg_655 : Cond.selects RX7 yX7_washer yX7_washer ∈ wAll := wA_g (wA_t3 (List.mem_of_getElem? (i := 175) rfl)) rfl
theorem mg_656 : Cond.code yX7_washer cX7_washer 4 (Option.some FieldType.int) ∈ wAll := wA_g (wA_t3 (List.mem_of_getElem? (i := 176) rfl)) rfl
theorem mg_657 : Cond.methodLink RL 64 yX7_teach ∈ wAll := wA_g (wA_t3 (List.mem_of_getElem? (i := 177) rfl)) rfl
theorem mg_658 : Cond.instanceMethod yX7_teach ∈ wAll := wA_g (wA_t3 (List.mem_of_getElem? (i := 178) rfl)) rfl
theorem mg_659 : Cond.selects RX7 yX7_teach yX7_teach ∈ wAll := wA_g (wA_t3 (List.mem_of_getElem? (i := 179) rfl)) rfl
theorem mg_660 : Cond.code yX7_teach cX7_teach 4 (Option.some FieldType.int) ∈ wAll := wA_g (wA_t3 (List.mem_of_getElem? (i := 180) rfl)) rfl
theorem mg_661 : Cond.methodLink RL 68 yX7_agree ∈ wAll := wA_g (wA_t3 (List.mem_of_getElem? (i := 181) rfl)) rfl
theorem mg_662 : Cond.instanceMethod yX7_agree ∈ wAll := wA_g (wA_t3 (List.mem_of_getElem? (i := 182) rfl)) rfl
theorem mg_663 : Cond.selects RX7 yX7_agree yX7_agree ∈ wAll := wA_g (wA_t3 (List.mem_of_getElem? (i := 183) rfl)) rfl
theorem mg_664 : Cond.code yX7_agree cX7_agree 3 (Option.some FieldType.int) ∈ wAll := wA_g (wA_t3 (List.mem_of_getElem? (i := 184) rfl)) rfl
theorem mg_665 : Cond.methodLink RX7 147 yX7_agreeOf ∈ wAll := wA_g (wA_t3 (List.mem_of_getElem? (i := 185) rfl)) rfl
theorem mg_667 : Cond.instanceMethod yX7_agreeOf ∈ wAll := wA_g (wA_t3 (List.mem_of_getElem? (i := 187) rfl)) rfl
theorem mg_668 : Cond.code yX7_agreeOf cX7_agreeOf 5 (Option.some FieldType.int) ∈ wAll := wA_g (wA_t3 (List.mem_of_getElem? (i := 188) rfl)) rfl
theorem mg_669 : Cond.methodLink RL 73 yX7_near ∈ wAll := wA_g (wA_t3 (List.mem_of_getElem? (i := 189) rfl)) rfl
theorem mg_670 : Cond.instanceMethod yX7_near ∈ wAll := wA_g (wA_t3 (List.mem_of_getElem? (i := 190) rfl)) rfl
theorem mg_671 : Cond.selects RX7 yX7_near yX7_near ∈ wAll := wA_g (wA_t3 (List.mem_of_getElem? (i := 191) rfl)) rfl
theorem mg_672 : Cond.code yX7_near cX7_near 4 (Option.some FieldType.int) ∈ wAll := wA_g (wA_t3 (List.mem_of_getElem? (i := 192) rfl)) rfl
theorem mg_673 : Cond.methodLink RX7 153 yX7_nearOf ∈ wAll := wA_g (wA_t3 (List.mem_of_getElem? (i := 193) rfl)) rfl
theorem mg_675 : Cond.instanceMethod yX7_nearOf ∈ wAll := wA_g (wA_t3 (List.mem_of_getElem? (i := 195) rfl)) rfl
theorem mg_676 : Cond.code yX7_nearOf cX7_nearOf 7 (Option.some FieldType.int) ∈ wAll := wA_g (wA_t3 (List.mem_of_getElem? (i := 196) rfl)) rfl
theorem mg_677 : Cond.methodLink RX7 150 yX7_unlikeBy ∈ wAll := wA_g (wA_t3 (List.mem_of_getElem? (i := 197) rfl)) rfl
theorem mg_679 : Cond.instanceMethod yX7_unlikeBy ∈ wAll := wA_g (wA_t3 (List.mem_of_getElem? (i := 199) rfl)) rfl
theorem mg_680 : Cond.code yX7_unlikeBy cX7_unlikeBy 7 (Option.some FieldType.int) ∈ wAll := wA_g (wA_t3 (List.mem_of_getElem? (i := 200) rfl)) rfl
theorem mg_681 : Cond.methodLink RL 78 yX7_put ∈ wAll := wA_g (wA_t3 (List.mem_of_getElem? (i := 201) rfl)) rfl
theorem mg_682 : Cond.instanceMethod yX7_put ∈ wAll := wA_g (wA_t3 (List.mem_of_getElem? (i := 202) rfl)) rfl
theorem mg_683 : Cond.selects RX7 yX7_put yX7_put ∈ wAll := wA_g (wA_t3 (List.mem_of_getElem? (i := 203) rfl)) rfl
theorem mg_684 : Cond.code yX7_put cX7_put 4 (Option.some FieldType.int) ∈ wAll := wA_g (wA_t3 (List.mem_of_getElem? (i := 204) rfl)) rfl
theorem mg_685 : Cond.constantLong RX7 156 (59 : Int64) ∈ wAll := wA_g (wA_t3 (List.mem_of_getElem? (i := 205) rfl)) rfl
theorem mg_686 : Cond.methodLink RL 82 yX7_forget ∈ wAll := wA_g (wA_t3 (List.mem_of_getElem? (i := 206) rfl)) rfl
theorem mg_687 : Cond.instanceMethod yX7_forget ∈ wAll := wA_g (wA_t3 (List.mem_of_getElem? (i := 207) rfl)) rfl
theorem mg_688 : Cond.selects RX7 yX7_forget yX7_forget ∈ wAll := wA_g (wA_t3 (List.mem_of_getElem? (i := 208) rfl)) rfl
theorem mg_689 : Cond.code yX7_forget cX7_forget 2 (Option.some FieldType.int) ∈ wAll := wA_g (wA_t3 (List.mem_of_getElem? (i := 209) rfl)) rfl
theorem mg_690 : Cond.methodLink RL 86 yX7_nights ∈ wAll := wA_g (wA_t3 (List.mem_of_getElem? (i := 210) rfl)) rfl
theorem mg_691 : Cond.instanceMethod yX7_nights ∈ wAll := wA_g (wA_t3 (List.mem_of_getElem? (i := 211) rfl)) rfl
theorem mg_692 : Cond.selects RX7 yX7_nights yX7_nights ∈ wAll := wA_g (wA_t3 (List.mem_of_getElem? (i := 212) rfl)) rfl
theorem mg_693 : Cond.code yX7_nights cX7_nights 10 (Option.some FieldType.int) ∈ wAll := wA_g (wA_t3 (List.mem_of_getElem? (i := 213) rfl)) rfl
theorem mg_694 : Cond.constantLong RX7 168 (40 : Int64) ∈ wAll := wA_g (wA_t3 (List.mem_of_getElem? (i := 214) rfl)) rfl
theorem mg_695 : Cond.constantLong RX7 170 (2 : Int64) ∈ wAll := wA_g (wA_t3 (List.mem_of_getElem? (i := 215) rfl)) rfl
theorem mg_696 : Cond.methodLink RX7 172 yX7_draw ∈ wAll := wA_g (wA_t3 (List.mem_of_getElem? (i := 216) rfl)) rfl
theorem mg_698 : Cond.instanceMethod yX7_draw ∈ wAll := wA_g (wA_t3 (List.mem_of_getElem? (i := 218) rfl)) rfl
theorem mg_699 : Cond.code yX7_draw cX7_draw 2 (Option.some FieldType.int) ∈ wAll := wA_g (wA_t3 (List.mem_of_getElem? (i := 219) rfl)) rfl
theorem mg_700 : Cond.constantLong RX7 158 (1103515245 : Int64) ∈ wAll := wA_g (wA_t3 (List.mem_of_getElem? (i := 220) rfl)) rfl
theorem mg_701 : Cond.constantLong RX7 163 (12345 : Int64) ∈ wAll := wA_g (wA_t3 (List.mem_of_getElem? (i := 221) rfl)) rfl
theorem mg_702 : Cond.constantLong RX7 165 (2147483647 : Int64) ∈ wAll := wA_g (wA_t3 (List.mem_of_getElem? (i := 222) rfl)) rfl
theorem mg_703 : Cond.constant RX7 167 (65536 : Int32) ∈ wAll := wA_g (wA_t3 (List.mem_of_getElem? (i := 223) rfl)) rfl
theorem mg_704 : Cond.methodLink RL 90 yX7_image ∈ wAll := wA_g (wA_t3 (List.mem_of_getElem? (i := 224) rfl)) rfl
theorem mg_705 : Cond.instanceMethod yX7_image ∈ wAll := wA_g (wA_t3 (List.mem_of_getElem? (i := 225) rfl)) rfl
theorem mg_706 : Cond.selects RX7 yX7_image yX7_image ∈ wAll := wA_g (wA_t3 (List.mem_of_getElem? (i := 226) rfl)) rfl
theorem mg_707 : Cond.code yX7_image cX7_image 1 (Option.some FieldType.int) ∈ wAll := wA_g (wA_t3 (List.mem_of_getElem? (i := 227) rfl)) rfl
theorem mg_708 : Cond.methodLink RL 94 yX7_restore ∈ wAll := wA_g (wA_t3 (List.mem_of_getElem? (i := 228) rfl)) rfl
theorem mg_709 : Cond.instanceMethod yX7_restore ∈ wAll := wA_g (wA_t3 (List.mem_of_getElem? (i := 229) rfl)) rfl
theorem mg_710 : Cond.selects RX7 yX7_restore yX7_restore ∈ wAll := wA_g (wA_t3 (List.mem_of_getElem? (i := 230) rfl)) rfl
theorem mg_711 : Cond.code yX7_restore cX7_restore 1 (Option.some FieldType.int) ∈ wAll := wA_g (wA_t3 (List.mem_of_getElem? (i := 231) rfl)) rfl
theorem mg_712 : Cond.methodLink RL 98 yX7_count ∈ wAll := wA_g (wA_t3 (List.mem_of_getElem? (i := 232) rfl)) rfl
theorem mg_713 : Cond.instanceMethod yX7_count ∈ wAll := wA_g (wA_t3 (List.mem_of_getElem? (i := 233) rfl)) rfl
theorem mg_714 : Cond.selects RX7 yX7_count yX7_count ∈ wAll := wA_g (wA_t3 (List.mem_of_getElem? (i := 234) rfl)) rfl
theorem mg_715 : Cond.code yX7_count cX7_count 2 (Option.some FieldType.int) ∈ wAll := wA_g (wA_t3 (List.mem_of_getElem? (i := 235) rfl)) rfl
theorem mg_716 : Cond.methodLink RX7 190 yX7_countOf ∈ wAll := wA_g (wA_t3 (List.mem_of_getElem? (i := 236) rfl)) rfl
theorem mg_718 : Cond.instanceMethod yX7_countOf ∈ wAll := wA_g (wA_t3 (List.mem_of_getElem? (i := 238) rfl)) rfl
theorem mg_719 : Cond.code yX7_countOf cX7_countOf 2 (Option.some FieldType.int) ∈ wAll := wA_g (wA_t3 (List.mem_of_getElem? (i := 239) rfl)) rfl
theorem mg_720 : Cond.methodLink RX7 184 yX7_beatsAll ∈ wAll := wA_g (wA_t4 (List.mem_of_getElem? (i := 0) rfl)) rfl
theorem mg_722 : Cond.instanceMethod yX7_beatsAll ∈ wAll := wA_g (wA_t4 (List.mem_of_getElem? (i := 2) rfl)) rfl
theorem mg_723 : Cond.code yX7_beatsAll cX7_beatsAll 3 (Option.some FieldType.int) ∈ wAll := wA_g (wA_t4 (List.mem_of_getElem? (i := 3) rfl)) rfl
theorem mg_724 : Cond.methodLink RX7 187 yX7_sumAt ∈ wAll := wA_g (wA_t4 (List.mem_of_getElem? (i := 4) rfl)) rfl
theorem mg_726 : Cond.instanceMethod yX7_sumAt ∈ wAll := wA_g (wA_t4 (List.mem_of_getElem? (i := 6) rfl)) rfl
theorem mg_727 : Cond.code yX7_sumAt cX7_sumAt 4 (Option.some FieldType.int) ∈ wAll := wA_g (wA_t4 (List.mem_of_getElem? (i := 7) rfl)) rfl
theorem mg_728 : Cond.methodLink RL 103 yX7_digest ∈ wAll := wA_g (wA_t4 (List.mem_of_getElem? (i := 8) rfl)) rfl
theorem mg_729 : Cond.instanceMethod yX7_digest ∈ wAll := wA_g (wA_t4 (List.mem_of_getElem? (i := 9) rfl)) rfl
theorem mg_730 : Cond.selects RX7 yX7_digest yX7_digest ∈ wAll := wA_g (wA_t4 (List.mem_of_getElem? (i := 10) rfl)) rfl
theorem mg_731 : Cond.code yX7_digest cX7_digest 3 (Option.some FieldType.long) ∈ wAll := wA_g (wA_t4 (List.mem_of_getElem? (i := 11) rfl)) rfl
theorem mg_732 : Cond.constantLong RX7 203 (1061 : Int64) ∈ wAll := wA_g (wA_t4 (List.mem_of_getElem? (i := 12) rfl)) rfl
theorem mg_733 : Cond.methodLink RX7 199 yX7_say ∈ wAll := wA_g (wA_t4 (List.mem_of_getElem? (i := 13) rfl)) rfl
theorem mg_735 : Cond.instanceMethod yX7_say ∈ wAll := wA_g (wA_t4 (List.mem_of_getElem? (i := 15) rfl)) rfl
theorem mg_736 : Cond.code yX7_say cX7_say 3 (Option.none : Option FieldType) ∈ wAll := wA_g (wA_t4 (List.mem_of_getElem? (i := 16) rfl)) rfl
theorem mg_737 : Cond.constantLong RX7 193 (31 : Int64) ∈ wAll := wA_g (wA_t4 (List.mem_of_getElem? (i := 17) rfl)) rfl
theorem mg_738 : Cond.methodLink RX7 205 yX7_sayTap ∈ wAll := wA_g (wA_t4 (List.mem_of_getElem? (i := 18) rfl)) rfl
theorem mg_740 : Cond.instanceMethod yX7_sayTap ∈ wAll := wA_g (wA_t4 (List.mem_of_getElem? (i := 20) rfl)) rfl
theorem mg_741 : Cond.code yX7_sayTap cX7_sayTap 3 (Option.none : Option FieldType) ∈ wAll := wA_g (wA_t4 (List.mem_of_getElem? (i := 21) rfl)) rfl
theorem mg_1000 : Cond.selects RX2 yX2_takesInSaying yX2_takesInSaying ∈ wAll := wA_g (wA_s (List.mem_of_getElem? (i := 0) rfl)) rfl
theorem mg_1001 : Cond.selects RX2 yX2_takesInTap yX2_takesInTap ∈ wAll := wA_g (wA_s (List.mem_of_getElem? (i := 1) rfl)) rfl
theorem mg_1002 : Cond.selects RX6 yX6_readPage yX6_readPage ∈ wAll := wA_g (wA_s (List.mem_of_getElem? (i := 2) rfl)) rfl
theorem mg_1003 : Cond.selects RX6 yX6_aboutOf yX6_aboutOf ∈ wAll := wA_g (wA_s (List.mem_of_getElem? (i := 3) rfl)) rfl
theorem mg_1004 : Cond.selects RX6 yX6_sureOf yX6_sureOf ∈ wAll := wA_g (wA_s (List.mem_of_getElem? (i := 4) rfl)) rfl
theorem mg_1005 : Cond.selects RX6 yX6_enoughToTell yX6_enoughToTell ∈ wAll := wA_g (wA_s (List.mem_of_getElem? (i := 5) rfl)) rfl
theorem mg_1006 : Cond.selects RX6 yX6_saysOf yX6_saysOf ∈ wAll := wA_g (wA_s (List.mem_of_getElem? (i := 6) rfl)) rfl
theorem mg_1007 : Cond.selects RX6 yX6_slipsOf yX6_slipsOf ∈ wAll := wA_g (wA_s (List.mem_of_getElem? (i := 7) rfl)) rfl
theorem mg_1008 : Cond.selects RX6 yX6_likelyOf yX6_likelyOf ∈ wAll := wA_g (wA_s (List.mem_of_getElem? (i := 8) rfl)) rfl
theorem mg_1009 : Cond.selects RX6 yX6_bestToHear yX6_bestToHear ∈ wAll := wA_g (wA_s (List.mem_of_getElem? (i := 9) rfl)) rfl
theorem mg_1010 : Cond.selects RX6 yX6_leftAtWorst yX6_leftAtWorst ∈ wAll := wA_g (wA_s (List.mem_of_getElem? (i := 10) rfl)) rfl
theorem mg_1011 : Cond.selects RX6 yX6_dripOf yX6_dripOf ∈ wAll := wA_g (wA_s (List.mem_of_getElem? (i := 11) rfl)) rfl
theorem mg_1012 : Cond.selects RX6 yX6_nearOf yX6_nearOf ∈ wAll := wA_g (wA_s (List.mem_of_getElem? (i := 12) rfl)) rfl
theorem mg_1013 : Cond.selects RX6 yX6_unlikeOf yX6_unlikeOf ∈ wAll := wA_g (wA_s (List.mem_of_getElem? (i := 13) rfl)) rfl
theorem mg_1014 : Cond.selects RX6 yX6_countOf yX6_countOf ∈ wAll := wA_g (wA_s (List.mem_of_getElem? (i := 14) rfl)) rfl
theorem mg_1015 : Cond.selects RX6 yX6_digestSayings yX6_digestSayings ∈ wAll := wA_g (wA_s (List.mem_of_getElem? (i := 15) rfl)) rfl
theorem mg_1016 : Cond.selects RX6 yX6_digestTap yX6_digestTap ∈ wAll := wA_g (wA_s (List.mem_of_getElem? (i := 16) rfl)) rfl
theorem mg_1017 : Cond.selects RX7 yX7_faultOf yX7_faultOf ∈ wAll := wA_g (wA_s (List.mem_of_getElem? (i := 17) rfl)) rfl
theorem mg_1018 : Cond.selects RX7 yX7_goSaying yX7_goSaying ∈ wAll := wA_g (wA_s (List.mem_of_getElem? (i := 18) rfl)) rfl
theorem mg_1019 : Cond.selects RX7 yX7_goTap yX7_goTap ∈ wAll := wA_g (wA_s (List.mem_of_getElem? (i := 19) rfl)) rfl
theorem mg_1020 : Cond.selects RX7 yX7_lacks yX7_lacks ∈ wAll := wA_g (wA_s (List.mem_of_getElem? (i := 20) rfl)) rfl
theorem mg_1021 : Cond.selects RX7 yX7_tellSaying yX7_tellSaying ∈ wAll := wA_g (wA_s (List.mem_of_getElem? (i := 21) rfl)) rfl
theorem mg_1022 : Cond.selects RX7 yX7_isTap yX7_isTap ∈ wAll := wA_g (wA_s (List.mem_of_getElem? (i := 22) rfl)) rfl
theorem mg_1023 : Cond.selects RX7 yX7_tell yX7_tell ∈ wAll := wA_g (wA_s (List.mem_of_getElem? (i := 23) rfl)) rfl
theorem mg_1024 : Cond.selects RX7 yX7_sureOf yX7_sureOf ∈ wAll := wA_g (wA_s (List.mem_of_getElem? (i := 24) rfl)) rfl
theorem mg_1025 : Cond.selects RX7 yX7_patternOf yX7_patternOf ∈ wAll := wA_g (wA_s (List.mem_of_getElem? (i := 25) rfl)) rfl
theorem mg_1026 : Cond.selects RX7 yX7_dripAs yX7_dripAs ∈ wAll := wA_g (wA_s (List.mem_of_getElem? (i := 26) rfl)) rfl
theorem mg_1027 : Cond.selects RX7 yX7_dripBy yX7_dripBy ∈ wAll := wA_g (wA_s (List.mem_of_getElem? (i := 27) rfl)) rfl
theorem mg_1028 : Cond.selects RX7 yX7_saysOf yX7_saysOf ∈ wAll := wA_g (wA_s (List.mem_of_getElem? (i := 28) rfl)) rfl
theorem mg_1029 : Cond.selects RX7 yX7_slipsBy yX7_slipsBy ∈ wAll := wA_g (wA_s (List.mem_of_getElem? (i := 29) rfl)) rfl
theorem mg_1030 : Cond.selects RX7 yX7_likelyOf yX7_likelyOf ∈ wAll := wA_g (wA_s (List.mem_of_getElem? (i := 30) rfl)) rfl
theorem mg_1031 : Cond.selects RX7 yX7_listenOf yX7_listenOf ∈ wAll := wA_g (wA_s (List.mem_of_getElem? (i := 31) rfl)) rfl
theorem mg_1032 : Cond.selects RX7 yX7_dripOf yX7_dripOf ∈ wAll := wA_g (wA_s (List.mem_of_getElem? (i := 32) rfl)) rfl
theorem mg_1033 : Cond.selects RX7 yX7_agreeOf yX7_agreeOf ∈ wAll := wA_g (wA_s (List.mem_of_getElem? (i := 33) rfl)) rfl
theorem mg_1034 : Cond.selects RX7 yX7_nearOf yX7_nearOf ∈ wAll := wA_g (wA_s (List.mem_of_getElem? (i := 34) rfl)) rfl
theorem mg_1035 : Cond.selects RX7 yX7_unlikeBy yX7_unlikeBy ∈ wAll := wA_g (wA_s (List.mem_of_getElem? (i := 35) rfl)) rfl
theorem mg_1036 : Cond.selects RX7 yX7_draw yX7_draw ∈ wAll := wA_g (wA_s (List.mem_of_getElem? (i := 36) rfl)) rfl
theorem mg_1037 : Cond.selects RX7 yX7_countOf yX7_countOf ∈ wAll := wA_g (wA_s (List.mem_of_getElem? (i := 37) rfl)) rfl
theorem mg_1038 : Cond.selects RX7 yX7_beatsAll yX7_beatsAll ∈ wAll := wA_g (wA_s (List.mem_of_getElem? (i := 38) rfl)) rfl
theorem mg_1039 : Cond.selects RX7 yX7_sumAt yX7_sumAt ∈ wAll := wA_g (wA_s (List.mem_of_getElem? (i := 39) rfl)) rfl
theorem mg_1040 : Cond.selects RX7 yX7_say yX7_say ∈ wAll := wA_g (wA_s (List.mem_of_getElem? (i := 40) rfl)) rfl
theorem mg_1041 : Cond.selects RX7 yX7_sayTap yX7_sayTap ∈ wAll := wA_g (wA_s (List.mem_of_getElem? (i := 41) rfl)) rfl
theorem iX0 : ∀ w ∈ u_ws RX0 TX0 4, w ∈ wAll := List.forall_mem_cons.mpr ⟨mg_123, List.forall_mem_cons.mpr ⟨mg_125, List.forall_mem_cons.mpr ⟨mg_127, List.forall_mem_cons.mpr ⟨mg_129, fun _ h => absurd h List.not_mem_nil⟩⟩⟩⟩
theorem iX1 : ∀ w ∈ u_ws RX1 TX1 3, w ∈ wAll := List.forall_mem_cons.mpr ⟨mg_45, List.forall_mem_cons.mpr ⟨mg_47, List.forall_mem_cons.mpr ⟨mg_49, fun _ h => absurd h List.not_mem_nil⟩⟩⟩
theorem iX2 : ∀ w ∈ u_ws RX2 TX2 3, w ∈ wAll := List.forall_mem_cons.mpr ⟨mg_33, List.forall_mem_cons.mpr ⟨mg_35, List.forall_mem_cons.mpr ⟨mg_37, fun _ h => absurd h List.not_mem_nil⟩⟩⟩
theorem iX3 : ∀ w ∈ u_ws RX3 TX3 5, w ∈ wAll := List.forall_mem_cons.mpr ⟨mg_140, List.forall_mem_cons.mpr ⟨mg_142, List.forall_mem_cons.mpr ⟨mg_144, List.forall_mem_cons.mpr ⟨mg_146, List.forall_mem_cons.mpr ⟨mg_148, fun _ h => absurd h List.not_mem_nil⟩⟩⟩⟩⟩
theorem iX4 : ∀ w ∈ u_ws RX4 TX4 2, w ∈ wAll := List.forall_mem_cons.mpr ⟨mg_60, List.forall_mem_cons.mpr ⟨mg_62, fun _ h => absurd h List.not_mem_nil⟩⟩
theorem iX5 : ∀ w ∈ u_ws RX5 TX5 5, w ∈ wAll := List.forall_mem_cons.mpr ⟨mg_93, List.forall_mem_cons.mpr ⟨mg_95, List.forall_mem_cons.mpr ⟨mg_97, List.forall_mem_cons.mpr ⟨mg_99, List.forall_mem_cons.mpr ⟨mg_101, fun _ h => absurd h List.not_mem_nil⟩⟩⟩⟩⟩
theorem iX6 : ∀ w ∈ u_ws RX6 TX6 7, w ∈ wAll := List.forall_mem_cons.mpr ⟨mg_158, List.forall_mem_cons.mpr ⟨mg_160, List.forall_mem_cons.mpr ⟨mg_162, List.forall_mem_cons.mpr ⟨mg_164, List.forall_mem_cons.mpr ⟨mg_166, List.forall_mem_cons.mpr ⟨mg_168, List.forall_mem_cons.mpr ⟨mg_170, fun _ h => absurd h List.not_mem_nil⟩⟩⟩⟩⟩⟩⟩
theorem iX7 : ∀ w ∈ u_ws RX7 TX7 22, w ∈ wAll := List.forall_mem_cons.mpr ⟨mg_484, List.forall_mem_cons.mpr ⟨mg_486, List.forall_mem_cons.mpr ⟨mg_488, List.forall_mem_cons.mpr ⟨mg_490, List.forall_mem_cons.mpr ⟨mg_492, List.forall_mem_cons.mpr ⟨mg_494, List.forall_mem_cons.mpr ⟨mg_496, List.forall_mem_cons.mpr ⟨mg_498, List.forall_mem_cons.mpr ⟨mg_500, List.forall_mem_cons.mpr ⟨mg_502, List.forall_mem_cons.mpr ⟨mg_504, List.forall_mem_cons.mpr ⟨mg_506, List.forall_mem_cons.mpr ⟨mg_508, List.forall_mem_cons.mpr ⟨mg_510, List.forall_mem_cons.mpr ⟨mg_512, List.forall_mem_cons.mpr ⟨mg_514, List.forall_mem_cons.mpr ⟨mg_516, List.forall_mem_cons.mpr ⟨mg_518, List.forall_mem_cons.mpr ⟨mg_520, List.forall_mem_cons.mpr ⟨mg_522, List.forall_mem_cons.mpr ⟨mg_524, List.forall_mem_cons.mpr ⟨mg_526, fun _ h => absurd h List.not_mem_nil⟩⟩⟩⟩⟩⟩⟩⟩⟩⟩⟩⟩⟩⟩⟩⟩⟩⟩⟩⟩⟩⟩
