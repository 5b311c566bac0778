set_option maxHeartbeats 4000000 in
set_option maxRecDepth 100000 in
theorem c_X7_letterO (l : Launch) (D : va_G) (h : Nat) (g : Nat → Nat) (cI : ClassId) (sz : Nat) (J : Nat → Int32) (hz : Int64) (G : Nat → Nat → Int32) (b : Nat → Nat → Nat) (pn xr xi : Nat) (pc : Nat → Int32) (q kq : RS) (hF : MF b pn xr xi pc q kq J G) (hokz : ¬ q.1 = 0 → hok b) (hT : Tok q) (c9 : Int32) (oc : ¬ inr c9 1 127) : WI l yX7_letter (wA yX7_letter cX7_letter 2 (some .int)) ({ frames := 1, cells := 0, slots := 0, locals := 25 }) D (iTys cI) (mW h g cI J hz G) sz [.ref h, .int c9] (fun (r : Int32) (u : (Nat → Int32) × (Nat → Nat → Int32)) => r = -102 ∧ MF b pn xr xi pc q kq u.1 u.2) (fun u => mW h g cI u.1 hz u.2) := by
  refine rw_startI (by decide) (Nat.le_of_ble_eq_true rfl) ?_
  intro p e s m args below meth c ls A F hP hK hD hA hS hl
  obtain ⟨hx, hb, hr, hlocks, hml, hown, hts⟩ := F
  have hown : s.vm.findClass RX7 = some m.cls := hown
  have hl : lv_has ls 2 [(0, .ref h), (1, .int c9)] := hl
  have hM := hF.1
  have ht5 := hT.1
  have ht8 := hT.2.1
  have oc7 := inr_out oc
  refine lv_iload_n hx hb dX7_letter_0 rfl (lv_at hl 1 rfl) ?_
  refine lv_i2l (v := c9.toInt64) hx hb dX7_letter_1 rfl ?_
  refine lv_lconst (v := (1 : Int64)) hx hb dX7_letter_2 (by decide) ?_
  refine lv_ldc2 (v := (126 : Int64)) hx hb hown (hts _ mg_533) dX7_letter_3 ?_
  have e1 : (c9.toInt64 : Int64).toInt = c9.toInt := (Int32.toInt_toInt64 _).trans rfl
  have e2 : ((1) : Int64).toInt = 1 := (by decide)
  have e3 : ((126 : Int64) : Int64).toInt = 126 := (by decide)
  refine ro_iS (n := 3) (As := [.long c9.toInt64, .long (1), .long (126 : Int64)]) ⟨hx, hb, hml, hown, hts⟩ (c_X7_inF l D (c9.toInt64) ((1)) ((126 : Int64)) (fun z => by omega)) (cwS 3 hts (gS mg_534 mg_535 mg_8 mg_536) rfl rfl rfl vd_X7_in ⟨Nat.le_of_ble_eq_true rfl, Nat.le_of_ble_eq_true rfl⟩)  (hK.sub [] rfl) (fun k q h => by simp at h) rfl hl.1 rfl (Nat.le_of_ble_eq_true rfl) dX7_letter_6 ⟨Nat.zero_le _, Nat.zero_le _⟩ ?_
  refine j_if_ne (tgt := 15) hx hb dX7_letter_9 (by decide) (nI_toInt (by decide)) (fun c_1 => absurd c_1 (by omega)) (fun c_1 => ?_)
  refine lv_bipush (v := (-102)) hx hb dX7_letter_12 (by decide) ?_
  exact rw_iret (wp := (fun u => mW h g cI u.1 hz u.2)) (post := (fun (r : Int32) (u : (Nat → Int32) × (Nat → Nat → Int32)) => r = -102 ∧ MF b pn xr xi pc q kq u.1 u.2)) (J, G) hx hb hr hlocks hK hP hD hS (rfl) (⟨rfl, hF⟩) dX7_letter_14

set_option maxHeartbeats 4000000 in
set_option maxRecDepth 100000 in
theorem c_X7_letterF (l : Launch) (D : va_G) (h : Nat) (g : Nat → Nat) (cI : ClassId) (sz : Nat) (J : Nat → Int32) (hz : Int64) (G : Nat → Nat → Int32) (b : Nat → Nat → Nat) (pn xr xi : Nat) (pc : Nat → Int32) (q kq : RS) (hF : MF b pn xr xi pc q kq J G) (hokz : ¬ q.1 = 0 → hok b) (hT : Tok q) (c9 : Int32) (oc : inr c9 1 127) (h30 : pn = 30) : WI l yX7_letter (wA yX7_letter cX7_letter 2 (some .int)) ({ frames := 1, cells := 0, slots := 0, locals := 25 }) D (iTys cI) (mW h g cI J hz G) sz [.ref h, .int c9] (fun (r : Int32) (u : (Nat → Int32) × (Nat → Nat → Int32)) => r = -104 ∧ MF b pn xr xi pc q kq u.1 u.2) (fun u => mW h g cI u.1 hz u.2) := by
  refine rw_startI (by decide) (Nat.le_of_ble_eq_true rfl) ?_
  intro p e s m args below meth c ls A F hP hK hD hA hS hl
  obtain ⟨hx, hb, hr, hlocks, hml, hown, hts⟩ := F
  have hown : s.vm.findClass RX7 = some m.cls := hown
  have hl : lv_has ls 2 [(0, .ref h), (1, .int c9)] := hl
  have hM := hF.1
  have ht5 := hT.1
  have ht8 := hT.2.1
  have oc7 := oc.1
  have oc8 := oc.2
  refine lv_iload_n hx hb dX7_letter_0 rfl (lv_at hl 1 rfl) ?_
  refine lv_i2l (v := c9.toInt64) hx hb dX7_letter_1 rfl ?_
  refine lv_lconst (v := (1 : Int64)) hx hb dX7_letter_2 (by decide) ?_
  refine lv_ldc2 (v := (126 : Int64)) hx hb hown (hts _ mg_533) dX7_letter_3 ?_
  have e1 : (c9.toInt64 : Int64).toInt = c9.toInt := (Int32.toInt_toInt64 _).trans rfl
  have e2 : ((1) : Int64).toInt = 1 := (by decide)
  have e3 : ((126 : Int64) : Int64).toInt = 126 := (by decide)
  refine ro_iS (n := 3) (As := [.long c9.toInt64, .long (1), .long (126 : Int64)]) ⟨hx, hb, hml, hown, hts⟩ (c_X7_inT l D (c9.toInt64) ((1)) ((126 : Int64)) (by constructor <;> omega)) (cwS 3 hts (gS mg_534 mg_535 mg_8 mg_536) rfl rfl rfl vd_X7_in ⟨Nat.le_of_ble_eq_true rfl, Nat.le_of_ble_eq_true rfl⟩)  (hK.sub [] rfl) (fun k q h => by simp at h) rfl hl.1 rfl (Nat.le_of_ble_eq_true rfl) dX7_letter_6 ⟨Nat.zero_le _, Nat.zero_le _⟩ ?_
  refine j_if_ne (tgt := 15) hx hb dX7_letter_9 (by decide) (nI_toInt (by decide)) (fun c_1 => ?_) (fun c_1 => absurd c_1 (by omega))
  refine lv_aload_n hx hb dX7_letter_15 rfl (lv_at hl 0 rfl) ?_
  refine va_get (D := D) (ci := 7) (v := .int (nI pn)) (C := RX7) (T := TX7) (N := 22) hx hb hts iX7 hown hK hP 0 rfl rfl 1 (by decide) (hts _ mg_463) (fun _ h9 => h9) (congrArg (fun z => some (Value.int z)) hF.2.1) dX7_letter_16 ?_
  refine lv_bipush (v := nI 30) hx hb dX7_letter_19 (by decide) ?_
  refine j_icmp_ne (tgt := 27) hx hb dX7_letter_21 (by decide) (nI_toInt (by omega)) (nI_toInt (by decide)) (fun c_2 => absurd c_2 (by omega)) (fun c_2 => ?_)
  refine lv_bipush (v := (-104)) hx hb dX7_letter_24 (by decide) ?_
  exact rw_iret (wp := (fun u => mW h g cI u.1 hz u.2)) (post := (fun (r : Int32) (u : (Nat → Int32) × (Nat → Nat → Int32)) => r = -104 ∧ MF b pn xr xi pc q kq u.1 u.2)) (J, G) hx hb hr hlocks hK hP hD hS (rfl) (⟨rfl, hF⟩) dX7_letter_26

set_option maxHeartbeats 4000000 in
set_option maxRecDepth 100000 in
theorem c_X7_letterI (l : Launch) (D : va_G) (h : Nat) (g : Nat → Nat) (cI : ClassId) (sz : Nat) (J : Nat → Int32) (hz : Int64) (G : Nat → Nat → Int32) (b : Nat → Nat → Nat) (pn xr xi : Nat) (pc : Nat → Int32) (q kq : RS) (hF : MF b pn xr xi pc q kq J G) (hokz : ¬ q.1 = 0 → hok b) (hT : Tok q) (c9 : Int32) (oc : inr c9 1 127) (h30 : pn < 30) : WI l yX7_letter (wA yX7_letter cX7_letter 2 (some .int)) ({ frames := 1, cells := 0, slots := 0, locals := 25 }) D (iTys cI) (mW h g cI J hz G) sz [.ref h, .int c9] (fun (r : Int32) (u : (Nat → Int32) × (Nat → Nat → Int32)) => r = nI (pn + 1) ∧ MF b (pn + 1) xr xi (upd pc pn c9) q kq u.1 u.2) (fun u => mW h g cI u.1 hz u.2) := by
  refine rw_startI (by decide) (Nat.le_of_ble_eq_true rfl) ?_
  intro p e s m args below meth c ls A F hP hK hD hA hS hl
  obtain ⟨hx, hb, hr, hlocks, hml, hown, hts⟩ := F
  have hown : s.vm.findClass RX7 = some m.cls := hown
  have hl : lv_has ls 2 [(0, .ref h), (1, .int c9)] := hl
  have hM := hF.1
  have ht5 := hT.1
  have ht8 := hT.2.1
  have oc7 := oc.1
  have oc8 := oc.2
  refine lv_iload_n hx hb dX7_letter_0 rfl (lv_at hl 1 rfl) ?_
  refine lv_i2l (v := c9.toInt64) hx hb dX7_letter_1 rfl ?_
  refine lv_lconst (v := (1 : Int64)) hx hb dX7_letter_2 (by decide) ?_
  refine lv_ldc2 (v := (126 : Int64)) hx hb hown (hts _ mg_533) dX7_letter_3 ?_
  have e1 : (c9.toInt64 : Int64).toInt = c9.toInt := (Int32.toInt_toInt64 _).trans rfl
  have e2 : ((1) : Int64).toInt = 1 := (by decide)
  have e3 : ((126 : Int64) : Int64).toInt = 126 := (by decide)
  refine ro_iS (n := 3) (As := [.long c9.toInt64, .long (1), .long (126 : Int64)]) ⟨hx, hb, hml, hown, hts⟩ (c_X7_inT l D (c9.toInt64) ((1)) ((126 : Int64)) (by constructor <;> omega)) (cwS 3 hts (gS mg_534 mg_535 mg_8 mg_536) rfl rfl rfl vd_X7_in ⟨Nat.le_of_ble_eq_true rfl, Nat.le_of_ble_eq_true rfl⟩)  (hK.sub [] rfl) (fun k q h => by simp at h) rfl hl.1 rfl (Nat.le_of_ble_eq_true rfl) dX7_letter_6 ⟨Nat.zero_le _, Nat.zero_le _⟩ ?_
  refine j_if_ne (tgt := 15) hx hb dX7_letter_9 (by decide) (nI_toInt (by decide)) (fun c_1 => ?_) (fun c_1 => absurd c_1 (by omega))
  refine lv_aload_n hx hb dX7_letter_15 rfl (lv_at hl 0 rfl) ?_
  refine va_get (D := D) (ci := 7) (v := .int (nI pn)) (C := RX7) (T := TX7) (N := 22) hx hb hts iX7 hown hK hP 0 rfl rfl 1 (by decide) (hts _ mg_463) (fun _ h9 => h9) (congrArg (fun z => some (Value.int z)) hF.2.1) dX7_letter_16 ?_
  refine lv_bipush (v := nI 30) hx hb dX7_letter_19 (by decide) ?_
  refine j_icmp_ne (tgt := 27) hx hb dX7_letter_21 (by decide) (nI_toInt (by omega)) (nI_toInt (by decide)) (fun c_2 => ?_) (fun c_2 => absurd c_2 (by omega))
  refine lv_aload_n hx hb dX7_letter_27 rfl (lv_at hl 0 rfl) ?_
  refine va_get (D := D) (ci := 7) (v := .ref (g 0)) (C := RX7) (T := TX7) (N := 22) hx hb hts iX7 hown hK hP 0 rfl rfl 0 (by decide) (hts _ mg_462) (fun _ h9 => h9) rfl dX7_letter_28 ?_
  refine lv_aload_n hx hb dX7_letter_31 rfl (lv_at hl 0 rfl) ?_
  refine va_get (D := D) (ci := 7) (v := .int (nI pn)) (C := RX7) (T := TX7) (N := 22) hx hb hts iX7 hown hK hP 0 rfl rfl 1 (by decide) (hts _ mg_463) (fun _ h9 => h9) (congrArg (fun z => some (Value.int z)) hF.2.1) dX7_letter_32 ?_
  refine lv_iload_n hx hb dX7_letter_35 rfl (lv_at hl 1 rfl) ?_
  refine n_asti hx hb hK hP hD hS 1 0 rfl rfl (by omega) (by decide) dX7_letter_36 (fun H locs hP hD hS => ?_)
  have hP : va_P D vwCl (mW h g cI J hz (updF G 0 (upd (G 0) pn c9))) H := hP
  have hD : va_D A (mW h g cI J hz (updF G 0 (upd (G 0) pn c9))) := hD
  refine lv_aload_n hx hb dX7_letter_37 rfl (lv_at hl 0 rfl) ?_
  refine lv_dup hx hb dX7_letter_38 rfl ?_
  refine va_get (D := D) (ci := 7) (v := .int (nI pn)) (C := RX7) (T := TX7) (N := 22) hx hb hts iX7 hown hK hP 0 rfl rfl 1 (by decide) (hts _ mg_463) (fun _ h9 => h9) (congrArg (fun z => some (Value.int z)) hF.2.1) dX7_letter_39 ?_
  refine lv_iconst (v := nI 1) hx hb dX7_letter_42 (by decide) ?_
  refine n_iadd hx hb dX7_letter_43 ?_
  refine va_put (D := D) (ci := 7) (v := .int (nI (pn + 1))) (ty := .int) (C := RX7) (T := TX7) (N := 22) hx hb hts iX7 tyX7 tyX7_ok nmX7 hown hK hP hD hS 0 rfl rfl 1 (by decide) (hts _ mg_463) (fun _ h9 => h9) rfl (tyX7_ok 1 (by decide)) rfl rfl (Nat.le_of_ble_eq_true rfl) dX7_letter_44 (fun H locs hP hD hS => ?_)
  have hP : va_P D vwCl (mW h g cI (upd J 1 (nI (pn + 1))) hz (updF G 0 (upd (G 0) pn c9))) H := hP
  have hD : va_D A (mW h g cI (upd J 1 (nI (pn + 1))) hz (updF G 0 (upd (G 0) pn c9))) := hD
  refine lv_aload_n hx hb dX7_letter_47 rfl (lv_at hl 0 rfl) ?_
  refine va_get (D := D) (ci := 7) (v := .int (nI (pn + 1))) (C := RX7) (T := TX7) (N := 22) hx hb hts iX7 hown hK hP 0 rfl rfl 1 (by decide) (hts _ mg_463) (fun _ h9 => h9) (congrArg (fun z => some (Value.int z)) rfl) dX7_letter_48 ?_
  exact rw_iret (wp := (fun u => mW h g cI u.1 hz u.2)) (post := (fun (r : Int32) (u : (Nat → Int32) × (Nat → Nat → Int32)) => r = nI (pn + 1) ∧ MF b (pn + 1) xr xi (upd pc pn c9) q kq u.1 u.2)) (upd J 1 (nI (pn + 1)), updF G 0 (upd (G 0) pn c9)) hx hb hr hlocks hK hP hD hS (rfl) (⟨rfl, ⟨hF.1, rfl, hF.2.2.1, congrArg (fun z => upd z pn c9) hF.2.2.2.1, hF.2.2.2.2.1, hF.2.2.2.2.2⟩⟩) dX7_letter_51

set_option maxHeartbeats 4000000 in
set_option maxRecDepth 100000 in
theorem c_X7_blank (l : Launch) (D : va_G) (h : Nat) (g : Nat → Nat) (cI : ClassId) (sz : Nat) (J : Nat → Int32) (hz : Int64) (G : Nat → Nat → Int32) (b : Nat → Nat → Nat) (pn xr xi : Nat) (pc : Nat → Int32) (q kq : RS) (hF : MF b pn xr xi pc q kq J G) (hokz : ¬ q.1 = 0 → hok b) (hT : Tok q) : WI l yX7_blank (wA yX7_blank cX7_blank 2 (some .int)) ({ frames := 0, cells := 0, slots := 0, locals := 0 }) D (iTys cI) (mW h g cI J hz G) sz [.ref h] (fun (r : Int32) (u : (Nat → Int32) × (Nat → Nat → Int32)) => r = nI pn ∧ MF b 0 xr xi pc q kq u.1 u.2) (fun u => mW h g cI u.1 hz u.2) := by
  refine rw_startI (by decide) (Nat.le_of_ble_eq_true rfl) ?_
  intro p e s m args below meth c ls A F hP hK hD hA hS hl
  obtain ⟨hx, hb, hr, hlocks, hml, hown, hts⟩ := F
  have hown : s.vm.findClass RX7 = some m.cls := hown
  have hl : lv_has ls 2 [(0, .ref h)] := hl
  have hM := hF.1
  have ht5 := hT.1
  have ht8 := hT.2.1
  refine lv_aload_n hx hb dX7_blank_0 rfl (lv_at hl 0 rfl) ?_
  refine va_get (D := D) (ci := 7) (v := .int (nI pn)) (C := RX7) (T := TX7) (N := 22) hx hb hts iX7 hown hK hP 0 rfl rfl 1 (by decide) (hts _ mg_463) (fun _ h9 => h9) (congrArg (fun z => some (Value.int z)) hF.2.1) dX7_blank_1 ?_
  refine lv_istore_n (lv' := [(1, .int (nI pn)), (0, .ref h)]) hx hb dX7_blank_4 rfl hl (by decide) rfl (fun ls hl => ?_)
  refine lv_aload_n hx hb dX7_blank_5 rfl (lv_at hl 1 rfl) ?_
  refine lv_iconst (v := nI 0) hx hb dX7_blank_6 (by decide) ?_
  refine va_put (D := D) (ci := 7) (v := .int (nI 0)) (ty := .int) (C := RX7) (T := TX7) (N := 22) hx hb hts iX7 tyX7 tyX7_ok nmX7 hown hK hP hD hS 0 rfl rfl 1 (by decide) (hts _ mg_463) (fun _ h9 => h9) rfl (tyX7_ok 1 (by decide)) rfl rfl (Nat.le_of_ble_eq_true rfl) dX7_blank_7 (fun H locs hP hD hS => ?_)
  have hP : va_P D vwCl (mW h g cI (upd J 1 (nI 0)) hz G) H := hP
  have hD : va_D A (mW h g cI (upd J 1 (nI 0)) hz G) := hD
  refine lv_iload_n hx hb dX7_blank_10 rfl (lv_at hl 0 rfl) ?_
  exact rw_iret (wp := (fun u => mW h g cI u.1 hz u.2)) (post := (fun (r : Int32) (u : (Nat → Int32) × (Nat → Nat → Int32)) => r = nI pn ∧ MF b 0 xr xi pc q kq u.1 u.2)) (upd J 1 (nI 0), G) hx hb hr hlocks hK hP hD hS (rfl) (⟨rfl, ⟨hF.1, rfl, hF.2.2.1, hF.2.2.2.1, hF.2.2.2.2.1, hF.2.2.2.2.2⟩⟩) dX7_blank_11

set_option maxHeartbeats 4000000 in
set_option maxRecDepth 100000 in
theorem c_X7_forget (l : Launch) (D : va_G) (h : Nat) (g : Nat → Nat) (cI : ClassId) (sz : Nat) (J : Nat → Int32) (hz : Int64) (G : Nat → Nat → Int32) (b : Nat → Nat → Nat) (pn xr xi : Nat) (pc : Nat → Int32) (q kq : RS) (hF : MF b pn xr xi pc q kq J G) (hokz : ¬ q.1 = 0 → hok b) (hT : Tok q) : WI l yX7_forget (wA yX7_forget cX7_forget 2 (some .int)) ({ frames := 0, cells := 0, slots := 0, locals := 0 }) D (iTys cI) (mW h g cI J hz G) sz [.ref h] (fun (r : Int32) (u : (Nat → Int32) × (Nat → Nat → Int32)) => r = nI q.2.1 ∧ MF b pn xr xi pc (q.1, 0, q.2.2.1, q.2.2.2.1, q.2.2.2.2) kq u.1 u.2) (fun u => mW h g cI u.1 hz u.2) := by
  refine rw_startI (by decide) (Nat.le_of_ble_eq_true rfl) ?_
  intro p e s m args below meth c ls A F hP hK hD hA hS hl
  obtain ⟨hx, hb, hr, hlocks, hml, hown, hts⟩ := F
  have hown : s.vm.findClass RX7 = some m.cls := hown
  have hl : lv_has ls 2 [(0, .ref h)] := hl
  have hM := hF.1
  have ht5 := hT.1
  have ht8 := hT.2.1
  refine lv_aload_n hx hb dX7_forget_0 rfl (lv_at hl 0 rfl) ?_
  refine va_get (D := D) (ci := 7) (v := .int (nI q.2.1)) (C := RX7) (T := TX7) (N := 22) hx hb hts iX7 hown hK hP 0 rfl rfl 12 (by decide) (hts _ mg_474) (fun _ h9 => h9) (congrArg (fun z => some (Value.int z)) (MR_12 hM)) dX7_forget_1 ?_
  refine lv_istore_n (lv' := [(1, .int (nI q.2.1)), (0, .ref h)]) hx hb dX7_forget_4 rfl hl (by decide) rfl (fun ls hl => ?_)
  refine lv_aload_n hx hb dX7_forget_5 rfl (lv_at hl 1 rfl) ?_
  refine lv_iconst (v := nI 0) hx hb dX7_forget_6 (by decide) ?_
  refine va_put (D := D) (ci := 7) (v := .int (nI 0)) (ty := .int) (C := RX7) (T := TX7) (N := 22) hx hb hts iX7 tyX7 tyX7_ok nmX7 hown hK hP hD hS 0 rfl rfl 12 (by decide) (hts _ mg_474) (fun _ h9 => h9) rfl (tyX7_ok 12 (by decide)) rfl rfl (Nat.le_of_ble_eq_true rfl) dX7_forget_7 (fun H locs hP hD hS => ?_)
  have hP : va_P D vwCl (mW h g cI (upd J 12 (nI 0)) hz G) H := hP
  have hD : va_D A (mW h g cI (upd J 12 (nI 0)) hz G) := hD
  refine lv_iload_n hx hb dX7_forget_10 rfl (lv_at hl 0 rfl) ?_
  exact rw_iret (wp := (fun u => mW h g cI u.1 hz u.2)) (post := (fun (r : Int32) (u : (Nat → Int32) × (Nat → Nat → Int32)) => r = nI q.2.1 ∧ MF b pn xr xi pc (q.1, 0, q.2.2.1, q.2.2.2.1, q.2.2.2.2) kq u.1 u.2)) (upd J 12 (nI 0), G) hx hb hr hlocks hK hP hD hS (rfl) (⟨rfl, ⟨⟨hM.1, rfl, hM.2.2.1, hM.2.2.2.1, hM.2.2.2.2.1, fun i hi => absurd hi (Nat.not_lt_zero i)⟩, hF.2⟩⟩) dX7_forget_11

set_option maxHeartbeats 4000000 in
set_option maxRecDepth 100000 in
theorem c_X7_tapO1 (l : Launch) (D : va_G) (h : Nat) (g : Nat → Nat) (cI : ClassId) (sz : Nat) (J : Nat → Int32) (hz : Int64) (G : Nat → Nat → Int32) (b : Nat → Nat → Nat) (pn xr xi : Nat) (pc : Nat → Int32) (q kq : RS) (hF : MF b pn xr xi pc q kq J G) (hokz : ¬ q.1 = 0 → hok b) (hT : Tok q) (x w : Int32) (ox : ¬ inr x 0 5) : WI l yX7_tap (wA yX7_tap cX7_tap 3 (some .int)) ({ frames := 2, cells := 0, slots := 0, locals := 45 }) D (iTys cI) (mW h g cI J hz G) sz [.ref h, .int x, .int w] (fun (r : Int32) (u : (Nat → Int32) × (Nat → Nat → Int32)) => r = -102 ∧ MF b pn xr xi pc q kq u.1 u.2) (fun u => mW h g cI u.1 hz u.2) := by
  refine rw_startI (by decide) (Nat.le_of_ble_eq_true rfl) ?_
  intro p e s m args below meth c ls A F hP hK hD hA hS hl
  obtain ⟨hx, hb, hr, hlocks, hml, hown, hts⟩ := F
  have hown : s.vm.findClass RX7 = some m.cls := hown
  have hl : lv_has ls 3 [(0, .ref h), (1, .int x), (2, .int w)] := hl
  have hM := hF.1
  have ht5 := hT.1
  have ht8 := hT.2.1
  have ox7 := inr_out ox
  refine lv_iload_n hx hb dX7_tap_0 rfl (lv_at hl 1 rfl) ?_
  refine lv_i2l (v := x.toInt64) hx hb dX7_tap_1 rfl ?_
  refine lv_lconst (v := (0 : Int64)) hx hb dX7_tap_2 (by decide) ?_
  refine lv_ldc2 (v := (4 : Int64)) hx hb hown (hts _ mg_591) dX7_tap_3 ?_
  have e1 : (x.toInt64 : Int64).toInt = x.toInt := (Int32.toInt_toInt64 _).trans rfl
  have e2 : ((0) : Int64).toInt = 0 := (by decide)
  have e3 : ((4 : Int64) : Int64).toInt = 4 := (by decide)
  refine ro_iS (n := 3) (As := [.long x.toInt64, .long (0), .long (4 : Int64)]) ⟨hx, hb, hml, hown, hts⟩ (c_X7_inF l D (x.toInt64) ((0)) ((4 : Int64)) (fun z => by omega)) (cwS 3 hts (gS mg_534 mg_535 mg_8 mg_536) rfl rfl rfl vd_X7_in ⟨Nat.le_of_ble_eq_true rfl, Nat.le_of_ble_eq_true rfl⟩)  (hK.sub [] rfl) (fun k q h => by simp at h) rfl hl.1 rfl (Nat.le_of_ble_eq_true rfl) dX7_tap_6 ⟨Nat.zero_le _, Nat.zero_le _⟩ ?_
  refine j_if_eq (tgt := 19) hx hb dX7_tap_9 (by decide) (nI_toInt (by decide)) (fun c_1 => ?_) (fun c_1 => absurd c_1 (by omega))
  refine lv_bipush (v := (-102)) hx hb dX7_tap_19 (by decide) ?_
  exact rw_iret (wp := (fun u => mW h g cI u.1 hz u.2)) (post := (fun (r : Int32) (u : (Nat → Int32) × (Nat → Nat → Int32)) => r = -102 ∧ MF b pn xr xi pc q kq u.1 u.2)) (J, G) hx hb hr hlocks hK hP hD hS (rfl) (⟨rfl, hF⟩) dX7_tap_21

set_option maxHeartbeats 4000000 in
set_option maxRecDepth 100000 in
theorem c_X7_tapO2 (l : Launch) (D : va_G) (h : Nat) (g : Nat → Nat) (cI : ClassId) (sz : Nat) (J : Nat → Int32) (hz : Int64) (G : Nat → Nat → Int32) (b : Nat → Nat → Nat) (pn xr xi : Nat) (pc : Nat → Int32) (q kq : RS) (hF : MF b pn xr xi pc q kq J G) (hokz : ¬ q.1 = 0 → hok b) (hT : Tok q) (kd : Nat) (hkd : kd < 5) (w : Int32) (ow : ¬ inr w 0 4) : WI l yX7_tap (wA yX7_tap cX7_tap 3 (some .int)) ({ frames := 2, cells := 0, slots := 0, locals := 45 }) D (iTys cI) (mW h g cI J hz G) sz [.ref h, .int (nI kd), .int w] (fun (r : Int32) (u : (Nat → Int32) × (Nat → Nat → Int32)) => r = -102 ∧ MF b pn xr xi pc q kq u.1 u.2) (fun u => mW h g cI u.1 hz u.2) := by
  refine rw_startI (by decide) (Nat.le_of_ble_eq_true rfl) ?_
  intro p e s m args below meth c ls A F hP hK hD hA hS hl
  obtain ⟨hx, hb, hr, hlocks, hml, hown, hts⟩ := F
  have hown : s.vm.findClass RX7 = some m.cls := hown
  have hl : lv_has ls 3 [(0, .ref h), (1, .int (nI kd)), (2, .int w)] := hl
  have hM := hF.1
  have ht5 := hT.1
  have ht8 := hT.2.1
  refine lv_iload_n hx hb dX7_tap_0 rfl (lv_at hl 1 rfl) ?_
  refine lv_i2l (v := lN kd) hx hb dX7_tap_1 (nI_l (by omega)) ?_
  refine lv_lconst (v := (0 : Int64)) hx hb dX7_tap_2 (by decide) ?_
  refine lv_ldc2 (v := (4 : Int64)) hx hb hown (hts _ mg_591) dX7_tap_3 ?_
  have e1 : (lN kd : Int64).toInt = ((kd : Nat) : Int) := lN_toInt (by omega)
  have e2 : ((0) : Int64).toInt = 0 := (by decide)
  have e3 : ((4 : Int64) : Int64).toInt = 4 := (by decide)
  refine ro_iS (n := 3) (As := [.long (lN kd), .long (0), .long (4 : Int64)]) ⟨hx, hb, hml, hown, hts⟩ (c_X7_inT l D (lN kd) ((0)) ((4 : Int64)) (by constructor <;> omega)) (cwS 3 hts (gS mg_534 mg_535 mg_8 mg_536) rfl rfl rfl vd_X7_in ⟨Nat.le_of_ble_eq_true rfl, Nat.le_of_ble_eq_true rfl⟩)  (hK.sub [] rfl) (fun k q h => by simp at h) rfl hl.1 rfl (Nat.le_of_ble_eq_true rfl) dX7_tap_6 ⟨Nat.zero_le _, Nat.zero_le _⟩ ?_
  refine j_if_eq (tgt := 19) hx hb dX7_tap_9 (by decide) (nI_toInt (by decide)) (fun c_1 => absurd c_1 (by omega)) (fun c_1 => ?_)
  refine lv_iload_n hx hb dX7_tap_12 rfl (lv_at hl 2 rfl) ?_
  refine ro_iS (n := 1) (As := [.int w]) ⟨hx, hb, hml, hown, hts⟩ (c_X7_isSayingF l D w (inr_out ow)) (cwS 1 hts (gS mg_577 mg_578 mg_8 mg_579) rfl rfl rfl vd_X7_isSaying ⟨Nat.le_of_ble_eq_true rfl, Nat.le_of_ble_eq_true rfl⟩)  (hK.sub [] rfl) (fun k q h => by simp at h) rfl hl.1 rfl (Nat.le_of_ble_eq_true rfl) dX7_tap_13 ⟨Nat.zero_le _, Nat.zero_le _⟩ ?_
  refine j_if_ne (tgt := 22) hx hb dX7_tap_16 (by decide) (nI_toInt (by decide)) (fun c_2 => absurd c_2 (by omega)) (fun c_2 => ?_)
  refine lv_bipush (v := (-102)) hx hb dX7_tap_19 (by decide) ?_
  exact rw_iret (wp := (fun u => mW h g cI u.1 hz u.2)) (post := (fun (r : Int32) (u : (Nat → Int32) × (Nat → Nat → Int32)) => r = -102 ∧ MF b pn xr xi pc q kq u.1 u.2)) (J, G) hx hb hr hlocks hK hP hD hS (rfl) (⟨rfl, hF⟩) dX7_tap_21

set_option maxHeartbeats 4000000 in
set_option maxRecDepth 100000 in
theorem c_X7_tapS (l : Launch) (D : va_G) (h : Nat) (g : Nat → Nat) (cI : ClassId) (sz : Nat) (J : Nat → Int32) (hz : Int64) (G : Nat → Nat → Int32) (b : Nat → Nat → Nat) (pn xr xi : Nat) (pc : Nat → Int32) (q kq : RS) (hF : MF b pn xr xi pc q kq J G) (hokz : ¬ q.1 = 0 → hok b) (hT : Tok q) (kd v : Nat) (hkd : kd < 5) (hv : v < 4) (h0 : q.1 = 0) : WI l yX7_tap (wA yX7_tap cX7_tap 3 (some .int)) ({ frames := 2, cells := 0, slots := 0, locals := 45 }) D (iTys cI) (mW h g cI J hz G) sz [.ref h, .int (nI kd), .int (nI v)] (fun (r : Int32) (u : (Nat → Int32) × (Nat → Nat → Int32)) => r = -103 ∧ MF b pn xr xi pc q kq u.1 u.2) (fun u => mW h g cI u.1 hz u.2) := by
  refine rw_startI (by decide) (Nat.le_of_ble_eq_true rfl) ?_
  intro p e s m args below meth c ls A F hP hK hD hA hS hl
  obtain ⟨hx, hb, hr, hlocks, hml, hown, hts⟩ := F
  have hown : s.vm.findClass RX7 = some m.cls := hown
  have hl : lv_has ls 3 [(0, .ref h), (1, .int (nI kd)), (2, .int (nI v))] := hl
  have hM := hF.1
  have ht5 := hT.1
  have ht8 := hT.2.1
  refine lv_iload_n hx hb dX7_tap_0 rfl (lv_at hl 1 rfl) ?_
  refine lv_i2l (v := lN kd) hx hb dX7_tap_1 (nI_l (by omega)) ?_
  refine lv_lconst (v := (0 : Int64)) hx hb dX7_tap_2 (by decide) ?_
  refine lv_ldc2 (v := (4 : Int64)) hx hb hown (hts _ mg_591) dX7_tap_3 ?_
  have e1 : (lN kd : Int64).toInt = ((kd : Nat) : Int) := lN_toInt (by omega)
  have e2 : ((0) : Int64).toInt = 0 := (by decide)
  have e3 : ((4 : Int64) : Int64).toInt = 4 := (by decide)
  refine ro_iS (n := 3) (As := [.long (lN kd), .long (0), .long (4 : Int64)]) ⟨hx, hb, hml, hown, hts⟩ (c_X7_inT l D (lN kd) ((0)) ((4 : Int64)) (by constructor <;> omega)) (cwS 3 hts (gS mg_534 mg_535 mg_8 mg_536) rfl rfl rfl vd_X7_in ⟨Nat.le_of_ble_eq_true rfl, Nat.le_of_ble_eq_true rfl⟩)  (hK.sub [] rfl) (fun k q h => by simp at h) rfl hl.1 rfl (Nat.le_of_ble_eq_true rfl) dX7_tap_6 ⟨Nat.zero_le _, Nat.zero_le _⟩ ?_
  refine j_if_eq (tgt := 19) hx hb dX7_tap_9 (by decide) (nI_toInt (by decide)) (fun c_1 => absurd c_1 (by omega)) (fun c_1 => ?_)
  refine lv_iload_n hx hb dX7_tap_12 rfl (lv_at hl 2 rfl) ?_
  refine ro_iS (n := 1) (As := [.int (nI v)]) ⟨hx, hb, hml, hown, hts⟩ (c_X7_isSayingT l D (nI v) (by rw [nI_toInt (by omega)]; omega)) (cwS 1 hts (gS mg_577 mg_578 mg_8 mg_579) rfl rfl rfl vd_X7_isSaying ⟨Nat.le_of_ble_eq_true rfl, Nat.le_of_ble_eq_true rfl⟩)  (hK.sub [] rfl) (fun k q h => by simp at h) rfl hl.1 rfl (Nat.le_of_ble_eq_true rfl) dX7_tap_13 ⟨Nat.zero_le _, Nat.zero_le _⟩ ?_
  refine j_if_ne (tgt := 22) hx hb dX7_tap_16 (by decide) (nI_toInt (by decide)) (fun c_2 => ?_) (fun c_2 => absurd c_2 (by omega))
  refine lv_aload_n hx hb dX7_tap_22 rfl (lv_at hl 0 rfl) ?_
  refine ro_iV (n := 0) (As := []) ⟨hx, hb, hml, hown, hts⟩ (c_X7_lacksT l D h g cI J hz G q b hM hT.1 h0) (cwV 0 hts (gV mg_573 mg_575 mg_1020 mg_8 mg_576) rfl rfl rfl vd_X7_lacks ⟨Nat.le_of_ble_eq_true rfl, Nat.le_of_ble_eq_true rfl⟩) (va_recv hK hP (ci := 7) (q0 := 0) rfl rfl) hK hP rfl hl.1 rfl (Nat.le_of_ble_eq_true rfl) dX7_tap_23 ⟨Nat.zero_le _, Nat.zero_le _⟩ ?_
  refine j_if_eq (tgt := 32) hx hb dX7_tap_26 (by decide) (nI_toInt (by decide)) (fun c_3 => absurd c_3 (by omega)) (fun c_3 => ?_)
  refine lv_bipush (v := (-103)) hx hb dX7_tap_29 (by decide) ?_
  exact rw_iret (wp := (fun u => mW h g cI u.1 hz u.2)) (post := (fun (r : Int32) (u : (Nat → Int32) × (Nat → Nat → Int32)) => r = -103 ∧ MF b pn xr xi pc q kq u.1 u.2)) (J, G) hx hb hr hlocks hK hP hD hS (rfl) (⟨rfl, hF⟩) dX7_tap_31

set_option maxHeartbeats 4000000 in
set_option maxRecDepth 100000 in
theorem c_X7_tapF (l : Launch) (D : va_G) (h : Nat) (g : Nat → Nat) (cI : ClassId) (sz : Nat) (J : Nat → Int32) (hz : Int64) (G : Nat → Nat → Int32) (b : Nat → Nat → Nat) (pn xr xi : Nat) (pc : Nat → Int32) (q kq : RS) (hF : MF b pn xr xi pc q kq J G) (hokz : ¬ q.1 = 0 → hok b) (hT : Tok q) (kd v : Nat) (hkd : kd < 5) (hv : v < 4) (h0 : ¬ q.1 = 0) (h9 : q.1 = 5) : WI l yX7_tap (wA yX7_tap cX7_tap 3 (some .int)) ({ frames := 2, cells := 0, slots := 0, locals := 45 }) D (iTys cI) (mW h g cI J hz G) sz [.ref h, .int (nI kd), .int (nI v)] (fun (r : Int32) (u : (Nat → Int32) × (Nat → Nat → Int32)) => r = -104 ∧ MF b pn xr xi pc q kq u.1 u.2) (fun u => mW h g cI u.1 hz u.2) := by
  refine rw_startI (by decide) (Nat.le_of_ble_eq_true rfl) ?_
  intro p e s m args below meth c ls A F hP hK hD hA hS hl
  obtain ⟨hx, hb, hr, hlocks, hml, hown, hts⟩ := F
  have hown : s.vm.findClass RX7 = some m.cls := hown
  have hl : lv_has ls 3 [(0, .ref h), (1, .int (nI kd)), (2, .int (nI v))] := hl
  have hM := hF.1
  have ht5 := hT.1
  have ht8 := hT.2.1
  have hok9 := hokz h0
  refine lv_iload_n hx hb dX7_tap_0 rfl (lv_at hl 1 rfl) ?_
  refine lv_i2l (v := lN kd) hx hb dX7_tap_1 (nI_l (by omega)) ?_
  refine lv_lconst (v := (0 : Int64)) hx hb dX7_tap_2 (by decide) ?_
  refine lv_ldc2 (v := (4 : Int64)) hx hb hown (hts _ mg_591) dX7_tap_3 ?_
  have e1 : (lN kd : Int64).toInt = ((kd : Nat) : Int) := lN_toInt (by omega)
  have e2 : ((0) : Int64).toInt = 0 := (by decide)
  have e3 : ((4 : Int64) : Int64).toInt = 4 := (by decide)
  refine ro_iS (n := 3) (As := [.long (lN kd), .long (0), .long (4 : Int64)]) ⟨hx, hb, hml, hown, hts⟩ (c_X7_inT l D (lN kd) ((0)) ((4 : Int64)) (by constructor <;> omega)) (cwS 3 hts (gS mg_534 mg_535 mg_8 mg_536) rfl rfl rfl vd_X7_in ⟨Nat.le_of_ble_eq_true rfl, Nat.le_of_ble_eq_true rfl⟩)  (hK.sub [] rfl) (fun k q h => by simp at h) rfl hl.1 rfl (Nat.le_of_ble_eq_true rfl) dX7_tap_6 ⟨Nat.zero_le _, Nat.zero_le _⟩ ?_
  refine j_if_eq (tgt := 19) hx hb dX7_tap_9 (by decide) (nI_toInt (by decide)) (fun c_1 => absurd c_1 (by omega)) (fun c_1 => ?_)
  refine lv_iload_n hx hb dX7_tap_12 rfl (lv_at hl 2 rfl) ?_
  refine ro_iS (n := 1) (As := [.int (nI v)]) ⟨hx, hb, hml, hown, hts⟩ (c_X7_isSayingT l D (nI v) (by rw [nI_toInt (by omega)]; omega)) (cwS 1 hts (gS mg_577 mg_578 mg_8 mg_579) rfl rfl rfl vd_X7_isSaying ⟨Nat.le_of_ble_eq_true rfl, Nat.le_of_ble_eq_true rfl⟩)  (hK.sub [] rfl) (fun k q h => by simp at h) rfl hl.1 rfl (Nat.le_of_ble_eq_true rfl) dX7_tap_13 ⟨Nat.zero_le _, Nat.zero_le _⟩ ?_
  refine j_if_ne (tgt := 22) hx hb dX7_tap_16 (by decide) (nI_toInt (by decide)) (fun c_2 => ?_) (fun c_2 => absurd c_2 (by omega))
  refine lv_aload_n hx hb dX7_tap_22 rfl (lv_at hl 0 rfl) ?_
  refine ro_iV (n := 0) (As := []) ⟨hx, hb, hml, hown, hts⟩ (c_X7_lacksF l D h g cI J hz G q b hM hT.1 h0) (cwV 0 hts (gV mg_573 mg_575 mg_1020 mg_8 mg_576) rfl rfl rfl vd_X7_lacks ⟨Nat.le_of_ble_eq_true rfl, Nat.le_of_ble_eq_true rfl⟩) (va_recv hK hP (ci := 7) (q0 := 0) rfl rfl) hK hP rfl hl.1 rfl (Nat.le_of_ble_eq_true rfl) dX7_tap_23 ⟨Nat.zero_le _, Nat.zero_le _⟩ ?_
  refine j_if_eq (tgt := 32) hx hb dX7_tap_26 (by decide) (nI_toInt (by decide)) (fun c_3 => ?_) (fun c_3 => absurd c_3 (by omega))
  refine lv_aload_n hx hb dX7_tap_32 rfl (lv_at hl 0 rfl) ?_
  refine va_get (D := D) (ci := 7) (v := .int (nI q.1)) (C := RX7) (T := TX7) (N := 22) hx hb hts iX7 hown hK hP 0 rfl rfl 7 (by decide) (hts _ mg_469) (fun _ h9 => h9) (congrArg (fun z => some (Value.int z)) (MR_7 hM)) dX7_tap_33 ?_
  refine lv_iconst (v := nI 5) hx hb dX7_tap_36 (by decide) ?_
  refine j_icmp_ne (tgt := 43) hx hb dX7_tap_37 (by decide) (nI_toInt (by omega)) (nI_toInt (by decide)) (fun c_4 => absurd c_4 (by omega)) (fun c_4 => ?_)
  refine lv_bipush (v := (-104)) hx hb dX7_tap_40 (by decide) ?_
  exact rw_iret (wp := (fun u => mW h g cI u.1 hz u.2)) (post := (fun (r : Int32) (u : (Nat → Int32) × (Nat → Nat → Int32)) => r = -104 ∧ MF b pn xr xi pc q kq u.1 u.2)) (J, G) hx hb hr hlocks hK hP hD hS (rfl) (⟨rfl, hF⟩) dX7_tap_42

set_option maxHeartbeats 4000000 in
set_option maxRecDepth 100000 in
theorem c_X7_tapI (l : Launch) (D : va_G) (h : Nat) (g : Nat → Nat) (cI : ClassId) (sz : Nat) (J : Nat → Int32) (hz : Int64) (G : Nat → Nat → Int32) (b : Nat → Nat → Nat) (pn xr xi : Nat) (pc : Nat → Int32) (q kq : RS) (hF : MF b pn xr xi pc q kq J G) (hokz : ¬ q.1 = 0 → hok b) (hT : Tok q) (kd v : Nat) (hkd : kd < 5) (hv : v < 4) (h0 : ¬ q.1 = 0) (h9 : ¬ q.1 = 5) : WI l yX7_tap (wA yX7_tap cX7_tap 3 (some .int)) ({ frames := 2, cells := 0, slots := 0, locals := 45 }) D (iTys cI) (mW h g cI J hz G) sz [.ref h, .int (nI kd), .int (nI v)] (fun (r : Int32) (u : (Nat → Int32) × (Nat → Nat → Int32)) => r = nI q.1 ∧ MF b pn xr xi pc (q.1 + 1, q.2.1, q.2.2.1, upR q.2.2.2.1 q.1 (rw4 kd v 0 0), q.2.2.2.2) kq u.1 u.2) (fun u => mW h g cI u.1 hz u.2) := by
  refine rw_startI (by decide) (Nat.le_of_ble_eq_true rfl) ?_
  intro p e s m args below meth c ls A F hP hK hD hA hS hl
  obtain ⟨hx, hb, hr, hlocks, hml, hown, hts⟩ := F
  have hown : s.vm.findClass RX7 = some m.cls := hown
  have hl : lv_has ls 3 [(0, .ref h), (1, .int (nI kd)), (2, .int (nI v))] := hl
  have hM := hF.1
  have ht5 := hT.1
  have ht8 := hT.2.1
  have hok9 := hokz h0
  refine lv_iload_n hx hb dX7_tap_0 rfl (lv_at hl 1 rfl) ?_
  refine lv_i2l (v := lN kd) hx hb dX7_tap_1 (nI_l (by omega)) ?_
  refine lv_lconst (v := (0 : Int64)) hx hb dX7_tap_2 (by decide) ?_
  refine lv_ldc2 (v := (4 : Int64)) hx hb hown (hts _ mg_591) dX7_tap_3 ?_
  have e1 : (lN kd : Int64).toInt = ((kd : Nat) : Int) := lN_toInt (by omega)
  have e2 : ((0) : Int64).toInt = 0 := (by decide)
  have e3 : ((4 : Int64) : Int64).toInt = 4 := (by decide)
  refine ro_iS (n := 3) (As := [.long (lN kd), .long (0), .long (4 : Int64)]) ⟨hx, hb, hml, hown, hts⟩ (c_X7_inT l D (lN kd) ((0)) ((4 : Int64)) (by constructor <;> omega)) (cwS 3 hts (gS mg_534 mg_535 mg_8 mg_536) rfl rfl rfl vd_X7_in ⟨Nat.le_of_ble_eq_true rfl, Nat.le_of_ble_eq_true rfl⟩)  (hK.sub [] rfl) (fun k q h => by simp at h) rfl hl.1 rfl (Nat.le_of_ble_eq_true rfl) dX7_tap_6 ⟨Nat.zero_le _, Nat.zero_le _⟩ ?_
  refine j_if_eq (tgt := 19) hx hb dX7_tap_9 (by decide) (nI_toInt (by decide)) (fun c_1 => absurd c_1 (by omega)) (fun c_1 => ?_)
  refine lv_iload_n hx hb dX7_tap_12 rfl (lv_at hl 2 rfl) ?_
  refine ro_iS (n := 1) (As := [.int (nI v)]) ⟨hx, hb, hml, hown, hts⟩ (c_X7_isSayingT l D (nI v) (by rw [nI_toInt (by omega)]; omega)) (cwS 1 hts (gS mg_577 mg_578 mg_8 mg_579) rfl rfl rfl vd_X7_isSaying ⟨Nat.le_of_ble_eq_true rfl, Nat.le_of_ble_eq_true rfl⟩)  (hK.sub [] rfl) (fun k q h => by simp at h) rfl hl.1 rfl (Nat.le_of_ble_eq_true rfl) dX7_tap_13 ⟨Nat.zero_le _, Nat.zero_le _⟩ ?_
  refine j_if_ne (tgt := 22) hx hb dX7_tap_16 (by decide) (nI_toInt (by decide)) (fun c_2 => ?_) (fun c_2 => absurd c_2 (by omega))
  refine lv_aload_n hx hb dX7_tap_22 rfl (lv_at hl 0 rfl) ?_
  refine ro_iV (n := 0) (As := []) ⟨hx, hb, hml, hown, hts⟩ (c_X7_lacksF l D h g cI J hz G q b hM hT.1 h0) (cwV 0 hts (gV mg_573 mg_575 mg_1020 mg_8 mg_576) rfl rfl rfl vd_X7_lacks ⟨Nat.le_of_ble_eq_true rfl, Nat.le_of_ble_eq_true rfl⟩) (va_recv hK hP (ci := 7) (q0 := 0) rfl rfl) hK hP rfl hl.1 rfl (Nat.le_of_ble_eq_true rfl) dX7_tap_23 ⟨Nat.zero_le _, Nat.zero_le _⟩ ?_
  refine j_if_eq (tgt := 32) hx hb dX7_tap_26 (by decide) (nI_toInt (by decide)) (fun c_3 => ?_) (fun c_3 => absurd c_3 (by omega))
  refine lv_aload_n hx hb dX7_tap_32 rfl (lv_at hl 0 rfl) ?_
  refine va_get (D := D) (ci := 7) (v := .int (nI q.1)) (C := RX7) (T := TX7) (N := 22) hx hb hts iX7 hown hK hP 0 rfl rfl 7 (by decide) (hts _ mg_469) (fun _ h9 => h9) (congrArg (fun z => some (Value.int z)) (MR_7 hM)) dX7_tap_33 ?_
  refine lv_iconst (v := nI 5) hx hb dX7_tap_36 (by decide) ?_
  refine j_icmp_ne (tgt := 43) hx hb dX7_tap_37 (by decide) (nI_toInt (by omega)) (nI_toInt (by decide)) (fun c_4 => ?_) (fun c_4 => absurd c_4 (by omega))
  refine lv_aload_n hx hb dX7_tap_43 rfl (lv_at hl 0 rfl) ?_
  refine va_get (D := D) (ci := 7) (v := .ref (g 11)) (C := RX7) (T := TX7) (N := 22) hx hb hts iX7 hown hK hP 0 rfl rfl 11 (by decide) (hts _ mg_473) (fun _ h9 => h9) rfl dX7_tap_44 ?_
  refine lv_iconst (v := nI 4) hx hb dX7_tap_47 (by decide) ?_
  refine lv_aload_n hx hb dX7_tap_48 rfl (lv_at hl 0 rfl) ?_
  refine va_get (D := D) (ci := 7) (v := .int (nI q.1)) (C := RX7) (T := TX7) (N := 22) hx hb hts iX7 hown hK hP 0 rfl rfl 7 (by decide) (hts _ mg_469) (fun _ h9 => h9) (congrArg (fun z => some (Value.int z)) (MR_7 hM)) dX7_tap_49 ?_
  refine n_imul hx hb dX7_tap_52 ?_
  refine lv_iload_n hx hb dX7_tap_53 rfl (lv_at hl 1 rfl) ?_
  refine n_asti hx hb hK hP hD hS 5 0 rfl rfl (by omega) (by decide) dX7_tap_54 (fun H locs hP hD hS => ?_)
  have hP : va_P D vwCl (mW h g cI J hz (updF G 11 (upd (G 11) (4 * q.1) (nI kd)))) H := hP
  have hD : va_D A (mW h g cI J hz (updF G 11 (upd (G 11) (4 * q.1) (nI kd)))) := hD
  refine lv_aload_n hx hb dX7_tap_55 rfl (lv_at hl 0 rfl) ?_
  refine va_get (D := D) (ci := 7) (v := .ref (g 11)) (C := RX7) (T := TX7) (N := 22) hx hb hts iX7 hown hK hP 0 rfl rfl 11 (by decide) (hts _ mg_473) (fun _ h9 => h9) rfl dX7_tap_56 ?_
  refine lv_iconst (v := nI 4) hx hb dX7_tap_59 (by decide) ?_
  refine lv_aload_n hx hb dX7_tap_60 rfl (lv_at hl 0 rfl) ?_
  refine va_get (D := D) (ci := 7) (v := .int (nI q.1)) (C := RX7) (T := TX7) (N := 22) hx hb hts iX7 hown hK hP 0 rfl rfl 7 (by decide) (hts _ mg_469) (fun _ h9 => h9) (congrArg (fun z => some (Value.int z)) (MR_7 hM)) dX7_tap_61 ?_
  refine n_imul hx hb dX7_tap_64 ?_
  refine lv_iconst (v := nI 1) hx hb dX7_tap_65 (by decide) ?_
  refine n_iadd hx hb dX7_tap_66 ?_
  refine lv_iload_n hx hb dX7_tap_67 rfl (lv_at hl 2 rfl) ?_
  refine n_asti hx hb hK hP hD hS 5 0 rfl rfl (by omega) (by decide) dX7_tap_68 (fun H locs hP hD hS => ?_)
  have hP : va_P D vwCl (mW h g cI J hz (updF (updF G 11 (upd (G 11) (4 * q.1) (nI kd))) 11 (upd ((updF G 11 (upd (G 11) (4 * q.1) (nI kd))) 11) ((4 * q.1) + 1) (nI v)))) H := hP
  have hD : va_D A (mW h g cI J hz (updF (updF G 11 (upd (G 11) (4 * q.1) (nI kd))) 11 (upd ((updF G 11 (upd (G 11) (4 * q.1) (nI kd))) 11) ((4 * q.1) + 1) (nI v)))) := hD
  refine lv_aload_n hx hb dX7_tap_69 rfl (lv_at hl 0 rfl) ?_
  refine va_get (D := D) (ci := 7) (v := .ref (g 11)) (C := RX7) (T := TX7) (N := 22) hx hb hts iX7 hown hK hP 0 rfl rfl 11 (by decide) (hts _ mg_473) (fun _ h9 => h9) rfl dX7_tap_70 ?_
  refine lv_iconst (v := nI 4) hx hb dX7_tap_73 (by decide) ?_
  refine lv_aload_n hx hb dX7_tap_74 rfl (lv_at hl 0 rfl) ?_
  refine va_get (D := D) (ci := 7) (v := .int (nI q.1)) (C := RX7) (T := TX7) (N := 22) hx hb hts iX7 hown hK hP 0 rfl rfl 7 (by decide) (hts _ mg_469) (fun _ h9 => h9) (congrArg (fun z => some (Value.int z)) (MR_7 hM)) dX7_tap_75 ?_
  refine n_imul hx hb dX7_tap_78 ?_
  refine lv_iconst (v := nI 2) hx hb dX7_tap_79 (by decide) ?_
  refine n_iadd hx hb dX7_tap_80 ?_
  refine lv_iconst (v := nI 0) hx hb dX7_tap_81 (by decide) ?_
  refine n_asti hx hb hK hP hD hS 5 0 rfl rfl (by omega) (by decide) dX7_tap_82 (fun H locs hP hD hS => ?_)
  have hP : va_P D vwCl (mW h g cI J hz (updF (updF (updF G 11 (upd (G 11) (4 * q.1) (nI kd))) 11 (upd ((updF G 11 (upd (G 11) (4 * q.1) (nI kd))) 11) ((4 * q.1) + 1) (nI v))) 11 (upd ((updF (updF G 11 (upd (G 11) (4 * q.1) (nI kd))) 11 (upd ((updF G 11 (upd (G 11) (4 * q.1) (nI kd))) 11) ((4 * q.1) + 1) (nI v))) 11) ((4 * q.1) + 2) (nI 0)))) H := hP
  have hD : va_D A (mW h g cI J hz (updF (updF (updF G 11 (upd (G 11) (4 * q.1) (nI kd))) 11 (upd ((updF G 11 (upd (G 11) (4 * q.1) (nI kd))) 11) ((4 * q.1) + 1) (nI v))) 11 (upd ((updF (updF G 11 (upd (G 11) (4 * q.1) (nI kd))) 11 (upd ((updF G 11 (upd (G 11) (4 * q.1) (nI kd))) 11) ((4 * q.1) + 1) (nI v))) 11) ((4 * q.1) + 2) (nI 0)))) := hD
  refine lv_aload_n hx hb dX7_tap_83 rfl (lv_at hl 0 rfl) ?_
  refine va_get (D := D) (ci := 7) (v := .ref (g 11)) (C := RX7) (T := TX7) (N := 22) hx hb hts iX7 hown hK hP 0 rfl rfl 11 (by decide) (hts _ mg_473) (fun _ h9 => h9) rfl dX7_tap_84 ?_
  refine lv_iconst (v := nI 4) hx hb dX7_tap_87 (by decide) ?_
  refine lv_aload_n hx hb dX7_tap_88 rfl (lv_at hl 0 rfl) ?_
  refine va_get (D := D) (ci := 7) (v := .int (nI q.1)) (C := RX7) (T := TX7) (N := 22) hx hb hts iX7 hown hK hP 0 rfl rfl 7 (by decide) (hts _ mg_469) (fun _ h9 => h9) (congrArg (fun z => some (Value.int z)) (MR_7 hM)) dX7_tap_89 ?_
  refine n_imul hx hb dX7_tap_92 ?_
  refine lv_iconst (v := nI 3) hx hb dX7_tap_93 (by decide) ?_
  refine n_iadd hx hb dX7_tap_94 ?_
  refine lv_iconst (v := nI 0) hx hb dX7_tap_95 (by decide) ?_
  refine n_asti hx hb hK hP hD hS 5 0 rfl rfl (by omega) (by decide) dX7_tap_96 (fun H locs hP hD hS => ?_)
  have hP : va_P D vwCl (mW h g cI J hz (updF (updF (updF (updF G 11 (upd (G 11) (4 * q.1) (nI kd))) 11 (upd ((updF G 11 (upd (G 11) (4 * q.1) (nI kd))) 11) ((4 * q.1) + 1) (nI v))) 11 (upd ((updF (updF G 11 (upd (G 11) (4 * q.1) (nI kd))) 11 (upd ((updF G 11 (upd (G 11) (4 * q.1) (nI kd))) 11) ((4 * q.1) + 1) (nI v))) 11) ((4 * q.1) + 2) (nI 0))) 11 (upd ((updF (updF (updF G 11 (upd (G 11) (4 * q.1) (nI kd))) 11 (upd ((updF G 11 (upd (G 11) (4 * q.1) (nI kd))) 11) ((4 * q.1) + 1) (nI v))) 11 (upd ((updF (updF G 11 (upd (G 11) (4 * q.1) (nI kd))) 11 (upd ((updF G 11 (upd (G 11) (4 * q.1) (nI kd))) 11) ((4 * q.1) + 1) (nI v))) 11) ((4 * q.1) + 2) (nI 0))) 11) ((4 * q.1) + 3) (nI 0)))) H := hP
  have hD : va_D A (mW h g cI J hz (updF (updF (updF (updF G 11 (upd (G 11) (4 * q.1) (nI kd))) 11 (upd ((updF G 11 (upd (G 11) (4 * q.1) (nI kd))) 11) ((4 * q.1) + 1) (nI v))) 11 (upd ((updF (updF G 11 (upd (G 11) (4 * q.1) (nI kd))) 11 (upd ((updF G 11 (upd (G 11) (4 * q.1) (nI kd))) 11) ((4 * q.1) + 1) (nI v))) 11) ((4 * q.1) + 2) (nI 0))) 11 (upd ((updF (updF (updF G 11 (upd (G 11) (4 * q.1) (nI kd))) 11 (upd ((updF G 11 (upd (G 11) (4 * q.1) (nI kd))) 11) ((4 * q.1) + 1) (nI v))) 11 (upd ((updF (updF G 11 (upd (G 11) (4 * q.1) (nI kd))) 11 (upd ((updF G 11 (upd (G 11) (4 * q.1) (nI kd))) 11) ((4 * q.1) + 1) (nI v))) 11) ((4 * q.1) + 2) (nI 0))) 11) ((4 * q.1) + 3) (nI 0)))) := hD
  refine lv_aload_n hx hb dX7_tap_97 rfl (lv_at hl 0 rfl) ?_
  refine lv_dup hx hb dX7_tap_98 rfl ?_
  refine va_get (D := D) (ci := 7) (v := .int (nI q.1)) (C := RX7) (T := TX7) (N := 22) hx hb hts iX7 hown hK hP 0 rfl rfl 7 (by decide) (hts _ mg_469) (fun _ h9 => h9) (congrArg (fun z => some (Value.int z)) (MR_7 hM)) dX7_tap_99 ?_
  refine lv_iconst (v := nI 1) hx hb dX7_tap_102 (by decide) ?_
  refine n_iadd hx hb dX7_tap_103 ?_
  refine va_put (D := D) (ci := 7) (v := .int (nI (q.1 + 1))) (ty := .int) (C := RX7) (T := TX7) (N := 22) hx hb hts iX7 tyX7 tyX7_ok nmX7 hown hK hP hD hS 0 rfl rfl 7 (by decide) (hts _ mg_469) (fun _ h9 => h9) rfl (tyX7_ok 7 (by decide)) rfl rfl (Nat.le_of_ble_eq_true rfl) dX7_tap_104 (fun H locs hP hD hS => ?_)
  have hP : va_P D vwCl (mW h g cI (upd J 7 (nI (q.1 + 1))) hz (updF (updF (updF (updF G 11 (upd (G 11) (4 * q.1) (nI kd))) 11 (upd ((updF G 11 (upd (G 11) (4 * q.1) (nI kd))) 11) ((4 * q.1) + 1) (nI v))) 11 (upd ((updF (updF G 11 (upd (G 11) (4 * q.1) (nI kd))) 11 (upd ((updF G 11 (upd (G 11) (4 * q.1) (nI kd))) 11) ((4 * q.1) + 1) (nI v))) 11) ((4 * q.1) + 2) (nI 0))) 11 (upd ((updF (updF (updF G 11 (upd (G 11) (4 * q.1) (nI kd))) 11 (upd ((updF G 11 (upd (G 11) (4 * q.1) (nI kd))) 11) ((4 * q.1) + 1) (nI v))) 11 (upd ((updF (updF G 11 (upd (G 11) (4 * q.1) (nI kd))) 11 (upd ((updF G 11 (upd (G 11) (4 * q.1) (nI kd))) 11) ((4 * q.1) + 1) (nI v))) 11) ((4 * q.1) + 2) (nI 0))) 11) ((4 * q.1) + 3) (nI 0)))) H := hP
  have hD : va_D A (mW h g cI (upd J 7 (nI (q.1 + 1))) hz (updF (updF (updF (updF G 11 (upd (G 11) (4 * q.1) (nI kd))) 11 (upd ((updF G 11 (upd (G 11) (4 * q.1) (nI kd))) 11) ((4 * q.1) + 1) (nI v))) 11 (upd ((updF (updF G 11 (upd (G 11) (4 * q.1) (nI kd))) 11 (upd ((updF G 11 (upd (G 11) (4 * q.1) (nI kd))) 11) ((4 * q.1) + 1) (nI v))) 11) ((4 * q.1) + 2) (nI 0))) 11 (upd ((updF (updF (updF G 11 (upd (G 11) (4 * q.1) (nI kd))) 11 (upd ((updF G 11 (upd (G 11) (4 * q.1) (nI kd))) 11) ((4 * q.1) + 1) (nI v))) 11 (upd ((updF (updF G 11 (upd (G 11) (4 * q.1) (nI kd))) 11 (upd ((updF G 11 (upd (G 11) (4 * q.1) (nI kd))) 11) ((4 * q.1) + 1) (nI v))) 11) ((4 * q.1) + 2) (nI 0))) 11) ((4 * q.1) + 3) (nI 0)))) := hD
  refine lv_aload_n hx hb dX7_tap_107 rfl (lv_at hl 0 rfl) ?_
  refine va_get (D := D) (ci := 7) (v := .int (nI (q.1 + 1))) (C := RX7) (T := TX7) (N := 22) hx hb hts iX7 hown hK hP 0 rfl rfl 7 (by decide) (hts _ mg_469) (fun _ h9 => h9) (congrArg (fun z => some (Value.int z)) rfl) dX7_tap_108 ?_
  refine lv_iconst (v := nI 1) hx hb dX7_tap_111 (by decide) ?_
  refine n_isub hx hb dX7_tap_112 (by omega) ?_
  refine n_top (congrArg nI (Nat.add_sub_cancel (n := q.1) (m := 1))) ?_
  exact rw_iret (wp := (fun u => mW h g cI u.1 hz u.2)) (post := (fun (r : Int32) (u : (Nat → Int32) × (Nat → Nat → Int32)) => r = nI q.1 ∧ MF b pn xr xi pc (q.1 + 1, q.2.1, q.2.2.1, upR q.2.2.2.1 q.1 (rw4 kd v 0 0), q.2.2.2.2) kq u.1 u.2)) (upd J 7 (nI (q.1 + 1)), updF (updF (updF (updF G 11 (upd (G 11) (4 * q.1) (nI kd))) 11 (upd ((updF G 11 (upd (G 11) (4 * q.1) (nI kd))) 11) ((4 * q.1) + 1) (nI v))) 11 (upd ((updF (updF G 11 (upd (G 11) (4 * q.1) (nI kd))) 11 (upd ((updF G 11 (upd (G 11) (4 * q.1) (nI kd))) 11) ((4 * q.1) + 1) (nI v))) 11) ((4 * q.1) + 2) (nI 0))) 11 (upd ((updF (updF (updF G 11 (upd (G 11) (4 * q.1) (nI kd))) 11 (upd ((updF G 11 (upd (G 11) (4 * q.1) (nI kd))) 11) ((4 * q.1) + 1) (nI v))) 11 (upd ((updF (updF G 11 (upd (G 11) (4 * q.1) (nI kd))) 11 (upd ((updF G 11 (upd (G 11) (4 * q.1) (nI kd))) 11) ((4 * q.1) + 1) (nI v))) 11) ((4 * q.1) + 2) (nI 0))) 11) ((4 * q.1) + 3) (nI 0))) hx hb hr hlocks hK hP hD hS (rfl) (⟨rfl, ⟨⟨rfl, hM.2.1, hM.2.2.1, hM.2.2.2.1, row_new hM.2.2.2.2.1, hM.2.2.2.2.2⟩, hF.2⟩⟩) dX7_tap_113

set_option maxHeartbeats 4000000 in
set_option maxRecDepth 100000 in
theorem c_X7_listenX (l : Launch) (D : va_G) (h : Nat) (g : Nat → Nat) (cI : ClassId) (sz : Nat) (J : Nat → Int32) (hz : Int64) (G : Nat → Nat → Int32) (b : Nat → Nat → Nat) (pn xr xi : Nat) (pc : Nat → Int32) (q kq : RS) (hF : MF b pn xr xi pc q kq J G) (hokz : ¬ q.1 = 0 → hok b) (hT : Tok q) (x : Int32) (ox : ¬ inr x 0 q.1) : WI l yX7_listen (wA yX7_listen cX7_listen 3 (some .int)) ({ frames := 3, cells := 0, slots := 0, locals := 73 }) D (iTys cI) (mW h g cI J hz G) sz [.ref h, .int x] (fun (r : Int32) (u : (Nat → Int32) × (Nat → Nat → Int32)) => r = -101 ∧ MF b pn xr xi pc q kq u.1 u.2) (fun u => mW h g cI u.1 hz u.2) := by
  refine rw_startI (by decide) (Nat.le_of_ble_eq_true rfl) ?_
  intro p e s m args below meth c ls A F hP hK hD hA hS hl
  obtain ⟨hx, hb, hr, hlocks, hml, hown, hts⟩ := F
  have hown : s.vm.findClass RX7 = some m.cls := hown
  have hl : lv_has ls 3 [(0, .ref h), (1, .int x)] := hl
  have hM := hF.1
  have ht5 := hT.1
  have ht8 := hT.2.1
  refine lv_aload_n hx hb dX7_listen_0 rfl (lv_at hl 0 rfl) ?_
  refine lv_iload_n hx hb dX7_listen_1 rfl (lv_at hl 1 rfl) ?_
  refine ro_iV (n := 1) (As := [.int x]) ⟨hx, hb, hml, hown, hts⟩ (c_X7_isTapF l D h g cI J hz G b q hM hT x ox) (cwV 1 hts (gV mg_596 mg_598 mg_1022 mg_8 mg_599) rfl rfl rfl vd_X7_isTap ⟨Nat.le_of_ble_eq_true rfl, Nat.le_of_ble_eq_true rfl⟩) (va_recv hK hP (ci := 7) (q0 := 0) rfl rfl) hK hP rfl hl.1 rfl (Nat.le_of_ble_eq_true rfl) dX7_listen_2 ⟨Nat.zero_le _, Nat.zero_le _⟩ ?_
  refine j_if_ne (tgt := 11) hx hb dX7_listen_5 (by decide) (nI_toInt (by decide)) (fun c_1 => absurd c_1 (by omega)) (fun c_1 => ?_)
  refine lv_bipush (v := (-101)) hx hb dX7_listen_8 (by decide) ?_
  exact rw_iret (wp := (fun u => mW h g cI u.1 hz u.2)) (post := (fun (r : Int32) (u : (Nat → Int32) × (Nat → Nat → Int32)) => r = -101 ∧ MF b pn xr xi pc q kq u.1 u.2)) (J, G) hx hb hr hlocks hK hP hD hS (rfl) (⟨rfl, hF⟩) dX7_listen_10

set_option maxHeartbeats 4000000 in
set_option maxRecDepth 100000 in
theorem c_X7_listenS (l : Launch) (D : va_G) (h : Nat) (g : Nat → Nat) (cI : ClassId) (sz : Nat) (J : Nat → Int32) (hz : Int64) (G : Nat → Nat → Int32) (b : Nat → Nat → Nat) (pn xr xi : Nat) (pc : Nat → Int32) (q kq : RS) (hF : MF b pn xr xi pc q kq J G) (hokz : ¬ q.1 = 0 → hok b) (hT : Tok q) (i : Nat) (hi : i < q.1) (h60 : (q.2.2.2.1 i 3) = 60) : WI l yX7_listen (wA yX7_listen cX7_listen 3 (some .int)) ({ frames := 3, cells := 0, slots := 0, locals := 73 }) D (iTys cI) (mW h g cI J hz G) sz [.ref h, .int (nI i)] (fun (r : Int32) (u : (Nat → Int32) × (Nat → Nat → Int32)) => r = -103 ∧ MF b pn xr xi pc q kq u.1 u.2) (fun u => mW h g cI u.1 hz u.2) := by
  refine rw_startI (by decide) (Nat.le_of_ble_eq_true rfl) ?_
  intro p e s m args below meth c ls A F hP hK hD hA hS hl
  obtain ⟨hx, hb, hr, hlocks, hml, hown, hts⟩ := F
  have hown : s.vm.findClass RX7 = some m.cls := hown
  have hl : lv_has ls 3 [(0, .ref h), (1, .int (nI i))] := hl
  have hM := hF.1
  have ht5 := hT.1
  have ht8 := hT.2.1
  obtain ⟨hk0, hv0, hw0, hp0⟩ := hT.2.2.1 i hi
  have hok9 := hokz (by omega)
  refine lv_aload_n hx hb dX7_listen_0 rfl (lv_at hl 0 rfl) ?_
  refine lv_iload_n hx hb dX7_listen_1 rfl (lv_at hl 1 rfl) ?_
  refine ro_iV (n := 1) (As := [.int (nI i)]) ⟨hx, hb, hml, hown, hts⟩ (c_X7_isTapT l D h g cI J hz G b q hM hT i (by omega)) (cwV 1 hts (gV mg_596 mg_598 mg_1022 mg_8 mg_599) rfl rfl rfl vd_X7_isTap ⟨Nat.le_of_ble_eq_true rfl, Nat.le_of_ble_eq_true rfl⟩) (va_recv hK hP (ci := 7) (q0 := 0) rfl rfl) hK hP rfl hl.1 rfl (Nat.le_of_ble_eq_true rfl) dX7_listen_2 ⟨Nat.zero_le _, Nat.zero_le _⟩ ?_
  refine j_if_ne (tgt := 11) hx hb dX7_listen_5 (by decide) (nI_toInt (by decide)) (fun c_1 => ?_) (fun c_1 => absurd c_1 (by omega))
  refine lv_aload_n hx hb dX7_listen_11 rfl (lv_at hl 0 rfl) ?_
  refine va_get (D := D) (ci := 7) (v := .ref (g 11)) (C := RX7) (T := TX7) (N := 22) hx hb hts iX7 hown hK hP 0 rfl rfl 11 (by decide) (hts _ mg_473) (fun _ h9 => h9) rfl dX7_listen_12 ?_
  refine lv_iconst (v := nI 4) hx hb dX7_listen_15 (by decide) ?_
  refine lv_iload_n hx hb dX7_listen_16 rfl (lv_at hl 1 rfl) ?_
  refine n_imul hx hb dX7_listen_17 ?_
  refine lv_iconst (v := nI 3) hx hb dX7_listen_18 (by decide) ?_
  refine n_iadd hx hb dX7_listen_19 ?_
  refine n_aldi hx hb hK hP 5 0 rfl rfl (by omega) (by decide) (v := nI (q.2.2.2.1 i 3)) (MR_row hM (by omega) (by omega)) dX7_listen_20 ?_
  refine lv_bipush (v := nI 60) hx hb dX7_listen_21 (by decide) ?_
  refine j_icmp_ne (tgt := 29) hx hb dX7_listen_23 (by decide) (nI_toInt (by omega)) (nI_toInt (by decide)) (fun c_2 => absurd c_2 (by omega)) (fun c_2 => ?_)
  refine lv_bipush (v := (-103)) hx hb dX7_listen_26 (by decide) ?_
  exact rw_iret (wp := (fun u => mW h g cI u.1 hz u.2)) (post := (fun (r : Int32) (u : (Nat → Int32) × (Nat → Nat → Int32)) => r = -103 ∧ MF b pn xr xi pc q kq u.1 u.2)) (J, G) hx hb hr hlocks hK hP hD hS (rfl) (⟨rfl, hF⟩) dX7_listen_28

set_option maxHeartbeats 4000000 in
set_option maxRecDepth 100000 in
theorem c_X7_listenI (l : Launch) (D : va_G) (h : Nat) (g : Nat → Nat) (cI : ClassId) (sz : Nat) (J : Nat → Int32) (hz : Int64) (G : Nat → Nat → Int32) (b : Nat → Nat → Nat) (pn xr xi : Nat) (pc : Nat → Int32) (q kq : RS) (hF : MF b pn xr xi pc q kq J G) (hokz : ¬ q.1 = 0 → hok b) (hT : Tok q) (i : Nat) (hi : i < q.1) (h60 : ¬ (q.2.2.2.1 i 3) = 60) : WI l yX7_listen (wA yX7_listen cX7_listen 3 (some .int)) ({ frames := 3, cells := 0, slots := 0, locals := 73 }) D (iTys cI) (mW h g cI J hz G) sz [.ref h, .int (nI i)] (fun (r : Int32) (u : (Nat → Int32) × (Nat → Nat → Int32)) => r = nI (sd b (q.2.2.2.1 i 0) (q.2.2.2.1 i 2) (q.2.2.2.1 i 1) (q.2.2.2.1 i 3)) ∧ MF b pn xr xi pc (q.1, q.2.1, q.2.2.1 + nI 1, upR q.2.2.2.1 i (rw4 (q.2.2.2.1 i 0) (q.2.2.2.1 i 1) (q.2.2.2.1 i 2) ((q.2.2.2.1 i 3) + 1)), q.2.2.2.2) kq u.1 u.2) (fun u => mW h g cI u.1 hz u.2) := by
  refine rw_startI (by decide) (Nat.le_of_ble_eq_true rfl) ?_
  intro p e s m args below meth c ls A F hP hK hD hA hS hl
  obtain ⟨hx, hb, hr, hlocks, hml, hown, hts⟩ := F
  have hown : s.vm.findClass RX7 = some m.cls := hown
  have hl : lv_has ls 3 [(0, .ref h), (1, .int (nI i))] := hl
  have hM := hF.1
  have ht5 := hT.1
  have ht8 := hT.2.1
  obtain ⟨hk0, hv0, hw0, hp0⟩ := hT.2.2.1 i hi
  have hok9 := hokz (by omega)
  refine lv_aload_n hx hb dX7_listen_0 rfl (lv_at hl 0 rfl) ?_
  refine lv_iload_n hx hb dX7_listen_1 rfl (lv_at hl 1 rfl) ?_
  refine ro_iV (n := 1) (As := [.int (nI i)]) ⟨hx, hb, hml, hown, hts⟩ (c_X7_isTapT l D h g cI J hz G b q hM hT i (by omega)) (cwV 1 hts (gV mg_596 mg_598 mg_1022 mg_8 mg_599) rfl rfl rfl vd_X7_isTap ⟨Nat.le_of_ble_eq_true rfl, Nat.le_of_ble_eq_true rfl⟩) (va_recv hK hP (ci := 7) (q0 := 0) rfl rfl) hK hP rfl hl.1 rfl (Nat.le_of_ble_eq_true rfl) dX7_listen_2 ⟨Nat.zero_le _, Nat.zero_le _⟩ ?_
  refine j_if_ne (tgt := 11) hx hb dX7_listen_5 (by decide) (nI_toInt (by decide)) (fun c_1 => ?_) (fun c_1 => absurd c_1 (by omega))
  refine lv_aload_n hx hb dX7_listen_11 rfl (lv_at hl 0 rfl) ?_
  refine va_get (D := D) (ci := 7) (v := .ref (g 11)) (C := RX7) (T := TX7) (N := 22) hx hb hts iX7 hown hK hP 0 rfl rfl 11 (by decide) (hts _ mg_473) (fun _ h9 => h9) rfl dX7_listen_12 ?_
  refine lv_iconst (v := nI 4) hx hb dX7_listen_15 (by decide) ?_
  refine lv_iload_n hx hb dX7_listen_16 rfl (lv_at hl 1 rfl) ?_
  refine n_imul hx hb dX7_listen_17 ?_
  refine lv_iconst (v := nI 3) hx hb dX7_listen_18 (by decide) ?_
  refine n_iadd hx hb dX7_listen_19 ?_
  refine n_aldi hx hb hK hP 5 0 rfl rfl (by omega) (by decide) (v := nI (q.2.2.2.1 i 3)) (MR_row hM (by omega) (by omega)) dX7_listen_20 ?_
  refine lv_bipush (v := nI 60) hx hb dX7_listen_21 (by decide) ?_
  refine j_icmp_ne (tgt := 29) hx hb dX7_listen_23 (by decide) (nI_toInt (by omega)) (nI_toInt (by decide)) (fun c_2 => ?_) (fun c_2 => absurd c_2 (by omega))
  refine lv_aload_n hx hb dX7_listen_29 rfl (lv_at hl 0 rfl) ?_
  refine lv_iload_n hx hb dX7_listen_30 rfl (lv_at hl 1 rfl) ?_
  refine lv_aload_n hx hb dX7_listen_31 rfl (lv_at hl 0 rfl) ?_
  refine va_get (D := D) (ci := 7) (v := .ref (g 11)) (C := RX7) (T := TX7) (N := 22) hx hb hts iX7 hown hK hP 0 rfl rfl 11 (by decide) (hts _ mg_473) (fun _ h9 => h9) rfl dX7_listen_32 ?_
  refine lv_iconst (v := nI 4) hx hb dX7_listen_35 (by decide) ?_
  refine lv_iload_n hx hb dX7_listen_36 rfl (lv_at hl 1 rfl) ?_
  refine n_imul hx hb dX7_listen_37 ?_
  refine lv_iconst (v := nI 3) hx hb dX7_listen_38 (by decide) ?_
  refine n_iadd hx hb dX7_listen_39 ?_
  refine n_aldi hx hb hK hP 5 0 rfl rfl (by omega) (by decide) (v := nI (q.2.2.2.1 i 3)) (MR_row hM (by omega) (by omega)) dX7_listen_40 ?_
  refine ro_iV (n := 2) (As := [.int (nI i), .int (nI (q.2.2.2.1 i 3))]) ⟨hx, hb, hml, hown, hts⟩ (c_X7_dripOf l D h g cI J hz G b q hM hok9 hT i (by omega) (q.2.2.2.1 i 3) (by omega)) (cwV 2 hts (gV mg_645 mg_647 mg_1032 mg_8 mg_648) rfl rfl rfl vd_X7_dripOf ⟨Nat.le_of_ble_eq_true rfl, Nat.le_of_ble_eq_true rfl⟩) (va_recv hK hP (ci := 7) (q0 := 0) rfl rfl) hK hP rfl hl.1 rfl (Nat.le_of_ble_eq_true rfl) dX7_listen_41 ⟨Nat.zero_le _, Nat.zero_le _⟩ ?_
  refine lv_istore_n (lv' := [(2, .int (nI (sd b (q.2.2.2.1 i 0) (q.2.2.2.1 i 2) (q.2.2.2.1 i 1) (q.2.2.2.1 i 3)))), (0, .ref h), (1, .int (nI i))]) hx hb dX7_listen_44 rfl hl (by decide) rfl (fun ls hl => ?_)
  refine lv_aload_n hx hb dX7_listen_45 rfl (lv_at hl 1 rfl) ?_
  refine va_get (D := D) (ci := 7) (v := .ref (g 11)) (C := RX7) (T := TX7) (N := 22) hx hb hts iX7 hown hK hP 0 rfl rfl 11 (by decide) (hts _ mg_473) (fun _ h9 => h9) rfl dX7_listen_46 ?_
  refine lv_iconst (v := nI 4) hx hb dX7_listen_49 (by decide) ?_
  refine lv_iload_n hx hb dX7_listen_50 rfl (lv_at hl 2 rfl) ?_
  refine n_imul hx hb dX7_listen_51 ?_
  refine lv_iconst (v := nI 3) hx hb dX7_listen_52 (by decide) ?_
  refine n_iadd hx hb dX7_listen_53 ?_
  refine lv_dup2_11 hx hb dX7_listen_54 rfl rfl ?_
  refine n_aldi hx hb hK hP 5 0 rfl rfl (by omega) (by decide) (v := nI (q.2.2.2.1 i 3)) (MR_row hM (by omega) (by omega)) dX7_listen_55 ?_
  refine lv_iconst (v := nI 1) hx hb dX7_listen_56 (by decide) ?_
  refine n_iadd hx hb dX7_listen_57 ?_
  refine n_asti hx hb hK hP hD hS 5 0 rfl rfl (by omega) (by decide) dX7_listen_58 (fun H locs hP hD hS => ?_)
  have hP : va_P D vwCl (mW h g cI J hz (updF G 11 (upd (G 11) ((4 * i) + 3) (nI ((q.2.2.2.1 i 3) + 1))))) H := hP
  have hD : va_D A (mW h g cI J hz (updF G 11 (upd (G 11) ((4 * i) + 3) (nI ((q.2.2.2.1 i 3) + 1))))) := hD
  refine lv_aload_n hx hb dX7_listen_59 rfl (lv_at hl 1 rfl) ?_
  refine lv_dup hx hb dX7_listen_60 rfl ?_
  refine va_get (D := D) (ci := 7) (v := .int q.2.2.1) (C := RX7) (T := TX7) (N := 22) hx hb hts iX7 hown hK hP 0 rfl rfl 8 (by decide) (hts _ mg_470) (fun _ h9 => h9) (congrArg (fun z => some (Value.int z)) (MR_8 hM)) dX7_listen_61 ?_
  refine lv_iconst (v := nI 1) hx hb dX7_listen_64 (by decide) ?_
  refine lv_iadd hx hb dX7_listen_65 ?_
  refine va_put (D := D) (ci := 7) (v := .int (q.2.2.1 + (nI 1))) (ty := .int) (C := RX7) (T := TX7) (N := 22) hx hb hts iX7 tyX7 tyX7_ok nmX7 hown hK hP hD hS 0 rfl rfl 8 (by decide) (hts _ mg_470) (fun _ h9 => h9) rfl (tyX7_ok 8 (by decide)) rfl rfl (Nat.le_of_ble_eq_true rfl) dX7_listen_66 (fun H locs hP hD hS => ?_)
  have hP : va_P D vwCl (mW h g cI (upd J 8 (q.2.2.1 + (nI 1))) hz (updF G 11 (upd (G 11) ((4 * i) + 3) (nI ((q.2.2.2.1 i 3) + 1))))) H := hP
  have hD : va_D A (mW h g cI (upd J 8 (q.2.2.1 + (nI 1))) hz (updF G 11 (upd (G 11) ((4 * i) + 3) (nI ((q.2.2.2.1 i 3) + 1))))) := hD
  refine lv_iload_n hx hb dX7_listen_69 rfl (lv_at hl 0 rfl) ?_
  exact rw_iret (wp := (fun u => mW h g cI u.1 hz u.2)) (post := (fun (r : Int32) (u : (Nat → Int32) × (Nat → Nat → Int32)) => r = nI (sd b (q.2.2.2.1 i 0) (q.2.2.2.1 i 2) (q.2.2.2.1 i 1) (q.2.2.2.1 i 3)) ∧ MF b pn xr xi pc (q.1, q.2.1, q.2.2.1 + nI 1, upR q.2.2.2.1 i (rw4 (q.2.2.2.1 i 0) (q.2.2.2.1 i 1) (q.2.2.2.1 i 2) ((q.2.2.2.1 i 3) + 1)), q.2.2.2.2) kq u.1 u.2)) (upd J 8 (q.2.2.1 + (nI 1)), updF G 11 (upd (G 11) ((4 * i) + 3) (nI ((q.2.2.2.1 i 3) + 1)))) hx hb hr hlocks hK hP hD hS (rfl) (⟨rfl, ⟨⟨hM.1, hM.2.1, rfl, hM.2.2.2.1, row_set (t := q.2.2.2.1) (i := i) (k0 := 3) (f := (rw4 (q.2.2.2.1 i 0) (q.2.2.2.1 i 1) (q.2.2.2.1 i 2) ((q.2.2.2.1 i 3) + 1))) hM.2.2.2.2.1 (by decide) rfl (fun k hk hne => by rcases (show k = 0 ∨ k = 1 ∨ k = 2 ∨ k = 3 by omega) with rfl | rfl | rfl | rfl <;> first | rfl | exact absurd rfl hne), hM.2.2.2.2.2⟩, hF.2⟩⟩) dX7_listen_70

set_option maxHeartbeats 4000000 in
set_option maxRecDepth 100000 in
theorem c_X7_washerX0 (l : Launch) (D : va_G) (h : Nat) (g : Nat → Nat) (cI : ClassId) (sz : Nat) (J : Nat → Int32) (hz : Int64) (G : Nat → Nat → Int32) (b : Nat → Nat → Nat) (pn xr xi : Nat) (pc : Nat → Int32) (q kq : RS) (hF : MF b pn xr xi pc q kq J G) (hokz : ¬ q.1 = 0 → hok b) (hT : Tok q) (x : Int32) (ox : ¬ inr x 0 q.1) : WI l yX7_washer (wA yX7_washer cX7_washer 4 (some .int)) ({ frames := 2, cells := 0, slots := 0, locals := 46 }) D (iTys cI) (mW h g cI J hz G) sz [.ref h, .int x, .int (nI 0)] (fun (r : Int32) (u : (Nat → Int32) × (Nat → Nat → Int32)) => r = -101 ∧ MF b pn xr xi pc q kq u.1 u.2) (fun u => mW h g cI u.1 hz u.2) := by
  refine rw_startI (by decide) (Nat.le_of_ble_eq_true rfl) ?_
  intro p e s m args below meth c ls A F hP hK hD hA hS hl
  obtain ⟨hx, hb, hr, hlocks, hml, hown, hts⟩ := F
  have hown : s.vm.findClass RX7 = some m.cls := hown
  have hl : lv_has ls 4 [(0, .ref h), (1, .int x), (2, .int (nI 0))] := hl
  have hM := hF.1
  have ht5 := hT.1
  have ht8 := hT.2.1
  refine lv_aload_n hx hb dX7_washer_0 rfl (lv_at hl 0 rfl) ?_
  refine lv_iload_n hx hb dX7_washer_1 rfl (lv_at hl 1 rfl) ?_
  refine ro_iV (n := 1) (As := [.int x]) ⟨hx, hb, hml, hown, hts⟩ (c_X7_isTapF l D h g cI J hz G b q hM hT x ox) (cwV 1 hts (gV mg_596 mg_598 mg_1022 mg_8 mg_599) rfl rfl rfl vd_X7_isTap ⟨Nat.le_of_ble_eq_true rfl, Nat.le_of_ble_eq_true rfl⟩) (va_recv hK hP (ci := 7) (q0 := 0) rfl rfl) hK hP rfl hl.1 rfl (Nat.le_of_ble_eq_true rfl) dX7_washer_2 ⟨Nat.zero_le _, Nat.zero_le _⟩ ?_
  refine j_if_ne (tgt := 11) hx hb dX7_washer_5 (by decide) (nI_toInt (by decide)) (fun c_1 => absurd c_1 (by omega)) (fun c_1 => ?_)
  refine lv_bipush (v := (-101)) hx hb dX7_washer_8 (by decide) ?_
  exact rw_iret (wp := (fun u => mW h g cI u.1 hz u.2)) (post := (fun (r : Int32) (u : (Nat → Int32) × (Nat → Nat → Int32)) => r = -101 ∧ MF b pn xr xi pc q kq u.1 u.2)) (J, G) hx hb hr hlocks hK hP hD hS (rfl) (⟨rfl, hF⟩) dX7_washer_10

set_option maxHeartbeats 4000000 in
set_option maxRecDepth 100000 in
theorem c_X7_washerX1 (l : Launch) (D : va_G) (h : Nat) (g : Nat → Nat) (cI : ClassId) (sz : Nat) (J : Nat → Int32) (hz : Int64) (G : Nat → Nat → Int32) (b : Nat → Nat → Nat) (pn xr xi : Nat) (pc : Nat → Int32) (q kq : RS) (hF : MF b pn xr xi pc q kq J G) (hokz : ¬ q.1 = 0 → hok b) (hT : Tok q) (x : Int32) (ox : ¬ inr x 0 q.1) : WI l yX7_washer (wA yX7_washer cX7_washer 4 (some .int)) ({ frames := 2, cells := 0, slots := 0, locals := 46 }) D (iTys cI) (mW h g cI J hz G) sz [.ref h, .int x, .int (nI 1)] (fun (r : Int32) (u : (Nat → Int32) × (Nat → Nat → Int32)) => r = -101 ∧ MF b pn xr xi pc q kq u.1 u.2) (fun u => mW h g cI u.1 hz u.2) := by
  refine rw_startI (by decide) (Nat.le_of_ble_eq_true rfl) ?_
  intro p e s m args below meth c ls A F hP hK hD hA hS hl
  obtain ⟨hx, hb, hr, hlocks, hml, hown, hts⟩ := F
  have hown : s.vm.findClass RX7 = some m.cls := hown
  have hl : lv_has ls 4 [(0, .ref h), (1, .int x), (2, .int (nI 1))] := hl
  have hM := hF.1
  have ht5 := hT.1
  have ht8 := hT.2.1
  refine lv_aload_n hx hb dX7_washer_0 rfl (lv_at hl 0 rfl) ?_
  refine lv_iload_n hx hb dX7_washer_1 rfl (lv_at hl 1 rfl) ?_
  refine ro_iV (n := 1) (As := [.int x]) ⟨hx, hb, hml, hown, hts⟩ (c_X7_isTapF l D h g cI J hz G b q hM hT x ox) (cwV 1 hts (gV mg_596 mg_598 mg_1022 mg_8 mg_599) rfl rfl rfl vd_X7_isTap ⟨Nat.le_of_ble_eq_true rfl, Nat.le_of_ble_eq_true rfl⟩) (va_recv hK hP (ci := 7) (q0 := 0) rfl rfl) hK hP rfl hl.1 rfl (Nat.le_of_ble_eq_true rfl) dX7_washer_2 ⟨Nat.zero_le _, Nat.zero_le _⟩ ?_
  refine j_if_ne (tgt := 11) hx hb dX7_washer_5 (by decide) (nI_toInt (by decide)) (fun c_1 => absurd c_1 (by omega)) (fun c_1 => ?_)
  refine lv_bipush (v := (-101)) hx hb dX7_washer_8 (by decide) ?_
  exact rw_iret (wp := (fun u => mW h g cI u.1 hz u.2)) (post := (fun (r : Int32) (u : (Nat → Int32) × (Nat → Nat → Int32)) => r = -101 ∧ MF b pn xr xi pc q kq u.1 u.2)) (J, G) hx hb hr hlocks hK hP hD hS (rfl) (⟨rfl, hF⟩) dX7_washer_10

set_option maxHeartbeats 4000000 in
set_option maxRecDepth 100000 in
theorem c_X7_washerI0 (l : Launch) (D : va_G) (h : Nat) (g : Nat → Nat) (cI : ClassId) (sz : Nat) (J : Nat → Int32) (hz : Int64) (G : Nat → Nat → Int32) (b : Nat → Nat → Nat) (pn xr xi : Nat) (pc : Nat → Int32) (q kq : RS) (hF : MF b pn xr xi pc q kq J G) (hokz : ¬ q.1 = 0 → hok b) (hT : Tok q) (i : Nat) (hi : i < q.1) : WI l yX7_washer (wA yX7_washer cX7_washer 4 (some .int)) ({ frames := 2, cells := 0, slots := 0, locals := 46 }) D (iTys cI) (mW h g cI J hz G) sz [.ref h, .int (nI i), .int (nI 0)] (fun (r : Int32) (u : (Nat → Int32) × (Nat → Nat → Int32)) => r = nI (q.2.2.2.1 i 2) ∧ MF b pn xr xi pc (q.1, q.2.1, q.2.2.1 + nI 1, upR q.2.2.2.1 i (rw4 (q.2.2.2.1 i 0) (q.2.2.2.1 i 1) 0 (q.2.2.2.1 i 3)), q.2.2.2.2) kq u.1 u.2) (fun u => mW h g cI u.1 hz u.2) := by
  refine rw_startI (by decide) (Nat.le_of_ble_eq_true rfl) ?_
  intro p e s m args below meth c ls A F hP hK hD hA hS hl
  obtain ⟨hx, hb, hr, hlocks, hml, hown, hts⟩ := F
  have hown : s.vm.findClass RX7 = some m.cls := hown
  have hl : lv_has ls 4 [(0, .ref h), (1, .int (nI i)), (2, .int (nI 0))] := hl
  have hM := hF.1
  have ht5 := hT.1
  have ht8 := hT.2.1
  obtain ⟨hk0, hv0, hw0, hp0⟩ := hT.2.2.1 i hi
  have hok9 := hokz (by omega)
  refine lv_aload_n hx hb dX7_washer_0 rfl (lv_at hl 0 rfl) ?_
  refine lv_iload_n hx hb dX7_washer_1 rfl (lv_at hl 1 rfl) ?_
  refine ro_iV (n := 1) (As := [.int (nI i)]) ⟨hx, hb, hml, hown, hts⟩ (c_X7_isTapT l D h g cI J hz G b q hM hT i (by omega)) (cwV 1 hts (gV mg_596 mg_598 mg_1022 mg_8 mg_599) rfl rfl rfl vd_X7_isTap ⟨Nat.le_of_ble_eq_true rfl, Nat.le_of_ble_eq_true rfl⟩) (va_recv hK hP (ci := 7) (q0 := 0) rfl rfl) hK hP rfl hl.1 rfl (Nat.le_of_ble_eq_true rfl) dX7_washer_2 ⟨Nat.zero_le _, Nat.zero_le _⟩ ?_
  refine j_if_ne (tgt := 11) hx hb dX7_washer_5 (by decide) (nI_toInt (by decide)) (fun c_1 => ?_) (fun c_1 => absurd c_1 (by omega))
  refine lv_aload_n hx hb dX7_washer_11 rfl (lv_at hl 0 rfl) ?_
  refine va_get (D := D) (ci := 7) (v := .ref (g 11)) (C := RX7) (T := TX7) (N := 22) hx hb hts iX7 hown hK hP 0 rfl rfl 11 (by decide) (hts _ mg_473) (fun _ h9 => h9) rfl dX7_washer_12 ?_
  refine lv_iconst (v := nI 4) hx hb dX7_washer_15 (by decide) ?_
  refine lv_iload_n hx hb dX7_washer_16 rfl (lv_at hl 1 rfl) ?_
  refine n_imul hx hb dX7_washer_17 ?_
  refine lv_iconst (v := nI 2) hx hb dX7_washer_18 (by decide) ?_
  refine n_iadd hx hb dX7_washer_19 ?_
  refine n_aldi hx hb hK hP 5 0 rfl rfl (by omega) (by decide) (v := nI (q.2.2.2.1 i 2)) (MR_row hM (by omega) (by omega)) dX7_washer_20 ?_
  refine lv_istore_n (lv' := [(3, .int (nI (q.2.2.2.1 i 2))), (0, .ref h), (1, .int (nI i)), (2, .int (nI 0))]) hx hb dX7_washer_21 rfl hl (by decide) rfl (fun ls hl => ?_)
  refine lv_aload_n hx hb dX7_washer_22 rfl (lv_at hl 1 rfl) ?_
  refine va_get (D := D) (ci := 7) (v := .ref (g 11)) (C := RX7) (T := TX7) (N := 22) hx hb hts iX7 hown hK hP 0 rfl rfl 11 (by decide) (hts _ mg_473) (fun _ h9 => h9) rfl dX7_washer_23 ?_
  refine lv_iconst (v := nI 4) hx hb dX7_washer_26 (by decide) ?_
  refine lv_iload_n hx hb dX7_washer_27 rfl (lv_at hl 2 rfl) ?_
  refine n_imul hx hb dX7_washer_28 ?_
  refine lv_iconst (v := nI 2) hx hb dX7_washer_29 (by decide) ?_
  refine n_iadd hx hb dX7_washer_30 ?_
  refine lv_iload_n hx hb dX7_washer_31 rfl (lv_at hl 3 rfl) ?_
  refine j_if_eq (tgt := 39) hx hb dX7_washer_32 (by decide) (nI_toInt (by decide)) (fun c_2 => ?_) (fun c_2 => absurd c_2 (by omega))
  refine lv_iconst (v := nI 0) hx hb dX7_washer_39 (by decide) ?_
  refine n_asti hx hb hK hP hD hS 5 0 rfl rfl (by omega) (by decide) dX7_washer_40 (fun H locs hP hD hS => ?_)
  have hP : va_P D vwCl (mW h g cI J hz (updF G 11 (upd (G 11) ((4 * i) + 2) (nI 0)))) H := hP
  have hD : va_D A (mW h g cI J hz (updF G 11 (upd (G 11) ((4 * i) + 2) (nI 0)))) := hD
  refine lv_aload_n hx hb dX7_washer_41 rfl (lv_at hl 1 rfl) ?_
  refine lv_dup hx hb dX7_washer_42 rfl ?_
  refine va_get (D := D) (ci := 7) (v := .int q.2.2.1) (C := RX7) (T := TX7) (N := 22) hx hb hts iX7 hown hK hP 0 rfl rfl 8 (by decide) (hts _ mg_470) (fun _ h9 => h9) (congrArg (fun z => some (Value.int z)) (MR_8 hM)) dX7_washer_43 ?_
  refine lv_iconst (v := nI 1) hx hb dX7_washer_46 (by decide) ?_
  refine lv_iadd hx hb dX7_washer_47 ?_
  refine va_put (D := D) (ci := 7) (v := .int (q.2.2.1 + (nI 1))) (ty := .int) (C := RX7) (T := TX7) (N := 22) hx hb hts iX7 tyX7 tyX7_ok nmX7 hown hK hP hD hS 0 rfl rfl 8 (by decide) (hts _ mg_470) (fun _ h9 => h9) rfl (tyX7_ok 8 (by decide)) rfl rfl (Nat.le_of_ble_eq_true rfl) dX7_washer_48 (fun H locs hP hD hS => ?_)
  have hP : va_P D vwCl (mW h g cI (upd J 8 (q.2.2.1 + (nI 1))) hz (updF G 11 (upd (G 11) ((4 * i) + 2) (nI 0)))) H := hP
  have hD : va_D A (mW h g cI (upd J 8 (q.2.2.1 + (nI 1))) hz (updF G 11 (upd (G 11) ((4 * i) + 2) (nI 0)))) := hD
  refine lv_iload_n hx hb dX7_washer_51 rfl (lv_at hl 0 rfl) ?_
  exact rw_iret (wp := (fun u => mW h g cI u.1 hz u.2)) (post := (fun (r : Int32) (u : (Nat → Int32) × (Nat → Nat → Int32)) => r = nI (q.2.2.2.1 i 2) ∧ MF b pn xr xi pc (q.1, q.2.1, q.2.2.1 + nI 1, upR q.2.2.2.1 i (rw4 (q.2.2.2.1 i 0) (q.2.2.2.1 i 1) 0 (q.2.2.2.1 i 3)), q.2.2.2.2) kq u.1 u.2)) (upd J 8 (q.2.2.1 + (nI 1)), updF G 11 (upd (G 11) ((4 * i) + 2) (nI 0))) hx hb hr hlocks hK hP hD hS (rfl) (⟨rfl, ⟨⟨hM.1, hM.2.1, rfl, hM.2.2.2.1, row_set (t := q.2.2.2.1) (i := i) (k0 := 2) (f := (rw4 (q.2.2.2.1 i 0) (q.2.2.2.1 i 1) 0 (q.2.2.2.1 i 3))) hM.2.2.2.2.1 (by decide) rfl (fun k hk hne => by rcases (show k = 0 ∨ k = 1 ∨ k = 2 ∨ k = 3 by omega) with rfl | rfl | rfl | rfl <;> first | rfl | exact absurd rfl hne), hM.2.2.2.2.2⟩, hF.2⟩⟩) dX7_washer_52

set_option maxHeartbeats 4000000 in
set_option maxRecDepth 100000 in
theorem c_X7_washerI1 (l : Launch) (D : va_G) (h : Nat) (g : Nat → Nat) (cI : ClassId) (sz : Nat) (J : Nat → Int32) (hz : Int64) (G : Nat → Nat → Int32) (b : Nat → Nat → Nat) (pn xr xi : Nat) (pc : Nat → Int32) (q kq : RS) (hF : MF b pn xr xi pc q kq J G) (hokz : ¬ q.1 = 0 → hok b) (hT : Tok q) (i : Nat) (hi : i < q.1) : WI l yX7_washer (wA yX7_washer cX7_washer 4 (some .int)) ({ frames := 2, cells := 0, slots := 0, locals := 46 }) D (iTys cI) (mW h g cI J hz G) sz [.ref h, .int (nI i), .int (nI 1)] (fun (r : Int32) (u : (Nat → Int32) × (Nat → Nat → Int32)) => r = nI (q.2.2.2.1 i 2) ∧ MF b pn xr xi pc (q.1, q.2.1, q.2.2.1 + nI 1, upR q.2.2.2.1 i (rw4 (q.2.2.2.1 i 0) (q.2.2.2.1 i 1) 1 (q.2.2.2.1 i 3)), q.2.2.2.2) kq u.1 u.2) (fun u => mW h g cI u.1 hz u.2) := by
  refine rw_startI (by decide) (Nat.le_of_ble_eq_true rfl) ?_
  intro p e s m args below meth c ls A F hP hK hD hA hS hl
  obtain ⟨hx, hb, hr, hlocks, hml, hown, hts⟩ := F
  have hown : s.vm.findClass RX7 = some m.cls := hown
  have hl : lv_has ls 4 [(0, .ref h), (1, .int (nI i)), (2, .int (nI 1))] := hl
  have hM := hF.1
  have ht5 := hT.1
  have ht8 := hT.2.1
  obtain ⟨hk0, hv0, hw0, hp0⟩ := hT.2.2.1 i hi
  have hok9 := hokz (by omega)
  refine lv_aload_n hx hb dX7_washer_0 rfl (lv_at hl 0 rfl) ?_
  refine lv_iload_n hx hb dX7_washer_1 rfl (lv_at hl 1 rfl) ?_
  refine ro_iV (n := 1) (As := [.int (nI i)]) ⟨hx, hb, hml, hown, hts⟩ (c_X7_isTapT l D h g cI J hz G b q hM hT i (by omega)) (cwV 1 hts (gV mg_596 mg_598 mg_1022 mg_8 mg_599) rfl rfl rfl vd_X7_isTap ⟨Nat.le_of_ble_eq_true rfl, Nat.le_of_ble_eq_true rfl⟩) (va_recv hK hP (ci := 7) (q0 := 0) rfl rfl) hK hP rfl hl.1 rfl (Nat.le_of_ble_eq_true rfl) dX7_washer_2 ⟨Nat.zero_le _, Nat.zero_le _⟩ ?_
  refine j_if_ne (tgt := 11) hx hb dX7_washer_5 (by decide) (nI_toInt (by decide)) (fun c_1 => ?_) (fun c_1 => absurd c_1 (by omega))
  refine lv_aload_n hx hb dX7_washer_11 rfl (lv_at hl 0 rfl) ?_
  refine va_get (D := D) (ci := 7) (v := .ref (g 11)) (C := RX7) (T := TX7) (N := 22) hx hb hts iX7 hown hK hP 0 rfl rfl 11 (by decide) (hts _ mg_473) (fun _ h9 => h9) rfl dX7_washer_12 ?_
  refine lv_iconst (v := nI 4) hx hb dX7_washer_15 (by decide) ?_
  refine lv_iload_n hx hb dX7_washer_16 rfl (lv_at hl 1 rfl) ?_
  refine n_imul hx hb dX7_washer_17 ?_
  refine lv_iconst (v := nI 2) hx hb dX7_washer_18 (by decide) ?_
  refine n_iadd hx hb dX7_washer_19 ?_
  refine n_aldi hx hb hK hP 5 0 rfl rfl (by omega) (by decide) (v := nI (q.2.2.2.1 i 2)) (MR_row hM (by omega) (by omega)) dX7_washer_20 ?_
  refine lv_istore_n (lv' := [(3, .int (nI (q.2.2.2.1 i 2))), (0, .ref h), (1, .int (nI i)), (2, .int (nI 1))]) hx hb dX7_washer_21 rfl hl (by decide) rfl (fun ls hl => ?_)
  refine lv_aload_n hx hb dX7_washer_22 rfl (lv_at hl 1 rfl) ?_
  refine va_get (D := D) (ci := 7) (v := .ref (g 11)) (C := RX7) (T := TX7) (N := 22) hx hb hts iX7 hown hK hP 0 rfl rfl 11 (by decide) (hts _ mg_473) (fun _ h9 => h9) rfl dX7_washer_23 ?_
  refine lv_iconst (v := nI 4) hx hb dX7_washer_26 (by decide) ?_
  refine lv_iload_n hx hb dX7_washer_27 rfl (lv_at hl 2 rfl) ?_
  refine n_imul hx hb dX7_washer_28 ?_
  refine lv_iconst (v := nI 2) hx hb dX7_washer_29 (by decide) ?_
  refine n_iadd hx hb dX7_washer_30 ?_
  refine lv_iload_n hx hb dX7_washer_31 rfl (lv_at hl 3 rfl) ?_
  refine j_if_eq (tgt := 39) hx hb dX7_washer_32 (by decide) (nI_toInt (by decide)) (fun c_2 => absurd c_2 (by omega)) (fun c_2 => ?_)
  refine lv_iconst (v := nI 1) hx hb dX7_washer_35 (by decide) ?_
  refine lv_goto (tgt := 40) hx hb dX7_washer_36 (by decide) ?_
  refine n_asti hx hb hK hP hD hS 5 0 rfl rfl (by omega) (by decide) dX7_washer_40 (fun H locs hP hD hS => ?_)
  have hP : va_P D vwCl (mW h g cI J hz (updF G 11 (upd (G 11) ((4 * i) + 2) (nI 1)))) H := hP
  have hD : va_D A (mW h g cI J hz (updF G 11 (upd (G 11) ((4 * i) + 2) (nI 1)))) := hD
  refine lv_aload_n hx hb dX7_washer_41 rfl (lv_at hl 1 rfl) ?_
  refine lv_dup hx hb dX7_washer_42 rfl ?_
  refine va_get (D := D) (ci := 7) (v := .int q.2.2.1) (C := RX7) (T := TX7) (N := 22) hx hb hts iX7 hown hK hP 0 rfl rfl 8 (by decide) (hts _ mg_470) (fun _ h9 => h9) (congrArg (fun z => some (Value.int z)) (MR_8 hM)) dX7_washer_43 ?_
  refine lv_iconst (v := nI 1) hx hb dX7_washer_46 (by decide) ?_
  refine lv_iadd hx hb dX7_washer_47 ?_
  refine va_put (D := D) (ci := 7) (v := .int (q.2.2.1 + (nI 1))) (ty := .int) (C := RX7) (T := TX7) (N := 22) hx hb hts iX7 tyX7 tyX7_ok nmX7 hown hK hP hD hS 0 rfl rfl 8 (by decide) (hts _ mg_470) (fun _ h9 => h9) rfl (tyX7_ok 8 (by decide)) rfl rfl (Nat.le_of_ble_eq_true rfl) dX7_washer_48 (fun H locs hP hD hS => ?_)
  have hP : va_P D vwCl (mW h g cI (upd J 8 (q.2.2.1 + (nI 1))) hz (updF G 11 (upd (G 11) ((4 * i) + 2) (nI 1)))) H := hP
  have hD : va_D A (mW h g cI (upd J 8 (q.2.2.1 + (nI 1))) hz (updF G 11 (upd (G 11) ((4 * i) + 2) (nI 1)))) := hD
  refine lv_iload_n hx hb dX7_washer_51 rfl (lv_at hl 0 rfl) ?_
  exact rw_iret (wp := (fun u => mW h g cI u.1 hz u.2)) (post := (fun (r : Int32) (u : (Nat → Int32) × (Nat → Nat → Int32)) => r = nI (q.2.2.2.1 i 2) ∧ MF b pn xr xi pc (q.1, q.2.1, q.2.2.1 + nI 1, upR q.2.2.2.1 i (rw4 (q.2.2.2.1 i 0) (q.2.2.2.1 i 1) 1 (q.2.2.2.1 i 3)), q.2.2.2.2) kq u.1 u.2)) (upd J 8 (q.2.2.1 + (nI 1)), updF G 11 (upd (G 11) ((4 * i) + 2) (nI 1))) hx hb hr hlocks hK hP hD hS (rfl) (⟨rfl, ⟨⟨hM.1, hM.2.1, rfl, hM.2.2.2.1, row_set (t := q.2.2.2.1) (i := i) (k0 := 2) (f := (rw4 (q.2.2.2.1 i 0) (q.2.2.2.1 i 1) 1 (q.2.2.2.1 i 3))) hM.2.2.2.2.1 (by decide) rfl (fun k hk hne => by rcases (show k = 0 ∨ k = 1 ∨ k = 2 ∨ k = 3 by omega) with rfl | rfl | rfl | rfl <;> first | rfl | exact absurd rfl hne), hM.2.2.2.2.2⟩, hF.2⟩⟩) dX7_washer_52

set_option maxHeartbeats 4000000 in
set_option maxRecDepth 100000 in
theorem c_X7_teachX (l : Launch) (D : va_G) (h : Nat) (g : Nat → Nat) (cI : ClassId) (sz : Nat) (J : Nat → Int32) (hz : Int64) (G : Nat → Nat → Int32) (b : Nat → Nat → Nat) (pn xr xi : Nat) (pc : Nat → Int32) (q kq : RS) (hF : MF b pn xr xi pc q kq J G) (hokz : ¬ q.1 = 0 → hok b) (hT : Tok q) (x w : Int32) (ox : ¬ inr x 0 q.1) : WI l yX7_teach (wA yX7_teach cX7_teach 4 (some .int)) ({ frames := 2, cells := 0, slots := 0, locals := 46 }) D (iTys cI) (mW h g cI J hz G) sz [.ref h, .int x, .int w] (fun (r : Int32) (u : (Nat → Int32) × (Nat → Nat → Int32)) => r = -101 ∧ MF b pn xr xi pc q kq u.1 u.2) (fun u => mW h g cI u.1 hz u.2) := by
  refine rw_startI (by decide) (Nat.le_of_ble_eq_true rfl) ?_
  intro p e s m args below meth c ls A F hP hK hD hA hS hl
  obtain ⟨hx, hb, hr, hlocks, hml, hown, hts⟩ := F
  have hown : s.vm.findClass RX7 = some m.cls := hown
  have hl : lv_has ls 4 [(0, .ref h), (1, .int x), (2, .int w)] := hl
  have hM := hF.1
  have ht5 := hT.1
  have ht8 := hT.2.1
  refine lv_aload_n hx hb dX7_teach_0 rfl (lv_at hl 0 rfl) ?_
  refine lv_iload_n hx hb dX7_teach_1 rfl (lv_at hl 1 rfl) ?_
  refine ro_iV (n := 1) (As := [.int x]) ⟨hx, hb, hml, hown, hts⟩ (c_X7_isTapF l D h g cI J hz G b q hM hT x ox) (cwV 1 hts (gV mg_596 mg_598 mg_1022 mg_8 mg_599) rfl rfl rfl vd_X7_isTap ⟨Nat.le_of_ble_eq_true rfl, Nat.le_of_ble_eq_true rfl⟩) (va_recv hK hP (ci := 7) (q0 := 0) rfl rfl) hK hP rfl hl.1 rfl (Nat.le_of_ble_eq_true rfl) dX7_teach_2 ⟨Nat.zero_le _, Nat.zero_le _⟩ ?_
  refine j_if_ne (tgt := 11) hx hb dX7_teach_5 (by decide) (nI_toInt (by decide)) (fun c_1 => absurd c_1 (by omega)) (fun c_1 => ?_)
  refine lv_bipush (v := (-101)) hx hb dX7_teach_8 (by decide) ?_
  exact rw_iret (wp := (fun u => mW h g cI u.1 hz u.2)) (post := (fun (r : Int32) (u : (Nat → Int32) × (Nat → Nat → Int32)) => r = -101 ∧ MF b pn xr xi pc q kq u.1 u.2)) (J, G) hx hb hr hlocks hK hP hD hS (rfl) (⟨rfl, hF⟩) dX7_teach_10

set_option maxHeartbeats 4000000 in
set_option maxRecDepth 100000 in
theorem c_X7_teachO (l : Launch) (D : va_G) (h : Nat) (g : Nat → Nat) (cI : ClassId) (sz : Nat) (J : Nat → Int32) (hz : Int64) (G : Nat → Nat → Int32) (b : Nat → Nat → Nat) (pn xr xi : Nat) (pc : Nat → Int32) (q kq : RS) (hF : MF b pn xr xi pc q kq J G) (hokz : ¬ q.1 = 0 → hok b) (hT : Tok q) (i : Nat) (hi : i < q.1) (w : Int32) (ow : ¬ inr w 0 4) : WI l yX7_teach (wA yX7_teach cX7_teach 4 (some .int)) ({ frames := 2, cells := 0, slots := 0, locals := 46 }) D (iTys cI) (mW h g cI J hz G) sz [.ref h, .int (nI i), .int w] (fun (r : Int32) (u : (Nat → Int32) × (Nat → Nat → Int32)) => r = -102 ∧ MF b pn xr xi pc q kq u.1 u.2) (fun u => mW h g cI u.1 hz u.2) := by
  refine rw_startI (by decide) (Nat.le_of_ble_eq_true rfl) ?_
  intro p e s m args below meth c ls A F hP hK hD hA hS hl
  obtain ⟨hx, hb, hr, hlocks, hml, hown, hts⟩ := F
  have hown : s.vm.findClass RX7 = some m.cls := hown
  have hl : lv_has ls 4 [(0, .ref h), (1, .int (nI i)), (2, .int w)] := hl
  have hM := hF.1
  have ht5 := hT.1
  have ht8 := hT.2.1
  have hok9 := hokz (by omega)
  refine lv_aload_n hx hb dX7_teach_0 rfl (lv_at hl 0 rfl) ?_
  refine lv_iload_n hx hb dX7_teach_1 rfl (lv_at hl 1 rfl) ?_
  refine ro_iV (n := 1) (As := [.int (nI i)]) ⟨hx, hb, hml, hown, hts⟩ (c_X7_isTapT l D h g cI J hz G b q hM hT i (by omega)) (cwV 1 hts (gV mg_596 mg_598 mg_1022 mg_8 mg_599) rfl rfl rfl vd_X7_isTap ⟨Nat.le_of_ble_eq_true rfl, Nat.le_of_ble_eq_true rfl⟩) (va_recv hK hP (ci := 7) (q0 := 0) rfl rfl) hK hP rfl hl.1 rfl (Nat.le_of_ble_eq_true rfl) dX7_teach_2 ⟨Nat.zero_le _, Nat.zero_le _⟩ ?_
  refine j_if_ne (tgt := 11) hx hb dX7_teach_5 (by decide) (nI_toInt (by decide)) (fun c_1 => ?_) (fun c_1 => absurd c_1 (by omega))
  refine lv_iload_n hx hb dX7_teach_11 rfl (lv_at hl 2 rfl) ?_
  refine ro_iS (n := 1) (As := [.int w]) ⟨hx, hb, hml, hown, hts⟩ (c_X7_isSayingF l D w (inr_out ow)) (cwS 1 hts (gS mg_577 mg_578 mg_8 mg_579) rfl rfl rfl vd_X7_isSaying ⟨Nat.le_of_ble_eq_true rfl, Nat.le_of_ble_eq_true rfl⟩)  (hK.sub [] rfl) (fun k q h => by simp at h) rfl hl.1 rfl (Nat.le_of_ble_eq_true rfl) dX7_teach_12 ⟨Nat.zero_le _, Nat.zero_le _⟩ ?_
  refine j_if_ne (tgt := 21) hx hb dX7_teach_15 (by decide) (nI_toInt (by decide)) (fun c_2 => absurd c_2 (by omega)) (fun c_2 => ?_)
  refine lv_bipush (v := (-102)) hx hb dX7_teach_18 (by decide) ?_
  exact rw_iret (wp := (fun u => mW h g cI u.1 hz u.2)) (post := (fun (r : Int32) (u : (Nat → Int32) × (Nat → Nat → Int32)) => r = -102 ∧ MF b pn xr xi pc q kq u.1 u.2)) (J, G) hx hb hr hlocks hK hP hD hS (rfl) (⟨rfl, hF⟩) dX7_teach_20

set_option maxHeartbeats 4000000 in
set_option maxRecDepth 100000 in
theorem c_X7_teachI (l : Launch) (D : va_G) (h : Nat) (g : Nat → Nat) (cI : ClassId) (sz : Nat) (J : Nat → Int32) (hz : Int64) (G : Nat → Nat → Int32) (b : Nat → Nat → Nat) (pn xr xi : Nat) (pc : Nat → Int32) (q kq : RS) (hF : MF b pn xr xi pc q kq J G) (hokz : ¬ q.1 = 0 → hok b) (hT : Tok q) (i : Nat) (hi : i < q.1) (v : Nat) (hv : v < 4) : WI l yX7_teach (wA yX7_teach cX7_teach 4 (some .int)) ({ frames := 2, cells := 0, slots := 0, locals := 46 }) D (iTys cI) (mW h g cI J hz G) sz [.ref h, .int (nI i), .int (nI v)] (fun (r : Int32) (u : (Nat → Int32) × (Nat → Nat → Int32)) => r = nI (q.2.2.2.1 i 1) ∧ MF b pn xr xi pc (q.1, q.2.1, q.2.2.1 + nI 1, upR q.2.2.2.1 i (rw4 (q.2.2.2.1 i 0) v (q.2.2.2.1 i 2) (q.2.2.2.1 i 3)), q.2.2.2.2) kq u.1 u.2) (fun u => mW h g cI u.1 hz u.2) := by
  refine rw_startI (by decide) (Nat.le_of_ble_eq_true rfl) ?_
  intro p e s m args below meth c ls A F hP hK hD hA hS hl
  obtain ⟨hx, hb, hr, hlocks, hml, hown, hts⟩ := F
  have hown : s.vm.findClass RX7 = some m.cls := hown
  have hl : lv_has ls 4 [(0, .ref h), (1, .int (nI i)), (2, .int (nI v))] := hl
  have hM := hF.1
  have ht5 := hT.1
  have ht8 := hT.2.1
  obtain ⟨hk0, hv0, hw0, hp0⟩ := hT.2.2.1 i hi
  have hok9 := hokz (by omega)
  refine lv_aload_n hx hb dX7_teach_0 rfl (lv_at hl 0 rfl) ?_
  refine lv_iload_n hx hb dX7_teach_1 rfl (lv_at hl 1 rfl) ?_
  refine ro_iV (n := 1) (As := [.int (nI i)]) ⟨hx, hb, hml, hown, hts⟩ (c_X7_isTapT l D h g cI J hz G b q hM hT i (by omega)) (cwV 1 hts (gV mg_596 mg_598 mg_1022 mg_8 mg_599) rfl rfl rfl vd_X7_isTap ⟨Nat.le_of_ble_eq_true rfl, Nat.le_of_ble_eq_true rfl⟩) (va_recv hK hP (ci := 7) (q0 := 0) rfl rfl) hK hP rfl hl.1 rfl (Nat.le_of_ble_eq_true rfl) dX7_teach_2 ⟨Nat.zero_le _, Nat.zero_le _⟩ ?_
  refine j_if_ne (tgt := 11) hx hb dX7_teach_5 (by decide) (nI_toInt (by decide)) (fun c_1 => ?_) (fun c_1 => absurd c_1 (by omega))
  refine lv_iload_n hx hb dX7_teach_11 rfl (lv_at hl 2 rfl) ?_
  refine ro_iS (n := 1) (As := [.int (nI v)]) ⟨hx, hb, hml, hown, hts⟩ (c_X7_isSayingT l D (nI v) (by rw [nI_toInt (by omega)]; omega)) (cwS 1 hts (gS mg_577 mg_578 mg_8 mg_579) rfl rfl rfl vd_X7_isSaying ⟨Nat.le_of_ble_eq_true rfl, Nat.le_of_ble_eq_true rfl⟩)  (hK.sub [] rfl) (fun k q h => by simp at h) rfl hl.1 rfl (Nat.le_of_ble_eq_true rfl) dX7_teach_12 ⟨Nat.zero_le _, Nat.zero_le _⟩ ?_
  refine j_if_ne (tgt := 21) hx hb dX7_teach_15 (by decide) (nI_toInt (by decide)) (fun c_2 => ?_) (fun c_2 => absurd c_2 (by omega))
  refine lv_aload_n hx hb dX7_teach_21 rfl (lv_at hl 0 rfl) ?_
  refine va_get (D := D) (ci := 7) (v := .ref (g 11)) (C := RX7) (T := TX7) (N := 22) hx hb hts iX7 hown hK hP 0 rfl rfl 11 (by decide) (hts _ mg_473) (fun _ h9 => h9) rfl dX7_teach_22 ?_
  refine lv_iconst (v := nI 4) hx hb dX7_teach_25 (by decide) ?_
  refine lv_iload_n hx hb dX7_teach_26 rfl (lv_at hl 1 rfl) ?_
  refine n_imul hx hb dX7_teach_27 ?_
  refine lv_iconst (v := nI 1) hx hb dX7_teach_28 (by decide) ?_
  refine n_iadd hx hb dX7_teach_29 ?_
  refine n_aldi hx hb hK hP 5 0 rfl rfl (by omega) (by decide) (v := nI (q.2.2.2.1 i 1)) (MR_row hM (by omega) (by omega)) dX7_teach_30 ?_
  refine lv_istore_n (lv' := [(3, .int (nI (q.2.2.2.1 i 1))), (0, .ref h), (1, .int (nI i)), (2, .int (nI v))]) hx hb dX7_teach_31 rfl hl (by decide) rfl (fun ls hl => ?_)
  refine lv_aload_n hx hb dX7_teach_32 rfl (lv_at hl 1 rfl) ?_
  refine va_get (D := D) (ci := 7) (v := .ref (g 11)) (C := RX7) (T := TX7) (N := 22) hx hb hts iX7 hown hK hP 0 rfl rfl 11 (by decide) (hts _ mg_473) (fun _ h9 => h9) rfl dX7_teach_33 ?_
  refine lv_iconst (v := nI 4) hx hb dX7_teach_36 (by decide) ?_
  refine lv_iload_n hx hb dX7_teach_37 rfl (lv_at hl 2 rfl) ?_
  refine n_imul hx hb dX7_teach_38 ?_
  refine lv_iconst (v := nI 1) hx hb dX7_teach_39 (by decide) ?_
  refine n_iadd hx hb dX7_teach_40 ?_
  refine lv_iload_n hx hb dX7_teach_41 rfl (lv_at hl 3 rfl) ?_
  refine n_asti hx hb hK hP hD hS 5 0 rfl rfl (by omega) (by decide) dX7_teach_42 (fun H locs hP hD hS => ?_)
  have hP : va_P D vwCl (mW h g cI J hz (updF G 11 (upd (G 11) ((4 * i) + 1) (nI v)))) H := hP
  have hD : va_D A (mW h g cI J hz (updF G 11 (upd (G 11) ((4 * i) + 1) (nI v)))) := hD
  refine lv_aload_n hx hb dX7_teach_43 rfl (lv_at hl 1 rfl) ?_
  refine lv_dup hx hb dX7_teach_44 rfl ?_
  refine va_get (D := D) (ci := 7) (v := .int q.2.2.1) (C := RX7) (T := TX7) (N := 22) hx hb hts iX7 hown hK hP 0 rfl rfl 8 (by decide) (hts _ mg_470) (fun _ h9 => h9) (congrArg (fun z => some (Value.int z)) (MR_8 hM)) dX7_teach_45 ?_
  refine lv_iconst (v := nI 1) hx hb dX7_teach_48 (by decide) ?_
  refine lv_iadd hx hb dX7_teach_49 ?_
  refine va_put (D := D) (ci := 7) (v := .int (q.2.2.1 + (nI 1))) (ty := .int) (C := RX7) (T := TX7) (N := 22) hx hb hts iX7 tyX7 tyX7_ok nmX7 hown hK hP hD hS 0 rfl rfl 8 (by decide) (hts _ mg_470) (fun _ h9 => h9) rfl (tyX7_ok 8 (by decide)) rfl rfl (Nat.le_of_ble_eq_true rfl) dX7_teach_50 (fun H locs hP hD hS => ?_)
  have hP : va_P D vwCl (mW h g cI (upd J 8 (q.2.2.1 + (nI 1))) hz (updF G 11 (upd (G 11) ((4 * i) + 1) (nI v)))) H := hP
  have hD : va_D A (mW h g cI (upd J 8 (q.2.2.1 + (nI 1))) hz (updF G 11 (upd (G 11) ((4 * i) + 1) (nI v)))) := hD
  refine lv_iload_n hx hb dX7_teach_53 rfl (lv_at hl 0 rfl) ?_
  exact rw_iret (wp := (fun u => mW h g cI u.1 hz u.2)) (post := (fun (r : Int32) (u : (Nat → Int32) × (Nat → Nat → Int32)) => r = nI (q.2.2.2.1 i 1) ∧ MF b pn xr xi pc (q.1, q.2.1, q.2.2.1 + nI 1, upR q.2.2.2.1 i (rw4 (q.2.2.2.1 i 0) v (q.2.2.2.1 i 2) (q.2.2.2.1 i 3)), q.2.2.2.2) kq u.1 u.2)) (upd J 8 (q.2.2.1 + (nI 1)), updF G 11 (upd (G 11) ((4 * i) + 1) (nI v))) hx hb hr hlocks hK hP hD hS (rfl) (⟨rfl, ⟨⟨hM.1, hM.2.1, rfl, hM.2.2.2.1, row_set (t := q.2.2.2.1) (i := i) (k0 := 1) (f := (rw4 (q.2.2.2.1 i 0) v (q.2.2.2.1 i 2) (q.2.2.2.1 i 3))) hM.2.2.2.2.1 (by decide) rfl (fun k hk hne => by rcases (show k = 0 ∨ k = 1 ∨ k = 2 ∨ k = 3 by omega) with rfl | rfl | rfl | rfl <;> first | rfl | exact absurd rfl hne), hM.2.2.2.2.2⟩, hF.2⟩⟩) dX7_teach_54

set_option maxHeartbeats 4000000 in
set_option maxRecDepth 100000 in
theorem c_X7_putX0 (l : Launch) (D : va_G) (h : Nat) (g : Nat → Nat) (cI : ClassId) (sz : Nat) (J : Nat → Int32) (hz : Int64) (G : Nat → Nat → Int32) (b : Nat → Nat → Nat) (pn xr xi : Nat) (pc : Nat → Int32) (q kq : RS) (hF : MF b pn xr xi pc q kq J G) (hokz : ¬ q.1 = 0 → hok b) (hT : Tok q) (x w : Int32) (ox : ¬ inr x 0 q.1) : WI l yX7_put (wA yX7_put cX7_put 4 (some .int)) ({ frames := 2, cells := 0, slots := 0, locals := 46 }) D (iTys cI) (mW h g cI J hz G) sz [.ref h, .int x, .int w, .int (nI 0)] (fun (r : Int32) (u : (Nat → Int32) × (Nat → Nat → Int32)) => r = -101 ∧ MF b pn xr xi pc q kq u.1 u.2) (fun u => mW h g cI u.1 hz u.2) := by
  refine rw_startI (by decide) (Nat.le_of_ble_eq_true rfl) ?_
  intro p e s m args below meth c ls A F hP hK hD hA hS hl
  obtain ⟨hx, hb, hr, hlocks, hml, hown, hts⟩ := F
  have hown : s.vm.findClass RX7 = some m.cls := hown
  have hl : lv_has ls 4 [(0, .ref h), (1, .int x), (2, .int w), (3, .int (nI 0))] := hl
  have hM := hF.1
  have ht5 := hT.1
  have ht8 := hT.2.1
  refine lv_aload_n hx hb dX7_put_0 rfl (lv_at hl 0 rfl) ?_
  refine lv_iload_n hx hb dX7_put_1 rfl (lv_at hl 1 rfl) ?_
  refine ro_iV (n := 1) (As := [.int x]) ⟨hx, hb, hml, hown, hts⟩ (c_X7_isTapF l D h g cI J hz G b q hM hT x ox) (cwV 1 hts (gV mg_596 mg_598 mg_1022 mg_8 mg_599) rfl rfl rfl vd_X7_isTap ⟨Nat.le_of_ble_eq_true rfl, Nat.le_of_ble_eq_true rfl⟩) (va_recv hK hP (ci := 7) (q0 := 0) rfl rfl) hK hP rfl hl.1 rfl (Nat.le_of_ble_eq_true rfl) dX7_put_2 ⟨Nat.zero_le _, Nat.zero_le _⟩ ?_
  refine j_if_ne (tgt := 11) hx hb dX7_put_5 (by decide) (nI_toInt (by decide)) (fun c_1 => absurd c_1 (by omega)) (fun c_1 => ?_)
  refine lv_bipush (v := (-101)) hx hb dX7_put_8 (by decide) ?_
  exact rw_iret (wp := (fun u => mW h g cI u.1 hz u.2)) (post := (fun (r : Int32) (u : (Nat → Int32) × (Nat → Nat → Int32)) => r = -101 ∧ MF b pn xr xi pc q kq u.1 u.2)) (J, G) hx hb hr hlocks hK hP hD hS (rfl) (⟨rfl, hF⟩) dX7_put_10

set_option maxHeartbeats 4000000 in
set_option maxRecDepth 100000 in
theorem c_X7_putO0 (l : Launch) (D : va_G) (h : Nat) (g : Nat → Nat) (cI : ClassId) (sz : Nat) (J : Nat → Int32) (hz : Int64) (G : Nat → Nat → Int32) (b : Nat → Nat → Nat) (pn xr xi : Nat) (pc : Nat → Int32) (q kq : RS) (hF : MF b pn xr xi pc q kq J G) (hokz : ¬ q.1 = 0 → hok b) (hT : Tok q) (i : Nat) (hi : i < q.1) (w : Int32) (ow : ¬ inr w 0 60) : WI l yX7_put (wA yX7_put cX7_put 4 (some .int)) ({ frames := 2, cells := 0, slots := 0, locals := 46 }) D (iTys cI) (mW h g cI J hz G) sz [.ref h, .int (nI i), .int w, .int (nI 0)] (fun (r : Int32) (u : (Nat → Int32) × (Nat → Nat → Int32)) => r = -102 ∧ MF b pn xr xi pc q kq u.1 u.2) (fun u => mW h g cI u.1 hz u.2) := by
  refine rw_startI (by decide) (Nat.le_of_ble_eq_true rfl) ?_
  intro p e s m args below meth c ls A F hP hK hD hA hS hl
  obtain ⟨hx, hb, hr, hlocks, hml, hown, hts⟩ := F
  have hown : s.vm.findClass RX7 = some m.cls := hown
  have hl : lv_has ls 4 [(0, .ref h), (1, .int (nI i)), (2, .int w), (3, .int (nI 0))] := hl
  have hM := hF.1
  have ht5 := hT.1
  have ht8 := hT.2.1
  have ow7 := inr_out ow
  have hok9 := hokz (by omega)
  refine lv_aload_n hx hb dX7_put_0 rfl (lv_at hl 0 rfl) ?_
  refine lv_iload_n hx hb dX7_put_1 rfl (lv_at hl 1 rfl) ?_
  refine ro_iV (n := 1) (As := [.int (nI i)]) ⟨hx, hb, hml, hown, hts⟩ (c_X7_isTapT l D h g cI J hz G b q hM hT i (by omega)) (cwV 1 hts (gV mg_596 mg_598 mg_1022 mg_8 mg_599) rfl rfl rfl vd_X7_isTap ⟨Nat.le_of_ble_eq_true rfl, Nat.le_of_ble_eq_true rfl⟩) (va_recv hK hP (ci := 7) (q0 := 0) rfl rfl) hK hP rfl hl.1 rfl (Nat.le_of_ble_eq_true rfl) dX7_put_2 ⟨Nat.zero_le _, Nat.zero_le _⟩ ?_
  refine j_if_ne (tgt := 11) hx hb dX7_put_5 (by decide) (nI_toInt (by decide)) (fun c_1 => ?_) (fun c_1 => absurd c_1 (by omega))
  refine lv_iload_n hx hb dX7_put_11 rfl (lv_at hl 2 rfl) ?_
  refine lv_i2l (v := w.toInt64) hx hb dX7_put_12 rfl ?_
  refine lv_lconst (v := (0 : Int64)) hx hb dX7_put_13 (by decide) ?_
  refine lv_ldc2 (v := (59 : Int64)) hx hb hown (hts _ mg_685) dX7_put_14 ?_
  have e1 : (w.toInt64 : Int64).toInt = w.toInt := (Int32.toInt_toInt64 _).trans rfl
  have e2 : ((0) : Int64).toInt = 0 := (by decide)
  have e3 : ((59 : Int64) : Int64).toInt = 59 := (by decide)
  refine ro_iS (n := 3) (As := [.long w.toInt64, .long (0), .long (59 : Int64)]) ⟨hx, hb, hml, hown, hts⟩ (c_X7_inF l D (w.toInt64) ((0)) ((59 : Int64)) (fun z => by omega)) (cwS 3 hts (gS mg_534 mg_535 mg_8 mg_536) rfl rfl rfl vd_X7_in ⟨Nat.le_of_ble_eq_true rfl, Nat.le_of_ble_eq_true rfl⟩)  (hK.sub [] rfl) (fun k q h => by simp at h) rfl hl.1 rfl (Nat.le_of_ble_eq_true rfl) dX7_put_17 ⟨Nat.zero_le _, Nat.zero_le _⟩ ?_
  refine j_if_ne (tgt := 26) hx hb dX7_put_20 (by decide) (nI_toInt (by decide)) (fun c_2 => absurd c_2 (by omega)) (fun c_2 => ?_)
  refine lv_bipush (v := (-102)) hx hb dX7_put_23 (by decide) ?_
  exact rw_iret (wp := (fun u => mW h g cI u.1 hz u.2)) (post := (fun (r : Int32) (u : (Nat → Int32) × (Nat → Nat → Int32)) => r = -102 ∧ MF b pn xr xi pc q kq u.1 u.2)) (J, G) hx hb hr hlocks hK hP hD hS (rfl) (⟨rfl, hF⟩) dX7_put_25

set_option maxHeartbeats 4000000 in
set_option maxRecDepth 100000 in
theorem c_X7_putF0 (l : Launch) (D : va_G) (h : Nat) (g : Nat → Nat) (cI : ClassId) (sz : Nat) (J : Nat → Int32) (hz : Int64) (G : Nat → Nat → Int32) (b : Nat → Nat → Nat) (pn xr xi : Nat) (pc : Nat → Int32) (q kq : RS) (hF : MF b pn xr xi pc q kq J G) (hokz : ¬ q.1 = 0 → hok b) (hT : Tok q) (i : Nat) (hi : i < q.1) (d : Nat) (hd : d < 60) (h8 : q.2.1 = 8) : WI l yX7_put (wA yX7_put cX7_put 4 (some .int)) ({ frames := 2, cells := 0, slots := 0, locals := 46 }) D (iTys cI) (mW h g cI J hz G) sz [.ref h, .int (nI i), .int (nI d), .int (nI 0)] (fun (r : Int32) (u : (Nat → Int32) × (Nat → Nat → Int32)) => r = -104 ∧ MF b pn xr xi pc q kq u.1 u.2) (fun u => mW h g cI u.1 hz u.2) := by
  refine rw_startI (by decide) (Nat.le_of_ble_eq_true rfl) ?_
  intro p e s m args below meth c ls A F hP hK hD hA hS hl
  obtain ⟨hx, hb, hr, hlocks, hml, hown, hts⟩ := F
  have hown : s.vm.findClass RX7 = some m.cls := hown
  have hl : lv_has ls 4 [(0, .ref h), (1, .int (nI i)), (2, .int (nI d)), (3, .int (nI 0))] := hl
  have hM := hF.1
  have ht5 := hT.1
  have ht8 := hT.2.1
  have hok9 := hokz (by omega)
  refine lv_aload_n hx hb dX7_put_0 rfl (lv_at hl 0 rfl) ?_
  refine lv_iload_n hx hb dX7_put_1 rfl (lv_at hl 1 rfl) ?_
  refine ro_iV (n := 1) (As := [.int (nI i)]) ⟨hx, hb, hml, hown, hts⟩ (c_X7_isTapT l D h g cI J hz G b q hM hT i (by omega)) (cwV 1 hts (gV mg_596 mg_598 mg_1022 mg_8 mg_599) rfl rfl rfl vd_X7_isTap ⟨Nat.le_of_ble_eq_true rfl, Nat.le_of_ble_eq_true rfl⟩) (va_recv hK hP (ci := 7) (q0 := 0) rfl rfl) hK hP rfl hl.1 rfl (Nat.le_of_ble_eq_true rfl) dX7_put_2 ⟨Nat.zero_le _, Nat.zero_le _⟩ ?_
  refine j_if_ne (tgt := 11) hx hb dX7_put_5 (by decide) (nI_toInt (by decide)) (fun c_1 => ?_) (fun c_1 => absurd c_1 (by omega))
  refine lv_iload_n hx hb dX7_put_11 rfl (lv_at hl 2 rfl) ?_
  refine lv_i2l (v := lN d) hx hb dX7_put_12 (nI_l (by omega)) ?_
  refine lv_lconst (v := (0 : Int64)) hx hb dX7_put_13 (by decide) ?_
  refine lv_ldc2 (v := (59 : Int64)) hx hb hown (hts _ mg_685) dX7_put_14 ?_
  have e1 : (lN d : Int64).toInt = ((d : Nat) : Int) := lN_toInt (by omega)
  have e2 : ((0) : Int64).toInt = 0 := (by decide)
  have e3 : ((59 : Int64) : Int64).toInt = 59 := (by decide)
  refine ro_iS (n := 3) (As := [.long (lN d), .long (0), .long (59 : Int64)]) ⟨hx, hb, hml, hown, hts⟩ (c_X7_inT l D (lN d) ((0)) ((59 : Int64)) (by constructor <;> omega)) (cwS 3 hts (gS mg_534 mg_535 mg_8 mg_536) rfl rfl rfl vd_X7_in ⟨Nat.le_of_ble_eq_true rfl, Nat.le_of_ble_eq_true rfl⟩)  (hK.sub [] rfl) (fun k q h => by simp at h) rfl hl.1 rfl (Nat.le_of_ble_eq_true rfl) dX7_put_17 ⟨Nat.zero_le _, Nat.zero_le _⟩ ?_
  refine j_if_ne (tgt := 26) hx hb dX7_put_20 (by decide) (nI_toInt (by decide)) (fun c_2 => ?_) (fun c_2 => absurd c_2 (by omega))
  refine lv_aload_n hx hb dX7_put_26 rfl (lv_at hl 0 rfl) ?_
  refine va_get (D := D) (ci := 7) (v := .int (nI q.2.1)) (C := RX7) (T := TX7) (N := 22) hx hb hts iX7 hown hK hP 0 rfl rfl 12 (by decide) (hts _ mg_474) (fun _ h9 => h9) (congrArg (fun z => some (Value.int z)) (MR_12 hM)) dX7_put_27 ?_
  refine lv_bipush (v := nI 8) hx hb dX7_put_30 (by decide) ?_
  refine j_icmp_ne (tgt := 38) hx hb dX7_put_32 (by decide) (nI_toInt (by omega)) (nI_toInt (by decide)) (fun c_3 => absurd c_3 (by omega)) (fun c_3 => ?_)
  refine lv_bipush (v := (-104)) hx hb dX7_put_35 (by decide) ?_
  exact rw_iret (wp := (fun u => mW h g cI u.1 hz u.2)) (post := (fun (r : Int32) (u : (Nat → Int32) × (Nat → Nat → Int32)) => r = -104 ∧ MF b pn xr xi pc q kq u.1 u.2)) (J, G) hx hb hr hlocks hK hP hD hS (rfl) (⟨rfl, hF⟩) dX7_put_37

set_option maxHeartbeats 4000000 in
set_option maxRecDepth 100000 in
theorem c_X7_putI0 (l : Launch) (D : va_G) (h : Nat) (g : Nat → Nat) (cI : ClassId) (sz : Nat) (J : Nat → Int32) (hz : Int64) (G : Nat → Nat → Int32) (b : Nat → Nat → Nat) (pn xr xi : Nat) (pc : Nat → Int32) (q kq : RS) (hF : MF b pn xr xi pc q kq J G) (hokz : ¬ q.1 = 0 → hok b) (hT : Tok q) (i : Nat) (hi : i < q.1) (d : Nat) (hd : d < 60) (h8 : ¬ q.2.1 = 8) : WI l yX7_put (wA yX7_put cX7_put 4 (some .int)) ({ frames := 2, cells := 0, slots := 0, locals := 46 }) D (iTys cI) (mW h g cI J hz G) sz [.ref h, .int (nI i), .int (nI d), .int (nI 0)] (fun (r : Int32) (u : (Nat → Int32) × (Nat → Nat → Int32)) => r = nI (q.2.1 + 1) ∧ MF b pn xr xi pc (q.1, q.2.1 + 1, q.2.2.1, q.2.2.2.1, upR q.2.2.2.2 q.2.1 (rw4 i d 0 (q.2.2.2.1 i 2))) kq u.1 u.2) (fun u => mW h g cI u.1 hz u.2) := by
  refine rw_startI (by decide) (Nat.le_of_ble_eq_true rfl) ?_
  intro p e s m args below meth c ls A F hP hK hD hA hS hl
  obtain ⟨hx, hb, hr, hlocks, hml, hown, hts⟩ := F
  have hown : s.vm.findClass RX7 = some m.cls := hown
  have hl : lv_has ls 4 [(0, .ref h), (1, .int (nI i)), (2, .int (nI d)), (3, .int (nI 0))] := hl
  have hM := hF.1
  have ht5 := hT.1
  have ht8 := hT.2.1
  obtain ⟨hk0, hv0, hw0, hp0⟩ := hT.2.2.1 i hi
  have hok9 := hokz (by omega)
  refine lv_aload_n hx hb dX7_put_0 rfl (lv_at hl 0 rfl) ?_
  refine lv_iload_n hx hb dX7_put_1 rfl (lv_at hl 1 rfl) ?_
  refine ro_iV (n := 1) (As := [.int (nI i)]) ⟨hx, hb, hml, hown, hts⟩ (c_X7_isTapT l D h g cI J hz G b q hM hT i (by omega)) (cwV 1 hts (gV mg_596 mg_598 mg_1022 mg_8 mg_599) rfl rfl rfl vd_X7_isTap ⟨Nat.le_of_ble_eq_true rfl, Nat.le_of_ble_eq_true rfl⟩) (va_recv hK hP (ci := 7) (q0 := 0) rfl rfl) hK hP rfl hl.1 rfl (Nat.le_of_ble_eq_true rfl) dX7_put_2 ⟨Nat.zero_le _, Nat.zero_le _⟩ ?_
  refine j_if_ne (tgt := 11) hx hb dX7_put_5 (by decide) (nI_toInt (by decide)) (fun c_1 => ?_) (fun c_1 => absurd c_1 (by omega))
  refine lv_iload_n hx hb dX7_put_11 rfl (lv_at hl 2 rfl) ?_
  refine lv_i2l (v := lN d) hx hb dX7_put_12 (nI_l (by omega)) ?_
  refine lv_lconst (v := (0 : Int64)) hx hb dX7_put_13 (by decide) ?_
  refine lv_ldc2 (v := (59 : Int64)) hx hb hown (hts _ mg_685) dX7_put_14 ?_
  have e1 : (lN d : Int64).toInt = ((d : Nat) : Int) := lN_toInt (by omega)
  have e2 : ((0) : Int64).toInt = 0 := (by decide)
  have e3 : ((59 : Int64) : Int64).toInt = 59 := (by decide)
  refine ro_iS (n := 3) (As := [.long (lN d), .long (0), .long (59 : Int64)]) ⟨hx, hb, hml, hown, hts⟩ (c_X7_inT l D (lN d) ((0)) ((59 : Int64)) (by constructor <;> omega)) (cwS 3 hts (gS mg_534 mg_535 mg_8 mg_536) rfl rfl rfl vd_X7_in ⟨Nat.le_of_ble_eq_true rfl, Nat.le_of_ble_eq_true rfl⟩)  (hK.sub [] rfl) (fun k q h => by simp at h) rfl hl.1 rfl (Nat.le_of_ble_eq_true rfl) dX7_put_17 ⟨Nat.zero_le _, Nat.zero_le _⟩ ?_
  refine j_if_ne (tgt := 26) hx hb dX7_put_20 (by decide) (nI_toInt (by decide)) (fun c_2 => ?_) (fun c_2 => absurd c_2 (by omega))
  refine lv_aload_n hx hb dX7_put_26 rfl (lv_at hl 0 rfl) ?_
  refine va_get (D := D) (ci := 7) (v := .int (nI q.2.1)) (C := RX7) (T := TX7) (N := 22) hx hb hts iX7 hown hK hP 0 rfl rfl 12 (by decide) (hts _ mg_474) (fun _ h9 => h9) (congrArg (fun z => some (Value.int z)) (MR_12 hM)) dX7_put_27 ?_
  refine lv_bipush (v := nI 8) hx hb dX7_put_30 (by decide) ?_
  refine j_icmp_ne (tgt := 38) hx hb dX7_put_32 (by decide) (nI_toInt (by omega)) (nI_toInt (by decide)) (fun c_3 => ?_) (fun c_3 => absurd c_3 (by omega))
  refine lv_aload_n hx hb dX7_put_38 rfl (lv_at hl 0 rfl) ?_
  refine va_get (D := D) (ci := 7) (v := .ref (g 13)) (C := RX7) (T := TX7) (N := 22) hx hb hts iX7 hown hK hP 0 rfl rfl 13 (by decide) (hts _ mg_475) (fun _ h9 => h9) rfl dX7_put_39 ?_
  refine lv_iconst (v := nI 4) hx hb dX7_put_42 (by decide) ?_
  refine lv_aload_n hx hb dX7_put_43 rfl (lv_at hl 0 rfl) ?_
  refine va_get (D := D) (ci := 7) (v := .int (nI q.2.1)) (C := RX7) (T := TX7) (N := 22) hx hb hts iX7 hown hK hP 0 rfl rfl 12 (by decide) (hts _ mg_474) (fun _ h9 => h9) (congrArg (fun z => some (Value.int z)) (MR_12 hM)) dX7_put_44 ?_
  refine n_imul hx hb dX7_put_47 ?_
  refine lv_iload_n hx hb dX7_put_48 rfl (lv_at hl 1 rfl) ?_
  refine n_asti hx hb hK hP hD hS 6 0 rfl rfl (by omega) (by decide) dX7_put_49 (fun H locs hP hD hS => ?_)
  have hP : va_P D vwCl (mW h g cI J hz (updF G 13 (upd (G 13) (4 * q.2.1) (nI i)))) H := hP
  have hD : va_D A (mW h g cI J hz (updF G 13 (upd (G 13) (4 * q.2.1) (nI i)))) := hD
  refine lv_aload_n hx hb dX7_put_50 rfl (lv_at hl 0 rfl) ?_
  refine va_get (D := D) (ci := 7) (v := .ref (g 13)) (C := RX7) (T := TX7) (N := 22) hx hb hts iX7 hown hK hP 0 rfl rfl 13 (by decide) (hts _ mg_475) (fun _ h9 => h9) rfl dX7_put_51 ?_
  refine lv_iconst (v := nI 4) hx hb dX7_put_54 (by decide) ?_
  refine lv_aload_n hx hb dX7_put_55 rfl (lv_at hl 0 rfl) ?_
  refine va_get (D := D) (ci := 7) (v := .int (nI q.2.1)) (C := RX7) (T := TX7) (N := 22) hx hb hts iX7 hown hK hP 0 rfl rfl 12 (by decide) (hts _ mg_474) (fun _ h9 => h9) (congrArg (fun z => some (Value.int z)) (MR_12 hM)) dX7_put_56 ?_
  refine n_imul hx hb dX7_put_59 ?_
  refine lv_iconst (v := nI 1) hx hb dX7_put_60 (by decide) ?_
  refine n_iadd hx hb dX7_put_61 ?_
  refine lv_iload_n hx hb dX7_put_62 rfl (lv_at hl 2 rfl) ?_
  refine n_asti hx hb hK hP hD hS 6 0 rfl rfl (by omega) (by decide) dX7_put_63 (fun H locs hP hD hS => ?_)
  have hP : va_P D vwCl (mW h g cI J hz (updF (updF G 13 (upd (G 13) (4 * q.2.1) (nI i))) 13 (upd ((updF G 13 (upd (G 13) (4 * q.2.1) (nI i))) 13) ((4 * q.2.1) + 1) (nI d)))) H := hP
  have hD : va_D A (mW h g cI J hz (updF (updF G 13 (upd (G 13) (4 * q.2.1) (nI i))) 13 (upd ((updF G 13 (upd (G 13) (4 * q.2.1) (nI i))) 13) ((4 * q.2.1) + 1) (nI d)))) := hD
  refine lv_aload_n hx hb dX7_put_64 rfl (lv_at hl 0 rfl) ?_
  refine va_get (D := D) (ci := 7) (v := .ref (g 13)) (C := RX7) (T := TX7) (N := 22) hx hb hts iX7 hown hK hP 0 rfl rfl 13 (by decide) (hts _ mg_475) (fun _ h9 => h9) rfl dX7_put_65 ?_
  refine lv_iconst (v := nI 4) hx hb dX7_put_68 (by decide) ?_
  refine lv_aload_n hx hb dX7_put_69 rfl (lv_at hl 0 rfl) ?_
  refine va_get (D := D) (ci := 7) (v := .int (nI q.2.1)) (C := RX7) (T := TX7) (N := 22) hx hb hts iX7 hown hK hP 0 rfl rfl 12 (by decide) (hts _ mg_474) (fun _ h9 => h9) (congrArg (fun z => some (Value.int z)) (MR_12 hM)) dX7_put_70 ?_
  refine n_imul hx hb dX7_put_73 ?_
  refine lv_iconst (v := nI 2) hx hb dX7_put_74 (by decide) ?_
  refine n_iadd hx hb dX7_put_75 ?_
  refine lv_iload_n hx hb dX7_put_76 rfl (lv_at hl 3 rfl) ?_
  refine j_if_eq (tgt := 84) hx hb dX7_put_77 (by decide) (nI_toInt (by decide)) (fun c_4 => ?_) (fun c_4 => absurd c_4 (by omega))
  refine lv_iconst (v := nI 0) hx hb dX7_put_84 (by decide) ?_
  refine n_asti hx hb hK hP hD hS 6 0 rfl rfl (by omega) (by decide) dX7_put_85 (fun H locs hP hD hS => ?_)
  have hP : va_P D vwCl (mW h g cI J hz (updF (updF (updF G 13 (upd (G 13) (4 * q.2.1) (nI i))) 13 (upd ((updF G 13 (upd (G 13) (4 * q.2.1) (nI i))) 13) ((4 * q.2.1) + 1) (nI d))) 13 (upd ((updF (updF G 13 (upd (G 13) (4 * q.2.1) (nI i))) 13 (upd ((updF G 13 (upd (G 13) (4 * q.2.1) (nI i))) 13) ((4 * q.2.1) + 1) (nI d))) 13) ((4 * q.2.1) + 2) (nI 0)))) H := hP
  have hD : va_D A (mW h g cI J hz (updF (updF (updF G 13 (upd (G 13) (4 * q.2.1) (nI i))) 13 (upd ((updF G 13 (upd (G 13) (4 * q.2.1) (nI i))) 13) ((4 * q.2.1) + 1) (nI d))) 13 (upd ((updF (updF G 13 (upd (G 13) (4 * q.2.1) (nI i))) 13 (upd ((updF G 13 (upd (G 13) (4 * q.2.1) (nI i))) 13) ((4 * q.2.1) + 1) (nI d))) 13) ((4 * q.2.1) + 2) (nI 0)))) := hD
  refine lv_aload_n hx hb dX7_put_86 rfl (lv_at hl 0 rfl) ?_
  refine va_get (D := D) (ci := 7) (v := .ref (g 13)) (C := RX7) (T := TX7) (N := 22) hx hb hts iX7 hown hK hP 0 rfl rfl 13 (by decide) (hts _ mg_475) (fun _ h9 => h9) rfl dX7_put_87 ?_
  refine lv_iconst (v := nI 4) hx hb dX7_put_90 (by decide) ?_
  refine lv_aload_n hx hb dX7_put_91 rfl (lv_at hl 0 rfl) ?_
  refine va_get (D := D) (ci := 7) (v := .int (nI q.2.1)) (C := RX7) (T := TX7) (N := 22) hx hb hts iX7 hown hK hP 0 rfl rfl 12 (by decide) (hts _ mg_474) (fun _ h9 => h9) (congrArg (fun z => some (Value.int z)) (MR_12 hM)) dX7_put_92 ?_
  refine n_imul hx hb dX7_put_95 ?_
  refine lv_iconst (v := nI 3) hx hb dX7_put_96 (by decide) ?_
  refine n_iadd hx hb dX7_put_97 ?_
  refine lv_aload_n hx hb dX7_put_98 rfl (lv_at hl 0 rfl) ?_
  refine va_get (D := D) (ci := 7) (v := .ref (g 11)) (C := RX7) (T := TX7) (N := 22) hx hb hts iX7 hown hK hP 0 rfl rfl 11 (by decide) (hts _ mg_473) (fun _ h9 => h9) rfl dX7_put_99 ?_
  refine lv_iconst (v := nI 4) hx hb dX7_put_102 (by decide) ?_
  refine lv_iload_n hx hb dX7_put_103 rfl (lv_at hl 1 rfl) ?_
  refine n_imul hx hb dX7_put_104 ?_
  refine lv_iconst (v := nI 2) hx hb dX7_put_105 (by decide) ?_
  refine n_iadd hx hb dX7_put_106 ?_
  refine n_aldi hx hb hK hP 5 0 rfl rfl (by omega) (by decide) (v := nI (q.2.2.2.1 i 2)) (MR_row hM (by omega) (by omega)) dX7_put_107 ?_
  refine n_asti hx hb hK hP hD hS 6 0 rfl rfl (by omega) (by decide) dX7_put_108 (fun H locs hP hD hS => ?_)
  have hP : va_P D vwCl (mW h g cI J hz (updF (updF (updF (updF G 13 (upd (G 13) (4 * q.2.1) (nI i))) 13 (upd ((updF G 13 (upd (G 13) (4 * q.2.1) (nI i))) 13) ((4 * q.2.1) + 1) (nI d))) 13 (upd ((updF (updF G 13 (upd (G 13) (4 * q.2.1) (nI i))) 13 (upd ((updF G 13 (upd (G 13) (4 * q.2.1) (nI i))) 13) ((4 * q.2.1) + 1) (nI d))) 13) ((4 * q.2.1) + 2) (nI 0))) 13 (upd ((updF (updF (updF G 13 (upd (G 13) (4 * q.2.1) (nI i))) 13 (upd ((updF G 13 (upd (G 13) (4 * q.2.1) (nI i))) 13) ((4 * q.2.1) + 1) (nI d))) 13 (upd ((updF (updF G 13 (upd (G 13) (4 * q.2.1) (nI i))) 13 (upd ((updF G 13 (upd (G 13) (4 * q.2.1) (nI i))) 13) ((4 * q.2.1) + 1) (nI d))) 13) ((4 * q.2.1) + 2) (nI 0))) 13) ((4 * q.2.1) + 3) (nI (q.2.2.2.1 i 2))))) H := hP
  have hD : va_D A (mW h g cI J hz (updF (updF (updF (updF G 13 (upd (G 13) (4 * q.2.1) (nI i))) 13 (upd ((updF G 13 (upd (G 13) (4 * q.2.1) (nI i))) 13) ((4 * q.2.1) + 1) (nI d))) 13 (upd ((updF (updF G 13 (upd (G 13) (4 * q.2.1) (nI i))) 13 (upd ((updF G 13 (upd (G 13) (4 * q.2.1) (nI i))) 13) ((4 * q.2.1) + 1) (nI d))) 13) ((4 * q.2.1) + 2) (nI 0))) 13 (upd ((updF (updF (updF G 13 (upd (G 13) (4 * q.2.1) (nI i))) 13 (upd ((updF G 13 (upd (G 13) (4 * q.2.1) (nI i))) 13) ((4 * q.2.1) + 1) (nI d))) 13 (upd ((updF (updF G 13 (upd (G 13) (4 * q.2.1) (nI i))) 13 (upd ((updF G 13 (upd (G 13) (4 * q.2.1) (nI i))) 13) ((4 * q.2.1) + 1) (nI d))) 13) ((4 * q.2.1) + 2) (nI 0))) 13) ((4 * q.2.1) + 3) (nI (q.2.2.2.1 i 2))))) := hD
  refine lv_aload_n hx hb dX7_put_109 rfl (lv_at hl 0 rfl) ?_
  refine lv_dup hx hb dX7_put_110 rfl ?_
  refine va_get (D := D) (ci := 7) (v := .int (nI q.2.1)) (C := RX7) (T := TX7) (N := 22) hx hb hts iX7 hown hK hP 0 rfl rfl 12 (by decide) (hts _ mg_474) (fun _ h9 => h9) (congrArg (fun z => some (Value.int z)) (MR_12 hM)) dX7_put_111 ?_
  refine lv_iconst (v := nI 1) hx hb dX7_put_114 (by decide) ?_
  refine n_iadd hx hb dX7_put_115 ?_
  refine va_put (D := D) (ci := 7) (v := .int (nI (q.2.1 + 1))) (ty := .int) (C := RX7) (T := TX7) (N := 22) hx hb hts iX7 tyX7 tyX7_ok nmX7 hown hK hP hD hS 0 rfl rfl 12 (by decide) (hts _ mg_474) (fun _ h9 => h9) rfl (tyX7_ok 12 (by decide)) rfl rfl (Nat.le_of_ble_eq_true rfl) dX7_put_116 (fun H locs hP hD hS => ?_)
  have hP : va_P D vwCl (mW h g cI (upd J 12 (nI (q.2.1 + 1))) hz (updF (updF (updF (updF G 13 (upd (G 13) (4 * q.2.1) (nI i))) 13 (upd ((updF G 13 (upd (G 13) (4 * q.2.1) (nI i))) 13) ((4 * q.2.1) + 1) (nI d))) 13 (upd ((updF (updF G 13 (upd (G 13) (4 * q.2.1) (nI i))) 13 (upd ((updF G 13 (upd (G 13) (4 * q.2.1) (nI i))) 13) ((4 * q.2.1) + 1) (nI d))) 13) ((4 * q.2.1) + 2) (nI 0))) 13 (upd ((updF (updF (updF G 13 (upd (G 13) (4 * q.2.1) (nI i))) 13 (upd ((updF G 13 (upd (G 13) (4 * q.2.1) (nI i))) 13) ((4 * q.2.1) + 1) (nI d))) 13 (upd ((updF (updF G 13 (upd (G 13) (4 * q.2.1) (nI i))) 13 (upd ((updF G 13 (upd (G 13) (4 * q.2.1) (nI i))) 13) ((4 * q.2.1) + 1) (nI d))) 13) ((4 * q.2.1) + 2) (nI 0))) 13) ((4 * q.2.1) + 3) (nI (q.2.2.2.1 i 2))))) H := hP
  have hD : va_D A (mW h g cI (upd J 12 (nI (q.2.1 + 1))) hz (updF (updF (updF (updF G 13 (upd (G 13) (4 * q.2.1) (nI i))) 13 (upd ((updF G 13 (upd (G 13) (4 * q.2.1) (nI i))) 13) ((4 * q.2.1) + 1) (nI d))) 13 (upd ((updF (updF G 13 (upd (G 13) (4 * q.2.1) (nI i))) 13 (upd ((updF G 13 (upd (G 13) (4 * q.2.1) (nI i))) 13) ((4 * q.2.1) + 1) (nI d))) 13) ((4 * q.2.1) + 2) (nI 0))) 13 (upd ((updF (updF (updF G 13 (upd (G 13) (4 * q.2.1) (nI i))) 13 (upd ((updF G 13 (upd (G 13) (4 * q.2.1) (nI i))) 13) ((4 * q.2.1) + 1) (nI d))) 13 (upd ((updF (updF G 13 (upd (G 13) (4 * q.2.1) (nI i))) 13 (upd ((updF G 13 (upd (G 13) (4 * q.2.1) (nI i))) 13) ((4 * q.2.1) + 1) (nI d))) 13) ((4 * q.2.1) + 2) (nI 0))) 13) ((4 * q.2.1) + 3) (nI (q.2.2.2.1 i 2))))) := hD
  refine lv_aload_n hx hb dX7_put_119 rfl (lv_at hl 0 rfl) ?_
  refine va_get (D := D) (ci := 7) (v := .int (nI (q.2.1 + 1))) (C := RX7) (T := TX7) (N := 22) hx hb hts iX7 hown hK hP 0 rfl rfl 12 (by decide) (hts _ mg_474) (fun _ h9 => h9) (congrArg (fun z => some (Value.int z)) rfl) dX7_put_120 ?_
  exact rw_iret (wp := (fun u => mW h g cI u.1 hz u.2)) (post := (fun (r : Int32) (u : (Nat → Int32) × (Nat → Nat → Int32)) => r = nI (q.2.1 + 1) ∧ MF b pn xr xi pc (q.1, q.2.1 + 1, q.2.2.1, q.2.2.2.1, upR q.2.2.2.2 q.2.1 (rw4 i d 0 (q.2.2.2.1 i 2))) kq u.1 u.2)) (upd J 12 (nI (q.2.1 + 1)), updF (updF (updF (updF G 13 (upd (G 13) (4 * q.2.1) (nI i))) 13 (upd ((updF G 13 (upd (G 13) (4 * q.2.1) (nI i))) 13) ((4 * q.2.1) + 1) (nI d))) 13 (upd ((updF (updF G 13 (upd (G 13) (4 * q.2.1) (nI i))) 13 (upd ((updF G 13 (upd (G 13) (4 * q.2.1) (nI i))) 13) ((4 * q.2.1) + 1) (nI d))) 13) ((4 * q.2.1) + 2) (nI 0))) 13 (upd ((updF (updF (updF G 13 (upd (G 13) (4 * q.2.1) (nI i))) 13 (upd ((updF G 13 (upd (G 13) (4 * q.2.1) (nI i))) 13) ((4 * q.2.1) + 1) (nI d))) 13 (upd ((updF (updF G 13 (upd (G 13) (4 * q.2.1) (nI i))) 13 (upd ((updF G 13 (upd (G 13) (4 * q.2.1) (nI i))) 13) ((4 * q.2.1) + 1) (nI d))) 13) ((4 * q.2.1) + 2) (nI 0))) 13) ((4 * q.2.1) + 3) (nI (q.2.2.2.1 i 2)))) hx hb hr hlocks hK hP hD hS (rfl) (⟨rfl, ⟨⟨hM.1, rfl, hM.2.2.1, hM.2.2.2.1, hM.2.2.2.2.1, row_new hM.2.2.2.2.2⟩, hF.2⟩⟩) dX7_put_123

set_option maxHeartbeats 4000000 in
set_option maxRecDepth 100000 in
theorem c_X7_putX1 (l : Launch) (D : va_G) (h : Nat) (g : Nat → Nat) (cI : ClassId) (sz : Nat) (J : Nat → Int32) (hz : Int64) (G : Nat → Nat → Int32) (b : Nat → Nat → Nat) (pn xr xi : Nat) (pc : Nat → Int32) (q kq : RS) (hF : MF b pn xr xi pc q kq J G) (hokz : ¬ q.1 = 0 → hok b) (hT : Tok q) (x w : Int32) (ox : ¬ inr x 0 q.1) : WI l yX7_put (wA yX7_put cX7_put 4 (some .int)) ({ frames := 2, cells := 0, slots := 0, locals := 46 }) D (iTys cI) (mW h g cI J hz G) sz [.ref h, .int x, .int w, .int (nI 1)] (fun (r : Int32) (u : (Nat → Int32) × (Nat → Nat → Int32)) => r = -101 ∧ MF b pn xr xi pc q kq u.1 u.2) (fun u => mW h g cI u.1 hz u.2) := by
  refine rw_startI (by decide) (Nat.le_of_ble_eq_true rfl) ?_
  intro p e s m args below meth c ls A F hP hK hD hA hS hl
  obtain ⟨hx, hb, hr, hlocks, hml, hown, hts⟩ := F
  have hown : s.vm.findClass RX7 = some m.cls := hown
  have hl : lv_has ls 4 [(0, .ref h), (1, .int x), (2, .int w), (3, .int (nI 1))] := hl
  have hM := hF.1
  have ht5 := hT.1
  have ht8 := hT.2.1
  refine lv_aload_n hx hb dX7_put_0 rfl (lv_at hl 0 rfl) ?_
  refine lv_iload_n hx hb dX7_put_1 rfl (lv_at hl 1 rfl) ?_
  refine ro_iV (n := 1) (As := [.int x]) ⟨hx, hb, hml, hown, hts⟩ (c_X7_isTapF l D h g cI J hz G b q hM hT x ox) (cwV 1 hts (gV mg_596 mg_598 mg_1022 mg_8 mg_599) rfl rfl rfl vd_X7_isTap ⟨Nat.le_of_ble_eq_true rfl, Nat.le_of_ble_eq_true rfl⟩) (va_recv hK hP (ci := 7) (q0 := 0) rfl rfl) hK hP rfl hl.1 rfl (Nat.le_of_ble_eq_true rfl) dX7_put_2 ⟨Nat.zero_le _, Nat.zero_le _⟩ ?_
  refine j_if_ne (tgt := 11) hx hb dX7_put_5 (by decide) (nI_toInt (by decide)) (fun c_1 => absurd c_1 (by omega)) (fun c_1 => ?_)
  refine lv_bipush (v := (-101)) hx hb dX7_put_8 (by decide) ?_
  exact rw_iret (wp := (fun u => mW h g cI u.1 hz u.2)) (post := (fun (r : Int32) (u : (Nat → Int32) × (Nat → Nat → Int32)) => r = -101 ∧ MF b pn xr xi pc q kq u.1 u.2)) (J, G) hx hb hr hlocks hK hP hD hS (rfl) (⟨rfl, hF⟩) dX7_put_10

set_option maxHeartbeats 4000000 in
set_option maxRecDepth 100000 in
theorem c_X7_putO1 (l : Launch) (D : va_G) (h : Nat) (g : Nat → Nat) (cI : ClassId) (sz : Nat) (J : Nat → Int32) (hz : Int64) (G : Nat → Nat → Int32) (b : Nat → Nat → Nat) (pn xr xi : Nat) (pc : Nat → Int32) (q kq : RS) (hF : MF b pn xr xi pc q kq J G) (hokz : ¬ q.1 = 0 → hok b) (hT : Tok q) (i : Nat) (hi : i < q.1) (w : Int32) (ow : ¬ inr w 0 60) : WI l yX7_put (wA yX7_put cX7_put 4 (some .int)) ({ frames := 2, cells := 0, slots := 0, locals := 46 }) D (iTys cI) (mW h g cI J hz G) sz [.ref h, .int (nI i), .int w, .int (nI 1)] (fun (r : Int32) (u : (Nat → Int32) × (Nat → Nat → Int32)) => r = -102 ∧ MF b pn xr xi pc q kq u.1 u.2) (fun u => mW h g cI u.1 hz u.2) := by
  refine rw_startI (by decide) (Nat.le_of_ble_eq_true rfl) ?_
  intro p e s m args below meth c ls A F hP hK hD hA hS hl
  obtain ⟨hx, hb, hr, hlocks, hml, hown, hts⟩ := F
  have hown : s.vm.findClass RX7 = some m.cls := hown
  have hl : lv_has ls 4 [(0, .ref h), (1, .int (nI i)), (2, .int w), (3, .int (nI 1))] := hl
  have hM := hF.1
  have ht5 := hT.1
  have ht8 := hT.2.1
  have ow7 := inr_out ow
  have hok9 := hokz (by omega)
  refine lv_aload_n hx hb dX7_put_0 rfl (lv_at hl 0 rfl) ?_
  refine lv_iload_n hx hb dX7_put_1 rfl (lv_at hl 1 rfl) ?_
  refine ro_iV (n := 1) (As := [.int (nI i)]) ⟨hx, hb, hml, hown, hts⟩ (c_X7_isTapT l D h g cI J hz G b q hM hT i (by omega)) (cwV 1 hts (gV mg_596 mg_598 mg_1022 mg_8 mg_599) rfl rfl rfl vd_X7_isTap ⟨Nat.le_of_ble_eq_true rfl, Nat.le_of_ble_eq_true rfl⟩) (va_recv hK hP (ci := 7) (q0 := 0) rfl rfl) hK hP rfl hl.1 rfl (Nat.le_of_ble_eq_true rfl) dX7_put_2 ⟨Nat.zero_le _, Nat.zero_le _⟩ ?_
  refine j_if_ne (tgt := 11) hx hb dX7_put_5 (by decide) (nI_toInt (by decide)) (fun c_1 => ?_) (fun c_1 => absurd c_1 (by omega))
  refine lv_iload_n hx hb dX7_put_11 rfl (lv_at hl 2 rfl) ?_
  refine lv_i2l (v := w.toInt64) hx hb dX7_put_12 rfl ?_
  refine lv_lconst (v := (0 : Int64)) hx hb dX7_put_13 (by decide) ?_
  refine lv_ldc2 (v := (59 : Int64)) hx hb hown (hts _ mg_685) dX7_put_14 ?_
  have e1 : (w.toInt64 : Int64).toInt = w.toInt := (Int32.toInt_toInt64 _).trans rfl
  have e2 : ((0) : Int64).toInt = 0 := (by decide)
  have e3 : ((59 : Int64) : Int64).toInt = 59 := (by decide)
  refine ro_iS (n := 3) (As := [.long w.toInt64, .long (0), .long (59 : Int64)]) ⟨hx, hb, hml, hown, hts⟩ (c_X7_inF l D (w.toInt64) ((0)) ((59 : Int64)) (fun z => by omega)) (cwS 3 hts (gS mg_534 mg_535 mg_8 mg_536) rfl rfl rfl vd_X7_in ⟨Nat.le_of_ble_eq_true rfl, Nat.le_of_ble_eq_true rfl⟩)  (hK.sub [] rfl) (fun k q h => by simp at h) rfl hl.1 rfl (Nat.le_of_ble_eq_true rfl) dX7_put_17 ⟨Nat.zero_le _, Nat.zero_le _⟩ ?_
  refine j_if_ne (tgt := 26) hx hb dX7_put_20 (by decide) (nI_toInt (by decide)) (fun c_2 => absurd c_2 (by omega)) (fun c_2 => ?_)
  refine lv_bipush (v := (-102)) hx hb dX7_put_23 (by decide) ?_
  exact rw_iret (wp := (fun u => mW h g cI u.1 hz u.2)) (post := (fun (r : Int32) (u : (Nat → Int32) × (Nat → Nat → Int32)) => r = -102 ∧ MF b pn xr xi pc q kq u.1 u.2)) (J, G) hx hb hr hlocks hK hP hD hS (rfl) (⟨rfl, hF⟩) dX7_put_25

set_option maxHeartbeats 4000000 in
set_option maxRecDepth 100000 in
theorem c_X7_putF1 (l : Launch) (D : va_G) (h : Nat) (g : Nat → Nat) (cI : ClassId) (sz : Nat) (J : Nat → Int32) (hz : Int64) (G : Nat → Nat → Int32) (b : Nat → Nat → Nat) (pn xr xi : Nat) (pc : Nat → Int32) (q kq : RS) (hF : MF b pn xr xi pc q kq J G) (hokz : ¬ q.1 = 0 → hok b) (hT : Tok q) (i : Nat) (hi : i < q.1) (d : Nat) (hd : d < 60) (h8 : q.2.1 = 8) : WI l yX7_put (wA yX7_put cX7_put 4 (some .int)) ({ frames := 2, cells := 0, slots := 0, locals := 46 }) D (iTys cI) (mW h g cI J hz G) sz [.ref h, .int (nI i), .int (nI d), .int (nI 1)] (fun (r : Int32) (u : (Nat → Int32) × (Nat → Nat → Int32)) => r = -104 ∧ MF b pn xr xi pc q kq u.1 u.2) (fun u => mW h g cI u.1 hz u.2) := by
  refine rw_startI (by decide) (Nat.le_of_ble_eq_true rfl) ?_
  intro p e s m args below meth c ls A F hP hK hD hA hS hl
  obtain ⟨hx, hb, hr, hlocks, hml, hown, hts⟩ := F
  have hown : s.vm.findClass RX7 = some m.cls := hown
  have hl : lv_has ls 4 [(0, .ref h), (1, .int (nI i)), (2, .int (nI d)), (3, .int (nI 1))] := hl
  have hM := hF.1
  have ht5 := hT.1
  have ht8 := hT.2.1
  have hok9 := hokz (by omega)
  refine lv_aload_n hx hb dX7_put_0 rfl (lv_at hl 0 rfl) ?_
  refine lv_iload_n hx hb dX7_put_1 rfl (lv_at hl 1 rfl) ?_
  refine ro_iV (n := 1) (As := [.int (nI i)]) ⟨hx, hb, hml, hown, hts⟩ (c_X7_isTapT l D h g cI J hz G b q hM hT i (by omega)) (cwV 1 hts (gV mg_596 mg_598 mg_1022 mg_8 mg_599) rfl rfl rfl vd_X7_isTap ⟨Nat.le_of_ble_eq_true rfl, Nat.le_of_ble_eq_true rfl⟩) (va_recv hK hP (ci := 7) (q0 := 0) rfl rfl) hK hP rfl hl.1 rfl (Nat.le_of_ble_eq_true rfl) dX7_put_2 ⟨Nat.zero_le _, Nat.zero_le _⟩ ?_
  refine j_if_ne (tgt := 11) hx hb dX7_put_5 (by decide) (nI_toInt (by decide)) (fun c_1 => ?_) (fun c_1 => absurd c_1 (by omega))
  refine lv_iload_n hx hb dX7_put_11 rfl (lv_at hl 2 rfl) ?_
  refine lv_i2l (v := lN d) hx hb dX7_put_12 (nI_l (by omega)) ?_
  refine lv_lconst (v := (0 : Int64)) hx hb dX7_put_13 (by decide) ?_
  refine lv_ldc2 (v := (59 : Int64)) hx hb hown (hts _ mg_685) dX7_put_14 ?_
  have e1 : (lN d : Int64).toInt = ((d : Nat) : Int) := lN_toInt (by omega)
  have e2 : ((0) : Int64).toInt = 0 := (by decide)
  have e3 : ((59 : Int64) : Int64).toInt = 59 := (by decide)
  refine ro_iS (n := 3) (As := [.long (lN d), .long (0), .long (59 : Int64)]) ⟨hx, hb, hml, hown, hts⟩ (c_X7_inT l D (lN d) ((0)) ((59 : Int64)) (by constructor <;> omega)) (cwS 3 hts (gS mg_534 mg_535 mg_8 mg_536) rfl rfl rfl vd_X7_in ⟨Nat.le_of_ble_eq_true rfl, Nat.le_of_ble_eq_true rfl⟩)  (hK.sub [] rfl) (fun k q h => by simp at h) rfl hl.1 rfl (Nat.le_of_ble_eq_true rfl) dX7_put_17 ⟨Nat.zero_le _, Nat.zero_le _⟩ ?_
  refine j_if_ne (tgt := 26) hx hb dX7_put_20 (by decide) (nI_toInt (by decide)) (fun c_2 => ?_) (fun c_2 => absurd c_2 (by omega))
  refine lv_aload_n hx hb dX7_put_26 rfl (lv_at hl 0 rfl) ?_
  refine va_get (D := D) (ci := 7) (v := .int (nI q.2.1)) (C := RX7) (T := TX7) (N := 22) hx hb hts iX7 hown hK hP 0 rfl rfl 12 (by decide) (hts _ mg_474) (fun _ h9 => h9) (congrArg (fun z => some (Value.int z)) (MR_12 hM)) dX7_put_27 ?_
  refine lv_bipush (v := nI 8) hx hb dX7_put_30 (by decide) ?_
  refine j_icmp_ne (tgt := 38) hx hb dX7_put_32 (by decide) (nI_toInt (by omega)) (nI_toInt (by decide)) (fun c_3 => absurd c_3 (by omega)) (fun c_3 => ?_)
  refine lv_bipush (v := (-104)) hx hb dX7_put_35 (by decide) ?_
  exact rw_iret (wp := (fun u => mW h g cI u.1 hz u.2)) (post := (fun (r : Int32) (u : (Nat → Int32) × (Nat → Nat → Int32)) => r = -104 ∧ MF b pn xr xi pc q kq u.1 u.2)) (J, G) hx hb hr hlocks hK hP hD hS (rfl) (⟨rfl, hF⟩) dX7_put_37

set_option maxHeartbeats 4000000 in
set_option maxRecDepth 100000 in
theorem c_X7_putI1 (l : Launch) (D : va_G) (h : Nat) (g : Nat → Nat) (cI : ClassId) (sz : Nat) (J : Nat → Int32) (hz : Int64) (G : Nat → Nat → Int32) (b : Nat → Nat → Nat) (pn xr xi : Nat) (pc : Nat → Int32) (q kq : RS) (hF : MF b pn xr xi pc q kq J G) (hokz : ¬ q.1 = 0 → hok b) (hT : Tok q) (i : Nat) (hi : i < q.1) (d : Nat) (hd : d < 60) (h8 : ¬ q.2.1 = 8) : WI l yX7_put (wA yX7_put cX7_put 4 (some .int)) ({ frames := 2, cells := 0, slots := 0, locals := 46 }) D (iTys cI) (mW h g cI J hz G) sz [.ref h, .int (nI i), .int (nI d), .int (nI 1)] (fun (r : Int32) (u : (Nat → Int32) × (Nat → Nat → Int32)) => r = nI (q.2.1 + 1) ∧ MF b pn xr xi pc (q.1, q.2.1 + 1, q.2.2.1, q.2.2.2.1, upR q.2.2.2.2 q.2.1 (rw4 i d 1 (q.2.2.2.1 i 2))) kq u.1 u.2) (fun u => mW h g cI u.1 hz u.2) := by
  refine rw_startI (by decide) (Nat.le_of_ble_eq_true rfl) ?_
  intro p e s m args below meth c ls A F hP hK hD hA hS hl
  obtain ⟨hx, hb, hr, hlocks, hml, hown, hts⟩ := F
  have hown : s.vm.findClass RX7 = some m.cls := hown
  have hl : lv_has ls 4 [(0, .ref h), (1, .int (nI i)), (2, .int (nI d)), (3, .int (nI 1))] := hl
  have hM := hF.1
  have ht5 := hT.1
  have ht8 := hT.2.1
  obtain ⟨hk0, hv0, hw0, hp0⟩ := hT.2.2.1 i hi
  have hok9 := hokz (by omega)
  refine lv_aload_n hx hb dX7_put_0 rfl (lv_at hl 0 rfl) ?_
  refine lv_iload_n hx hb dX7_put_1 rfl (lv_at hl 1 rfl) ?_
  refine ro_iV (n := 1) (As := [.int (nI i)]) ⟨hx, hb, hml, hown, hts⟩ (c_X7_isTapT l D h g cI J hz G b q hM hT i (by omega)) (cwV 1 hts (gV mg_596 mg_598 mg_1022 mg_8 mg_599) rfl rfl rfl vd_X7_isTap ⟨Nat.le_of_ble_eq_true rfl, Nat.le_of_ble_eq_true rfl⟩) (va_recv hK hP (ci := 7) (q0 := 0) rfl rfl) hK hP rfl hl.1 rfl (Nat.le_of_ble_eq_true rfl) dX7_put_2 ⟨Nat.zero_le _, Nat.zero_le _⟩ ?_
  refine j_if_ne (tgt := 11) hx hb dX7_put_5 (by decide) (nI_toInt (by decide)) (fun c_1 => ?_) (fun c_1 => absurd c_1 (by omega))
  refine lv_iload_n hx hb dX7_put_11 rfl (lv_at hl 2 rfl) ?_
  refine lv_i2l (v := lN d) hx hb dX7_put_12 (nI_l (by omega)) ?_
  refine lv_lconst (v := (0 : Int64)) hx hb dX7_put_13 (by decide) ?_
  refine lv_ldc2 (v := (59 : Int64)) hx hb hown (hts _ mg_685) dX7_put_14 ?_
  have e1 : (lN d : Int64).toInt = ((d : Nat) : Int) := lN_toInt (by omega)
  have e2 : ((0) : Int64).toInt = 0 := (by decide)
  have e3 : ((59 : Int64) : Int64).toInt = 59 := (by decide)
  refine ro_iS (n := 3) (As := [.long (lN d), .long (0), .long (59 : Int64)]) ⟨hx, hb, hml, hown, hts⟩ (c_X7_inT l D (lN d) ((0)) ((59 : Int64)) (by constructor <;> omega)) (cwS 3 hts (gS mg_534 mg_535 mg_8 mg_536) rfl rfl rfl vd_X7_in ⟨Nat.le_of_ble_eq_true rfl, Nat.le_of_ble_eq_true rfl⟩)  (hK.sub [] rfl) (fun k q h => by simp at h) rfl hl.1 rfl (Nat.le_of_ble_eq_true rfl) dX7_put_17 ⟨Nat.zero_le _, Nat.zero_le _⟩ ?_
  refine j_if_ne (tgt := 26) hx hb dX7_put_20 (by decide) (nI_toInt (by decide)) (fun c_2 => ?_) (fun c_2 => absurd c_2 (by omega))
  refine lv_aload_n hx hb dX7_put_26 rfl (lv_at hl 0 rfl) ?_
  refine va_get (D := D) (ci := 7) (v := .int (nI q.2.1)) (C := RX7) (T := TX7) (N := 22) hx hb hts iX7 hown hK hP 0 rfl rfl 12 (by decide) (hts _ mg_474) (fun _ h9 => h9) (congrArg (fun z => some (Value.int z)) (MR_12 hM)) dX7_put_27 ?_
  refine lv_bipush (v := nI 8) hx hb dX7_put_30 (by decide) ?_
  refine j_icmp_ne (tgt := 38) hx hb dX7_put_32 (by decide) (nI_toInt (by omega)) (nI_toInt (by decide)) (fun c_3 => ?_) (fun c_3 => absurd c_3 (by omega))
  refine lv_aload_n hx hb dX7_put_38 rfl (lv_at hl 0 rfl) ?_
  refine va_get (D := D) (ci := 7) (v := .ref (g 13)) (C := RX7) (T := TX7) (N := 22) hx hb hts iX7 hown hK hP 0 rfl rfl 13 (by decide) (hts _ mg_475) (fun _ h9 => h9) rfl dX7_put_39 ?_
  refine lv_iconst (v := nI 4) hx hb dX7_put_42 (by decide) ?_
  refine lv_aload_n hx hb dX7_put_43 rfl (lv_at hl 0 rfl) ?_
  refine va_get (D := D) (ci := 7) (v := .int (nI q.2.1)) (C := RX7) (T := TX7) (N := 22) hx hb hts iX7 hown hK hP 0 rfl rfl 12 (by decide) (hts _ mg_474) (fun _ h9 => h9) (congrArg (fun z => some (Value.int z)) (MR_12 hM)) dX7_put_44 ?_
  refine n_imul hx hb dX7_put_47 ?_
  refine lv_iload_n hx hb dX7_put_48 rfl (lv_at hl 1 rfl) ?_
  refine n_asti hx hb hK hP hD hS 6 0 rfl rfl (by omega) (by decide) dX7_put_49 (fun H locs hP hD hS => ?_)
  have hP : va_P D vwCl (mW h g cI J hz (updF G 13 (upd (G 13) (4 * q.2.1) (nI i)))) H := hP
  have hD : va_D A (mW h g cI J hz (updF G 13 (upd (G 13) (4 * q.2.1) (nI i)))) := hD
  refine lv_aload_n hx hb dX7_put_50 rfl (lv_at hl 0 rfl) ?_
  refine va_get (D := D) (ci := 7) (v := .ref (g 13)) (C := RX7) (T := TX7) (N := 22) hx hb hts iX7 hown hK hP 0 rfl rfl 13 (by decide) (hts _ mg_475) (fun _ h9 => h9) rfl dX7_put_51 ?_
  refine lv_iconst (v := nI 4) hx hb dX7_put_54 (by decide) ?_
  refine lv_aload_n hx hb dX7_put_55 rfl (lv_at hl 0 rfl) ?_
  refine va_get (D := D) (ci := 7) (v := .int (nI q.2.1)) (C := RX7) (T := TX7) (N := 22) hx hb hts iX7 hown hK hP 0 rfl rfl 12 (by decide) (hts _ mg_474) (fun _ h9 => h9) (congrArg (fun z => some (Value.int z)) (MR_12 hM)) dX7_put_56 ?_
  refine n_imul hx hb dX7_put_59 ?_
  refine lv_iconst (v := nI 1) hx hb dX7_put_60 (by decide) ?_
  refine n_iadd hx hb dX7_put_61 ?_
  refine lv_iload_n hx hb dX7_put_62 rfl (lv_at hl 2 rfl) ?_
  refine n_asti hx hb hK hP hD hS 6 0 rfl rfl (by omega) (by decide) dX7_put_63 (fun H locs hP hD hS => ?_)
  have hP : va_P D vwCl (mW h g cI J hz (updF (updF G 13 (upd (G 13) (4 * q.2.1) (nI i))) 13 (upd ((updF G 13 (upd (G 13) (4 * q.2.1) (nI i))) 13) ((4 * q.2.1) + 1) (nI d)))) H := hP
  have hD : va_D A (mW h g cI J hz (updF (updF G 13 (upd (G 13) (4 * q.2.1) (nI i))) 13 (upd ((updF G 13 (upd (G 13) (4 * q.2.1) (nI i))) 13) ((4 * q.2.1) + 1) (nI d)))) := hD
  refine lv_aload_n hx hb dX7_put_64 rfl (lv_at hl 0 rfl) ?_
  refine va_get (D := D) (ci := 7) (v := .ref (g 13)) (C := RX7) (T := TX7) (N := 22) hx hb hts iX7 hown hK hP 0 rfl rfl 13 (by decide) (hts _ mg_475) (fun _ h9 => h9) rfl dX7_put_65 ?_
  refine lv_iconst (v := nI 4) hx hb dX7_put_68 (by decide) ?_
  refine lv_aload_n hx hb dX7_put_69 rfl (lv_at hl 0 rfl) ?_
  refine va_get (D := D) (ci := 7) (v := .int (nI q.2.1)) (C := RX7) (T := TX7) (N := 22) hx hb hts iX7 hown hK hP 0 rfl rfl 12 (by decide) (hts _ mg_474) (fun _ h9 => h9) (congrArg (fun z => some (Value.int z)) (MR_12 hM)) dX7_put_70 ?_
  refine n_imul hx hb dX7_put_73 ?_
  refine lv_iconst (v := nI 2) hx hb dX7_put_74 (by decide) ?_
  refine n_iadd hx hb dX7_put_75 ?_
  refine lv_iload_n hx hb dX7_put_76 rfl (lv_at hl 3 rfl) ?_
  refine j_if_eq (tgt := 84) hx hb dX7_put_77 (by decide) (nI_toInt (by decide)) (fun c_4 => absurd c_4 (by omega)) (fun c_4 => ?_)
  refine lv_iconst (v := nI 1) hx hb dX7_put_80 (by decide) ?_
  refine lv_goto (tgt := 85) hx hb dX7_put_81 (by decide) ?_
  refine n_asti hx hb hK hP hD hS 6 0 rfl rfl (by omega) (by decide) dX7_put_85 (fun H locs hP hD hS => ?_)
  have hP : va_P D vwCl (mW h g cI J hz (updF (updF (updF G 13 (upd (G 13) (4 * q.2.1) (nI i))) 13 (upd ((updF G 13 (upd (G 13) (4 * q.2.1) (nI i))) 13) ((4 * q.2.1) + 1) (nI d))) 13 (upd ((updF (updF G 13 (upd (G 13) (4 * q.2.1) (nI i))) 13 (upd ((updF G 13 (upd (G 13) (4 * q.2.1) (nI i))) 13) ((4 * q.2.1) + 1) (nI d))) 13) ((4 * q.2.1) + 2) (nI 1)))) H := hP
  have hD : va_D A (mW h g cI J hz (updF (updF (updF G 13 (upd (G 13) (4 * q.2.1) (nI i))) 13 (upd ((updF G 13 (upd (G 13) (4 * q.2.1) (nI i))) 13) ((4 * q.2.1) + 1) (nI d))) 13 (upd ((updF (updF G 13 (upd (G 13) (4 * q.2.1) (nI i))) 13 (upd ((updF G 13 (upd (G 13) (4 * q.2.1) (nI i))) 13) ((4 * q.2.1) + 1) (nI d))) 13) ((4 * q.2.1) + 2) (nI 1)))) := hD
  refine lv_aload_n hx hb dX7_put_86 rfl (lv_at hl 0 rfl) ?_
  refine va_get (D := D) (ci := 7) (v := .ref (g 13)) (C := RX7) (T := TX7) (N := 22) hx hb hts iX7 hown hK hP 0 rfl rfl 13 (by decide) (hts _ mg_475) (fun _ h9 => h9) rfl dX7_put_87 ?_
  refine lv_iconst (v := nI 4) hx hb dX7_put_90 (by decide) ?_
  refine lv_aload_n hx hb dX7_put_91 rfl (lv_at hl 0 rfl) ?_
  refine va_get (D := D) (ci := 7) (v := .int (nI q.2.1)) (C := RX7) (T := TX7) (N := 22) hx hb hts iX7 hown hK hP 0 rfl rfl 12 (by decide) (hts _ mg_474) (fun _ h9 => h9) (congrArg (fun z => some (Value.int z)) (MR_12 hM)) dX7_put_92 ?_
  refine n_imul hx hb dX7_put_95 ?_
  refine lv_iconst (v := nI 3) hx hb dX7_put_96 (by decide) ?_
  refine n_iadd hx hb dX7_put_97 ?_
  refine lv_aload_n hx hb dX7_put_98 rfl (lv_at hl 0 rfl) ?_
  refine va_get (D := D) (ci := 7) (v := .ref (g 11)) (C := RX7) (T := TX7) (N := 22) hx hb hts iX7 hown hK hP 0 rfl rfl 11 (by decide) (hts _ mg_473) (fun _ h9 => h9) rfl dX7_put_99 ?_
  refine lv_iconst (v := nI 4) hx hb dX7_put_102 (by decide) ?_
  refine lv_iload_n hx hb dX7_put_103 rfl (lv_at hl 1 rfl) ?_
  refine n_imul hx hb dX7_put_104 ?_
  refine lv_iconst (v := nI 2) hx hb dX7_put_105 (by decide) ?_
  refine n_iadd hx hb dX7_put_106 ?_
  refine n_aldi hx hb hK hP 5 0 rfl rfl (by omega) (by decide) (v := nI (q.2.2.2.1 i 2)) (MR_row hM (by omega) (by omega)) dX7_put_107 ?_
  refine n_asti hx hb hK hP hD hS 6 0 rfl rfl (by omega) (by decide) dX7_put_108 (fun H locs hP hD hS => ?_)
  have hP : va_P D vwCl (mW h g cI J hz (updF (updF (updF (updF G 13 (upd (G 13) (4 * q.2.1) (nI i))) 13 (upd ((updF G 13 (upd (G 13) (4 * q.2.1) (nI i))) 13) ((4 * q.2.1) + 1) (nI d))) 13 (upd ((updF (updF G 13 (upd (G 13) (4 * q.2.1) (nI i))) 13 (upd ((updF G 13 (upd (G 13) (4 * q.2.1) (nI i))) 13) ((4 * q.2.1) + 1) (nI d))) 13) ((4 * q.2.1) + 2) (nI 1))) 13 (upd ((updF (updF (updF G 13 (upd (G 13) (4 * q.2.1) (nI i))) 13 (upd ((updF G 13 (upd (G 13) (4 * q.2.1) (nI i))) 13) ((4 * q.2.1) + 1) (nI d))) 13 (upd ((updF (updF G 13 (upd (G 13) (4 * q.2.1) (nI i))) 13 (upd ((updF G 13 (upd (G 13) (4 * q.2.1) (nI i))) 13) ((4 * q.2.1) + 1) (nI d))) 13) ((4 * q.2.1) + 2) (nI 1))) 13) ((4 * q.2.1) + 3) (nI (q.2.2.2.1 i 2))))) H := hP
  have hD : va_D A (mW h g cI J hz (updF (updF (updF (updF G 13 (upd (G 13) (4 * q.2.1) (nI i))) 13 (upd ((updF G 13 (upd (G 13) (4 * q.2.1) (nI i))) 13) ((4 * q.2.1) + 1) (nI d))) 13 (upd ((updF (updF G 13 (upd (G 13) (4 * q.2.1) (nI i))) 13 (upd ((updF G 13 (upd (G 13) (4 * q.2.1) (nI i))) 13) ((4 * q.2.1) + 1) (nI d))) 13) ((4 * q.2.1) + 2) (nI 1))) 13 (upd ((updF (updF (updF G 13 (upd (G 13) (4 * q.2.1) (nI i))) 13 (upd ((updF G 13 (upd (G 13) (4 * q.2.1) (nI i))) 13) ((4 * q.2.1) + 1) (nI d))) 13 (upd ((updF (updF G 13 (upd (G 13) (4 * q.2.1) (nI i))) 13 (upd ((updF G 13 (upd (G 13) (4 * q.2.1) (nI i))) 13) ((4 * q.2.1) + 1) (nI d))) 13) ((4 * q.2.1) + 2) (nI 1))) 13) ((4 * q.2.1) + 3) (nI (q.2.2.2.1 i 2))))) := hD
  refine lv_aload_n hx hb dX7_put_109 rfl (lv_at hl 0 rfl) ?_
  refine lv_dup hx hb dX7_put_110 rfl ?_
  refine va_get (D := D) (ci := 7) (v := .int (nI q.2.1)) (C := RX7) (T := TX7) (N := 22) hx hb hts iX7 hown hK hP 0 rfl rfl 12 (by decide) (hts _ mg_474) (fun _ h9 => h9) (congrArg (fun z => some (Value.int z)) (MR_12 hM)) dX7_put_111 ?_
  refine lv_iconst (v := nI 1) hx hb dX7_put_114 (by decide) ?_
  refine n_iadd hx hb dX7_put_115 ?_
  refine va_put (D := D) (ci := 7) (v := .int (nI (q.2.1 + 1))) (ty := .int) (C := RX7) (T := TX7) (N := 22) hx hb hts iX7 tyX7 tyX7_ok nmX7 hown hK hP hD hS 0 rfl rfl 12 (by decide) (hts _ mg_474) (fun _ h9 => h9) rfl (tyX7_ok 12 (by decide)) rfl rfl (Nat.le_of_ble_eq_true rfl) dX7_put_116 (fun H locs hP hD hS => ?_)
  have hP : va_P D vwCl (mW h g cI (upd J 12 (nI (q.2.1 + 1))) hz (updF (updF (updF (updF G 13 (upd (G 13) (4 * q.2.1) (nI i))) 13 (upd ((updF G 13 (upd (G 13) (4 * q.2.1) (nI i))) 13) ((4 * q.2.1) + 1) (nI d))) 13 (upd ((updF (updF G 13 (upd (G 13) (4 * q.2.1) (nI i))) 13 (upd ((updF G 13 (upd (G 13) (4 * q.2.1) (nI i))) 13) ((4 * q.2.1) + 1) (nI d))) 13) ((4 * q.2.1) + 2) (nI 1))) 13 (upd ((updF (updF (updF G 13 (upd (G 13) (4 * q.2.1) (nI i))) 13 (upd ((updF G 13 (upd (G 13) (4 * q.2.1) (nI i))) 13) ((4 * q.2.1) + 1) (nI d))) 13 (upd ((updF (updF G 13 (upd (G 13) (4 * q.2.1) (nI i))) 13 (upd ((updF G 13 (upd (G 13) (4 * q.2.1) (nI i))) 13) ((4 * q.2.1) + 1) (nI d))) 13) ((4 * q.2.1) + 2) (nI 1))) 13) ((4 * q.2.1) + 3) (nI (q.2.2.2.1 i 2))))) H := hP
  have hD : va_D A (mW h g cI (upd J 12 (nI (q.2.1 + 1))) hz (updF (updF (updF (updF G 13 (upd (G 13) (4 * q.2.1) (nI i))) 13 (upd ((updF G 13 (upd (G 13) (4 * q.2.1) (nI i))) 13) ((4 * q.2.1) + 1) (nI d))) 13 (upd ((updF (updF G 13 (upd (G 13) (4 * q.2.1) (nI i))) 13 (upd ((updF G 13 (upd (G 13) (4 * q.2.1) (nI i))) 13) ((4 * q.2.1) + 1) (nI d))) 13) ((4 * q.2.1) + 2) (nI 1))) 13 (upd ((updF (updF (updF G 13 (upd (G 13) (4 * q.2.1) (nI i))) 13 (upd ((updF G 13 (upd (G 13) (4 * q.2.1) (nI i))) 13) ((4 * q.2.1) + 1) (nI d))) 13 (upd ((updF (updF G 13 (upd (G 13) (4 * q.2.1) (nI i))) 13 (upd ((updF G 13 (upd (G 13) (4 * q.2.1) (nI i))) 13) ((4 * q.2.1) + 1) (nI d))) 13) ((4 * q.2.1) + 2) (nI 1))) 13) ((4 * q.2.1) + 3) (nI (q.2.2.2.1 i 2))))) := hD
  refine lv_aload_n hx hb dX7_put_119 rfl (lv_at hl 0 rfl) ?_
  refine va_get (D := D) (ci := 7) (v := .int (nI (q.2.1 + 1))) (C := RX7) (T := TX7) (N := 22) hx hb hts iX7 hown hK hP 0 rfl rfl 12 (by decide) (hts _ mg_474) (fun _ h9 => h9) (congrArg (fun z => some (Value.int z)) rfl) dX7_put_120 ?_
  exact rw_iret (wp := (fun u => mW h g cI u.1 hz u.2)) (post := (fun (r : Int32) (u : (Nat → Int32) × (Nat → Nat → Int32)) => r = nI (q.2.1 + 1) ∧ MF b pn xr xi pc (q.1, q.2.1 + 1, q.2.2.1, q.2.2.2.1, upR q.2.2.2.2 q.2.1 (rw4 i d 1 (q.2.2.2.1 i 2))) kq u.1 u.2)) (upd J 12 (nI (q.2.1 + 1)), updF (updF (updF (updF G 13 (upd (G 13) (4 * q.2.1) (nI i))) 13 (upd ((updF G 13 (upd (G 13) (4 * q.2.1) (nI i))) 13) ((4 * q.2.1) + 1) (nI d))) 13 (upd ((updF (updF G 13 (upd (G 13) (4 * q.2.1) (nI i))) 13 (upd ((updF G 13 (upd (G 13) (4 * q.2.1) (nI i))) 13) ((4 * q.2.1) + 1) (nI d))) 13) ((4 * q.2.1) + 2) (nI 1))) 13 (upd ((updF (updF (updF G 13 (upd (G 13) (4 * q.2.1) (nI i))) 13 (upd ((updF G 13 (upd (G 13) (4 * q.2.1) (nI i))) 13) ((4 * q.2.1) + 1) (nI d))) 13 (upd ((updF (updF G 13 (upd (G 13) (4 * q.2.1) (nI i))) 13 (upd ((updF G 13 (upd (G 13) (4 * q.2.1) (nI i))) 13) ((4 * q.2.1) + 1) (nI d))) 13) ((4 * q.2.1) + 2) (nI 1))) 13) ((4 * q.2.1) + 3) (nI (q.2.2.2.1 i 2)))) hx hb hr hlocks hK hP hD hS (rfl) (⟨rfl, ⟨⟨hM.1, rfl, hM.2.2.1, hM.2.2.2.1, hM.2.2.2.2.1, row_new hM.2.2.2.2.2⟩, hF.2⟩⟩) dX7_put_123
