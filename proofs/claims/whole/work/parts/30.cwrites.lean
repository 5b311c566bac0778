set_option maxHeartbeats 4000000 in
set_option maxRecDepth 100000 in
theorem c_X1_clear (l : Launch) (D : va_G) (a : Nat → Nat) (cI cT cN : ClassId) (sz pn : Nat) (pc : Nat → Int32) (rd : Nat × Nat × Nat) : WV l yX1_clear (wA yX1_clear cX1_clear 1 none) ({ frames := 0, cells := 0, slots := 0, locals := 0 }) D (cTys cI cT cN) (pW a cI pn pc rd) sz [.ref (a 1)] (fun _ : Unit => True) (fun _ : Unit => pW a cI 0 pc rd) := by
  refine rw_startV (by decide) (Nat.le_of_ble_eq_true rfl) ?_
  intro p e s m args below meth c ls A F hP hK hD hA hS hl
  obtain ⟨hx, hb, hr, hlocks, hml, hown, hts⟩ := F
  have hown : s.vm.findClass RX1 = some m.cls := hown
  have hl : lv_has ls 1 [(0, .ref (a 1))] := hl
  refine lv_aload_n hx hb dX1_clear_0 rfl (lv_at hl 0 rfl) ?_
  refine lv_iconst (v := nI 0) hx hb dX1_clear_1 (by decide) ?_
  refine va_put (D := D) (ci := 1) (v := .int (nI 0)) (ty := .int) (C := RX1) (T := TX1) (N := 3) hx hb hts iX1 tyX1 tyX1_ok nmX1 hown hK hP hD hS 0 rfl rfl 2 (by decide) (hts _ mg_43) (fun _ h9 => h9) rfl (tyX1_ok 2 (by decide)) rfl rfl (Nat.le_of_ble_eq_true rfl) dX1_clear_2 (fun H locs hP hD hS => ?_)
  have hP : va_P D vwCl (pW a cI 0 pc rd) H := hP
  have hD : va_D A (pW a cI 0 pc rd) := hD
  exact rw_vret (wp := (fun _ : Unit => pW a cI 0 pc rd)) (post := (fun _ : Unit => True)) () hx hb hr hlocks hK hP hD hS (rfl) (trivial) dX1_clear_5

set_option maxHeartbeats 4000000 in
set_option maxRecDepth 100000 in
theorem c_X1_add (l : Launch) (D : va_G) (a : Nat → Nat) (cI cT cN : ClassId) (sz pn : Nat) (pc : Nat → Int32) (rd : Nat × Nat × Nat) (c9 : Int32) (h30 : pn < 30) : WV l yX1_add (wA yX1_add cX1_add 2 none) ({ frames := 0, cells := 0, slots := 0, locals := 0 }) D (cTys cI cT cN) (pW a cI pn pc rd) sz [.ref (a 1), .int c9] (fun _ : Unit => True) (fun _ : Unit => pW a cI (pn + 1) (upd pc pn c9) rd) := by
  refine rw_startV (by decide) (Nat.le_of_ble_eq_true rfl) ?_
  intro p e s m args below meth c ls A F hP hK hD hA hS hl
  obtain ⟨hx, hb, hr, hlocks, hml, hown, hts⟩ := F
  have hown : s.vm.findClass RX1 = some m.cls := hown
  have hl : lv_has ls 2 [(0, .ref (a 1)), (1, .int c9)] := hl
  refine lv_aload_n hx hb dX1_add_0 rfl (lv_at hl 0 rfl) ?_
  refine va_get (D := D) (ci := 1) (v := .int (nI pn)) (C := RX1) (T := TX1) (N := 3) hx hb hts iX1 hown hK hP 0 rfl rfl 2 (by decide) (hts _ mg_43) (fun _ h9 => h9) rfl dX1_add_1 ?_
  refine j_if_lt (tgt := 19) hx hb dX1_add_4 (by decide) (nI_toInt (by omega)) (fun c_1 => absurd c_1 (by omega)) (fun c_1 => ?_)
  refine lv_aload_n hx hb dX1_add_7 rfl (lv_at hl 0 rfl) ?_
  refine va_get (D := D) (ci := 1) (v := .int (nI pn)) (C := RX1) (T := TX1) (N := 3) hx hb hts iX1 hown hK hP 0 rfl rfl 2 (by decide) (hts _ mg_43) (fun _ h9 => h9) rfl dX1_add_8 ?_
  refine lv_aload_n hx hb dX1_add_11 rfl (lv_at hl 0 rfl) ?_
  refine va_get (D := D) (ci := 1) (v := .ref (a 2)) (C := RX1) (T := TX1) (N := 3) hx hb hts iX1 hown hK hP 0 rfl rfl 0 (by decide) (hts _ mg_41) (fun _ h9 => h9) rfl dX1_add_12 ?_
  refine va_alen (v := nI 30) hx hb hK hP 1 0 rfl rfl rfl dX1_add_15 ?_
  refine j_icmp_lt (tgt := 20) hx hb dX1_add_16 (by decide) (nI_toInt (by omega)) (nI_toInt (by decide)) (fun c_2 => ?_) (fun c_2 => absurd c_2 (by omega))
  refine lv_aload_n hx hb dX1_add_20 rfl (lv_at hl 0 rfl) ?_
  refine va_get (D := D) (ci := 1) (v := .ref (a 2)) (C := RX1) (T := TX1) (N := 3) hx hb hts iX1 hown hK hP 0 rfl rfl 0 (by decide) (hts _ mg_41) (fun _ h9 => h9) rfl dX1_add_21 ?_
  refine lv_aload_n hx hb dX1_add_24 rfl (lv_at hl 0 rfl) ?_
  refine va_get (D := D) (ci := 1) (v := .int (nI pn)) (C := RX1) (T := TX1) (N := 3) hx hb hts iX1 hown hK hP 0 rfl rfl 2 (by decide) (hts _ mg_43) (fun _ h9 => h9) rfl dX1_add_25 ?_
  refine lv_iload_n hx hb dX1_add_28 rfl (lv_at hl 1 rfl) ?_
  refine n_asti hx hb hK hP hD hS 1 0 rfl rfl (by omega) (by decide) dX1_add_29 (fun H locs hP hD hS => ?_)
  have hP : va_P D vwCl (pW a cI pn (upd pc pn c9) rd) H := hP
  have hD : va_D A (pW a cI pn (upd pc pn c9) rd) := hD
  refine lv_aload_n hx hb dX1_add_30 rfl (lv_at hl 0 rfl) ?_
  refine lv_dup hx hb dX1_add_31 rfl ?_
  refine va_get (D := D) (ci := 1) (v := .int (nI pn)) (C := RX1) (T := TX1) (N := 3) hx hb hts iX1 hown hK hP 0 rfl rfl 2 (by decide) (hts _ mg_43) (fun _ h9 => h9) rfl dX1_add_32 ?_
  refine lv_iconst (v := nI 1) hx hb dX1_add_35 (by decide) ?_
  refine n_iadd hx hb dX1_add_36 ?_
  refine va_put (D := D) (ci := 1) (v := .int (nI (pn + 1))) (ty := .int) (C := RX1) (T := TX1) (N := 3) hx hb hts iX1 tyX1 tyX1_ok nmX1 hown hK hP hD hS 0 rfl rfl 2 (by decide) (hts _ mg_43) (fun _ h9 => h9) rfl (tyX1_ok 2 (by decide)) rfl rfl (Nat.le_of_ble_eq_true rfl) dX1_add_37 (fun H locs hP hD hS => ?_)
  have hP : va_P D vwCl (pW a cI (pn + 1) (upd pc pn c9) rd) H := hP
  have hD : va_D A (pW a cI (pn + 1) (upd pc pn c9) rd) := hD
  exact rw_vret (wp := (fun _ : Unit => pW a cI (pn + 1) (upd pc pn c9) rd)) (post := (fun _ : Unit => True)) () hx hb hr hlocks hK hP hD hS (rfl) (trivial) dX1_add_40

set_option maxHeartbeats 4000000 in
set_option maxRecDepth 100000 in
theorem c_X6_letterO (l : Launch) (D : va_G) (a r k : Nat → Nat) (cI cT cN : ClassId) (sz : Nat) (xh xi xr pn : Nat) (pc : Nat → Int32) (rd : Nat × Nat × Nat) (B L : Nat → Int32) (q kq : RS) (c9 : Int32) (oc : ¬ inr c9 1 127) : WI l yX6_letter (wA yX6_letter cX6_letter 2 (some .int)) ({ frames := 1, cells := 0, slots := 0, locals := 21 }) D (cTys cI cT cN) (cW a r k cI cT cN xh xi xr pn pc rd B L q kq) sz [.ref (a 0), .int c9] (fun (r : Int32) (_ : Unit) => r = -102) (fun _ : Unit => (cW a r k cI cT cN xh xi xr pn pc rd B L q kq)) := by
  refine rw_startI (by decide) (Nat.le_of_ble_eq_true rfl) ?_
  intro p e s m args below meth c ls A F hP hK hD hA hS hl
  obtain ⟨hx, hb, hr, hlocks, hml, hown, hts⟩ := F
  have hown : s.vm.findClass RX6 = some m.cls := hown
  have hl : lv_has ls 2 [(0, .ref (a 0)), (1, .int c9)] := hl
  have oc7 := inr_out oc
  refine lv_iload_n hx hb dX6_letter_0 rfl (lv_at hl 1 rfl) ?_
  refine lv_iconst (v := nI 1) hx hb dX6_letter_1 (by decide) ?_
  refine j_icmp_lt (tgt := 11) hx hb dX6_letter_2 (by decide) rfl (nI_toInt (by decide)) (fun c_1 => ?_) (fun c_1 => ?_)
  · refine lv_bipush (v := (-102)) hx hb dX6_letter_11 (by decide) ?_
    exact rw_iret (wp := (fun _ : Unit => (cW a r k cI cT cN xh xi xr pn pc rd B L q kq))) (post := (fun (r : Int32) (_ : Unit) => r = -102)) () hx hb hr hlocks hK hP hD hS (rfl) (rfl) dX6_letter_13
  · refine lv_iload_n hx hb dX6_letter_5 rfl (lv_at hl 1 rfl) ?_
    refine lv_bipush (v := nI 126) hx hb dX6_letter_6 (by decide) ?_
    refine j_icmp_le (tgt := 14) hx hb dX6_letter_8 (by decide) rfl (nI_toInt (by decide)) (fun c_2 => absurd c_2 (by omega)) (fun c_2 => ?_)
    refine lv_bipush (v := (-102)) hx hb dX6_letter_11 (by decide) ?_
    exact rw_iret (wp := (fun _ : Unit => (cW a r k cI cT cN xh xi xr pn pc rd B L q kq))) (post := (fun (r : Int32) (_ : Unit) => r = -102)) () hx hb hr hlocks hK hP hD hS (rfl) (rfl) dX6_letter_13

set_option maxHeartbeats 4000000 in
set_option maxRecDepth 100000 in
theorem c_X6_letterF (l : Launch) (D : va_G) (a r k : Nat → Nat) (cI cT cN : ClassId) (sz : Nat) (xh xi xr pn : Nat) (pc : Nat → Int32) (rd : Nat × Nat × Nat) (B L : Nat → Int32) (q kq : RS) (c9 : Int32) (oc : inr c9 1 127) (h30 : pn = 30) : WI l yX6_letter (wA yX6_letter cX6_letter 2 (some .int)) ({ frames := 1, cells := 0, slots := 0, locals := 21 }) D (cTys cI cT cN) (cW a r k cI cT cN xh xi xr pn pc rd B L q kq) sz [.ref (a 0), .int c9] (fun (r : Int32) (_ : Unit) => r = -104) (fun _ : Unit => (cW a r k cI cT cN xh xi xr pn pc rd B L q kq)) := by
  refine rw_startI (by decide) (Nat.le_of_ble_eq_true rfl) ?_
  intro p e s m args below meth c ls A F hP hK hD hA hS hl
  obtain ⟨hx, hb, hr, hlocks, hml, hown, hts⟩ := F
  have hown : s.vm.findClass RX6 = some m.cls := hown
  have hl : lv_has ls 2 [(0, .ref (a 0)), (1, .int c9)] := hl
  have oc7 := oc.1
  have oc8 := oc.2
  refine lv_iload_n hx hb dX6_letter_0 rfl (lv_at hl 1 rfl) ?_
  refine lv_iconst (v := nI 1) hx hb dX6_letter_1 (by decide) ?_
  refine j_icmp_lt (tgt := 11) hx hb dX6_letter_2 (by decide) rfl (nI_toInt (by decide)) (fun c_1 => absurd c_1 (by omega)) (fun c_1 => ?_)
  refine lv_iload_n hx hb dX6_letter_5 rfl (lv_at hl 1 rfl) ?_
  refine lv_bipush (v := nI 126) hx hb dX6_letter_6 (by decide) ?_
  refine j_icmp_le (tgt := 14) hx hb dX6_letter_8 (by decide) rfl (nI_toInt (by decide)) (fun c_2 => ?_) (fun c_2 => absurd c_2 (by omega))
  refine lv_aload_n hx hb dX6_letter_14 rfl (lv_at hl 0 rfl) ?_
  refine va_get (D := D) (ci := 6) (v := .ref (a 1)) (C := RX6) (T := TX6) (N := 7) hx hb hts iX6 hown hK hP 0 rfl rfl 0 (by decide) (hts _ mg_151) (fun _ h9 => h9) rfl dX6_letter_15 ?_
  refine va_get (D := D) (ci := 1) (v := .int (nI pn)) (C := RX1) (T := TX1) (N := 3) hx hb hts iX1 hown hK hP 1 rfl rfl 2 (by decide) (hts _ mg_44) (fun _ h9 => h9) rfl dX6_letter_18 ?_
  refine lv_bipush (v := nI 30) hx hb dX6_letter_21 (by decide) ?_
  refine j_icmp_lt (tgt := 29) hx hb dX6_letter_23 (by decide) (nI_toInt (by omega)) (nI_toInt (by decide)) (fun c_3 => absurd c_3 (by omega)) (fun c_3 => ?_)
  refine lv_bipush (v := (-104)) hx hb dX6_letter_26 (by decide) ?_
  exact rw_iret (wp := (fun _ : Unit => (cW a r k cI cT cN xh xi xr pn pc rd B L q kq))) (post := (fun (r : Int32) (_ : Unit) => r = -104)) () hx hb hr hlocks hK hP hD hS (rfl) (rfl) dX6_letter_28

set_option maxHeartbeats 4000000 in
set_option maxRecDepth 100000 in
theorem c_X6_letterI (l : Launch) (D : va_G) (a r k : Nat → Nat) (cI cT cN : ClassId) (sz : Nat) (xh xi xr pn : Nat) (pc : Nat → Int32) (rd : Nat × Nat × Nat) (B L : Nat → Int32) (q kq : RS) (c9 : Int32) (oc : inr c9 1 127) (h30 : pn < 30) : WI l yX6_letter (wA yX6_letter cX6_letter 2 (some .int)) ({ frames := 1, cells := 0, slots := 0, locals := 21 }) D (cTys cI cT cN) (cW a r k cI cT cN xh xi xr pn pc rd B L q kq) sz [.ref (a 0), .int c9] (fun (r : Int32) (_ : Unit) => r = nI (pn + 1)) (fun _ : Unit => (cW a r k cI cT cN xh xi xr (pn + 1) (upd pc pn c9) rd B L q kq)) := by
  refine rw_startI (by decide) (Nat.le_of_ble_eq_true rfl) ?_
  intro p e s m args below meth c ls A F hP hK hD hA hS hl
  obtain ⟨hx, hb, hr, hlocks, hml, hown, hts⟩ := F
  have hown : s.vm.findClass RX6 = some m.cls := hown
  have hl : lv_has ls 2 [(0, .ref (a 0)), (1, .int c9)] := hl
  have oc7 := oc.1
  have oc8 := oc.2
  refine lv_iload_n hx hb dX6_letter_0 rfl (lv_at hl 1 rfl) ?_
  refine lv_iconst (v := nI 1) hx hb dX6_letter_1 (by decide) ?_
  refine j_icmp_lt (tgt := 11) hx hb dX6_letter_2 (by decide) rfl (nI_toInt (by decide)) (fun c_1 => absurd c_1 (by omega)) (fun c_1 => ?_)
  refine lv_iload_n hx hb dX6_letter_5 rfl (lv_at hl 1 rfl) ?_
  refine lv_bipush (v := nI 126) hx hb dX6_letter_6 (by decide) ?_
  refine j_icmp_le (tgt := 14) hx hb dX6_letter_8 (by decide) rfl (nI_toInt (by decide)) (fun c_2 => ?_) (fun c_2 => absurd c_2 (by omega))
  refine lv_aload_n hx hb dX6_letter_14 rfl (lv_at hl 0 rfl) ?_
  refine va_get (D := D) (ci := 6) (v := .ref (a 1)) (C := RX6) (T := TX6) (N := 7) hx hb hts iX6 hown hK hP 0 rfl rfl 0 (by decide) (hts _ mg_151) (fun _ h9 => h9) rfl dX6_letter_15 ?_
  refine va_get (D := D) (ci := 1) (v := .int (nI pn)) (C := RX1) (T := TX1) (N := 3) hx hb hts iX1 hown hK hP 1 rfl rfl 2 (by decide) (hts _ mg_44) (fun _ h9 => h9) rfl dX6_letter_18 ?_
  refine lv_bipush (v := nI 30) hx hb dX6_letter_21 (by decide) ?_
  refine j_icmp_lt (tgt := 29) hx hb dX6_letter_23 (by decide) (nI_toInt (by omega)) (nI_toInt (by decide)) (fun c_3 => ?_) (fun c_3 => absurd c_3 (by omega))
  refine lv_aload_n hx hb dX6_letter_29 rfl (lv_at hl 0 rfl) ?_
  refine va_get (D := D) (ci := 6) (v := .ref (a 1)) (C := RX6) (T := TX6) (N := 7) hx hb hts iX6 hown hK hP 0 rfl rfl 0 (by decide) (hts _ mg_151) (fun _ h9 => h9) rfl dX6_letter_30 ?_
  refine lv_iload_n hx hb dX6_letter_33 rfl (lv_at hl 1 rfl) ?_
  refine rw_vV (X := ([mainC a r k xh xi xr])) (Y := (sW a cI B L ++ (rW r cT cN q ++ rW k cT cN kq))) (n := 1) (As := [.int c9]) ⟨hx, hb, hml, hown, hts⟩ (c_X1_add l D a cI cT cN _ pn pc rd c9 h30) (cwV 1 hts (gV mg_177 mg_178 mg_179 mg_2 mg_180) rfl rfl rfl vd_X1_add ⟨Nat.le_of_ble_eq_true rfl, Nat.le_of_ble_eq_true rfl⟩) (va_recv hK hP (ci := 1) (q0 := 1) rfl rfl) hK hP hD hS hA rfl hl.1 rfl (Nat.le_of_ble_eq_true rfl) dX6_letter_34 ⟨Nat.zero_le _, Nat.zero_le _⟩ (fun u_4 H locs w_5 hP hD hS => ?_)
  have hP : va_P D vwCl (cW a r k cI cT cN xh xi xr (pn + 1) (upd pc pn c9) rd B L q kq) H := hP
  have hD : va_D A (cW a r k cI cT cN xh xi xr (pn + 1) (upd pc pn c9) rd B L q kq) := hD
  refine lv_aload_n hx hb dX6_letter_37 rfl (lv_at hl 0 rfl) ?_
  refine va_get (D := D) (ci := 6) (v := .ref (a 1)) (C := RX6) (T := TX6) (N := 7) hx hb hts iX6 hown hK hP 0 rfl rfl 0 (by decide) (hts _ mg_151) (fun _ h9 => h9) rfl dX6_letter_38 ?_
  refine va_get (D := D) (ci := 1) (v := .int (nI (pn + 1))) (C := RX1) (T := TX1) (N := 3) hx hb hts iX1 hown hK hP 1 rfl rfl 2 (by decide) (hts _ mg_44) (fun _ h9 => h9) rfl dX6_letter_41 ?_
  exact rw_iret (wp := (fun _ : Unit => (cW a r k cI cT cN xh xi xr (pn + 1) (upd pc pn c9) rd B L q kq))) (post := (fun (r : Int32) (_ : Unit) => r = nI (pn + 1))) () hx hb hr hlocks hK hP hD hS (rfl) (rfl) dX6_letter_44

set_option maxHeartbeats 4000000 in
set_option maxRecDepth 100000 in
theorem c_X6_blank (l : Launch) (D : va_G) (a r k : Nat → Nat) (cI cT cN : ClassId) (sz : Nat) (xh xi xr pn : Nat) (pc : Nat → Int32) (rd : Nat × Nat × Nat) (B L : Nat → Int32) (q kq : RS) : WI l yX6_blank (wA yX6_blank cX6_blank 2 (some .int)) ({ frames := 1, cells := 0, slots := 0, locals := 20 }) D (cTys cI cT cN) (cW a r k cI cT cN xh xi xr pn pc rd B L q kq) sz [.ref (a 0)] (fun (r : Int32) (_ : Unit) => r = nI pn) (fun _ : Unit => (cW a r k cI cT cN xh xi xr 0 pc rd B L q kq)) := by
  refine rw_startI (by decide) (Nat.le_of_ble_eq_true rfl) ?_
  intro p e s m args below meth c ls A F hP hK hD hA hS hl
  obtain ⟨hx, hb, hr, hlocks, hml, hown, hts⟩ := F
  have hown : s.vm.findClass RX6 = some m.cls := hown
  have hl : lv_has ls 2 [(0, .ref (a 0))] := hl
  refine lv_aload_n hx hb dX6_blank_0 rfl (lv_at hl 0 rfl) ?_
  refine va_get (D := D) (ci := 6) (v := .ref (a 1)) (C := RX6) (T := TX6) (N := 7) hx hb hts iX6 hown hK hP 0 rfl rfl 0 (by decide) (hts _ mg_151) (fun _ h9 => h9) rfl dX6_blank_1 ?_
  refine va_get (D := D) (ci := 1) (v := .int (nI pn)) (C := RX1) (T := TX1) (N := 3) hx hb hts iX1 hown hK hP 1 rfl rfl 2 (by decide) (hts _ mg_44) (fun _ h9 => h9) rfl dX6_blank_4 ?_
  refine lv_istore_n (lv' := [(1, .int (nI pn)), (0, .ref (a 0))]) hx hb dX6_blank_7 rfl hl (by decide) rfl (fun ls hl => ?_)
  refine lv_aload_n hx hb dX6_blank_8 rfl (lv_at hl 1 rfl) ?_
  refine va_get (D := D) (ci := 6) (v := .ref (a 1)) (C := RX6) (T := TX6) (N := 7) hx hb hts iX6 hown hK hP 0 rfl rfl 0 (by decide) (hts _ mg_151) (fun _ h9 => h9) rfl dX6_blank_9 ?_
  refine rw_vV (X := ([mainC a r k xh xi xr])) (Y := (sW a cI B L ++ (rW r cT cN q ++ rW k cT cN kq))) (n := 0) (As := []) ⟨hx, hb, hml, hown, hts⟩ (c_X1_clear l D a cI cT cN _ pn pc rd) (cwV 0 hts (gV mg_185 mg_186 mg_187 mg_2 mg_188) rfl rfl rfl vd_X1_clear ⟨Nat.le_of_ble_eq_true rfl, Nat.le_of_ble_eq_true rfl⟩) (va_recv hK hP (ci := 1) (q0 := 1) rfl rfl) hK hP hD hS hA rfl hl.1 rfl (Nat.le_of_ble_eq_true rfl) dX6_blank_12 ⟨Nat.zero_le _, Nat.zero_le _⟩ (fun u_1 H locs w_2 hP hD hS => ?_)
  have hP : va_P D vwCl (cW a r k cI cT cN xh xi xr 0 pc rd B L q kq) H := hP
  have hD : va_D A (cW a r k cI cT cN xh xi xr 0 pc rd B L q kq) := hD
  refine lv_iload_n hx hb dX6_blank_15 rfl (lv_at hl 0 rfl) ?_
  exact rw_iret (wp := (fun _ : Unit => (cW a r k cI cT cN xh xi xr 0 pc rd B L q kq))) (post := (fun (r : Int32) (_ : Unit) => r = nI pn)) () hx hb hr hlocks hK hP hD hS (rfl) (rfl) dX6_blank_16

set_option maxHeartbeats 4000000 in
set_option maxRecDepth 100000 in
theorem c_X6_forget (l : Launch) (D : va_G) (a r k : Nat → Nat) (cI cT cN : ClassId) (sz : Nat) (xh xi xr pn : Nat) (pc : Nat → Int32) (rd : Nat × Nat × Nat) (B L : Nat → Int32) (q kq : RS) : WI l yX6_forget (wA yX6_forget cX6_forget 2 (some .int)) ({ frames := 0, cells := 0, slots := 0, locals := 0 }) D (cTys cI cT cN) (cW a r k cI cT cN xh xi xr pn pc rd B L q kq) sz [.ref (a 0)] (fun (r : Int32) (_ : Unit) => r = nI q.2.1) (fun _ : Unit => (cW a r k cI cT cN xh xi xr pn pc rd B L (q.1, 0, q.2.2.1, q.2.2.2.1, q.2.2.2.2) kq)) := by
  refine rw_startI (by decide) (Nat.le_of_ble_eq_true rfl) ?_
  intro p e s m args below meth c ls A F hP hK hD hA hS hl
  obtain ⟨hx, hb, hr, hlocks, hml, hown, hts⟩ := F
  have hown : s.vm.findClass RX6 = some m.cls := hown
  have hl : lv_has ls 2 [(0, .ref (a 0))] := hl
  refine lv_aload_n hx hb dX6_forget_0 rfl (lv_at hl 0 rfl) ?_
  refine va_get (D := D) (ci := 6) (v := .ref (r 0)) (C := RX6) (T := TX6) (N := 7) hx hb hts iX6 hown hK hP 0 rfl rfl 2 (by decide) (hts _ mg_153) (fun _ h9 => h9) rfl dX6_forget_1 ?_
  refine va_get (D := D) (ci := 3) (v := .int (nI q.2.1)) (C := RX3) (T := TX3) (N := 5) hx hb hts iX3 hown hK hP 7 rfl rfl 3 (by decide) (hts _ mg_137) (fun _ h9 => h9) rfl dX6_forget_4 ?_
  refine lv_istore_n (lv' := [(1, .int (nI q.2.1)), (0, .ref (a 0))]) hx hb dX6_forget_7 rfl hl (by decide) rfl (fun ls hl => ?_)
  refine lv_aload_n hx hb dX6_forget_8 rfl (lv_at hl 1 rfl) ?_
  refine va_get (D := D) (ci := 6) (v := .ref (r 0)) (C := RX6) (T := TX6) (N := 7) hx hb hts iX6 hown hK hP 0 rfl rfl 2 (by decide) (hts _ mg_153) (fun _ h9 => h9) rfl dX6_forget_9 ?_
  refine lv_iconst (v := nI 0) hx hb dX6_forget_12 (by decide) ?_
  refine va_put (D := D) (ci := 3) (v := .int (nI 0)) (ty := .int) (C := RX3) (T := TX3) (N := 5) hx hb hts iX3 tyX3 tyX3_ok nmX3 hown hK hP hD hS 7 rfl rfl 3 (by decide) (hts _ mg_137) (fun _ h9 => h9) rfl (tyX3_ok 3 (by decide)) rfl rfl (Nat.le_of_ble_eq_true rfl) dX6_forget_13 (fun H locs hP hD hS => ?_)
  have hP : va_P D vwCl (cW a r k cI cT cN xh xi xr pn pc rd B L (q.1, 0, q.2.2.1, q.2.2.2.1, q.2.2.2.2) kq) H := hP
  have hD : va_D A (cW a r k cI cT cN xh xi xr pn pc rd B L (q.1, 0, q.2.2.1, q.2.2.2.1, q.2.2.2.2) kq) := hD
  refine lv_iload_n hx hb dX6_forget_16 rfl (lv_at hl 0 rfl) ?_
  exact rw_iret (wp := (fun _ : Unit => (cW a r k cI cT cN xh xi xr pn pc rd B L (q.1, 0, q.2.2.1, q.2.2.2.1, q.2.2.2.2) kq))) (post := (fun (r : Int32) (_ : Unit) => r = nI q.2.1)) () hx hb hr hlocks hK hP hD hS (rfl) (rfl) dX6_forget_17

set_option maxHeartbeats 4000000 in
set_option maxRecDepth 100000 in
theorem c_X6_tapO1 (l : Launch) (D : va_G) (a r k : Nat → Nat) (cI cT cN : ClassId) (sz : Nat) (xh xi xr pn : Nat) (pc : Nat → Int32) (rd : Nat × Nat × Nat) (B L : Nat → Int32) (q kq : RS) (hT : Tok q) (x w : Int32) (ox : ¬ inr x 0 5) : WI l yX6_tap (wA yX6_tap cX6_tap 3 (some .int)) ({ frames := 2, cells := 0, slots := 0, locals := 47 }) D (cTys cI cT cN) (cW a r k cI cT cN xh xi xr pn pc rd B L q kq) sz [.ref (a 0), .int x, .int w] (fun (r : Int32) (_ : Unit) => r = -102) (fun _ : Unit => (cW a r k cI cT cN xh xi xr pn pc rd B L q kq)) := by
  refine rw_startI (by decide) (Nat.le_of_ble_eq_true rfl) ?_
  intro p e s m args below meth c ls A F hP hK hD hA hS hl
  obtain ⟨hx, hb, hr, hlocks, hml, hown, hts⟩ := F
  have hown : s.vm.findClass RX6 = some m.cls := hown
  have hl : lv_has ls 3 [(0, .ref (a 0)), (1, .int x), (2, .int w)] := hl
  have ht5 := hT.1
  have ht8 := hT.2.1
  refine lv_iload_n hx hb dX6_tap_0 rfl (lv_at hl 1 rfl) ?_
  refine ro_iS (n := 1) (As := [.int x]) ⟨hx, hb, hml, hown, hts⟩ (c_X6_isKindF l D x (inr_out ox)) (cwS 1 hts (gS mg_283 mg_284 mg_1 mg_285) rfl rfl rfl vd_X6_isKind ⟨Nat.le_of_ble_eq_true rfl, Nat.le_of_ble_eq_true rfl⟩)  (hK.sub [] rfl) (fun k q h => by simp at h) rfl hl.1 rfl (Nat.le_of_ble_eq_true rfl) dX6_tap_1 ⟨Nat.zero_le _, Nat.zero_le _⟩ ?_
  refine j_if_eq (tgt := 14) hx hb dX6_tap_4 (by decide) (nI_toInt (by decide)) (fun c_1 => ?_) (fun c_1 => absurd c_1 (by omega))
  refine lv_bipush (v := (-102)) hx hb dX6_tap_14 (by decide) ?_
  exact rw_iret (wp := (fun _ : Unit => (cW a r k cI cT cN xh xi xr pn pc rd B L q kq))) (post := (fun (r : Int32) (_ : Unit) => r = -102)) () hx hb hr hlocks hK hP hD hS (rfl) (rfl) dX6_tap_16

set_option maxHeartbeats 4000000 in
set_option maxRecDepth 100000 in
theorem c_X6_tapO2 (l : Launch) (D : va_G) (a r k : Nat → Nat) (cI cT cN : ClassId) (sz : Nat) (xh xi xr pn : Nat) (pc : Nat → Int32) (rd : Nat × Nat × Nat) (B L : Nat → Int32) (q kq : RS) (hT : Tok q) (kd : Nat) (hkd : kd < 5) (w : Int32) (ow : ¬ inr w 0 4) : WI l yX6_tap (wA yX6_tap cX6_tap 3 (some .int)) ({ frames := 2, cells := 0, slots := 0, locals := 47 }) D (cTys cI cT cN) (cW a r k cI cT cN xh xi xr pn pc rd B L q kq) sz [.ref (a 0), .int (nI kd), .int w] (fun (r : Int32) (_ : Unit) => r = -102) (fun _ : Unit => (cW a r k cI cT cN xh xi xr pn pc rd B L q kq)) := by
  refine rw_startI (by decide) (Nat.le_of_ble_eq_true rfl) ?_
  intro p e s m args below meth c ls A F hP hK hD hA hS hl
  obtain ⟨hx, hb, hr, hlocks, hml, hown, hts⟩ := F
  have hown : s.vm.findClass RX6 = some m.cls := hown
  have hl : lv_has ls 3 [(0, .ref (a 0)), (1, .int (nI kd)), (2, .int w)] := hl
  have ht5 := hT.1
  have ht8 := hT.2.1
  refine lv_iload_n hx hb dX6_tap_0 rfl (lv_at hl 1 rfl) ?_
  refine ro_iS (n := 1) (As := [.int (nI kd)]) ⟨hx, hb, hml, hown, hts⟩ (c_X6_isKindT l D (nI kd) (by rw [nI_toInt (by omega)]; omega)) (cwS 1 hts (gS mg_283 mg_284 mg_1 mg_285) rfl rfl rfl vd_X6_isKind ⟨Nat.le_of_ble_eq_true rfl, Nat.le_of_ble_eq_true rfl⟩)  (hK.sub [] rfl) (fun k q h => by simp at h) rfl hl.1 rfl (Nat.le_of_ble_eq_true rfl) dX6_tap_1 ⟨Nat.zero_le _, Nat.zero_le _⟩ ?_
  refine j_if_eq (tgt := 14) hx hb dX6_tap_4 (by decide) (nI_toInt (by decide)) (fun c_1 => absurd c_1 (by omega)) (fun c_1 => ?_)
  refine lv_iload_n hx hb dX6_tap_7 rfl (lv_at hl 2 rfl) ?_
  refine ro_iS (n := 1) (As := [.int w]) ⟨hx, hb, hml, hown, hts⟩ (c_X6_isSayingF l D w (inr_out ow)) (cwS 1 hts (gS mg_270 mg_221 mg_1 mg_222) rfl rfl rfl vd_X6_isSaying ⟨Nat.le_of_ble_eq_true rfl, Nat.le_of_ble_eq_true rfl⟩)  (hK.sub [] rfl) (fun k q h => by simp at h) rfl hl.1 rfl (Nat.le_of_ble_eq_true rfl) dX6_tap_8 ⟨Nat.zero_le _, Nat.zero_le _⟩ ?_
  refine j_if_ne (tgt := 17) hx hb dX6_tap_11 (by decide) (nI_toInt (by decide)) (fun c_2 => absurd c_2 (by omega)) (fun c_2 => ?_)
  refine lv_bipush (v := (-102)) hx hb dX6_tap_14 (by decide) ?_
  exact rw_iret (wp := (fun _ : Unit => (cW a r k cI cT cN xh xi xr pn pc rd B L q kq))) (post := (fun (r : Int32) (_ : Unit) => r = -102)) () hx hb hr hlocks hK hP hD hS (rfl) (rfl) dX6_tap_16

set_option maxHeartbeats 4000000 in
set_option maxRecDepth 100000 in
theorem c_X6_tapS (l : Launch) (D : va_G) (a r k : Nat → Nat) (cI cT cN : ClassId) (sz : Nat) (xi xr pn : Nat) (pc : Nat → Int32) (rd : Nat × Nat × Nat) (B L : Nat → Int32) (q kq : RS) (hT : Tok q) (kd v : Nat) (hkd : kd < 5) (hv : v < 4) : WI l yX6_tap (wA yX6_tap cX6_tap 3 (some .int)) ({ frames := 2, cells := 0, slots := 0, locals := 47 }) D (cTys cI cT cN) (cW a r k cI cT cN 0 xi xr pn pc rd B L q kq) sz [.ref (a 0), .int (nI kd), .int (nI v)] (fun (r : Int32) (_ : Unit) => r = -103) (fun _ : Unit => (cW a r k cI cT cN 0 xi xr pn pc rd B L q kq)) := by
  refine rw_startI (by decide) (Nat.le_of_ble_eq_true rfl) ?_
  intro p e s m args below meth c ls A F hP hK hD hA hS hl
  obtain ⟨hx, hb, hr, hlocks, hml, hown, hts⟩ := F
  have hown : s.vm.findClass RX6 = some m.cls := hown
  have hl : lv_has ls 3 [(0, .ref (a 0)), (1, .int (nI kd)), (2, .int (nI v))] := hl
  have ht5 := hT.1
  have ht8 := hT.2.1
  refine lv_iload_n hx hb dX6_tap_0 rfl (lv_at hl 1 rfl) ?_
  refine ro_iS (n := 1) (As := [.int (nI kd)]) ⟨hx, hb, hml, hown, hts⟩ (c_X6_isKindT l D (nI kd) (by rw [nI_toInt (by omega)]; omega)) (cwS 1 hts (gS mg_283 mg_284 mg_1 mg_285) rfl rfl rfl vd_X6_isKind ⟨Nat.le_of_ble_eq_true rfl, Nat.le_of_ble_eq_true rfl⟩)  (hK.sub [] rfl) (fun k q h => by simp at h) rfl hl.1 rfl (Nat.le_of_ble_eq_true rfl) dX6_tap_1 ⟨Nat.zero_le _, Nat.zero_le _⟩ ?_
  refine j_if_eq (tgt := 14) hx hb dX6_tap_4 (by decide) (nI_toInt (by decide)) (fun c_1 => absurd c_1 (by omega)) (fun c_1 => ?_)
  refine lv_iload_n hx hb dX6_tap_7 rfl (lv_at hl 2 rfl) ?_
  refine ro_iS (n := 1) (As := [.int (nI v)]) ⟨hx, hb, hml, hown, hts⟩ (c_X6_isSayingT l D (nI v) (by rw [nI_toInt (by omega)]; omega)) (cwS 1 hts (gS mg_270 mg_221 mg_1 mg_222) rfl rfl rfl vd_X6_isSaying ⟨Nat.le_of_ble_eq_true rfl, Nat.le_of_ble_eq_true rfl⟩)  (hK.sub [] rfl) (fun k q h => by simp at h) rfl hl.1 rfl (Nat.le_of_ble_eq_true rfl) dX6_tap_8 ⟨Nat.zero_le _, Nat.zero_le _⟩ ?_
  refine j_if_ne (tgt := 17) hx hb dX6_tap_11 (by decide) (nI_toInt (by decide)) (fun c_2 => ?_) (fun c_2 => absurd c_2 (by omega))
  refine lv_aload_n hx hb dX6_tap_17 rfl (lv_at hl 0 rfl) ?_
  refine va_get (D := D) (ci := 6) (v := .int (nI 0)) (C := RX6) (T := TX6) (N := 7) hx hb hts iX6 hown hK hP 0 rfl rfl 4 (by decide) (hts _ mg_155) (fun _ h9 => h9) rfl dX6_tap_18 ?_
  refine j_if_ne (tgt := 27) hx hb dX6_tap_21 (by decide) (nI_toInt (by decide)) (fun c_3 => absurd c_3 (by omega)) (fun c_3 => ?_)
  refine lv_bipush (v := (-103)) hx hb dX6_tap_24 (by decide) ?_
  exact rw_iret (wp := (fun _ : Unit => (cW a r k cI cT cN 0 xi xr pn pc rd B L q kq))) (post := (fun (r : Int32) (_ : Unit) => r = -103)) () hx hb hr hlocks hK hP hD hS (rfl) (rfl) dX6_tap_26

set_option maxHeartbeats 4000000 in
set_option maxRecDepth 100000 in
theorem c_X6_tapF (l : Launch) (D : va_G) (a r k : Nat → Nat) (cI cT cN : ClassId) (sz : Nat) (xi xr pn : Nat) (pc : Nat → Int32) (rd : Nat × Nat × Nat) (B L : Nat → Int32) (q kq : RS) (hT : Tok q) (kd v : Nat) (hkd : kd < 5) (hv : v < 4) (h9 : q.1 = 5) : WI l yX6_tap (wA yX6_tap cX6_tap 3 (some .int)) ({ frames := 2, cells := 0, slots := 0, locals := 47 }) D (cTys cI cT cN) (cW a r k cI cT cN 1 xi xr pn pc rd B L q kq) sz [.ref (a 0), .int (nI kd), .int (nI v)] (fun (r : Int32) (_ : Unit) => r = -104) (fun _ : Unit => (cW a r k cI cT cN 1 xi xr pn pc rd B L q kq)) := by
  refine rw_startI (by decide) (Nat.le_of_ble_eq_true rfl) ?_
  intro p e s m args below meth c ls A F hP hK hD hA hS hl
  obtain ⟨hx, hb, hr, hlocks, hml, hown, hts⟩ := F
  have hown : s.vm.findClass RX6 = some m.cls := hown
  have hl : lv_has ls 3 [(0, .ref (a 0)), (1, .int (nI kd)), (2, .int (nI v))] := hl
  have ht5 := hT.1
  have ht8 := hT.2.1
  refine lv_iload_n hx hb dX6_tap_0 rfl (lv_at hl 1 rfl) ?_
  refine ro_iS (n := 1) (As := [.int (nI kd)]) ⟨hx, hb, hml, hown, hts⟩ (c_X6_isKindT l D (nI kd) (by rw [nI_toInt (by omega)]; omega)) (cwS 1 hts (gS mg_283 mg_284 mg_1 mg_285) rfl rfl rfl vd_X6_isKind ⟨Nat.le_of_ble_eq_true rfl, Nat.le_of_ble_eq_true rfl⟩)  (hK.sub [] rfl) (fun k q h => by simp at h) rfl hl.1 rfl (Nat.le_of_ble_eq_true rfl) dX6_tap_1 ⟨Nat.zero_le _, Nat.zero_le _⟩ ?_
  refine j_if_eq (tgt := 14) hx hb dX6_tap_4 (by decide) (nI_toInt (by decide)) (fun c_1 => absurd c_1 (by omega)) (fun c_1 => ?_)
  refine lv_iload_n hx hb dX6_tap_7 rfl (lv_at hl 2 rfl) ?_
  refine ro_iS (n := 1) (As := [.int (nI v)]) ⟨hx, hb, hml, hown, hts⟩ (c_X6_isSayingT l D (nI v) (by rw [nI_toInt (by omega)]; omega)) (cwS 1 hts (gS mg_270 mg_221 mg_1 mg_222) rfl rfl rfl vd_X6_isSaying ⟨Nat.le_of_ble_eq_true rfl, Nat.le_of_ble_eq_true rfl⟩)  (hK.sub [] rfl) (fun k q h => by simp at h) rfl hl.1 rfl (Nat.le_of_ble_eq_true rfl) dX6_tap_8 ⟨Nat.zero_le _, Nat.zero_le _⟩ ?_
  refine j_if_ne (tgt := 17) hx hb dX6_tap_11 (by decide) (nI_toInt (by decide)) (fun c_2 => ?_) (fun c_2 => absurd c_2 (by omega))
  refine lv_aload_n hx hb dX6_tap_17 rfl (lv_at hl 0 rfl) ?_
  refine va_get (D := D) (ci := 6) (v := .int (nI 1)) (C := RX6) (T := TX6) (N := 7) hx hb hts iX6 hown hK hP 0 rfl rfl 4 (by decide) (hts _ mg_155) (fun _ h9 => h9) rfl dX6_tap_18 ?_
  refine j_if_ne (tgt := 27) hx hb dX6_tap_21 (by decide) (nI_toInt (by decide)) (fun c_3 => ?_) (fun c_3 => absurd c_3 (by omega))
  refine lv_aload_n hx hb dX6_tap_27 rfl (lv_at hl 0 rfl) ?_
  refine va_get (D := D) (ci := 6) (v := .ref (r 0)) (C := RX6) (T := TX6) (N := 7) hx hb hts iX6 hown hK hP 0 rfl rfl 2 (by decide) (hts _ mg_153) (fun _ h9 => h9) rfl dX6_tap_28 ?_
  refine va_get (D := D) (ci := 3) (v := .int (nI q.1)) (C := RX3) (T := TX3) (N := 5) hx hb hts iX3 hown hK hP 7 rfl rfl 2 (by decide) (hts _ mg_135) (fun _ h9 => h9) rfl dX6_tap_31 ?_
  refine lv_iconst (v := nI 5) hx hb dX6_tap_34 (by decide) ?_
  refine j_icmp_lt (tgt := 41) hx hb dX6_tap_35 (by decide) (nI_toInt (by omega)) (nI_toInt (by decide)) (fun c_4 => absurd c_4 (by omega)) (fun c_4 => ?_)
  refine lv_bipush (v := (-104)) hx hb dX6_tap_38 (by decide) ?_
  exact rw_iret (wp := (fun _ : Unit => (cW a r k cI cT cN 1 xi xr pn pc rd B L q kq))) (post := (fun (r : Int32) (_ : Unit) => r = -104)) () hx hb hr hlocks hK hP hD hS (rfl) (rfl) dX6_tap_40

set_option maxHeartbeats 4000000 in
set_option maxRecDepth 100000 in
theorem c_X6_tapI (l : Launch) (D : va_G) (a r k : Nat → Nat) (cI cT cN : ClassId) (sz : Nat) (xi xr pn : Nat) (pc : Nat → Int32) (rd : Nat × Nat × Nat) (B L : Nat → Int32) (q kq : RS) (hT : Tok q) (kd v : Nat) (hkd : kd < 5) (hv : v < 4) (h9 : ¬ q.1 = 5) : WI l yX6_tap (wA yX6_tap cX6_tap 3 (some .int)) ({ frames := 2, cells := 0, slots := 0, locals := 47 }) D (cTys cI cT cN) (cW a r k cI cT cN 1 xi xr pn pc rd B L q kq) sz [.ref (a 0), .int (nI kd), .int (nI v)] (fun (r : Int32) (_ : Unit) => r = nI q.1) (fun _ : Unit => (cW a r k cI cT cN 1 xi xr pn pc rd B L (q.1 + 1, q.2.1, q.2.2.1, upR q.2.2.2.1 q.1 (rw4 kd v 0 0), q.2.2.2.2) kq)) := by
  refine rw_startI (by decide) (Nat.le_of_ble_eq_true rfl) ?_
  intro p e s m args below meth c ls A F hP hK hD hA hS hl
  obtain ⟨hx, hb, hr, hlocks, hml, hown, hts⟩ := F
  have hown : s.vm.findClass RX6 = some m.cls := hown
  have hl : lv_has ls 3 [(0, .ref (a 0)), (1, .int (nI kd)), (2, .int (nI v))] := hl
  have ht5 := hT.1
  have ht8 := hT.2.1
  refine lv_iload_n hx hb dX6_tap_0 rfl (lv_at hl 1 rfl) ?_
  refine ro_iS (n := 1) (As := [.int (nI kd)]) ⟨hx, hb, hml, hown, hts⟩ (c_X6_isKindT l D (nI kd) (by rw [nI_toInt (by omega)]; omega)) (cwS 1 hts (gS mg_283 mg_284 mg_1 mg_285) rfl rfl rfl vd_X6_isKind ⟨Nat.le_of_ble_eq_true rfl, Nat.le_of_ble_eq_true rfl⟩)  (hK.sub [] rfl) (fun k q h => by simp at h) rfl hl.1 rfl (Nat.le_of_ble_eq_true rfl) dX6_tap_1 ⟨Nat.zero_le _, Nat.zero_le _⟩ ?_
  refine j_if_eq (tgt := 14) hx hb dX6_tap_4 (by decide) (nI_toInt (by decide)) (fun c_1 => absurd c_1 (by omega)) (fun c_1 => ?_)
  refine lv_iload_n hx hb dX6_tap_7 rfl (lv_at hl 2 rfl) ?_
  refine ro_iS (n := 1) (As := [.int (nI v)]) ⟨hx, hb, hml, hown, hts⟩ (c_X6_isSayingT l D (nI v) (by rw [nI_toInt (by omega)]; omega)) (cwS 1 hts (gS mg_270 mg_221 mg_1 mg_222) rfl rfl rfl vd_X6_isSaying ⟨Nat.le_of_ble_eq_true rfl, Nat.le_of_ble_eq_true rfl⟩)  (hK.sub [] rfl) (fun k q h => by simp at h) rfl hl.1 rfl (Nat.le_of_ble_eq_true rfl) dX6_tap_8 ⟨Nat.zero_le _, Nat.zero_le _⟩ ?_
  refine j_if_ne (tgt := 17) hx hb dX6_tap_11 (by decide) (nI_toInt (by decide)) (fun c_2 => ?_) (fun c_2 => absurd c_2 (by omega))
  refine lv_aload_n hx hb dX6_tap_17 rfl (lv_at hl 0 rfl) ?_
  refine va_get (D := D) (ci := 6) (v := .int (nI 1)) (C := RX6) (T := TX6) (N := 7) hx hb hts iX6 hown hK hP 0 rfl rfl 4 (by decide) (hts _ mg_155) (fun _ h9 => h9) rfl dX6_tap_18 ?_
  refine j_if_ne (tgt := 27) hx hb dX6_tap_21 (by decide) (nI_toInt (by decide)) (fun c_3 => ?_) (fun c_3 => absurd c_3 (by omega))
  refine lv_aload_n hx hb dX6_tap_27 rfl (lv_at hl 0 rfl) ?_
  refine va_get (D := D) (ci := 6) (v := .ref (r 0)) (C := RX6) (T := TX6) (N := 7) hx hb hts iX6 hown hK hP 0 rfl rfl 2 (by decide) (hts _ mg_153) (fun _ h9 => h9) rfl dX6_tap_28 ?_
  refine va_get (D := D) (ci := 3) (v := .int (nI q.1)) (C := RX3) (T := TX3) (N := 5) hx hb hts iX3 hown hK hP 7 rfl rfl 2 (by decide) (hts _ mg_135) (fun _ h9 => h9) rfl dX6_tap_31 ?_
  refine lv_iconst (v := nI 5) hx hb dX6_tap_34 (by decide) ?_
  refine j_icmp_lt (tgt := 41) hx hb dX6_tap_35 (by decide) (nI_toInt (by omega)) (nI_toInt (by decide)) (fun c_4 => ?_) (fun c_4 => absurd c_4 (by omega))
  refine lv_aload_n hx hb dX6_tap_41 rfl (lv_at hl 0 rfl) ?_
  refine va_get (D := D) (ci := 6) (v := .ref (r 0)) (C := RX6) (T := TX6) (N := 7) hx hb hts iX6 hown hK hP 0 rfl rfl 2 (by decide) (hts _ mg_153) (fun _ h9 => h9) rfl dX6_tap_42 ?_
  refine lv_iload_n hx hb dX6_tap_45 rfl (lv_at hl 1 rfl) ?_
  refine lv_iload_n hx hb dX6_tap_46 rfl (lv_at hl 2 rfl) ?_
  refine rw_vV (X := ([mainC a r k 1 xi xr] ++ (pW a cI pn pc rd ++ sW a cI B L))) (Y := (rW k cT cN kq)) (n := 2) (As := [.int (nI kd), .int (nI v)]) ⟨hx, hb, hml, hown, hts⟩ (c_X3_addTap l D r cI cT cN _ q kd v (by omega)) (cwV 2 hts (gV mg_254 mg_255 mg_256 mg_5 mg_257) rfl rfl rfl vd_X3_addTap ⟨Nat.le_of_ble_eq_true rfl, Nat.le_of_ble_eq_true rfl⟩) (va_recv hK hP (ci := 3) (q0 := 7) rfl rfl) hK hP hD hS hA rfl hl.1 rfl (Nat.le_of_ble_eq_true rfl) dX6_tap_47 ⟨Nat.zero_le _, Nat.zero_le _⟩ (fun u_5 H locs w_6 hP hD hS => ?_)
  have hP : va_P D vwCl (cW a r k cI cT cN 1 xi xr pn pc rd B L (q.1 + 1, q.2.1, q.2.2.1, upR q.2.2.2.1 q.1 (rw4 kd v 0 0), q.2.2.2.2) kq) H := hP
  have hD : va_D A (cW a r k cI cT cN 1 xi xr pn pc rd B L (q.1 + 1, q.2.1, q.2.2.1, upR q.2.2.2.1 q.1 (rw4 kd v 0 0), q.2.2.2.2) kq) := hD
  refine lv_aload_n hx hb dX6_tap_50 rfl (lv_at hl 0 rfl) ?_
  refine va_get (D := D) (ci := 6) (v := .ref (r 0)) (C := RX6) (T := TX6) (N := 7) hx hb hts iX6 hown hK hP 0 rfl rfl 2 (by decide) (hts _ mg_153) (fun _ h9 => h9) rfl dX6_tap_51 ?_
  refine va_get (D := D) (ci := 3) (v := .int (nI (q.1 + 1))) (C := RX3) (T := TX3) (N := 5) hx hb hts iX3 hown hK hP 7 rfl rfl 2 (by decide) (hts _ mg_135) (fun _ h9 => h9) rfl dX6_tap_54 ?_
  refine lv_iconst (v := nI 1) hx hb dX6_tap_57 (by decide) ?_
  refine n_isub hx hb dX6_tap_58 (by omega) ?_
  refine n_top (congrArg nI (Nat.add_sub_cancel (n := q.1) (m := 1))) ?_
  exact rw_iret (wp := (fun _ : Unit => (cW a r k cI cT cN 1 xi xr pn pc rd B L (q.1 + 1, q.2.1, q.2.2.1, upR q.2.2.2.1 q.1 (rw4 kd v 0 0), q.2.2.2.2) kq))) (post := (fun (r : Int32) (_ : Unit) => r = nI q.1)) () hx hb hr hlocks hK hP hD hS (rfl) (rfl) dX6_tap_59

set_option maxHeartbeats 4000000 in
set_option maxRecDepth 100000 in
theorem c_X6_listenX (l : Launch) (D : va_G) (a r k : Nat → Nat) (cI cT cN : ClassId) (sz : Nat) (xh xi xr pn : Nat) (pc : Nat → Int32) (rd : Nat × Nat × Nat) (B L : Nat → Int32) (q kq : RS) (b : Nat → Nat → Nat) (hSR : SR b B L) (hokz : ¬ q.1 = 0 → hok b) (hT : Tok q) (x : Int32) (ox : ¬ inr x 0 q.1) : WI l yX6_listen (wA yX6_listen cX6_listen 4 (some .int)) ({ frames := 3, cells := 0, slots := 0, locals := 72 }) D (cTys cI cT cN) (cW a r k cI cT cN xh xi xr pn pc rd B L q kq) sz [.ref (a 0), .int x] (fun (r : Int32) (_ : Unit) => r = -101) (fun _ : Unit => (cW a r k cI cT cN xh xi xr pn pc rd B L q kq)) := by
  refine rw_startI (by decide) (Nat.le_of_ble_eq_true rfl) ?_
  intro p e s m args below meth c ls A F hP hK hD hA hS hl
  obtain ⟨hx, hb, hr, hlocks, hml, hown, hts⟩ := F
  have hown : s.vm.findClass RX6 = some m.cls := hown
  have hl : lv_has ls 4 [(0, .ref (a 0)), (1, .int x)] := hl
  have ht5 := hT.1
  have ht8 := hT.2.1
  refine lv_aload_n hx hb dX6_listen_0 rfl (lv_at hl 0 rfl) ?_
  refine va_get (D := D) (ci := 6) (v := .ref (r 0)) (C := RX6) (T := TX6) (N := 7) hx hb hts iX6 hown hK hP 0 rfl rfl 2 (by decide) (hts _ mg_153) (fun _ h9 => h9) rfl dX6_listen_1 ?_
  refine lv_iload_n hx hb dX6_listen_4 rfl (lv_at hl 1 rfl) ?_
  refine ro_qV (n := 1) (As := [.int x]) ⟨hx, hb, hml, hown, hts⟩ (c_X3_tapOut l D r cI cT cN q x (inr_out ox) ht5) (cwV 1 hts (gV mg_290 mg_259 mg_260 mg_5 mg_261) rfl rfl rfl vd_X3_tapAt ⟨Nat.le_of_ble_eq_true rfl, Nat.le_of_ble_eq_true rfl⟩) (va_recv hK hP (ci := 3) (q0 := 7) rfl rfl) hK (cW_r hP) rfl hl.1 rfl (Nat.le_of_ble_eq_true rfl) dX6_listen_5 ⟨Nat.zero_le _, Nat.zero_le _⟩ ?_
  refine lv_astore_nN (lv' := [(2, .null), (0, .ref (a 0)), (1, .int x)]) hx hb dX6_listen_8 rfl hl (by decide) rfl (fun ls hl => ?_)
  refine lv_aload_nN hx hb dX6_listen_9 rfl (lv_at hl 0 rfl) ?_
  refine lv_ifnonnullN hx hb dX6_listen_10 ?_
  refine lv_bipush (v := (-101)) hx hb dX6_listen_13 (by decide) ?_
  exact rw_iret (wp := (fun _ : Unit => (cW a r k cI cT cN xh xi xr pn pc rd B L q kq))) (post := (fun (r : Int32) (_ : Unit) => r = -101)) () hx hb hr hlocks hK hP hD hS (rfl) (rfl) dX6_listen_15

set_option maxHeartbeats 4000000 in
set_option maxRecDepth 100000 in
theorem c_X6_listenS (l : Launch) (D : va_G) (a r k : Nat → Nat) (cI cT cN : ClassId) (sz : Nat) (xh xi xr pn : Nat) (pc : Nat → Int32) (rd : Nat × Nat × Nat) (B L : Nat → Int32) (q kq : RS) (b : Nat → Nat → Nat) (hSR : SR b B L) (hokz : ¬ q.1 = 0 → hok b) (hT : Tok q) (i : Nat) (hi : i < q.1) (h60 : (q.2.2.2.1 i 3) = 60) : WI l yX6_listen (wA yX6_listen cX6_listen 4 (some .int)) ({ frames := 3, cells := 0, slots := 0, locals := 72 }) D (cTys cI cT cN) (cW a r k cI cT cN xh xi xr pn pc rd B L q kq) sz [.ref (a 0), .int (nI i)] (fun (r : Int32) (_ : Unit) => r = -103) (fun _ : Unit => (cW a r k cI cT cN xh xi xr pn pc rd B L q kq)) := by
  refine rw_startI (by decide) (Nat.le_of_ble_eq_true rfl) ?_
  intro p e s m args below meth c ls A F hP hK hD hA hS hl
  obtain ⟨hx, hb, hr, hlocks, hml, hown, hts⟩ := F
  have hown : s.vm.findClass RX6 = some m.cls := hown
  have hl : lv_has ls 4 [(0, .ref (a 0)), (1, .int (nI i))] := hl
  have ht5 := hT.1
  have ht8 := hT.2.1
  obtain ⟨hk0, hv0, hw0, hp0⟩ := hT.2.2.1 i hi
  have hok9 := hokz (by omega)
  refine lv_aload_n hx hb dX6_listen_0 rfl (lv_at hl 0 rfl) ?_
  refine va_get (D := D) (ci := 6) (v := .ref (r 0)) (C := RX6) (T := TX6) (N := 7) hx hb hts iX6 hown hK hP 0 rfl rfl 2 (by decide) (hts _ mg_153) (fun _ h9 => h9) rfl dX6_listen_1 ?_
  refine lv_iload_n hx hb dX6_listen_4 rfl (lv_at hl 1 rfl) ?_
  refine ro_qV (n := 1) (As := [.int (nI i)]) ⟨hx, hb, hml, hown, hts⟩ (c_X3_tapAt l D r cI cT cN q i (by omega) ht5) (cwV 1 hts (gV mg_290 mg_259 mg_260 mg_5 mg_261) rfl rfl rfl vd_X3_tapAt ⟨Nat.le_of_ble_eq_true rfl, Nat.le_of_ble_eq_true rfl⟩) (va_recv hK hP (ci := 3) (q0 := 7) rfl rfl) hK (cW_r hP) rfl hl.1 rfl (Nat.le_of_ble_eq_true rfl) dX6_listen_5 ⟨Nat.zero_le _, Nat.zero_le _⟩ ?_
  refine lv_astore_n (lv' := [(2, .ref (r (3 + i))), (0, .ref (a 0)), (1, .int (nI i))]) hx hb dX6_listen_8 rfl hl (by decide) rfl (fun ls hl => ?_)
  refine lv_aload_n hx hb dX6_listen_9 rfl (lv_at hl 0 rfl) ?_
  refine lv_ifnonnull (tgt := 16) hx hb dX6_listen_10 (by decide) ?_
  refine lv_aload_n hx hb dX6_listen_16 rfl (lv_at hl 0 rfl) ?_
  refine va_get (D := D) (ci := 5) (v := .int (nI (q.2.2.2.1 i 3))) (C := RX5) (T := TX5) (N := 5) hx hb hts iX5 hown hK hP (10 + i) (cW_tap (by omega)) rfl 4 (by decide) (hts _ mg_92) (fun _ h9 => h9) rfl dX6_listen_17 ?_
  refine lv_bipush (v := nI 60) hx hb dX6_listen_20 (by decide) ?_
  refine j_icmp_lt (tgt := 28) hx hb dX6_listen_22 (by decide) (nI_toInt (by omega)) (nI_toInt (by decide)) (fun c_1 => absurd c_1 (by omega)) (fun c_1 => ?_)
  refine lv_bipush (v := (-103)) hx hb dX6_listen_25 (by decide) ?_
  exact rw_iret (wp := (fun _ : Unit => (cW a r k cI cT cN xh xi xr pn pc rd B L q kq))) (post := (fun (r : Int32) (_ : Unit) => r = -103)) () hx hb hr hlocks hK hP hD hS (rfl) (rfl) dX6_listen_27

set_option maxHeartbeats 4000000 in
set_option maxRecDepth 100000 in
theorem c_X6_listenI (l : Launch) (D : va_G) (a r k : Nat → Nat) (cI cT cN : ClassId) (sz : Nat) (xh xi xr pn : Nat) (pc : Nat → Int32) (rd : Nat × Nat × Nat) (B L : Nat → Int32) (q kq : RS) (b : Nat → Nat → Nat) (hSR : SR b B L) (hokz : ¬ q.1 = 0 → hok b) (hT : Tok q) (i : Nat) (hi : i < q.1) (h60 : ¬ (q.2.2.2.1 i 3) = 60) : WI l yX6_listen (wA yX6_listen cX6_listen 4 (some .int)) ({ frames := 3, cells := 0, slots := 0, locals := 72 }) D (cTys cI cT cN) (cW a r k cI cT cN xh xi xr pn pc rd B L q kq) sz [.ref (a 0), .int (nI i)] (fun (r : Int32) (_ : Unit) => r = nI (sd b (q.2.2.2.1 i 0) (q.2.2.2.1 i 2) (q.2.2.2.1 i 1) (q.2.2.2.1 i 3))) (fun _ : Unit => (cW a r k cI cT cN xh xi xr pn pc rd B L (q.1, q.2.1, q.2.2.1 + nI 1, upR q.2.2.2.1 i (rw4 (q.2.2.2.1 i 0) (q.2.2.2.1 i 1) (q.2.2.2.1 i 2) ((q.2.2.2.1 i 3) + 1)), q.2.2.2.2) kq)) := by
  refine rw_startI (by decide) (Nat.le_of_ble_eq_true rfl) ?_
  intro p e s m args below meth c ls A F hP hK hD hA hS hl
  obtain ⟨hx, hb, hr, hlocks, hml, hown, hts⟩ := F
  have hown : s.vm.findClass RX6 = some m.cls := hown
  have hl : lv_has ls 4 [(0, .ref (a 0)), (1, .int (nI i))] := hl
  have ht5 := hT.1
  have ht8 := hT.2.1
  obtain ⟨hk0, hv0, hw0, hp0⟩ := hT.2.2.1 i hi
  have hok9 := hokz (by omega)
  refine lv_aload_n hx hb dX6_listen_0 rfl (lv_at hl 0 rfl) ?_
  refine va_get (D := D) (ci := 6) (v := .ref (r 0)) (C := RX6) (T := TX6) (N := 7) hx hb hts iX6 hown hK hP 0 rfl rfl 2 (by decide) (hts _ mg_153) (fun _ h9 => h9) rfl dX6_listen_1 ?_
  refine lv_iload_n hx hb dX6_listen_4 rfl (lv_at hl 1 rfl) ?_
  refine ro_qV (n := 1) (As := [.int (nI i)]) ⟨hx, hb, hml, hown, hts⟩ (c_X3_tapAt l D r cI cT cN q i (by omega) ht5) (cwV 1 hts (gV mg_290 mg_259 mg_260 mg_5 mg_261) rfl rfl rfl vd_X3_tapAt ⟨Nat.le_of_ble_eq_true rfl, Nat.le_of_ble_eq_true rfl⟩) (va_recv hK hP (ci := 3) (q0 := 7) rfl rfl) hK (cW_r hP) rfl hl.1 rfl (Nat.le_of_ble_eq_true rfl) dX6_listen_5 ⟨Nat.zero_le _, Nat.zero_le _⟩ ?_
  refine lv_astore_n (lv' := [(2, .ref (r (3 + i))), (0, .ref (a 0)), (1, .int (nI i))]) hx hb dX6_listen_8 rfl hl (by decide) rfl (fun ls hl => ?_)
  refine lv_aload_n hx hb dX6_listen_9 rfl (lv_at hl 0 rfl) ?_
  refine lv_ifnonnull (tgt := 16) hx hb dX6_listen_10 (by decide) ?_
  refine lv_aload_n hx hb dX6_listen_16 rfl (lv_at hl 0 rfl) ?_
  refine va_get (D := D) (ci := 5) (v := .int (nI (q.2.2.2.1 i 3))) (C := RX5) (T := TX5) (N := 5) hx hb hts iX5 hown hK hP (10 + i) (cW_tap (by omega)) rfl 4 (by decide) (hts _ mg_92) (fun _ h9 => h9) rfl dX6_listen_17 ?_
  refine lv_bipush (v := nI 60) hx hb dX6_listen_20 (by decide) ?_
  refine j_icmp_lt (tgt := 28) hx hb dX6_listen_22 (by decide) (nI_toInt (by omega)) (nI_toInt (by decide)) (fun c_1 => ?_) (fun c_1 => absurd c_1 (by omega))
  refine lv_aload_n hx hb dX6_listen_28 rfl (lv_at hl 1 rfl) ?_
  refine lv_aload_n hx hb dX6_listen_29 rfl (lv_at hl 0 rfl) ?_
  refine lv_aload_n hx hb dX6_listen_30 rfl (lv_at hl 0 rfl) ?_
  refine va_get (D := D) (ci := 5) (v := .int (nI (q.2.2.2.1 i 3))) (C := RX5) (T := TX5) (N := 5) hx hb hts iX5 hown hK hP (10 + i) (cW_tap (by omega)) rfl 4 (by decide) (hts _ mg_92) (fun _ h9 => h9) rfl dX6_listen_31 ?_
  refine ro_iV (n := 2) (As := [.ref (r (3 + i)), .int (nI (q.2.2.2.1 i 3))]) ⟨hx, hb, hml, hown, hts⟩ (c_X6_dripOf l D a r k cI cT cN xh xi xr pn pc rd B L q kq b hSR hok9 hT i (by omega) (q.2.2.2.1 i 3) (by omega)) (cwV 2 hts (gV mg_344 mg_346 mg_1011 mg_1 mg_347) rfl rfl rfl vd_X6_dripOf ⟨Nat.le_of_ble_eq_true rfl, Nat.le_of_ble_eq_true rfl⟩) (va_recv hK hP (ci := 6) (q0 := 0) rfl rfl) hK hP rfl hl.1 rfl (Nat.le_of_ble_eq_true rfl) dX6_listen_34 ⟨Nat.zero_le _, Nat.zero_le _⟩ ?_
  refine lv_istore_n (lv' := [(3, .int (nI (sd b (q.2.2.2.1 i 0) (q.2.2.2.1 i 2) (q.2.2.2.1 i 1) (q.2.2.2.1 i 3)))), (2, .ref (r (3 + i))), (0, .ref (a 0)), (1, .int (nI i))]) hx hb dX6_listen_37 rfl hl (by decide) rfl (fun ls hl => ?_)
  refine lv_aload_n hx hb dX6_listen_38 rfl (lv_at hl 1 rfl) ?_
  refine lv_dup hx hb dX6_listen_39 rfl ?_
  refine va_get (D := D) (ci := 5) (v := .int (nI (q.2.2.2.1 i 3))) (C := RX5) (T := TX5) (N := 5) hx hb hts iX5 hown hK hP (10 + i) (cW_tap (by omega)) rfl 4 (by decide) (hts _ mg_92) (fun _ h9 => h9) rfl dX6_listen_40 ?_
  refine lv_iconst (v := nI 1) hx hb dX6_listen_43 (by decide) ?_
  refine n_iadd hx hb dX6_listen_44 ?_
  refine va_put (D := D) (ci := 5) (v := .int (nI ((q.2.2.2.1 i 3) + 1))) (ty := .int) (C := RX5) (T := TX5) (N := 5) hx hb hts iX5 tyX5 tyX5_ok nmX5 hown hK hP hD hS (10 + i) (cW_tap (by omega)) rfl 4 (by decide) (hts _ mg_92) (fun _ h9 => h9) rfl (tyX5_ok 4 (by decide)) rfl rfl (Nat.le_of_ble_eq_true rfl) dX6_listen_45 (fun H locs hP hD hS => ?_)
  have hP : va_P D vwCl (cW a r k cI cT cN xh xi xr pn pc rd B L (q.1, q.2.1, q.2.2.1, upR q.2.2.2.1 i (rw4 (q.2.2.2.1 i 0) (q.2.2.2.1 i 1) (q.2.2.2.1 i 2) ((q.2.2.2.1 i 3) + 1)), q.2.2.2.2) kq) H := Eq.mp (congrArg (fun z => va_P D vwCl z H) (cW_setT (i := i) (by omega) (rw4 (q.2.2.2.1 i 0) (q.2.2.2.1 i 1) (q.2.2.2.1 i 2) ((q.2.2.2.1 i 3) + 1)))) hP
  have hD : va_D A (cW a r k cI cT cN xh xi xr pn pc rd B L (q.1, q.2.1, q.2.2.1, upR q.2.2.2.1 i (rw4 (q.2.2.2.1 i 0) (q.2.2.2.1 i 1) (q.2.2.2.1 i 2) ((q.2.2.2.1 i 3) + 1)), q.2.2.2.2) kq) := Eq.mp (congrArg (fun z => va_D A z) (cW_setT (i := i) (by omega) (rw4 (q.2.2.2.1 i 0) (q.2.2.2.1 i 1) (q.2.2.2.1 i 2) ((q.2.2.2.1 i 3) + 1)))) hD
  refine lv_aload_n hx hb dX6_listen_48 rfl (lv_at hl 2 rfl) ?_
  refine va_get (D := D) (ci := 6) (v := .ref (r 0)) (C := RX6) (T := TX6) (N := 7) hx hb hts iX6 hown hK hP 0 rfl rfl 2 (by decide) (hts _ mg_153) (fun _ h9 => h9) rfl dX6_listen_49 ?_
  refine lv_dup hx hb dX6_listen_52 rfl ?_
  refine va_get (D := D) (ci := 3) (v := .int q.2.2.1) (C := RX3) (T := TX3) (N := 5) hx hb hts iX3 hown hK hP 7 rfl rfl 4 (by decide) (hts _ mg_139) (fun _ h9 => h9) rfl dX6_listen_53 ?_
  refine lv_iconst (v := nI 1) hx hb dX6_listen_56 (by decide) ?_
  refine lv_iadd hx hb dX6_listen_57 ?_
  refine va_put (D := D) (ci := 3) (v := .int (q.2.2.1 + (nI 1))) (ty := .int) (C := RX3) (T := TX3) (N := 5) hx hb hts iX3 tyX3 tyX3_ok nmX3 hown hK hP hD hS 7 rfl rfl 4 (by decide) (hts _ mg_139) (fun _ h9 => h9) rfl (tyX3_ok 4 (by decide)) rfl rfl (Nat.le_of_ble_eq_true rfl) dX6_listen_58 (fun H locs hP hD hS => ?_)
  have hP : va_P D vwCl (cW a r k cI cT cN xh xi xr pn pc rd B L (q.1, q.2.1, q.2.2.1 + (nI 1), upR q.2.2.2.1 i (rw4 (q.2.2.2.1 i 0) (q.2.2.2.1 i 1) (q.2.2.2.1 i 2) ((q.2.2.2.1 i 3) + 1)), q.2.2.2.2) kq) H := hP
  have hD : va_D A (cW a r k cI cT cN xh xi xr pn pc rd B L (q.1, q.2.1, q.2.2.1 + (nI 1), upR q.2.2.2.1 i (rw4 (q.2.2.2.1 i 0) (q.2.2.2.1 i 1) (q.2.2.2.1 i 2) ((q.2.2.2.1 i 3) + 1)), q.2.2.2.2) kq) := hD
  refine lv_iload_n hx hb dX6_listen_61 rfl (lv_at hl 0 rfl) ?_
  exact rw_iret (wp := (fun _ : Unit => (cW a r k cI cT cN xh xi xr pn pc rd B L (q.1, q.2.1, q.2.2.1 + nI 1, upR q.2.2.2.1 i (rw4 (q.2.2.2.1 i 0) (q.2.2.2.1 i 1) (q.2.2.2.1 i 2) ((q.2.2.2.1 i 3) + 1)), q.2.2.2.2) kq))) (post := (fun (r : Int32) (_ : Unit) => r = nI (sd b (q.2.2.2.1 i 0) (q.2.2.2.1 i 2) (q.2.2.2.1 i 1) (q.2.2.2.1 i 3)))) () hx hb hr hlocks hK hP hD hS (rfl) (rfl) dX6_listen_62

set_option maxHeartbeats 4000000 in
set_option maxRecDepth 100000 in
theorem c_X6_washerX0 (l : Launch) (D : va_G) (a r k : Nat → Nat) (cI cT cN : ClassId) (sz : Nat) (xh xi xr pn : Nat) (pc : Nat → Int32) (rd : Nat × Nat × Nat) (B L : Nat → Int32) (q kq : RS) (hT : Tok q) (x : Int32) (ox : ¬ inr x 0 q.1) : WI l yX6_washer (wA yX6_washer cX6_washer 5 (some .int)) ({ frames := 1, cells := 0, slots := 0, locals := 21 }) D (cTys cI cT cN) (cW a r k cI cT cN xh xi xr pn pc rd B L q kq) sz [.ref (a 0), .int x, .int (nI 0)] (fun (r : Int32) (_ : Unit) => r = -101) (fun _ : Unit => (cW a r k cI cT cN xh xi xr pn pc rd B L q kq)) := by
  refine rw_startI (by decide) (Nat.le_of_ble_eq_true rfl) ?_
  intro p e s m args below meth c ls A F hP hK hD hA hS hl
  obtain ⟨hx, hb, hr, hlocks, hml, hown, hts⟩ := F
  have hown : s.vm.findClass RX6 = some m.cls := hown
  have hl : lv_has ls 5 [(0, .ref (a 0)), (1, .int x), (2, .int (nI 0))] := hl
  have ht5 := hT.1
  have ht8 := hT.2.1
  refine lv_aload_n hx hb dX6_washer_0 rfl (lv_at hl 0 rfl) ?_
  refine va_get (D := D) (ci := 6) (v := .ref (r 0)) (C := RX6) (T := TX6) (N := 7) hx hb hts iX6 hown hK hP 0 rfl rfl 2 (by decide) (hts _ mg_153) (fun _ h9 => h9) rfl dX6_washer_1 ?_
  refine lv_iload_n hx hb dX6_washer_4 rfl (lv_at hl 1 rfl) ?_
  refine ro_qV (n := 1) (As := [.int x]) ⟨hx, hb, hml, hown, hts⟩ (c_X3_tapOut l D r cI cT cN q x (inr_out ox) ht5) (cwV 1 hts (gV mg_290 mg_259 mg_260 mg_5 mg_261) rfl rfl rfl vd_X3_tapAt ⟨Nat.le_of_ble_eq_true rfl, Nat.le_of_ble_eq_true rfl⟩) (va_recv hK hP (ci := 3) (q0 := 7) rfl rfl) hK (cW_r hP) rfl hl.1 rfl (Nat.le_of_ble_eq_true rfl) dX6_washer_5 ⟨Nat.zero_le _, Nat.zero_le _⟩ ?_
  refine lv_astore_nN (lv' := [(3, .null), (0, .ref (a 0)), (1, .int x), (2, .int (nI 0))]) hx hb dX6_washer_8 rfl hl (by decide) rfl (fun ls hl => ?_)
  refine lv_aload_nN hx hb dX6_washer_9 rfl (lv_at hl 0 rfl) ?_
  refine lv_ifnonnullN hx hb dX6_washer_10 ?_
  refine lv_bipush (v := (-101)) hx hb dX6_washer_13 (by decide) ?_
  exact rw_iret (wp := (fun _ : Unit => (cW a r k cI cT cN xh xi xr pn pc rd B L q kq))) (post := (fun (r : Int32) (_ : Unit) => r = -101)) () hx hb hr hlocks hK hP hD hS (rfl) (rfl) dX6_washer_15

set_option maxHeartbeats 4000000 in
set_option maxRecDepth 100000 in
theorem c_X6_washerX1 (l : Launch) (D : va_G) (a r k : Nat → Nat) (cI cT cN : ClassId) (sz : Nat) (xh xi xr pn : Nat) (pc : Nat → Int32) (rd : Nat × Nat × Nat) (B L : Nat → Int32) (q kq : RS) (hT : Tok q) (x : Int32) (ox : ¬ inr x 0 q.1) : WI l yX6_washer (wA yX6_washer cX6_washer 5 (some .int)) ({ frames := 1, cells := 0, slots := 0, locals := 21 }) D (cTys cI cT cN) (cW a r k cI cT cN xh xi xr pn pc rd B L q kq) sz [.ref (a 0), .int x, .int (nI 1)] (fun (r : Int32) (_ : Unit) => r = -101) (fun _ : Unit => (cW a r k cI cT cN xh xi xr pn pc rd B L q kq)) := by
  refine rw_startI (by decide) (Nat.le_of_ble_eq_true rfl) ?_
  intro p e s m args below meth c ls A F hP hK hD hA hS hl
  obtain ⟨hx, hb, hr, hlocks, hml, hown, hts⟩ := F
  have hown : s.vm.findClass RX6 = some m.cls := hown
  have hl : lv_has ls 5 [(0, .ref (a 0)), (1, .int x), (2, .int (nI 1))] := hl
  have ht5 := hT.1
  have ht8 := hT.2.1
  refine lv_aload_n hx hb dX6_washer_0 rfl (lv_at hl 0 rfl) ?_
  refine va_get (D := D) (ci := 6) (v := .ref (r 0)) (C := RX6) (T := TX6) (N := 7) hx hb hts iX6 hown hK hP 0 rfl rfl 2 (by decide) (hts _ mg_153) (fun _ h9 => h9) rfl dX6_washer_1 ?_
  refine lv_iload_n hx hb dX6_washer_4 rfl (lv_at hl 1 rfl) ?_
  refine ro_qV (n := 1) (As := [.int x]) ⟨hx, hb, hml, hown, hts⟩ (c_X3_tapOut l D r cI cT cN q x (inr_out ox) ht5) (cwV 1 hts (gV mg_290 mg_259 mg_260 mg_5 mg_261) rfl rfl rfl vd_X3_tapAt ⟨Nat.le_of_ble_eq_true rfl, Nat.le_of_ble_eq_true rfl⟩) (va_recv hK hP (ci := 3) (q0 := 7) rfl rfl) hK (cW_r hP) rfl hl.1 rfl (Nat.le_of_ble_eq_true rfl) dX6_washer_5 ⟨Nat.zero_le _, Nat.zero_le _⟩ ?_
  refine lv_astore_nN (lv' := [(3, .null), (0, .ref (a 0)), (1, .int x), (2, .int (nI 1))]) hx hb dX6_washer_8 rfl hl (by decide) rfl (fun ls hl => ?_)
  refine lv_aload_nN hx hb dX6_washer_9 rfl (lv_at hl 0 rfl) ?_
  refine lv_ifnonnullN hx hb dX6_washer_10 ?_
  refine lv_bipush (v := (-101)) hx hb dX6_washer_13 (by decide) ?_
  exact rw_iret (wp := (fun _ : Unit => (cW a r k cI cT cN xh xi xr pn pc rd B L q kq))) (post := (fun (r : Int32) (_ : Unit) => r = -101)) () hx hb hr hlocks hK hP hD hS (rfl) (rfl) dX6_washer_15

set_option maxHeartbeats 4000000 in
set_option maxRecDepth 100000 in
theorem c_X6_washerI0 (l : Launch) (D : va_G) (a r k : Nat → Nat) (cI cT cN : ClassId) (sz : Nat) (xh xi xr pn : Nat) (pc : Nat → Int32) (rd : Nat × Nat × Nat) (B L : Nat → Int32) (q kq : RS) (hT : Tok q) (i : Nat) (hi : i < q.1) : WI l yX6_washer (wA yX6_washer cX6_washer 5 (some .int)) ({ frames := 1, cells := 0, slots := 0, locals := 21 }) D (cTys cI cT cN) (cW a r k cI cT cN xh xi xr pn pc rd B L q kq) sz [.ref (a 0), .int (nI i), .int (nI 0)] (fun (r : Int32) (_ : Unit) => r = nI (q.2.2.2.1 i 2)) (fun _ : Unit => (cW a r k cI cT cN xh xi xr pn pc rd B L (q.1, q.2.1, q.2.2.1 + nI 1, upR q.2.2.2.1 i (rw4 (q.2.2.2.1 i 0) (q.2.2.2.1 i 1) 0 (q.2.2.2.1 i 3)), q.2.2.2.2) kq)) := by
  refine rw_startI (by decide) (Nat.le_of_ble_eq_true rfl) ?_
  intro p e s m args below meth c ls A F hP hK hD hA hS hl
  obtain ⟨hx, hb, hr, hlocks, hml, hown, hts⟩ := F
  have hown : s.vm.findClass RX6 = some m.cls := hown
  have hl : lv_has ls 5 [(0, .ref (a 0)), (1, .int (nI i)), (2, .int (nI 0))] := hl
  have ht5 := hT.1
  have ht8 := hT.2.1
  obtain ⟨hk0, hv0, hw0, hp0⟩ := hT.2.2.1 i hi
  refine lv_aload_n hx hb dX6_washer_0 rfl (lv_at hl 0 rfl) ?_
  refine va_get (D := D) (ci := 6) (v := .ref (r 0)) (C := RX6) (T := TX6) (N := 7) hx hb hts iX6 hown hK hP 0 rfl rfl 2 (by decide) (hts _ mg_153) (fun _ h9 => h9) rfl dX6_washer_1 ?_
  refine lv_iload_n hx hb dX6_washer_4 rfl (lv_at hl 1 rfl) ?_
  refine ro_qV (n := 1) (As := [.int (nI i)]) ⟨hx, hb, hml, hown, hts⟩ (c_X3_tapAt l D r cI cT cN q i (by omega) ht5) (cwV 1 hts (gV mg_290 mg_259 mg_260 mg_5 mg_261) rfl rfl rfl vd_X3_tapAt ⟨Nat.le_of_ble_eq_true rfl, Nat.le_of_ble_eq_true rfl⟩) (va_recv hK hP (ci := 3) (q0 := 7) rfl rfl) hK (cW_r hP) rfl hl.1 rfl (Nat.le_of_ble_eq_true rfl) dX6_washer_5 ⟨Nat.zero_le _, Nat.zero_le _⟩ ?_
  refine lv_astore_n (lv' := [(3, .ref (r (3 + i))), (0, .ref (a 0)), (1, .int (nI i)), (2, .int (nI 0))]) hx hb dX6_washer_8 rfl hl (by decide) rfl (fun ls hl => ?_)
  refine lv_aload_n hx hb dX6_washer_9 rfl (lv_at hl 0 rfl) ?_
  refine lv_ifnonnull (tgt := 16) hx hb dX6_washer_10 (by decide) ?_
  refine lv_aload_n hx hb dX6_washer_16 rfl (lv_at hl 0 rfl) ?_
  refine va_get (D := D) (ci := 5) (v := .int (nI (q.2.2.2.1 i 2))) (C := RX5) (T := TX5) (N := 5) hx hb hts iX5 hown hK hP (10 + i) (cW_tap (by omega)) rfl 3 (by decide) (hts _ mg_89) (fun _ h9 => h9) rfl dX6_washer_17 ?_
  refine lv_istore (lv' := [(4, .int (nI (q.2.2.2.1 i 2))), (3, .ref (r (3 + i))), (0, .ref (a 0)), (1, .int (nI i)), (2, .int (nI 0))]) hx hb dX6_washer_20 hl (by decide) rfl (fun ls hl => ?_)
  refine lv_aload_n hx hb dX6_washer_22 rfl (lv_at hl 1 rfl) ?_
  refine lv_iload_n hx hb dX6_washer_23 rfl (lv_at hl 4 rfl) ?_
  refine j_if_eq (tgt := 31) hx hb dX6_washer_24 (by decide) (nI_toInt (by decide)) (fun c_1 => ?_) (fun c_1 => absurd c_1 (by omega))
  refine lv_iconst (v := nI 0) hx hb dX6_washer_31 (by decide) ?_
  refine va_put (D := D) (ci := 5) (v := .int (nI 0)) (ty := .int) (C := RX5) (T := TX5) (N := 5) hx hb hts iX5 tyX5 tyX5_ok nmX5 hown hK hP hD hS (10 + i) (cW_tap (by omega)) rfl 3 (by decide) (hts _ mg_89) (fun _ h9 => h9) rfl (tyX5_ok 3 (by decide)) rfl rfl (Nat.le_of_ble_eq_true rfl) dX6_washer_32 (fun H locs hP hD hS => ?_)
  have hP : va_P D vwCl (cW a r k cI cT cN xh xi xr pn pc rd B L (q.1, q.2.1, q.2.2.1, upR q.2.2.2.1 i (rw4 (q.2.2.2.1 i 0) (q.2.2.2.1 i 1) 0 (q.2.2.2.1 i 3)), q.2.2.2.2) kq) H := Eq.mp (congrArg (fun z => va_P D vwCl z H) (cW_setT (i := i) (by omega) (rw4 (q.2.2.2.1 i 0) (q.2.2.2.1 i 1) 0 (q.2.2.2.1 i 3)))) hP
  have hD : va_D A (cW a r k cI cT cN xh xi xr pn pc rd B L (q.1, q.2.1, q.2.2.1, upR q.2.2.2.1 i (rw4 (q.2.2.2.1 i 0) (q.2.2.2.1 i 1) 0 (q.2.2.2.1 i 3)), q.2.2.2.2) kq) := Eq.mp (congrArg (fun z => va_D A z) (cW_setT (i := i) (by omega) (rw4 (q.2.2.2.1 i 0) (q.2.2.2.1 i 1) 0 (q.2.2.2.1 i 3)))) hD
  refine lv_aload_n hx hb dX6_washer_35 rfl (lv_at hl 2 rfl) ?_
  refine va_get (D := D) (ci := 6) (v := .ref (r 0)) (C := RX6) (T := TX6) (N := 7) hx hb hts iX6 hown hK hP 0 rfl rfl 2 (by decide) (hts _ mg_153) (fun _ h9 => h9) rfl dX6_washer_36 ?_
  refine lv_dup hx hb dX6_washer_39 rfl ?_
  refine va_get (D := D) (ci := 3) (v := .int q.2.2.1) (C := RX3) (T := TX3) (N := 5) hx hb hts iX3 hown hK hP 7 rfl rfl 4 (by decide) (hts _ mg_139) (fun _ h9 => h9) rfl dX6_washer_40 ?_
  refine lv_iconst (v := nI 1) hx hb dX6_washer_43 (by decide) ?_
  refine lv_iadd hx hb dX6_washer_44 ?_
  refine va_put (D := D) (ci := 3) (v := .int (q.2.2.1 + (nI 1))) (ty := .int) (C := RX3) (T := TX3) (N := 5) hx hb hts iX3 tyX3 tyX3_ok nmX3 hown hK hP hD hS 7 rfl rfl 4 (by decide) (hts _ mg_139) (fun _ h9 => h9) rfl (tyX3_ok 4 (by decide)) rfl rfl (Nat.le_of_ble_eq_true rfl) dX6_washer_45 (fun H locs hP hD hS => ?_)
  have hP : va_P D vwCl (cW a r k cI cT cN xh xi xr pn pc rd B L (q.1, q.2.1, q.2.2.1 + (nI 1), upR q.2.2.2.1 i (rw4 (q.2.2.2.1 i 0) (q.2.2.2.1 i 1) 0 (q.2.2.2.1 i 3)), q.2.2.2.2) kq) H := hP
  have hD : va_D A (cW a r k cI cT cN xh xi xr pn pc rd B L (q.1, q.2.1, q.2.2.1 + (nI 1), upR q.2.2.2.1 i (rw4 (q.2.2.2.1 i 0) (q.2.2.2.1 i 1) 0 (q.2.2.2.1 i 3)), q.2.2.2.2) kq) := hD
  refine lv_iload hx hb dX6_washer_48 (lv_at hl 0 rfl) ?_
  exact rw_iret (wp := (fun _ : Unit => (cW a r k cI cT cN xh xi xr pn pc rd B L (q.1, q.2.1, q.2.2.1 + nI 1, upR q.2.2.2.1 i (rw4 (q.2.2.2.1 i 0) (q.2.2.2.1 i 1) 0 (q.2.2.2.1 i 3)), q.2.2.2.2) kq))) (post := (fun (r : Int32) (_ : Unit) => r = nI (q.2.2.2.1 i 2))) () hx hb hr hlocks hK hP hD hS (rfl) (rfl) dX6_washer_50

set_option maxHeartbeats 4000000 in
set_option maxRecDepth 100000 in
theorem c_X6_washerI1 (l : Launch) (D : va_G) (a r k : Nat → Nat) (cI cT cN : ClassId) (sz : Nat) (xh xi xr pn : Nat) (pc : Nat → Int32) (rd : Nat × Nat × Nat) (B L : Nat → Int32) (q kq : RS) (hT : Tok q) (i : Nat) (hi : i < q.1) : WI l yX6_washer (wA yX6_washer cX6_washer 5 (some .int)) ({ frames := 1, cells := 0, slots := 0, locals := 21 }) D (cTys cI cT cN) (cW a r k cI cT cN xh xi xr pn pc rd B L q kq) sz [.ref (a 0), .int (nI i), .int (nI 1)] (fun (r : Int32) (_ : Unit) => r = nI (q.2.2.2.1 i 2)) (fun _ : Unit => (cW a r k cI cT cN xh xi xr pn pc rd B L (q.1, q.2.1, q.2.2.1 + nI 1, upR q.2.2.2.1 i (rw4 (q.2.2.2.1 i 0) (q.2.2.2.1 i 1) 1 (q.2.2.2.1 i 3)), q.2.2.2.2) kq)) := by
  refine rw_startI (by decide) (Nat.le_of_ble_eq_true rfl) ?_
  intro p e s m args below meth c ls A F hP hK hD hA hS hl
  obtain ⟨hx, hb, hr, hlocks, hml, hown, hts⟩ := F
  have hown : s.vm.findClass RX6 = some m.cls := hown
  have hl : lv_has ls 5 [(0, .ref (a 0)), (1, .int (nI i)), (2, .int (nI 1))] := hl
  have ht5 := hT.1
  have ht8 := hT.2.1
  obtain ⟨hk0, hv0, hw0, hp0⟩ := hT.2.2.1 i hi
  refine lv_aload_n hx hb dX6_washer_0 rfl (lv_at hl 0 rfl) ?_
  refine va_get (D := D) (ci := 6) (v := .ref (r 0)) (C := RX6) (T := TX6) (N := 7) hx hb hts iX6 hown hK hP 0 rfl rfl 2 (by decide) (hts _ mg_153) (fun _ h9 => h9) rfl dX6_washer_1 ?_
  refine lv_iload_n hx hb dX6_washer_4 rfl (lv_at hl 1 rfl) ?_
  refine ro_qV (n := 1) (As := [.int (nI i)]) ⟨hx, hb, hml, hown, hts⟩ (c_X3_tapAt l D r cI cT cN q i (by omega) ht5) (cwV 1 hts (gV mg_290 mg_259 mg_260 mg_5 mg_261) rfl rfl rfl vd_X3_tapAt ⟨Nat.le_of_ble_eq_true rfl, Nat.le_of_ble_eq_true rfl⟩) (va_recv hK hP (ci := 3) (q0 := 7) rfl rfl) hK (cW_r hP) rfl hl.1 rfl (Nat.le_of_ble_eq_true rfl) dX6_washer_5 ⟨Nat.zero_le _, Nat.zero_le _⟩ ?_
  refine lv_astore_n (lv' := [(3, .ref (r (3 + i))), (0, .ref (a 0)), (1, .int (nI i)), (2, .int (nI 1))]) hx hb dX6_washer_8 rfl hl (by decide) rfl (fun ls hl => ?_)
  refine lv_aload_n hx hb dX6_washer_9 rfl (lv_at hl 0 rfl) ?_
  refine lv_ifnonnull (tgt := 16) hx hb dX6_washer_10 (by decide) ?_
  refine lv_aload_n hx hb dX6_washer_16 rfl (lv_at hl 0 rfl) ?_
  refine va_get (D := D) (ci := 5) (v := .int (nI (q.2.2.2.1 i 2))) (C := RX5) (T := TX5) (N := 5) hx hb hts iX5 hown hK hP (10 + i) (cW_tap (by omega)) rfl 3 (by decide) (hts _ mg_89) (fun _ h9 => h9) rfl dX6_washer_17 ?_
  refine lv_istore (lv' := [(4, .int (nI (q.2.2.2.1 i 2))), (3, .ref (r (3 + i))), (0, .ref (a 0)), (1, .int (nI i)), (2, .int (nI 1))]) hx hb dX6_washer_20 hl (by decide) rfl (fun ls hl => ?_)
  refine lv_aload_n hx hb dX6_washer_22 rfl (lv_at hl 1 rfl) ?_
  refine lv_iload_n hx hb dX6_washer_23 rfl (lv_at hl 4 rfl) ?_
  refine j_if_eq (tgt := 31) hx hb dX6_washer_24 (by decide) (nI_toInt (by decide)) (fun c_1 => absurd c_1 (by omega)) (fun c_1 => ?_)
  refine lv_iconst (v := nI 1) hx hb dX6_washer_27 (by decide) ?_
  refine lv_goto (tgt := 32) hx hb dX6_washer_28 (by decide) ?_
  refine va_put (D := D) (ci := 5) (v := .int (nI 1)) (ty := .int) (C := RX5) (T := TX5) (N := 5) hx hb hts iX5 tyX5 tyX5_ok nmX5 hown hK hP hD hS (10 + i) (cW_tap (by omega)) rfl 3 (by decide) (hts _ mg_89) (fun _ h9 => h9) rfl (tyX5_ok 3 (by decide)) rfl rfl (Nat.le_of_ble_eq_true rfl) dX6_washer_32 (fun H locs hP hD hS => ?_)
  have hP : va_P D vwCl (cW a r k cI cT cN xh xi xr pn pc rd B L (q.1, q.2.1, q.2.2.1, upR q.2.2.2.1 i (rw4 (q.2.2.2.1 i 0) (q.2.2.2.1 i 1) 1 (q.2.2.2.1 i 3)), q.2.2.2.2) kq) H := Eq.mp (congrArg (fun z => va_P D vwCl z H) (cW_setT (i := i) (by omega) (rw4 (q.2.2.2.1 i 0) (q.2.2.2.1 i 1) 1 (q.2.2.2.1 i 3)))) hP
  have hD : va_D A (cW a r k cI cT cN xh xi xr pn pc rd B L (q.1, q.2.1, q.2.2.1, upR q.2.2.2.1 i (rw4 (q.2.2.2.1 i 0) (q.2.2.2.1 i 1) 1 (q.2.2.2.1 i 3)), q.2.2.2.2) kq) := Eq.mp (congrArg (fun z => va_D A z) (cW_setT (i := i) (by omega) (rw4 (q.2.2.2.1 i 0) (q.2.2.2.1 i 1) 1 (q.2.2.2.1 i 3)))) hD
  refine lv_aload_n hx hb dX6_washer_35 rfl (lv_at hl 2 rfl) ?_
  refine va_get (D := D) (ci := 6) (v := .ref (r 0)) (C := RX6) (T := TX6) (N := 7) hx hb hts iX6 hown hK hP 0 rfl rfl 2 (by decide) (hts _ mg_153) (fun _ h9 => h9) rfl dX6_washer_36 ?_
  refine lv_dup hx hb dX6_washer_39 rfl ?_
  refine va_get (D := D) (ci := 3) (v := .int q.2.2.1) (C := RX3) (T := TX3) (N := 5) hx hb hts iX3 hown hK hP 7 rfl rfl 4 (by decide) (hts _ mg_139) (fun _ h9 => h9) rfl dX6_washer_40 ?_
  refine lv_iconst (v := nI 1) hx hb dX6_washer_43 (by decide) ?_
  refine lv_iadd hx hb dX6_washer_44 ?_
  refine va_put (D := D) (ci := 3) (v := .int (q.2.2.1 + (nI 1))) (ty := .int) (C := RX3) (T := TX3) (N := 5) hx hb hts iX3 tyX3 tyX3_ok nmX3 hown hK hP hD hS 7 rfl rfl 4 (by decide) (hts _ mg_139) (fun _ h9 => h9) rfl (tyX3_ok 4 (by decide)) rfl rfl (Nat.le_of_ble_eq_true rfl) dX6_washer_45 (fun H locs hP hD hS => ?_)
  have hP : va_P D vwCl (cW a r k cI cT cN xh xi xr pn pc rd B L (q.1, q.2.1, q.2.2.1 + (nI 1), upR q.2.2.2.1 i (rw4 (q.2.2.2.1 i 0) (q.2.2.2.1 i 1) 1 (q.2.2.2.1 i 3)), q.2.2.2.2) kq) H := hP
  have hD : va_D A (cW a r k cI cT cN xh xi xr pn pc rd B L (q.1, q.2.1, q.2.2.1 + (nI 1), upR q.2.2.2.1 i (rw4 (q.2.2.2.1 i 0) (q.2.2.2.1 i 1) 1 (q.2.2.2.1 i 3)), q.2.2.2.2) kq) := hD
  refine lv_iload hx hb dX6_washer_48 (lv_at hl 0 rfl) ?_
  exact rw_iret (wp := (fun _ : Unit => (cW a r k cI cT cN xh xi xr pn pc rd B L (q.1, q.2.1, q.2.2.1 + nI 1, upR q.2.2.2.1 i (rw4 (q.2.2.2.1 i 0) (q.2.2.2.1 i 1) 1 (q.2.2.2.1 i 3)), q.2.2.2.2) kq))) (post := (fun (r : Int32) (_ : Unit) => r = nI (q.2.2.2.1 i 2))) () hx hb hr hlocks hK hP hD hS (rfl) (rfl) dX6_washer_50

set_option maxHeartbeats 4000000 in
set_option maxRecDepth 100000 in
theorem c_X6_teachX (l : Launch) (D : va_G) (a r k : Nat → Nat) (cI cT cN : ClassId) (sz : Nat) (xh xi xr pn : Nat) (pc : Nat → Int32) (rd : Nat × Nat × Nat) (B L : Nat → Int32) (q kq : RS) (hT : Tok q) (x w : Int32) (ox : ¬ inr x 0 q.1) : WI l yX6_teach (wA yX6_teach cX6_teach 5 (some .int)) ({ frames := 1, cells := 0, slots := 0, locals := 21 }) D (cTys cI cT cN) (cW a r k cI cT cN xh xi xr pn pc rd B L q kq) sz [.ref (a 0), .int x, .int w] (fun (r : Int32) (_ : Unit) => r = -101) (fun _ : Unit => (cW a r k cI cT cN xh xi xr pn pc rd B L q kq)) := by
  refine rw_startI (by decide) (Nat.le_of_ble_eq_true rfl) ?_
  intro p e s m args below meth c ls A F hP hK hD hA hS hl
  obtain ⟨hx, hb, hr, hlocks, hml, hown, hts⟩ := F
  have hown : s.vm.findClass RX6 = some m.cls := hown
  have hl : lv_has ls 5 [(0, .ref (a 0)), (1, .int x), (2, .int w)] := hl
  have ht5 := hT.1
  have ht8 := hT.2.1
  refine lv_aload_n hx hb dX6_teach_0 rfl (lv_at hl 0 rfl) ?_
  refine va_get (D := D) (ci := 6) (v := .ref (r 0)) (C := RX6) (T := TX6) (N := 7) hx hb hts iX6 hown hK hP 0 rfl rfl 2 (by decide) (hts _ mg_153) (fun _ h9 => h9) rfl dX6_teach_1 ?_
  refine lv_iload_n hx hb dX6_teach_4 rfl (lv_at hl 1 rfl) ?_
  refine ro_qV (n := 1) (As := [.int x]) ⟨hx, hb, hml, hown, hts⟩ (c_X3_tapOut l D r cI cT cN q x (inr_out ox) ht5) (cwV 1 hts (gV mg_290 mg_259 mg_260 mg_5 mg_261) rfl rfl rfl vd_X3_tapAt ⟨Nat.le_of_ble_eq_true rfl, Nat.le_of_ble_eq_true rfl⟩) (va_recv hK hP (ci := 3) (q0 := 7) rfl rfl) hK (cW_r hP) rfl hl.1 rfl (Nat.le_of_ble_eq_true rfl) dX6_teach_5 ⟨Nat.zero_le _, Nat.zero_le _⟩ ?_
  refine lv_astore_nN (lv' := [(3, .null), (0, .ref (a 0)), (1, .int x), (2, .int w)]) hx hb dX6_teach_8 rfl hl (by decide) rfl (fun ls hl => ?_)
  refine lv_aload_nN hx hb dX6_teach_9 rfl (lv_at hl 0 rfl) ?_
  refine lv_ifnonnullN hx hb dX6_teach_10 ?_
  refine lv_bipush (v := (-101)) hx hb dX6_teach_13 (by decide) ?_
  exact rw_iret (wp := (fun _ : Unit => (cW a r k cI cT cN xh xi xr pn pc rd B L q kq))) (post := (fun (r : Int32) (_ : Unit) => r = -101)) () hx hb hr hlocks hK hP hD hS (rfl) (rfl) dX6_teach_15

set_option maxHeartbeats 4000000 in
set_option maxRecDepth 100000 in
theorem c_X6_teachO (l : Launch) (D : va_G) (a r k : Nat → Nat) (cI cT cN : ClassId) (sz : Nat) (xh xi xr pn : Nat) (pc : Nat → Int32) (rd : Nat × Nat × Nat) (B L : Nat → Int32) (q kq : RS) (hT : Tok q) (i : Nat) (hi : i < q.1) (w : Int32) (ow : ¬ inr w 0 4) : WI l yX6_teach (wA yX6_teach cX6_teach 5 (some .int)) ({ frames := 1, cells := 0, slots := 0, locals := 21 }) D (cTys cI cT cN) (cW a r k cI cT cN xh xi xr pn pc rd B L q kq) sz [.ref (a 0), .int (nI i), .int w] (fun (r : Int32) (_ : Unit) => r = -102) (fun _ : Unit => (cW a r k cI cT cN xh xi xr pn pc rd B L q kq)) := by
  refine rw_startI (by decide) (Nat.le_of_ble_eq_true rfl) ?_
  intro p e s m args below meth c ls A F hP hK hD hA hS hl
  obtain ⟨hx, hb, hr, hlocks, hml, hown, hts⟩ := F
  have hown : s.vm.findClass RX6 = some m.cls := hown
  have hl : lv_has ls 5 [(0, .ref (a 0)), (1, .int (nI i)), (2, .int w)] := hl
  have ht5 := hT.1
  have ht8 := hT.2.1
  refine lv_aload_n hx hb dX6_teach_0 rfl (lv_at hl 0 rfl) ?_
  refine va_get (D := D) (ci := 6) (v := .ref (r 0)) (C := RX6) (T := TX6) (N := 7) hx hb hts iX6 hown hK hP 0 rfl rfl 2 (by decide) (hts _ mg_153) (fun _ h9 => h9) rfl dX6_teach_1 ?_
  refine lv_iload_n hx hb dX6_teach_4 rfl (lv_at hl 1 rfl) ?_
  refine ro_qV (n := 1) (As := [.int (nI i)]) ⟨hx, hb, hml, hown, hts⟩ (c_X3_tapAt l D r cI cT cN q i (by omega) ht5) (cwV 1 hts (gV mg_290 mg_259 mg_260 mg_5 mg_261) rfl rfl rfl vd_X3_tapAt ⟨Nat.le_of_ble_eq_true rfl, Nat.le_of_ble_eq_true rfl⟩) (va_recv hK hP (ci := 3) (q0 := 7) rfl rfl) hK (cW_r hP) rfl hl.1 rfl (Nat.le_of_ble_eq_true rfl) dX6_teach_5 ⟨Nat.zero_le _, Nat.zero_le _⟩ ?_
  refine lv_astore_n (lv' := [(3, .ref (r (3 + i))), (0, .ref (a 0)), (1, .int (nI i)), (2, .int w)]) hx hb dX6_teach_8 rfl hl (by decide) rfl (fun ls hl => ?_)
  refine lv_aload_n hx hb dX6_teach_9 rfl (lv_at hl 0 rfl) ?_
  refine lv_ifnonnull (tgt := 16) hx hb dX6_teach_10 (by decide) ?_
  refine lv_iload_n hx hb dX6_teach_16 rfl (lv_at hl 3 rfl) ?_
  refine ro_iS (n := 1) (As := [.int w]) ⟨hx, hb, hml, hown, hts⟩ (c_X6_isSayingF l D w (inr_out ow)) (cwS 1 hts (gS mg_270 mg_221 mg_1 mg_222) rfl rfl rfl vd_X6_isSaying ⟨Nat.le_of_ble_eq_true rfl, Nat.le_of_ble_eq_true rfl⟩)  (hK.sub [] rfl) (fun k q h => by simp at h) rfl hl.1 rfl (Nat.le_of_ble_eq_true rfl) dX6_teach_17 ⟨Nat.zero_le _, Nat.zero_le _⟩ ?_
  refine j_if_ne (tgt := 26) hx hb dX6_teach_20 (by decide) (nI_toInt (by decide)) (fun c_1 => absurd c_1 (by omega)) (fun c_1 => ?_)
  refine lv_bipush (v := (-102)) hx hb dX6_teach_23 (by decide) ?_
  exact rw_iret (wp := (fun _ : Unit => (cW a r k cI cT cN xh xi xr pn pc rd B L q kq))) (post := (fun (r : Int32) (_ : Unit) => r = -102)) () hx hb hr hlocks hK hP hD hS (rfl) (rfl) dX6_teach_25

set_option maxHeartbeats 4000000 in
set_option maxRecDepth 100000 in
theorem c_X6_teachI (l : Launch) (D : va_G) (a r k : Nat → Nat) (cI cT cN : ClassId) (sz : Nat) (xh xi xr pn : Nat) (pc : Nat → Int32) (rd : Nat × Nat × Nat) (B L : Nat → Int32) (q kq : RS) (hT : Tok q) (i : Nat) (hi : i < q.1) (v : Nat) (hv : v < 4) : WI l yX6_teach (wA yX6_teach cX6_teach 5 (some .int)) ({ frames := 1, cells := 0, slots := 0, locals := 21 }) D (cTys cI cT cN) (cW a r k cI cT cN xh xi xr pn pc rd B L q kq) sz [.ref (a 0), .int (nI i), .int (nI v)] (fun (r : Int32) (_ : Unit) => r = nI (q.2.2.2.1 i 1)) (fun _ : Unit => (cW a r k cI cT cN xh xi xr pn pc rd B L (q.1, q.2.1, q.2.2.1 + nI 1, upR q.2.2.2.1 i (rw4 (q.2.2.2.1 i 0) v (q.2.2.2.1 i 2) (q.2.2.2.1 i 3)), q.2.2.2.2) kq)) := by
  refine rw_startI (by decide) (Nat.le_of_ble_eq_true rfl) ?_
  intro p e s m args below meth c ls A F hP hK hD hA hS hl
  obtain ⟨hx, hb, hr, hlocks, hml, hown, hts⟩ := F
  have hown : s.vm.findClass RX6 = some m.cls := hown
  have hl : lv_has ls 5 [(0, .ref (a 0)), (1, .int (nI i)), (2, .int (nI v))] := hl
  have ht5 := hT.1
  have ht8 := hT.2.1
  obtain ⟨hk0, hv0, hw0, hp0⟩ := hT.2.2.1 i hi
  refine lv_aload_n hx hb dX6_teach_0 rfl (lv_at hl 0 rfl) ?_
  refine va_get (D := D) (ci := 6) (v := .ref (r 0)) (C := RX6) (T := TX6) (N := 7) hx hb hts iX6 hown hK hP 0 rfl rfl 2 (by decide) (hts _ mg_153) (fun _ h9 => h9) rfl dX6_teach_1 ?_
  refine lv_iload_n hx hb dX6_teach_4 rfl (lv_at hl 1 rfl) ?_
  refine ro_qV (n := 1) (As := [.int (nI i)]) ⟨hx, hb, hml, hown, hts⟩ (c_X3_tapAt l D r cI cT cN q i (by omega) ht5) (cwV 1 hts (gV mg_290 mg_259 mg_260 mg_5 mg_261) rfl rfl rfl vd_X3_tapAt ⟨Nat.le_of_ble_eq_true rfl, Nat.le_of_ble_eq_true rfl⟩) (va_recv hK hP (ci := 3) (q0 := 7) rfl rfl) hK (cW_r hP) rfl hl.1 rfl (Nat.le_of_ble_eq_true rfl) dX6_teach_5 ⟨Nat.zero_le _, Nat.zero_le _⟩ ?_
  refine lv_astore_n (lv' := [(3, .ref (r (3 + i))), (0, .ref (a 0)), (1, .int (nI i)), (2, .int (nI v))]) hx hb dX6_teach_8 rfl hl (by decide) rfl (fun ls hl => ?_)
  refine lv_aload_n hx hb dX6_teach_9 rfl (lv_at hl 0 rfl) ?_
  refine lv_ifnonnull (tgt := 16) hx hb dX6_teach_10 (by decide) ?_
  refine lv_iload_n hx hb dX6_teach_16 rfl (lv_at hl 3 rfl) ?_
  refine ro_iS (n := 1) (As := [.int (nI v)]) ⟨hx, hb, hml, hown, hts⟩ (c_X6_isSayingT l D (nI v) (by rw [nI_toInt (by omega)]; omega)) (cwS 1 hts (gS mg_270 mg_221 mg_1 mg_222) rfl rfl rfl vd_X6_isSaying ⟨Nat.le_of_ble_eq_true rfl, Nat.le_of_ble_eq_true rfl⟩)  (hK.sub [] rfl) (fun k q h => by simp at h) rfl hl.1 rfl (Nat.le_of_ble_eq_true rfl) dX6_teach_17 ⟨Nat.zero_le _, Nat.zero_le _⟩ ?_
  refine j_if_ne (tgt := 26) hx hb dX6_teach_20 (by decide) (nI_toInt (by decide)) (fun c_1 => ?_) (fun c_1 => absurd c_1 (by omega))
  refine lv_aload_n hx hb dX6_teach_26 rfl (lv_at hl 0 rfl) ?_
  refine va_get (D := D) (ci := 5) (v := .int (nI (q.2.2.2.1 i 1))) (C := RX5) (T := TX5) (N := 5) hx hb hts iX5 hown hK hP (10 + i) (cW_tap (by omega)) rfl 2 (by decide) (hts _ mg_86) (fun _ h9 => h9) rfl dX6_teach_27 ?_
  refine lv_istore (lv' := [(4, .int (nI (q.2.2.2.1 i 1))), (3, .ref (r (3 + i))), (0, .ref (a 0)), (1, .int (nI i)), (2, .int (nI v))]) hx hb dX6_teach_30 hl (by decide) rfl (fun ls hl => ?_)
  refine lv_aload_n hx hb dX6_teach_32 rfl (lv_at hl 1 rfl) ?_
  refine lv_iload_n hx hb dX6_teach_33 rfl (lv_at hl 4 rfl) ?_
  refine va_put (D := D) (ci := 5) (v := .int (nI v)) (ty := .int) (C := RX5) (T := TX5) (N := 5) hx hb hts iX5 tyX5 tyX5_ok nmX5 hown hK hP hD hS (10 + i) (cW_tap (by omega)) rfl 2 (by decide) (hts _ mg_86) (fun _ h9 => h9) rfl (tyX5_ok 2 (by decide)) rfl rfl (Nat.le_of_ble_eq_true rfl) dX6_teach_34 (fun H locs hP hD hS => ?_)
  have hP : va_P D vwCl (cW a r k cI cT cN xh xi xr pn pc rd B L (q.1, q.2.1, q.2.2.1, upR q.2.2.2.1 i (rw4 (q.2.2.2.1 i 0) v (q.2.2.2.1 i 2) (q.2.2.2.1 i 3)), q.2.2.2.2) kq) H := Eq.mp (congrArg (fun z => va_P D vwCl z H) (cW_setT (i := i) (by omega) (rw4 (q.2.2.2.1 i 0) v (q.2.2.2.1 i 2) (q.2.2.2.1 i 3)))) hP
  have hD : va_D A (cW a r k cI cT cN xh xi xr pn pc rd B L (q.1, q.2.1, q.2.2.1, upR q.2.2.2.1 i (rw4 (q.2.2.2.1 i 0) v (q.2.2.2.1 i 2) (q.2.2.2.1 i 3)), q.2.2.2.2) kq) := Eq.mp (congrArg (fun z => va_D A z) (cW_setT (i := i) (by omega) (rw4 (q.2.2.2.1 i 0) v (q.2.2.2.1 i 2) (q.2.2.2.1 i 3)))) hD
  refine lv_aload_n hx hb dX6_teach_37 rfl (lv_at hl 2 rfl) ?_
  refine va_get (D := D) (ci := 6) (v := .ref (r 0)) (C := RX6) (T := TX6) (N := 7) hx hb hts iX6 hown hK hP 0 rfl rfl 2 (by decide) (hts _ mg_153) (fun _ h9 => h9) rfl dX6_teach_38 ?_
  refine lv_dup hx hb dX6_teach_41 rfl ?_
  refine va_get (D := D) (ci := 3) (v := .int q.2.2.1) (C := RX3) (T := TX3) (N := 5) hx hb hts iX3 hown hK hP 7 rfl rfl 4 (by decide) (hts _ mg_139) (fun _ h9 => h9) rfl dX6_teach_42 ?_
  refine lv_iconst (v := nI 1) hx hb dX6_teach_45 (by decide) ?_
  refine lv_iadd hx hb dX6_teach_46 ?_
  refine va_put (D := D) (ci := 3) (v := .int (q.2.2.1 + (nI 1))) (ty := .int) (C := RX3) (T := TX3) (N := 5) hx hb hts iX3 tyX3 tyX3_ok nmX3 hown hK hP hD hS 7 rfl rfl 4 (by decide) (hts _ mg_139) (fun _ h9 => h9) rfl (tyX3_ok 4 (by decide)) rfl rfl (Nat.le_of_ble_eq_true rfl) dX6_teach_47 (fun H locs hP hD hS => ?_)
  have hP : va_P D vwCl (cW a r k cI cT cN xh xi xr pn pc rd B L (q.1, q.2.1, q.2.2.1 + (nI 1), upR q.2.2.2.1 i (rw4 (q.2.2.2.1 i 0) v (q.2.2.2.1 i 2) (q.2.2.2.1 i 3)), q.2.2.2.2) kq) H := hP
  have hD : va_D A (cW a r k cI cT cN xh xi xr pn pc rd B L (q.1, q.2.1, q.2.2.1 + (nI 1), upR q.2.2.2.1 i (rw4 (q.2.2.2.1 i 0) v (q.2.2.2.1 i 2) (q.2.2.2.1 i 3)), q.2.2.2.2) kq) := hD
  refine lv_iload hx hb dX6_teach_50 (lv_at hl 0 rfl) ?_
  exact rw_iret (wp := (fun _ : Unit => (cW a r k cI cT cN xh xi xr pn pc rd B L (q.1, q.2.1, q.2.2.1 + nI 1, upR q.2.2.2.1 i (rw4 (q.2.2.2.1 i 0) v (q.2.2.2.1 i 2) (q.2.2.2.1 i 3)), q.2.2.2.2) kq))) (post := (fun (r : Int32) (_ : Unit) => r = nI (q.2.2.2.1 i 1))) () hx hb hr hlocks hK hP hD hS (rfl) (rfl) dX6_teach_52

set_option maxHeartbeats 4000000 in
set_option maxRecDepth 100000 in
theorem c_X6_putX0 (l : Launch) (D : va_G) (a r k : Nat → Nat) (cI cT cN : ClassId) (sz : Nat) (xh xi xr pn : Nat) (pc : Nat → Int32) (rd : Nat × Nat × Nat) (B L : Nat → Int32) (q kq : RS) (hT : Tok q) (x w : Int32) (ox : ¬ inr x 0 q.1) : WI l yX6_put (wA yX6_put cX6_put 5 (some .int)) ({ frames := 2, cells := 0, slots := 0, locals := 48 }) D (cTys cI cT cN) (cW a r k cI cT cN xh xi xr pn pc rd B L q kq) sz [.ref (a 0), .int x, .int w, .int (nI 0)] (fun (r : Int32) (_ : Unit) => r = -101) (fun _ : Unit => (cW a r k cI cT cN xh xi xr pn pc rd B L q kq)) := by
  refine rw_startI (by decide) (Nat.le_of_ble_eq_true rfl) ?_
  intro p e s m args below meth c ls A F hP hK hD hA hS hl
  obtain ⟨hx, hb, hr, hlocks, hml, hown, hts⟩ := F
  have hown : s.vm.findClass RX6 = some m.cls := hown
  have hl : lv_has ls 5 [(0, .ref (a 0)), (1, .int x), (2, .int w), (3, .int (nI 0))] := hl
  have ht5 := hT.1
  have ht8 := hT.2.1
  refine lv_aload_n hx hb dX6_put_0 rfl (lv_at hl 0 rfl) ?_
  refine va_get (D := D) (ci := 6) (v := .ref (r 0)) (C := RX6) (T := TX6) (N := 7) hx hb hts iX6 hown hK hP 0 rfl rfl 2 (by decide) (hts _ mg_153) (fun _ h9 => h9) rfl dX6_put_1 ?_
  refine lv_iload_n hx hb dX6_put_4 rfl (lv_at hl 1 rfl) ?_
  refine ro_qV (n := 1) (As := [.int x]) ⟨hx, hb, hml, hown, hts⟩ (c_X3_tapOut l D r cI cT cN q x (inr_out ox) ht5) (cwV 1 hts (gV mg_290 mg_259 mg_260 mg_5 mg_261) rfl rfl rfl vd_X3_tapAt ⟨Nat.le_of_ble_eq_true rfl, Nat.le_of_ble_eq_true rfl⟩) (va_recv hK hP (ci := 3) (q0 := 7) rfl rfl) hK (cW_r hP) rfl hl.1 rfl (Nat.le_of_ble_eq_true rfl) dX6_put_5 ⟨Nat.zero_le _, Nat.zero_le _⟩ ?_
  refine lv_astoreN (lv' := [(4, .null), (0, .ref (a 0)), (1, .int x), (2, .int w), (3, .int (nI 0))]) hx hb dX6_put_8 hl (by decide) rfl (fun ls hl => ?_)
  refine lv_aloadN hx hb dX6_put_10 (lv_at hl 0 rfl) ?_
  refine lv_ifnonnullN hx hb dX6_put_12 ?_
  refine lv_bipush (v := (-101)) hx hb dX6_put_15 (by decide) ?_
  exact rw_iret (wp := (fun _ : Unit => (cW a r k cI cT cN xh xi xr pn pc rd B L q kq))) (post := (fun (r : Int32) (_ : Unit) => r = -101)) () hx hb hr hlocks hK hP hD hS (rfl) (rfl) dX6_put_17

set_option maxHeartbeats 4000000 in
set_option maxRecDepth 100000 in
theorem c_X6_putO0 (l : Launch) (D : va_G) (a r k : Nat → Nat) (cI cT cN : ClassId) (sz : Nat) (xh xi xr pn : Nat) (pc : Nat → Int32) (rd : Nat × Nat × Nat) (B L : Nat → Int32) (q kq : RS) (hT : Tok q) (i : Nat) (hi : i < q.1) (w : Int32) (ow : ¬ inr w 0 60) : WI l yX6_put (wA yX6_put cX6_put 5 (some .int)) ({ frames := 2, cells := 0, slots := 0, locals := 48 }) D (cTys cI cT cN) (cW a r k cI cT cN xh xi xr pn pc rd B L q kq) sz [.ref (a 0), .int (nI i), .int w, .int (nI 0)] (fun (r : Int32) (_ : Unit) => r = -102) (fun _ : Unit => (cW a r k cI cT cN xh xi xr pn pc rd B L q kq)) := by
  refine rw_startI (by decide) (Nat.le_of_ble_eq_true rfl) ?_
  intro p e s m args below meth c ls A F hP hK hD hA hS hl
  obtain ⟨hx, hb, hr, hlocks, hml, hown, hts⟩ := F
  have hown : s.vm.findClass RX6 = some m.cls := hown
  have hl : lv_has ls 5 [(0, .ref (a 0)), (1, .int (nI i)), (2, .int w), (3, .int (nI 0))] := hl
  have ht5 := hT.1
  have ht8 := hT.2.1
  have ow7 := inr_out ow
  refine lv_aload_n hx hb dX6_put_0 rfl (lv_at hl 0 rfl) ?_
  refine va_get (D := D) (ci := 6) (v := .ref (r 0)) (C := RX6) (T := TX6) (N := 7) hx hb hts iX6 hown hK hP 0 rfl rfl 2 (by decide) (hts _ mg_153) (fun _ h9 => h9) rfl dX6_put_1 ?_
  refine lv_iload_n hx hb dX6_put_4 rfl (lv_at hl 1 rfl) ?_
  refine ro_qV (n := 1) (As := [.int (nI i)]) ⟨hx, hb, hml, hown, hts⟩ (c_X3_tapAt l D r cI cT cN q i (by omega) ht5) (cwV 1 hts (gV mg_290 mg_259 mg_260 mg_5 mg_261) rfl rfl rfl vd_X3_tapAt ⟨Nat.le_of_ble_eq_true rfl, Nat.le_of_ble_eq_true rfl⟩) (va_recv hK hP (ci := 3) (q0 := 7) rfl rfl) hK (cW_r hP) rfl hl.1 rfl (Nat.le_of_ble_eq_true rfl) dX6_put_5 ⟨Nat.zero_le _, Nat.zero_le _⟩ ?_
  refine lv_astore (lv' := [(4, .ref (r (3 + i))), (0, .ref (a 0)), (1, .int (nI i)), (2, .int w), (3, .int (nI 0))]) hx hb dX6_put_8 hl (by decide) rfl (fun ls hl => ?_)
  refine lv_aload hx hb dX6_put_10 (lv_at hl 0 rfl) ?_
  refine lv_ifnonnull (tgt := 18) hx hb dX6_put_12 (by decide) ?_
  refine lv_iload_n hx hb dX6_put_18 rfl (lv_at hl 3 rfl) ?_
  refine j_if_lt (tgt := 28) hx hb dX6_put_19 (by decide) rfl (fun c_1 => ?_) (fun c_1 => ?_)
  · refine lv_bipush (v := (-102)) hx hb dX6_put_28 (by decide) ?_
    exact rw_iret (wp := (fun _ : Unit => (cW a r k cI cT cN xh xi xr pn pc rd B L q kq))) (post := (fun (r : Int32) (_ : Unit) => r = -102)) () hx hb hr hlocks hK hP hD hS (rfl) (rfl) dX6_put_30
  · refine lv_iload_n hx hb dX6_put_22 rfl (lv_at hl 3 rfl) ?_
    refine lv_bipush (v := nI 59) hx hb dX6_put_23 (by decide) ?_
    refine j_icmp_le (tgt := 31) hx hb dX6_put_25 (by decide) rfl (nI_toInt (by decide)) (fun c_2 => absurd c_2 (by omega)) (fun c_2 => ?_)
    refine lv_bipush (v := (-102)) hx hb dX6_put_28 (by decide) ?_
    exact rw_iret (wp := (fun _ : Unit => (cW a r k cI cT cN xh xi xr pn pc rd B L q kq))) (post := (fun (r : Int32) (_ : Unit) => r = -102)) () hx hb hr hlocks hK hP hD hS (rfl) (rfl) dX6_put_30

set_option maxHeartbeats 4000000 in
set_option maxRecDepth 100000 in
theorem c_X6_putF0 (l : Launch) (D : va_G) (a r k : Nat → Nat) (cI cT cN : ClassId) (sz : Nat) (xh xi xr pn : Nat) (pc : Nat → Int32) (rd : Nat × Nat × Nat) (B L : Nat → Int32) (q kq : RS) (hT : Tok q) (i : Nat) (hi : i < q.1) (d : Nat) (hd : d < 60) (h8 : q.2.1 = 8) : WI l yX6_put (wA yX6_put cX6_put 5 (some .int)) ({ frames := 2, cells := 0, slots := 0, locals := 48 }) D (cTys cI cT cN) (cW a r k cI cT cN xh xi xr pn pc rd B L q kq) sz [.ref (a 0), .int (nI i), .int (nI d), .int (nI 0)] (fun (r : Int32) (_ : Unit) => r = -104) (fun _ : Unit => (cW a r k cI cT cN xh xi xr pn pc rd B L q kq)) := by
  refine rw_startI (by decide) (Nat.le_of_ble_eq_true rfl) ?_
  intro p e s m args below meth c ls A F hP hK hD hA hS hl
  obtain ⟨hx, hb, hr, hlocks, hml, hown, hts⟩ := F
  have hown : s.vm.findClass RX6 = some m.cls := hown
  have hl : lv_has ls 5 [(0, .ref (a 0)), (1, .int (nI i)), (2, .int (nI d)), (3, .int (nI 0))] := hl
  have ht5 := hT.1
  have ht8 := hT.2.1
  refine lv_aload_n hx hb dX6_put_0 rfl (lv_at hl 0 rfl) ?_
  refine va_get (D := D) (ci := 6) (v := .ref (r 0)) (C := RX6) (T := TX6) (N := 7) hx hb hts iX6 hown hK hP 0 rfl rfl 2 (by decide) (hts _ mg_153) (fun _ h9 => h9) rfl dX6_put_1 ?_
  refine lv_iload_n hx hb dX6_put_4 rfl (lv_at hl 1 rfl) ?_
  refine ro_qV (n := 1) (As := [.int (nI i)]) ⟨hx, hb, hml, hown, hts⟩ (c_X3_tapAt l D r cI cT cN q i (by omega) ht5) (cwV 1 hts (gV mg_290 mg_259 mg_260 mg_5 mg_261) rfl rfl rfl vd_X3_tapAt ⟨Nat.le_of_ble_eq_true rfl, Nat.le_of_ble_eq_true rfl⟩) (va_recv hK hP (ci := 3) (q0 := 7) rfl rfl) hK (cW_r hP) rfl hl.1 rfl (Nat.le_of_ble_eq_true rfl) dX6_put_5 ⟨Nat.zero_le _, Nat.zero_le _⟩ ?_
  refine lv_astore (lv' := [(4, .ref (r (3 + i))), (0, .ref (a 0)), (1, .int (nI i)), (2, .int (nI d)), (3, .int (nI 0))]) hx hb dX6_put_8 hl (by decide) rfl (fun ls hl => ?_)
  refine lv_aload hx hb dX6_put_10 (lv_at hl 0 rfl) ?_
  refine lv_ifnonnull (tgt := 18) hx hb dX6_put_12 (by decide) ?_
  refine lv_iload_n hx hb dX6_put_18 rfl (lv_at hl 3 rfl) ?_
  refine j_if_lt (tgt := 28) hx hb dX6_put_19 (by decide) (nI_toInt (by omega)) (fun c_1 => absurd c_1 (by omega)) (fun c_1 => ?_)
  refine lv_iload_n hx hb dX6_put_22 rfl (lv_at hl 3 rfl) ?_
  refine lv_bipush (v := nI 59) hx hb dX6_put_23 (by decide) ?_
  refine j_icmp_le (tgt := 31) hx hb dX6_put_25 (by decide) (nI_toInt (by omega)) (nI_toInt (by decide)) (fun c_2 => ?_) (fun c_2 => absurd c_2 (by omega))
  refine lv_aload_n hx hb dX6_put_31 rfl (lv_at hl 1 rfl) ?_
  refine va_get (D := D) (ci := 6) (v := .ref (r 0)) (C := RX6) (T := TX6) (N := 7) hx hb hts iX6 hown hK hP 0 rfl rfl 2 (by decide) (hts _ mg_153) (fun _ h9 => h9) rfl dX6_put_32 ?_
  refine va_get (D := D) (ci := 3) (v := .int (nI q.2.1)) (C := RX3) (T := TX3) (N := 5) hx hb hts iX3 hown hK hP 7 rfl rfl 3 (by decide) (hts _ mg_137) (fun _ h9 => h9) rfl dX6_put_35 ?_
  refine lv_bipush (v := nI 8) hx hb dX6_put_38 (by decide) ?_
  refine j_icmp_lt (tgt := 46) hx hb dX6_put_40 (by decide) (nI_toInt (by omega)) (nI_toInt (by decide)) (fun c_3 => absurd c_3 (by omega)) (fun c_3 => ?_)
  refine lv_bipush (v := (-104)) hx hb dX6_put_43 (by decide) ?_
  exact rw_iret (wp := (fun _ : Unit => (cW a r k cI cT cN xh xi xr pn pc rd B L q kq))) (post := (fun (r : Int32) (_ : Unit) => r = -104)) () hx hb hr hlocks hK hP hD hS (rfl) (rfl) dX6_put_45

set_option maxHeartbeats 4000000 in
set_option maxRecDepth 100000 in
theorem c_X6_putI0 (l : Launch) (D : va_G) (a r k : Nat → Nat) (cI cT cN : ClassId) (sz : Nat) (xh xi xr pn : Nat) (pc : Nat → Int32) (rd : Nat × Nat × Nat) (B L : Nat → Int32) (q kq : RS) (hT : Tok q) (i : Nat) (hi : i < q.1) (d : Nat) (hd : d < 60) (h8 : ¬ q.2.1 = 8) : WI l yX6_put (wA yX6_put cX6_put 5 (some .int)) ({ frames := 2, cells := 0, slots := 0, locals := 48 }) D (cTys cI cT cN) (cW a r k cI cT cN xh xi xr pn pc rd B L q kq) sz [.ref (a 0), .int (nI i), .int (nI d), .int (nI 0)] (fun (r : Int32) (_ : Unit) => r = nI (q.2.1 + 1)) (fun _ : Unit => (cW a r k cI cT cN xh xi xr pn pc rd B L (q.1, q.2.1 + 1, q.2.2.1, q.2.2.2.1, upR q.2.2.2.2 q.2.1 (rw4 i d 0 (q.2.2.2.1 i 2))) kq)) := by
  refine rw_startI (by decide) (Nat.le_of_ble_eq_true rfl) ?_
  intro p e s m args below meth c ls A F hP hK hD hA hS hl
  obtain ⟨hx, hb, hr, hlocks, hml, hown, hts⟩ := F
  have hown : s.vm.findClass RX6 = some m.cls := hown
  have hl : lv_has ls 5 [(0, .ref (a 0)), (1, .int (nI i)), (2, .int (nI d)), (3, .int (nI 0))] := hl
  have ht5 := hT.1
  have ht8 := hT.2.1
  obtain ⟨hk0, hv0, hw0, hp0⟩ := hT.2.2.1 i hi
  refine lv_aload_n hx hb dX6_put_0 rfl (lv_at hl 0 rfl) ?_
  refine va_get (D := D) (ci := 6) (v := .ref (r 0)) (C := RX6) (T := TX6) (N := 7) hx hb hts iX6 hown hK hP 0 rfl rfl 2 (by decide) (hts _ mg_153) (fun _ h9 => h9) rfl dX6_put_1 ?_
  refine lv_iload_n hx hb dX6_put_4 rfl (lv_at hl 1 rfl) ?_
  refine ro_qV (n := 1) (As := [.int (nI i)]) ⟨hx, hb, hml, hown, hts⟩ (c_X3_tapAt l D r cI cT cN q i (by omega) ht5) (cwV 1 hts (gV mg_290 mg_259 mg_260 mg_5 mg_261) rfl rfl rfl vd_X3_tapAt ⟨Nat.le_of_ble_eq_true rfl, Nat.le_of_ble_eq_true rfl⟩) (va_recv hK hP (ci := 3) (q0 := 7) rfl rfl) hK (cW_r hP) rfl hl.1 rfl (Nat.le_of_ble_eq_true rfl) dX6_put_5 ⟨Nat.zero_le _, Nat.zero_le _⟩ ?_
  refine lv_astore (lv' := [(4, .ref (r (3 + i))), (0, .ref (a 0)), (1, .int (nI i)), (2, .int (nI d)), (3, .int (nI 0))]) hx hb dX6_put_8 hl (by decide) rfl (fun ls hl => ?_)
  refine lv_aload hx hb dX6_put_10 (lv_at hl 0 rfl) ?_
  refine lv_ifnonnull (tgt := 18) hx hb dX6_put_12 (by decide) ?_
  refine lv_iload_n hx hb dX6_put_18 rfl (lv_at hl 3 rfl) ?_
  refine j_if_lt (tgt := 28) hx hb dX6_put_19 (by decide) (nI_toInt (by omega)) (fun c_1 => absurd c_1 (by omega)) (fun c_1 => ?_)
  refine lv_iload_n hx hb dX6_put_22 rfl (lv_at hl 3 rfl) ?_
  refine lv_bipush (v := nI 59) hx hb dX6_put_23 (by decide) ?_
  refine j_icmp_le (tgt := 31) hx hb dX6_put_25 (by decide) (nI_toInt (by omega)) (nI_toInt (by decide)) (fun c_2 => ?_) (fun c_2 => absurd c_2 (by omega))
  refine lv_aload_n hx hb dX6_put_31 rfl (lv_at hl 1 rfl) ?_
  refine va_get (D := D) (ci := 6) (v := .ref (r 0)) (C := RX6) (T := TX6) (N := 7) hx hb hts iX6 hown hK hP 0 rfl rfl 2 (by decide) (hts _ mg_153) (fun _ h9 => h9) rfl dX6_put_32 ?_
  refine va_get (D := D) (ci := 3) (v := .int (nI q.2.1)) (C := RX3) (T := TX3) (N := 5) hx hb hts iX3 hown hK hP 7 rfl rfl 3 (by decide) (hts _ mg_137) (fun _ h9 => h9) rfl dX6_put_35 ?_
  refine lv_bipush (v := nI 8) hx hb dX6_put_38 (by decide) ?_
  refine j_icmp_lt (tgt := 46) hx hb dX6_put_40 (by decide) (nI_toInt (by omega)) (nI_toInt (by decide)) (fun c_3 => ?_) (fun c_3 => absurd c_3 (by omega))
  refine lv_aload_n hx hb dX6_put_46 rfl (lv_at hl 1 rfl) ?_
  refine va_get (D := D) (ci := 6) (v := .ref (r 0)) (C := RX6) (T := TX6) (N := 7) hx hb hts iX6 hown hK hP 0 rfl rfl 2 (by decide) (hts _ mg_153) (fun _ h9 => h9) rfl dX6_put_47 ?_
  refine lv_aload hx hb dX6_put_50 (lv_at hl 0 rfl) ?_
  refine lv_iload_n hx hb dX6_put_52 rfl (lv_at hl 3 rfl) ?_
  refine lv_iload_n hx hb dX6_put_53 rfl (lv_at hl 4 rfl) ?_
  refine j_if_eq (tgt := 61) hx hb dX6_put_54 (by decide) (nI_toInt (by decide)) (fun c_4 => ?_) (fun c_4 => absurd c_4 (by omega))
  refine lv_iconst (v := nI 0) hx hb dX6_put_61 (by decide) ?_
  refine rw_vV (X := ([mainC a r k xh xi xr] ++ (pW a cI pn pc rd ++ sW a cI B L))) (Y := (rW k cT cN kq)) (n := 3) (As := [.ref (r (3 + i)), .int (nI d), .int (nI 0)]) ⟨hx, hb, hml, hown, hts⟩ (c_X3_addNote l D r cI cT cN _ q i d 0 (by omega) (by omega)) (cwV 3 hts (gV mg_383 mg_384 mg_385 mg_5 mg_386) rfl rfl rfl vd_X3_addNote ⟨Nat.le_of_ble_eq_true rfl, Nat.le_of_ble_eq_true rfl⟩) (va_recv hK hP (ci := 3) (q0 := 7) rfl rfl) hK hP hD hS hA rfl hl.1 rfl (Nat.le_of_ble_eq_true rfl) dX6_put_62 ⟨Nat.zero_le _, Nat.zero_le _⟩ (fun u_5 H locs w_6 hP hD hS => ?_)
  have hP : va_P D vwCl (cW a r k cI cT cN xh xi xr pn pc rd B L (q.1, q.2.1 + 1, q.2.2.1, q.2.2.2.1, upR q.2.2.2.2 q.2.1 (rw4 i d 0 (q.2.2.2.1 i 2))) kq) H := hP
  have hD : va_D A (cW a r k cI cT cN xh xi xr pn pc rd B L (q.1, q.2.1 + 1, q.2.2.1, q.2.2.2.1, upR q.2.2.2.2 q.2.1 (rw4 i d 0 (q.2.2.2.1 i 2))) kq) := hD
  refine lv_aload_n hx hb dX6_put_65 rfl (lv_at hl 1 rfl) ?_
  refine va_get (D := D) (ci := 6) (v := .ref (r 0)) (C := RX6) (T := TX6) (N := 7) hx hb hts iX6 hown hK hP 0 rfl rfl 2 (by decide) (hts _ mg_153) (fun _ h9 => h9) rfl dX6_put_66 ?_
  refine va_get (D := D) (ci := 3) (v := .int (nI (q.2.1 + 1))) (C := RX3) (T := TX3) (N := 5) hx hb hts iX3 hown hK hP 7 rfl rfl 3 (by decide) (hts _ mg_137) (fun _ h9 => h9) rfl dX6_put_69 ?_
  exact rw_iret (wp := (fun _ : Unit => (cW a r k cI cT cN xh xi xr pn pc rd B L (q.1, q.2.1 + 1, q.2.2.1, q.2.2.2.1, upR q.2.2.2.2 q.2.1 (rw4 i d 0 (q.2.2.2.1 i 2))) kq))) (post := (fun (r : Int32) (_ : Unit) => r = nI (q.2.1 + 1))) () hx hb hr hlocks hK hP hD hS (rfl) (rfl) dX6_put_72

set_option maxHeartbeats 4000000 in
set_option maxRecDepth 100000 in
theorem c_X6_putX1 (l : Launch) (D : va_G) (a r k : Nat → Nat) (cI cT cN : ClassId) (sz : Nat) (xh xi xr pn : Nat) (pc : Nat → Int32) (rd : Nat × Nat × Nat) (B L : Nat → Int32) (q kq : RS) (hT : Tok q) (x w : Int32) (ox : ¬ inr x 0 q.1) : WI l yX6_put (wA yX6_put cX6_put 5 (some .int)) ({ frames := 2, cells := 0, slots := 0, locals := 48 }) D (cTys cI cT cN) (cW a r k cI cT cN xh xi xr pn pc rd B L q kq) sz [.ref (a 0), .int x, .int w, .int (nI 1)] (fun (r : Int32) (_ : Unit) => r = -101) (fun _ : Unit => (cW a r k cI cT cN xh xi xr pn pc rd B L q kq)) := by
  refine rw_startI (by decide) (Nat.le_of_ble_eq_true rfl) ?_
  intro p e s m args below meth c ls A F hP hK hD hA hS hl
  obtain ⟨hx, hb, hr, hlocks, hml, hown, hts⟩ := F
  have hown : s.vm.findClass RX6 = some m.cls := hown
  have hl : lv_has ls 5 [(0, .ref (a 0)), (1, .int x), (2, .int w), (3, .int (nI 1))] := hl
  have ht5 := hT.1
  have ht8 := hT.2.1
  refine lv_aload_n hx hb dX6_put_0 rfl (lv_at hl 0 rfl) ?_
  refine va_get (D := D) (ci := 6) (v := .ref (r 0)) (C := RX6) (T := TX6) (N := 7) hx hb hts iX6 hown hK hP 0 rfl rfl 2 (by decide) (hts _ mg_153) (fun _ h9 => h9) rfl dX6_put_1 ?_
  refine lv_iload_n hx hb dX6_put_4 rfl (lv_at hl 1 rfl) ?_
  refine ro_qV (n := 1) (As := [.int x]) ⟨hx, hb, hml, hown, hts⟩ (c_X3_tapOut l D r cI cT cN q x (inr_out ox) ht5) (cwV 1 hts (gV mg_290 mg_259 mg_260 mg_5 mg_261) rfl rfl rfl vd_X3_tapAt ⟨Nat.le_of_ble_eq_true rfl, Nat.le_of_ble_eq_true rfl⟩) (va_recv hK hP (ci := 3) (q0 := 7) rfl rfl) hK (cW_r hP) rfl hl.1 rfl (Nat.le_of_ble_eq_true rfl) dX6_put_5 ⟨Nat.zero_le _, Nat.zero_le _⟩ ?_
  refine lv_astoreN (lv' := [(4, .null), (0, .ref (a 0)), (1, .int x), (2, .int w), (3, .int (nI 1))]) hx hb dX6_put_8 hl (by decide) rfl (fun ls hl => ?_)
  refine lv_aloadN hx hb dX6_put_10 (lv_at hl 0 rfl) ?_
  refine lv_ifnonnullN hx hb dX6_put_12 ?_
  refine lv_bipush (v := (-101)) hx hb dX6_put_15 (by decide) ?_
  exact rw_iret (wp := (fun _ : Unit => (cW a r k cI cT cN xh xi xr pn pc rd B L q kq))) (post := (fun (r : Int32) (_ : Unit) => r = -101)) () hx hb hr hlocks hK hP hD hS (rfl) (rfl) dX6_put_17

set_option maxHeartbeats 4000000 in
set_option maxRecDepth 100000 in
theorem c_X6_putO1 (l : Launch) (D : va_G) (a r k : Nat → Nat) (cI cT cN : ClassId) (sz : Nat) (xh xi xr pn : Nat) (pc : Nat → Int32) (rd : Nat × Nat × Nat) (B L : Nat → Int32) (q kq : RS) (hT : Tok q) (i : Nat) (hi : i < q.1) (w : Int32) (ow : ¬ inr w 0 60) : WI l yX6_put (wA yX6_put cX6_put 5 (some .int)) ({ frames := 2, cells := 0, slots := 0, locals := 48 }) D (cTys cI cT cN) (cW a r k cI cT cN xh xi xr pn pc rd B L q kq) sz [.ref (a 0), .int (nI i), .int w, .int (nI 1)] (fun (r : Int32) (_ : Unit) => r = -102) (fun _ : Unit => (cW a r k cI cT cN xh xi xr pn pc rd B L q kq)) := by
  refine rw_startI (by decide) (Nat.le_of_ble_eq_true rfl) ?_
  intro p e s m args below meth c ls A F hP hK hD hA hS hl
  obtain ⟨hx, hb, hr, hlocks, hml, hown, hts⟩ := F
  have hown : s.vm.findClass RX6 = some m.cls := hown
  have hl : lv_has ls 5 [(0, .ref (a 0)), (1, .int (nI i)), (2, .int w), (3, .int (nI 1))] := hl
  have ht5 := hT.1
  have ht8 := hT.2.1
  have ow7 := inr_out ow
  refine lv_aload_n hx hb dX6_put_0 rfl (lv_at hl 0 rfl) ?_
  refine va_get (D := D) (ci := 6) (v := .ref (r 0)) (C := RX6) (T := TX6) (N := 7) hx hb hts iX6 hown hK hP 0 rfl rfl 2 (by decide) (hts _ mg_153) (fun _ h9 => h9) rfl dX6_put_1 ?_
  refine lv_iload_n hx hb dX6_put_4 rfl (lv_at hl 1 rfl) ?_
  refine ro_qV (n := 1) (As := [.int (nI i)]) ⟨hx, hb, hml, hown, hts⟩ (c_X3_tapAt l D r cI cT cN q i (by omega) ht5) (cwV 1 hts (gV mg_290 mg_259 mg_260 mg_5 mg_261) rfl rfl rfl vd_X3_tapAt ⟨Nat.le_of_ble_eq_true rfl, Nat.le_of_ble_eq_true rfl⟩) (va_recv hK hP (ci := 3) (q0 := 7) rfl rfl) hK (cW_r hP) rfl hl.1 rfl (Nat.le_of_ble_eq_true rfl) dX6_put_5 ⟨Nat.zero_le _, Nat.zero_le _⟩ ?_
  refine lv_astore (lv' := [(4, .ref (r (3 + i))), (0, .ref (a 0)), (1, .int (nI i)), (2, .int w), (3, .int (nI 1))]) hx hb dX6_put_8 hl (by decide) rfl (fun ls hl => ?_)
  refine lv_aload hx hb dX6_put_10 (lv_at hl 0 rfl) ?_
  refine lv_ifnonnull (tgt := 18) hx hb dX6_put_12 (by decide) ?_
  refine lv_iload_n hx hb dX6_put_18 rfl (lv_at hl 3 rfl) ?_
  refine j_if_lt (tgt := 28) hx hb dX6_put_19 (by decide) rfl (fun c_1 => ?_) (fun c_1 => ?_)
  · refine lv_bipush (v := (-102)) hx hb dX6_put_28 (by decide) ?_
    exact rw_iret (wp := (fun _ : Unit => (cW a r k cI cT cN xh xi xr pn pc rd B L q kq))) (post := (fun (r : Int32) (_ : Unit) => r = -102)) () hx hb hr hlocks hK hP hD hS (rfl) (rfl) dX6_put_30
  · refine lv_iload_n hx hb dX6_put_22 rfl (lv_at hl 3 rfl) ?_
    refine lv_bipush (v := nI 59) hx hb dX6_put_23 (by decide) ?_
    refine j_icmp_le (tgt := 31) hx hb dX6_put_25 (by decide) rfl (nI_toInt (by decide)) (fun c_2 => absurd c_2 (by omega)) (fun c_2 => ?_)
    refine lv_bipush (v := (-102)) hx hb dX6_put_28 (by decide) ?_
    exact rw_iret (wp := (fun _ : Unit => (cW a r k cI cT cN xh xi xr pn pc rd B L q kq))) (post := (fun (r : Int32) (_ : Unit) => r = -102)) () hx hb hr hlocks hK hP hD hS (rfl) (rfl) dX6_put_30

set_option maxHeartbeats 4000000 in
set_option maxRecDepth 100000 in
theorem c_X6_putF1 (l : Launch) (D : va_G) (a r k : Nat → Nat) (cI cT cN : ClassId) (sz : Nat) (xh xi xr pn : Nat) (pc : Nat → Int32) (rd : Nat × Nat × Nat) (B L : Nat → Int32) (q kq : RS) (hT : Tok q) (i : Nat) (hi : i < q.1) (d : Nat) (hd : d < 60) (h8 : q.2.1 = 8) : WI l yX6_put (wA yX6_put cX6_put 5 (some .int)) ({ frames := 2, cells := 0, slots := 0, locals := 48 }) D (cTys cI cT cN) (cW a r k cI cT cN xh xi xr pn pc rd B L q kq) sz [.ref (a 0), .int (nI i), .int (nI d), .int (nI 1)] (fun (r : Int32) (_ : Unit) => r = -104) (fun _ : Unit => (cW a r k cI cT cN xh xi xr pn pc rd B L q kq)) := by
  refine rw_startI (by decide) (Nat.le_of_ble_eq_true rfl) ?_
  intro p e s m args below meth c ls A F hP hK hD hA hS hl
  obtain ⟨hx, hb, hr, hlocks, hml, hown, hts⟩ := F
  have hown : s.vm.findClass RX6 = some m.cls := hown
  have hl : lv_has ls 5 [(0, .ref (a 0)), (1, .int (nI i)), (2, .int (nI d)), (3, .int (nI 1))] := hl
  have ht5 := hT.1
  have ht8 := hT.2.1
  refine lv_aload_n hx hb dX6_put_0 rfl (lv_at hl 0 rfl) ?_
  refine va_get (D := D) (ci := 6) (v := .ref (r 0)) (C := RX6) (T := TX6) (N := 7) hx hb hts iX6 hown hK hP 0 rfl rfl 2 (by decide) (hts _ mg_153) (fun _ h9 => h9) rfl dX6_put_1 ?_
  refine lv_iload_n hx hb dX6_put_4 rfl (lv_at hl 1 rfl) ?_
  refine ro_qV (n := 1) (As := [.int (nI i)]) ⟨hx, hb, hml, hown, hts⟩ (c_X3_tapAt l D r cI cT cN q i (by omega) ht5) (cwV 1 hts (gV mg_290 mg_259 mg_260 mg_5 mg_261) rfl rfl rfl vd_X3_tapAt ⟨Nat.le_of_ble_eq_true rfl, Nat.le_of_ble_eq_true rfl⟩) (va_recv hK hP (ci := 3) (q0 := 7) rfl rfl) hK (cW_r hP) rfl hl.1 rfl (Nat.le_of_ble_eq_true rfl) dX6_put_5 ⟨Nat.zero_le _, Nat.zero_le _⟩ ?_
  refine lv_astore (lv' := [(4, .ref (r (3 + i))), (0, .ref (a 0)), (1, .int (nI i)), (2, .int (nI d)), (3, .int (nI 1))]) hx hb dX6_put_8 hl (by decide) rfl (fun ls hl => ?_)
  refine lv_aload hx hb dX6_put_10 (lv_at hl 0 rfl) ?_
  refine lv_ifnonnull (tgt := 18) hx hb dX6_put_12 (by decide) ?_
  refine lv_iload_n hx hb dX6_put_18 rfl (lv_at hl 3 rfl) ?_
  refine j_if_lt (tgt := 28) hx hb dX6_put_19 (by decide) (nI_toInt (by omega)) (fun c_1 => absurd c_1 (by omega)) (fun c_1 => ?_)
  refine lv_iload_n hx hb dX6_put_22 rfl (lv_at hl 3 rfl) ?_
  refine lv_bipush (v := nI 59) hx hb dX6_put_23 (by decide) ?_
  refine j_icmp_le (tgt := 31) hx hb dX6_put_25 (by decide) (nI_toInt (by omega)) (nI_toInt (by decide)) (fun c_2 => ?_) (fun c_2 => absurd c_2 (by omega))
  refine lv_aload_n hx hb dX6_put_31 rfl (lv_at hl 1 rfl) ?_
  refine va_get (D := D) (ci := 6) (v := .ref (r 0)) (C := RX6) (T := TX6) (N := 7) hx hb hts iX6 hown hK hP 0 rfl rfl 2 (by decide) (hts _ mg_153) (fun _ h9 => h9) rfl dX6_put_32 ?_
  refine va_get (D := D) (ci := 3) (v := .int (nI q.2.1)) (C := RX3) (T := TX3) (N := 5) hx hb hts iX3 hown hK hP 7 rfl rfl 3 (by decide) (hts _ mg_137) (fun _ h9 => h9) rfl dX6_put_35 ?_
  refine lv_bipush (v := nI 8) hx hb dX6_put_38 (by decide) ?_
  refine j_icmp_lt (tgt := 46) hx hb dX6_put_40 (by decide) (nI_toInt (by omega)) (nI_toInt (by decide)) (fun c_3 => absurd c_3 (by omega)) (fun c_3 => ?_)
  refine lv_bipush (v := (-104)) hx hb dX6_put_43 (by decide) ?_
  exact rw_iret (wp := (fun _ : Unit => (cW a r k cI cT cN xh xi xr pn pc rd B L q kq))) (post := (fun (r : Int32) (_ : Unit) => r = -104)) () hx hb hr hlocks hK hP hD hS (rfl) (rfl) dX6_put_45

set_option maxHeartbeats 4000000 in
set_option maxRecDepth 100000 in
theorem c_X6_putI1 (l : Launch) (D : va_G) (a r k : Nat → Nat) (cI cT cN : ClassId) (sz : Nat) (xh xi xr pn : Nat) (pc : Nat → Int32) (rd : Nat × Nat × Nat) (B L : Nat → Int32) (q kq : RS) (hT : Tok q) (i : Nat) (hi : i < q.1) (d : Nat) (hd : d < 60) (h8 : ¬ q.2.1 = 8) : WI l yX6_put (wA yX6_put cX6_put 5 (some .int)) ({ frames := 2, cells := 0, slots := 0, locals := 48 }) D (cTys cI cT cN) (cW a r k cI cT cN xh xi xr pn pc rd B L q kq) sz [.ref (a 0), .int (nI i), .int (nI d), .int (nI 1)] (fun (r : Int32) (_ : Unit) => r = nI (q.2.1 + 1)) (fun _ : Unit => (cW a r k cI cT cN xh xi xr pn pc rd B L (q.1, q.2.1 + 1, q.2.2.1, q.2.2.2.1, upR q.2.2.2.2 q.2.1 (rw4 i d 1 (q.2.2.2.1 i 2))) kq)) := by
  refine rw_startI (by decide) (Nat.le_of_ble_eq_true rfl) ?_
  intro p e s m args below meth c ls A F hP hK hD hA hS hl
  obtain ⟨hx, hb, hr, hlocks, hml, hown, hts⟩ := F
  have hown : s.vm.findClass RX6 = some m.cls := hown
  have hl : lv_has ls 5 [(0, .ref (a 0)), (1, .int (nI i)), (2, .int (nI d)), (3, .int (nI 1))] := hl
  have ht5 := hT.1
  have ht8 := hT.2.1
  obtain ⟨hk0, hv0, hw0, hp0⟩ := hT.2.2.1 i hi
  refine lv_aload_n hx hb dX6_put_0 rfl (lv_at hl 0 rfl) ?_
  refine va_get (D := D) (ci := 6) (v := .ref (r 0)) (C := RX6) (T := TX6) (N := 7) hx hb hts iX6 hown hK hP 0 rfl rfl 2 (by decide) (hts _ mg_153) (fun _ h9 => h9) rfl dX6_put_1 ?_
  refine lv_iload_n hx hb dX6_put_4 rfl (lv_at hl 1 rfl) ?_
  refine ro_qV (n := 1) (As := [.int (nI i)]) ⟨hx, hb, hml, hown, hts⟩ (c_X3_tapAt l D r cI cT cN q i (by omega) ht5) (cwV 1 hts (gV mg_290 mg_259 mg_260 mg_5 mg_261) rfl rfl rfl vd_X3_tapAt ⟨Nat.le_of_ble_eq_true rfl, Nat.le_of_ble_eq_true rfl⟩) (va_recv hK hP (ci := 3) (q0 := 7) rfl rfl) hK (cW_r hP) rfl hl.1 rfl (Nat.le_of_ble_eq_true rfl) dX6_put_5 ⟨Nat.zero_le _, Nat.zero_le _⟩ ?_
  refine lv_astore (lv' := [(4, .ref (r (3 + i))), (0, .ref (a 0)), (1, .int (nI i)), (2, .int (nI d)), (3, .int (nI 1))]) hx hb dX6_put_8 hl (by decide) rfl (fun ls hl => ?_)
  refine lv_aload hx hb dX6_put_10 (lv_at hl 0 rfl) ?_
  refine lv_ifnonnull (tgt := 18) hx hb dX6_put_12 (by decide) ?_
  refine lv_iload_n hx hb dX6_put_18 rfl (lv_at hl 3 rfl) ?_
  refine j_if_lt (tgt := 28) hx hb dX6_put_19 (by decide) (nI_toInt (by omega)) (fun c_1 => absurd c_1 (by omega)) (fun c_1 => ?_)
  refine lv_iload_n hx hb dX6_put_22 rfl (lv_at hl 3 rfl) ?_
  refine lv_bipush (v := nI 59) hx hb dX6_put_23 (by decide) ?_
  refine j_icmp_le (tgt := 31) hx hb dX6_put_25 (by decide) (nI_toInt (by omega)) (nI_toInt (by decide)) (fun c_2 => ?_) (fun c_2 => absurd c_2 (by omega))
  refine lv_aload_n hx hb dX6_put_31 rfl (lv_at hl 1 rfl) ?_
  refine va_get (D := D) (ci := 6) (v := .ref (r 0)) (C := RX6) (T := TX6) (N := 7) hx hb hts iX6 hown hK hP 0 rfl rfl 2 (by decide) (hts _ mg_153) (fun _ h9 => h9) rfl dX6_put_32 ?_
  refine va_get (D := D) (ci := 3) (v := .int (nI q.2.1)) (C := RX3) (T := TX3) (N := 5) hx hb hts iX3 hown hK hP 7 rfl rfl 3 (by decide) (hts _ mg_137) (fun _ h9 => h9) rfl dX6_put_35 ?_
  refine lv_bipush (v := nI 8) hx hb dX6_put_38 (by decide) ?_
  refine j_icmp_lt (tgt := 46) hx hb dX6_put_40 (by decide) (nI_toInt (by omega)) (nI_toInt (by decide)) (fun c_3 => ?_) (fun c_3 => absurd c_3 (by omega))
  refine lv_aload_n hx hb dX6_put_46 rfl (lv_at hl 1 rfl) ?_
  refine va_get (D := D) (ci := 6) (v := .ref (r 0)) (C := RX6) (T := TX6) (N := 7) hx hb hts iX6 hown hK hP 0 rfl rfl 2 (by decide) (hts _ mg_153) (fun _ h9 => h9) rfl dX6_put_47 ?_
  refine lv_aload hx hb dX6_put_50 (lv_at hl 0 rfl) ?_
  refine lv_iload_n hx hb dX6_put_52 rfl (lv_at hl 3 rfl) ?_
  refine lv_iload_n hx hb dX6_put_53 rfl (lv_at hl 4 rfl) ?_
  refine j_if_eq (tgt := 61) hx hb dX6_put_54 (by decide) (nI_toInt (by decide)) (fun c_4 => absurd c_4 (by omega)) (fun c_4 => ?_)
  refine lv_iconst (v := nI 1) hx hb dX6_put_57 (by decide) ?_
  refine lv_goto (tgt := 62) hx hb dX6_put_58 (by decide) ?_
  refine rw_vV (X := ([mainC a r k xh xi xr] ++ (pW a cI pn pc rd ++ sW a cI B L))) (Y := (rW k cT cN kq)) (n := 3) (As := [.ref (r (3 + i)), .int (nI d), .int (nI 1)]) ⟨hx, hb, hml, hown, hts⟩ (c_X3_addNote l D r cI cT cN _ q i d 1 (by omega) (by omega)) (cwV 3 hts (gV mg_383 mg_384 mg_385 mg_5 mg_386) rfl rfl rfl vd_X3_addNote ⟨Nat.le_of_ble_eq_true rfl, Nat.le_of_ble_eq_true rfl⟩) (va_recv hK hP (ci := 3) (q0 := 7) rfl rfl) hK hP hD hS hA rfl hl.1 rfl (Nat.le_of_ble_eq_true rfl) dX6_put_62 ⟨Nat.zero_le _, Nat.zero_le _⟩ (fun u_5 H locs w_6 hP hD hS => ?_)
  have hP : va_P D vwCl (cW a r k cI cT cN xh xi xr pn pc rd B L (q.1, q.2.1 + 1, q.2.2.1, q.2.2.2.1, upR q.2.2.2.2 q.2.1 (rw4 i d 1 (q.2.2.2.1 i 2))) kq) H := hP
  have hD : va_D A (cW a r k cI cT cN xh xi xr pn pc rd B L (q.1, q.2.1 + 1, q.2.2.1, q.2.2.2.1, upR q.2.2.2.2 q.2.1 (rw4 i d 1 (q.2.2.2.1 i 2))) kq) := hD
  refine lv_aload_n hx hb dX6_put_65 rfl (lv_at hl 1 rfl) ?_
  refine va_get (D := D) (ci := 6) (v := .ref (r 0)) (C := RX6) (T := TX6) (N := 7) hx hb hts iX6 hown hK hP 0 rfl rfl 2 (by decide) (hts _ mg_153) (fun _ h9 => h9) rfl dX6_put_66 ?_
  refine va_get (D := D) (ci := 3) (v := .int (nI (q.2.1 + 1))) (C := RX3) (T := TX3) (N := 5) hx hb hts iX3 hown hK hP 7 rfl rfl 3 (by decide) (hts _ mg_137) (fun _ h9 => h9) rfl dX6_put_69 ?_
  exact rw_iret (wp := (fun _ : Unit => (cW a r k cI cT cN xh xi xr pn pc rd B L (q.1, q.2.1 + 1, q.2.2.1, q.2.2.2.1, upR q.2.2.2.2 q.2.1 (rw4 i d 1 (q.2.2.2.1 i 2))) kq))) (post := (fun (r : Int32) (_ : Unit) => r = nI (q.2.1 + 1))) () hx hb hr hlocks hK hP hD hS (rfl) (rfl) dX6_put_72

set_option maxHeartbeats 4000000 in
set_option maxRecDepth 100000 in
theorem c_X6_image0 (l : Launch) (D : va_G) (a r k : Nat → Nat) (cI cT cN : ClassId) (sz : Nat) (xi xr pn : Nat) (pc : Nat → Int32) (rd : Nat × Nat × Nat) (B L : Nat → Int32) (q kq : RS) (hT : Tok q) : WI l yX6_image (wA yX6_image cX6_image 1 (some .int)) ({ frames := 2, cells := 0, slots := 0, locals := 48 }) D (cTys cI cT cN) (cW a r k cI cT cN 0 xi xr pn pc rd B L q kq) sz [.ref (a 0)] (fun (r : Int32) (_ : Unit) => r = -103) (fun _ : Unit => (cW a r k cI cT cN 0 xi xr pn pc rd B L q kq)) := by
  refine rw_startI (by decide) (Nat.le_of_ble_eq_true rfl) ?_
  intro p e s m args below meth c ls A F hP hK hD hA hS hl
  obtain ⟨hx, hb, hr, hlocks, hml, hown, hts⟩ := F
  have hown : s.vm.findClass RX6 = some m.cls := hown
  have hl : lv_has ls 1 [(0, .ref (a 0))] := hl
  have ht5 := hT.1
  have ht8 := hT.2.1
  refine lv_aload_n hx hb dX6_image_0 rfl (lv_at hl 0 rfl) ?_
  refine va_get (D := D) (ci := 6) (v := .int (nI 0)) (C := RX6) (T := TX6) (N := 7) hx hb hts iX6 hown hK hP 0 rfl rfl 4 (by decide) (hts _ mg_155) (fun _ h9 => h9) rfl dX6_image_1 ?_
  refine j_if_ne (tgt := 10) hx hb dX6_image_4 (by decide) (nI_toInt (by decide)) (fun c_1 => absurd c_1 (by omega)) (fun c_1 => ?_)
  refine lv_bipush (v := (-103)) hx hb dX6_image_7 (by decide) ?_
  exact rw_iret (wp := (fun _ : Unit => (cW a r k cI cT cN 0 xi xr pn pc rd B L q kq))) (post := (fun (r : Int32) (_ : Unit) => r = -103)) () hx hb hr hlocks hK hP hD hS (rfl) (rfl) dX6_image_9

set_option maxHeartbeats 4000000 in
set_option maxRecDepth 100000 in
theorem c_X6_image1 (l : Launch) (D : va_G) (a r k : Nat → Nat) (cI cT cN : ClassId) (sz : Nat) (xi xr pn : Nat) (pc : Nat → Int32) (rd : Nat × Nat × Nat) (B L : Nat → Int32) (q kq : RS) (hT : Tok q) : WI l yX6_image (wA yX6_image cX6_image 1 (some .int)) ({ frames := 2, cells := 0, slots := 0, locals := 48 }) D (cTys cI cT cN) (cW a r k cI cT cN 1 xi xr pn pc rd B L q kq) sz [.ref (a 0)] (fun (r : Int32) (_ : Unit) => r = q.2.2.1) (fun _ : Unit => (cW a r k cI cT cN 1 1 xr pn pc rd B L q (q.1, q.2.1, q.2.2.1, mixF kq.2.2.2.1 q.2.2.2.1 q.1, mixF kq.2.2.2.2 q.2.2.2.2 q.2.1))) := by
  refine rw_startI (by decide) (Nat.le_of_ble_eq_true rfl) ?_
  intro p e s m args below meth c ls A F hP hK hD hA hS hl
  obtain ⟨hx, hb, hr, hlocks, hml, hown, hts⟩ := F
  have hown : s.vm.findClass RX6 = some m.cls := hown
  have hl : lv_has ls 1 [(0, .ref (a 0))] := hl
  have ht5 := hT.1
  have ht8 := hT.2.1
  refine lv_aload_n hx hb dX6_image_0 rfl (lv_at hl 0 rfl) ?_
  refine va_get (D := D) (ci := 6) (v := .int (nI 1)) (C := RX6) (T := TX6) (N := 7) hx hb hts iX6 hown hK hP 0 rfl rfl 4 (by decide) (hts _ mg_155) (fun _ h9 => h9) rfl dX6_image_1 ?_
  refine j_if_ne (tgt := 10) hx hb dX6_image_4 (by decide) (nI_toInt (by decide)) (fun c_1 => ?_) (fun c_1 => absurd c_1 (by omega))
  refine lv_aload_n hx hb dX6_image_10 rfl (lv_at hl 0 rfl) ?_
  refine va_get (D := D) (ci := 6) (v := .ref (k 0)) (C := RX6) (T := TX6) (N := 7) hx hb hts iX6 hown hK hP 0 rfl rfl 3 (by decide) (hts _ mg_154) (fun _ h9 => h9) rfl dX6_image_11 ?_
  refine lv_aload_n hx hb dX6_image_14 rfl (lv_at hl 0 rfl) ?_
  refine va_get (D := D) (ci := 6) (v := .ref (r 0)) (C := RX6) (T := TX6) (N := 7) hx hb hts iX6 hown hK hP 0 rfl rfl 2 (by decide) (hts _ mg_153) (fun _ h9 => h9) rfl dX6_image_15 ?_
  refine rw_vV (X := ([mainC a r k 1 xi xr] ++ (pW a cI pn pc rd ++ sW a cI B L))) (Y := []) (n := 1) (As := [.ref (r 0)]) ⟨hx, hb, hml, hown, hts⟩ (c_X3_copyFromS l D k r cI cT cN _ kq q ht5 ht8) (cwV 1 hts (gV mg_414 mg_415 mg_416 mg_5 mg_417) rfl rfl rfl vd_X3_copyFrom ⟨Nat.le_of_ble_eq_true rfl, Nat.le_of_ble_eq_true rfl⟩) (va_recv hK hP (ci := 3) (q0 := 23) rfl rfl) hK hP hD hS hA rfl hl.1 rfl (Nat.le_of_ble_eq_true rfl) dX6_image_18 ⟨Nat.zero_le _, Nat.zero_le _⟩ (fun u_2 H locs w_3 hP hD hS => ?_)
  have hP : va_P D vwCl (cW a r k cI cT cN 1 xi xr pn pc rd B L q (q.1, q.2.1, q.2.2.1, mixF kq.2.2.2.1 q.2.2.2.1 q.1, mixF kq.2.2.2.2 q.2.2.2.2 q.2.1)) H := hP
  have hD : va_D A (cW a r k cI cT cN 1 xi xr pn pc rd B L q (q.1, q.2.1, q.2.2.1, mixF kq.2.2.2.1 q.2.2.2.1 q.1, mixF kq.2.2.2.2 q.2.2.2.2 q.2.1)) := hD
  refine lv_aload_n hx hb dX6_image_21 rfl (lv_at hl 0 rfl) ?_
  refine lv_iconst (v := nI 1) hx hb dX6_image_22 (by decide) ?_
  refine va_put (D := D) (ci := 6) (v := .int (nI 1)) (ty := .boolean) (C := RX6) (T := TX6) (N := 7) hx hb hts iX6 tyX6 tyX6_ok nmX6 hown hK hP hD hS 0 rfl rfl 5 (by decide) (hts _ mg_156) (fun _ h9 => h9) rfl (tyX6_ok 5 (by decide)) rfl rfl (Nat.le_of_ble_eq_true rfl) dX6_image_23 (fun H locs hP hD hS => ?_)
  have hP : va_P D vwCl (cW a r k cI cT cN 1 1 xr pn pc rd B L q (q.1, q.2.1, q.2.2.1, mixF kq.2.2.2.1 q.2.2.2.1 q.1, mixF kq.2.2.2.2 q.2.2.2.2 q.2.1)) H := hP
  have hD : va_D A (cW a r k cI cT cN 1 1 xr pn pc rd B L q (q.1, q.2.1, q.2.2.1, mixF kq.2.2.2.1 q.2.2.2.1 q.1, mixF kq.2.2.2.2 q.2.2.2.2 q.2.1)) := hD
  refine lv_aload_n hx hb dX6_image_26 rfl (lv_at hl 0 rfl) ?_
  refine va_get (D := D) (ci := 6) (v := .ref (r 0)) (C := RX6) (T := TX6) (N := 7) hx hb hts iX6 hown hK hP 0 rfl rfl 2 (by decide) (hts _ mg_153) (fun _ h9 => h9) rfl dX6_image_27 ?_
  refine va_get (D := D) (ci := 3) (v := .int q.2.2.1) (C := RX3) (T := TX3) (N := 5) hx hb hts iX3 hown hK hP 7 rfl rfl 4 (by decide) (hts _ mg_139) (fun _ h9 => h9) rfl dX6_image_30 ?_
  exact rw_iret (wp := (fun _ : Unit => (cW a r k cI cT cN 1 1 xr pn pc rd B L q (q.1, q.2.1, q.2.2.1, mixF kq.2.2.2.1 q.2.2.2.1 q.1, mixF kq.2.2.2.2 q.2.2.2.2 q.2.1)))) (post := (fun (r : Int32) (_ : Unit) => r = q.2.2.1)) () hx hb hr hlocks hK hP hD hS (rfl) (rfl) dX6_image_33

set_option maxHeartbeats 4000000 in
set_option maxRecDepth 100000 in
theorem c_X6_restore0 (l : Launch) (D : va_G) (a r k : Nat → Nat) (cI cT cN : ClassId) (sz : Nat) (xh xr pn : Nat) (pc : Nat → Int32) (rd : Nat × Nat × Nat) (B L : Nat → Int32) (q kq : RS) (hT : Tok q) : WI l yX6_restore (wA yX6_restore cX6_restore 1 (some .int)) ({ frames := 2, cells := 0, slots := 0, locals := 48 }) D (cTys cI cT cN) (cW a r k cI cT cN xh 0 xr pn pc rd B L q kq) sz [.ref (a 0)] (fun (r : Int32) (_ : Unit) => r = -103) (fun _ : Unit => (cW a r k cI cT cN xh 0 xr pn pc rd B L q kq)) := by
  refine rw_startI (by decide) (Nat.le_of_ble_eq_true rfl) ?_
  intro p e s m args below meth c ls A F hP hK hD hA hS hl
  obtain ⟨hx, hb, hr, hlocks, hml, hown, hts⟩ := F
  have hown : s.vm.findClass RX6 = some m.cls := hown
  have hl : lv_has ls 1 [(0, .ref (a 0))] := hl
  have ht5 := hT.1
  have ht8 := hT.2.1
  refine lv_aload_n hx hb dX6_restore_0 rfl (lv_at hl 0 rfl) ?_
  refine va_get (D := D) (ci := 6) (v := .int (nI 0)) (C := RX6) (T := TX6) (N := 7) hx hb hts iX6 hown hK hP 0 rfl rfl 5 (by decide) (hts _ mg_156) (fun _ h9 => h9) rfl dX6_restore_1 ?_
  refine j_if_ne (tgt := 10) hx hb dX6_restore_4 (by decide) (nI_toInt (by decide)) (fun c_1 => absurd c_1 (by omega)) (fun c_1 => ?_)
  refine lv_bipush (v := (-103)) hx hb dX6_restore_7 (by decide) ?_
  exact rw_iret (wp := (fun _ : Unit => (cW a r k cI cT cN xh 0 xr pn pc rd B L q kq))) (post := (fun (r : Int32) (_ : Unit) => r = -103)) () hx hb hr hlocks hK hP hD hS (rfl) (rfl) dX6_restore_9

set_option maxHeartbeats 4000000 in
set_option maxRecDepth 100000 in
theorem c_X6_restore1 (l : Launch) (D : va_G) (a r k : Nat → Nat) (cI cT cN : ClassId) (sz : Nat) (xh xr pn : Nat) (pc : Nat → Int32) (rd : Nat × Nat × Nat) (B L : Nat → Int32) (q kq : RS) (hT : Tok q) (hTk : Tok kq) : WI l yX6_restore (wA yX6_restore cX6_restore 1 (some .int)) ({ frames := 2, cells := 0, slots := 0, locals := 48 }) D (cTys cI cT cN) (cW a r k cI cT cN xh 1 xr pn pc rd B L q kq) sz [.ref (a 0)] (fun (r : Int32) (_ : Unit) => r = kq.2.2.1) (fun _ : Unit => (cW a r k cI cT cN xh 1 xr pn pc rd B L (kq.1, kq.2.1, kq.2.2.1, mixF q.2.2.2.1 kq.2.2.2.1 kq.1, mixF q.2.2.2.2 kq.2.2.2.2 kq.2.1) kq)) := by
  refine rw_startI (by decide) (Nat.le_of_ble_eq_true rfl) ?_
  intro p e s m args below meth c ls A F hP hK hD hA hS hl
  obtain ⟨hx, hb, hr, hlocks, hml, hown, hts⟩ := F
  have hown : s.vm.findClass RX6 = some m.cls := hown
  have hl : lv_has ls 1 [(0, .ref (a 0))] := hl
  have ht5 := hT.1
  have ht8 := hT.2.1
  refine lv_aload_n hx hb dX6_restore_0 rfl (lv_at hl 0 rfl) ?_
  refine va_get (D := D) (ci := 6) (v := .int (nI 1)) (C := RX6) (T := TX6) (N := 7) hx hb hts iX6 hown hK hP 0 rfl rfl 5 (by decide) (hts _ mg_156) (fun _ h9 => h9) rfl dX6_restore_1 ?_
  refine j_if_ne (tgt := 10) hx hb dX6_restore_4 (by decide) (nI_toInt (by decide)) (fun c_1 => ?_) (fun c_1 => absurd c_1 (by omega))
  refine lv_aload_n hx hb dX6_restore_10 rfl (lv_at hl 0 rfl) ?_
  refine va_get (D := D) (ci := 6) (v := .ref (r 0)) (C := RX6) (T := TX6) (N := 7) hx hb hts iX6 hown hK hP 0 rfl rfl 2 (by decide) (hts _ mg_153) (fun _ h9 => h9) rfl dX6_restore_11 ?_
  refine lv_aload_n hx hb dX6_restore_14 rfl (lv_at hl 0 rfl) ?_
  refine va_get (D := D) (ci := 6) (v := .ref (k 0)) (C := RX6) (T := TX6) (N := 7) hx hb hts iX6 hown hK hP 0 rfl rfl 3 (by decide) (hts _ mg_154) (fun _ h9 => h9) rfl dX6_restore_15 ?_
  refine rw_vV (X := ([mainC a r k xh 1 xr] ++ (pW a cI pn pc rd ++ sW a cI B L))) (Y := []) (n := 1) (As := [.ref (k 0)]) ⟨hx, hb, hml, hown, hts⟩ (c_X3_copyFrom l D r k cI cT cN _ q kq hTk.1 hTk.2.1) (cwV 1 hts (gV mg_414 mg_415 mg_416 mg_5 mg_417) rfl rfl rfl vd_X3_copyFrom ⟨Nat.le_of_ble_eq_true rfl, Nat.le_of_ble_eq_true rfl⟩) (va_recv hK hP (ci := 3) (q0 := 7) rfl rfl) hK hP hD hS hA rfl hl.1 rfl (Nat.le_of_ble_eq_true rfl) dX6_restore_18 ⟨Nat.zero_le _, Nat.zero_le _⟩ (fun u_2 H locs w_3 hP hD hS => ?_)
  have hP : va_P D vwCl (cW a r k cI cT cN xh 1 xr pn pc rd B L (kq.1, kq.2.1, kq.2.2.1, mixF q.2.2.2.1 kq.2.2.2.1 kq.1, mixF q.2.2.2.2 kq.2.2.2.2 kq.2.1) kq) H := hP
  have hD : va_D A (cW a r k cI cT cN xh 1 xr pn pc rd B L (kq.1, kq.2.1, kq.2.2.1, mixF q.2.2.2.1 kq.2.2.2.1 kq.1, mixF q.2.2.2.2 kq.2.2.2.2 kq.2.1) kq) := hD
  refine lv_aload_n hx hb dX6_restore_21 rfl (lv_at hl 0 rfl) ?_
  refine va_get (D := D) (ci := 6) (v := .ref (r 0)) (C := RX6) (T := TX6) (N := 7) hx hb hts iX6 hown hK hP 0 rfl rfl 2 (by decide) (hts _ mg_153) (fun _ h9 => h9) rfl dX6_restore_22 ?_
  refine va_get (D := D) (ci := 3) (v := .int kq.2.2.1) (C := RX3) (T := TX3) (N := 5) hx hb hts iX3 hown hK hP 7 rfl rfl 4 (by decide) (hts _ mg_139) (fun _ h9 => h9) rfl dX6_restore_25 ?_
  exact rw_iret (wp := (fun _ : Unit => (cW a r k cI cT cN xh 1 xr pn pc rd B L (kq.1, kq.2.1, kq.2.2.1, mixF q.2.2.2.1 kq.2.2.2.1 kq.1, mixF q.2.2.2.2 kq.2.2.2.2 kq.2.1) kq))) (post := (fun (r : Int32) (_ : Unit) => r = kq.2.2.1)) () hx hb hr hlocks hK hP hD hS (rfl) (rfl) dX6_restore_28
