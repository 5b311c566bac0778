set_option maxHeartbeats 4000000 in
set_option maxRecDepth 100000 in
theorem c_X1_codeAt (l : Launch) (D : va_G) (a : Nat → Nat) (cI cT cN : ClassId) (pn : Nat) (pc : Nat → Int32) (rd : Nat × Nat × Nat) (i : Nat) (hi : i < pn) (h30 : pn ≤ 30) : ROi l yX1_codeAt (wA yX1_codeAt cX1_codeAt 2 (some .int)) ({ frames := 0, cells := 0, slots := 0, locals := 0 }) D (cTys cI cT cN) (pW a cI pn pc rd) [.ref (a 1), .int (nI i)] (pc i) := by
  refine go_start (by decide) (Nat.le_of_ble_eq_true rfl) ?_
  intro p e s m args below meth c ls F _ hB hl
  obtain ⟨hx, hb, hr, hlocks, hml, hown, hts⟩ := F
  obtain ⟨hP, hK⟩ := hB
  have hown : s.vm.findClass RX1 = some m.cls := hown
  have hl : lv_has ls 2 [(0, .ref (a 1)), (1, .int (nI i))] := hl
  refine lv_iload_n hx hb dX1_codeAt_0 rfl (lv_at hl 1 rfl) ?_
  refine j_if_lt (tgt := 30) hx hb dX1_codeAt_1 (by decide) (nI_toInt (by omega)) (fun c_1 => absurd c_1 (by omega)) (fun c_1 => ?_)
  refine lv_iload_n hx hb dX1_codeAt_4 rfl (lv_at hl 1 rfl) ?_
  refine lv_aload_n hx hb dX1_codeAt_5 rfl (lv_at hl 0 rfl) ?_
  refine va_get (D := D) (ci := 1) (v := .int (nI pn)) (C := RX1) (T := TX1) (N := 3) hx hb hts iX1 hown hK hP 0 rfl rfl 2 (by decide) (hts _ mg_43) (fun _ h9 => h9) rfl dX1_codeAt_6 ?_
  refine j_icmp_ge (tgt := 30) hx hb dX1_codeAt_9 (by decide) (nI_toInt (by omega)) (nI_toInt (by omega)) (fun c_2 => absurd c_2 (by omega)) (fun c_2 => ?_)
  refine lv_iload_n hx hb dX1_codeAt_12 rfl (lv_at hl 1 rfl) ?_
  refine lv_aload_n hx hb dX1_codeAt_13 rfl (lv_at hl 0 rfl) ?_
  refine va_get (D := D) (ci := 1) (v := .ref (a 2)) (C := RX1) (T := TX1) (N := 3) hx hb hts iX1 hown hK hP 0 rfl rfl 0 (by decide) (hts _ mg_41) (fun _ h9 => h9) rfl dX1_codeAt_14 ?_
  refine va_alen (v := nI 30) hx hb hK hP 1 0 rfl rfl rfl dX1_codeAt_17 ?_
  refine j_icmp_ge (tgt := 30) hx hb dX1_codeAt_18 (by decide) (nI_toInt (by omega)) (nI_toInt (by decide)) (fun c_3 => absurd c_3 (by omega)) (fun c_3 => ?_)
  refine lv_aload_n hx hb dX1_codeAt_21 rfl (lv_at hl 0 rfl) ?_
  refine va_get (D := D) (ci := 1) (v := .ref (a 2)) (C := RX1) (T := TX1) (N := 3) hx hb hts iX1 hown hK hP 0 rfl rfl 0 (by decide) (hts _ mg_41) (fun _ h9 => h9) rfl dX1_codeAt_22 ?_
  refine lv_iload_n hx hb dX1_codeAt_25 rfl (lv_at hl 1 rfl) ?_
  refine n_aldi hx hb hK hP 1 0 rfl rfl (by omega) (by decide) (v := pc i) (rfl) dX1_codeAt_26 ?_
  refine lv_goto (tgt := 31) hx hb dX1_codeAt_27 (by decide) ?_
  exact ro_iret hx hb hr hlocks (rfl) dX1_codeAt_31

set_option maxHeartbeats 4000000 in
set_option maxRecDepth 100000 in
theorem c_X6_abo0 (l : Launch) (D : va_G) (a r k : Nat → Nat) (cI cT cN : ClassId) (xh xi xr pn : Nat) (pc : Nat → Int32) (rd : Nat × Nat × Nat) (B L : Nat → Int32) (q kq : RS) (b : Nat → Nat → Nat) (hS : SR b B L) (hok9 : hok b) (hT : Tok q) (i : Nat) (hi : i < q.1) : ROi l yX6_aboutOf (wA yX6_aboutOf cX6_aboutOf 3 (some .int)) ({ frames := 4, cells := 0, slots := 0, locals := 101 }) D (cTys cI cT cN) (cW a r k cI cT cN xh xi xr pn pc rd B L q kq) [.ref (a 0), .ref (r (3 + i)), .int (nI 0)] (abt b q.2.2.2.1 q.2.2.2.2 q.2.1 i 0) := by
  refine go_start (by decide) (Nat.le_of_ble_eq_true rfl) ?_
  intro p e s m args below meth c ls F _ hB hl
  obtain ⟨hx, hb, hr, hlocks, hml, hown, hts⟩ := F
  obtain ⟨hP, hK⟩ := hB
  have hown : s.vm.findClass RX6 = some m.cls := hown
  have hl : lv_has ls 3 [(0, .ref (a 0)), (1, .ref (r (3 + i))), (2, .int (nI 0))] := hl
  have ht5 := hT.1
  have ht8 := hT.2.1
  obtain ⟨hk0, hv0, hw0, hp0⟩ := hT.2.2.1 i hi
  refine lv_iload_n hx hb dX6_aboutOf_0 rfl (lv_at hl 2 rfl) ?_
  refine lv_tableIn (off := 47) (tgt := 48) hx hb dX6_aboutOf_1 (by rw [show (nI 0).toInt = 0 from by first | decide | (rw [nI_toInt (by decide)]; omega)]; decide) (by rw [show (nI 0).toInt = 0 from by first | decide | (rw [nI_toInt (by decide)]; omega)]; decide) (by rw [show (nI 0).toInt = 0 from by first | decide | (rw [nI_toInt (by decide)]; omega)]; rfl) (by decide) ?_
  refine lv_aload_n hx hb dX6_aboutOf_48 rfl (lv_at hl 1 rfl) ?_
  refine va_get (D := D) (ci := 5) (v := .int (nI (q.2.2.2.1 i 0))) (C := RX5) (T := TX5) (N := 5) hx hb hts iX5 hown hK hP (10 + i) (cW_tap (by omega)) rfl 1 (by decide) (hts _ mg_83) (fun _ h9 => h9) rfl dX6_aboutOf_49 ?_
  exact ro_iret hx hb hr hlocks (abt_0.symm) dX6_aboutOf_52

set_option maxHeartbeats 4000000 in
set_option maxRecDepth 100000 in
theorem c_X6_abo1 (l : Launch) (D : va_G) (a r k : Nat → Nat) (cI cT cN : ClassId) (xh xi xr pn : Nat) (pc : Nat → Int32) (rd : Nat × Nat × Nat) (B L : Nat → Int32) (q kq : RS) (b : Nat → Nat → Nat) (hS : SR b B L) (hok9 : hok b) (hT : Tok q) (i : Nat) (hi : i < q.1) : ROi l yX6_aboutOf (wA yX6_aboutOf cX6_aboutOf 3 (some .int)) ({ frames := 4, cells := 0, slots := 0, locals := 101 }) D (cTys cI cT cN) (cW a r k cI cT cN xh xi xr pn pc rd B L q kq) [.ref (a 0), .ref (r (3 + i)), .int (nI 1)] (abt b q.2.2.2.1 q.2.2.2.2 q.2.1 i 1) := by
  refine go_start (by decide) (Nat.le_of_ble_eq_true rfl) ?_
  intro p e s m args below meth c ls F _ hB hl
  obtain ⟨hx, hb, hr, hlocks, hml, hown, hts⟩ := F
  obtain ⟨hP, hK⟩ := hB
  have hown : s.vm.findClass RX6 = some m.cls := hown
  have hl : lv_has ls 3 [(0, .ref (a 0)), (1, .ref (r (3 + i))), (2, .int (nI 1))] := hl
  have ht5 := hT.1
  have ht8 := hT.2.1
  obtain ⟨hk0, hv0, hw0, hp0⟩ := hT.2.2.1 i hi
  refine lv_iload_n hx hb dX6_aboutOf_0 rfl (lv_at hl 2 rfl) ?_
  refine lv_tableIn (off := 52) (tgt := 53) hx hb dX6_aboutOf_1 (by rw [show (nI 1).toInt = 1 from by first | decide | (rw [nI_toInt (by decide)]; omega)]; decide) (by rw [show (nI 1).toInt = 1 from by first | decide | (rw [nI_toInt (by decide)]; omega)]; decide) (by rw [show (nI 1).toInt = 1 from by first | decide | (rw [nI_toInt (by decide)]; omega)]; rfl) (by decide) ?_
  refine lv_aload_n hx hb dX6_aboutOf_53 rfl (lv_at hl 1 rfl) ?_
  refine va_get (D := D) (ci := 5) (v := .int (nI (q.2.2.2.1 i 1))) (C := RX5) (T := TX5) (N := 5) hx hb hts iX5 hown hK hP (10 + i) (cW_tap (by omega)) rfl 2 (by decide) (hts _ mg_86) (fun _ h9 => h9) rfl dX6_aboutOf_54 ?_
  exact ro_iret hx hb hr hlocks (abt_1.symm) dX6_aboutOf_57

set_option maxHeartbeats 4000000 in
set_option maxRecDepth 100000 in
theorem c_X6_abo2 (l : Launch) (D : va_G) (a r k : Nat → Nat) (cI cT cN : ClassId) (xh xi xr pn : Nat) (pc : Nat → Int32) (rd : Nat × Nat × Nat) (B L : Nat → Int32) (q kq : RS) (b : Nat → Nat → Nat) (hS : SR b B L) (hok9 : hok b) (hT : Tok q) (i : Nat) (hi : i < q.1) : ROi l yX6_aboutOf (wA yX6_aboutOf cX6_aboutOf 3 (some .int)) ({ frames := 4, cells := 0, slots := 0, locals := 101 }) D (cTys cI cT cN) (cW a r k cI cT cN xh xi xr pn pc rd B L q kq) [.ref (a 0), .ref (r (3 + i)), .int (nI 2)] (abt b q.2.2.2.1 q.2.2.2.2 q.2.1 i 2) := by
  refine go_start (by decide) (Nat.le_of_ble_eq_true rfl) ?_
  intro p e s m args below meth c ls F _ hB hl
  obtain ⟨hx, hb, hr, hlocks, hml, hown, hts⟩ := F
  obtain ⟨hP, hK⟩ := hB
  have hown : s.vm.findClass RX6 = some m.cls := hown
  have hl : lv_has ls 3 [(0, .ref (a 0)), (1, .ref (r (3 + i))), (2, .int (nI 2))] := hl
  have ht5 := hT.1
  have ht8 := hT.2.1
  obtain ⟨hk0, hv0, hw0, hp0⟩ := hT.2.2.1 i hi
  refine lv_iload_n hx hb dX6_aboutOf_0 rfl (lv_at hl 2 rfl) ?_
  refine lv_tableIn (off := 57) (tgt := 58) hx hb dX6_aboutOf_1 (by rw [show (nI 2).toInt = 2 from by first | decide | (rw [nI_toInt (by decide)]; omega)]; decide) (by rw [show (nI 2).toInt = 2 from by first | decide | (rw [nI_toInt (by decide)]; omega)]; decide) (by rw [show (nI 2).toInt = 2 from by first | decide | (rw [nI_toInt (by decide)]; omega)]; rfl) (by decide) ?_
  refine lv_aload_n hx hb dX6_aboutOf_58 rfl (lv_at hl 1 rfl) ?_
  refine va_get (D := D) (ci := 5) (v := .int (nI (q.2.2.2.1 i 2))) (C := RX5) (T := TX5) (N := 5) hx hb hts iX5 hown hK hP (10 + i) (cW_tap (by omega)) rfl 3 (by decide) (hts _ mg_89) (fun _ h9 => h9) rfl dX6_aboutOf_59 ?_
  exact ro_iret hx hb hr hlocks (abt_2.symm) dX6_aboutOf_62

set_option maxHeartbeats 4000000 in
set_option maxRecDepth 100000 in
theorem c_X6_abo3 (l : Launch) (D : va_G) (a r k : Nat → Nat) (cI cT cN : ClassId) (xh xi xr pn : Nat) (pc : Nat → Int32) (rd : Nat × Nat × Nat) (B L : Nat → Int32) (q kq : RS) (b : Nat → Nat → Nat) (hS : SR b B L) (hok9 : hok b) (hT : Tok q) (i : Nat) (hi : i < q.1) : ROi l yX6_aboutOf (wA yX6_aboutOf cX6_aboutOf 3 (some .int)) ({ frames := 4, cells := 0, slots := 0, locals := 101 }) D (cTys cI cT cN) (cW a r k cI cT cN xh xi xr pn pc rd B L q kq) [.ref (a 0), .ref (r (3 + i)), .int (nI 3)] (abt b q.2.2.2.1 q.2.2.2.2 q.2.1 i 3) := by
  refine go_start (by decide) (Nat.le_of_ble_eq_true rfl) ?_
  intro p e s m args below meth c ls F _ hB hl
  obtain ⟨hx, hb, hr, hlocks, hml, hown, hts⟩ := F
  obtain ⟨hP, hK⟩ := hB
  have hown : s.vm.findClass RX6 = some m.cls := hown
  have hl : lv_has ls 3 [(0, .ref (a 0)), (1, .ref (r (3 + i))), (2, .int (nI 3))] := hl
  have ht5 := hT.1
  have ht8 := hT.2.1
  obtain ⟨hk0, hv0, hw0, hp0⟩ := hT.2.2.1 i hi
  refine lv_iload_n hx hb dX6_aboutOf_0 rfl (lv_at hl 2 rfl) ?_
  refine lv_tableIn (off := 62) (tgt := 63) hx hb dX6_aboutOf_1 (by rw [show (nI 3).toInt = 3 from by first | decide | (rw [nI_toInt (by decide)]; omega)]; decide) (by rw [show (nI 3).toInt = 3 from by first | decide | (rw [nI_toInt (by decide)]; omega)]; decide) (by rw [show (nI 3).toInt = 3 from by first | decide | (rw [nI_toInt (by decide)]; omega)]; rfl) (by decide) ?_
  refine lv_aload_n hx hb dX6_aboutOf_63 rfl (lv_at hl 1 rfl) ?_
  refine va_get (D := D) (ci := 5) (v := .int (nI (q.2.2.2.1 i 3))) (C := RX5) (T := TX5) (N := 5) hx hb hts iX5 hown hK hP (10 + i) (cW_tap (by omega)) rfl 4 (by decide) (hts _ mg_92) (fun _ h9 => h9) rfl dX6_aboutOf_64 ?_
  exact ro_iret hx hb hr hlocks (abt_3.symm) dX6_aboutOf_67

set_option maxHeartbeats 4000000 in
set_option maxRecDepth 100000 in
theorem c_X6_abo4 (l : Launch) (D : va_G) (a r k : Nat → Nat) (cI cT cN : ClassId) (xh xi xr pn : Nat) (pc : Nat → Int32) (rd : Nat × Nat × Nat) (B L : Nat → Int32) (q kq : RS) (b : Nat → Nat → Nat) (hS : SR b B L) (hok9 : hok b) (hT : Tok q) (i : Nat) (hi : i < q.1) : ROi l yX6_aboutOf (wA yX6_aboutOf cX6_aboutOf 3 (some .int)) ({ frames := 4, cells := 0, slots := 0, locals := 101 }) D (cTys cI cT cN) (cW a r k cI cT cN xh xi xr pn pc rd B L q kq) [.ref (a 0), .ref (r (3 + i)), .int (nI 4)] (abt b q.2.2.2.1 q.2.2.2.2 q.2.1 i 4) := by
  refine go_start (by decide) (Nat.le_of_ble_eq_true rfl) ?_
  intro p e s m args below meth c ls F _ hB hl
  obtain ⟨hx, hb, hr, hlocks, hml, hown, hts⟩ := F
  obtain ⟨hP, hK⟩ := hB
  have hown : s.vm.findClass RX6 = some m.cls := hown
  have hl : lv_has ls 3 [(0, .ref (a 0)), (1, .ref (r (3 + i))), (2, .int (nI 4))] := hl
  have ht5 := hT.1
  have ht8 := hT.2.1
  obtain ⟨hk0, hv0, hw0, hp0⟩ := hT.2.2.1 i hi
  refine lv_iload_n hx hb dX6_aboutOf_0 rfl (lv_at hl 2 rfl) ?_
  refine lv_tableIn (off := 67) (tgt := 68) hx hb dX6_aboutOf_1 (by rw [show (nI 4).toInt = 4 from by first | decide | (rw [nI_toInt (by decide)]; omega)]; decide) (by rw [show (nI 4).toInt = 4 from by first | decide | (rw [nI_toInt (by decide)]; omega)]; decide) (by rw [show (nI 4).toInt = 4 from by first | decide | (rw [nI_toInt (by decide)]; omega)]; rfl) (by decide) ?_
  refine lv_aload_n hx hb dX6_aboutOf_68 rfl (lv_at hl 0 rfl) ?_
  refine lv_aload_n hx hb dX6_aboutOf_69 rfl (lv_at hl 1 rfl) ?_
  refine ro_iV (n := 1) (As := [.ref (r (3 + i))]) ⟨hx, hb, hml, hown, hts⟩ (c_X6_sureOf l D a r k cI cT cN xh xi xr pn pc rd B L q kq b hS hok9 hT i hi) (cwV 1 hts (gV mg_295 mg_297 mg_1004 mg_1 mg_298) rfl rfl rfl vd_X6_sureOf ⟨Nat.le_of_ble_eq_true rfl, Nat.le_of_ble_eq_true rfl⟩) (va_recv hK hP (ci := 6) (q0 := 0) rfl rfl) hK hP rfl hl.1 rfl (Nat.le_of_ble_eq_true rfl) dX6_aboutOf_70 ⟨Nat.zero_le _, Nat.zero_le _⟩ ?_
  exact ro_iret hx hb hr hlocks (abt_4.symm) dX6_aboutOf_73

set_option maxHeartbeats 4000000 in
set_option maxRecDepth 100000 in
theorem c_X6_abo5 (l : Launch) (D : va_G) (a r k : Nat → Nat) (cI cT cN : ClassId) (xh xi xr pn : Nat) (pc : Nat → Int32) (rd : Nat × Nat × Nat) (B L : Nat → Int32) (q kq : RS) (b : Nat → Nat → Nat) (hS : SR b B L) (hok9 : hok b) (hT : Tok q) (i : Nat) (hi : i < q.1) : ROi l yX6_aboutOf (wA yX6_aboutOf cX6_aboutOf 3 (some .int)) ({ frames := 4, cells := 0, slots := 0, locals := 101 }) D (cTys cI cT cN) (cW a r k cI cT cN xh xi xr pn pc rd B L q kq) [.ref (a 0), .ref (r (3 + i)), .int (nI 5)] (abt b q.2.2.2.1 q.2.2.2.2 q.2.1 i 5) := by
  refine go_start (by decide) (Nat.le_of_ble_eq_true rfl) ?_
  intro p e s m args below meth c ls F _ hB hl
  obtain ⟨hx, hb, hr, hlocks, hml, hown, hts⟩ := F
  obtain ⟨hP, hK⟩ := hB
  have hown : s.vm.findClass RX6 = some m.cls := hown
  have hl : lv_has ls 3 [(0, .ref (a 0)), (1, .ref (r (3 + i))), (2, .int (nI 5))] := hl
  have ht5 := hT.1
  have ht8 := hT.2.1
  obtain ⟨hk0, hv0, hw0, hp0⟩ := hT.2.2.1 i hi
  refine lv_iload_n hx hb dX6_aboutOf_0 rfl (lv_at hl 2 rfl) ?_
  refine lv_tableIn (off := 73) (tgt := 74) hx hb dX6_aboutOf_1 (by rw [show (nI 5).toInt = 5 from by first | decide | (rw [nI_toInt (by decide)]; omega)]; decide) (by rw [show (nI 5).toInt = 5 from by first | decide | (rw [nI_toInt (by decide)]; omega)]; decide) (by rw [show (nI 5).toInt = 5 from by first | decide | (rw [nI_toInt (by decide)]; omega)]; rfl) (by decide) ?_
  refine lv_aload_n hx hb dX6_aboutOf_74 rfl (lv_at hl 0 rfl) ?_
  refine lv_aload_n hx hb dX6_aboutOf_75 rfl (lv_at hl 1 rfl) ?_
  refine ro_iV (n := 1) (As := [.ref (r (3 + i))]) ⟨hx, hb, hml, hown, hts⟩ (c_X6_saysOf l D a r k cI cT cN xh xi xr pn pc rd B L q kq b hS hok9 hT i hi) (cwV 1 hts (gV mg_312 mg_314 mg_1006 mg_1 mg_315) rfl rfl rfl vd_X6_saysOf ⟨Nat.le_of_ble_eq_true rfl, Nat.le_of_ble_eq_true rfl⟩) (va_recv hK hP (ci := 6) (q0 := 0) rfl rfl) hK hP rfl hl.1 rfl (Nat.le_of_ble_eq_true rfl) dX6_aboutOf_76 ⟨Nat.zero_le _, Nat.zero_le _⟩ ?_
  exact ro_iret hx hb hr hlocks (abt_5.symm) dX6_aboutOf_79

set_option maxHeartbeats 4000000 in
set_option maxRecDepth 100000 in
theorem c_X6_abo6 (l : Launch) (D : va_G) (a r k : Nat → Nat) (cI cT cN : ClassId) (xh xi xr pn : Nat) (pc : Nat → Int32) (rd : Nat × Nat × Nat) (B L : Nat → Int32) (q kq : RS) (b : Nat → Nat → Nat) (hS : SR b B L) (hok9 : hok b) (hT : Tok q) (i : Nat) (hi : i < q.1) : ROi l yX6_aboutOf (wA yX6_aboutOf cX6_aboutOf 3 (some .int)) ({ frames := 4, cells := 0, slots := 0, locals := 101 }) D (cTys cI cT cN) (cW a r k cI cT cN xh xi xr pn pc rd B L q kq) [.ref (a 0), .ref (r (3 + i)), .int (nI 6)] (abt b q.2.2.2.1 q.2.2.2.2 q.2.1 i 6) := by
  refine go_start (by decide) (Nat.le_of_ble_eq_true rfl) ?_
  intro p e s m args below meth c ls F _ hB hl
  obtain ⟨hx, hb, hr, hlocks, hml, hown, hts⟩ := F
  obtain ⟨hP, hK⟩ := hB
  have hown : s.vm.findClass RX6 = some m.cls := hown
  have hl : lv_has ls 3 [(0, .ref (a 0)), (1, .ref (r (3 + i))), (2, .int (nI 6))] := hl
  have ht5 := hT.1
  have ht8 := hT.2.1
  obtain ⟨hk0, hv0, hw0, hp0⟩ := hT.2.2.1 i hi
  refine lv_iload_n hx hb dX6_aboutOf_0 rfl (lv_at hl 2 rfl) ?_
  refine lv_tableIn (off := 79) (tgt := 80) hx hb dX6_aboutOf_1 (by rw [show (nI 6).toInt = 6 from by first | decide | (rw [nI_toInt (by decide)]; omega)]; decide) (by rw [show (nI 6).toInt = 6 from by first | decide | (rw [nI_toInt (by decide)]; omega)]; decide) (by rw [show (nI 6).toInt = 6 from by first | decide | (rw [nI_toInt (by decide)]; omega)]; rfl) (by decide) ?_
  refine lv_aload_n hx hb dX6_aboutOf_80 rfl (lv_at hl 0 rfl) ?_
  refine lv_aload_n hx hb dX6_aboutOf_81 rfl (lv_at hl 1 rfl) ?_
  refine ro_iV (n := 1) (As := [.ref (r (3 + i))]) ⟨hx, hb, hml, hown, hts⟩ (c_X6_likelyOf l D a r k cI cT cN xh xi xr pn pc rd B L q kq b hS hok9 hT i hi) (cwV 1 hts (gV mg_324 mg_326 mg_1008 mg_1 mg_327) rfl rfl rfl vd_X6_likelyOf ⟨Nat.le_of_ble_eq_true rfl, Nat.le_of_ble_eq_true rfl⟩) (va_recv hK hP (ci := 6) (q0 := 0) rfl rfl) hK hP rfl hl.1 rfl (Nat.le_of_ble_eq_true rfl) dX6_aboutOf_82 ⟨Nat.zero_le _, Nat.zero_le _⟩ ?_
  exact ro_iret hx hb hr hlocks (abt_6.symm) dX6_aboutOf_85

set_option maxHeartbeats 4000000 in
set_option maxRecDepth 100000 in
theorem c_X6_abo7 (l : Launch) (D : va_G) (a r k : Nat → Nat) (cI cT cN : ClassId) (xh xi xr pn : Nat) (pc : Nat → Int32) (rd : Nat × Nat × Nat) (B L : Nat → Int32) (q kq : RS) (b : Nat → Nat → Nat) (hS : SR b B L) (hok9 : hok b) (hT : Tok q) (i : Nat) (hi : i < q.1) : ROi l yX6_aboutOf (wA yX6_aboutOf cX6_aboutOf 3 (some .int)) ({ frames := 4, cells := 0, slots := 0, locals := 101 }) D (cTys cI cT cN) (cW a r k cI cT cN xh xi xr pn pc rd B L q kq) [.ref (a 0), .ref (r (3 + i)), .int (nI 7)] (abt b q.2.2.2.1 q.2.2.2.2 q.2.1 i 7) := by
  refine go_start (by decide) (Nat.le_of_ble_eq_true rfl) ?_
  intro p e s m args below meth c ls F _ hB hl
  obtain ⟨hx, hb, hr, hlocks, hml, hown, hts⟩ := F
  obtain ⟨hP, hK⟩ := hB
  have hown : s.vm.findClass RX6 = some m.cls := hown
  have hl : lv_has ls 3 [(0, .ref (a 0)), (1, .ref (r (3 + i))), (2, .int (nI 7))] := hl
  have ht5 := hT.1
  have ht8 := hT.2.1
  obtain ⟨hk0, hv0, hw0, hp0⟩ := hT.2.2.1 i hi
  refine lv_iload_n hx hb dX6_aboutOf_0 rfl (lv_at hl 2 rfl) ?_
  refine lv_tableIn (off := 85) (tgt := 86) hx hb dX6_aboutOf_1 (by rw [show (nI 7).toInt = 7 from by first | decide | (rw [nI_toInt (by decide)]; omega)]; decide) (by rw [show (nI 7).toInt = 7 from by first | decide | (rw [nI_toInt (by decide)]; omega)]; decide) (by rw [show (nI 7).toInt = 7 from by first | decide | (rw [nI_toInt (by decide)]; omega)]; rfl) (by decide) ?_
  refine lv_aload_n hx hb dX6_aboutOf_86 rfl (lv_at hl 0 rfl) ?_
  refine lv_aload_n hx hb dX6_aboutOf_87 rfl (lv_at hl 1 rfl) ?_
  refine lv_aload_n hx hb dX6_aboutOf_88 rfl (lv_at hl 0 rfl) ?_
  refine lv_aload_n hx hb dX6_aboutOf_89 rfl (lv_at hl 1 rfl) ?_
  refine ro_iV (n := 1) (As := [.ref (r (3 + i))]) ⟨hx, hb, hml, hown, hts⟩ (c_X6_likelyOf l D a r k cI cT cN xh xi xr pn pc rd B L q kq b hS hok9 hT i hi) (cwV 1 hts (gV mg_324 mg_326 mg_1008 mg_1 mg_327) rfl rfl rfl vd_X6_likelyOf ⟨Nat.le_of_ble_eq_true rfl, Nat.le_of_ble_eq_true rfl⟩) (va_recv hK hP (ci := 6) (q0 := 0) rfl rfl) hK hP rfl hl.1 rfl (Nat.le_of_ble_eq_true rfl) dX6_aboutOf_90 ⟨Nat.zero_le _, Nat.zero_le _⟩ ?_
  refine ro_iV (n := 2) (As := [.ref (r (3 + i)), .int (nI (lky (sly b q.2.2.2.1 i q.2.2.2.2 q.2.1) 3))]) ⟨hx, hb, hml, hown, hts⟩ (c_X6_slipsOf l D a r k cI cT cN xh xi xr pn pc rd B L q kq b hS hok9 hT i hi (lky (sly b q.2.2.2.1 i q.2.2.2.2 q.2.1) 3) (Nat.lt_succ_of_le (lky_le (sly b q.2.2.2.1 i q.2.2.2.2 q.2.1) 3))) (cwV 2 hts (gV mg_316 mg_318 mg_1007 mg_1 mg_319) rfl rfl rfl vd_X6_slipsOf ⟨Nat.le_of_ble_eq_true rfl, Nat.le_of_ble_eq_true rfl⟩) (va_recv hK hP (ci := 6) (q0 := 0) rfl rfl) hK hP rfl hl.1 rfl (Nat.le_of_ble_eq_true rfl) dX6_aboutOf_93 ⟨Nat.zero_le _, Nat.zero_le _⟩ ?_
  exact ro_iret hx hb hr hlocks (abt_7.symm) dX6_aboutOf_96

set_option maxHeartbeats 4000000 in
set_option maxRecDepth 100000 in
theorem c_X6_abo8 (l : Launch) (D : va_G) (a r k : Nat → Nat) (cI cT cN : ClassId) (xh xi xr pn : Nat) (pc : Nat → Int32) (rd : Nat × Nat × Nat) (B L : Nat → Int32) (q kq : RS) (b : Nat → Nat → Nat) (hS : SR b B L) (hok9 : hok b) (hT : Tok q) (i : Nat) (hi : i < q.1) : ROi l yX6_aboutOf (wA yX6_aboutOf cX6_aboutOf 3 (some .int)) ({ frames := 4, cells := 0, slots := 0, locals := 101 }) D (cTys cI cT cN) (cW a r k cI cT cN xh xi xr pn pc rd B L q kq) [.ref (a 0), .ref (r (3 + i)), .int (nI 8)] (abt b q.2.2.2.1 q.2.2.2.2 q.2.1 i 8) := by
  refine go_start (by decide) (Nat.le_of_ble_eq_true rfl) ?_
  intro p e s m args below meth c ls F _ hB hl
  obtain ⟨hx, hb, hr, hlocks, hml, hown, hts⟩ := F
  obtain ⟨hP, hK⟩ := hB
  have hown : s.vm.findClass RX6 = some m.cls := hown
  have hl : lv_has ls 3 [(0, .ref (a 0)), (1, .ref (r (3 + i))), (2, .int (nI 8))] := hl
  have ht5 := hT.1
  have ht8 := hT.2.1
  obtain ⟨hk0, hv0, hw0, hp0⟩ := hT.2.2.1 i hi
  refine lv_iload_n hx hb dX6_aboutOf_0 rfl (lv_at hl 2 rfl) ?_
  refine lv_tableOut (tgt := 97) hx hb dX6_aboutOf_1 (by decide) (by decide) ?_
  refine lv_aload_n hx hb dX6_aboutOf_97 rfl (lv_at hl 0 rfl) ?_
  refine lv_aload_n hx hb dX6_aboutOf_98 rfl (lv_at hl 1 rfl) ?_
  refine lv_aload_n hx hb dX6_aboutOf_99 rfl (lv_at hl 0 rfl) ?_
  refine lv_aload_n hx hb dX6_aboutOf_100 rfl (lv_at hl 1 rfl) ?_
  refine ro_iV (n := 1) (As := [.ref (r (3 + i))]) ⟨hx, hb, hml, hown, hts⟩ (c_X6_saysOf l D a r k cI cT cN xh xi xr pn pc rd B L q kq b hS hok9 hT i hi) (cwV 1 hts (gV mg_312 mg_314 mg_1006 mg_1 mg_315) rfl rfl rfl vd_X6_saysOf ⟨Nat.le_of_ble_eq_true rfl, Nat.le_of_ble_eq_true rfl⟩) (va_recv hK hP (ci := 6) (q0 := 0) rfl rfl) hK hP rfl hl.1 rfl (Nat.le_of_ble_eq_true rfl) dX6_aboutOf_101 ⟨Nat.zero_le _, Nat.zero_le _⟩ ?_
  refine ro_iV (n := 2) (As := [.ref (r (3 + i)), .int (nI (sys (sly b q.2.2.2.1 i q.2.2.2.2 q.2.1) 4))]) ⟨hx, hb, hml, hown, hts⟩ (c_X6_bestToHear l D a r k cI cT cN xh xi xr pn pc rd B L q kq b hS hok9 hT i hi (sys (sly b q.2.2.2.1 i q.2.2.2.2 q.2.1) 4) (sys_lt (sly b q.2.2.2.1 i q.2.2.2.2 q.2.1) 4)) (cwV 2 hts (gV mg_328 mg_330 mg_1009 mg_1 mg_331) rfl rfl rfl vd_X6_bestToHear ⟨Nat.le_of_ble_eq_true rfl, Nat.le_of_ble_eq_true rfl⟩) (va_recv hK hP (ci := 6) (q0 := 0) rfl rfl) hK hP rfl hl.1 rfl (Nat.le_of_ble_eq_true rfl) dX6_aboutOf_104 ⟨Nat.zero_le _, Nat.zero_le _⟩ ?_
  exact ro_iret hx hb hr hlocks (abt_8.symm) dX6_aboutOf_107

theorem c_X6_aboutOf (l : Launch) (D : va_G) (a r k : Nat → Nat) (cI cT cN : ClassId) (xh xi xr pn : Nat) (pc : Nat → Int32) (rd : Nat × Nat × Nat) (B L : Nat → Int32) (q kq : RS) (b : Nat → Nat → Nat) (hS : SR b B L) (hok9 : hok b) (hT : Tok q) (i : Nat) (hi : i < q.1) (w : Nat) (hw9 : w < 9) : ROi l yX6_aboutOf (wA yX6_aboutOf cX6_aboutOf 3 (some .int)) ({ frames := 4, cells := 0, slots := 0, locals := 101 }) D (cTys cI cT cN) (cW a r k cI cT cN xh xi xr pn pc rd B L q kq) [.ref (a 0), .ref (r (3 + i)), .int (nI w)] (abt b q.2.2.2.1 q.2.2.2.2 q.2.1 i w) := by
  match w, hw9 with
  | 0, _ => exact c_X6_abo0 l D a r k cI cT cN xh xi xr pn pc rd B L q kq b hS hok9 hT i hi
  | 1, _ => exact c_X6_abo1 l D a r k cI cT cN xh xi xr pn pc rd B L q kq b hS hok9 hT i hi
  | 2, _ => exact c_X6_abo2 l D a r k cI cT cN xh xi xr pn pc rd B L q kq b hS hok9 hT i hi
  | 3, _ => exact c_X6_abo3 l D a r k cI cT cN xh xi xr pn pc rd B L q kq b hS hok9 hT i hi
  | 4, _ => exact c_X6_abo4 l D a r k cI cT cN xh xi xr pn pc rd B L q kq b hS hok9 hT i hi
  | 5, _ => exact c_X6_abo5 l D a r k cI cT cN xh xi xr pn pc rd B L q kq b hS hok9 hT i hi
  | 6, _ => exact c_X6_abo6 l D a r k cI cT cN xh xi xr pn pc rd B L q kq b hS hok9 hT i hi
  | 7, _ => exact c_X6_abo7 l D a r k cI cT cN xh xi xr pn pc rd B L q kq b hS hok9 hT i hi
  | 8, _ => exact c_X6_abo8 l D a r k cI cT cN xh xi xr pn pc rd B L q kq b hS hok9 hT i hi

theorem c_X6_nearOf (l : Launch) (D : va_G) (a r k : Nat → Nat) (cI cT cN : ClassId) (xh xi xr pn : Nat) (pc : Nat → Int32) (rd : Nat × Nat × Nat) (B L : Nat → Int32) (q kq : RS) (b : Nat → Nat → Nat) (hS : SR b B L) (hok9 : hok b) (hT : Tok q) (i : Nat) (hi : i < q.1) (v2 : Nat) (hv2 : v2 < 4) (w : Nat) (hw9 : w < 2) : ROi l yX6_nearOf (wA yX6_nearOf cX6_nearOf 6 (some .int)) ({ frames := 3, cells := 0, slots := 0, locals := 76 }) D (cTys cI cT cN) (cW a r k cI cT cN xh xi xr pn pc rd B L q kq) [.ref (a 0), .ref (r (3 + i)), .int (nI v2), .int (nI w)] (nI (ner b (q.2.2.2.1 i 0) (q.2.2.2.1 i 1) v2 w)) := by
  match w, hw9 with
  | 0, _ => exact c_X6_nearOf0 l D a r k cI cT cN xh xi xr pn pc rd B L q kq b hS hok9 hT i hi v2 hv2
  | 1, _ => exact c_X6_nearOf1 l D a r k cI cT cN xh xi xr pn pc rd B L q kq b hS hok9 hT i hi v2 hv2

set_option maxHeartbeats 4000000 in
set_option maxRecDepth 100000 in
theorem c_X6_cto0 (l : Launch) (D : va_G) (a r k : Nat → Nat) (cI cT cN : ClassId) (xh xi xr pn : Nat) (pc : Nat → Int32) (rd : Nat × Nat × Nat) (B L : Nat → Int32) (q kq : RS) (b : Nat → Nat → Nat) (hS : SR b B L) (hb4 : ∀ v, v < 4 → b v 0 ≤ 4) (hT : Tok q) : ROi l yX6_countOf (wA yX6_countOf cX6_countOf 2 (some .int)) ({ frames := 2, cells := 0, slots := 0, locals := 44 }) D (cTys cI cT cN) (cW a r k cI cT cN xh xi xr pn pc rd B L q kq) [.ref (a 0), .int (nI 0)] (cto b q pn xr 0) := by
  refine go_start (by decide) (Nat.le_of_ble_eq_true rfl) ?_
  intro p e s m args below meth c ls F _ hB hl
  obtain ⟨hx, hb, hr, hlocks, hml, hown, hts⟩ := F
  obtain ⟨hP, hK⟩ := hB
  have hown : s.vm.findClass RX6 = some m.cls := hown
  have hl : lv_has ls 2 [(0, .ref (a 0)), (1, .int (nI 0))] := hl
  have ht5 := hT.1
  have ht8 := hT.2.1
  refine lv_iload_n hx hb dX6_countOf_0 rfl (lv_at hl 1 rfl) ?_
  refine lv_tableIn (off := 43) (tgt := 44) hx hb dX6_countOf_1 (by rw [show (nI 0).toInt = 0 from by first | decide | (rw [nI_toInt (by decide)]; omega)]; decide) (by rw [show (nI 0).toInt = 0 from by first | decide | (rw [nI_toInt (by decide)]; omega)]; decide) (by rw [show (nI 0).toInt = 0 from by first | decide | (rw [nI_toInt (by decide)]; omega)]; rfl) (by decide) ?_
  refine lv_aload_n hx hb dX6_countOf_44 rfl (lv_at hl 0 rfl) ?_
  refine va_get (D := D) (ci := 6) (v := .ref (r 0)) (C := RX6) (T := TX6) (N := 7) hx hb hts iX6 hown hK hP 0 rfl rfl 2 (by decide) (hts _ mg_153) (fun _ h9 => h9) rfl dX6_countOf_45 ?_
  refine va_get (D := D) (ci := 3) (v := .int (nI q.1)) (C := RX3) (T := TX3) (N := 5) hx hb hts iX3 hown hK hP 7 rfl rfl 2 (by decide) (hts _ mg_135) (fun _ h9 => h9) rfl dX6_countOf_48 ?_
  exact ro_iret hx hb hr hlocks (cto_0.symm) dX6_countOf_51

set_option maxHeartbeats 4000000 in
set_option maxRecDepth 100000 in
theorem c_X6_cto1 (l : Launch) (D : va_G) (a r k : Nat → Nat) (cI cT cN : ClassId) (xh xi xr pn : Nat) (pc : Nat → Int32) (rd : Nat × Nat × Nat) (B L : Nat → Int32) (q kq : RS) (b : Nat → Nat → Nat) (hS : SR b B L) (hb4 : ∀ v, v < 4 → b v 0 ≤ 4) (hT : Tok q) : ROi l yX6_countOf (wA yX6_countOf cX6_countOf 2 (some .int)) ({ frames := 2, cells := 0, slots := 0, locals := 44 }) D (cTys cI cT cN) (cW a r k cI cT cN xh xi xr pn pc rd B L q kq) [.ref (a 0), .int (nI 1)] (cto b q pn xr 1) := by
  refine go_start (by decide) (Nat.le_of_ble_eq_true rfl) ?_
  intro p e s m args below meth c ls F _ hB hl
  obtain ⟨hx, hb, hr, hlocks, hml, hown, hts⟩ := F
  obtain ⟨hP, hK⟩ := hB
  have hown : s.vm.findClass RX6 = some m.cls := hown
  have hl : lv_has ls 2 [(0, .ref (a 0)), (1, .int (nI 1))] := hl
  have ht5 := hT.1
  have ht8 := hT.2.1
  refine lv_iload_n hx hb dX6_countOf_0 rfl (lv_at hl 1 rfl) ?_
  refine lv_tableIn (off := 51) (tgt := 52) hx hb dX6_countOf_1 (by rw [show (nI 1).toInt = 1 from by first | decide | (rw [nI_toInt (by decide)]; omega)]; decide) (by rw [show (nI 1).toInt = 1 from by first | decide | (rw [nI_toInt (by decide)]; omega)]; decide) (by rw [show (nI 1).toInt = 1 from by first | decide | (rw [nI_toInt (by decide)]; omega)]; rfl) (by decide) ?_
  refine lv_aload_n hx hb dX6_countOf_52 rfl (lv_at hl 0 rfl) ?_
  refine va_get (D := D) (ci := 6) (v := .ref (a 4)) (C := RX6) (T := TX6) (N := 7) hx hb hts iX6 hown hK hP 0 rfl rfl 1 (by decide) (hts _ mg_152) (fun _ h9 => h9) rfl dX6_countOf_53 ?_
  refine ro_iV (n := 0) (As := []) ⟨hx, hb, hml, hown, hts⟩ (c_X4_beatCount l D a cI cT cN B L b hS hb4) (cwV 0 hts (gV mg_430 mg_431 mg_432 mg_4 mg_433) rfl rfl rfl vd_X4_beatCount ⟨Nat.le_of_ble_eq_true rfl, Nat.le_of_ble_eq_true rfl⟩) (va_recv hK hP (ci := 4) (q0 := 4) rfl rfl) hK (cW_s hP) rfl hl.1 rfl (Nat.le_of_ble_eq_true rfl) dX6_countOf_56 ⟨Nat.zero_le _, Nat.zero_le _⟩ ?_
  exact ro_iret hx hb hr hlocks (cto_1.symm) dX6_countOf_59

set_option maxHeartbeats 4000000 in
set_option maxRecDepth 100000 in
theorem c_X6_cto2 (l : Launch) (D : va_G) (a r k : Nat → Nat) (cI cT cN : ClassId) (xh xi xr pn : Nat) (pc : Nat → Int32) (rd : Nat × Nat × Nat) (B L : Nat → Int32) (q kq : RS) (b : Nat → Nat → Nat) (hS : SR b B L) (hb4 : ∀ v, v < 4 → b v 0 ≤ 4) (hT : Tok q) : ROi l yX6_countOf (wA yX6_countOf cX6_countOf 2 (some .int)) ({ frames := 2, cells := 0, slots := 0, locals := 44 }) D (cTys cI cT cN) (cW a r k cI cT cN xh xi xr pn pc rd B L q kq) [.ref (a 0), .int (nI 2)] (cto b q pn xr 2) := by
  refine go_start (by decide) (Nat.le_of_ble_eq_true rfl) ?_
  intro p e s m args below meth c ls F _ hB hl
  obtain ⟨hx, hb, hr, hlocks, hml, hown, hts⟩ := F
  obtain ⟨hP, hK⟩ := hB
  have hown : s.vm.findClass RX6 = some m.cls := hown
  have hl : lv_has ls 2 [(0, .ref (a 0)), (1, .int (nI 2))] := hl
  have ht5 := hT.1
  have ht8 := hT.2.1
  refine lv_iload_n hx hb dX6_countOf_0 rfl (lv_at hl 1 rfl) ?_
  refine lv_tableIn (off := 59) (tgt := 60) hx hb dX6_countOf_1 (by rw [show (nI 2).toInt = 2 from by first | decide | (rw [nI_toInt (by decide)]; omega)]; decide) (by rw [show (nI 2).toInt = 2 from by first | decide | (rw [nI_toInt (by decide)]; omega)]; decide) (by rw [show (nI 2).toInt = 2 from by first | decide | (rw [nI_toInt (by decide)]; omega)]; rfl) (by decide) ?_
  refine lv_aload_n hx hb dX6_countOf_60 rfl (lv_at hl 0 rfl) ?_
  refine va_get (D := D) (ci := 6) (v := .ref (r 0)) (C := RX6) (T := TX6) (N := 7) hx hb hts iX6 hown hK hP 0 rfl rfl 2 (by decide) (hts _ mg_153) (fun _ h9 => h9) rfl dX6_countOf_61 ?_
  refine ro_iV (n := 0) (As := []) ⟨hx, hb, hml, hown, hts⟩ (c_X3_washerCount l D r cI cT cN q ht5) (cwV 0 hts (gV mg_434 mg_435 mg_436 mg_5 mg_437) rfl rfl rfl vd_X3_washerCount ⟨Nat.le_of_ble_eq_true rfl, Nat.le_of_ble_eq_true rfl⟩) (va_recv hK hP (ci := 3) (q0 := 7) rfl rfl) hK (cW_r hP) rfl hl.1 rfl (Nat.le_of_ble_eq_true rfl) dX6_countOf_64 ⟨Nat.zero_le _, Nat.zero_le _⟩ ?_
  exact ro_iret hx hb hr hlocks (cto_2.symm) dX6_countOf_67

set_option maxHeartbeats 4000000 in
set_option maxRecDepth 100000 in
theorem c_X6_cto3 (l : Launch) (D : va_G) (a r k : Nat → Nat) (cI cT cN : ClassId) (xh xi xr pn : Nat) (pc : Nat → Int32) (rd : Nat × Nat × Nat) (B L : Nat → Int32) (q kq : RS) (b : Nat → Nat → Nat) (hS : SR b B L) (hb4 : ∀ v, v < 4 → b v 0 ≤ 4) (hT : Tok q) : ROi l yX6_countOf (wA yX6_countOf cX6_countOf 2 (some .int)) ({ frames := 2, cells := 0, slots := 0, locals := 44 }) D (cTys cI cT cN) (cW a r k cI cT cN xh xi xr pn pc rd B L q kq) [.ref (a 0), .int (nI 3)] (cto b q pn xr 3) := by
  refine go_start (by decide) (Nat.le_of_ble_eq_true rfl) ?_
  intro p e s m args below meth c ls F _ hB hl
  obtain ⟨hx, hb, hr, hlocks, hml, hown, hts⟩ := F
  obtain ⟨hP, hK⟩ := hB
  have hown : s.vm.findClass RX6 = some m.cls := hown
  have hl : lv_has ls 2 [(0, .ref (a 0)), (1, .int (nI 3))] := hl
  have ht5 := hT.1
  have ht8 := hT.2.1
  refine lv_iload_n hx hb dX6_countOf_0 rfl (lv_at hl 1 rfl) ?_
  refine lv_tableIn (off := 67) (tgt := 68) hx hb dX6_countOf_1 (by rw [show (nI 3).toInt = 3 from by first | decide | (rw [nI_toInt (by decide)]; omega)]; decide) (by rw [show (nI 3).toInt = 3 from by first | decide | (rw [nI_toInt (by decide)]; omega)]; decide) (by rw [show (nI 3).toInt = 3 from by first | decide | (rw [nI_toInt (by decide)]; omega)]; rfl) (by decide) ?_
  refine lv_aload_n hx hb dX6_countOf_68 rfl (lv_at hl 0 rfl) ?_
  refine va_get (D := D) (ci := 6) (v := .ref (r 0)) (C := RX6) (T := TX6) (N := 7) hx hb hts iX6 hown hK hP 0 rfl rfl 2 (by decide) (hts _ mg_153) (fun _ h9 => h9) rfl dX6_countOf_69 ?_
  refine ro_iV (n := 0) (As := []) ⟨hx, hb, hml, hown, hts⟩ (c_X3_heardCount l D r cI cT cN q ht5) (cwV 0 hts (gV mg_438 mg_439 mg_440 mg_5 mg_441) rfl rfl rfl vd_X3_heardCount ⟨Nat.le_of_ble_eq_true rfl, Nat.le_of_ble_eq_true rfl⟩) (va_recv hK hP (ci := 3) (q0 := 7) rfl rfl) hK (cW_r hP) rfl hl.1 rfl (Nat.le_of_ble_eq_true rfl) dX6_countOf_72 ⟨Nat.zero_le _, Nat.zero_le _⟩ ?_
  exact ro_iret hx hb hr hlocks (cto_3.symm) dX6_countOf_75

set_option maxHeartbeats 4000000 in
set_option maxRecDepth 100000 in
theorem c_X6_cto4 (l : Launch) (D : va_G) (a r k : Nat → Nat) (cI cT cN : ClassId) (xh xi xr pn : Nat) (pc : Nat → Int32) (rd : Nat × Nat × Nat) (B L : Nat → Int32) (q kq : RS) (b : Nat → Nat → Nat) (hS : SR b B L) (hb4 : ∀ v, v < 4 → b v 0 ≤ 4) (hT : Tok q) : ROi l yX6_countOf (wA yX6_countOf cX6_countOf 2 (some .int)) ({ frames := 2, cells := 0, slots := 0, locals := 44 }) D (cTys cI cT cN) (cW a r k cI cT cN xh xi xr pn pc rd B L q kq) [.ref (a 0), .int (nI 4)] (cto b q pn xr 4) := by
  refine go_start (by decide) (Nat.le_of_ble_eq_true rfl) ?_
  intro p e s m args below meth c ls F _ hB hl
  obtain ⟨hx, hb, hr, hlocks, hml, hown, hts⟩ := F
  obtain ⟨hP, hK⟩ := hB
  have hown : s.vm.findClass RX6 = some m.cls := hown
  have hl : lv_has ls 2 [(0, .ref (a 0)), (1, .int (nI 4))] := hl
  have ht5 := hT.1
  have ht8 := hT.2.1
  refine lv_iload_n hx hb dX6_countOf_0 rfl (lv_at hl 1 rfl) ?_
  refine lv_tableIn (off := 75) (tgt := 76) hx hb dX6_countOf_1 (by rw [show (nI 4).toInt = 4 from by first | decide | (rw [nI_toInt (by decide)]; omega)]; decide) (by rw [show (nI 4).toInt = 4 from by first | decide | (rw [nI_toInt (by decide)]; omega)]; decide) (by rw [show (nI 4).toInt = 4 from by first | decide | (rw [nI_toInt (by decide)]; omega)]; rfl) (by decide) ?_
  refine lv_aload_n hx hb dX6_countOf_76 rfl (lv_at hl 0 rfl) ?_
  refine va_get (D := D) (ci := 6) (v := .ref (r 0)) (C := RX6) (T := TX6) (N := 7) hx hb hts iX6 hown hK hP 0 rfl rfl 2 (by decide) (hts _ mg_153) (fun _ h9 => h9) rfl dX6_countOf_77 ?_
  refine va_get (D := D) (ci := 3) (v := .int q.2.2.1) (C := RX3) (T := TX3) (N := 5) hx hb hts iX3 hown hK hP 7 rfl rfl 4 (by decide) (hts _ mg_139) (fun _ h9 => h9) rfl dX6_countOf_80 ?_
  exact ro_iret hx hb hr hlocks (cto_4.symm) dX6_countOf_83

set_option maxHeartbeats 4000000 in
set_option maxRecDepth 100000 in
theorem c_X6_cto5 (l : Launch) (D : va_G) (a r k : Nat → Nat) (cI cT cN : ClassId) (xh xi xr pn : Nat) (pc : Nat → Int32) (rd : Nat × Nat × Nat) (B L : Nat → Int32) (q kq : RS) (b : Nat → Nat → Nat) (hS : SR b B L) (hb4 : ∀ v, v < 4 → b v 0 ≤ 4) (hT : Tok q) : ROi l yX6_countOf (wA yX6_countOf cX6_countOf 2 (some .int)) ({ frames := 2, cells := 0, slots := 0, locals := 44 }) D (cTys cI cT cN) (cW a r k cI cT cN xh xi xr pn pc rd B L q kq) [.ref (a 0), .int (nI 5)] (cto b q pn xr 5) := by
  refine go_start (by decide) (Nat.le_of_ble_eq_true rfl) ?_
  intro p e s m args below meth c ls F _ hB hl
  obtain ⟨hx, hb, hr, hlocks, hml, hown, hts⟩ := F
  obtain ⟨hP, hK⟩ := hB
  have hown : s.vm.findClass RX6 = some m.cls := hown
  have hl : lv_has ls 2 [(0, .ref (a 0)), (1, .int (nI 5))] := hl
  have ht5 := hT.1
  have ht8 := hT.2.1
  refine lv_iload_n hx hb dX6_countOf_0 rfl (lv_at hl 1 rfl) ?_
  refine lv_tableIn (off := 83) (tgt := 84) hx hb dX6_countOf_1 (by rw [show (nI 5).toInt = 5 from by first | decide | (rw [nI_toInt (by decide)]; omega)]; decide) (by rw [show (nI 5).toInt = 5 from by first | decide | (rw [nI_toInt (by decide)]; omega)]; decide) (by rw [show (nI 5).toInt = 5 from by first | decide | (rw [nI_toInt (by decide)]; omega)]; rfl) (by decide) ?_
  refine lv_aload_n hx hb dX6_countOf_84 rfl (lv_at hl 0 rfl) ?_
  refine va_get (D := D) (ci := 6) (v := .ref (r 0)) (C := RX6) (T := TX6) (N := 7) hx hb hts iX6 hown hK hP 0 rfl rfl 2 (by decide) (hts _ mg_153) (fun _ h9 => h9) rfl dX6_countOf_85 ?_
  refine va_get (D := D) (ci := 3) (v := .int (nI q.2.1)) (C := RX3) (T := TX3) (N := 5) hx hb hts iX3 hown hK hP 7 rfl rfl 3 (by decide) (hts _ mg_137) (fun _ h9 => h9) rfl dX6_countOf_88 ?_
  exact ro_iret hx hb hr hlocks (cto_5.symm) dX6_countOf_91

set_option maxHeartbeats 4000000 in
set_option maxRecDepth 100000 in
theorem c_X6_cto6 (l : Launch) (D : va_G) (a r k : Nat → Nat) (cI cT cN : ClassId) (xh xi xr pn : Nat) (pc : Nat → Int32) (rd : Nat × Nat × Nat) (B L : Nat → Int32) (q kq : RS) (b : Nat → Nat → Nat) (hS : SR b B L) (hb4 : ∀ v, v < 4 → b v 0 ≤ 4) (hT : Tok q) : ROi l yX6_countOf (wA yX6_countOf cX6_countOf 2 (some .int)) ({ frames := 2, cells := 0, slots := 0, locals := 44 }) D (cTys cI cT cN) (cW a r k cI cT cN xh xi xr pn pc rd B L q kq) [.ref (a 0), .int (nI 6)] (cto b q pn xr 6) := by
  refine go_start (by decide) (Nat.le_of_ble_eq_true rfl) ?_
  intro p e s m args below meth c ls F _ hB hl
  obtain ⟨hx, hb, hr, hlocks, hml, hown, hts⟩ := F
  obtain ⟨hP, hK⟩ := hB
  have hown : s.vm.findClass RX6 = some m.cls := hown
  have hl : lv_has ls 2 [(0, .ref (a 0)), (1, .int (nI 6))] := hl
  have ht5 := hT.1
  have ht8 := hT.2.1
  refine lv_iload_n hx hb dX6_countOf_0 rfl (lv_at hl 1 rfl) ?_
  refine lv_tableIn (off := 91) (tgt := 92) hx hb dX6_countOf_1 (by rw [show (nI 6).toInt = 6 from by first | decide | (rw [nI_toInt (by decide)]; omega)]; decide) (by rw [show (nI 6).toInt = 6 from by first | decide | (rw [nI_toInt (by decide)]; omega)]; decide) (by rw [show (nI 6).toInt = 6 from by first | decide | (rw [nI_toInt (by decide)]; omega)]; rfl) (by decide) ?_
  refine lv_aload_n hx hb dX6_countOf_92 rfl (lv_at hl 0 rfl) ?_
  refine va_get (D := D) (ci := 6) (v := .ref (a 1)) (C := RX6) (T := TX6) (N := 7) hx hb hts iX6 hown hK hP 0 rfl rfl 0 (by decide) (hts _ mg_151) (fun _ h9 => h9) rfl dX6_countOf_93 ?_
  refine va_get (D := D) (ci := 1) (v := .int (nI pn)) (C := RX1) (T := TX1) (N := 3) hx hb hts iX1 hown hK hP 1 rfl rfl 2 (by decide) (hts _ mg_44) (fun _ h9 => h9) rfl dX6_countOf_96 ?_
  exact ro_iret hx hb hr hlocks (cto_6.symm) dX6_countOf_99

set_option maxHeartbeats 4000000 in
set_option maxRecDepth 100000 in
theorem c_X6_cto7 (l : Launch) (D : va_G) (a r k : Nat → Nat) (cI cT cN : ClassId) (xh xi xr pn : Nat) (pc : Nat → Int32) (rd : Nat × Nat × Nat) (B L : Nat → Int32) (q kq : RS) (b : Nat → Nat → Nat) (hS : SR b B L) (hb4 : ∀ v, v < 4 → b v 0 ≤ 4) (hT : Tok q) : ROi l yX6_countOf (wA yX6_countOf cX6_countOf 2 (some .int)) ({ frames := 2, cells := 0, slots := 0, locals := 44 }) D (cTys cI cT cN) (cW a r k cI cT cN xh xi xr pn pc rd B L q kq) [.ref (a 0), .int (nI 7)] (cto b q pn xr 7) := by
  refine go_start (by decide) (Nat.le_of_ble_eq_true rfl) ?_
  intro p e s m args below meth c ls F _ hB hl
  obtain ⟨hx, hb, hr, hlocks, hml, hown, hts⟩ := F
  obtain ⟨hP, hK⟩ := hB
  have hown : s.vm.findClass RX6 = some m.cls := hown
  have hl : lv_has ls 2 [(0, .ref (a 0)), (1, .int (nI 7))] := hl
  have ht5 := hT.1
  have ht8 := hT.2.1
  refine lv_iload_n hx hb dX6_countOf_0 rfl (lv_at hl 1 rfl) ?_
  refine lv_tableOut (tgt := 100) hx hb dX6_countOf_1 (by decide) (by decide) ?_
  refine lv_aload_n hx hb dX6_countOf_100 rfl (lv_at hl 0 rfl) ?_
  refine va_get (D := D) (ci := 6) (v := .int (nI xr)) (C := RX6) (T := TX6) (N := 7) hx hb hts iX6 hown hK hP 0 rfl rfl 6 (by decide) (hts _ mg_157) (fun _ h9 => h9) rfl dX6_countOf_101 ?_
  exact ro_iret hx hb hr hlocks (cto_7.symm) dX6_countOf_104

theorem c_X6_countOf (l : Launch) (D : va_G) (a r k : Nat → Nat) (cI cT cN : ClassId) (xh xi xr pn : Nat) (pc : Nat → Int32) (rd : Nat × Nat × Nat) (B L : Nat → Int32) (q kq : RS) (b : Nat → Nat → Nat) (hS : SR b B L) (hb4 : ∀ v, v < 4 → b v 0 ≤ 4) (hT : Tok q) (w : Nat) (hw9 : w < 8) : ROi l yX6_countOf (wA yX6_countOf cX6_countOf 2 (some .int)) ({ frames := 2, cells := 0, slots := 0, locals := 44 }) D (cTys cI cT cN) (cW a r k cI cT cN xh xi xr pn pc rd B L q kq) [.ref (a 0), .int (nI w)] (cto b q pn xr w) := by
  match w, hw9 with
  | 0, _ => exact c_X6_cto0 l D a r k cI cT cN xh xi xr pn pc rd B L q kq b hS hb4 hT
  | 1, _ => exact c_X6_cto1 l D a r k cI cT cN xh xi xr pn pc rd B L q kq b hS hb4 hT
  | 2, _ => exact c_X6_cto2 l D a r k cI cT cN xh xi xr pn pc rd B L q kq b hS hb4 hT
  | 3, _ => exact c_X6_cto3 l D a r k cI cT cN xh xi xr pn pc rd B L q kq b hS hb4 hT
  | 4, _ => exact c_X6_cto4 l D a r k cI cT cN xh xi xr pn pc rd B L q kq b hS hb4 hT
  | 5, _ => exact c_X6_cto5 l D a r k cI cT cN xh xi xr pn pc rd B L q kq b hS hb4 hT
  | 6, _ => exact c_X6_cto6 l D a r k cI cT cN xh xi xr pn pc rd B L q kq b hS hb4 hT
  | 7, _ => exact c_X6_cto7 l D a r k cI cT cN xh xi xr pn pc rd B L q kq b hS hb4 hT

set_option maxHeartbeats 4000000 in
set_option maxRecDepth 100000 in
theorem c_X6_countO (l : Launch) (D : va_G) (a r k : Nat → Nat) (cI cT cN : ClassId) (xh xi xr pn : Nat) (pc : Nat → Int32) (rd : Nat × Nat × Nat) (B L : Nat → Int32) (q kq : RS) (b : Nat → Nat → Nat) (hS : SR b B L) (hb4 : ∀ v, v < 4 → b v 0 ≤ 4) (hT : Tok q) (w : Int32) (ow : ¬ inr w 0 8) : ROi l yX6_count (wA yX6_count cX6_count 2 (some .int)) ({ frames := 3, cells := 0, slots := 0, locals := 65 }) D (cTys cI cT cN) (cW a r k cI cT cN xh xi xr pn pc rd B L q kq) [.ref (a 0), .int w] (-102) := by
  refine go_start (by decide) (Nat.le_of_ble_eq_true rfl) ?_
  intro p e s m args below meth c ls F _ hB hl
  obtain ⟨hx, hb, hr, hlocks, hml, hown, hts⟩ := F
  obtain ⟨hP, hK⟩ := hB
  have hown : s.vm.findClass RX6 = some m.cls := hown
  have hl : lv_has ls 2 [(0, .ref (a 0)), (1, .int w)] := hl
  have ht5 := hT.1
  have ht8 := hT.2.1
  have hw7 := inr_out ow
  refine lv_iload_n hx hb dX6_count_0 rfl (lv_at hl 1 rfl) ?_
  refine j_if_lt (tgt := 10) hx hb dX6_count_1 (by decide) rfl (fun c_1 => ?_) (fun c_1 => ?_)
  · refine lv_bipush (v := (-102)) hx hb dX6_count_10 (by decide) ?_
    exact ro_iret hx hb hr hlocks (rfl) dX6_count_12
  · refine lv_iload_n hx hb dX6_count_4 rfl (lv_at hl 1 rfl) ?_
    refine lv_bipush (v := nI 7) hx hb dX6_count_5 (by decide) ?_
    refine j_icmp_le (tgt := 13) hx hb dX6_count_7 (by decide) rfl (nI_toInt (by decide)) (fun c_2 => absurd c_2 (by omega)) (fun c_2 => ?_)
    refine lv_bipush (v := (-102)) hx hb dX6_count_10 (by decide) ?_
    exact ro_iret hx hb hr hlocks (rfl) dX6_count_12

set_option maxHeartbeats 4000000 in
set_option maxRecDepth 100000 in
theorem c_X6_countI (l : Launch) (D : va_G) (a r k : Nat → Nat) (cI cT cN : ClassId) (xh xi xr pn : Nat) (pc : Nat → Int32) (rd : Nat × Nat × Nat) (B L : Nat → Int32) (q kq : RS) (b : Nat → Nat → Nat) (hS : SR b B L) (hb4 : ∀ v, v < 4 → b v 0 ≤ 4) (hT : Tok q) (w : Nat) (hw : w < 8) : ROi l yX6_count (wA yX6_count cX6_count 2 (some .int)) ({ frames := 3, cells := 0, slots := 0, locals := 65 }) D (cTys cI cT cN) (cW a r k cI cT cN xh xi xr pn pc rd B L q kq) [.ref (a 0), .int (nI w)] (cto b q pn xr w) := by
  refine go_start (by decide) (Nat.le_of_ble_eq_true rfl) ?_
  intro p e s m args below meth c ls F _ hB hl
  obtain ⟨hx, hb, hr, hlocks, hml, hown, hts⟩ := F
  obtain ⟨hP, hK⟩ := hB
  have hown : s.vm.findClass RX6 = some m.cls := hown
  have hl : lv_has ls 2 [(0, .ref (a 0)), (1, .int (nI w))] := hl
  have ht5 := hT.1
  have ht8 := hT.2.1
  refine lv_iload_n hx hb dX6_count_0 rfl (lv_at hl 1 rfl) ?_
  refine j_if_lt (tgt := 10) hx hb dX6_count_1 (by decide) (nI_toInt (by omega)) (fun c_1 => absurd c_1 (by omega)) (fun c_1 => ?_)
  refine lv_iload_n hx hb dX6_count_4 rfl (lv_at hl 1 rfl) ?_
  refine lv_bipush (v := nI 7) hx hb dX6_count_5 (by decide) ?_
  refine j_icmp_le (tgt := 13) hx hb dX6_count_7 (by decide) (nI_toInt (by omega)) (nI_toInt (by decide)) (fun c_2 => ?_) (fun c_2 => absurd c_2 (by omega))
  refine lv_aload_n hx hb dX6_count_13 rfl (lv_at hl 0 rfl) ?_
  refine lv_iload_n hx hb dX6_count_14 rfl (lv_at hl 1 rfl) ?_
  refine ro_iV (n := 1) (As := [.int (nI w)]) ⟨hx, hb, hml, hown, hts⟩ (c_X6_countOf l D a r k cI cT cN xh xi xr pn pc rd B L q kq b hS hb4 hT w hw) (cwV 1 hts (gV mg_426 mg_428 mg_1014 mg_1 mg_429) rfl rfl rfl vd_X6_countOf ⟨Nat.le_of_ble_eq_true rfl, Nat.le_of_ble_eq_true rfl⟩) (va_recv hK hP (ci := 6) (q0 := 0) rfl rfl) hK hP rfl hl.1 rfl (Nat.le_of_ble_eq_true rfl) dX6_count_15 ⟨Nat.zero_le _, Nat.zero_le _⟩ ?_
  exact ro_iret hx hb hr hlocks (rfl) dX6_count_18

theorem c_X6_count (l : Launch) (D : va_G) (a r k : Nat → Nat) (cI cT cN : ClassId) (xh xi xr pn : Nat) (pc : Nat → Int32) (rd : Nat × Nat × Nat) (B L : Nat → Int32) (q kq : RS) (b : Nat → Nat → Nat) (hS : SR b B L) (hb4 : ∀ v, v < 4 → b v 0 ≤ 4) (hT : Tok q) (w : Int32) : ROi l yX6_count (wA yX6_count cX6_count 2 (some .int)) ({ frames := 3, cells := 0, slots := 0, locals := 65 }) D (cTys cI cT cN) (cW a r k cI cT cN xh xi xr pn pc rd B L q kq) [.ref (a 0), .int w] (sp_count b q pn xr w) := by
  unfold sp_count
  by_cases hw : inr w 0 8
  · obtain ⟨j, hj, rfl⟩ := inr_nat (n := 8) hw (by decide)
    rw [if_pos hw, ti_nI (by omega)]
    exact c_X6_countI l D a r k cI cT cN xh xi xr pn pc rd B L q kq b hS hb4 hT j hj
  · rw [if_neg hw]
    exact c_X6_countO l D a r k cI cT cN xh xi xr pn pc rd B L q kq b hS hb4 hT w hw

set_option maxHeartbeats 4000000 in
set_option maxRecDepth 100000 in
theorem c_X6_aboutX (l : Launch) (D : va_G) (a r k : Nat → Nat) (cI cT cN : ClassId) (xh xi xr pn : Nat) (pc : Nat → Int32) (rd : Nat × Nat × Nat) (B L : Nat → Int32) (q kq : RS) (b : Nat → Nat → Nat) (hS : SR b B L) (hokz : ¬ q.1 = 0 → hok b) (hT : Tok q) (x w : Int32) (ox : ¬ inr x 0 q.1) : ROi l yX6_about (wA yX6_about cX6_about 4 (some .int)) ({ frames := 5, cells := 0, slots := 0, locals := 123 }) D (cTys cI cT cN) (cW a r k cI cT cN xh xi xr pn pc rd B L q kq) [.ref (a 0), .int x, .int w] (-101) := by
  refine go_start (by decide) (Nat.le_of_ble_eq_true rfl) ?_
  intro p e s m args below meth c ls F _ hB hl
  obtain ⟨hx, hb, hr, hlocks, hml, hown, hts⟩ := F
  obtain ⟨hP, hK⟩ := hB
  have hown : s.vm.findClass RX6 = some m.cls := hown
  have hl : lv_has ls 4 [(0, .ref (a 0)), (1, .int x), (2, .int w)] := hl
  have ht5 := hT.1
  have ht8 := hT.2.1
  have hx8 := ox
  refine lv_aload_n hx hb dX6_about_0 rfl (lv_at hl 0 rfl) ?_
  refine va_get (D := D) (ci := 6) (v := .ref (r 0)) (C := RX6) (T := TX6) (N := 7) hx hb hts iX6 hown hK hP 0 rfl rfl 2 (by decide) (hts _ mg_153) (fun _ h9 => h9) rfl dX6_about_1 ?_
  refine lv_iload_n hx hb dX6_about_4 rfl (lv_at hl 1 rfl) ?_
  refine ro_qV (n := 1) (As := [.int x]) ⟨hx, hb, hml, hown, hts⟩ (c_X3_tapOut l D r cI cT cN q x (inr_out ox) ht5) (cwV 1 hts (gV mg_290 mg_259 mg_260 mg_5 mg_261) rfl rfl rfl vd_X3_tapAt ⟨Nat.le_of_ble_eq_true rfl, Nat.le_of_ble_eq_true rfl⟩) (va_recv hK hP (ci := 3) (q0 := 7) rfl rfl) hK (cW_r hP) rfl hl.1 rfl (Nat.le_of_ble_eq_true rfl) dX6_about_5 ⟨Nat.zero_le _, Nat.zero_le _⟩ ?_
  refine lv_astore_nN (lv' := [(3, .null), (0, .ref (a 0)), (1, .int x), (2, .int w)]) hx hb dX6_about_8 rfl hl (by decide) rfl (fun ls hl => ?_)
  refine lv_aload_nN hx hb dX6_about_9 rfl (lv_at hl 0 rfl) ?_
  refine lv_ifnonnullN hx hb dX6_about_10 ?_
  refine lv_bipush (v := (-101)) hx hb dX6_about_13 (by decide) ?_
  exact ro_iret hx hb hr hlocks (rfl) dX6_about_15

set_option maxHeartbeats 4000000 in
set_option maxRecDepth 100000 in
theorem c_X6_aboutO (l : Launch) (D : va_G) (a r k : Nat → Nat) (cI cT cN : ClassId) (xh xi xr pn : Nat) (pc : Nat → Int32) (rd : Nat × Nat × Nat) (B L : Nat → Int32) (q kq : RS) (b : Nat → Nat → Nat) (hS : SR b B L) (hokz : ¬ q.1 = 0 → hok b) (hT : Tok q) (i : Nat) (hi : i < q.1) (w : Int32) (ow : ¬ inr w 0 9) : ROi l yX6_about (wA yX6_about cX6_about 4 (some .int)) ({ frames := 5, cells := 0, slots := 0, locals := 123 }) D (cTys cI cT cN) (cW a r k cI cT cN xh xi xr pn pc rd B L q kq) [.ref (a 0), .int (nI i), .int w] (-102) := by
  refine go_start (by decide) (Nat.le_of_ble_eq_true rfl) ?_
  intro p e s m args below meth c ls F _ hB hl
  obtain ⟨hx, hb, hr, hlocks, hml, hown, hts⟩ := F
  obtain ⟨hP, hK⟩ := hB
  have hown : s.vm.findClass RX6 = some m.cls := hown
  have hl : lv_has ls 4 [(0, .ref (a 0)), (1, .int (nI i)), (2, .int w)] := hl
  have ht5 := hT.1
  have ht8 := hT.2.1
  have hw7 := inr_out ow
  have hok9 := hokz (by omega)
  refine lv_aload_n hx hb dX6_about_0 rfl (lv_at hl 0 rfl) ?_
  refine va_get (D := D) (ci := 6) (v := .ref (r 0)) (C := RX6) (T := TX6) (N := 7) hx hb hts iX6 hown hK hP 0 rfl rfl 2 (by decide) (hts _ mg_153) (fun _ h9 => h9) rfl dX6_about_1 ?_
  refine lv_iload_n hx hb dX6_about_4 rfl (lv_at hl 1 rfl) ?_
  refine ro_qV (n := 1) (As := [.int (nI i)]) ⟨hx, hb, hml, hown, hts⟩ (c_X3_tapAt l D r cI cT cN q i (by omega) ht5) (cwV 1 hts (gV mg_290 mg_259 mg_260 mg_5 mg_261) rfl rfl rfl vd_X3_tapAt ⟨Nat.le_of_ble_eq_true rfl, Nat.le_of_ble_eq_true rfl⟩) (va_recv hK hP (ci := 3) (q0 := 7) rfl rfl) hK (cW_r hP) rfl hl.1 rfl (Nat.le_of_ble_eq_true rfl) dX6_about_5 ⟨Nat.zero_le _, Nat.zero_le _⟩ ?_
  refine lv_astore_n (lv' := [(3, .ref (r (3 + i))), (0, .ref (a 0)), (1, .int (nI i)), (2, .int w)]) hx hb dX6_about_8 rfl hl (by decide) rfl (fun ls hl => ?_)
  refine lv_aload_n hx hb dX6_about_9 rfl (lv_at hl 0 rfl) ?_
  refine lv_ifnonnull (tgt := 16) hx hb dX6_about_10 (by decide) ?_
  refine lv_iload_n hx hb dX6_about_16 rfl (lv_at hl 3 rfl) ?_
  refine j_if_lt (tgt := 26) hx hb dX6_about_17 (by decide) rfl (fun c_1 => ?_) (fun c_1 => ?_)
  · refine lv_bipush (v := (-102)) hx hb dX6_about_26 (by decide) ?_
    exact ro_iret hx hb hr hlocks (rfl) dX6_about_28
  · refine lv_iload_n hx hb dX6_about_20 rfl (lv_at hl 3 rfl) ?_
    refine lv_bipush (v := nI 8) hx hb dX6_about_21 (by decide) ?_
    refine j_icmp_le (tgt := 29) hx hb dX6_about_23 (by decide) rfl (nI_toInt (by decide)) (fun c_2 => absurd c_2 (by omega)) (fun c_2 => ?_)
    refine lv_bipush (v := (-102)) hx hb dX6_about_26 (by decide) ?_
    exact ro_iret hx hb hr hlocks (rfl) dX6_about_28

set_option maxHeartbeats 4000000 in
set_option maxRecDepth 100000 in
theorem c_X6_aboutI (l : Launch) (D : va_G) (a r k : Nat → Nat) (cI cT cN : ClassId) (xh xi xr pn : Nat) (pc : Nat → Int32) (rd : Nat × Nat × Nat) (B L : Nat → Int32) (q kq : RS) (b : Nat → Nat → Nat) (hS : SR b B L) (hokz : ¬ q.1 = 0 → hok b) (hT : Tok q) (i : Nat) (hi : i < q.1) (w : Nat) (hw : w < 9) : ROi l yX6_about (wA yX6_about cX6_about 4 (some .int)) ({ frames := 5, cells := 0, slots := 0, locals := 123 }) D (cTys cI cT cN) (cW a r k cI cT cN xh xi xr pn pc rd B L q kq) [.ref (a 0), .int (nI i), .int (nI w)] (abt b q.2.2.2.1 q.2.2.2.2 q.2.1 i w) := by
  refine go_start (by decide) (Nat.le_of_ble_eq_true rfl) ?_
  intro p e s m args below meth c ls F _ hB hl
  obtain ⟨hx, hb, hr, hlocks, hml, hown, hts⟩ := F
  obtain ⟨hP, hK⟩ := hB
  have hown : s.vm.findClass RX6 = some m.cls := hown
  have hl : lv_has ls 4 [(0, .ref (a 0)), (1, .int (nI i)), (2, .int (nI w))] := hl
  have ht5 := hT.1
  have ht8 := hT.2.1
  have hok9 := hokz (by omega)
  refine lv_aload_n hx hb dX6_about_0 rfl (lv_at hl 0 rfl) ?_
  refine va_get (D := D) (ci := 6) (v := .ref (r 0)) (C := RX6) (T := TX6) (N := 7) hx hb hts iX6 hown hK hP 0 rfl rfl 2 (by decide) (hts _ mg_153) (fun _ h9 => h9) rfl dX6_about_1 ?_
  refine lv_iload_n hx hb dX6_about_4 rfl (lv_at hl 1 rfl) ?_
  refine ro_qV (n := 1) (As := [.int (nI i)]) ⟨hx, hb, hml, hown, hts⟩ (c_X3_tapAt l D r cI cT cN q i (by omega) ht5) (cwV 1 hts (gV mg_290 mg_259 mg_260 mg_5 mg_261) rfl rfl rfl vd_X3_tapAt ⟨Nat.le_of_ble_eq_true rfl, Nat.le_of_ble_eq_true rfl⟩) (va_recv hK hP (ci := 3) (q0 := 7) rfl rfl) hK (cW_r hP) rfl hl.1 rfl (Nat.le_of_ble_eq_true rfl) dX6_about_5 ⟨Nat.zero_le _, Nat.zero_le _⟩ ?_
  refine lv_astore_n (lv' := [(3, .ref (r (3 + i))), (0, .ref (a 0)), (1, .int (nI i)), (2, .int (nI w))]) hx hb dX6_about_8 rfl hl (by decide) rfl (fun ls hl => ?_)
  refine lv_aload_n hx hb dX6_about_9 rfl (lv_at hl 0 rfl) ?_
  refine lv_ifnonnull (tgt := 16) hx hb dX6_about_10 (by decide) ?_
  refine lv_iload_n hx hb dX6_about_16 rfl (lv_at hl 3 rfl) ?_
  refine j_if_lt (tgt := 26) hx hb dX6_about_17 (by decide) (nI_toInt (by omega)) (fun c_1 => absurd c_1 (by omega)) (fun c_1 => ?_)
  refine lv_iload_n hx hb dX6_about_20 rfl (lv_at hl 3 rfl) ?_
  refine lv_bipush (v := nI 8) hx hb dX6_about_21 (by decide) ?_
  refine j_icmp_le (tgt := 29) hx hb dX6_about_23 (by decide) (nI_toInt (by omega)) (nI_toInt (by decide)) (fun c_2 => ?_) (fun c_2 => absurd c_2 (by omega))
  refine lv_aload_n hx hb dX6_about_29 rfl (lv_at hl 1 rfl) ?_
  refine lv_aload_n hx hb dX6_about_30 rfl (lv_at hl 0 rfl) ?_
  refine lv_iload_n hx hb dX6_about_31 rfl (lv_at hl 3 rfl) ?_
  refine ro_iV (n := 2) (As := [.ref (r (3 + i)), .int (nI w)]) ⟨hx, hb, hml, hown, hts⟩ (c_X6_aboutOf l D a r k cI cT cN xh xi xr pn pc rd B L q kq b hS hok9 hT i hi w hw) (cwV 2 hts (gV mg_291 mg_293 mg_1003 mg_1 mg_294) rfl rfl rfl vd_X6_aboutOf ⟨Nat.le_of_ble_eq_true rfl, Nat.le_of_ble_eq_true rfl⟩) (va_recv hK hP (ci := 6) (q0 := 0) rfl rfl) hK hP rfl hl.1 rfl (Nat.le_of_ble_eq_true rfl) dX6_about_32 ⟨Nat.zero_le _, Nat.zero_le _⟩ ?_
  exact ro_iret hx hb hr hlocks (rfl) dX6_about_35

theorem c_X6_about (l : Launch) (D : va_G) (a r k : Nat → Nat) (cI cT cN : ClassId) (xh xi xr pn : Nat) (pc : Nat → Int32) (rd : Nat × Nat × Nat) (B L : Nat → Int32) (q kq : RS) (b : Nat → Nat → Nat) (hS : SR b B L) (hokz : ¬ q.1 = 0 → hok b) (hT : Tok q) (x w : Int32) : ROi l yX6_about (wA yX6_about cX6_about 4 (some .int)) ({ frames := 5, cells := 0, slots := 0, locals := 123 }) D (cTys cI cT cN) (cW a r k cI cT cN xh xi xr pn pc rd B L q kq) [.ref (a 0), .int x, .int w] (sp_about b q x w) := by
  unfold sp_about
  have h5 := hT.1
  by_cases hx : inr x 0 q.1
  · obtain ⟨i, hi, rfl⟩ := inr_nat hx (by omega)
    rw [if_pos hx, ti_nI (by omega)]
    by_cases hw : inr w 0 9
    · obtain ⟨j, hj, rfl⟩ := inr_nat (n := 9) hw (by decide)
      rw [if_pos hw, ti_nI (by omega)]
      exact c_X6_aboutI l D a r k cI cT cN xh xi xr pn pc rd B L q kq b hS hokz hT i hi j hj
    · rw [if_neg hw]
      exact c_X6_aboutO l D a r k cI cT cN xh xi xr pn pc rd B L q kq b hS hokz hT i hi w hw
  · rw [if_neg hx]
    exact c_X6_aboutX l D a r k cI cT cN xh xi xr pn pc rd B L q kq b hS hokz hT x w hx

set_option maxHeartbeats 4000000 in
set_option maxRecDepth 100000 in
theorem c_X6_asX (l : Launch) (D : va_G) (a r k : Nat → Nat) (cI cT cN : ClassId) (xh xi xr pn : Nat) (pc : Nat → Int32) (rd : Nat × Nat × Nat) (B L : Nat → Int32) (q kq : RS) (b : Nat → Nat → Nat) (hS : SR b B L) (hokz : ¬ q.1 = 0 → hok b) (hT : Tok q) (x w : Int32) (ox : ¬ inr x 0 q.1) : ROi l yX6_as (wA yX6_as cX6_as 5 (some .int)) ({ frames := 1, cells := 0, slots := 0, locals := 21 }) D (cTys cI cT cN) (cW a r k cI cT cN xh xi xr pn pc rd B L q kq) [.ref (a 0), .int x, .int w] (-101) := by
  refine go_start (by decide) (Nat.le_of_ble_eq_true rfl) ?_
  intro p e s m args below meth c ls F _ hB hl
  obtain ⟨hx, hb, hr, hlocks, hml, hown, hts⟩ := F
  obtain ⟨hP, hK⟩ := hB
  have hown : s.vm.findClass RX6 = some m.cls := hown
  have hl : lv_has ls 5 [(0, .ref (a 0)), (1, .int x), (2, .int w)] := hl
  have ht5 := hT.1
  have ht8 := hT.2.1
  refine lv_aload_n hx hb dX6_as_0 rfl (lv_at hl 0 rfl) ?_
  refine va_get (D := D) (ci := 6) (v := .ref (r 0)) (C := RX6) (T := TX6) (N := 7) hx hb hts iX6 hown hK hP 0 rfl rfl 2 (by decide) (hts _ mg_153) (fun _ h9 => h9) rfl dX6_as_1 ?_
  refine lv_iload_n hx hb dX6_as_4 rfl (lv_at hl 1 rfl) ?_
  refine ro_qV (n := 1) (As := [.int x]) ⟨hx, hb, hml, hown, hts⟩ (c_X3_tapOut l D r cI cT cN q x (inr_out ox) ht5) (cwV 1 hts (gV mg_290 mg_259 mg_260 mg_5 mg_261) rfl rfl rfl vd_X3_tapAt ⟨Nat.le_of_ble_eq_true rfl, Nat.le_of_ble_eq_true rfl⟩) (va_recv hK hP (ci := 3) (q0 := 7) rfl rfl) hK (cW_r hP) rfl hl.1 rfl (Nat.le_of_ble_eq_true rfl) dX6_as_5 ⟨Nat.zero_le _, Nat.zero_le _⟩ ?_
  refine lv_astore_nN (lv' := [(3, .null), (0, .ref (a 0)), (1, .int x), (2, .int w)]) hx hb dX6_as_8 rfl hl (by decide) rfl (fun ls hl => ?_)
  refine lv_aload_nN hx hb dX6_as_9 rfl (lv_at hl 0 rfl) ?_
  refine lv_ifnonnullN hx hb dX6_as_10 ?_
  refine lv_bipush (v := (-101)) hx hb dX6_as_13 (by decide) ?_
  exact ro_iret hx hb hr hlocks (rfl) dX6_as_15

set_option maxHeartbeats 4000000 in
set_option maxRecDepth 100000 in
theorem c_X6_asO (l : Launch) (D : va_G) (a r k : Nat → Nat) (cI cT cN : ClassId) (xh xi xr pn : Nat) (pc : Nat → Int32) (rd : Nat × Nat × Nat) (B L : Nat → Int32) (q kq : RS) (b : Nat → Nat → Nat) (hS : SR b B L) (hokz : ¬ q.1 = 0 → hok b) (hT : Tok q) (i : Nat) (hi : i < q.1) (w : Int32) (ow : ¬ inr w 0 5) : ROi l yX6_as (wA yX6_as cX6_as 5 (some .int)) ({ frames := 1, cells := 0, slots := 0, locals := 21 }) D (cTys cI cT cN) (cW a r k cI cT cN xh xi xr pn pc rd B L q kq) [.ref (a 0), .int (nI i), .int w] (-102) := by
  refine go_start (by decide) (Nat.le_of_ble_eq_true rfl) ?_
  intro p e s m args below meth c ls F _ hB hl
  obtain ⟨hx, hb, hr, hlocks, hml, hown, hts⟩ := F
  obtain ⟨hP, hK⟩ := hB
  have hown : s.vm.findClass RX6 = some m.cls := hown
  have hl : lv_has ls 5 [(0, .ref (a 0)), (1, .int (nI i)), (2, .int w)] := hl
  have ht5 := hT.1
  have ht8 := hT.2.1
  have hok9 := hokz (by omega)
  refine lv_aload_n hx hb dX6_as_0 rfl (lv_at hl 0 rfl) ?_
  refine va_get (D := D) (ci := 6) (v := .ref (r 0)) (C := RX6) (T := TX6) (N := 7) hx hb hts iX6 hown hK hP 0 rfl rfl 2 (by decide) (hts _ mg_153) (fun _ h9 => h9) rfl dX6_as_1 ?_
  refine lv_iload_n hx hb dX6_as_4 rfl (lv_at hl 1 rfl) ?_
  refine ro_qV (n := 1) (As := [.int (nI i)]) ⟨hx, hb, hml, hown, hts⟩ (c_X3_tapAt l D r cI cT cN q i (by omega) ht5) (cwV 1 hts (gV mg_290 mg_259 mg_260 mg_5 mg_261) rfl rfl rfl vd_X3_tapAt ⟨Nat.le_of_ble_eq_true rfl, Nat.le_of_ble_eq_true rfl⟩) (va_recv hK hP (ci := 3) (q0 := 7) rfl rfl) hK (cW_r hP) rfl hl.1 rfl (Nat.le_of_ble_eq_true rfl) dX6_as_5 ⟨Nat.zero_le _, Nat.zero_le _⟩ ?_
  refine lv_astore_n (lv' := [(3, .ref (r (3 + i))), (0, .ref (a 0)), (1, .int (nI i)), (2, .int w)]) hx hb dX6_as_8 rfl hl (by decide) rfl (fun ls hl => ?_)
  refine lv_aload_n hx hb dX6_as_9 rfl (lv_at hl 0 rfl) ?_
  refine lv_ifnonnull (tgt := 16) hx hb dX6_as_10 (by decide) ?_
  refine lv_iload_n hx hb dX6_as_16 rfl (lv_at hl 3 rfl) ?_
  refine ro_iS (n := 1) (As := [.int w]) ⟨hx, hb, hml, hown, hts⟩ (c_X6_isKindF l D w (inr_out ow)) (cwS 1 hts (gS mg_283 mg_284 mg_1 mg_285) rfl rfl rfl vd_X6_isKind ⟨Nat.le_of_ble_eq_true rfl, Nat.le_of_ble_eq_true rfl⟩)  (hK.sub [] rfl) (fun k q h => by simp at h) rfl hl.1 rfl (Nat.le_of_ble_eq_true rfl) dX6_as_17 ⟨Nat.zero_le _, Nat.zero_le _⟩ ?_
  refine j_if_ne (tgt := 26) hx hb dX6_as_20 (by decide) (nI_toInt (by decide)) (fun c_1 => absurd c_1 (by omega)) (fun c_1 => ?_)
  refine lv_bipush (v := (-102)) hx hb dX6_as_23 (by decide) ?_
  exact ro_iret hx hb hr hlocks (rfl) dX6_as_25

set_option maxHeartbeats 4000000 in
set_option maxRecDepth 100000 in
theorem c_X6_asI (l : Launch) (D : va_G) (a r k : Nat → Nat) (cI cT cN : ClassId) (xh xi xr pn : Nat) (pc : Nat → Int32) (rd : Nat × Nat × Nat) (B L : Nat → Int32) (q kq : RS) (b : Nat → Nat → Nat) (hS : SR b B L) (hokz : ¬ q.1 = 0 → hok b) (hT : Tok q) (i : Nat) (hi : i < q.1) (w : Nat) (hw : w < 5) : ROi l yX6_as (wA yX6_as cX6_as 5 (some .int)) ({ frames := 1, cells := 0, slots := 0, locals := 21 }) D (cTys cI cT cN) (cW a r k cI cT cN xh xi xr pn pc rd B L q kq) [.ref (a 0), .int (nI i), .int (nI w)] (if w = 0 ∨ w = q.2.2.2.1 i 0 ∨ (w = 1 ∧ q.2.2.2.1 i 0 = 4) then nI i else -1) := by
  refine go_start (by decide) (Nat.le_of_ble_eq_true rfl) ?_
  intro p e s m args below meth c ls F _ hB hl
  obtain ⟨hx, hb, hr, hlocks, hml, hown, hts⟩ := F
  obtain ⟨hP, hK⟩ := hB
  have hown : s.vm.findClass RX6 = some m.cls := hown
  have hl : lv_has ls 5 [(0, .ref (a 0)), (1, .int (nI i)), (2, .int (nI w))] := hl
  have ht5 := hT.1
  have ht8 := hT.2.1
  obtain ⟨hk0, hv0, hw0, hp0⟩ := hT.2.2.1 i hi
  have hok9 := hokz (by omega)
  refine lv_aload_n hx hb dX6_as_0 rfl (lv_at hl 0 rfl) ?_
  refine va_get (D := D) (ci := 6) (v := .ref (r 0)) (C := RX6) (T := TX6) (N := 7) hx hb hts iX6 hown hK hP 0 rfl rfl 2 (by decide) (hts _ mg_153) (fun _ h9 => h9) rfl dX6_as_1 ?_
  refine lv_iload_n hx hb dX6_as_4 rfl (lv_at hl 1 rfl) ?_
  refine ro_qV (n := 1) (As := [.int (nI i)]) ⟨hx, hb, hml, hown, hts⟩ (c_X3_tapAt l D r cI cT cN q i (by omega) ht5) (cwV 1 hts (gV mg_290 mg_259 mg_260 mg_5 mg_261) rfl rfl rfl vd_X3_tapAt ⟨Nat.le_of_ble_eq_true rfl, Nat.le_of_ble_eq_true rfl⟩) (va_recv hK hP (ci := 3) (q0 := 7) rfl rfl) hK (cW_r hP) rfl hl.1 rfl (Nat.le_of_ble_eq_true rfl) dX6_as_5 ⟨Nat.zero_le _, Nat.zero_le _⟩ ?_
  refine lv_astore_n (lv' := [(3, .ref (r (3 + i))), (0, .ref (a 0)), (1, .int (nI i)), (2, .int (nI w))]) hx hb dX6_as_8 rfl hl (by decide) rfl (fun ls hl => ?_)
  refine lv_aload_n hx hb dX6_as_9 rfl (lv_at hl 0 rfl) ?_
  refine lv_ifnonnull (tgt := 16) hx hb dX6_as_10 (by decide) ?_
  refine lv_iload_n hx hb dX6_as_16 rfl (lv_at hl 3 rfl) ?_
  refine ro_iS (n := 1) (As := [.int (nI w)]) ⟨hx, hb, hml, hown, hts⟩ (c_X6_isKindT l D (nI w) (by rw [nI_toInt (by omega)]; omega)) (cwS 1 hts (gS mg_283 mg_284 mg_1 mg_285) rfl rfl rfl vd_X6_isKind ⟨Nat.le_of_ble_eq_true rfl, Nat.le_of_ble_eq_true rfl⟩)  (hK.sub [] rfl) (fun k q h => by simp at h) rfl hl.1 rfl (Nat.le_of_ble_eq_true rfl) dX6_as_17 ⟨Nat.zero_le _, Nat.zero_le _⟩ ?_
  refine j_if_ne (tgt := 26) hx hb dX6_as_20 (by decide) (nI_toInt (by decide)) (fun c_1 => ?_) (fun c_1 => absurd c_1 (by omega))
  refine lv_iload_n hx hb dX6_as_26 rfl (lv_at hl 3 rfl) ?_
  refine j_if_eq (tgt := 51) hx hb dX6_as_27 (by decide) (nI_toInt (by omega)) (fun c_2 => ?_) (fun c_2 => ?_)
  · refine lv_iconst (v := nI 1) hx hb dX6_as_51 (by decide) ?_
    refine lv_goto (tgt := 56) hx hb dX6_as_52 (by decide) ?_
    refine lv_istore (lv' := [(4, .int (nI 1)), (3, .ref (r (3 + i))), (0, .ref (a 0)), (1, .int (nI i)), (2, .int (nI w))]) hx hb dX6_as_56 hl (by decide) rfl (fun ls hl => ?_)
    refine lv_iload hx hb dX6_as_58 (lv_at hl 0 rfl) ?_
    refine j_if_eq (tgt := 67) hx hb dX6_as_60 (by decide) (nI_toInt (by decide)) (fun c_3 => absurd c_3 (by omega)) (fun c_3 => ?_)
    refine lv_iload_n hx hb dX6_as_63 rfl (lv_at hl 3 rfl) ?_
    refine lv_goto (tgt := 68) hx hb dX6_as_64 (by decide) ?_
    exact ro_iret hx hb hr hlocks (by rw [if_pos (by omega)]) dX6_as_68
  · refine lv_iload_n hx hb dX6_as_30 rfl (lv_at hl 3 rfl) ?_
    refine lv_aload_n hx hb dX6_as_31 rfl (lv_at hl 0 rfl) ?_
    refine va_get (D := D) (ci := 5) (v := .int (nI (q.2.2.2.1 i 0))) (C := RX5) (T := TX5) (N := 5) hx hb hts iX5 hown hK hP (10 + i) (cW_tap (by omega)) rfl 1 (by decide) (hts _ mg_83) (fun _ h9 => h9) rfl dX6_as_32 ?_
    refine j_icmp_eq (tgt := 51) hx hb dX6_as_35 (by decide) (nI_toInt (by omega)) (nI_toInt (by omega)) (fun c_4 => ?_) (fun c_4 => ?_)
    · refine lv_iconst (v := nI 1) hx hb dX6_as_51 (by decide) ?_
      refine lv_goto (tgt := 56) hx hb dX6_as_52 (by decide) ?_
      refine lv_istore (lv' := [(4, .int (nI 1)), (3, .ref (r (3 + i))), (0, .ref (a 0)), (1, .int (nI i)), (2, .int (nI w))]) hx hb dX6_as_56 hl (by decide) rfl (fun ls hl => ?_)
      refine lv_iload hx hb dX6_as_58 (lv_at hl 0 rfl) ?_
      refine j_if_eq (tgt := 67) hx hb dX6_as_60 (by decide) (nI_toInt (by decide)) (fun c_5 => absurd c_5 (by omega)) (fun c_5 => ?_)
      refine lv_iload_n hx hb dX6_as_63 rfl (lv_at hl 3 rfl) ?_
      refine lv_goto (tgt := 68) hx hb dX6_as_64 (by decide) ?_
      exact ro_iret hx hb hr hlocks (by rw [if_pos (by omega)]) dX6_as_68
    · refine lv_iload_n hx hb dX6_as_38 rfl (lv_at hl 3 rfl) ?_
      refine lv_iconst (v := nI 1) hx hb dX6_as_39 (by decide) ?_
      refine j_icmp_ne (tgt := 55) hx hb dX6_as_40 (by decide) (nI_toInt (by omega)) (nI_toInt (by decide)) (fun c_6 => ?_) (fun c_6 => ?_)
      · refine lv_iconst (v := nI 0) hx hb dX6_as_55 (by decide) ?_
        refine lv_istore (lv' := [(4, .int (nI 0)), (3, .ref (r (3 + i))), (0, .ref (a 0)), (1, .int (nI i)), (2, .int (nI w))]) hx hb dX6_as_56 hl (by decide) rfl (fun ls hl => ?_)
        refine lv_iload hx hb dX6_as_58 (lv_at hl 0 rfl) ?_
        refine j_if_eq (tgt := 67) hx hb dX6_as_60 (by decide) (nI_toInt (by decide)) (fun c_7 => ?_) (fun c_7 => absurd c_7 (by omega))
        refine lv_iconst (v := (-1)) hx hb dX6_as_67 (by decide) ?_
        exact ro_iret hx hb hr hlocks (by rw [if_neg (by omega)]) dX6_as_68
      · refine lv_aload_n hx hb dX6_as_43 rfl (lv_at hl 0 rfl) ?_
        refine va_get (D := D) (ci := 5) (v := .int (nI (q.2.2.2.1 i 0))) (C := RX5) (T := TX5) (N := 5) hx hb hts iX5 hown hK hP (10 + i) (cW_tap (by omega)) rfl 1 (by decide) (hts _ mg_83) (fun _ h9 => h9) rfl dX6_as_44 ?_
        refine lv_iconst (v := nI 4) hx hb dX6_as_47 (by decide) ?_
        refine j_icmp_ne (tgt := 55) hx hb dX6_as_48 (by decide) (nI_toInt (by omega)) (nI_toInt (by decide)) (fun c_8 => ?_) (fun c_8 => ?_)
        · refine lv_iconst (v := nI 0) hx hb dX6_as_55 (by decide) ?_
          refine lv_istore (lv' := [(4, .int (nI 0)), (3, .ref (r (3 + i))), (0, .ref (a 0)), (1, .int (nI i)), (2, .int (nI w))]) hx hb dX6_as_56 hl (by decide) rfl (fun ls hl => ?_)
          refine lv_iload hx hb dX6_as_58 (lv_at hl 0 rfl) ?_
          refine j_if_eq (tgt := 67) hx hb dX6_as_60 (by decide) (nI_toInt (by decide)) (fun c_9 => ?_) (fun c_9 => absurd c_9 (by omega))
          refine lv_iconst (v := (-1)) hx hb dX6_as_67 (by decide) ?_
          exact ro_iret hx hb hr hlocks (by rw [if_neg (by omega)]) dX6_as_68
        · refine lv_iconst (v := nI 1) hx hb dX6_as_51 (by decide) ?_
          refine lv_goto (tgt := 56) hx hb dX6_as_52 (by decide) ?_
          refine lv_istore (lv' := [(4, .int (nI 1)), (3, .ref (r (3 + i))), (0, .ref (a 0)), (1, .int (nI i)), (2, .int (nI w))]) hx hb dX6_as_56 hl (by decide) rfl (fun ls hl => ?_)
          refine lv_iload hx hb dX6_as_58 (lv_at hl 0 rfl) ?_
          refine j_if_eq (tgt := 67) hx hb dX6_as_60 (by decide) (nI_toInt (by decide)) (fun c_10 => absurd c_10 (by omega)) (fun c_10 => ?_)
          refine lv_iload_n hx hb dX6_as_63 rfl (lv_at hl 3 rfl) ?_
          refine lv_goto (tgt := 68) hx hb dX6_as_64 (by decide) ?_
          exact ro_iret hx hb hr hlocks (by rw [if_pos (by omega)]) dX6_as_68

theorem c_X6_as (l : Launch) (D : va_G) (a r k : Nat → Nat) (cI cT cN : ClassId) (xh xi xr pn : Nat) (pc : Nat → Int32) (rd : Nat × Nat × Nat) (B L : Nat → Int32) (q kq : RS) (b : Nat → Nat → Nat) (hS : SR b B L) (hokz : ¬ q.1 = 0 → hok b) (hT : Tok q) (x w : Int32) : ROi l yX6_as (wA yX6_as cX6_as 5 (some .int)) ({ frames := 1, cells := 0, slots := 0, locals := 21 }) D (cTys cI cT cN) (cW a r k cI cT cN xh xi xr pn pc rd B L q kq) [.ref (a 0), .int x, .int w] (sp_as q x w) := by
  unfold sp_as
  have h5 := hT.1
  by_cases hx : inr x 0 q.1
  · obtain ⟨i, hi, rfl⟩ := inr_nat hx (by omega)
    rw [if_pos hx, ti_nI (by omega)]
    by_cases hw : inr w 0 5
    · obtain ⟨j, hj, rfl⟩ := inr_nat (n := 5) hw (by decide)
      rw [if_pos hw, ti_nI (by omega)]
      exact c_X6_asI l D a r k cI cT cN xh xi xr pn pc rd B L q kq b hS hokz hT i hi j hj
    · rw [if_neg hw]
      exact c_X6_asO l D a r k cI cT cN xh xi xr pn pc rd B L q kq b hS hokz hT i hi w hw
  · rw [if_neg hx]
    exact c_X6_asX l D a r k cI cT cN xh xi xr pn pc rd B L q kq b hS hokz hT x w hx

set_option maxHeartbeats 4000000 in
set_option maxRecDepth 100000 in
theorem c_X6_dripX (l : Launch) (D : va_G) (a r k : Nat → Nat) (cI cT cN : ClassId) (xh xi xr pn : Nat) (pc : Nat → Int32) (rd : Nat × Nat × Nat) (B L : Nat → Int32) (q kq : RS) (b : Nat → Nat → Nat) (hS : SR b B L) (hokz : ¬ q.1 = 0 → hok b) (hT : Tok q) (x w : Int32) (ox : ¬ inr x 0 q.1) : ROi l yX6_drip (wA yX6_drip cX6_drip 4 (some .int)) ({ frames := 3, cells := 0, slots := 0, locals := 72 }) D (cTys cI cT cN) (cW a r k cI cT cN xh xi xr pn pc rd B L q kq) [.ref (a 0), .int x, .int w] (-101) := by
  refine go_start (by decide) (Nat.le_of_ble_eq_true rfl) ?_
  intro p e s m args below meth c ls F _ hB hl
  obtain ⟨hx, hb, hr, hlocks, hml, hown, hts⟩ := F
  obtain ⟨hP, hK⟩ := hB
  have hown : s.vm.findClass RX6 = some m.cls := hown
  have hl : lv_has ls 4 [(0, .ref (a 0)), (1, .int x), (2, .int w)] := hl
  have ht5 := hT.1
  have ht8 := hT.2.1
  refine lv_aload_n hx hb dX6_drip_0 rfl (lv_at hl 0 rfl) ?_
  refine va_get (D := D) (ci := 6) (v := .ref (r 0)) (C := RX6) (T := TX6) (N := 7) hx hb hts iX6 hown hK hP 0 rfl rfl 2 (by decide) (hts _ mg_153) (fun _ h9 => h9) rfl dX6_drip_1 ?_
  refine lv_iload_n hx hb dX6_drip_4 rfl (lv_at hl 1 rfl) ?_
  refine ro_qV (n := 1) (As := [.int x]) ⟨hx, hb, hml, hown, hts⟩ (c_X3_tapOut l D r cI cT cN q x (inr_out ox) ht5) (cwV 1 hts (gV mg_290 mg_259 mg_260 mg_5 mg_261) rfl rfl rfl vd_X3_tapAt ⟨Nat.le_of_ble_eq_true rfl, Nat.le_of_ble_eq_true rfl⟩) (va_recv hK hP (ci := 3) (q0 := 7) rfl rfl) hK (cW_r hP) rfl hl.1 rfl (Nat.le_of_ble_eq_true rfl) dX6_drip_5 ⟨Nat.zero_le _, Nat.zero_le _⟩ ?_
  refine lv_astore_nN (lv' := [(3, .null), (0, .ref (a 0)), (1, .int x), (2, .int w)]) hx hb dX6_drip_8 rfl hl (by decide) rfl (fun ls hl => ?_)
  refine lv_aload_nN hx hb dX6_drip_9 rfl (lv_at hl 0 rfl) ?_
  refine lv_ifnonnullN hx hb dX6_drip_10 ?_
  refine lv_bipush (v := (-101)) hx hb dX6_drip_13 (by decide) ?_
  exact ro_iret hx hb hr hlocks (rfl) dX6_drip_15

set_option maxHeartbeats 4000000 in
set_option maxRecDepth 100000 in
theorem c_X6_dripO (l : Launch) (D : va_G) (a r k : Nat → Nat) (cI cT cN : ClassId) (xh xi xr pn : Nat) (pc : Nat → Int32) (rd : Nat × Nat × Nat) (B L : Nat → Int32) (q kq : RS) (b : Nat → Nat → Nat) (hS : SR b B L) (hokz : ¬ q.1 = 0 → hok b) (hT : Tok q) (i : Nat) (hi : i < q.1) (w : Int32) (ow : ¬ inr w 0 100) : ROi l yX6_drip (wA yX6_drip cX6_drip 4 (some .int)) ({ frames := 3, cells := 0, slots := 0, locals := 72 }) D (cTys cI cT cN) (cW a r k cI cT cN xh xi xr pn pc rd B L q kq) [.ref (a 0), .int (nI i), .int w] (-102) := by
  refine go_start (by decide) (Nat.le_of_ble_eq_true rfl) ?_
  intro p e s m args below meth c ls F _ hB hl
  obtain ⟨hx, hb, hr, hlocks, hml, hown, hts⟩ := F
  obtain ⟨hP, hK⟩ := hB
  have hown : s.vm.findClass RX6 = some m.cls := hown
  have hl : lv_has ls 4 [(0, .ref (a 0)), (1, .int (nI i)), (2, .int w)] := hl
  have ht5 := hT.1
  have ht8 := hT.2.1
  have hw7 := inr_out ow
  have hok9 := hokz (by omega)
  refine lv_aload_n hx hb dX6_drip_0 rfl (lv_at hl 0 rfl) ?_
  refine va_get (D := D) (ci := 6) (v := .ref (r 0)) (C := RX6) (T := TX6) (N := 7) hx hb hts iX6 hown hK hP 0 rfl rfl 2 (by decide) (hts _ mg_153) (fun _ h9 => h9) rfl dX6_drip_1 ?_
  refine lv_iload_n hx hb dX6_drip_4 rfl (lv_at hl 1 rfl) ?_
  refine ro_qV (n := 1) (As := [.int (nI i)]) ⟨hx, hb, hml, hown, hts⟩ (c_X3_tapAt l D r cI cT cN q i (by omega) ht5) (cwV 1 hts (gV mg_290 mg_259 mg_260 mg_5 mg_261) rfl rfl rfl vd_X3_tapAt ⟨Nat.le_of_ble_eq_true rfl, Nat.le_of_ble_eq_true rfl⟩) (va_recv hK hP (ci := 3) (q0 := 7) rfl rfl) hK (cW_r hP) rfl hl.1 rfl (Nat.le_of_ble_eq_true rfl) dX6_drip_5 ⟨Nat.zero_le _, Nat.zero_le _⟩ ?_
  refine lv_astore_n (lv' := [(3, .ref (r (3 + i))), (0, .ref (a 0)), (1, .int (nI i)), (2, .int w)]) hx hb dX6_drip_8 rfl hl (by decide) rfl (fun ls hl => ?_)
  refine lv_aload_n hx hb dX6_drip_9 rfl (lv_at hl 0 rfl) ?_
  refine lv_ifnonnull (tgt := 16) hx hb dX6_drip_10 (by decide) ?_
  refine lv_iload_n hx hb dX6_drip_16 rfl (lv_at hl 3 rfl) ?_
  refine j_if_lt (tgt := 26) hx hb dX6_drip_17 (by decide) rfl (fun c_1 => ?_) (fun c_1 => ?_)
  · refine lv_bipush (v := (-102)) hx hb dX6_drip_26 (by decide) ?_
    exact ro_iret hx hb hr hlocks (rfl) dX6_drip_28
  · refine lv_iload_n hx hb dX6_drip_20 rfl (lv_at hl 3 rfl) ?_
    refine lv_bipush (v := nI 99) hx hb dX6_drip_21 (by decide) ?_
    refine j_icmp_le (tgt := 29) hx hb dX6_drip_23 (by decide) rfl (nI_toInt (by decide)) (fun c_2 => absurd c_2 (by omega)) (fun c_2 => ?_)
    refine lv_bipush (v := (-102)) hx hb dX6_drip_26 (by decide) ?_
    exact ro_iret hx hb hr hlocks (rfl) dX6_drip_28

set_option maxHeartbeats 4000000 in
set_option maxRecDepth 100000 in
theorem c_X6_dripI (l : Launch) (D : va_G) (a r k : Nat → Nat) (cI cT cN : ClassId) (xh xi xr pn : Nat) (pc : Nat → Int32) (rd : Nat × Nat × Nat) (B L : Nat → Int32) (q kq : RS) (b : Nat → Nat → Nat) (hS : SR b B L) (hokz : ¬ q.1 = 0 → hok b) (hT : Tok q) (i : Nat) (hi : i < q.1) (w : Nat) (hw : w < 100) : ROi l yX6_drip (wA yX6_drip cX6_drip 4 (some .int)) ({ frames := 3, cells := 0, slots := 0, locals := 72 }) D (cTys cI cT cN) (cW a r k cI cT cN xh xi xr pn pc rd B L q kq) [.ref (a 0), .int (nI i), .int (nI w)] (nI (sd b (q.2.2.2.1 i 0) (q.2.2.2.1 i 2) (q.2.2.2.1 i 1) w)) := by
  refine go_start (by decide) (Nat.le_of_ble_eq_true rfl) ?_
  intro p e s m args below meth c ls F _ hB hl
  obtain ⟨hx, hb, hr, hlocks, hml, hown, hts⟩ := F
  obtain ⟨hP, hK⟩ := hB
  have hown : s.vm.findClass RX6 = some m.cls := hown
  have hl : lv_has ls 4 [(0, .ref (a 0)), (1, .int (nI i)), (2, .int (nI w))] := hl
  have ht5 := hT.1
  have ht8 := hT.2.1
  have hok9 := hokz (by omega)
  refine lv_aload_n hx hb dX6_drip_0 rfl (lv_at hl 0 rfl) ?_
  refine va_get (D := D) (ci := 6) (v := .ref (r 0)) (C := RX6) (T := TX6) (N := 7) hx hb hts iX6 hown hK hP 0 rfl rfl 2 (by decide) (hts _ mg_153) (fun _ h9 => h9) rfl dX6_drip_1 ?_
  refine lv_iload_n hx hb dX6_drip_4 rfl (lv_at hl 1 rfl) ?_
  refine ro_qV (n := 1) (As := [.int (nI i)]) ⟨hx, hb, hml, hown, hts⟩ (c_X3_tapAt l D r cI cT cN q i (by omega) ht5) (cwV 1 hts (gV mg_290 mg_259 mg_260 mg_5 mg_261) rfl rfl rfl vd_X3_tapAt ⟨Nat.le_of_ble_eq_true rfl, Nat.le_of_ble_eq_true rfl⟩) (va_recv hK hP (ci := 3) (q0 := 7) rfl rfl) hK (cW_r hP) rfl hl.1 rfl (Nat.le_of_ble_eq_true rfl) dX6_drip_5 ⟨Nat.zero_le _, Nat.zero_le _⟩ ?_
  refine lv_astore_n (lv' := [(3, .ref (r (3 + i))), (0, .ref (a 0)), (1, .int (nI i)), (2, .int (nI w))]) hx hb dX6_drip_8 rfl hl (by decide) rfl (fun ls hl => ?_)
  refine lv_aload_n hx hb dX6_drip_9 rfl (lv_at hl 0 rfl) ?_
  refine lv_ifnonnull (tgt := 16) hx hb dX6_drip_10 (by decide) ?_
  refine lv_iload_n hx hb dX6_drip_16 rfl (lv_at hl 3 rfl) ?_
  refine j_if_lt (tgt := 26) hx hb dX6_drip_17 (by decide) (nI_toInt (by omega)) (fun c_1 => absurd c_1 (by omega)) (fun c_1 => ?_)
  refine lv_iload_n hx hb dX6_drip_20 rfl (lv_at hl 3 rfl) ?_
  refine lv_bipush (v := nI 99) hx hb dX6_drip_21 (by decide) ?_
  refine j_icmp_le (tgt := 29) hx hb dX6_drip_23 (by decide) (nI_toInt (by omega)) (nI_toInt (by decide)) (fun c_2 => ?_) (fun c_2 => absurd c_2 (by omega))
  refine lv_aload_n hx hb dX6_drip_29 rfl (lv_at hl 1 rfl) ?_
  refine lv_aload_n hx hb dX6_drip_30 rfl (lv_at hl 0 rfl) ?_
  refine lv_iload_n hx hb dX6_drip_31 rfl (lv_at hl 3 rfl) ?_
  refine ro_iV (n := 2) (As := [.ref (r (3 + i)), .int (nI w)]) ⟨hx, hb, hml, hown, hts⟩ (c_X6_dripOf l D a r k cI cT cN xh xi xr pn pc rd B L q kq b hS hok9 hT i (by omega) w (by omega)) (cwV 2 hts (gV mg_344 mg_346 mg_1011 mg_1 mg_347) rfl rfl rfl vd_X6_dripOf ⟨Nat.le_of_ble_eq_true rfl, Nat.le_of_ble_eq_true rfl⟩) (va_recv hK hP (ci := 6) (q0 := 0) rfl rfl) hK hP rfl hl.1 rfl (Nat.le_of_ble_eq_true rfl) dX6_drip_32 ⟨Nat.zero_le _, Nat.zero_le _⟩ ?_
  exact ro_iret hx hb hr hlocks (rfl) dX6_drip_35

theorem c_X6_drip (l : Launch) (D : va_G) (a r k : Nat → Nat) (cI cT cN : ClassId) (xh xi xr pn : Nat) (pc : Nat → Int32) (rd : Nat × Nat × Nat) (B L : Nat → Int32) (q kq : RS) (b : Nat → Nat → Nat) (hS : SR b B L) (hokz : ¬ q.1 = 0 → hok b) (hT : Tok q) (x w : Int32) : ROi l yX6_drip (wA yX6_drip cX6_drip 4 (some .int)) ({ frames := 3, cells := 0, slots := 0, locals := 72 }) D (cTys cI cT cN) (cW a r k cI cT cN xh xi xr pn pc rd B L q kq) [.ref (a 0), .int x, .int w] (sp_drip b q x w) := by
  unfold sp_drip
  have h5 := hT.1
  by_cases hx : inr x 0 q.1
  · obtain ⟨i, hi, rfl⟩ := inr_nat hx (by omega)
    rw [if_pos hx, ti_nI (by omega)]
    by_cases hw : inr w 0 100
    · obtain ⟨j, hj, rfl⟩ := inr_nat (n := 100) hw (by decide)
      rw [if_pos hw, ti_nI (by omega)]
      exact c_X6_dripI l D a r k cI cT cN xh xi xr pn pc rd B L q kq b hS hokz hT i hi j hj
    · rw [if_neg hw]
      exact c_X6_dripO l D a r k cI cT cN xh xi xr pn pc rd B L q kq b hS hokz hT i hi w hw
  · rw [if_neg hx]
    exact c_X6_dripX l D a r k cI cT cN xh xi xr pn pc rd B L q kq b hS hokz hT x w hx

set_option maxHeartbeats 4000000 in
set_option maxRecDepth 100000 in
theorem c_X6_agree1 (l : Launch) (D : va_G) (a r k : Nat → Nat) (cI cT cN : ClassId) (xh xi xr pn : Nat) (pc : Nat → Int32) (rd : Nat × Nat × Nat) (B L : Nat → Int32) (q kq : RS) (b : Nat → Nat → Nat) (hS : SR b B L) (hokz : ¬ q.1 = 0 → hok b) (hT : Tok q) (x y : Int32) (ox : ¬ inr x 0 q.1) (oy : ¬ inr y 0 q.1) : ROi l yX6_agree (wA yX6_agree cX6_agree 7 (some .int)) ({ frames := 3, cells := 0, slots := 0, locals := 72 }) D (cTys cI cT cN) (cW a r k cI cT cN xh xi xr pn pc rd B L q kq) [.ref (a 0), .int x, .int y] (-101) := by
  refine go_start (by decide) (Nat.le_of_ble_eq_true rfl) ?_
  intro p e s m args below meth c ls F _ hB hl
  obtain ⟨hx, hb, hr, hlocks, hml, hown, hts⟩ := F
  obtain ⟨hP, hK⟩ := hB
  have hown : s.vm.findClass RX6 = some m.cls := hown
  have hl : lv_has ls 7 [(0, .ref (a 0)), (1, .int x), (2, .int y)] := hl
  have ht5 := hT.1
  have ht8 := hT.2.1
  refine lv_aload_n hx hb dX6_agree_0 rfl (lv_at hl 0 rfl) ?_
  refine va_get (D := D) (ci := 6) (v := .ref (r 0)) (C := RX6) (T := TX6) (N := 7) hx hb hts iX6 hown hK hP 0 rfl rfl 2 (by decide) (hts _ mg_153) (fun _ h9 => h9) rfl dX6_agree_1 ?_
  refine lv_iload_n hx hb dX6_agree_4 rfl (lv_at hl 1 rfl) ?_
  refine ro_qV (n := 1) (As := [.int x]) ⟨hx, hb, hml, hown, hts⟩ (c_X3_tapOut l D r cI cT cN q x (inr_out ox) ht5) (cwV 1 hts (gV mg_290 mg_259 mg_260 mg_5 mg_261) rfl rfl rfl vd_X3_tapAt ⟨Nat.le_of_ble_eq_true rfl, Nat.le_of_ble_eq_true rfl⟩) (va_recv hK hP (ci := 3) (q0 := 7) rfl rfl) hK (cW_r hP) rfl hl.1 rfl (Nat.le_of_ble_eq_true rfl) dX6_agree_5 ⟨Nat.zero_le _, Nat.zero_le _⟩ ?_
  refine lv_astore_nN (lv' := [(3, .null), (0, .ref (a 0)), (1, .int x), (2, .int y)]) hx hb dX6_agree_8 rfl hl (by decide) rfl (fun ls hl => ?_)
  refine lv_aload_n hx hb dX6_agree_9 rfl (lv_at hl 1 rfl) ?_
  refine va_get (D := D) (ci := 6) (v := .ref (r 0)) (C := RX6) (T := TX6) (N := 7) hx hb hts iX6 hown hK hP 0 rfl rfl 2 (by decide) (hts _ mg_153) (fun _ h9 => h9) rfl dX6_agree_10 ?_
  refine lv_iload_n hx hb dX6_agree_13 rfl (lv_at hl 3 rfl) ?_
  refine ro_qV (n := 1) (As := [.int y]) ⟨hx, hb, hml, hown, hts⟩ (c_X3_tapOut l D r cI cT cN q y (inr_out oy) ht5) (cwV 1 hts (gV mg_290 mg_259 mg_260 mg_5 mg_261) rfl rfl rfl vd_X3_tapAt ⟨Nat.le_of_ble_eq_true rfl, Nat.le_of_ble_eq_true rfl⟩) (va_recv hK hP (ci := 3) (q0 := 7) rfl rfl) hK (cW_r hP) rfl hl.1 rfl (Nat.le_of_ble_eq_true rfl) dX6_agree_14 ⟨Nat.zero_le _, Nat.zero_le _⟩ ?_
  refine lv_astoreN (lv' := [(4, .null), (3, .null), (0, .ref (a 0)), (1, .int x), (2, .int y)]) hx hb dX6_agree_17 hl (by decide) rfl (fun ls hl => ?_)
  refine lv_aload_nN hx hb dX6_agree_19 rfl (lv_at hl 1 rfl) ?_
  refine lv_ifnullN (tgt := 33) hx hb dX6_agree_20 (by decide) ?_
  refine lv_bipush (v := (-101)) hx hb dX6_agree_33 (by decide) ?_
  exact ro_iret hx hb hr hlocks (rfl) dX6_agree_35

set_option maxHeartbeats 4000000 in
set_option maxRecDepth 100000 in
theorem c_X6_agree2 (l : Launch) (D : va_G) (a r k : Nat → Nat) (cI cT cN : ClassId) (xh xi xr pn : Nat) (pc : Nat → Int32) (rd : Nat × Nat × Nat) (B L : Nat → Int32) (q kq : RS) (b : Nat → Nat → Nat) (hS : SR b B L) (hokz : ¬ q.1 = 0 → hok b) (hT : Tok q) (x : Int32) (ox : ¬ inr x 0 q.1) (j : Nat) (hj : j < q.1) : ROi l yX6_agree (wA yX6_agree cX6_agree 7 (some .int)) ({ frames := 3, cells := 0, slots := 0, locals := 72 }) D (cTys cI cT cN) (cW a r k cI cT cN xh xi xr pn pc rd B L q kq) [.ref (a 0), .int x, .int (nI j)] (-101) := by
  refine go_start (by decide) (Nat.le_of_ble_eq_true rfl) ?_
  intro p e s m args below meth c ls F _ hB hl
  obtain ⟨hx, hb, hr, hlocks, hml, hown, hts⟩ := F
  obtain ⟨hP, hK⟩ := hB
  have hown : s.vm.findClass RX6 = some m.cls := hown
  have hl : lv_has ls 7 [(0, .ref (a 0)), (1, .int x), (2, .int (nI j))] := hl
  have ht5 := hT.1
  have ht8 := hT.2.1
  refine lv_aload_n hx hb dX6_agree_0 rfl (lv_at hl 0 rfl) ?_
  refine va_get (D := D) (ci := 6) (v := .ref (r 0)) (C := RX6) (T := TX6) (N := 7) hx hb hts iX6 hown hK hP 0 rfl rfl 2 (by decide) (hts _ mg_153) (fun _ h9 => h9) rfl dX6_agree_1 ?_
  refine lv_iload_n hx hb dX6_agree_4 rfl (lv_at hl 1 rfl) ?_
  refine ro_qV (n := 1) (As := [.int x]) ⟨hx, hb, hml, hown, hts⟩ (c_X3_tapOut l D r cI cT cN q x (inr_out ox) ht5) (cwV 1 hts (gV mg_290 mg_259 mg_260 mg_5 mg_261) rfl rfl rfl vd_X3_tapAt ⟨Nat.le_of_ble_eq_true rfl, Nat.le_of_ble_eq_true rfl⟩) (va_recv hK hP (ci := 3) (q0 := 7) rfl rfl) hK (cW_r hP) rfl hl.1 rfl (Nat.le_of_ble_eq_true rfl) dX6_agree_5 ⟨Nat.zero_le _, Nat.zero_le _⟩ ?_
  refine lv_astore_nN (lv' := [(3, .null), (0, .ref (a 0)), (1, .int x), (2, .int (nI j))]) hx hb dX6_agree_8 rfl hl (by decide) rfl (fun ls hl => ?_)
  refine lv_aload_n hx hb dX6_agree_9 rfl (lv_at hl 1 rfl) ?_
  refine va_get (D := D) (ci := 6) (v := .ref (r 0)) (C := RX6) (T := TX6) (N := 7) hx hb hts iX6 hown hK hP 0 rfl rfl 2 (by decide) (hts _ mg_153) (fun _ h9 => h9) rfl dX6_agree_10 ?_
  refine lv_iload_n hx hb dX6_agree_13 rfl (lv_at hl 3 rfl) ?_
  refine ro_qV (n := 1) (As := [.int (nI j)]) ⟨hx, hb, hml, hown, hts⟩ (c_X3_tapAt l D r cI cT cN q j (by omega) ht5) (cwV 1 hts (gV mg_290 mg_259 mg_260 mg_5 mg_261) rfl rfl rfl vd_X3_tapAt ⟨Nat.le_of_ble_eq_true rfl, Nat.le_of_ble_eq_true rfl⟩) (va_recv hK hP (ci := 3) (q0 := 7) rfl rfl) hK (cW_r hP) rfl hl.1 rfl (Nat.le_of_ble_eq_true rfl) dX6_agree_14 ⟨Nat.zero_le _, Nat.zero_le _⟩ ?_
  refine lv_astore (lv' := [(4, .ref (r (3 + j))), (3, .null), (0, .ref (a 0)), (1, .int x), (2, .int (nI j))]) hx hb dX6_agree_17 hl (by decide) rfl (fun ls hl => ?_)
  refine lv_aload_nN hx hb dX6_agree_19 rfl (lv_at hl 1 rfl) ?_
  refine lv_ifnullN (tgt := 33) hx hb dX6_agree_20 (by decide) ?_
  refine lv_bipush (v := (-101)) hx hb dX6_agree_33 (by decide) ?_
  exact ro_iret hx hb hr hlocks (rfl) dX6_agree_35

set_option maxHeartbeats 4000000 in
set_option maxRecDepth 100000 in
theorem c_X6_agree3 (l : Launch) (D : va_G) (a r k : Nat → Nat) (cI cT cN : ClassId) (xh xi xr pn : Nat) (pc : Nat → Int32) (rd : Nat × Nat × Nat) (B L : Nat → Int32) (q kq : RS) (b : Nat → Nat → Nat) (hS : SR b B L) (hokz : ¬ q.1 = 0 → hok b) (hT : Tok q) (i : Nat) (hi : i < q.1) (y : Int32) (oy : ¬ inr y 0 q.1) : ROi l yX6_agree (wA yX6_agree cX6_agree 7 (some .int)) ({ frames := 3, cells := 0, slots := 0, locals := 72 }) D (cTys cI cT cN) (cW a r k cI cT cN xh xi xr pn pc rd B L q kq) [.ref (a 0), .int (nI i), .int y] (-101) := by
  refine go_start (by decide) (Nat.le_of_ble_eq_true rfl) ?_
  intro p e s m args below meth c ls F _ hB hl
  obtain ⟨hx, hb, hr, hlocks, hml, hown, hts⟩ := F
  obtain ⟨hP, hK⟩ := hB
  have hown : s.vm.findClass RX6 = some m.cls := hown
  have hl : lv_has ls 7 [(0, .ref (a 0)), (1, .int (nI i)), (2, .int y)] := hl
  have ht5 := hT.1
  have ht8 := hT.2.1
  have hok9 := hokz (by omega)
  refine lv_aload_n hx hb dX6_agree_0 rfl (lv_at hl 0 rfl) ?_
  refine va_get (D := D) (ci := 6) (v := .ref (r 0)) (C := RX6) (T := TX6) (N := 7) hx hb hts iX6 hown hK hP 0 rfl rfl 2 (by decide) (hts _ mg_153) (fun _ h9 => h9) rfl dX6_agree_1 ?_
  refine lv_iload_n hx hb dX6_agree_4 rfl (lv_at hl 1 rfl) ?_
  refine ro_qV (n := 1) (As := [.int (nI i)]) ⟨hx, hb, hml, hown, hts⟩ (c_X3_tapAt l D r cI cT cN q i (by omega) ht5) (cwV 1 hts (gV mg_290 mg_259 mg_260 mg_5 mg_261) rfl rfl rfl vd_X3_tapAt ⟨Nat.le_of_ble_eq_true rfl, Nat.le_of_ble_eq_true rfl⟩) (va_recv hK hP (ci := 3) (q0 := 7) rfl rfl) hK (cW_r hP) rfl hl.1 rfl (Nat.le_of_ble_eq_true rfl) dX6_agree_5 ⟨Nat.zero_le _, Nat.zero_le _⟩ ?_
  refine lv_astore_n (lv' := [(3, .ref (r (3 + i))), (0, .ref (a 0)), (1, .int (nI i)), (2, .int y)]) hx hb dX6_agree_8 rfl hl (by decide) rfl (fun ls hl => ?_)
  refine lv_aload_n hx hb dX6_agree_9 rfl (lv_at hl 1 rfl) ?_
  refine va_get (D := D) (ci := 6) (v := .ref (r 0)) (C := RX6) (T := TX6) (N := 7) hx hb hts iX6 hown hK hP 0 rfl rfl 2 (by decide) (hts _ mg_153) (fun _ h9 => h9) rfl dX6_agree_10 ?_
  refine lv_iload_n hx hb dX6_agree_13 rfl (lv_at hl 3 rfl) ?_
  refine ro_qV (n := 1) (As := [.int y]) ⟨hx, hb, hml, hown, hts⟩ (c_X3_tapOut l D r cI cT cN q y (inr_out oy) ht5) (cwV 1 hts (gV mg_290 mg_259 mg_260 mg_5 mg_261) rfl rfl rfl vd_X3_tapAt ⟨Nat.le_of_ble_eq_true rfl, Nat.le_of_ble_eq_true rfl⟩) (va_recv hK hP (ci := 3) (q0 := 7) rfl rfl) hK (cW_r hP) rfl hl.1 rfl (Nat.le_of_ble_eq_true rfl) dX6_agree_14 ⟨Nat.zero_le _, Nat.zero_le _⟩ ?_
  refine lv_astoreN (lv' := [(4, .null), (3, .ref (r (3 + i))), (0, .ref (a 0)), (1, .int (nI i)), (2, .int y)]) hx hb dX6_agree_17 hl (by decide) rfl (fun ls hl => ?_)
  refine lv_aload_n hx hb dX6_agree_19 rfl (lv_at hl 1 rfl) ?_
  refine lv_ifnull hx hb dX6_agree_20 ?_
  refine lv_aloadN hx hb dX6_agree_23 (lv_at hl 0 rfl) ?_
  refine lv_ifnullN (tgt := 33) hx hb dX6_agree_25 (by decide) ?_
  refine lv_bipush (v := (-101)) hx hb dX6_agree_33 (by decide) ?_
  exact ro_iret hx hb hr hlocks (rfl) dX6_agree_35

set_option maxHeartbeats 4000000 in
set_option maxRecDepth 100000 in
theorem c_X6_agree4 (l : Launch) (D : va_G) (a r k : Nat → Nat) (cI cT cN : ClassId) (xh xi xr pn : Nat) (pc : Nat → Int32) (rd : Nat × Nat × Nat) (B L : Nat → Int32) (q kq : RS) (b : Nat → Nat → Nat) (hS : SR b B L) (hokz : ¬ q.1 = 0 → hok b) (hT : Tok q) (i : Nat) (hi : i < q.1) (j : Nat) (hj : j < q.1) (hij : i = j) : ROi l yX6_agree (wA yX6_agree cX6_agree 7 (some .int)) ({ frames := 3, cells := 0, slots := 0, locals := 72 }) D (cTys cI cT cN) (cW a r k cI cT cN xh xi xr pn pc rd B L q kq) [.ref (a 0), .int (nI i), .int (nI j)] (-101) := by
  refine go_start (by decide) (Nat.le_of_ble_eq_true rfl) ?_
  intro p e s m args below meth c ls F _ hB hl
  obtain ⟨hx, hb, hr, hlocks, hml, hown, hts⟩ := F
  obtain ⟨hP, hK⟩ := hB
  have hown : s.vm.findClass RX6 = some m.cls := hown
  have hl : lv_has ls 7 [(0, .ref (a 0)), (1, .int (nI i)), (2, .int (nI j))] := hl
  have ht5 := hT.1
  have ht8 := hT.2.1
  obtain ⟨hk0, hv0, hw0, hp0⟩ := hT.2.2.1 i hi
  obtain ⟨hk0j, hv0j, hw0j, hp0j⟩ := hT.2.2.1 j hj
  have hok9 := hokz (by omega)
  refine lv_aload_n hx hb dX6_agree_0 rfl (lv_at hl 0 rfl) ?_
  refine va_get (D := D) (ci := 6) (v := .ref (r 0)) (C := RX6) (T := TX6) (N := 7) hx hb hts iX6 hown hK hP 0 rfl rfl 2 (by decide) (hts _ mg_153) (fun _ h9 => h9) rfl dX6_agree_1 ?_
  refine lv_iload_n hx hb dX6_agree_4 rfl (lv_at hl 1 rfl) ?_
  refine ro_qV (n := 1) (As := [.int (nI i)]) ⟨hx, hb, hml, hown, hts⟩ (c_X3_tapAt l D r cI cT cN q i (by omega) ht5) (cwV 1 hts (gV mg_290 mg_259 mg_260 mg_5 mg_261) rfl rfl rfl vd_X3_tapAt ⟨Nat.le_of_ble_eq_true rfl, Nat.le_of_ble_eq_true rfl⟩) (va_recv hK hP (ci := 3) (q0 := 7) rfl rfl) hK (cW_r hP) rfl hl.1 rfl (Nat.le_of_ble_eq_true rfl) dX6_agree_5 ⟨Nat.zero_le _, Nat.zero_le _⟩ ?_
  refine lv_astore_n (lv' := [(3, .ref (r (3 + i))), (0, .ref (a 0)), (1, .int (nI i)), (2, .int (nI j))]) hx hb dX6_agree_8 rfl hl (by decide) rfl (fun ls hl => ?_)
  refine lv_aload_n hx hb dX6_agree_9 rfl (lv_at hl 1 rfl) ?_
  refine va_get (D := D) (ci := 6) (v := .ref (r 0)) (C := RX6) (T := TX6) (N := 7) hx hb hts iX6 hown hK hP 0 rfl rfl 2 (by decide) (hts _ mg_153) (fun _ h9 => h9) rfl dX6_agree_10 ?_
  refine lv_iload_n hx hb dX6_agree_13 rfl (lv_at hl 3 rfl) ?_
  refine ro_qV (n := 1) (As := [.int (nI j)]) ⟨hx, hb, hml, hown, hts⟩ (c_X3_tapAt l D r cI cT cN q j (by omega) ht5) (cwV 1 hts (gV mg_290 mg_259 mg_260 mg_5 mg_261) rfl rfl rfl vd_X3_tapAt ⟨Nat.le_of_ble_eq_true rfl, Nat.le_of_ble_eq_true rfl⟩) (va_recv hK hP (ci := 3) (q0 := 7) rfl rfl) hK (cW_r hP) rfl hl.1 rfl (Nat.le_of_ble_eq_true rfl) dX6_agree_14 ⟨Nat.zero_le _, Nat.zero_le _⟩ ?_
  refine lv_astore (lv' := [(4, .ref (r (3 + j))), (3, .ref (r (3 + i))), (0, .ref (a 0)), (1, .int (nI i)), (2, .int (nI j))]) hx hb dX6_agree_17 hl (by decide) rfl (fun ls hl => ?_)
  refine lv_aload_n hx hb dX6_agree_19 rfl (lv_at hl 1 rfl) ?_
  refine lv_ifnull hx hb dX6_agree_20 ?_
  refine lv_aload hx hb dX6_agree_23 (lv_at hl 0 rfl) ?_
  refine lv_ifnull hx hb dX6_agree_25 ?_
  refine lv_iload_n hx hb dX6_agree_28 rfl (lv_at hl 3 rfl) ?_
  refine lv_iload_n hx hb dX6_agree_29 rfl (lv_at hl 4 rfl) ?_
  refine j_icmp_ne (tgt := 36) hx hb dX6_agree_30 (by decide) (nI_toInt (by omega)) (nI_toInt (by omega)) (fun c_1 => absurd c_1 (by omega)) (fun c_1 => ?_)
  refine lv_bipush (v := (-101)) hx hb dX6_agree_33 (by decide) ?_
  exact ro_iret hx hb hr hlocks (rfl) dX6_agree_35

set_option maxHeartbeats 4000000 in
set_option maxRecDepth 100000 in
theorem c_X6_agree5 (l : Launch) (D : va_G) (a r k : Nat → Nat) (cI cT cN : ClassId) (xh xi xr pn : Nat) (pc : Nat → Int32) (rd : Nat × Nat × Nat) (B L : Nat → Int32) (q kq : RS) (b : Nat → Nat → Nat) (hS : SR b B L) (hokz : ¬ q.1 = 0 → hok b) (hT : Tok q) (i : Nat) (hi : i < q.1) (j : Nat) (hj : j < q.1) (hij : ¬ i = j) : ROi l yX6_agree (wA yX6_agree cX6_agree 7 (some .int)) ({ frames := 3, cells := 0, slots := 0, locals := 72 }) D (cTys cI cT cN) (cW a r k cI cT cN xh xi xr pn pc rd B L q kq) [.ref (a 0), .int (nI i), .int (nI j)] (nI (cnt (agf b q.2.2.2.1 i j) 16)) := by
  refine go_start (by decide) (Nat.le_of_ble_eq_true rfl) ?_
  intro p e s m args below meth c ls F _ hB hl
  obtain ⟨hx, hb, hr, hlocks, hml, hown, hts⟩ := F
  obtain ⟨hP, hK⟩ := hB
  have hown : s.vm.findClass RX6 = some m.cls := hown
  have hl : lv_has ls 7 [(0, .ref (a 0)), (1, .int (nI i)), (2, .int (nI j))] := hl
  have ht5 := hT.1
  have ht8 := hT.2.1
  obtain ⟨hk0, hv0, hw0, hp0⟩ := hT.2.2.1 i hi
  obtain ⟨hk0j, hv0j, hw0j, hp0j⟩ := hT.2.2.1 j hj
  have hok9 := hokz (by omega)
  refine lv_aload_n hx hb dX6_agree_0 rfl (lv_at hl 0 rfl) ?_
  refine va_get (D := D) (ci := 6) (v := .ref (r 0)) (C := RX6) (T := TX6) (N := 7) hx hb hts iX6 hown hK hP 0 rfl rfl 2 (by decide) (hts _ mg_153) (fun _ h9 => h9) rfl dX6_agree_1 ?_
  refine lv_iload_n hx hb dX6_agree_4 rfl (lv_at hl 1 rfl) ?_
  refine ro_qV (n := 1) (As := [.int (nI i)]) ⟨hx, hb, hml, hown, hts⟩ (c_X3_tapAt l D r cI cT cN q i (by omega) ht5) (cwV 1 hts (gV mg_290 mg_259 mg_260 mg_5 mg_261) rfl rfl rfl vd_X3_tapAt ⟨Nat.le_of_ble_eq_true rfl, Nat.le_of_ble_eq_true rfl⟩) (va_recv hK hP (ci := 3) (q0 := 7) rfl rfl) hK (cW_r hP) rfl hl.1 rfl (Nat.le_of_ble_eq_true rfl) dX6_agree_5 ⟨Nat.zero_le _, Nat.zero_le _⟩ ?_
  refine lv_astore_n (lv' := [(3, .ref (r (3 + i))), (0, .ref (a 0)), (1, .int (nI i)), (2, .int (nI j))]) hx hb dX6_agree_8 rfl hl (by decide) rfl (fun ls hl => ?_)
  refine lv_aload_n hx hb dX6_agree_9 rfl (lv_at hl 1 rfl) ?_
  refine va_get (D := D) (ci := 6) (v := .ref (r 0)) (C := RX6) (T := TX6) (N := 7) hx hb hts iX6 hown hK hP 0 rfl rfl 2 (by decide) (hts _ mg_153) (fun _ h9 => h9) rfl dX6_agree_10 ?_
  refine lv_iload_n hx hb dX6_agree_13 rfl (lv_at hl 3 rfl) ?_
  refine ro_qV (n := 1) (As := [.int (nI j)]) ⟨hx, hb, hml, hown, hts⟩ (c_X3_tapAt l D r cI cT cN q j (by omega) ht5) (cwV 1 hts (gV mg_290 mg_259 mg_260 mg_5 mg_261) rfl rfl rfl vd_X3_tapAt ⟨Nat.le_of_ble_eq_true rfl, Nat.le_of_ble_eq_true rfl⟩) (va_recv hK hP (ci := 3) (q0 := 7) rfl rfl) hK (cW_r hP) rfl hl.1 rfl (Nat.le_of_ble_eq_true rfl) dX6_agree_14 ⟨Nat.zero_le _, Nat.zero_le _⟩ ?_
  refine lv_astore (lv' := [(4, .ref (r (3 + j))), (3, .ref (r (3 + i))), (0, .ref (a 0)), (1, .int (nI i)), (2, .int (nI j))]) hx hb dX6_agree_17 hl (by decide) rfl (fun ls hl => ?_)
  refine lv_aload_n hx hb dX6_agree_19 rfl (lv_at hl 1 rfl) ?_
  refine lv_ifnull hx hb dX6_agree_20 ?_
  refine lv_aload hx hb dX6_agree_23 (lv_at hl 0 rfl) ?_
  refine lv_ifnull hx hb dX6_agree_25 ?_
  refine lv_iload_n hx hb dX6_agree_28 rfl (lv_at hl 3 rfl) ?_
  refine lv_iload_n hx hb dX6_agree_29 rfl (lv_at hl 4 rfl) ?_
  refine j_icmp_ne (tgt := 36) hx hb dX6_agree_30 (by decide) (nI_toInt (by omega)) (nI_toInt (by omega)) (fun c_1 => ?_) (fun c_1 => absurd c_1 (by omega))
  refine lv_iconst (v := nI 0) hx hb dX6_agree_36 (by decide) ?_
  refine lv_istore (lv' := [(5, .int (nI 0)), (4, .ref (r (3 + j))), (3, .ref (r (3 + i))), (0, .ref (a 0)), (1, .int (nI i)), (2, .int (nI j))]) hx hb dX6_agree_37 hl (by decide) rfl (fun ls hl => ?_)
  refine lv_iconst (v := nI 0) hx hb dX6_agree_39 (by decide) ?_
  refine lv_istore (lv' := [(6, .int (nI 0)), (5, .int (nI 0)), (4, .ref (r (3 + j))), (3, .ref (r (3 + i))), (0, .ref (a 0)), (1, .int (nI i)), (2, .int (nI j))]) hx hb dX6_agree_40 hl (by decide) rfl (fun ls hl => ?_)
  have K_2 : ∀ n9 : Nat, ∀ (t : Nat) (n : Nat), n ≤ 16 → t = cnt (agf b q.2.2.2.1 i j) n → 16 - n < n9 → ∀ ls : Array Slot, lv_has ls 7 [(0, .ref (a 0)), (3, .ref (r (3 + i))), (4, .ref (r (3 + j))), (5, .int (nI t)), (6, .int (nI n))] → W p l e (headSpec (wA yX6_agree cX6_agree 7 (some .int)) ({ frames := 3, cells := 0, slots := 0, locals := 72 })).room s m args below meth c s.heap [] 0 0 (MQ below (vp_Si (fun z9 => z9 = nI (cnt (agf b q.2.2.2.1 i j) 16))) args s 0 0 (fun _ => False)) (F0 m 42 ls []) := by
    intro n9
    induction n9 with
    | zero => intros; omega
    | succ n9 ih_3 =>
      intro t n hn ht0 hn9 ls hl
      have hxl := cnt_le (agf b q.2.2.2.1 i j) n
      refine lv_iload hx hb dX6_agree_42 (lv_at hl 4 rfl) ?_
      refine lv_bipush (v := nI 16) hx hb dX6_agree_44 (by decide) ?_
      refine j_icmp_ge (tgt := 87) hx hb dX6_agree_46 (by decide) (nI_toInt (by omega)) (nI_toInt (by decide)) (fun c_4 => ?_) (fun c_4 => ?_)
      · have e9 : n = 16 := by omega
        refine lv_iload hx hb dX6_agree_87 (lv_at hl 3 rfl) ?_
        exact ro_iret hx hb hr hlocks (by rw [ht0, e9]) dX6_agree_89
      · refine lv_aload_n hx hb dX6_agree_49 rfl (lv_at hl 0 rfl) ?_
        refine lv_aload_n hx hb dX6_agree_50 rfl (lv_at hl 1 rfl) ?_
        refine lv_aload_n hx hb dX6_agree_51 rfl (lv_at hl 1 rfl) ?_
        refine va_get (D := D) (ci := 5) (v := .int (nI (q.2.2.2.1 i 3))) (C := RX5) (T := TX5) (N := 5) hx hb hts iX5 hown hK hP (10 + i) (cW_tap (by omega)) rfl 4 (by decide) (hts _ mg_92) (fun _ h9 => h9) rfl dX6_agree_52 ?_
        refine lv_iload hx hb dX6_agree_55 (lv_at hl 4 rfl) ?_
        refine n_iadd hx hb dX6_agree_57 ?_
        refine ro_iV (n := 2) (As := [.ref (r (3 + i)), .int (nI ((q.2.2.2.1 i 3) + n))]) ⟨hx, hb, hml, hown, hts⟩ (c_X6_dripOf l D a r k cI cT cN xh xi xr pn pc rd B L q kq b hS hok9 hT i (by omega) ((q.2.2.2.1 i 3) + n) (by omega)) (cwV 2 hts (gV mg_344 mg_346 mg_1011 mg_1 mg_347) rfl rfl rfl vd_X6_dripOf ⟨Nat.le_of_ble_eq_true rfl, Nat.le_of_ble_eq_true rfl⟩) (va_recv hK hP (ci := 6) (q0 := 0) rfl rfl) hK hP rfl hl.1 rfl (Nat.le_of_ble_eq_true rfl) dX6_agree_58 ⟨Nat.zero_le _, Nat.zero_le _⟩ ?_
        refine lv_aload_n hx hb dX6_agree_61 rfl (lv_at hl 0 rfl) ?_
        refine lv_aload hx hb dX6_agree_62 (lv_at hl 2 rfl) ?_
        refine lv_aload hx hb dX6_agree_64 (lv_at hl 2 rfl) ?_
        refine va_get (D := D) (ci := 5) (v := .int (nI (q.2.2.2.1 j 3))) (C := RX5) (T := TX5) (N := 5) hx hb hts iX5 hown hK hP (10 + j) (cW_tap (by omega)) rfl 4 (by decide) (hts _ mg_92) (fun _ h9 => h9) rfl dX6_agree_66 ?_
        refine lv_iload hx hb dX6_agree_69 (lv_at hl 4 rfl) ?_
        refine n_iadd hx hb dX6_agree_71 ?_
        refine ro_iV (n := 2) (As := [.ref (r (3 + j)), .int (nI ((q.2.2.2.1 j 3) + n))]) ⟨hx, hb, hml, hown, hts⟩ (c_X6_dripOf l D a r k cI cT cN xh xi xr pn pc rd B L q kq b hS hok9 hT j (by omega) ((q.2.2.2.1 j 3) + n) (by omega)) (cwV 2 hts (gV mg_344 mg_346 mg_1011 mg_1 mg_347) rfl rfl rfl vd_X6_dripOf ⟨Nat.le_of_ble_eq_true rfl, Nat.le_of_ble_eq_true rfl⟩) (va_recv hK hP (ci := 6) (q0 := 0) rfl rfl) hK hP rfl hl.1 rfl (Nat.le_of_ble_eq_true rfl) dX6_agree_72 ⟨Nat.zero_le _, Nat.zero_le _⟩ ?_
        have hd1 := sd_le hok9 (kd := q.2.2.2.1 i 0) (w := q.2.2.2.1 i 2) (n := q.2.2.2.1 i 3 + n) (v := q.2.2.2.1 i 1) (by omega)
        have hd2 := sd_le hok9 (kd := q.2.2.2.1 j 0) (w := q.2.2.2.1 j 2) (n := q.2.2.2.1 j 3 + n) (v := q.2.2.2.1 j 1) (by omega)
        refine j_icmp_ne (tgt := 81) hx hb dX6_agree_75 (by decide) (nI_toInt (by omega)) (nI_toInt (by omega)) (fun c_5 => ?_) (fun c_5 => ?_)
        · refine lv_iinc (v := nI (n + 1)) (lv' := [(6, .int (nI (n + 1))), (0, .ref (a 0)), (3, .ref (r (3 + i))), (4, .ref (r (3 + j))), (5, .int (nI t))]) hx hb dX6_agree_81 hl (k := 4) rfl (fr_inc1 _) (by decide) rfl (fun ls hl => ?_)
          refine lv_goto (tgt := 42) hx hb dX6_agree_84 (by decide) ?_
          exact ih_3 t (n + 1) (by omega) (by first | (rw [cnt_t hz, ht0]; done) | (rw [cnt_f (decide_eq_false (by unfold dpl; omega)), ht0]; done)) (by omega) _ (lv_sub hl [1, 2, 3, 4, 0] rfl)
        · have hz : (agf b q.2.2.2.1 i j) n = true := decide_eq_true (by unfold dpl; omega)
          refine lv_iinc (v := nI (t + 1)) (lv' := [(5, .int (nI (t + 1))), (0, .ref (a 0)), (3, .ref (r (3 + i))), (4, .ref (r (3 + j))), (6, .int (nI n))]) hx hb dX6_agree_78 hl (k := 3) rfl (fr_inc1 _) (by decide) rfl (fun ls hl => ?_)
          refine lv_iinc (v := nI (n + 1)) (lv' := [(6, .int (nI (n + 1))), (5, .int (nI (t + 1))), (0, .ref (a 0)), (3, .ref (r (3 + i))), (4, .ref (r (3 + j)))]) hx hb dX6_agree_81 hl (k := 4) rfl (fr_inc1 _) (by decide) rfl (fun ls hl => ?_)
          refine lv_goto (tgt := 42) hx hb dX6_agree_84 (by decide) ?_
          exact ih_3 (t + 1) (n + 1) (by omega) (by first | (rw [cnt_t hz, ht0]; done) | (rw [cnt_f (decide_eq_false (by unfold dpl; omega)), ht0]; done)) (by omega) _ (lv_sub hl [2, 3, 4, 1, 0] rfl)
  exact K_2 (16 - 0 + 1) 0 0 (by omega) (rfl) (Nat.lt_succ_self _) _ (lv_sub hl [4, 3, 2, 1, 0] rfl)

theorem c_X6_agree (l : Launch) (D : va_G) (a r k : Nat → Nat) (cI cT cN : ClassId) (xh xi xr pn : Nat) (pc : Nat → Int32) (rd : Nat × Nat × Nat) (B L : Nat → Int32) (q kq : RS) (b : Nat → Nat → Nat) (hS : SR b B L) (hokz : ¬ q.1 = 0 → hok b) (hT : Tok q) (x y : Int32) : ROi l yX6_agree (wA yX6_agree cX6_agree 7 (some .int)) ({ frames := 3, cells := 0, slots := 0, locals := 72 }) D (cTys cI cT cN) (cW a r k cI cT cN xh xi xr pn pc rd B L q kq) [.ref (a 0), .int x, .int y] (sp_agree b q x y) := by
  unfold sp_agree
  have h5 := hT.1
  by_cases hx : inr x 0 q.1
  · obtain ⟨i, hi, rfl⟩ := inr_nat hx (by omega)
    by_cases hy : inr y 0 q.1
    · obtain ⟨j, hj, rfl⟩ := inr_nat hy (by omega)
      rw [ti_nI (by omega), ti_nI (by omega)]
      by_cases hij : i = j
      · rw [if_neg (fun z => z.2.2 hij)]
        exact c_X6_agree4 l D a r k cI cT cN xh xi xr pn pc rd B L q kq b hS hokz hT i hi j hj hij
      · rw [if_pos ⟨hx, hy, hij⟩]
        exact c_X6_agree5 l D a r k cI cT cN xh xi xr pn pc rd B L q kq b hS hokz hT i hi j hj hij
    · rw [if_neg (fun z => hy z.2.1)]
      exact c_X6_agree3 l D a r k cI cT cN xh xi xr pn pc rd B L q kq b hS hokz hT i hi y hy
  · rw [if_neg (fun z => hx z.1)]
    by_cases hy : inr y 0 q.1
    · obtain ⟨j, hj, rfl⟩ := inr_nat hy (by omega)
      exact c_X6_agree2 l D a r k cI cT cN xh xi xr pn pc rd B L q kq b hS hokz hT x hx j hj
    · exact c_X6_agree1 l D a r k cI cT cN xh xi xr pn pc rd B L q kq b hS hokz hT x y hx hy

set_option maxHeartbeats 4000000 in
set_option maxRecDepth 100000 in
theorem c_X6_nearX (l : Launch) (D : va_G) (a r k : Nat → Nat) (cI cT cN : ClassId) (xh xi xr pn : Nat) (pc : Nat → Int32) (rd : Nat × Nat × Nat) (B L : Nat → Int32) (q kq : RS) (b : Nat → Nat → Nat) (hS : SR b B L) (hokz : ¬ q.1 = 0 → hok b) (hT : Tok q) (x y w : Int32) (ox : ¬ inr x 0 q.1) : ROi l yX6_near (wA yX6_near cX6_near 5 (some .int)) ({ frames := 4, cells := 0, slots := 0, locals := 101 }) D (cTys cI cT cN) (cW a r k cI cT cN xh xi xr pn pc rd B L q kq) [.ref (a 0), .int x, .int y, .int w] (-101) := by
  refine go_start (by decide) (Nat.le_of_ble_eq_true rfl) ?_
  intro p e s m args below meth c ls F _ hB hl
  obtain ⟨hx, hb, hr, hlocks, hml, hown, hts⟩ := F
  obtain ⟨hP, hK⟩ := hB
  have hown : s.vm.findClass RX6 = some m.cls := hown
  have hl : lv_has ls 5 [(0, .ref (a 0)), (1, .int x), (2, .int y), (3, .int w)] := hl
  have ht5 := hT.1
  have ht8 := hT.2.1
  refine lv_aload_n hx hb dX6_near_0 rfl (lv_at hl 0 rfl) ?_
  refine va_get (D := D) (ci := 6) (v := .ref (r 0)) (C := RX6) (T := TX6) (N := 7) hx hb hts iX6 hown hK hP 0 rfl rfl 2 (by decide) (hts _ mg_153) (fun _ h9 => h9) rfl dX6_near_1 ?_
  refine lv_iload_n hx hb dX6_near_4 rfl (lv_at hl 1 rfl) ?_
  refine ro_qV (n := 1) (As := [.int x]) ⟨hx, hb, hml, hown, hts⟩ (c_X3_tapOut l D r cI cT cN q x (inr_out ox) ht5) (cwV 1 hts (gV mg_290 mg_259 mg_260 mg_5 mg_261) rfl rfl rfl vd_X3_tapAt ⟨Nat.le_of_ble_eq_true rfl, Nat.le_of_ble_eq_true rfl⟩) (va_recv hK hP (ci := 3) (q0 := 7) rfl rfl) hK (cW_r hP) rfl hl.1 rfl (Nat.le_of_ble_eq_true rfl) dX6_near_5 ⟨Nat.zero_le _, Nat.zero_le _⟩ ?_
  refine lv_astoreN (lv' := [(4, .null), (0, .ref (a 0)), (1, .int x), (2, .int y), (3, .int w)]) hx hb dX6_near_8 hl (by decide) rfl (fun ls hl => ?_)
  refine lv_aloadN hx hb dX6_near_10 (lv_at hl 0 rfl) ?_
  refine lv_ifnonnullN hx hb dX6_near_12 ?_
  refine lv_bipush (v := (-101)) hx hb dX6_near_15 (by decide) ?_
  exact ro_iret hx hb hr hlocks (rfl) dX6_near_17

set_option maxHeartbeats 4000000 in
set_option maxRecDepth 100000 in
theorem c_X6_nearY (l : Launch) (D : va_G) (a r k : Nat → Nat) (cI cT cN : ClassId) (xh xi xr pn : Nat) (pc : Nat → Int32) (rd : Nat × Nat × Nat) (B L : Nat → Int32) (q kq : RS) (b : Nat → Nat → Nat) (hS : SR b B L) (hokz : ¬ q.1 = 0 → hok b) (hT : Tok q) (i : Nat) (hi : i < q.1) (y w : Int32) (oy : ¬ inr y 0 4) : ROi l yX6_near (wA yX6_near cX6_near 5 (some .int)) ({ frames := 4, cells := 0, slots := 0, locals := 101 }) D (cTys cI cT cN) (cW a r k cI cT cN xh xi xr pn pc rd B L q kq) [.ref (a 0), .int (nI i), .int y, .int w] (-102) := by
  refine go_start (by decide) (Nat.le_of_ble_eq_true rfl) ?_
  intro p e s m args below meth c ls F _ hB hl
  obtain ⟨hx, hb, hr, hlocks, hml, hown, hts⟩ := F
  obtain ⟨hP, hK⟩ := hB
  have hown : s.vm.findClass RX6 = some m.cls := hown
  have hl : lv_has ls 5 [(0, .ref (a 0)), (1, .int (nI i)), (2, .int y), (3, .int w)] := hl
  have ht5 := hT.1
  have ht8 := hT.2.1
  have hok9 := hokz (by omega)
  refine lv_aload_n hx hb dX6_near_0 rfl (lv_at hl 0 rfl) ?_
  refine va_get (D := D) (ci := 6) (v := .ref (r 0)) (C := RX6) (T := TX6) (N := 7) hx hb hts iX6 hown hK hP 0 rfl rfl 2 (by decide) (hts _ mg_153) (fun _ h9 => h9) rfl dX6_near_1 ?_
  refine lv_iload_n hx hb dX6_near_4 rfl (lv_at hl 1 rfl) ?_
  refine ro_qV (n := 1) (As := [.int (nI i)]) ⟨hx, hb, hml, hown, hts⟩ (c_X3_tapAt l D r cI cT cN q i (by omega) ht5) (cwV 1 hts (gV mg_290 mg_259 mg_260 mg_5 mg_261) rfl rfl rfl vd_X3_tapAt ⟨Nat.le_of_ble_eq_true rfl, Nat.le_of_ble_eq_true rfl⟩) (va_recv hK hP (ci := 3) (q0 := 7) rfl rfl) hK (cW_r hP) rfl hl.1 rfl (Nat.le_of_ble_eq_true rfl) dX6_near_5 ⟨Nat.zero_le _, Nat.zero_le _⟩ ?_
  refine lv_astore (lv' := [(4, .ref (r (3 + i))), (0, .ref (a 0)), (1, .int (nI i)), (2, .int y), (3, .int w)]) hx hb dX6_near_8 hl (by decide) rfl (fun ls hl => ?_)
  refine lv_aload hx hb dX6_near_10 (lv_at hl 0 rfl) ?_
  refine lv_ifnonnull (tgt := 18) hx hb dX6_near_12 (by decide) ?_
  refine lv_iload_n hx hb dX6_near_18 rfl (lv_at hl 3 rfl) ?_
  refine ro_iS (n := 1) (As := [.int y]) ⟨hx, hb, hml, hown, hts⟩ (c_X6_isSayingF l D y (inr_out oy)) (cwS 1 hts (gS mg_270 mg_221 mg_1 mg_222) rfl rfl rfl vd_X6_isSaying ⟨Nat.le_of_ble_eq_true rfl, Nat.le_of_ble_eq_true rfl⟩)  (hK.sub [] rfl) (fun k q h => by simp at h) rfl hl.1 rfl (Nat.le_of_ble_eq_true rfl) dX6_near_19 ⟨Nat.zero_le _, Nat.zero_le _⟩ ?_
  refine j_if_eq (tgt := 34) hx hb dX6_near_22 (by decide) (nI_toInt (by decide)) (fun c_1 => ?_) (fun c_1 => absurd c_1 (by omega))
  refine lv_bipush (v := (-102)) hx hb dX6_near_34 (by decide) ?_
  exact ro_iret hx hb hr hlocks (rfl) dX6_near_36

set_option maxHeartbeats 4000000 in
set_option maxRecDepth 100000 in
theorem c_X6_nearO (l : Launch) (D : va_G) (a r k : Nat → Nat) (cI cT cN : ClassId) (xh xi xr pn : Nat) (pc : Nat → Int32) (rd : Nat × Nat × Nat) (B L : Nat → Int32) (q kq : RS) (b : Nat → Nat → Nat) (hS : SR b B L) (hokz : ¬ q.1 = 0 → hok b) (hT : Tok q) (i : Nat) (hi : i < q.1) (v : Nat) (hv : v < 4) (w : Int32) (ow : ¬ inr w 0 2) : ROi l yX6_near (wA yX6_near cX6_near 5 (some .int)) ({ frames := 4, cells := 0, slots := 0, locals := 101 }) D (cTys cI cT cN) (cW a r k cI cT cN xh xi xr pn pc rd B L q kq) [.ref (a 0), .int (nI i), .int (nI v), .int w] (-102) := by
  refine go_start (by decide) (Nat.le_of_ble_eq_true rfl) ?_
  intro p e s m args below meth c ls F _ hB hl
  obtain ⟨hx, hb, hr, hlocks, hml, hown, hts⟩ := F
  obtain ⟨hP, hK⟩ := hB
  have hown : s.vm.findClass RX6 = some m.cls := hown
  have hl : lv_has ls 5 [(0, .ref (a 0)), (1, .int (nI i)), (2, .int (nI v)), (3, .int w)] := hl
  have ht5 := hT.1
  have ht8 := hT.2.1
  have hw7 := inr_out ow
  have hok9 := hokz (by omega)
  refine lv_aload_n hx hb dX6_near_0 rfl (lv_at hl 0 rfl) ?_
  refine va_get (D := D) (ci := 6) (v := .ref (r 0)) (C := RX6) (T := TX6) (N := 7) hx hb hts iX6 hown hK hP 0 rfl rfl 2 (by decide) (hts _ mg_153) (fun _ h9 => h9) rfl dX6_near_1 ?_
  refine lv_iload_n hx hb dX6_near_4 rfl (lv_at hl 1 rfl) ?_
  refine ro_qV (n := 1) (As := [.int (nI i)]) ⟨hx, hb, hml, hown, hts⟩ (c_X3_tapAt l D r cI cT cN q i (by omega) ht5) (cwV 1 hts (gV mg_290 mg_259 mg_260 mg_5 mg_261) rfl rfl rfl vd_X3_tapAt ⟨Nat.le_of_ble_eq_true rfl, Nat.le_of_ble_eq_true rfl⟩) (va_recv hK hP (ci := 3) (q0 := 7) rfl rfl) hK (cW_r hP) rfl hl.1 rfl (Nat.le_of_ble_eq_true rfl) dX6_near_5 ⟨Nat.zero_le _, Nat.zero_le _⟩ ?_
  refine lv_astore (lv' := [(4, .ref (r (3 + i))), (0, .ref (a 0)), (1, .int (nI i)), (2, .int (nI v)), (3, .int w)]) hx hb dX6_near_8 hl (by decide) rfl (fun ls hl => ?_)
  refine lv_aload hx hb dX6_near_10 (lv_at hl 0 rfl) ?_
  refine lv_ifnonnull (tgt := 18) hx hb dX6_near_12 (by decide) ?_
  refine lv_iload_n hx hb dX6_near_18 rfl (lv_at hl 3 rfl) ?_
  refine ro_iS (n := 1) (As := [.int (nI v)]) ⟨hx, hb, hml, hown, hts⟩ (c_X6_isSayingT l D (nI v) (by rw [nI_toInt (by omega)]; omega)) (cwS 1 hts (gS mg_270 mg_221 mg_1 mg_222) rfl rfl rfl vd_X6_isSaying ⟨Nat.le_of_ble_eq_true rfl, Nat.le_of_ble_eq_true rfl⟩)  (hK.sub [] rfl) (fun k q h => by simp at h) rfl hl.1 rfl (Nat.le_of_ble_eq_true rfl) dX6_near_19 ⟨Nat.zero_le _, Nat.zero_le _⟩ ?_
  refine j_if_eq (tgt := 34) hx hb dX6_near_22 (by decide) (nI_toInt (by decide)) (fun c_1 => absurd c_1 (by omega)) (fun c_1 => ?_)
  refine lv_iload_n hx hb dX6_near_25 rfl (lv_at hl 4 rfl) ?_
  refine j_if_lt (tgt := 34) hx hb dX6_near_26 (by decide) rfl (fun c_2 => ?_) (fun c_2 => ?_)
  · refine lv_bipush (v := (-102)) hx hb dX6_near_34 (by decide) ?_
    exact ro_iret hx hb hr hlocks (rfl) dX6_near_36
  · refine lv_iload_n hx hb dX6_near_29 rfl (lv_at hl 4 rfl) ?_
    refine lv_iconst (v := nI 1) hx hb dX6_near_30 (by decide) ?_
    refine j_icmp_le (tgt := 37) hx hb dX6_near_31 (by decide) rfl (nI_toInt (by decide)) (fun c_3 => absurd c_3 (by omega)) (fun c_3 => ?_)
    refine lv_bipush (v := (-102)) hx hb dX6_near_34 (by decide) ?_
    exact ro_iret hx hb hr hlocks (rfl) dX6_near_36

set_option maxHeartbeats 4000000 in
set_option maxRecDepth 100000 in
theorem c_X6_nearI (l : Launch) (D : va_G) (a r k : Nat → Nat) (cI cT cN : ClassId) (xh xi xr pn : Nat) (pc : Nat → Int32) (rd : Nat × Nat × Nat) (B L : Nat → Int32) (q kq : RS) (b : Nat → Nat → Nat) (hS : SR b B L) (hokz : ¬ q.1 = 0 → hok b) (hT : Tok q) (i : Nat) (hi : i < q.1) (v : Nat) (hv : v < 4) (w : Nat) (hw : w < 2) : ROi l yX6_near (wA yX6_near cX6_near 5 (some .int)) ({ frames := 4, cells := 0, slots := 0, locals := 101 }) D (cTys cI cT cN) (cW a r k cI cT cN xh xi xr pn pc rd B L q kq) [.ref (a 0), .int (nI i), .int (nI v), .int (nI w)] (nI (ner b (q.2.2.2.1 i 0) (q.2.2.2.1 i 1) v w)) := by
  refine go_start (by decide) (Nat.le_of_ble_eq_true rfl) ?_
  intro p e s m args below meth c ls F _ hB hl
  obtain ⟨hx, hb, hr, hlocks, hml, hown, hts⟩ := F
  obtain ⟨hP, hK⟩ := hB
  have hown : s.vm.findClass RX6 = some m.cls := hown
  have hl : lv_has ls 5 [(0, .ref (a 0)), (1, .int (nI i)), (2, .int (nI v)), (3, .int (nI w))] := hl
  have ht5 := hT.1
  have ht8 := hT.2.1
  have hok9 := hokz (by omega)
  refine lv_aload_n hx hb dX6_near_0 rfl (lv_at hl 0 rfl) ?_
  refine va_get (D := D) (ci := 6) (v := .ref (r 0)) (C := RX6) (T := TX6) (N := 7) hx hb hts iX6 hown hK hP 0 rfl rfl 2 (by decide) (hts _ mg_153) (fun _ h9 => h9) rfl dX6_near_1 ?_
  refine lv_iload_n hx hb dX6_near_4 rfl (lv_at hl 1 rfl) ?_
  refine ro_qV (n := 1) (As := [.int (nI i)]) ⟨hx, hb, hml, hown, hts⟩ (c_X3_tapAt l D r cI cT cN q i (by omega) ht5) (cwV 1 hts (gV mg_290 mg_259 mg_260 mg_5 mg_261) rfl rfl rfl vd_X3_tapAt ⟨Nat.le_of_ble_eq_true rfl, Nat.le_of_ble_eq_true rfl⟩) (va_recv hK hP (ci := 3) (q0 := 7) rfl rfl) hK (cW_r hP) rfl hl.1 rfl (Nat.le_of_ble_eq_true rfl) dX6_near_5 ⟨Nat.zero_le _, Nat.zero_le _⟩ ?_
  refine lv_astore (lv' := [(4, .ref (r (3 + i))), (0, .ref (a 0)), (1, .int (nI i)), (2, .int (nI v)), (3, .int (nI w))]) hx hb dX6_near_8 hl (by decide) rfl (fun ls hl => ?_)
  refine lv_aload hx hb dX6_near_10 (lv_at hl 0 rfl) ?_
  refine lv_ifnonnull (tgt := 18) hx hb dX6_near_12 (by decide) ?_
  refine lv_iload_n hx hb dX6_near_18 rfl (lv_at hl 3 rfl) ?_
  refine ro_iS (n := 1) (As := [.int (nI v)]) ⟨hx, hb, hml, hown, hts⟩ (c_X6_isSayingT l D (nI v) (by rw [nI_toInt (by omega)]; omega)) (cwS 1 hts (gS mg_270 mg_221 mg_1 mg_222) rfl rfl rfl vd_X6_isSaying ⟨Nat.le_of_ble_eq_true rfl, Nat.le_of_ble_eq_true rfl⟩)  (hK.sub [] rfl) (fun k q h => by simp at h) rfl hl.1 rfl (Nat.le_of_ble_eq_true rfl) dX6_near_19 ⟨Nat.zero_le _, Nat.zero_le _⟩ ?_
  refine j_if_eq (tgt := 34) hx hb dX6_near_22 (by decide) (nI_toInt (by decide)) (fun c_1 => absurd c_1 (by omega)) (fun c_1 => ?_)
  refine lv_iload_n hx hb dX6_near_25 rfl (lv_at hl 4 rfl) ?_
  refine j_if_lt (tgt := 34) hx hb dX6_near_26 (by decide) (nI_toInt (by omega)) (fun c_2 => absurd c_2 (by omega)) (fun c_2 => ?_)
  refine lv_iload_n hx hb dX6_near_29 rfl (lv_at hl 4 rfl) ?_
  refine lv_iconst (v := nI 1) hx hb dX6_near_30 (by decide) ?_
  refine j_icmp_le (tgt := 37) hx hb dX6_near_31 (by decide) (nI_toInt (by omega)) (nI_toInt (by decide)) (fun c_3 => ?_) (fun c_3 => absurd c_3 (by omega))
  refine lv_aload_n hx hb dX6_near_37 rfl (lv_at hl 1 rfl) ?_
  refine lv_aload hx hb dX6_near_38 (lv_at hl 0 rfl) ?_
  refine lv_iload_n hx hb dX6_near_40 rfl (lv_at hl 3 rfl) ?_
  refine lv_iload_n hx hb dX6_near_41 rfl (lv_at hl 4 rfl) ?_
  refine ro_iV (n := 3) (As := [.ref (r (3 + i)), .int (nI v), .int (nI w)]) ⟨hx, hb, hml, hown, hts⟩ (c_X6_nearOf l D a r k cI cT cN xh xi xr pn pc rd B L q kq b hS hok9 hT i hi v hv w hw) (cwV 3 hts (gV mg_368 mg_370 mg_1012 mg_1 mg_371) rfl rfl rfl vd_X6_nearOf ⟨Nat.le_of_ble_eq_true rfl, Nat.le_of_ble_eq_true rfl⟩) (va_recv hK hP (ci := 6) (q0 := 0) rfl rfl) hK hP rfl hl.1 rfl (Nat.le_of_ble_eq_true rfl) dX6_near_42 ⟨Nat.zero_le _, Nat.zero_le _⟩ ?_
  exact ro_iret hx hb hr hlocks (rfl) dX6_near_45

theorem c_X6_near (l : Launch) (D : va_G) (a r k : Nat → Nat) (cI cT cN : ClassId) (xh xi xr pn : Nat) (pc : Nat → Int32) (rd : Nat × Nat × Nat) (B L : Nat → Int32) (q kq : RS) (b : Nat → Nat → Nat) (hS : SR b B L) (hokz : ¬ q.1 = 0 → hok b) (hT : Tok q) (x y w : Int32) : ROi l yX6_near (wA yX6_near cX6_near 5 (some .int)) ({ frames := 4, cells := 0, slots := 0, locals := 101 }) D (cTys cI cT cN) (cW a r k cI cT cN xh xi xr pn pc rd B L q kq) [.ref (a 0), .int x, .int y, .int w] (sp_near b q x y w) := by
  unfold sp_near
  have h5 := hT.1
  by_cases hx : inr x 0 q.1
  · obtain ⟨i, hi, rfl⟩ := inr_nat hx (by omega)
    rw [if_pos hx, ti_nI (by omega)]
    by_cases hy : inr y 0 4
    · obtain ⟨v, hv, rfl⟩ := inr_nat (n := 4) hy (by decide)
      by_cases hw : inr w 0 2
      · obtain ⟨j, hj, rfl⟩ := inr_nat (n := 2) hw (by decide)
        rw [if_pos ⟨hy, hw⟩, ti_nI (by omega), ti_nI (by omega)]
        exact c_X6_nearI l D a r k cI cT cN xh xi xr pn pc rd B L q kq b hS hokz hT i hi v hv j hj
      · rw [if_neg (fun z => hw z.2)]
        exact c_X6_nearO l D a r k cI cT cN xh xi xr pn pc rd B L q kq b hS hokz hT i hi v hv w hw
    · rw [if_neg (fun z => hy z.1)]
      exact c_X6_nearY l D a r k cI cT cN xh xi xr pn pc rd B L q kq b hS hokz hT i hi y w hy
  · rw [if_neg hx]
    exact c_X6_nearX l D a r k cI cT cN xh xi xr pn pc rd B L q kq b hS hokz hT x y w hx

set_option maxHeartbeats 4000000 in
set_option maxRecDepth 100000 in
theorem c_X6_saying0 (l : Launch) (D : va_G) (a r k : Nat → Nat) (cI cT cN : ClassId) (xi xr pn : Nat) (pc : Nat → Int32) (rd : Nat × Nat × Nat) (B L : Nat → Int32) (q kq : RS) (b : Nat → Nat → Nat) (hS : SR b B L) (x w : Int32) : ROi l yX6_saying (wA yX6_saying cX6_saying 3 (some .int)) ({ frames := 1, cells := 0, slots := 0, locals := 23 }) D (cTys cI cT cN) (cW a r k cI cT cN 0 xi xr pn pc rd B L q kq) [.ref (a 0), .int x, .int w] (-101) := by
  refine go_start (by decide) (Nat.le_of_ble_eq_true rfl) ?_
  intro p e s m args below meth c ls F _ hB hl
  obtain ⟨hx, hb, hr, hlocks, hml, hown, hts⟩ := F
  obtain ⟨hP, hK⟩ := hB
  have hown : s.vm.findClass RX6 = some m.cls := hown
  have hl : lv_has ls 3 [(0, .ref (a 0)), (1, .int x), (2, .int w)] := hl
  refine lv_aload_n hx hb dX6_saying_0 rfl (lv_at hl 0 rfl) ?_
  refine va_get (D := D) (ci := 6) (v := .int (nI 0)) (C := RX6) (T := TX6) (N := 7) hx hb hts iX6 hown hK hP 0 rfl rfl 4 (by decide) (hts _ mg_155) (fun _ h9 => h9) rfl dX6_saying_1 ?_
  refine j_if_eq (tgt := 14) hx hb dX6_saying_4 (by decide) (nI_toInt (by decide)) (fun c_1 => ?_) (fun c_1 => absurd c_1 (by omega))
  refine lv_bipush (v := (-101)) hx hb dX6_saying_14 (by decide) ?_
  exact ro_iret hx hb hr hlocks (rfl) dX6_saying_16

set_option maxHeartbeats 4000000 in
set_option maxRecDepth 100000 in
theorem c_X6_sayingX (l : Launch) (D : va_G) (a r k : Nat → Nat) (cI cT cN : ClassId) (xi xr pn : Nat) (pc : Nat → Int32) (rd : Nat × Nat × Nat) (B L : Nat → Int32) (q kq : RS) (b : Nat → Nat → Nat) (hS : SR b B L) (x w : Int32) (ox : ¬ inr x 0 4) : ROi l yX6_saying (wA yX6_saying cX6_saying 3 (some .int)) ({ frames := 1, cells := 0, slots := 0, locals := 23 }) D (cTys cI cT cN) (cW a r k cI cT cN 1 xi xr pn pc rd B L q kq) [.ref (a 0), .int x, .int w] (-101) := by
  refine go_start (by decide) (Nat.le_of_ble_eq_true rfl) ?_
  intro p e s m args below meth c ls F _ hB hl
  obtain ⟨hx, hb, hr, hlocks, hml, hown, hts⟩ := F
  obtain ⟨hP, hK⟩ := hB
  have hown : s.vm.findClass RX6 = some m.cls := hown
  have hl : lv_has ls 3 [(0, .ref (a 0)), (1, .int x), (2, .int w)] := hl
  refine lv_aload_n hx hb dX6_saying_0 rfl (lv_at hl 0 rfl) ?_
  refine va_get (D := D) (ci := 6) (v := .int (nI 1)) (C := RX6) (T := TX6) (N := 7) hx hb hts iX6 hown hK hP 0 rfl rfl 4 (by decide) (hts _ mg_155) (fun _ h9 => h9) rfl dX6_saying_1 ?_
  refine j_if_eq (tgt := 14) hx hb dX6_saying_4 (by decide) (nI_toInt (by decide)) (fun c_1 => absurd c_1 (by omega)) (fun c_1 => ?_)
  refine lv_iload_n hx hb dX6_saying_7 rfl (lv_at hl 1 rfl) ?_
  refine ro_iS (n := 1) (As := [.int x]) ⟨hx, hb, hml, hown, hts⟩ (c_X6_isSayingF l D x (inr_out ox)) (cwS 1 hts (gS mg_270 mg_221 mg_1 mg_222) rfl rfl rfl vd_X6_isSaying ⟨Nat.le_of_ble_eq_true rfl, Nat.le_of_ble_eq_true rfl⟩)  (hK.sub [] rfl) (fun k q h => by simp at h) rfl hl.1 rfl (Nat.le_of_ble_eq_true rfl) dX6_saying_8 ⟨Nat.zero_le _, Nat.zero_le _⟩ ?_
  refine j_if_ne (tgt := 17) hx hb dX6_saying_11 (by decide) (nI_toInt (by decide)) (fun c_2 => absurd c_2 (by omega)) (fun c_2 => ?_)
  refine lv_bipush (v := (-101)) hx hb dX6_saying_14 (by decide) ?_
  exact ro_iret hx hb hr hlocks (rfl) dX6_saying_16

set_option maxHeartbeats 4000000 in
set_option maxRecDepth 100000 in
theorem c_X6_sayingL (l : Launch) (D : va_G) (a r k : Nat → Nat) (cI cT cN : ClassId) (xi xr pn : Nat) (pc : Nat → Int32) (rd : Nat × Nat × Nat) (B L : Nat → Int32) (q kq : RS) (b : Nat → Nat → Nat) (hS : SR b B L) (v : Nat) (hv : v < 4) : ROi l yX6_saying (wA yX6_saying cX6_saying 3 (some .int)) ({ frames := 1, cells := 0, slots := 0, locals := 23 }) D (cTys cI cT cN) (cW a r k cI cT cN 1 xi xr pn pc rd B L q kq) [.ref (a 0), .int (nI v), .int (nI 0)] (nI (b v 0)) := by
  refine go_start (by decide) (Nat.le_of_ble_eq_true rfl) ?_
  intro p e s m args below meth c ls F _ hB hl
  obtain ⟨hx, hb, hr, hlocks, hml, hown, hts⟩ := F
  obtain ⟨hP, hK⟩ := hB
  have hown : s.vm.findClass RX6 = some m.cls := hown
  have hl : lv_has ls 3 [(0, .ref (a 0)), (1, .int (nI v)), (2, .int (nI 0))] := hl
  refine lv_aload_n hx hb dX6_saying_0 rfl (lv_at hl 0 rfl) ?_
  refine va_get (D := D) (ci := 6) (v := .int (nI 1)) (C := RX6) (T := TX6) (N := 7) hx hb hts iX6 hown hK hP 0 rfl rfl 4 (by decide) (hts _ mg_155) (fun _ h9 => h9) rfl dX6_saying_1 ?_
  refine j_if_eq (tgt := 14) hx hb dX6_saying_4 (by decide) (nI_toInt (by decide)) (fun c_1 => absurd c_1 (by omega)) (fun c_1 => ?_)
  refine lv_iload_n hx hb dX6_saying_7 rfl (lv_at hl 1 rfl) ?_
  refine ro_iS (n := 1) (As := [.int (nI v)]) ⟨hx, hb, hml, hown, hts⟩ (c_X6_isSayingT l D (nI v) (by rw [nI_toInt (by omega)]; omega)) (cwS 1 hts (gS mg_270 mg_221 mg_1 mg_222) rfl rfl rfl vd_X6_isSaying ⟨Nat.le_of_ble_eq_true rfl, Nat.le_of_ble_eq_true rfl⟩)  (hK.sub [] rfl) (fun k q h => by simp at h) rfl hl.1 rfl (Nat.le_of_ble_eq_true rfl) dX6_saying_8 ⟨Nat.zero_le _, Nat.zero_le _⟩ ?_
  refine j_if_ne (tgt := 17) hx hb dX6_saying_11 (by decide) (nI_toInt (by decide)) (fun c_2 => ?_) (fun c_2 => absurd c_2 (by omega))
  refine lv_iload_n hx hb dX6_saying_17 rfl (lv_at hl 2 rfl) ?_
  refine j_if_ne (tgt := 30) hx hb dX6_saying_18 (by decide) (nI_toInt (by decide)) (fun c_3 => absurd c_3 (by omega)) (fun c_3 => ?_)
  refine lv_aload_n hx hb dX6_saying_21 rfl (lv_at hl 0 rfl) ?_
  refine va_get (D := D) (ci := 6) (v := .ref (a 4)) (C := RX6) (T := TX6) (N := 7) hx hb hts iX6 hown hK hP 0 rfl rfl 1 (by decide) (hts _ mg_152) (fun _ h9 => h9) rfl dX6_saying_22 ?_
  refine lv_iload_n hx hb dX6_saying_25 rfl (lv_at hl 1 rfl) ?_
  refine ro_iV (n := 1) (As := [.int (nI v)]) ⟨hx, hb, hml, hown, hts⟩ (c_X4_lengthOf l D a cI cT cN B L b hS v hv) (cwV 1 hts (gV mg_271 mg_272 mg_273 mg_4 mg_274) rfl rfl rfl vd_X4_lengthOf ⟨Nat.le_of_ble_eq_true rfl, Nat.le_of_ble_eq_true rfl⟩) (va_recv hK hP (ci := 4) (q0 := 4) rfl rfl) hK (cW_s hP) rfl hl.1 rfl (Nat.le_of_ble_eq_true rfl) dX6_saying_26 ⟨Nat.zero_le _, Nat.zero_le _⟩ ?_
  exact ro_iret hx hb hr hlocks (rfl) dX6_saying_29

set_option maxHeartbeats 4000000 in
set_option maxRecDepth 100000 in
theorem c_X6_sayingO (l : Launch) (D : va_G) (a r k : Nat → Nat) (cI cT cN : ClassId) (xi xr pn : Nat) (pc : Nat → Int32) (rd : Nat × Nat × Nat) (B L : Nat → Int32) (q kq : RS) (b : Nat → Nat → Nat) (hS : SR b B L) (v : Nat) (hv : v < 4) (w : Int32) (hw0 : ¬ w.toInt = 0) (ow : ¬ inr w 10 14) : ROi l yX6_saying (wA yX6_saying cX6_saying 3 (some .int)) ({ frames := 1, cells := 0, slots := 0, locals := 23 }) D (cTys cI cT cN) (cW a r k cI cT cN 1 xi xr pn pc rd B L q kq) [.ref (a 0), .int (nI v), .int w] (-102) := by
  refine go_start (by decide) (Nat.le_of_ble_eq_true rfl) ?_
  intro p e s m args below meth c ls F _ hB hl
  obtain ⟨hx, hb, hr, hlocks, hml, hown, hts⟩ := F
  obtain ⟨hP, hK⟩ := hB
  have hown : s.vm.findClass RX6 = some m.cls := hown
  have hl : lv_has ls 3 [(0, .ref (a 0)), (1, .int (nI v)), (2, .int w)] := hl
  have hw7 := inr_out ow
  refine lv_aload_n hx hb dX6_saying_0 rfl (lv_at hl 0 rfl) ?_
  refine va_get (D := D) (ci := 6) (v := .int (nI 1)) (C := RX6) (T := TX6) (N := 7) hx hb hts iX6 hown hK hP 0 rfl rfl 4 (by decide) (hts _ mg_155) (fun _ h9 => h9) rfl dX6_saying_1 ?_
  refine j_if_eq (tgt := 14) hx hb dX6_saying_4 (by decide) (nI_toInt (by decide)) (fun c_1 => absurd c_1 (by omega)) (fun c_1 => ?_)
  refine lv_iload_n hx hb dX6_saying_7 rfl (lv_at hl 1 rfl) ?_
  refine ro_iS (n := 1) (As := [.int (nI v)]) ⟨hx, hb, hml, hown, hts⟩ (c_X6_isSayingT l D (nI v) (by rw [nI_toInt (by omega)]; omega)) (cwS 1 hts (gS mg_270 mg_221 mg_1 mg_222) rfl rfl rfl vd_X6_isSaying ⟨Nat.le_of_ble_eq_true rfl, Nat.le_of_ble_eq_true rfl⟩)  (hK.sub [] rfl) (fun k q h => by simp at h) rfl hl.1 rfl (Nat.le_of_ble_eq_true rfl) dX6_saying_8 ⟨Nat.zero_le _, Nat.zero_le _⟩ ?_
  refine j_if_ne (tgt := 17) hx hb dX6_saying_11 (by decide) (nI_toInt (by decide)) (fun c_2 => ?_) (fun c_2 => absurd c_2 (by omega))
  refine lv_iload_n hx hb dX6_saying_17 rfl (lv_at hl 2 rfl) ?_
  refine j_if_ne (tgt := 30) hx hb dX6_saying_18 (by decide) rfl (fun c_3 => ?_) (fun c_3 => absurd c_3 (by omega))
  refine lv_iload_n hx hb dX6_saying_30 rfl (lv_at hl 2 rfl) ?_
  refine lv_bipush (v := nI 10) hx hb dX6_saying_31 (by decide) ?_
  refine j_icmp_lt (tgt := 42) hx hb dX6_saying_33 (by decide) rfl (nI_toInt (by decide)) (fun c_4 => ?_) (fun c_4 => ?_)
  · refine lv_bipush (v := (-102)) hx hb dX6_saying_42 (by decide) ?_
    exact ro_iret hx hb hr hlocks (rfl) dX6_saying_44
  · refine lv_iload_n hx hb dX6_saying_36 rfl (lv_at hl 2 rfl) ?_
    refine lv_bipush (v := nI 14) hx hb dX6_saying_37 (by decide) ?_
    refine j_icmp_lt (tgt := 45) hx hb dX6_saying_39 (by decide) rfl (nI_toInt (by decide)) (fun c_5 => absurd c_5 (by omega)) (fun c_5 => ?_)
    refine lv_bipush (v := (-102)) hx hb dX6_saying_42 (by decide) ?_
    exact ro_iret hx hb hr hlocks (rfl) dX6_saying_44

set_option maxHeartbeats 4000000 in
set_option maxRecDepth 100000 in
theorem c_X6_sayingI (l : Launch) (D : va_G) (a r k : Nat → Nat) (cI cT cN : ClassId) (xi xr pn : Nat) (pc : Nat → Int32) (rd : Nat × Nat × Nat) (B L : Nat → Int32) (q kq : RS) (b : Nat → Nat → Nat) (hS : SR b B L) (v : Nat) (hv : v < 4) (hv1 : 0 < b v 0) (j : Nat) (hj : j < 4) : ROi l yX6_saying (wA yX6_saying cX6_saying 3 (some .int)) ({ frames := 1, cells := 0, slots := 0, locals := 23 }) D (cTys cI cT cN) (cW a r k cI cT cN 1 xi xr pn pc rd B L q kq) [.ref (a 0), .int (nI v), .int (nI (10 + j))] (bta b v j) := by
  refine go_start (by decide) (Nat.le_of_ble_eq_true rfl) ?_
  intro p e s m args below meth c ls F _ hB hl
  obtain ⟨hx, hb, hr, hlocks, hml, hown, hts⟩ := F
  obtain ⟨hP, hK⟩ := hB
  have hown : s.vm.findClass RX6 = some m.cls := hown
  have hl : lv_has ls 3 [(0, .ref (a 0)), (1, .int (nI v)), (2, .int (nI (10 + j)))] := hl
  refine lv_aload_n hx hb dX6_saying_0 rfl (lv_at hl 0 rfl) ?_
  refine va_get (D := D) (ci := 6) (v := .int (nI 1)) (C := RX6) (T := TX6) (N := 7) hx hb hts iX6 hown hK hP 0 rfl rfl 4 (by decide) (hts _ mg_155) (fun _ h9 => h9) rfl dX6_saying_1 ?_
  refine j_if_eq (tgt := 14) hx hb dX6_saying_4 (by decide) (nI_toInt (by decide)) (fun c_1 => absurd c_1 (by omega)) (fun c_1 => ?_)
  refine lv_iload_n hx hb dX6_saying_7 rfl (lv_at hl 1 rfl) ?_
  refine ro_iS (n := 1) (As := [.int (nI v)]) ⟨hx, hb, hml, hown, hts⟩ (c_X6_isSayingT l D (nI v) (by rw [nI_toInt (by omega)]; omega)) (cwS 1 hts (gS mg_270 mg_221 mg_1 mg_222) rfl rfl rfl vd_X6_isSaying ⟨Nat.le_of_ble_eq_true rfl, Nat.le_of_ble_eq_true rfl⟩)  (hK.sub [] rfl) (fun k q h => by simp at h) rfl hl.1 rfl (Nat.le_of_ble_eq_true rfl) dX6_saying_8 ⟨Nat.zero_le _, Nat.zero_le _⟩ ?_
  refine j_if_ne (tgt := 17) hx hb dX6_saying_11 (by decide) (nI_toInt (by decide)) (fun c_2 => ?_) (fun c_2 => absurd c_2 (by omega))
  refine lv_iload_n hx hb dX6_saying_17 rfl (lv_at hl 2 rfl) ?_
  refine j_if_ne (tgt := 30) hx hb dX6_saying_18 (by decide) (nI_toInt (by omega)) (fun c_3 => ?_) (fun c_3 => absurd c_3 (by omega))
  refine lv_iload_n hx hb dX6_saying_30 rfl (lv_at hl 2 rfl) ?_
  refine lv_bipush (v := nI 10) hx hb dX6_saying_31 (by decide) ?_
  refine j_icmp_lt (tgt := 42) hx hb dX6_saying_33 (by decide) (nI_toInt (by omega)) (nI_toInt (by decide)) (fun c_4 => absurd c_4 (by omega)) (fun c_4 => ?_)
  refine lv_iload_n hx hb dX6_saying_36 rfl (lv_at hl 2 rfl) ?_
  refine lv_bipush (v := nI 14) hx hb dX6_saying_37 (by decide) ?_
  refine j_icmp_lt (tgt := 45) hx hb dX6_saying_39 (by decide) (nI_toInt (by omega)) (nI_toInt (by decide)) (fun c_5 => ?_) (fun c_5 => absurd c_5 (by omega))
  refine lv_aload_n hx hb dX6_saying_45 rfl (lv_at hl 0 rfl) ?_
  refine va_get (D := D) (ci := 6) (v := .ref (a 4)) (C := RX6) (T := TX6) (N := 7) hx hb hts iX6 hown hK hP 0 rfl rfl 1 (by decide) (hts _ mg_152) (fun _ h9 => h9) rfl dX6_saying_46 ?_
  refine lv_iload_n hx hb dX6_saying_49 rfl (lv_at hl 1 rfl) ?_
  refine lv_iload_n hx hb dX6_saying_50 rfl (lv_at hl 2 rfl) ?_
  refine lv_bipush (v := nI 10) hx hb dX6_saying_51 (by decide) ?_
  refine n_isub hx hb dX6_saying_53 (by omega) ?_
  refine ro_iV (n := 2) (As := [.int (nI v), .int (nI ((10 + j) - 10))]) ⟨hx, hb, hml, hown, hts⟩ (c_X4_beatOf l D a cI cT cN B L v (10 + j - 10) hv (by omega)) (cwV 2 hts (gV mg_275 mg_276 mg_277 mg_4 mg_278) rfl rfl rfl vd_X4_beatOf ⟨Nat.le_of_ble_eq_true rfl, Nat.le_of_ble_eq_true rfl⟩) (va_recv hK hP (ci := 4) (q0 := 4) rfl rfl) hK (cW_s hP) rfl hl.1 rfl (Nat.le_of_ble_eq_true rfl) dX6_saying_54 ⟨Nat.zero_le _, Nat.zero_le _⟩ ?_
  exact ro_iret hx hb hr hlocks (by rw [Nat.add_sub_cancel_left]; exact (hS v hv).2 hv1 j hj) dX6_saying_57

theorem c_X6_saying (l : Launch) (D : va_G) (a r k : Nat → Nat) (cI cT cN : ClassId) (xh xi xr pn : Nat) (pc : Nat → Int32) (rd : Nat × Nat × Nat) (B L : Nat → Int32) (q kq : RS) (b : Nat → Nat → Nat) (hS : SR b B L) (hokz : ¬ q.1 = 0 → hok b) (hH : xh = if q.1 = 0 then 0 else 1) (x w : Int32) : ROi l yX6_saying (wA yX6_saying cX6_saying 3 (some .int)) ({ frames := 1, cells := 0, slots := 0, locals := 23 }) D (cTys cI cT cN) (cW a r k cI cT cN xh xi xr pn pc rd B L q kq) [.ref (a 0), .int x, .int w] (sp_saying b q.1 x w) := by
  unfold sp_saying
  by_cases h0 : q.1 = 0
  · rw [if_pos h0] at hH
    subst hH
    rw [if_neg (fun z => z.1 h0)]
    exact c_X6_saying0 l D a r k cI cT cN xi xr pn pc rd B L q kq b hS x w
  · rw [if_neg h0] at hH
    subst hH
    by_cases hx : inr x 0 4
    · obtain ⟨v, hv, rfl⟩ := inr_nat (n := 4) hx (by decide)
      rw [if_pos ⟨h0, hx⟩, ti_nI (by omega)]
      by_cases hw0 : w.toInt = 0
      · rw [if_pos hw0]
        have hw1 : w = nI 0 := Int32.toInt_inj.mp hw0
        subst hw1
        exact c_X6_sayingL l D a r k cI cT cN xi xr pn pc rd B L q kq b hS v hv
      · rw [if_neg hw0]
        by_cases hw : inr w 10 14
        · obtain ⟨j, hj, rfl⟩ : ∃ j : Nat, j < 14 ∧ w = nI j := inr_nat (n := 14) ⟨by have := hw.1; omega, hw.2⟩ (by decide)
          have h10 : 10 ≤ j := by have := hw.1; rw [nI_toInt (by omega)] at this; omega
          rw [if_pos hw, ti_nI (by omega)]
          have := c_X6_sayingI l D a r k cI cT cN xi xr pn pc rd B L q kq b hS v hv (hokz h0 v hv).1 (j - 10) (by omega)
          rw [show 10 + (j - 10) = j by omega] at this
          exact this
        · rw [if_neg hw]
          exact c_X6_sayingO l D a r k cI cT cN xi xr pn pc rd B L q kq b hS v hv w hw0 hw
    · rw [if_neg (fun z => hx z.2)]
      exact c_X6_sayingX l D a r k cI cT cN xi xr pn pc rd B L q kq b hS x w hx
