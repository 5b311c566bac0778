set_option maxHeartbeats 4000000 in
set_option maxRecDepth 100000 in
theorem c_X5_become (l : Launch) (D : va_G) (cI cT cN : ClassId) (sz h : Nat) (nm : Int32) (x0 x1 x2 x3 y0 y1 y2 y3 : Int32) : WV l yX5_become (wA yX5_become cX5_become 5 none) ({ frames := 0, cells := 0, slots := 0, locals := 0 }) D (cTys cI cT cN) [((h : Nat), (.inr (5, [.int nm, .int x0, .int x1, .int x2, .int x3]) : va_E))] sz [.ref h, .int y0, .int y1, .int y2, .int y3] (fun _ : Unit => True) (fun _ : Unit => [((h : Nat), (.inr (5, [.int nm, .int y0, .int y1, .int y2, .int y3]) : va_E))]) := by
  refine rw_startV (by decide) (Nat.le_of_ble_eq_true rfl) ?_
  intro p e s m args below meth c ls A F hP hK hD hA hS hl
  obtain ⟨hx, hb, hr, hlocks, hml, hown, hts⟩ := F
  have hown : s.vm.findClass RX5 = some m.cls := hown
  have hl : lv_has ls 5 [(0, .ref h), (1, .int y0), (2, .int y1), (3, .int y2), (4, .int y3)] := hl
  refine lv_aload_n hx hb dX5_become_0 rfl (lv_at hl 0 rfl) ?_
  refine lv_iload_n hx hb dX5_become_1 rfl (lv_at hl 1 rfl) ?_
  refine va_put (D := D) (ci := 5) (v := .int y0) (ty := .int) (C := RX5) (T := TX5) (N := 5) hx hb hts iX5 tyX5 tyX5_ok nmX5 hown hK hP hD hS 0 rfl rfl 1 (by decide) (hts _ mg_81) (fun _ h9 => h9) rfl (tyX5_ok 1 (by decide)) rfl rfl (Nat.le_of_ble_eq_true rfl) dX5_become_2 (fun H locs hP hD hS => ?_)
  have hP : va_P D vwCl ([((h : Nat), (.inr (5, [.int nm, .int y0, .int x1, .int x2, .int x3]) : va_E))]) H := hP
  have hD : va_D A ([((h : Nat), (.inr (5, [.int nm, .int y0, .int x1, .int x2, .int x3]) : va_E))]) := hD
  refine lv_aload_n hx hb dX5_become_5 rfl (lv_at hl 0 rfl) ?_
  refine lv_iload_n hx hb dX5_become_6 rfl (lv_at hl 2 rfl) ?_
  refine va_put (D := D) (ci := 5) (v := .int y1) (ty := .int) (C := RX5) (T := TX5) (N := 5) hx hb hts iX5 tyX5 tyX5_ok nmX5 hown hK hP hD hS 0 rfl rfl 2 (by decide) (hts _ mg_84) (fun _ h9 => h9) rfl (tyX5_ok 2 (by decide)) rfl rfl (Nat.le_of_ble_eq_true rfl) dX5_become_7 (fun H locs hP hD hS => ?_)
  have hP : va_P D vwCl ([((h : Nat), (.inr (5, [.int nm, .int y0, .int y1, .int x2, .int x3]) : va_E))]) H := hP
  have hD : va_D A ([((h : Nat), (.inr (5, [.int nm, .int y0, .int y1, .int x2, .int x3]) : va_E))]) := hD
  refine lv_aload_n hx hb dX5_become_10 rfl (lv_at hl 0 rfl) ?_
  refine lv_iload_n hx hb dX5_become_11 rfl (lv_at hl 3 rfl) ?_
  refine va_put (D := D) (ci := 5) (v := .int y2) (ty := .int) (C := RX5) (T := TX5) (N := 5) hx hb hts iX5 tyX5 tyX5_ok nmX5 hown hK hP hD hS 0 rfl rfl 3 (by decide) (hts _ mg_87) (fun _ h9 => h9) rfl (tyX5_ok 3 (by decide)) rfl rfl (Nat.le_of_ble_eq_true rfl) dX5_become_12 (fun H locs hP hD hS => ?_)
  have hP : va_P D vwCl ([((h : Nat), (.inr (5, [.int nm, .int y0, .int y1, .int y2, .int x3]) : va_E))]) H := hP
  have hD : va_D A ([((h : Nat), (.inr (5, [.int nm, .int y0, .int y1, .int y2, .int x3]) : va_E))]) := hD
  refine lv_aload_n hx hb dX5_become_15 rfl (lv_at hl 0 rfl) ?_
  refine lv_iload hx hb dX5_become_16 (lv_at hl 4 rfl) ?_
  refine va_put (D := D) (ci := 5) (v := .int y3) (ty := .int) (C := RX5) (T := TX5) (N := 5) hx hb hts iX5 tyX5 tyX5_ok nmX5 hown hK hP hD hS 0 rfl rfl 4 (by decide) (hts _ mg_90) (fun _ h9 => h9) rfl (tyX5_ok 4 (by decide)) rfl rfl (Nat.le_of_ble_eq_true rfl) dX5_become_18 (fun H locs hP hD hS => ?_)
  have hP : va_P D vwCl ([((h : Nat), (.inr (5, [.int nm, .int y0, .int y1, .int y2, .int y3]) : va_E))]) H := hP
  have hD : va_D A ([((h : Nat), (.inr (5, [.int nm, .int y0, .int y1, .int y2, .int y3]) : va_E))]) := hD
  exact rw_vret (wp := (fun _ : Unit => [((h : Nat), (.inr (5, [.int nm, .int y0, .int y1, .int y2, .int y3]) : va_E))])) (post := (fun _ : Unit => True)) () hx hb hr hlocks hK hP hD hS (rfl) (trivial) dX5_become_21

set_option maxHeartbeats 4000000 in
set_option maxRecDepth 100000 in
theorem c_X0_become (l : Launch) (D : va_G) (cI cT cN : ClassId) (sz h : Nat) (x0 x1 x2 x3 y0 y1 y2 y3 : Int32) : WV l yX0_become (wA yX0_become cX0_become 5 none) ({ frames := 0, cells := 0, slots := 0, locals := 0 }) D (cTys cI cT cN) [((h : Nat), (.inr (0, [.int x0, .int x1, .int x2, .int x3]) : va_E))] sz [.ref h, .int y0, .int y1, .int y2, .int y3] (fun _ : Unit => True) (fun _ : Unit => [((h : Nat), (.inr (0, [.int y0, .int y1, .int y2, .int y3]) : va_E))]) := by
  refine rw_startV (by decide) (Nat.le_of_ble_eq_true rfl) ?_
  intro p e s m args below meth c ls A F hP hK hD hA hS hl
  obtain ⟨hx, hb, hr, hlocks, hml, hown, hts⟩ := F
  have hown : s.vm.findClass RX0 = some m.cls := hown
  have hl : lv_has ls 5 [(0, .ref h), (1, .int y0), (2, .int y1), (3, .int y2), (4, .int y3)] := hl
  refine lv_aload_n hx hb dX0_become_0 rfl (lv_at hl 0 rfl) ?_
  refine lv_iload_n hx hb dX0_become_1 rfl (lv_at hl 1 rfl) ?_
  refine va_put (D := D) (ci := 0) (v := .int y0) (ty := .int) (C := RX0) (T := TX0) (N := 4) hx hb hts iX0 tyX0 tyX0_ok nmX0 hown hK hP hD hS 0 rfl rfl 0 (by decide) (hts _ mg_111) (fun _ h9 => h9) rfl (tyX0_ok 0 (by decide)) rfl rfl (Nat.le_of_ble_eq_true rfl) dX0_become_2 (fun H locs hP hD hS => ?_)
  have hP : va_P D vwCl ([((h : Nat), (.inr (0, [.int y0, .int x1, .int x2, .int x3]) : va_E))]) H := hP
  have hD : va_D A ([((h : Nat), (.inr (0, [.int y0, .int x1, .int x2, .int x3]) : va_E))]) := hD
  refine lv_aload_n hx hb dX0_become_5 rfl (lv_at hl 0 rfl) ?_
  refine lv_iload_n hx hb dX0_become_6 rfl (lv_at hl 2 rfl) ?_
  refine va_put (D := D) (ci := 0) (v := .int y1) (ty := .int) (C := RX0) (T := TX0) (N := 4) hx hb hts iX0 tyX0 tyX0_ok nmX0 hown hK hP hD hS 0 rfl rfl 1 (by decide) (hts _ mg_114) (fun _ h9 => h9) rfl (tyX0_ok 1 (by decide)) rfl rfl (Nat.le_of_ble_eq_true rfl) dX0_become_7 (fun H locs hP hD hS => ?_)
  have hP : va_P D vwCl ([((h : Nat), (.inr (0, [.int y0, .int y1, .int x2, .int x3]) : va_E))]) H := hP
  have hD : va_D A ([((h : Nat), (.inr (0, [.int y0, .int y1, .int x2, .int x3]) : va_E))]) := hD
  refine lv_aload_n hx hb dX0_become_10 rfl (lv_at hl 0 rfl) ?_
  refine lv_iload_n hx hb dX0_become_11 rfl (lv_at hl 3 rfl) ?_
  refine va_put (D := D) (ci := 0) (v := .int y2) (ty := .int) (C := RX0) (T := TX0) (N := 4) hx hb hts iX0 tyX0 tyX0_ok nmX0 hown hK hP hD hS 0 rfl rfl 2 (by decide) (hts _ mg_117) (fun _ h9 => h9) rfl (tyX0_ok 2 (by decide)) rfl rfl (Nat.le_of_ble_eq_true rfl) dX0_become_12 (fun H locs hP hD hS => ?_)
  have hP : va_P D vwCl ([((h : Nat), (.inr (0, [.int y0, .int y1, .int y2, .int x3]) : va_E))]) H := hP
  have hD : va_D A ([((h : Nat), (.inr (0, [.int y0, .int y1, .int y2, .int x3]) : va_E))]) := hD
  refine lv_aload_n hx hb dX0_become_15 rfl (lv_at hl 0 rfl) ?_
  refine lv_iload hx hb dX0_become_16 (lv_at hl 4 rfl) ?_
  refine va_put (D := D) (ci := 0) (v := .int y3) (ty := .int) (C := RX0) (T := TX0) (N := 4) hx hb hts iX0 tyX0 tyX0_ok nmX0 hown hK hP hD hS 0 rfl rfl 3 (by decide) (hts _ mg_120) (fun _ h9 => h9) rfl (tyX0_ok 3 (by decide)) rfl rfl (Nat.le_of_ble_eq_true rfl) dX0_become_18 (fun H locs hP hD hS => ?_)
  have hP : va_P D vwCl ([((h : Nat), (.inr (0, [.int y0, .int y1, .int y2, .int y3]) : va_E))]) H := hP
  have hD : va_D A ([((h : Nat), (.inr (0, [.int y0, .int y1, .int y2, .int y3]) : va_E))]) := hD
  exact rw_vret (wp := (fun _ : Unit => [((h : Nat), (.inr (0, [.int y0, .int y1, .int y2, .int y3]) : va_E))])) (post := (fun _ : Unit => True)) () hx hb hr hlocks hK hP hD hS (rfl) (trivial) dX0_become_21

set_option maxHeartbeats 4000000 in
set_option maxRecDepth 100000 in
theorem c_X3_tapAt (l : Launch) (D : va_G) (r : Nat → Nat) (cI cT cN : ClassId) (q : RS) (i : Nat) (hi : i < q.1) (h5 : q.1 ≤ 5) : ROq l yX3_tapAt (wA yX3_tapAt cX3_tapAt 2 (Option.some (FieldType.object "DripSayings$Tap"))) ({ frames := 0, cells := 0, slots := 0, locals := 0 }) D (cTys cI cT cN) (rW r cT cN q) [.ref (r 0), .int (nI i)] (some (r (3 + i))) := by
  refine go_start (by decide) (Nat.le_of_ble_eq_true rfl) ?_
  intro p e s m args below meth c ls F _ hB hl
  obtain ⟨hx, hb, hr, hlocks, hml, hown, hts⟩ := F
  obtain ⟨hP, hK⟩ := hB
  have hown : s.vm.findClass RX3 = some m.cls := hown
  have hl : lv_has ls 2 [(0, .ref (r 0)), (1, .int (nI i))] := hl
  refine lv_iload_n hx hb dX3_tapAt_0 rfl (lv_at hl 1 rfl) ?_
  refine j_if_lt (tgt := 30) hx hb dX3_tapAt_1 (by decide) (nI_toInt (by omega)) (fun c_1 => absurd c_1 (by omega)) (fun c_1 => ?_)
  refine lv_iload_n hx hb dX3_tapAt_4 rfl (lv_at hl 1 rfl) ?_
  refine lv_aload_n hx hb dX3_tapAt_5 rfl (lv_at hl 0 rfl) ?_
  refine va_get (D := D) (ci := 3) (v := .int (nI q.1)) (C := RX3) (T := TX3) (N := 5) hx hb hts iX3 hown hK hP 0 rfl rfl 2 (by decide) (hts _ mg_134) (fun _ h9 => h9) rfl dX3_tapAt_6 ?_
  refine j_icmp_ge (tgt := 30) hx hb dX3_tapAt_9 (by decide) (nI_toInt (by omega)) (nI_toInt (by omega)) (fun c_2 => absurd c_2 (by omega)) (fun c_2 => ?_)
  refine lv_iload_n hx hb dX3_tapAt_12 rfl (lv_at hl 1 rfl) ?_
  refine lv_aload_n hx hb dX3_tapAt_13 rfl (lv_at hl 0 rfl) ?_
  refine va_get (D := D) (ci := 3) (v := .ref (r 1)) (C := RX3) (T := TX3) (N := 5) hx hb hts iX3 hown hK hP 0 rfl rfl 0 (by decide) (hts _ mg_132) (fun _ h9 => h9) rfl dX3_tapAt_14 ?_
  refine va_alen (v := nI 5) hx hb hK hP 1 1 rfl rfl rfl dX3_tapAt_17 ?_
  refine j_icmp_ge (tgt := 30) hx hb dX3_tapAt_18 (by decide) (nI_toInt (by omega)) (nI_toInt (by decide)) (fun c_3 => absurd c_3 (by omega)) (fun c_3 => ?_)
  refine lv_aload_n hx hb dX3_tapAt_21 rfl (lv_at hl 0 rfl) ?_
  refine va_get (D := D) (ci := 3) (v := .ref (r 1)) (C := RX3) (T := TX3) (N := 5) hx hb hts iX3 hown hK hP 0 rfl rfl 0 (by decide) (hts _ mg_132) (fun _ h9 => h9) rfl dX3_tapAt_22 ?_
  refine lv_iload_n hx hb dX3_tapAt_25 rfl (lv_at hl 1 rfl) ?_
  refine n_aldq hx hb hK hP 1 1 rfl rfl (by omega) (by decide) (v := .ref (r (3 + i))) (rfl) dX3_tapAt_26 ?_
  refine lv_goto (tgt := 31) hx hb dX3_tapAt_27 (by decide) ?_
  exact ro_aret hx hb hr hlocks (rfl) dX3_tapAt_31

set_option maxHeartbeats 4000000 in
set_option maxRecDepth 100000 in
theorem c_X3_tapOut (l : Launch) (D : va_G) (r : Nat → Nat) (cI cT cN : ClassId) (q : RS) (x : Int32) (hx9 : x.toInt < 0 ∨ (q.1 : Int) ≤ x.toInt) (h5 : q.1 ≤ 5) : ROq l yX3_tapAt (wA yX3_tapAt cX3_tapAt 2 (Option.some (FieldType.object "DripSayings$Tap"))) ({ frames := 0, cells := 0, slots := 0, locals := 0 }) D (cTys cI cT cN) (rW r cT cN q) [.ref (r 0), .int x] none := by
  refine go_start (by decide) (Nat.le_of_ble_eq_true rfl) ?_
  intro p e s m args below meth c ls F _ hB hl
  obtain ⟨hx, hb, hr, hlocks, hml, hown, hts⟩ := F
  obtain ⟨hP, hK⟩ := hB
  have hown : s.vm.findClass RX3 = some m.cls := hown
  have hl : lv_has ls 2 [(0, .ref (r 0)), (1, .int x)] := hl
  refine lv_iload_n hx hb dX3_tapAt_0 rfl (lv_at hl 1 rfl) ?_
  refine j_if_lt (tgt := 30) hx hb dX3_tapAt_1 (by decide) rfl (fun c_1 => ?_) (fun c_1 => ?_)
  · refine lv_null hx hb dX3_tapAt_30 ?_
    exact ro_aret hx hb hr hlocks (rfl) dX3_tapAt_31
  · refine lv_iload_n hx hb dX3_tapAt_4 rfl (lv_at hl 1 rfl) ?_
    refine lv_aload_n hx hb dX3_tapAt_5 rfl (lv_at hl 0 rfl) ?_
    refine va_get (D := D) (ci := 3) (v := .int (nI q.1)) (C := RX3) (T := TX3) (N := 5) hx hb hts iX3 hown hK hP 0 rfl rfl 2 (by decide) (hts _ mg_134) (fun _ h9 => h9) rfl dX3_tapAt_6 ?_
    refine j_icmp_ge (tgt := 30) hx hb dX3_tapAt_9 (by decide) rfl (nI_toInt (by omega)) (fun c_2 => ?_) (fun c_2 => absurd c_2 (by omega))
    refine lv_null hx hb dX3_tapAt_30 ?_
    exact ro_aret hx hb hr hlocks (rfl) dX3_tapAt_31

set_option maxHeartbeats 4000000 in
set_option maxRecDepth 100000 in
theorem c_X3_noteAt (l : Launch) (D : va_G) (r : Nat → Nat) (cI cT cN : ClassId) (q : RS) (i : Nat) (hi : i < q.2.1) (h5 : q.2.1 ≤ 8) : ROq l yX3_noteAt (wA yX3_noteAt cX3_noteAt 2 (Option.some (FieldType.object "DripSayings$Note"))) ({ frames := 0, cells := 0, slots := 0, locals := 0 }) D (cTys cI cT cN) (rW r cT cN q) [.ref (r 0), .int (nI i)] (some (r (8 + i))) := by
  refine go_start (by decide) (Nat.le_of_ble_eq_true rfl) ?_
  intro p e s m args below meth c ls F _ hB hl
  obtain ⟨hx, hb, hr, hlocks, hml, hown, hts⟩ := F
  obtain ⟨hP, hK⟩ := hB
  have hown : s.vm.findClass RX3 = some m.cls := hown
  have hl : lv_has ls 2 [(0, .ref (r 0)), (1, .int (nI i))] := hl
  refine lv_iload_n hx hb dX3_noteAt_0 rfl (lv_at hl 1 rfl) ?_
  refine j_if_lt (tgt := 30) hx hb dX3_noteAt_1 (by decide) (nI_toInt (by omega)) (fun c_1 => absurd c_1 (by omega)) (fun c_1 => ?_)
  refine lv_iload_n hx hb dX3_noteAt_4 rfl (lv_at hl 1 rfl) ?_
  refine lv_aload_n hx hb dX3_noteAt_5 rfl (lv_at hl 0 rfl) ?_
  refine va_get (D := D) (ci := 3) (v := .int (nI q.2.1)) (C := RX3) (T := TX3) (N := 5) hx hb hts iX3 hown hK hP 0 rfl rfl 3 (by decide) (hts _ mg_136) (fun _ h9 => h9) rfl dX3_noteAt_6 ?_
  refine j_icmp_ge (tgt := 30) hx hb dX3_noteAt_9 (by decide) (nI_toInt (by omega)) (nI_toInt (by omega)) (fun c_2 => absurd c_2 (by omega)) (fun c_2 => ?_)
  refine lv_iload_n hx hb dX3_noteAt_12 rfl (lv_at hl 1 rfl) ?_
  refine lv_aload_n hx hb dX3_noteAt_13 rfl (lv_at hl 0 rfl) ?_
  refine va_get (D := D) (ci := 3) (v := .ref (r 2)) (C := RX3) (T := TX3) (N := 5) hx hb hts iX3 hown hK hP 0 rfl rfl 1 (by decide) (hts _ mg_133) (fun _ h9 => h9) rfl dX3_noteAt_14 ?_
  refine va_alen (v := nI 8) hx hb hK hP 2 2 rfl rfl rfl dX3_noteAt_17 ?_
  refine j_icmp_ge (tgt := 30) hx hb dX3_noteAt_18 (by decide) (nI_toInt (by omega)) (nI_toInt (by decide)) (fun c_3 => absurd c_3 (by omega)) (fun c_3 => ?_)
  refine lv_aload_n hx hb dX3_noteAt_21 rfl (lv_at hl 0 rfl) ?_
  refine va_get (D := D) (ci := 3) (v := .ref (r 2)) (C := RX3) (T := TX3) (N := 5) hx hb hts iX3 hown hK hP 0 rfl rfl 1 (by decide) (hts _ mg_133) (fun _ h9 => h9) rfl dX3_noteAt_22 ?_
  refine lv_iload_n hx hb dX3_noteAt_25 rfl (lv_at hl 1 rfl) ?_
  refine n_aldq hx hb hK hP 2 2 rfl rfl (by omega) (by decide) (v := .ref (r (8 + i))) (rfl) dX3_noteAt_26 ?_
  refine lv_goto (tgt := 31) hx hb dX3_noteAt_27 (by decide) ?_
  exact ro_aret hx hb hr hlocks (rfl) dX3_noteAt_31

set_option maxHeartbeats 4000000 in
set_option maxRecDepth 100000 in
theorem c_X3_washerCount (l : Launch) (D : va_G) (r : Nat → Nat) (cI cT cN : ClassId) (q : RS) (h5 : q.1 ≤ 5) : ROi l yX3_washerCount (wA yX3_washerCount cX3_washerCount 4 (some .int)) ({ frames := 1, cells := 0, slots := 0, locals := 21 }) D (cTys cI cT cN) (rW r cT cN q) [.ref (r 0)] (nI (smu (fun i => q.2.2.2.1 i 2) q.1)) := by
  refine go_start (by decide) (Nat.le_of_ble_eq_true rfl) ?_
  intro p e s m args below meth c ls F _ hB hl
  obtain ⟨hx, hb, hr, hlocks, hml, hown, hts⟩ := F
  obtain ⟨hP, hK⟩ := hB
  have hown : s.vm.findClass RX3 = some m.cls := hown
  have hl : lv_has ls 4 [(0, .ref (r 0))] := hl
  refine lv_iconst (v := nI 0) hx hb dX3_washerCount_0 (by decide) ?_
  refine lv_istore_n (lv' := [(1, .int (nI 0)), (0, .ref (r 0))]) hx hb dX3_washerCount_1 rfl hl (by decide) rfl (fun ls hl => ?_)
  refine lv_iconst (v := nI 0) hx hb dX3_washerCount_2 (by decide) ?_
  refine lv_istore_n (lv' := [(2, .int (nI 0)), (1, .int (nI 0)), (0, .ref (r 0))]) hx hb dX3_washerCount_3 rfl hl (by decide) rfl (fun ls hl => ?_)
  have K_1 : ∀ n9 : Nat, ∀ (t : Nat) (i : Nat), i ≤ q.1 → t = smu (fun i => q.2.2.2.1 i 2) i → q.1 - i < n9 → ∀ ls : Array Slot, lv_has ls 4 [(0, .ref (r 0)), (1, .int (nI t)), (2, .int (nI i))] → W p l e (headSpec (wA yX3_washerCount cX3_washerCount 4 (some .int)) ({ frames := 1, cells := 0, slots := 0, locals := 21 })).room s m args below meth c s.heap [] 0 0 (MQ below (vp_Si (fun x => x = nI (smu (fun i => q.2.2.2.1 i 2) q.1))) args s 0 0 (fun _ => False)) (F0 m 4 ls []) := by
    intro n9
    induction n9 with
    | zero => intros; omega
    | succ n9 ih_2 =>
      intro t i hi ht hn9 ls hl
      refine lv_iload_n hx hb dX3_washerCount_4 rfl (lv_at hl 2 rfl) ?_
      refine lv_aload_n hx hb dX3_washerCount_5 rfl (lv_at hl 0 rfl) ?_
      refine va_get (D := D) (ci := 3) (v := .int (nI q.1)) (C := RX3) (T := TX3) (N := 5) hx hb hts iX3 hown hK hP 0 rfl rfl 2 (by decide) (hts _ mg_134) (fun _ h9 => h9) rfl dX3_washerCount_6 ?_
      refine j_icmp_ge (tgt := 35) hx hb dX3_washerCount_9 (by decide) (nI_toInt (by omega)) (nI_toInt (by omega)) (fun c_3 => ?_) (fun c_3 => ?_)
      · refine lv_iload_n hx hb dX3_washerCount_35 rfl (lv_at hl 1 rfl) ?_
        exact ro_iret hx hb hr hlocks (by rw [ht, show i = q.1 by omega]) dX3_washerCount_36
      · refine lv_aload_n hx hb dX3_washerCount_12 rfl (lv_at hl 0 rfl) ?_
        refine lv_iload_n hx hb dX3_washerCount_13 rfl (lv_at hl 2 rfl) ?_
        refine ro_qV (n := 1) (As := [.int (nI i)]) ⟨hx, hb, hml, hown, hts⟩ (c_X3_tapAt l D r cI cT cN q i (by omega) h5) (cwV 1 hts (gV mg_258 mg_259 mg_260 mg_5 mg_261) rfl rfl rfl vd_X3_tapAt ⟨Nat.le_of_ble_eq_true rfl, Nat.le_of_ble_eq_true rfl⟩) (va_recv hK hP (ci := 3) (q0 := 0) rfl rfl) hK hP rfl hl.1 rfl (Nat.le_of_ble_eq_true rfl) dX3_washerCount_14 ⟨Nat.zero_le _, Nat.zero_le _⟩ ?_
        refine lv_astore_n (lv' := [(3, .ref (r (3 + i))), (0, .ref (r 0)), (1, .int (nI t)), (2, .int (nI i))]) hx hb dX3_washerCount_17 rfl hl (by decide) rfl (fun ls hl => ?_)
        refine lv_aload_n hx hb dX3_washerCount_18 rfl (lv_at hl 0 rfl) ?_
        refine lv_ifnull hx hb dX3_washerCount_19 ?_
        refine lv_iload_n hx hb dX3_washerCount_22 rfl (lv_at hl 2 rfl) ?_
        refine lv_aload_n hx hb dX3_washerCount_23 rfl (lv_at hl 0 rfl) ?_
        refine va_get (D := D) (ci := 5) (v := .int (nI (q.2.2.2.1 i 2))) (C := RX5) (T := TX5) (N := 5) hx hb hts iX5 hown hK hP (3 + i) (rW_tap (by omega)) rfl 3 (by decide) (hts _ mg_88) (fun _ h9 => h9) rfl dX3_washerCount_24 ?_
        refine n_iadd hx hb dX3_washerCount_27 ?_
        refine lv_istore_n (lv' := [(1, .int (nI (t + (q.2.2.2.1 i 2)))), (3, .ref (r (3 + i))), (0, .ref (r 0)), (2, .int (nI i))]) hx hb dX3_washerCount_28 rfl hl (by decide) rfl (fun ls hl => ?_)
        refine lv_iinc (v := nI (i + 1)) (lv' := [(2, .int (nI (i + 1))), (1, .int (nI (t + (q.2.2.2.1 i 2)))), (3, .ref (r (3 + i))), (0, .ref (r 0))]) hx hb dX3_washerCount_29 hl (k := 3) rfl (fr_inc1 _) (by decide) rfl (fun ls hl => ?_)
        refine lv_goto (tgt := 4) hx hb dX3_washerCount_32 (by decide) ?_
        exact ih_2 (t + (q.2.2.2.1 i 2)) (i + 1) (by omega) (by rw [ht]; rfl) (by omega) _ (lv_sub hl [3, 1, 0] rfl)
  exact K_1 (q.1 - 0 + 1) 0 0 (by omega) (rfl) (Nat.lt_succ_self _) _ (lv_sub hl [2, 1, 0] rfl)

set_option maxHeartbeats 4000000 in
set_option maxRecDepth 100000 in
theorem c_X3_heardCount (l : Launch) (D : va_G) (r : Nat → Nat) (cI cT cN : ClassId) (q : RS) (h5 : q.1 ≤ 5) : ROi l yX3_heardCount (wA yX3_heardCount cX3_heardCount 4 (some .int)) ({ frames := 1, cells := 0, slots := 0, locals := 21 }) D (cTys cI cT cN) (rW r cT cN q) [.ref (r 0)] (nI (smu (fun i => q.2.2.2.1 i 3) q.1)) := by
  refine go_start (by decide) (Nat.le_of_ble_eq_true rfl) ?_
  intro p e s m args below meth c ls F _ hB hl
  obtain ⟨hx, hb, hr, hlocks, hml, hown, hts⟩ := F
  obtain ⟨hP, hK⟩ := hB
  have hown : s.vm.findClass RX3 = some m.cls := hown
  have hl : lv_has ls 4 [(0, .ref (r 0))] := hl
  refine lv_iconst (v := nI 0) hx hb dX3_heardCount_0 (by decide) ?_
  refine lv_istore_n (lv' := [(1, .int (nI 0)), (0, .ref (r 0))]) hx hb dX3_heardCount_1 rfl hl (by decide) rfl (fun ls hl => ?_)
  refine lv_iconst (v := nI 0) hx hb dX3_heardCount_2 (by decide) ?_
  refine lv_istore_n (lv' := [(2, .int (nI 0)), (1, .int (nI 0)), (0, .ref (r 0))]) hx hb dX3_heardCount_3 rfl hl (by decide) rfl (fun ls hl => ?_)
  have K_1 : ∀ n9 : Nat, ∀ (t : Nat) (i : Nat), i ≤ q.1 → t = smu (fun i => q.2.2.2.1 i 3) i → q.1 - i < n9 → ∀ ls : Array Slot, lv_has ls 4 [(0, .ref (r 0)), (1, .int (nI t)), (2, .int (nI i))] → W p l e (headSpec (wA yX3_heardCount cX3_heardCount 4 (some .int)) ({ frames := 1, cells := 0, slots := 0, locals := 21 })).room s m args below meth c s.heap [] 0 0 (MQ below (vp_Si (fun x => x = nI (smu (fun i => q.2.2.2.1 i 3) q.1))) args s 0 0 (fun _ => False)) (F0 m 4 ls []) := by
    intro n9
    induction n9 with
    | zero => intros; omega
    | succ n9 ih_2 =>
      intro t i hi ht hn9 ls hl
      refine lv_iload_n hx hb dX3_heardCount_4 rfl (lv_at hl 2 rfl) ?_
      refine lv_aload_n hx hb dX3_heardCount_5 rfl (lv_at hl 0 rfl) ?_
      refine va_get (D := D) (ci := 3) (v := .int (nI q.1)) (C := RX3) (T := TX3) (N := 5) hx hb hts iX3 hown hK hP 0 rfl rfl 2 (by decide) (hts _ mg_134) (fun _ h9 => h9) rfl dX3_heardCount_6 ?_
      refine j_icmp_ge (tgt := 35) hx hb dX3_heardCount_9 (by decide) (nI_toInt (by omega)) (nI_toInt (by omega)) (fun c_3 => ?_) (fun c_3 => ?_)
      · refine lv_iload_n hx hb dX3_heardCount_35 rfl (lv_at hl 1 rfl) ?_
        exact ro_iret hx hb hr hlocks (by rw [ht, show i = q.1 by omega]) dX3_heardCount_36
      · refine lv_aload_n hx hb dX3_heardCount_12 rfl (lv_at hl 0 rfl) ?_
        refine lv_iload_n hx hb dX3_heardCount_13 rfl (lv_at hl 2 rfl) ?_
        refine ro_qV (n := 1) (As := [.int (nI i)]) ⟨hx, hb, hml, hown, hts⟩ (c_X3_tapAt l D r cI cT cN q i (by omega) h5) (cwV 1 hts (gV mg_258 mg_259 mg_260 mg_5 mg_261) rfl rfl rfl vd_X3_tapAt ⟨Nat.le_of_ble_eq_true rfl, Nat.le_of_ble_eq_true rfl⟩) (va_recv hK hP (ci := 3) (q0 := 0) rfl rfl) hK hP rfl hl.1 rfl (Nat.le_of_ble_eq_true rfl) dX3_heardCount_14 ⟨Nat.zero_le _, Nat.zero_le _⟩ ?_
        refine lv_astore_n (lv' := [(3, .ref (r (3 + i))), (0, .ref (r 0)), (1, .int (nI t)), (2, .int (nI i))]) hx hb dX3_heardCount_17 rfl hl (by decide) rfl (fun ls hl => ?_)
        refine lv_aload_n hx hb dX3_heardCount_18 rfl (lv_at hl 0 rfl) ?_
        refine lv_ifnull hx hb dX3_heardCount_19 ?_
        refine lv_iload_n hx hb dX3_heardCount_22 rfl (lv_at hl 2 rfl) ?_
        refine lv_aload_n hx hb dX3_heardCount_23 rfl (lv_at hl 0 rfl) ?_
        refine va_get (D := D) (ci := 5) (v := .int (nI (q.2.2.2.1 i 3))) (C := RX5) (T := TX5) (N := 5) hx hb hts iX5 hown hK hP (3 + i) (rW_tap (by omega)) rfl 4 (by decide) (hts _ mg_91) (fun _ h9 => h9) rfl dX3_heardCount_24 ?_
        refine n_iadd hx hb dX3_heardCount_27 ?_
        refine lv_istore_n (lv' := [(1, .int (nI (t + (q.2.2.2.1 i 3)))), (3, .ref (r (3 + i))), (0, .ref (r 0)), (2, .int (nI i))]) hx hb dX3_heardCount_28 rfl hl (by decide) rfl (fun ls hl => ?_)
        refine lv_iinc (v := nI (i + 1)) (lv' := [(2, .int (nI (i + 1))), (1, .int (nI (t + (q.2.2.2.1 i 3)))), (3, .ref (r (3 + i))), (0, .ref (r 0))]) hx hb dX3_heardCount_29 hl (k := 3) rfl (fr_inc1 _) (by decide) rfl (fun ls hl => ?_)
        refine lv_goto (tgt := 4) hx hb dX3_heardCount_32 (by decide) ?_
        exact ih_2 (t + (q.2.2.2.1 i 3)) (i + 1) (by omega) (by rw [ht]; rfl) (by omega) _ (lv_sub hl [3, 1, 0] rfl)
  exact K_1 (q.1 - 0 + 1) 0 0 (by omega) (rfl) (Nat.lt_succ_self _) _ (lv_sub hl [2, 1, 0] rfl)

set_option maxHeartbeats 4000000 in
set_option maxRecDepth 100000 in
theorem c_X3_clear (l : Launch) (D : va_G) (r : Nat → Nat) (cI cT cN : ClassId) (sz : Nat) (q : RS) : WV l yX3_clear (wA yX3_clear cX3_clear 1 none) ({ frames := 0, cells := 0, slots := 0, locals := 0 }) D (cTys cI cT cN) (rW r cT cN q) sz [.ref (r 0)] (fun _ : Unit => True) (fun _ : Unit => rW r cT cN (0, 0, nI 0, q.2.2.2.1, q.2.2.2.2)) := by
  refine rw_startV (by decide) (Nat.le_of_ble_eq_true rfl) ?_
  intro p e s m args below meth c ls A F hP hK hD hA hS hl
  obtain ⟨hx, hb, hr, hlocks, hml, hown, hts⟩ := F
  have hown : s.vm.findClass RX3 = some m.cls := hown
  have hl : lv_has ls 1 [(0, .ref (r 0))] := hl
  refine lv_aload_n hx hb dX3_clear_0 rfl (lv_at hl 0 rfl) ?_
  refine lv_iconst (v := nI 0) hx hb dX3_clear_1 (by decide) ?_
  refine va_put (D := D) (ci := 3) (v := .int (nI 0)) (ty := .int) (C := RX3) (T := TX3) (N := 5) hx hb hts iX3 tyX3 tyX3_ok nmX3 hown hK hP hD hS 0 rfl rfl 2 (by decide) (hts _ mg_134) (fun _ h9 => h9) rfl (tyX3_ok 2 (by decide)) rfl rfl (Nat.le_of_ble_eq_true rfl) dX3_clear_2 (fun H locs hP hD hS => ?_)
  have hP : va_P D vwCl (rW r cT cN (0, q.2.1, q.2.2.1, q.2.2.2.1, q.2.2.2.2)) H := hP
  have hD : va_D A (rW r cT cN (0, q.2.1, q.2.2.1, q.2.2.2.1, q.2.2.2.2)) := hD
  refine lv_aload_n hx hb dX3_clear_5 rfl (lv_at hl 0 rfl) ?_
  refine lv_iconst (v := nI 0) hx hb dX3_clear_6 (by decide) ?_
  refine va_put (D := D) (ci := 3) (v := .int (nI 0)) (ty := .int) (C := RX3) (T := TX3) (N := 5) hx hb hts iX3 tyX3 tyX3_ok nmX3 hown hK hP hD hS 0 rfl rfl 3 (by decide) (hts _ mg_136) (fun _ h9 => h9) rfl (tyX3_ok 3 (by decide)) rfl rfl (Nat.le_of_ble_eq_true rfl) dX3_clear_7 (fun H locs hP hD hS => ?_)
  have hP : va_P D vwCl (rW r cT cN (0, 0, q.2.2.1, q.2.2.2.1, q.2.2.2.2)) H := hP
  have hD : va_D A (rW r cT cN (0, 0, q.2.2.1, q.2.2.2.1, q.2.2.2.2)) := hD
  refine lv_aload_n hx hb dX3_clear_10 rfl (lv_at hl 0 rfl) ?_
  refine lv_iconst (v := nI 0) hx hb dX3_clear_11 (by decide) ?_
  refine va_put (D := D) (ci := 3) (v := .int (nI 0)) (ty := .int) (C := RX3) (T := TX3) (N := 5) hx hb hts iX3 tyX3 tyX3_ok nmX3 hown hK hP hD hS 0 rfl rfl 4 (by decide) (hts _ mg_138) (fun _ h9 => h9) rfl (tyX3_ok 4 (by decide)) rfl rfl (Nat.le_of_ble_eq_true rfl) dX3_clear_12 (fun H locs hP hD hS => ?_)
  have hP : va_P D vwCl (rW r cT cN (0, 0, nI 0, q.2.2.2.1, q.2.2.2.2)) H := hP
  have hD : va_D A (rW r cT cN (0, 0, nI 0, q.2.2.2.1, q.2.2.2.2)) := hD
  exact rw_vret (wp := (fun _ : Unit => rW r cT cN (0, 0, nI 0, q.2.2.2.1, q.2.2.2.2))) (post := (fun _ : Unit => True)) () hx hb hr hlocks hK hP hD hS (rfl) (trivial) dX3_clear_15

set_option maxHeartbeats 4000000 in
set_option maxRecDepth 100000 in
theorem c_X3_addTap (l : Launch) (D : va_G) (r : Nat → Nat) (cI cT cN : ClassId) (sz : Nat) (q : RS) (kd v : Nat) (h5 : q.1 < 5) : WV l yX3_addTap (wA yX3_addTap cX3_addTap 4 none) ({ frames := 1, cells := 0, slots := 0, locals := 24 }) D (cTys cI cT cN) (rW r cT cN q) sz [.ref (r 0), .int (nI kd), .int (nI v)] (fun _ : Unit => True) (fun _ : Unit => rW r cT cN (q.1 + 1, q.2.1, q.2.2.1, upR q.2.2.2.1 q.1 (rw4 kd v 0 0), q.2.2.2.2)) := by
  refine rw_startV (by decide) (Nat.le_of_ble_eq_true rfl) ?_
  intro p e s m args below meth c ls A F hP hK hD hA hS hl
  obtain ⟨hx, hb, hr, hlocks, hml, hown, hts⟩ := F
  have hown : s.vm.findClass RX3 = some m.cls := hown
  have hl : lv_has ls 4 [(0, .ref (r 0)), (1, .int (nI kd)), (2, .int (nI v))] := hl
  refine lv_aload_n hx hb dX3_addTap_0 rfl (lv_at hl 0 rfl) ?_
  refine va_get (D := D) (ci := 3) (v := .int (nI q.1)) (C := RX3) (T := TX3) (N := 5) hx hb hts iX3 hown hK hP 0 rfl rfl 2 (by decide) (hts _ mg_134) (fun _ h9 => h9) rfl dX3_addTap_1 ?_
  refine lv_iconst (v := nI 5) hx hb dX3_addTap_4 (by decide) ?_
  refine j_icmp_lt (tgt := 9) hx hb dX3_addTap_5 (by decide) (nI_toInt (by omega)) (nI_toInt (by decide)) (fun c_1 => ?_) (fun c_1 => absurd c_1 (by omega))
  refine lv_aload_n hx hb dX3_addTap_9 rfl (lv_at hl 0 rfl) ?_
  refine lv_dup hx hb dX3_addTap_10 rfl ?_
  refine va_get (D := D) (ci := 3) (v := .int (nI q.1)) (C := RX3) (T := TX3) (N := 5) hx hb hts iX3 hown hK hP 0 rfl rfl 2 (by decide) (hts _ mg_134) (fun _ h9 => h9) rfl dX3_addTap_11 ?_
  refine lv_iconst (v := nI 1) hx hb dX3_addTap_14 (by decide) ?_
  refine n_iadd hx hb dX3_addTap_15 ?_
  refine va_put (D := D) (ci := 3) (v := .int (nI (q.1 + 1))) (ty := .int) (C := RX3) (T := TX3) (N := 5) hx hb hts iX3 tyX3 tyX3_ok nmX3 hown hK hP hD hS 0 rfl rfl 2 (by decide) (hts _ mg_134) (fun _ h9 => h9) rfl (tyX3_ok 2 (by decide)) rfl rfl (Nat.le_of_ble_eq_true rfl) dX3_addTap_16 (fun H locs hP hD hS => ?_)
  have hP : va_P D vwCl (rW r cT cN (q.1 + 1, q.2.1, q.2.2.1, q.2.2.2.1, q.2.2.2.2)) H := hP
  have hD : va_D A (rW r cT cN (q.1 + 1, q.2.1, q.2.2.1, q.2.2.2.1, q.2.2.2.2)) := hD
  refine lv_aload_n hx hb dX3_addTap_19 rfl (lv_at hl 0 rfl) ?_
  refine lv_aload_n hx hb dX3_addTap_20 rfl (lv_at hl 0 rfl) ?_
  refine va_get (D := D) (ci := 3) (v := .int (nI (q.1 + 1))) (C := RX3) (T := TX3) (N := 5) hx hb hts iX3 hown hK hP 0 rfl rfl 2 (by decide) (hts _ mg_134) (fun _ h9 => h9) rfl dX3_addTap_21 ?_
  refine lv_iconst (v := nI 1) hx hb dX3_addTap_24 (by decide) ?_
  refine n_isub hx hb dX3_addTap_25 (by omega) ?_
  refine n_top (congrArg nI (Nat.add_sub_cancel (n := q.1) (m := 1))) ?_
  refine ro_qV (n := 1) (As := [.int (nI q.1)]) ⟨hx, hb, hml, hown, hts⟩ (c_X3_tapAt l D r cI cT cN (q.1 + 1, q.2.1, q.2.2.1, q.2.2.2.1, q.2.2.2.2) q.1 (Nat.lt_succ_self _) (by dsimp only; omega)) (cwV 1 hts (gV mg_258 mg_259 mg_260 mg_5 mg_261) rfl rfl rfl vd_X3_tapAt ⟨Nat.le_of_ble_eq_true rfl, Nat.le_of_ble_eq_true rfl⟩) (va_recv hK hP (ci := 3) (q0 := 0) rfl rfl) hK hP rfl hl.1 rfl (Nat.le_of_ble_eq_true rfl) dX3_addTap_26 ⟨Nat.zero_le _, Nat.zero_le _⟩ ?_
  refine lv_astore_n (lv' := [(3, .ref (r (3 + q.1))), (0, .ref (r 0)), (1, .int (nI kd)), (2, .int (nI v))]) hx hb dX3_addTap_29 rfl hl (by decide) rfl (fun ls hl => ?_)
  refine lv_aload_n hx hb dX3_addTap_30 rfl (lv_at hl 0 rfl) ?_
  refine lv_ifnull hx hb dX3_addTap_31 ?_
  refine lv_aload_n hx hb dX3_addTap_34 rfl (lv_at hl 0 rfl) ?_
  refine lv_iload_n hx hb dX3_addTap_35 rfl (lv_at hl 2 rfl) ?_
  refine lv_iload_n hx hb dX3_addTap_36 rfl (lv_at hl 3 rfl) ?_
  refine lv_iconst (v := nI 0) hx hb dX3_addTap_37 (by decide) ?_
  refine lv_iconst (v := nI 0) hx hb dX3_addTap_38 (by decide) ?_
  refine rw_vV1 (3 + q.1) (rW_tap (by omega)) (n := 4) (As := [.int (nI kd), .int (nI v), .int (nI 0), .int (nI 0)]) ⟨hx, hb, hml, hown, hts⟩ (c_X5_become l D cI cT cN _ _ _ _ _ _ _ _ _ _ _) (cwV 4 hts (gV mg_262 mg_263 mg_264 mg_6 mg_265) rfl rfl rfl vd_X5_become ⟨Nat.le_of_ble_eq_true rfl, Nat.le_of_ble_eq_true rfl⟩) (va_recv hK hP (ci := 5) (q0 := 3 + q.1) rfl (rW_tap (by omega))) hK hP hD hS hA rfl hl.1 rfl (Nat.le_of_ble_eq_true rfl) dX3_addTap_39 ⟨Nat.zero_le _, Nat.zero_le _⟩ (fun u_2 H locs w_3 hP hD hS => ?_)
  have hP : va_P D vwCl (rW r cT cN (q.1 + 1, q.2.1, q.2.2.1, upR q.2.2.2.1 q.1 (rw4 kd v 0 0), q.2.2.2.2)) H := Eq.mp (congrArg (fun z => va_P D vwCl z H) (rW_setT (r := r) (cT := cT) (cN := cN) (q := (q.1 + 1, q.2.1, q.2.2.1, q.2.2.2.1, q.2.2.2.2)) (i := q.1) (by omega) (rw4 kd v 0 0))) hP
  have hD : va_D A (rW r cT cN (q.1 + 1, q.2.1, q.2.2.1, upR q.2.2.2.1 q.1 (rw4 kd v 0 0), q.2.2.2.2)) := Eq.mp (congrArg (fun z => va_D A z) (rW_setT (r := r) (cT := cT) (cN := cN) (q := (q.1 + 1, q.2.1, q.2.2.1, q.2.2.2.1, q.2.2.2.2)) (i := q.1) (by omega) (rw4 kd v 0 0))) hD
  exact rw_vret (wp := (fun _ : Unit => rW r cT cN (q.1 + 1, q.2.1, q.2.2.1, upR q.2.2.2.1 q.1 (rw4 kd v 0 0), q.2.2.2.2))) (post := (fun _ : Unit => True)) () hx hb hr hlocks hK hP hD hS (rfl) (trivial) dX3_addTap_42

set_option maxHeartbeats 4000000 in
set_option maxRecDepth 100000 in
theorem c_X3_addNote (l : Launch) (D : va_G) (r : Nat → Nat) (cI cT cN : ClassId) (sz : Nat) (q : RS) (i d x : Nat) (hi : i < 5) (h8 : q.2.1 < 8) : WV l yX3_addNote (wA yX3_addNote cX3_addNote 5 none) ({ frames := 1, cells := 0, slots := 0, locals := 24 }) D (cTys cI cT cN) (rW r cT cN q) sz [.ref (r 0), .ref (r (3 + i)), .int (nI d), .int (nI x)] (fun _ : Unit => True) (fun _ : Unit => rW r cT cN (q.1, q.2.1 + 1, q.2.2.1, q.2.2.2.1, upR q.2.2.2.2 q.2.1 (rw4 i d x (q.2.2.2.1 i 2)))) := by
  refine rw_startV (by decide) (Nat.le_of_ble_eq_true rfl) ?_
  intro p e s m args below meth c ls A F hP hK hD hA hS hl
  obtain ⟨hx, hb, hr, hlocks, hml, hown, hts⟩ := F
  have hown : s.vm.findClass RX3 = some m.cls := hown
  have hl : lv_has ls 5 [(0, .ref (r 0)), (1, .ref (r (3 + i))), (2, .int (nI d)), (3, .int (nI x))] := hl
  refine lv_aload_n hx hb dX3_addNote_0 rfl (lv_at hl 0 rfl) ?_
  refine va_get (D := D) (ci := 3) (v := .int (nI q.2.1)) (C := RX3) (T := TX3) (N := 5) hx hb hts iX3 hown hK hP 0 rfl rfl 3 (by decide) (hts _ mg_136) (fun _ h9 => h9) rfl dX3_addNote_1 ?_
  refine lv_bipush (v := nI 8) hx hb dX3_addNote_4 (by decide) ?_
  refine j_icmp_lt (tgt := 10) hx hb dX3_addNote_6 (by decide) (nI_toInt (by omega)) (nI_toInt (by decide)) (fun c_1 => ?_) (fun c_1 => absurd c_1 (by omega))
  refine lv_aload_n hx hb dX3_addNote_10 rfl (lv_at hl 0 rfl) ?_
  refine lv_dup hx hb dX3_addNote_11 rfl ?_
  refine va_get (D := D) (ci := 3) (v := .int (nI q.2.1)) (C := RX3) (T := TX3) (N := 5) hx hb hts iX3 hown hK hP 0 rfl rfl 3 (by decide) (hts _ mg_136) (fun _ h9 => h9) rfl dX3_addNote_12 ?_
  refine lv_iconst (v := nI 1) hx hb dX3_addNote_15 (by decide) ?_
  refine n_iadd hx hb dX3_addNote_16 ?_
  refine va_put (D := D) (ci := 3) (v := .int (nI (q.2.1 + 1))) (ty := .int) (C := RX3) (T := TX3) (N := 5) hx hb hts iX3 tyX3 tyX3_ok nmX3 hown hK hP hD hS 0 rfl rfl 3 (by decide) (hts _ mg_136) (fun _ h9 => h9) rfl (tyX3_ok 3 (by decide)) rfl rfl (Nat.le_of_ble_eq_true rfl) dX3_addNote_17 (fun H locs hP hD hS => ?_)
  have hP : va_P D vwCl (rW r cT cN (q.1, q.2.1 + 1, q.2.2.1, q.2.2.2.1, q.2.2.2.2)) H := hP
  have hD : va_D A (rW r cT cN (q.1, q.2.1 + 1, q.2.2.1, q.2.2.2.1, q.2.2.2.2)) := hD
  refine lv_aload_n hx hb dX3_addNote_20 rfl (lv_at hl 0 rfl) ?_
  refine lv_aload_n hx hb dX3_addNote_21 rfl (lv_at hl 0 rfl) ?_
  refine va_get (D := D) (ci := 3) (v := .int (nI (q.2.1 + 1))) (C := RX3) (T := TX3) (N := 5) hx hb hts iX3 hown hK hP 0 rfl rfl 3 (by decide) (hts _ mg_136) (fun _ h9 => h9) rfl dX3_addNote_22 ?_
  refine lv_iconst (v := nI 1) hx hb dX3_addNote_25 (by decide) ?_
  refine n_isub hx hb dX3_addNote_26 (by omega) ?_
  refine n_top (congrArg nI (Nat.add_sub_cancel (n := q.2.1) (m := 1))) ?_
  refine ro_qV (n := 1) (As := [.int (nI q.2.1)]) ⟨hx, hb, hml, hown, hts⟩ (c_X3_noteAt l D r cI cT cN (q.1, q.2.1 + 1, q.2.2.1, q.2.2.2.1, q.2.2.2.2) q.2.1 (Nat.lt_succ_self _) (by dsimp only; omega)) (cwV 1 hts (gV mg_387 mg_321 mg_322 mg_5 mg_323) rfl rfl rfl vd_X3_noteAt ⟨Nat.le_of_ble_eq_true rfl, Nat.le_of_ble_eq_true rfl⟩) (va_recv hK hP (ci := 3) (q0 := 0) rfl rfl) hK hP rfl hl.1 rfl (Nat.le_of_ble_eq_true rfl) dX3_addNote_27 ⟨Nat.zero_le _, Nat.zero_le _⟩ ?_
  refine lv_astore (lv' := [(4, .ref (r (8 + q.2.1))), (0, .ref (r 0)), (1, .ref (r (3 + i))), (2, .int (nI d)), (3, .int (nI x))]) hx hb dX3_addNote_30 hl (by decide) rfl (fun ls hl => ?_)
  refine lv_aload hx hb dX3_addNote_32 (lv_at hl 0 rfl) ?_
  refine lv_ifnull hx hb dX3_addNote_34 ?_
  refine lv_aload hx hb dX3_addNote_37 (lv_at hl 0 rfl) ?_
  refine lv_aload_n hx hb dX3_addNote_39 rfl (lv_at hl 2 rfl) ?_
  refine va_get (D := D) (ci := 5) (v := .int (nI i)) (C := RX5) (T := TX5) (N := 5) hx hb hts iX5 hown hK hP (3 + i) (rW_tap (by omega)) rfl 0 (by decide) (hts _ mg_79) (fun _ h9 => h9) rfl dX3_addNote_40 ?_
  refine lv_iload_n hx hb dX3_addNote_43 rfl (lv_at hl 3 rfl) ?_
  refine lv_iload_n hx hb dX3_addNote_44 rfl (lv_at hl 4 rfl) ?_
  refine lv_aload_n hx hb dX3_addNote_45 rfl (lv_at hl 2 rfl) ?_
  refine va_get (D := D) (ci := 5) (v := .int (nI (q.2.2.2.1 i 2))) (C := RX5) (T := TX5) (N := 5) hx hb hts iX5 hown hK hP (3 + i) (rW_tap (by omega)) rfl 3 (by decide) (hts _ mg_88) (fun _ h9 => h9) rfl dX3_addNote_46 ?_
  refine rw_vV1 (8 + q.2.1) (rW_note (by omega)) (n := 4) (As := [.int (nI i), .int (nI d), .int (nI x), .int (nI (q.2.2.2.1 i 2))]) ⟨hx, hb, hml, hown, hts⟩ (c_X0_become l D cI cT cN _ _ _ _ _ _ _ _ _ _) (cwV 4 hts (gV mg_388 mg_389 mg_390 mg_7 mg_391) rfl rfl rfl vd_X0_become ⟨Nat.le_of_ble_eq_true rfl, Nat.le_of_ble_eq_true rfl⟩) (va_recv hK hP (ci := 0) (q0 := 8 + q.2.1) rfl (rW_note (by omega))) hK hP hD hS hA rfl hl.1 rfl (Nat.le_of_ble_eq_true rfl) dX3_addNote_49 ⟨Nat.zero_le _, Nat.zero_le _⟩ (fun u_2 H locs w_3 hP hD hS => ?_)
  have hP : va_P D vwCl (rW r cT cN (q.1, q.2.1 + 1, q.2.2.1, q.2.2.2.1, upR q.2.2.2.2 q.2.1 (rw4 i d x (q.2.2.2.1 i 2)))) H := Eq.mp (congrArg (fun z => va_P D vwCl z H) (rW_setN (r := r) (cT := cT) (cN := cN) (q := (q.1, q.2.1 + 1, q.2.2.1, q.2.2.2.1, q.2.2.2.2)) (i := q.2.1) (by omega) (rw4 i d x (q.2.2.2.1 i 2)))) hP
  have hD : va_D A (rW r cT cN (q.1, q.2.1 + 1, q.2.2.1, q.2.2.2.1, upR q.2.2.2.2 q.2.1 (rw4 i d x (q.2.2.2.1 i 2)))) := Eq.mp (congrArg (fun z => va_D A z) (rW_setN (r := r) (cT := cT) (cN := cN) (q := (q.1, q.2.1 + 1, q.2.2.1, q.2.2.2.1, q.2.2.2.2)) (i := q.2.1) (by omega) (rw4 i d x (q.2.2.2.1 i 2)))) hD
  exact rw_vret (wp := (fun _ : Unit => rW r cT cN (q.1, q.2.1 + 1, q.2.2.1, q.2.2.2.1, upR q.2.2.2.2 q.2.1 (rw4 i d x (q.2.2.2.1 i 2))))) (post := (fun _ : Unit => True)) () hx hb hr hlocks hK hP hD hS (rfl) (trivial) dX3_addNote_52
