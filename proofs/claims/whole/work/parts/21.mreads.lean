set_option maxHeartbeats 4000000 in
set_option maxRecDepth 100000 in
theorem c_X7_inT (l : Launch) (D : va_G) (x lo hi : Int64) (hx9 : lo.toInt ≤ x.toInt ∧ x.toInt ≤ hi.toInt) : ROi l yX7_in (wA yX7_in cX7_in 6 (some .boolean)) ({ frames := 0, cells := 0, slots := 0, locals := 0 }) D [] ([] : va_W) [.long x, .long lo, .long hi] (nI 1) := by
  refine go_start (by decide) (Nat.le_of_ble_eq_true rfl) ?_
  intro p e s m args below meth c ls F _ hB hl
  obtain ⟨hx, hb, hr, hlocks, hml, hown, hts⟩ := F
  obtain ⟨hP, hK⟩ := hB
  have hown : s.vm.findClass RX7 = some m.cls := hown
  have hl : lv_has ls 6 [(0, .long x), (2, .long lo), (4, .long hi)] := hl
  refine lv_lload_n hx hb dX7_in_0 rfl (lv_at hl 0 rfl) ?_
  refine lv_lload_n hx hb dX7_in_1 rfl (lv_at hl 1 rfl) ?_
  refine j_lc_lt (tgt := 17) hx hb dX7_in_2 dX7_in_3 (by decide) rfl rfl (fun c_1 => absurd c_1 (by omega)) (fun c_1 => ?_)
  refine lv_lload_n hx hb dX7_in_6 rfl (lv_at hl 0 rfl) ?_
  refine lv_lload hx hb dX7_in_7 (lv_at hl 2 rfl) ?_
  refine j_lc_gt (tgt := 17) hx hb dX7_in_9 dX7_in_10 (by decide) rfl rfl (fun c_2 => absurd c_2 (by omega)) (fun c_2 => ?_)
  refine lv_iconst (v := nI 1) hx hb dX7_in_13 (by decide) ?_
  refine lv_goto (tgt := 18) hx hb dX7_in_14 (by decide) ?_
  exact ro_zret hx hb hr rfl hlocks (rfl) dX7_in_18

set_option maxHeartbeats 4000000 in
set_option maxRecDepth 100000 in
theorem c_X7_inF (l : Launch) (D : va_G) (x lo hi : Int64) (hx9 : ¬ (lo.toInt ≤ x.toInt ∧ x.toInt ≤ hi.toInt)) : ROi l yX7_in (wA yX7_in cX7_in 6 (some .boolean)) ({ frames := 0, cells := 0, slots := 0, locals := 0 }) D [] ([] : va_W) [.long x, .long lo, .long hi] (nI 0) := by
  refine go_start (by decide) (Nat.le_of_ble_eq_true rfl) ?_
  intro p e s m args below meth c ls F _ hB hl
  obtain ⟨hx, hb, hr, hlocks, hml, hown, hts⟩ := F
  obtain ⟨hP, hK⟩ := hB
  have hown : s.vm.findClass RX7 = some m.cls := hown
  have hl : lv_has ls 6 [(0, .long x), (2, .long lo), (4, .long hi)] := hl
  refine lv_lload_n hx hb dX7_in_0 rfl (lv_at hl 0 rfl) ?_
  refine lv_lload_n hx hb dX7_in_1 rfl (lv_at hl 1 rfl) ?_
  refine j_lc_lt (tgt := 17) hx hb dX7_in_2 dX7_in_3 (by decide) rfl rfl (fun c_1 => ?_) (fun c_1 => ?_)
  · refine lv_iconst (v := nI 0) hx hb dX7_in_17 (by decide) ?_
    exact ro_zret hx hb hr rfl hlocks (rfl) dX7_in_18
  · refine lv_lload_n hx hb dX7_in_6 rfl (lv_at hl 0 rfl) ?_
    refine lv_lload hx hb dX7_in_7 (lv_at hl 2 rfl) ?_
    refine j_lc_gt (tgt := 17) hx hb dX7_in_9 dX7_in_10 (by decide) rfl rfl (fun c_2 => ?_) (fun c_2 => absurd c_2 (by omega))
    refine lv_iconst (v := nI 0) hx hb dX7_in_17 (by decide) ?_
    exact ro_zret hx hb hr rfl hlocks (rfl) dX7_in_18

set_option maxHeartbeats 4000000 in
set_option maxRecDepth 100000 in
theorem c_X7_kby0 (l : Launch) (D : va_G) : ROi l yX7_kindBy (wA yX7_kindBy cX7_kindBy 1 (some .int)) ({ frames := 0, cells := 0, slots := 0, locals := 0 }) D [] ([] : va_W) [.int (nI 116)] (nI 0) := by
  refine go_start (by decide) (Nat.le_of_ble_eq_true rfl) ?_
  intro p e s m args below meth c ls F _ hB hl
  obtain ⟨hx, hb, hr, hlocks, hml, hown, hts⟩ := F
  obtain ⟨hP, hK⟩ := hB
  have hown : s.vm.findClass RX7 = some m.cls := hown
  have hl : lv_has ls 1 [(0, .int (nI 116))] := hl
  refine lv_iload_n hx hb dX7_kindBy_0 rfl (lv_at hl 0 rfl) ?_
  refine lv_bipush (v := nI 116) hx hb dX7_kindBy_1 (by decide) ?_
  refine j_icmp_ne (tgt := 10) hx hb dX7_kindBy_3 (by decide) (nI_toInt (by decide)) (nI_toInt (by decide)) (fun c_1 => absurd c_1 (by omega)) (fun c_1 => ?_)
  refine lv_iconst (v := nI 0) hx hb dX7_kindBy_6 (by decide) ?_
  refine lv_goto (tgt := 51) hx hb dX7_kindBy_7 (by decide) ?_
  exact ro_iret hx hb hr hlocks (rfl) dX7_kindBy_51

set_option maxHeartbeats 4000000 in
set_option maxRecDepth 100000 in
theorem c_X7_kby1 (l : Launch) (D : va_G) : ROi l yX7_kindBy (wA yX7_kindBy cX7_kindBy 1 (some .int)) ({ frames := 0, cells := 0, slots := 0, locals := 0 }) D [] ([] : va_W) [.int (nI 98)] (nI 1) := by
  refine go_start (by decide) (Nat.le_of_ble_eq_true rfl) ?_
  intro p e s m args below meth c ls F _ hB hl
  obtain ⟨hx, hb, hr, hlocks, hml, hown, hts⟩ := F
  obtain ⟨hP, hK⟩ := hB
  have hown : s.vm.findClass RX7 = some m.cls := hown
  have hl : lv_has ls 1 [(0, .int (nI 98))] := hl
  refine lv_iload_n hx hb dX7_kindBy_0 rfl (lv_at hl 0 rfl) ?_
  refine lv_bipush (v := nI 116) hx hb dX7_kindBy_1 (by decide) ?_
  refine j_icmp_ne (tgt := 10) hx hb dX7_kindBy_3 (by decide) (nI_toInt (by decide)) (nI_toInt (by decide)) (fun c_1 => ?_) (fun c_1 => absurd c_1 (by omega))
  refine lv_iload_n hx hb dX7_kindBy_10 rfl (lv_at hl 0 rfl) ?_
  refine lv_bipush (v := nI 98) hx hb dX7_kindBy_11 (by decide) ?_
  refine j_icmp_ne (tgt := 20) hx hb dX7_kindBy_13 (by decide) (nI_toInt (by decide)) (nI_toInt (by decide)) (fun c_2 => absurd c_2 (by omega)) (fun c_2 => ?_)
  refine lv_iconst (v := nI 1) hx hb dX7_kindBy_16 (by decide) ?_
  refine lv_goto (tgt := 51) hx hb dX7_kindBy_17 (by decide) ?_
  exact ro_iret hx hb hr hlocks (rfl) dX7_kindBy_51

set_option maxHeartbeats 4000000 in
set_option maxRecDepth 100000 in
theorem c_X7_kby2 (l : Launch) (D : va_G) : ROi l yX7_kindBy (wA yX7_kindBy cX7_kindBy 1 (some .int)) ({ frames := 0, cells := 0, slots := 0, locals := 0 }) D [] ([] : va_W) [.int (nI 119)] (nI 2) := by
  refine go_start (by decide) (Nat.le_of_ble_eq_true rfl) ?_
  intro p e s m args below meth c ls F _ hB hl
  obtain ⟨hx, hb, hr, hlocks, hml, hown, hts⟩ := F
  obtain ⟨hP, hK⟩ := hB
  have hown : s.vm.findClass RX7 = some m.cls := hown
  have hl : lv_has ls 1 [(0, .int (nI 119))] := hl
  refine lv_iload_n hx hb dX7_kindBy_0 rfl (lv_at hl 0 rfl) ?_
  refine lv_bipush (v := nI 116) hx hb dX7_kindBy_1 (by decide) ?_
  refine j_icmp_ne (tgt := 10) hx hb dX7_kindBy_3 (by decide) (nI_toInt (by decide)) (nI_toInt (by decide)) (fun c_1 => ?_) (fun c_1 => absurd c_1 (by omega))
  refine lv_iload_n hx hb dX7_kindBy_10 rfl (lv_at hl 0 rfl) ?_
  refine lv_bipush (v := nI 98) hx hb dX7_kindBy_11 (by decide) ?_
  refine j_icmp_ne (tgt := 20) hx hb dX7_kindBy_13 (by decide) (nI_toInt (by decide)) (nI_toInt (by decide)) (fun c_2 => ?_) (fun c_2 => absurd c_2 (by omega))
  refine lv_iload_n hx hb dX7_kindBy_20 rfl (lv_at hl 0 rfl) ?_
  refine lv_bipush (v := nI 119) hx hb dX7_kindBy_21 (by decide) ?_
  refine j_icmp_ne (tgt := 30) hx hb dX7_kindBy_23 (by decide) (nI_toInt (by decide)) (nI_toInt (by decide)) (fun c_3 => absurd c_3 (by omega)) (fun c_3 => ?_)
  refine lv_iconst (v := nI 2) hx hb dX7_kindBy_26 (by decide) ?_
  refine lv_goto (tgt := 51) hx hb dX7_kindBy_27 (by decide) ?_
  exact ro_iret hx hb hr hlocks (rfl) dX7_kindBy_51

set_option maxHeartbeats 4000000 in
set_option maxRecDepth 100000 in
theorem c_X7_kby3 (l : Launch) (D : va_G) : ROi l yX7_kindBy (wA yX7_kindBy cX7_kindBy 1 (some .int)) ({ frames := 0, cells := 0, slots := 0, locals := 0 }) D [] ([] : va_W) [.int (nI 111)] (nI 3) := by
  refine go_start (by decide) (Nat.le_of_ble_eq_true rfl) ?_
  intro p e s m args below meth c ls F _ hB hl
  obtain ⟨hx, hb, hr, hlocks, hml, hown, hts⟩ := F
  obtain ⟨hP, hK⟩ := hB
  have hown : s.vm.findClass RX7 = some m.cls := hown
  have hl : lv_has ls 1 [(0, .int (nI 111))] := hl
  refine lv_iload_n hx hb dX7_kindBy_0 rfl (lv_at hl 0 rfl) ?_
  refine lv_bipush (v := nI 116) hx hb dX7_kindBy_1 (by decide) ?_
  refine j_icmp_ne (tgt := 10) hx hb dX7_kindBy_3 (by decide) (nI_toInt (by decide)) (nI_toInt (by decide)) (fun c_1 => ?_) (fun c_1 => absurd c_1 (by omega))
  refine lv_iload_n hx hb dX7_kindBy_10 rfl (lv_at hl 0 rfl) ?_
  refine lv_bipush (v := nI 98) hx hb dX7_kindBy_11 (by decide) ?_
  refine j_icmp_ne (tgt := 20) hx hb dX7_kindBy_13 (by decide) (nI_toInt (by decide)) (nI_toInt (by decide)) (fun c_2 => ?_) (fun c_2 => absurd c_2 (by omega))
  refine lv_iload_n hx hb dX7_kindBy_20 rfl (lv_at hl 0 rfl) ?_
  refine lv_bipush (v := nI 119) hx hb dX7_kindBy_21 (by decide) ?_
  refine j_icmp_ne (tgt := 30) hx hb dX7_kindBy_23 (by decide) (nI_toInt (by decide)) (nI_toInt (by decide)) (fun c_3 => ?_) (fun c_3 => absurd c_3 (by omega))
  refine lv_iload_n hx hb dX7_kindBy_30 rfl (lv_at hl 0 rfl) ?_
  refine lv_bipush (v := nI 111) hx hb dX7_kindBy_31 (by decide) ?_
  refine j_icmp_ne (tgt := 40) hx hb dX7_kindBy_33 (by decide) (nI_toInt (by decide)) (nI_toInt (by decide)) (fun c_4 => absurd c_4 (by omega)) (fun c_4 => ?_)
  refine lv_iconst (v := nI 3) hx hb dX7_kindBy_36 (by decide) ?_
  refine lv_goto (tgt := 51) hx hb dX7_kindBy_37 (by decide) ?_
  exact ro_iret hx hb hr hlocks (rfl) dX7_kindBy_51

set_option maxHeartbeats 4000000 in
set_option maxRecDepth 100000 in
theorem c_X7_kby4 (l : Launch) (D : va_G) : ROi l yX7_kindBy (wA yX7_kindBy cX7_kindBy 1 (some .int)) ({ frames := 0, cells := 0, slots := 0, locals := 0 }) D [] ([] : va_W) [.int (nI 101)] (nI 4) := by
  refine go_start (by decide) (Nat.le_of_ble_eq_true rfl) ?_
  intro p e s m args below meth c ls F _ hB hl
  obtain ⟨hx, hb, hr, hlocks, hml, hown, hts⟩ := F
  obtain ⟨hP, hK⟩ := hB
  have hown : s.vm.findClass RX7 = some m.cls := hown
  have hl : lv_has ls 1 [(0, .int (nI 101))] := hl
  refine lv_iload_n hx hb dX7_kindBy_0 rfl (lv_at hl 0 rfl) ?_
  refine lv_bipush (v := nI 116) hx hb dX7_kindBy_1 (by decide) ?_
  refine j_icmp_ne (tgt := 10) hx hb dX7_kindBy_3 (by decide) (nI_toInt (by decide)) (nI_toInt (by decide)) (fun c_1 => ?_) (fun c_1 => absurd c_1 (by omega))
  refine lv_iload_n hx hb dX7_kindBy_10 rfl (lv_at hl 0 rfl) ?_
  refine lv_bipush (v := nI 98) hx hb dX7_kindBy_11 (by decide) ?_
  refine j_icmp_ne (tgt := 20) hx hb dX7_kindBy_13 (by decide) (nI_toInt (by decide)) (nI_toInt (by decide)) (fun c_2 => ?_) (fun c_2 => absurd c_2 (by omega))
  refine lv_iload_n hx hb dX7_kindBy_20 rfl (lv_at hl 0 rfl) ?_
  refine lv_bipush (v := nI 119) hx hb dX7_kindBy_21 (by decide) ?_
  refine j_icmp_ne (tgt := 30) hx hb dX7_kindBy_23 (by decide) (nI_toInt (by decide)) (nI_toInt (by decide)) (fun c_3 => ?_) (fun c_3 => absurd c_3 (by omega))
  refine lv_iload_n hx hb dX7_kindBy_30 rfl (lv_at hl 0 rfl) ?_
  refine lv_bipush (v := nI 111) hx hb dX7_kindBy_31 (by decide) ?_
  refine j_icmp_ne (tgt := 40) hx hb dX7_kindBy_33 (by decide) (nI_toInt (by decide)) (nI_toInt (by decide)) (fun c_4 => ?_) (fun c_4 => absurd c_4 (by omega))
  refine lv_iload_n hx hb dX7_kindBy_40 rfl (lv_at hl 0 rfl) ?_
  refine lv_bipush (v := nI 101) hx hb dX7_kindBy_41 (by decide) ?_
  refine j_icmp_ne (tgt := 50) hx hb dX7_kindBy_43 (by decide) (nI_toInt (by decide)) (nI_toInt (by decide)) (fun c_5 => absurd c_5 (by omega)) (fun c_5 => ?_)
  refine lv_iconst (v := nI 4) hx hb dX7_kindBy_46 (by decide) ?_
  refine lv_goto (tgt := 51) hx hb dX7_kindBy_47 (by decide) ?_
  exact ro_iret hx hb hr hlocks (rfl) dX7_kindBy_51

set_option maxHeartbeats 4000000 in
set_option maxRecDepth 100000 in
theorem c_X7_kbyN (l : Launch) (D : va_G) (x : Int32) (h1 : ¬ x.toInt = 116) (h2 : ¬ x.toInt = 98) (h3 : ¬ x.toInt = 119) (h4 : ¬ x.toInt = 111) (h5 : ¬ x.toInt = 101) : ROi l yX7_kindBy (wA yX7_kindBy cX7_kindBy 1 (some .int)) ({ frames := 0, cells := 0, slots := 0, locals := 0 }) D [] ([] : va_W) [.int x] (-1) := by
  refine go_start (by decide) (Nat.le_of_ble_eq_true rfl) ?_
  intro p e s m args below meth c ls F _ hB hl
  obtain ⟨hx, hb, hr, hlocks, hml, hown, hts⟩ := F
  obtain ⟨hP, hK⟩ := hB
  have hown : s.vm.findClass RX7 = some m.cls := hown
  have hl : lv_has ls 1 [(0, .int x)] := hl
  refine lv_iload_n hx hb dX7_kindBy_0 rfl (lv_at hl 0 rfl) ?_
  refine lv_bipush (v := nI 116) hx hb dX7_kindBy_1 (by decide) ?_
  refine j_icmp_ne (tgt := 10) hx hb dX7_kindBy_3 (by decide) rfl (nI_toInt (by decide)) (fun c_1 => ?_) (fun c_1 => absurd c_1 (by omega))
  refine lv_iload_n hx hb dX7_kindBy_10 rfl (lv_at hl 0 rfl) ?_
  refine lv_bipush (v := nI 98) hx hb dX7_kindBy_11 (by decide) ?_
  refine j_icmp_ne (tgt := 20) hx hb dX7_kindBy_13 (by decide) rfl (nI_toInt (by decide)) (fun c_2 => ?_) (fun c_2 => absurd c_2 (by omega))
  refine lv_iload_n hx hb dX7_kindBy_20 rfl (lv_at hl 0 rfl) ?_
  refine lv_bipush (v := nI 119) hx hb dX7_kindBy_21 (by decide) ?_
  refine j_icmp_ne (tgt := 30) hx hb dX7_kindBy_23 (by decide) rfl (nI_toInt (by decide)) (fun c_3 => ?_) (fun c_3 => absurd c_3 (by omega))
  refine lv_iload_n hx hb dX7_kindBy_30 rfl (lv_at hl 0 rfl) ?_
  refine lv_bipush (v := nI 111) hx hb dX7_kindBy_31 (by decide) ?_
  refine j_icmp_ne (tgt := 40) hx hb dX7_kindBy_33 (by decide) rfl (nI_toInt (by decide)) (fun c_4 => ?_) (fun c_4 => absurd c_4 (by omega))
  refine lv_iload_n hx hb dX7_kindBy_40 rfl (lv_at hl 0 rfl) ?_
  refine lv_bipush (v := nI 101) hx hb dX7_kindBy_41 (by decide) ?_
  refine j_icmp_ne (tgt := 50) hx hb dX7_kindBy_43 (by decide) rfl (nI_toInt (by decide)) (fun c_5 => ?_) (fun c_5 => absurd c_5 (by omega))
  refine lv_iconst (v := (-1)) hx hb dX7_kindBy_50 (by decide) ?_
  exact ro_iret hx hb hr hlocks (rfl) dX7_kindBy_51

set_option maxHeartbeats 4000000 in
set_option maxRecDepth 100000 in
theorem c_X7_isSayingT (l : Launch) (D : va_G) (x : Int32) (hx9 : 0 ≤ x.toInt ∧ x.toInt < 4) : ROi l yX7_isSaying (wA yX7_isSaying cX7_isSaying 1 (some .boolean)) ({ frames := 1, cells := 0, slots := 0, locals := 25 }) D [] ([] : va_W) [.int x] (nI 1) := by
  refine go_start (by decide) (Nat.le_of_ble_eq_true rfl) ?_
  intro p e s m args below meth c ls F _ hB hl
  obtain ⟨hx, hb, hr, hlocks, hml, hown, hts⟩ := F
  obtain ⟨hP, hK⟩ := hB
  have hown : s.vm.findClass RX7 = some m.cls := hown
  have hl : lv_has ls 1 [(0, .int x)] := hl
  refine lv_iload_n hx hb dX7_isSaying_0 rfl (lv_at hl 0 rfl) ?_
  refine lv_i2l (v := x.toInt64) hx hb dX7_isSaying_1 rfl ?_
  refine lv_lconst (v := (0 : Int64)) hx hb dX7_isSaying_2 (by decide) ?_
  refine lv_ldc2 (v := (3 : Int64)) hx hb hown (hts _ mg_580) dX7_isSaying_3 ?_
  have e1 : (x.toInt64 : Int64).toInt = x.toInt := (Int32.toInt_toInt64 _).trans rfl
  have e2 : ((0) : Int64).toInt = 0 := (by decide)
  have e3 : ((3 : Int64) : Int64).toInt = 3 := (by decide)
  refine ro_iS (n := 3) (As := [.long x.toInt64, .long (0), .long (3 : Int64)]) ⟨hx, hb, hml, hown, hts⟩ (c_X7_inT l D (x.toInt64) ((0)) ((3 : Int64)) (by constructor <;> omega)) (cwS 3 hts (gS mg_534 mg_535 mg_8 mg_536) rfl rfl rfl vd_X7_in ⟨Nat.le_of_ble_eq_true rfl, Nat.le_of_ble_eq_true rfl⟩)  (hK.sub [] rfl) (fun k q h => by simp at h) rfl hl.1 rfl (Nat.le_of_ble_eq_true rfl) dX7_isSaying_6 ⟨Nat.zero_le _, Nat.zero_le _⟩ ?_
  exact ro_zret hx hb hr rfl hlocks (rfl) dX7_isSaying_9

set_option maxHeartbeats 4000000 in
set_option maxRecDepth 100000 in
theorem c_X7_isSayingF (l : Launch) (D : va_G) (x : Int32) (hx9 : x.toInt < 0 ∨ 4 ≤ x.toInt) : ROi l yX7_isSaying (wA yX7_isSaying cX7_isSaying 1 (some .boolean)) ({ frames := 1, cells := 0, slots := 0, locals := 25 }) D [] ([] : va_W) [.int x] (nI 0) := by
  refine go_start (by decide) (Nat.le_of_ble_eq_true rfl) ?_
  intro p e s m args below meth c ls F _ hB hl
  obtain ⟨hx, hb, hr, hlocks, hml, hown, hts⟩ := F
  obtain ⟨hP, hK⟩ := hB
  have hown : s.vm.findClass RX7 = some m.cls := hown
  have hl : lv_has ls 1 [(0, .int x)] := hl
  refine lv_iload_n hx hb dX7_isSaying_0 rfl (lv_at hl 0 rfl) ?_
  refine lv_i2l (v := x.toInt64) hx hb dX7_isSaying_1 rfl ?_
  refine lv_lconst (v := (0 : Int64)) hx hb dX7_isSaying_2 (by decide) ?_
  refine lv_ldc2 (v := (3 : Int64)) hx hb hown (hts _ mg_580) dX7_isSaying_3 ?_
  have e1 : (x.toInt64 : Int64).toInt = x.toInt := (Int32.toInt_toInt64 _).trans rfl
  have e2 : ((0) : Int64).toInt = 0 := (by decide)
  have e3 : ((3 : Int64) : Int64).toInt = 3 := (by decide)
  refine ro_iS (n := 3) (As := [.long x.toInt64, .long (0), .long (3 : Int64)]) ⟨hx, hb, hml, hown, hts⟩ (c_X7_inF l D (x.toInt64) ((0)) ((3 : Int64)) (fun z => by omega)) (cwS 3 hts (gS mg_534 mg_535 mg_8 mg_536) rfl rfl rfl vd_X7_in ⟨Nat.le_of_ble_eq_true rfl, Nat.le_of_ble_eq_true rfl⟩)  (hK.sub [] rfl) (fun k q h => by simp at h) rfl hl.1 rfl (Nat.le_of_ble_eq_true rfl) dX7_isSaying_6 ⟨Nat.zero_le _, Nat.zero_le _⟩ ?_
  exact ro_zret hx hb hr rfl hlocks (rfl) dX7_isSaying_9

set_option maxHeartbeats 4000000 in
set_option maxRecDepth 100000 in
theorem c_X7_lacksT (l : Launch) (D : va_G) (h : Nat) (g : Nat → Nat) (cI : ClassId) (J : Nat → Int32) (hz : Int64) (G : Nat → Nat → Int32) (q : RS) (b : Nat → Nat → Nat) (hM : MR b q J G) (h5 : q.1 ≤ 5) (h0 : q.1 = 0) : ROi l yX7_lacks (wA yX7_lacks cX7_lacks 1 (some .boolean)) ({ frames := 0, cells := 0, slots := 0, locals := 0 }) D (iTys cI) (mW h g cI J hz G) [.ref h] (nI 1) := by
  refine go_start (by decide) (Nat.le_of_ble_eq_true rfl) ?_
  intro p e s m args below meth c ls F _ hB hl
  obtain ⟨hx, hb, hr, hlocks, hml, hown, hts⟩ := F
  obtain ⟨hP, hK⟩ := hB
  have hown : s.vm.findClass RX7 = some m.cls := hown
  have hl : lv_has ls 1 [(0, .ref h)] := hl
  refine lv_aload_n hx hb dX7_lacks_0 rfl (lv_at hl 0 rfl) ?_
  refine va_get (D := D) (ci := 7) (v := .int (nI q.1)) (C := RX7) (T := TX7) (N := 22) hx hb hts iX7 hown hK hP 0 rfl rfl 7 (by decide) (hts _ mg_469) (fun _ h9 => h9) (congrArg (fun z => some (Value.int z)) (MR_7 hM)) dX7_lacks_1 ?_
  refine j_if_ne (tgt := 11) hx hb dX7_lacks_4 (by decide) (nI_toInt (by omega)) (fun c_1 => absurd c_1 (by omega)) (fun c_1 => ?_)
  refine lv_iconst (v := nI 1) hx hb dX7_lacks_7 (by decide) ?_
  refine lv_goto (tgt := 12) hx hb dX7_lacks_8 (by decide) ?_
  exact ro_zret hx hb hr rfl hlocks (rfl) dX7_lacks_12

set_option maxHeartbeats 4000000 in
set_option maxRecDepth 100000 in
theorem c_X7_lacksF (l : Launch) (D : va_G) (h : Nat) (g : Nat → Nat) (cI : ClassId) (J : Nat → Int32) (hz : Int64) (G : Nat → Nat → Int32) (q : RS) (b : Nat → Nat → Nat) (hM : MR b q J G) (h5 : q.1 ≤ 5) (h0 : ¬ q.1 = 0) : ROi l yX7_lacks (wA yX7_lacks cX7_lacks 1 (some .boolean)) ({ frames := 0, cells := 0, slots := 0, locals := 0 }) D (iTys cI) (mW h g cI J hz G) [.ref h] (nI 0) := by
  refine go_start (by decide) (Nat.le_of_ble_eq_true rfl) ?_
  intro p e s m args below meth c ls F _ hB hl
  obtain ⟨hx, hb, hr, hlocks, hml, hown, hts⟩ := F
  obtain ⟨hP, hK⟩ := hB
  have hown : s.vm.findClass RX7 = some m.cls := hown
  have hl : lv_has ls 1 [(0, .ref h)] := hl
  refine lv_aload_n hx hb dX7_lacks_0 rfl (lv_at hl 0 rfl) ?_
  refine va_get (D := D) (ci := 7) (v := .int (nI q.1)) (C := RX7) (T := TX7) (N := 22) hx hb hts iX7 hown hK hP 0 rfl rfl 7 (by decide) (hts _ mg_469) (fun _ h9 => h9) (congrArg (fun z => some (Value.int z)) (MR_7 hM)) dX7_lacks_1 ?_
  refine j_if_ne (tgt := 11) hx hb dX7_lacks_4 (by decide) (nI_toInt (by omega)) (fun c_1 => ?_) (fun c_1 => absurd c_1 (by omega))
  refine lv_iconst (v := nI 0) hx hb dX7_lacks_11 (by decide) ?_
  exact ro_zret hx hb hr rfl hlocks (rfl) dX7_lacks_12

set_option maxHeartbeats 4000000 in
set_option maxRecDepth 100000 in
theorem c_X7_isTapT (l : Launch) (D : va_G) (h : Nat) (g : Nat → Nat) (cI : ClassId) (J : Nat → Int32) (hz : Int64) (G : Nat → Nat → Int32) (b : Nat → Nat → Nat) (q : RS) (hM : MR b q J G) (hT : Tok q) (i : Nat) (hi : i < q.1) : ROi l yX7_isTap (wA yX7_isTap cX7_isTap 2 (some .boolean)) ({ frames := 1, cells := 0, slots := 0, locals := 25 }) D (iTys cI) (mW h g cI J hz G) [.ref h, .int (nI i)] (nI 1) := by
  refine go_start (by decide) (Nat.le_of_ble_eq_true rfl) ?_
  intro p e s m args below meth c ls F _ hB hl
  obtain ⟨hx, hb, hr, hlocks, hml, hown, hts⟩ := F
  obtain ⟨hP, hK⟩ := hB
  have hown : s.vm.findClass RX7 = some m.cls := hown
  have hl : lv_has ls 2 [(0, .ref h), (1, .int (nI i))] := hl
  have ht5 := hT.1
  have ht8 := hT.2.1
  refine lv_iload_n hx hb dX7_isTap_0 rfl (lv_at hl 1 rfl) ?_
  refine lv_i2l (v := lN i) hx hb dX7_isTap_1 (nI_l (by omega)) ?_
  refine lv_lconst (v := (0 : Int64)) hx hb dX7_isTap_2 (by decide) ?_
  refine lv_aload_n hx hb dX7_isTap_3 rfl (lv_at hl 0 rfl) ?_
  refine va_get (D := D) (ci := 7) (v := .int (nI q.1)) (C := RX7) (T := TX7) (N := 22) hx hb hts iX7 hown hK hP 0 rfl rfl 7 (by decide) (hts _ mg_469) (fun _ h9 => h9) (congrArg (fun z => some (Value.int z)) (MR_7 hM)) dX7_isTap_4 ?_
  refine lv_iconst (v := nI 1) hx hb dX7_isTap_7 (by decide) ?_
  refine lv_isub hx hb dX7_isTap_8 ?_
  refine lv_i2l (v := (nI q.1 - nI 1).toInt64) hx hb dX7_isTap_9 rfl ?_
  have e1 : (lN i : Int64).toInt = ((i : Nat) : Int) := lN_toInt (by omega)
  have e2 : ((0) : Int64).toInt = 0 := (by decide)
  have e3 : ((nI q.1 - nI 1).toInt64 : Int64).toInt = ((q.1 : Nat) : Int) - ((1 : Nat) : Int) := (Int32.toInt_toInt64 _).trans (pk_sub_toInt (by omega) (by omega))
  refine ro_iS (n := 3) (As := [.long (lN i), .long (0), .long ((nI q.1 - nI 1).toInt64)]) ⟨hx, hb, hml, hown, hts⟩ (c_X7_inT l D (lN i) ((0)) ((nI q.1 - nI 1).toInt64) (by constructor <;> omega)) (cwS 3 hts (gS mg_534 mg_535 mg_8 mg_536) rfl rfl rfl vd_X7_in ⟨Nat.le_of_ble_eq_true rfl, Nat.le_of_ble_eq_true rfl⟩)  (hK.sub [] rfl) (fun k q h => by simp at h) rfl hl.1 rfl (Nat.le_of_ble_eq_true rfl) dX7_isTap_10 ⟨Nat.zero_le _, Nat.zero_le _⟩ ?_
  exact ro_zret hx hb hr rfl hlocks (rfl) dX7_isTap_13

set_option maxHeartbeats 4000000 in
set_option maxRecDepth 100000 in
theorem c_X7_isTapF (l : Launch) (D : va_G) (h : Nat) (g : Nat → Nat) (cI : ClassId) (J : Nat → Int32) (hz : Int64) (G : Nat → Nat → Int32) (b : Nat → Nat → Nat) (q : RS) (hM : MR b q J G) (hT : Tok q) (x : Int32) (ox : ¬ inr x 0 q.1) : ROi l yX7_isTap (wA yX7_isTap cX7_isTap 2 (some .boolean)) ({ frames := 1, cells := 0, slots := 0, locals := 25 }) D (iTys cI) (mW h g cI J hz G) [.ref h, .int x] (nI 0) := by
  refine go_start (by decide) (Nat.le_of_ble_eq_true rfl) ?_
  intro p e s m args below meth c ls F _ hB hl
  obtain ⟨hx, hb, hr, hlocks, hml, hown, hts⟩ := F
  obtain ⟨hP, hK⟩ := hB
  have hown : s.vm.findClass RX7 = some m.cls := hown
  have hl : lv_has ls 2 [(0, .ref h), (1, .int x)] := hl
  have ht5 := hT.1
  have ht8 := hT.2.1
  have ox7 := inr_out ox
  refine lv_iload_n hx hb dX7_isTap_0 rfl (lv_at hl 1 rfl) ?_
  refine lv_i2l (v := x.toInt64) hx hb dX7_isTap_1 rfl ?_
  refine lv_lconst (v := (0 : Int64)) hx hb dX7_isTap_2 (by decide) ?_
  refine lv_aload_n hx hb dX7_isTap_3 rfl (lv_at hl 0 rfl) ?_
  refine va_get (D := D) (ci := 7) (v := .int (nI q.1)) (C := RX7) (T := TX7) (N := 22) hx hb hts iX7 hown hK hP 0 rfl rfl 7 (by decide) (hts _ mg_469) (fun _ h9 => h9) (congrArg (fun z => some (Value.int z)) (MR_7 hM)) dX7_isTap_4 ?_
  refine lv_iconst (v := nI 1) hx hb dX7_isTap_7 (by decide) ?_
  refine lv_isub hx hb dX7_isTap_8 ?_
  refine lv_i2l (v := (nI q.1 - nI 1).toInt64) hx hb dX7_isTap_9 rfl ?_
  have e1 : (x.toInt64 : Int64).toInt = x.toInt := (Int32.toInt_toInt64 _).trans rfl
  have e2 : ((0) : Int64).toInt = 0 := (by decide)
  have e3 : ((nI q.1 - nI 1).toInt64 : Int64).toInt = ((q.1 : Nat) : Int) - ((1 : Nat) : Int) := (Int32.toInt_toInt64 _).trans (pk_sub_toInt (by omega) (by omega))
  refine ro_iS (n := 3) (As := [.long x.toInt64, .long (0), .long ((nI q.1 - nI 1).toInt64)]) ⟨hx, hb, hml, hown, hts⟩ (c_X7_inF l D (x.toInt64) ((0)) ((nI q.1 - nI 1).toInt64) (fun z => by omega)) (cwS 3 hts (gS mg_534 mg_535 mg_8 mg_536) rfl rfl rfl vd_X7_in ⟨Nat.le_of_ble_eq_true rfl, Nat.le_of_ble_eq_true rfl⟩)  (hK.sub [] rfl) (fun k q h => by simp at h) rfl hl.1 rfl (Nat.le_of_ble_eq_true rfl) dX7_isTap_10 ⟨Nat.zero_le _, Nat.zero_le _⟩ ?_
  exact ro_zret hx hb hr rfl hlocks (rfl) dX7_isTap_13

set_option maxHeartbeats 4000000 in
set_option maxRecDepth 100000 in
theorem c_X7_dripBy0 (l : Launch) (D : va_G) (h : Nat) (g : Nat → Nat) (cI : ClassId) (J : Nat → Int32) (hz : Int64) (G : Nat → Nat → Int32) (b : Nat → Nat → Nat) (q : RS) (hM : MR b q J G) (hok9 : hok b) (hT : Tok q) (v w n : Nat) (hv : v < 4) (hw : w ≤ 1) (hn : n < 2 ^ 31) : ROi l yX7_dripBy (wA yX7_dripBy cX7_dripBy 9 (some .int)) ({ frames := 0, cells := 0, slots := 0, locals := 0 }) D (iTys cI) (mW h g cI J hz G) [.ref h, .int (nI 0), .int (nI w), .int (nI v), .int (nI n)] (nI (sd b 0 w v n)) := by
  refine go_start (by decide) (Nat.le_of_ble_eq_true rfl) ?_
  intro p e s m args below meth c ls F _ hB hl
  obtain ⟨hx, hb, hr, hlocks, hml, hown, hts⟩ := F
  obtain ⟨hP, hK⟩ := hB
  have hown : s.vm.findClass RX7 = some m.cls := hown
  have hl : lv_has ls 9 [(0, .ref h), (1, .int (nI 0)), (2, .int (nI w)), (3, .int (nI v)), (4, .int (nI n))] := hl
  have hm1 := (hok9 v hv).1
  have hm4 := (hok9 v hv).2.1
  have hmod : n % b v 0 < b v 0 := Nat.mod_lt _ hm1
  have hb1 := hok_at hok9 (n := n) hv
  have hb2 := hok_back hok9 (n := n) hv
  refine lv_aload_n hx hb dX7_dripBy_0 rfl (lv_at hl 0 rfl) ?_
  refine va_get (D := D) (ci := 7) (v := .ref (g 10)) (C := RX7) (T := TX7) (N := 22) hx hb hts iX7 hown hK hP 0 rfl rfl 10 (by decide) (hts _ mg_472) (fun _ h9 => h9) rfl dX7_dripBy_1 ?_
  refine lv_iconst (v := nI 5) hx hb dX7_dripBy_4 (by decide) ?_
  refine lv_iload_n hx hb dX7_dripBy_5 rfl (lv_at hl 3 rfl) ?_
  refine n_imul hx hb dX7_dripBy_6 ?_
  refine n_aldi hx hb hK hP 4 0 rfl rfl (by omega) (by decide) (v := nI (b v 0)) (MR_len hM (by omega)) dX7_dripBy_7 ?_
  refine lv_istore (lv' := [(5, .int (nI (b v 0))), (0, .ref h), (1, .int (nI 0)), (2, .int (nI w)), (3, .int (nI v)), (4, .int (nI n))]) hx hb dX7_dripBy_8 hl (by decide) rfl (fun ls hl => ?_)
  refine lv_iload hx hb dX7_dripBy_10 (lv_at hl 5 rfl) ?_
  refine lv_iload hx hb dX7_dripBy_12 (lv_at hl 0 rfl) ?_
  refine n_irem hx hb dX7_dripBy_14 (by omega) (by omega) (by omega) ?_
  refine lv_istore (lv' := [(6, .int (nI (n % (b v 0)))), (5, .int (nI (b v 0))), (0, .ref h), (1, .int (nI 0)), (2, .int (nI w)), (3, .int (nI v)), (4, .int (nI n))]) hx hb dX7_dripBy_15 hl (by decide) rfl (fun ls hl => ?_)
  refine lv_iload_n hx hb dX7_dripBy_17 rfl (lv_at hl 3 rfl) ?_
  refine lv_iconst (v := nI 1) hx hb dX7_dripBy_18 (by decide) ?_
  refine j_icmp_eq (tgt := 27) hx hb dX7_dripBy_19 (by decide) (nI_toInt (by decide)) (nI_toInt (by decide)) (fun c_1 => absurd c_1 (by omega)) (fun c_1 => ?_)
  refine lv_iload_n hx hb dX7_dripBy_22 rfl (lv_at hl 3 rfl) ?_
  refine lv_iconst (v := nI 4) hx hb dX7_dripBy_23 (by decide) ?_
  refine j_icmp_ne (tgt := 37) hx hb dX7_dripBy_24 (by decide) (nI_toInt (by decide)) (nI_toInt (by decide)) (fun c_2 => ?_) (fun c_2 => absurd c_2 (by omega))
  refine lv_iload hx hb dX7_dripBy_37 (lv_at hl 0 rfl) ?_
  refine lv_istore (lv' := [(7, .int (nI (n % (b v 0)))), (6, .int (nI (n % (b v 0)))), (5, .int (nI (b v 0))), (0, .ref h), (1, .int (nI 0)), (2, .int (nI w)), (3, .int (nI v)), (4, .int (nI n))]) hx hb dX7_dripBy_39 hl (by decide) rfl (fun ls hl => ?_)
  refine lv_aload_n hx hb dX7_dripBy_41 rfl (lv_at hl 3 rfl) ?_
  refine va_get (D := D) (ci := 7) (v := .ref (g 10)) (C := RX7) (T := TX7) (N := 22) hx hb hts iX7 hown hK hP 0 rfl rfl 10 (by decide) (hts _ mg_472) (fun _ h9 => h9) rfl dX7_dripBy_42 ?_
  refine lv_iconst (v := nI 5) hx hb dX7_dripBy_45 (by decide) ?_
  refine lv_iload_n hx hb dX7_dripBy_46 rfl (lv_at hl 6 rfl) ?_
  refine n_imul hx hb dX7_dripBy_47 ?_
  refine lv_iconst (v := nI 1) hx hb dX7_dripBy_48 (by decide) ?_
  refine n_iadd hx hb dX7_dripBy_49 ?_
  refine lv_iload hx hb dX7_dripBy_50 (lv_at hl 0 rfl) ?_
  refine n_iadd hx hb dX7_dripBy_52 ?_
  refine n_aldi hx hb hK hP 4 0 rfl rfl (by omega) (by decide) (v := nI (b v (1 + (n % (b v 0))))) (MR_beat hM (by omega) (by omega)) dX7_dripBy_53 ?_
  refine lv_istore (lv' := [(8, .int (nI (b v (1 + (n % (b v 0)))))), (7, .int (nI (n % (b v 0)))), (6, .int (nI (n % (b v 0)))), (5, .int (nI (b v 0))), (0, .ref h), (1, .int (nI 0)), (2, .int (nI w)), (3, .int (nI v)), (4, .int (nI n))]) hx hb dX7_dripBy_54 hl (by decide) rfl (fun ls hl => ?_)
  refine lv_iload_n hx hb dX7_dripBy_56 rfl (lv_at hl 5 rfl) ?_
  refine lv_iconst (v := nI 2) hx hb dX7_dripBy_57 (by decide) ?_
  refine j_icmp_ne (tgt := 72) hx hb dX7_dripBy_58 (by decide) (nI_toInt (by decide)) (nI_toInt (by decide)) (fun c_3 => ?_) (fun c_3 => absurd c_3 (by omega))
  refine lv_iload_n hx hb dX7_dripBy_72 rfl (lv_at hl 5 rfl) ?_
  refine lv_iconst (v := nI 3) hx hb dX7_dripBy_73 (by decide) ?_
  refine j_icmp_ne (tgt := 85) hx hb dX7_dripBy_74 (by decide) (nI_toInt (by decide)) (nI_toInt (by decide)) (fun c_4 => ?_) (fun c_4 => absurd c_4 (by omega))
  refine lv_iload_n hx hb dX7_dripBy_85 rfl (lv_at hl 5 rfl) ?_
  refine lv_iconst (v := nI 4) hx hb dX7_dripBy_86 (by decide) ?_
  refine j_icmp_ne (tgt := 96) hx hb dX7_dripBy_87 (by decide) (nI_toInt (by decide)) (nI_toInt (by decide)) (fun c_5 => ?_) (fun c_5 => absurd c_5 (by omega))
  refine lv_iload_n hx hb dX7_dripBy_96 rfl (lv_at hl 6 rfl) ?_
  refine lv_iconst (v := nI 1) hx hb dX7_dripBy_97 (by decide) ?_
  refine j_icmp_ne (tgt := 108) hx hb dX7_dripBy_98 (by decide) (nI_toInt (by omega)) (nI_toInt (by decide)) (fun c_6 => ?_) (fun c_6 => ?_)
  · refine lv_iload hx hb dX7_dripBy_108 (lv_at hl 0 rfl) ?_
    exact ro_iret hx hb hr hlocks (congrArg nI (by rw [sdE0]; split <;> (try split) <;> omega)) dX7_dripBy_110
  · refine lv_iconst (v := nI 1) hx hb dX7_dripBy_101 (by decide) ?_
    refine lv_iload hx hb dX7_dripBy_102 (lv_at hl 0 rfl) ?_
    refine n_isub hx hb dX7_dripBy_104 (by omega) ?_
    refine lv_goto (tgt := 110) hx hb dX7_dripBy_105 (by decide) ?_
    exact ro_iret hx hb hr hlocks (congrArg nI (by rw [sdE0]; split <;> (try split) <;> omega)) dX7_dripBy_110

set_option maxHeartbeats 4000000 in
set_option maxRecDepth 100000 in
theorem c_X7_dripBy1 (l : Launch) (D : va_G) (h : Nat) (g : Nat → Nat) (cI : ClassId) (J : Nat → Int32) (hz : Int64) (G : Nat → Nat → Int32) (b : Nat → Nat → Nat) (q : RS) (hM : MR b q J G) (hok9 : hok b) (hT : Tok q) (v w n : Nat) (hv : v < 4) (hw : w ≤ 1) (hn : n < 2 ^ 31) : ROi l yX7_dripBy (wA yX7_dripBy cX7_dripBy 9 (some .int)) ({ frames := 0, cells := 0, slots := 0, locals := 0 }) D (iTys cI) (mW h g cI J hz G) [.ref h, .int (nI 1), .int (nI w), .int (nI v), .int (nI n)] (nI (sd b 1 w v n)) := by
  refine go_start (by decide) (Nat.le_of_ble_eq_true rfl) ?_
  intro p e s m args below meth c ls F _ hB hl
  obtain ⟨hx, hb, hr, hlocks, hml, hown, hts⟩ := F
  obtain ⟨hP, hK⟩ := hB
  have hown : s.vm.findClass RX7 = some m.cls := hown
  have hl : lv_has ls 9 [(0, .ref h), (1, .int (nI 1)), (2, .int (nI w)), (3, .int (nI v)), (4, .int (nI n))] := hl
  have hm1 := (hok9 v hv).1
  have hm4 := (hok9 v hv).2.1
  have hmod : n % b v 0 < b v 0 := Nat.mod_lt _ hm1
  have hb1 := hok_at hok9 (n := n) hv
  have hb2 := hok_back hok9 (n := n) hv
  refine lv_aload_n hx hb dX7_dripBy_0 rfl (lv_at hl 0 rfl) ?_
  refine va_get (D := D) (ci := 7) (v := .ref (g 10)) (C := RX7) (T := TX7) (N := 22) hx hb hts iX7 hown hK hP 0 rfl rfl 10 (by decide) (hts _ mg_472) (fun _ h9 => h9) rfl dX7_dripBy_1 ?_
  refine lv_iconst (v := nI 5) hx hb dX7_dripBy_4 (by decide) ?_
  refine lv_iload_n hx hb dX7_dripBy_5 rfl (lv_at hl 3 rfl) ?_
  refine n_imul hx hb dX7_dripBy_6 ?_
  refine n_aldi hx hb hK hP 4 0 rfl rfl (by omega) (by decide) (v := nI (b v 0)) (MR_len hM (by omega)) dX7_dripBy_7 ?_
  refine lv_istore (lv' := [(5, .int (nI (b v 0))), (0, .ref h), (1, .int (nI 1)), (2, .int (nI w)), (3, .int (nI v)), (4, .int (nI n))]) hx hb dX7_dripBy_8 hl (by decide) rfl (fun ls hl => ?_)
  refine lv_iload hx hb dX7_dripBy_10 (lv_at hl 5 rfl) ?_
  refine lv_iload hx hb dX7_dripBy_12 (lv_at hl 0 rfl) ?_
  refine n_irem hx hb dX7_dripBy_14 (by omega) (by omega) (by omega) ?_
  refine lv_istore (lv' := [(6, .int (nI (n % (b v 0)))), (5, .int (nI (b v 0))), (0, .ref h), (1, .int (nI 1)), (2, .int (nI w)), (3, .int (nI v)), (4, .int (nI n))]) hx hb dX7_dripBy_15 hl (by decide) rfl (fun ls hl => ?_)
  refine lv_iload_n hx hb dX7_dripBy_17 rfl (lv_at hl 3 rfl) ?_
  refine lv_iconst (v := nI 1) hx hb dX7_dripBy_18 (by decide) ?_
  refine j_icmp_eq (tgt := 27) hx hb dX7_dripBy_19 (by decide) (nI_toInt (by decide)) (nI_toInt (by decide)) (fun c_1 => ?_) (fun c_1 => absurd c_1 (by omega))
  refine lv_iload hx hb dX7_dripBy_27 (lv_at hl 1 rfl) ?_
  refine lv_iconst (v := nI 1) hx hb dX7_dripBy_29 (by decide) ?_
  refine n_isub hx hb dX7_dripBy_30 (by omega) ?_
  refine lv_iload hx hb dX7_dripBy_31 (lv_at hl 0 rfl) ?_
  refine n_isub hx hb dX7_dripBy_33 (by omega) ?_
  refine lv_goto (tgt := 39) hx hb dX7_dripBy_34 (by decide) ?_
  refine lv_istore (lv' := [(7, .int (nI (((b v 0) - 1) - (n % (b v 0))))), (6, .int (nI (n % (b v 0)))), (5, .int (nI (b v 0))), (0, .ref h), (1, .int (nI 1)), (2, .int (nI w)), (3, .int (nI v)), (4, .int (nI n))]) hx hb dX7_dripBy_39 hl (by decide) rfl (fun ls hl => ?_)
  refine lv_aload_n hx hb dX7_dripBy_41 rfl (lv_at hl 3 rfl) ?_
  refine va_get (D := D) (ci := 7) (v := .ref (g 10)) (C := RX7) (T := TX7) (N := 22) hx hb hts iX7 hown hK hP 0 rfl rfl 10 (by decide) (hts _ mg_472) (fun _ h9 => h9) rfl dX7_dripBy_42 ?_
  refine lv_iconst (v := nI 5) hx hb dX7_dripBy_45 (by decide) ?_
  refine lv_iload_n hx hb dX7_dripBy_46 rfl (lv_at hl 6 rfl) ?_
  refine n_imul hx hb dX7_dripBy_47 ?_
  refine lv_iconst (v := nI 1) hx hb dX7_dripBy_48 (by decide) ?_
  refine n_iadd hx hb dX7_dripBy_49 ?_
  refine lv_iload hx hb dX7_dripBy_50 (lv_at hl 0 rfl) ?_
  refine n_iadd hx hb dX7_dripBy_52 ?_
  refine n_aldi hx hb hK hP 4 0 rfl rfl (by omega) (by decide) (v := nI (b v (1 + (((b v 0) - 1) - (n % (b v 0)))))) (MR_beat hM (by omega) (by omega)) dX7_dripBy_53 ?_
  refine lv_istore (lv' := [(8, .int (nI (b v (1 + (((b v 0) - 1) - (n % (b v 0))))))), (7, .int (nI (((b v 0) - 1) - (n % (b v 0))))), (6, .int (nI (n % (b v 0)))), (5, .int (nI (b v 0))), (0, .ref h), (1, .int (nI 1)), (2, .int (nI w)), (3, .int (nI v)), (4, .int (nI n))]) hx hb dX7_dripBy_54 hl (by decide) rfl (fun ls hl => ?_)
  refine lv_iload_n hx hb dX7_dripBy_56 rfl (lv_at hl 5 rfl) ?_
  refine lv_iconst (v := nI 2) hx hb dX7_dripBy_57 (by decide) ?_
  refine j_icmp_ne (tgt := 72) hx hb dX7_dripBy_58 (by decide) (nI_toInt (by decide)) (nI_toInt (by decide)) (fun c_2 => ?_) (fun c_2 => absurd c_2 (by omega))
  refine lv_iload_n hx hb dX7_dripBy_72 rfl (lv_at hl 5 rfl) ?_
  refine lv_iconst (v := nI 3) hx hb dX7_dripBy_73 (by decide) ?_
  refine j_icmp_ne (tgt := 85) hx hb dX7_dripBy_74 (by decide) (nI_toInt (by decide)) (nI_toInt (by decide)) (fun c_3 => ?_) (fun c_3 => absurd c_3 (by omega))
  refine lv_iload_n hx hb dX7_dripBy_85 rfl (lv_at hl 5 rfl) ?_
  refine lv_iconst (v := nI 4) hx hb dX7_dripBy_86 (by decide) ?_
  refine j_icmp_ne (tgt := 96) hx hb dX7_dripBy_87 (by decide) (nI_toInt (by decide)) (nI_toInt (by decide)) (fun c_4 => ?_) (fun c_4 => absurd c_4 (by omega))
  refine lv_iload_n hx hb dX7_dripBy_96 rfl (lv_at hl 6 rfl) ?_
  refine lv_iconst (v := nI 1) hx hb dX7_dripBy_97 (by decide) ?_
  refine j_icmp_ne (tgt := 108) hx hb dX7_dripBy_98 (by decide) (nI_toInt (by omega)) (nI_toInt (by decide)) (fun c_5 => ?_) (fun c_5 => ?_)
  · refine lv_iload hx hb dX7_dripBy_108 (lv_at hl 0 rfl) ?_
    exact ro_iret hx hb hr hlocks (congrArg nI (by rw [sdE1]; split <;> (try split) <;> omega)) dX7_dripBy_110
  · refine lv_iconst (v := nI 1) hx hb dX7_dripBy_101 (by decide) ?_
    refine lv_iload hx hb dX7_dripBy_102 (lv_at hl 0 rfl) ?_
    refine n_isub hx hb dX7_dripBy_104 (by omega) ?_
    refine lv_goto (tgt := 110) hx hb dX7_dripBy_105 (by decide) ?_
    exact ro_iret hx hb hr hlocks (congrArg nI (by rw [sdE1]; split <;> (try split) <;> omega)) dX7_dripBy_110

set_option maxHeartbeats 4000000 in
set_option maxRecDepth 100000 in
theorem c_X7_dripBy2 (l : Launch) (D : va_G) (h : Nat) (g : Nat → Nat) (cI : ClassId) (J : Nat → Int32) (hz : Int64) (G : Nat → Nat → Int32) (b : Nat → Nat → Nat) (q : RS) (hM : MR b q J G) (hok9 : hok b) (hT : Tok q) (v w n : Nat) (hv : v < 4) (hw : w ≤ 1) (hn : n < 2 ^ 31) : ROi l yX7_dripBy (wA yX7_dripBy cX7_dripBy 9 (some .int)) ({ frames := 0, cells := 0, slots := 0, locals := 0 }) D (iTys cI) (mW h g cI J hz G) [.ref h, .int (nI 2), .int (nI w), .int (nI v), .int (nI n)] (nI (sd b 2 w v n)) := by
  refine go_start (by decide) (Nat.le_of_ble_eq_true rfl) ?_
  intro p e s m args below meth c ls F _ hB hl
  obtain ⟨hx, hb, hr, hlocks, hml, hown, hts⟩ := F
  obtain ⟨hP, hK⟩ := hB
  have hown : s.vm.findClass RX7 = some m.cls := hown
  have hl : lv_has ls 9 [(0, .ref h), (1, .int (nI 2)), (2, .int (nI w)), (3, .int (nI v)), (4, .int (nI n))] := hl
  have hm1 := (hok9 v hv).1
  have hm4 := (hok9 v hv).2.1
  have hmod : n % b v 0 < b v 0 := Nat.mod_lt _ hm1
  have hb1 := hok_at hok9 (n := n) hv
  have hb2 := hok_back hok9 (n := n) hv
  refine lv_aload_n hx hb dX7_dripBy_0 rfl (lv_at hl 0 rfl) ?_
  refine va_get (D := D) (ci := 7) (v := .ref (g 10)) (C := RX7) (T := TX7) (N := 22) hx hb hts iX7 hown hK hP 0 rfl rfl 10 (by decide) (hts _ mg_472) (fun _ h9 => h9) rfl dX7_dripBy_1 ?_
  refine lv_iconst (v := nI 5) hx hb dX7_dripBy_4 (by decide) ?_
  refine lv_iload_n hx hb dX7_dripBy_5 rfl (lv_at hl 3 rfl) ?_
  refine n_imul hx hb dX7_dripBy_6 ?_
  refine n_aldi hx hb hK hP 4 0 rfl rfl (by omega) (by decide) (v := nI (b v 0)) (MR_len hM (by omega)) dX7_dripBy_7 ?_
  refine lv_istore (lv' := [(5, .int (nI (b v 0))), (0, .ref h), (1, .int (nI 2)), (2, .int (nI w)), (3, .int (nI v)), (4, .int (nI n))]) hx hb dX7_dripBy_8 hl (by decide) rfl (fun ls hl => ?_)
  refine lv_iload hx hb dX7_dripBy_10 (lv_at hl 5 rfl) ?_
  refine lv_iload hx hb dX7_dripBy_12 (lv_at hl 0 rfl) ?_
  refine n_irem hx hb dX7_dripBy_14 (by omega) (by omega) (by omega) ?_
  refine lv_istore (lv' := [(6, .int (nI (n % (b v 0)))), (5, .int (nI (b v 0))), (0, .ref h), (1, .int (nI 2)), (2, .int (nI w)), (3, .int (nI v)), (4, .int (nI n))]) hx hb dX7_dripBy_15 hl (by decide) rfl (fun ls hl => ?_)
  refine lv_iload_n hx hb dX7_dripBy_17 rfl (lv_at hl 3 rfl) ?_
  refine lv_iconst (v := nI 1) hx hb dX7_dripBy_18 (by decide) ?_
  refine j_icmp_eq (tgt := 27) hx hb dX7_dripBy_19 (by decide) (nI_toInt (by decide)) (nI_toInt (by decide)) (fun c_1 => absurd c_1 (by omega)) (fun c_1 => ?_)
  refine lv_iload_n hx hb dX7_dripBy_22 rfl (lv_at hl 3 rfl) ?_
  refine lv_iconst (v := nI 4) hx hb dX7_dripBy_23 (by decide) ?_
  refine j_icmp_ne (tgt := 37) hx hb dX7_dripBy_24 (by decide) (nI_toInt (by decide)) (nI_toInt (by decide)) (fun c_2 => ?_) (fun c_2 => absurd c_2 (by omega))
  refine lv_iload hx hb dX7_dripBy_37 (lv_at hl 0 rfl) ?_
  refine lv_istore (lv' := [(7, .int (nI (n % (b v 0)))), (6, .int (nI (n % (b v 0)))), (5, .int (nI (b v 0))), (0, .ref h), (1, .int (nI 2)), (2, .int (nI w)), (3, .int (nI v)), (4, .int (nI n))]) hx hb dX7_dripBy_39 hl (by decide) rfl (fun ls hl => ?_)
  refine lv_aload_n hx hb dX7_dripBy_41 rfl (lv_at hl 3 rfl) ?_
  refine va_get (D := D) (ci := 7) (v := .ref (g 10)) (C := RX7) (T := TX7) (N := 22) hx hb hts iX7 hown hK hP 0 rfl rfl 10 (by decide) (hts _ mg_472) (fun _ h9 => h9) rfl dX7_dripBy_42 ?_
  refine lv_iconst (v := nI 5) hx hb dX7_dripBy_45 (by decide) ?_
  refine lv_iload_n hx hb dX7_dripBy_46 rfl (lv_at hl 6 rfl) ?_
  refine n_imul hx hb dX7_dripBy_47 ?_
  refine lv_iconst (v := nI 1) hx hb dX7_dripBy_48 (by decide) ?_
  refine n_iadd hx hb dX7_dripBy_49 ?_
  refine lv_iload hx hb dX7_dripBy_50 (lv_at hl 0 rfl) ?_
  refine n_iadd hx hb dX7_dripBy_52 ?_
  refine n_aldi hx hb hK hP 4 0 rfl rfl (by omega) (by decide) (v := nI (b v (1 + (n % (b v 0))))) (MR_beat hM (by omega) (by omega)) dX7_dripBy_53 ?_
  refine lv_istore (lv' := [(8, .int (nI (b v (1 + (n % (b v 0)))))), (7, .int (nI (n % (b v 0)))), (6, .int (nI (n % (b v 0)))), (5, .int (nI (b v 0))), (0, .ref h), (1, .int (nI 2)), (2, .int (nI w)), (3, .int (nI v)), (4, .int (nI n))]) hx hb dX7_dripBy_54 hl (by decide) rfl (fun ls hl => ?_)
  refine lv_iload_n hx hb dX7_dripBy_56 rfl (lv_at hl 5 rfl) ?_
  refine lv_iconst (v := nI 2) hx hb dX7_dripBy_57 (by decide) ?_
  refine j_icmp_ne (tgt := 72) hx hb dX7_dripBy_58 (by decide) (nI_toInt (by decide)) (nI_toInt (by decide)) (fun c_3 => absurd c_3 (by omega)) (fun c_3 => ?_)
  refine lv_iload hx hb dX7_dripBy_61 (lv_at hl 8 rfl) ?_
  refine lv_iconst (v := nI 2) hx hb dX7_dripBy_63 (by decide) ?_
  refine n_irem hx hb dX7_dripBy_64 (by omega) (by omega) (by omega) ?_
  refine lv_iconst (v := nI 1) hx hb dX7_dripBy_65 (by decide) ?_
  refine j_icmp_ne (tgt := 72) hx hb dX7_dripBy_66 (by decide) (nI_toInt (by omega)) (nI_toInt (by decide)) (fun c_4 => ?_) (fun c_4 => ?_)
  · refine lv_iload_n hx hb dX7_dripBy_72 rfl (lv_at hl 5 rfl) ?_
    refine lv_iconst (v := nI 3) hx hb dX7_dripBy_73 (by decide) ?_
    refine j_icmp_ne (tgt := 85) hx hb dX7_dripBy_74 (by decide) (nI_toInt (by decide)) (nI_toInt (by decide)) (fun c_5 => ?_) (fun c_5 => absurd c_5 (by omega))
    refine lv_iload_n hx hb dX7_dripBy_85 rfl (lv_at hl 5 rfl) ?_
    refine lv_iconst (v := nI 4) hx hb dX7_dripBy_86 (by decide) ?_
    refine j_icmp_ne (tgt := 96) hx hb dX7_dripBy_87 (by decide) (nI_toInt (by decide)) (nI_toInt (by decide)) (fun c_6 => ?_) (fun c_6 => absurd c_6 (by omega))
    refine lv_iload_n hx hb dX7_dripBy_96 rfl (lv_at hl 6 rfl) ?_
    refine lv_iconst (v := nI 1) hx hb dX7_dripBy_97 (by decide) ?_
    refine j_icmp_ne (tgt := 108) hx hb dX7_dripBy_98 (by decide) (nI_toInt (by omega)) (nI_toInt (by decide)) (fun c_7 => ?_) (fun c_7 => ?_)
    · refine lv_iload hx hb dX7_dripBy_108 (lv_at hl 0 rfl) ?_
      exact ro_iret hx hb hr hlocks (congrArg nI (by rw [sdE2]; split <;> (try split) <;> omega)) dX7_dripBy_110
    · refine lv_iconst (v := nI 1) hx hb dX7_dripBy_101 (by decide) ?_
      refine lv_iload hx hb dX7_dripBy_102 (lv_at hl 0 rfl) ?_
      refine n_isub hx hb dX7_dripBy_104 (by omega) ?_
      refine lv_goto (tgt := 110) hx hb dX7_dripBy_105 (by decide) ?_
      exact ro_iret hx hb hr hlocks (congrArg nI (by rw [sdE2]; split <;> (try split) <;> omega)) dX7_dripBy_110
  · refine lv_iconst (v := nI 0) hx hb dX7_dripBy_69 (by decide) ?_
    refine lv_istore (lv' := [(8, .int (nI 0)), (7, .int (nI (n % (b v 0)))), (6, .int (nI (n % (b v 0)))), (5, .int (nI (b v 0))), (0, .ref h), (1, .int (nI 2)), (2, .int (nI w)), (3, .int (nI v)), (4, .int (nI n))]) hx hb dX7_dripBy_70 hl (by decide) rfl (fun ls hl => ?_)
    refine lv_iload_n hx hb dX7_dripBy_72 rfl (lv_at hl 5 rfl) ?_
    refine lv_iconst (v := nI 3) hx hb dX7_dripBy_73 (by decide) ?_
    refine j_icmp_ne (tgt := 85) hx hb dX7_dripBy_74 (by decide) (nI_toInt (by decide)) (nI_toInt (by decide)) (fun c_8 => ?_) (fun c_8 => absurd c_8 (by omega))
    refine lv_iload_n hx hb dX7_dripBy_85 rfl (lv_at hl 5 rfl) ?_
    refine lv_iconst (v := nI 4) hx hb dX7_dripBy_86 (by decide) ?_
    refine j_icmp_ne (tgt := 96) hx hb dX7_dripBy_87 (by decide) (nI_toInt (by decide)) (nI_toInt (by decide)) (fun c_9 => ?_) (fun c_9 => absurd c_9 (by omega))
    refine lv_iload_n hx hb dX7_dripBy_96 rfl (lv_at hl 6 rfl) ?_
    refine lv_iconst (v := nI 1) hx hb dX7_dripBy_97 (by decide) ?_
    refine j_icmp_ne (tgt := 108) hx hb dX7_dripBy_98 (by decide) (nI_toInt (by omega)) (nI_toInt (by decide)) (fun c_10 => ?_) (fun c_10 => ?_)
    · refine lv_iload hx hb dX7_dripBy_108 (lv_at hl 0 rfl) ?_
      exact ro_iret hx hb hr hlocks (congrArg nI (by rw [sdE2]; split <;> (try split) <;> omega)) dX7_dripBy_110
    · refine lv_iconst (v := nI 1) hx hb dX7_dripBy_101 (by decide) ?_
      refine lv_iload hx hb dX7_dripBy_102 (lv_at hl 0 rfl) ?_
      refine n_isub hx hb dX7_dripBy_104 (by omega) ?_
      refine lv_goto (tgt := 110) hx hb dX7_dripBy_105 (by decide) ?_
      exact ro_iret hx hb hr hlocks (congrArg nI (by rw [sdE2]; split <;> (try split) <;> omega)) dX7_dripBy_110

set_option maxHeartbeats 4000000 in
set_option maxRecDepth 100000 in
theorem c_X7_dripBy3 (l : Launch) (D : va_G) (h : Nat) (g : Nat → Nat) (cI : ClassId) (J : Nat → Int32) (hz : Int64) (G : Nat → Nat → Int32) (b : Nat → Nat → Nat) (q : RS) (hM : MR b q J G) (hok9 : hok b) (hT : Tok q) (v w n : Nat) (hv : v < 4) (hw : w ≤ 1) (hn : n < 2 ^ 31) : ROi l yX7_dripBy (wA yX7_dripBy cX7_dripBy 9 (some .int)) ({ frames := 0, cells := 0, slots := 0, locals := 0 }) D (iTys cI) (mW h g cI J hz G) [.ref h, .int (nI 3), .int (nI w), .int (nI v), .int (nI n)] (nI (sd b 3 w v n)) := by
  refine go_start (by decide) (Nat.le_of_ble_eq_true rfl) ?_
  intro p e s m args below meth c ls F _ hB hl
  obtain ⟨hx, hb, hr, hlocks, hml, hown, hts⟩ := F
  obtain ⟨hP, hK⟩ := hB
  have hown : s.vm.findClass RX7 = some m.cls := hown
  have hl : lv_has ls 9 [(0, .ref h), (1, .int (nI 3)), (2, .int (nI w)), (3, .int (nI v)), (4, .int (nI n))] := hl
  have hm1 := (hok9 v hv).1
  have hm4 := (hok9 v hv).2.1
  have hmod : n % b v 0 < b v 0 := Nat.mod_lt _ hm1
  have hb1 := hok_at hok9 (n := n) hv
  have hb2 := hok_back hok9 (n := n) hv
  refine lv_aload_n hx hb dX7_dripBy_0 rfl (lv_at hl 0 rfl) ?_
  refine va_get (D := D) (ci := 7) (v := .ref (g 10)) (C := RX7) (T := TX7) (N := 22) hx hb hts iX7 hown hK hP 0 rfl rfl 10 (by decide) (hts _ mg_472) (fun _ h9 => h9) rfl dX7_dripBy_1 ?_
  refine lv_iconst (v := nI 5) hx hb dX7_dripBy_4 (by decide) ?_
  refine lv_iload_n hx hb dX7_dripBy_5 rfl (lv_at hl 3 rfl) ?_
  refine n_imul hx hb dX7_dripBy_6 ?_
  refine n_aldi hx hb hK hP 4 0 rfl rfl (by omega) (by decide) (v := nI (b v 0)) (MR_len hM (by omega)) dX7_dripBy_7 ?_
  refine lv_istore (lv' := [(5, .int (nI (b v 0))), (0, .ref h), (1, .int (nI 3)), (2, .int (nI w)), (3, .int (nI v)), (4, .int (nI n))]) hx hb dX7_dripBy_8 hl (by decide) rfl (fun ls hl => ?_)
  refine lv_iload hx hb dX7_dripBy_10 (lv_at hl 5 rfl) ?_
  refine lv_iload hx hb dX7_dripBy_12 (lv_at hl 0 rfl) ?_
  refine n_irem hx hb dX7_dripBy_14 (by omega) (by omega) (by omega) ?_
  refine lv_istore (lv' := [(6, .int (nI (n % (b v 0)))), (5, .int (nI (b v 0))), (0, .ref h), (1, .int (nI 3)), (2, .int (nI w)), (3, .int (nI v)), (4, .int (nI n))]) hx hb dX7_dripBy_15 hl (by decide) rfl (fun ls hl => ?_)
  refine lv_iload_n hx hb dX7_dripBy_17 rfl (lv_at hl 3 rfl) ?_
  refine lv_iconst (v := nI 1) hx hb dX7_dripBy_18 (by decide) ?_
  refine j_icmp_eq (tgt := 27) hx hb dX7_dripBy_19 (by decide) (nI_toInt (by decide)) (nI_toInt (by decide)) (fun c_1 => absurd c_1 (by omega)) (fun c_1 => ?_)
  refine lv_iload_n hx hb dX7_dripBy_22 rfl (lv_at hl 3 rfl) ?_
  refine lv_iconst (v := nI 4) hx hb dX7_dripBy_23 (by decide) ?_
  refine j_icmp_ne (tgt := 37) hx hb dX7_dripBy_24 (by decide) (nI_toInt (by decide)) (nI_toInt (by decide)) (fun c_2 => ?_) (fun c_2 => absurd c_2 (by omega))
  refine lv_iload hx hb dX7_dripBy_37 (lv_at hl 0 rfl) ?_
  refine lv_istore (lv' := [(7, .int (nI (n % (b v 0)))), (6, .int (nI (n % (b v 0)))), (5, .int (nI (b v 0))), (0, .ref h), (1, .int (nI 3)), (2, .int (nI w)), (3, .int (nI v)), (4, .int (nI n))]) hx hb dX7_dripBy_39 hl (by decide) rfl (fun ls hl => ?_)
  refine lv_aload_n hx hb dX7_dripBy_41 rfl (lv_at hl 3 rfl) ?_
  refine va_get (D := D) (ci := 7) (v := .ref (g 10)) (C := RX7) (T := TX7) (N := 22) hx hb hts iX7 hown hK hP 0 rfl rfl 10 (by decide) (hts _ mg_472) (fun _ h9 => h9) rfl dX7_dripBy_42 ?_
  refine lv_iconst (v := nI 5) hx hb dX7_dripBy_45 (by decide) ?_
  refine lv_iload_n hx hb dX7_dripBy_46 rfl (lv_at hl 6 rfl) ?_
  refine n_imul hx hb dX7_dripBy_47 ?_
  refine lv_iconst (v := nI 1) hx hb dX7_dripBy_48 (by decide) ?_
  refine n_iadd hx hb dX7_dripBy_49 ?_
  refine lv_iload hx hb dX7_dripBy_50 (lv_at hl 0 rfl) ?_
  refine n_iadd hx hb dX7_dripBy_52 ?_
  refine n_aldi hx hb hK hP 4 0 rfl rfl (by omega) (by decide) (v := nI (b v (1 + (n % (b v 0))))) (MR_beat hM (by omega) (by omega)) dX7_dripBy_53 ?_
  refine lv_istore (lv' := [(8, .int (nI (b v (1 + (n % (b v 0)))))), (7, .int (nI (n % (b v 0)))), (6, .int (nI (n % (b v 0)))), (5, .int (nI (b v 0))), (0, .ref h), (1, .int (nI 3)), (2, .int (nI w)), (3, .int (nI v)), (4, .int (nI n))]) hx hb dX7_dripBy_54 hl (by decide) rfl (fun ls hl => ?_)
  refine lv_iload_n hx hb dX7_dripBy_56 rfl (lv_at hl 5 rfl) ?_
  refine lv_iconst (v := nI 2) hx hb dX7_dripBy_57 (by decide) ?_
  refine j_icmp_ne (tgt := 72) hx hb dX7_dripBy_58 (by decide) (nI_toInt (by decide)) (nI_toInt (by decide)) (fun c_3 => ?_) (fun c_3 => absurd c_3 (by omega))
  refine lv_iload_n hx hb dX7_dripBy_72 rfl (lv_at hl 5 rfl) ?_
  refine lv_iconst (v := nI 3) hx hb dX7_dripBy_73 (by decide) ?_
  refine j_icmp_ne (tgt := 85) hx hb dX7_dripBy_74 (by decide) (nI_toInt (by decide)) (nI_toInt (by decide)) (fun c_4 => absurd c_4 (by omega)) (fun c_4 => ?_)
  refine lv_iload hx hb dX7_dripBy_77 (lv_at hl 2 rfl) ?_
  refine j_if_ne (tgt := 85) hx hb dX7_dripBy_79 (by decide) (nI_toInt (by omega)) (fun c_5 => ?_) (fun c_5 => ?_)
  · refine lv_iload_n hx hb dX7_dripBy_85 rfl (lv_at hl 5 rfl) ?_
    refine lv_iconst (v := nI 4) hx hb dX7_dripBy_86 (by decide) ?_
    refine j_icmp_ne (tgt := 96) hx hb dX7_dripBy_87 (by decide) (nI_toInt (by decide)) (nI_toInt (by decide)) (fun c_6 => ?_) (fun c_6 => absurd c_6 (by omega))
    refine lv_iload_n hx hb dX7_dripBy_96 rfl (lv_at hl 6 rfl) ?_
    refine lv_iconst (v := nI 1) hx hb dX7_dripBy_97 (by decide) ?_
    refine j_icmp_ne (tgt := 108) hx hb dX7_dripBy_98 (by decide) (nI_toInt (by omega)) (nI_toInt (by decide)) (fun c_7 => ?_) (fun c_7 => ?_)
    · refine lv_iload hx hb dX7_dripBy_108 (lv_at hl 0 rfl) ?_
      exact ro_iret hx hb hr hlocks (congrArg nI (by rw [sdE3]; split <;> (try split) <;> omega)) dX7_dripBy_110
    · refine lv_iconst (v := nI 1) hx hb dX7_dripBy_101 (by decide) ?_
      refine lv_iload hx hb dX7_dripBy_102 (lv_at hl 0 rfl) ?_
      refine n_isub hx hb dX7_dripBy_104 (by omega) ?_
      refine lv_goto (tgt := 110) hx hb dX7_dripBy_105 (by decide) ?_
      exact ro_iret hx hb hr hlocks (congrArg nI (by rw [sdE3]; split <;> (try split) <;> omega)) dX7_dripBy_110
  · refine lv_iconst (v := nI 1) hx hb dX7_dripBy_82 (by decide) ?_
    refine lv_istore (lv' := [(8, .int (nI 1)), (7, .int (nI (n % (b v 0)))), (6, .int (nI (n % (b v 0)))), (5, .int (nI (b v 0))), (0, .ref h), (1, .int (nI 3)), (2, .int (nI w)), (3, .int (nI v)), (4, .int (nI n))]) hx hb dX7_dripBy_83 hl (by decide) rfl (fun ls hl => ?_)
    refine lv_iload_n hx hb dX7_dripBy_85 rfl (lv_at hl 5 rfl) ?_
    refine lv_iconst (v := nI 4) hx hb dX7_dripBy_86 (by decide) ?_
    refine j_icmp_ne (tgt := 96) hx hb dX7_dripBy_87 (by decide) (nI_toInt (by decide)) (nI_toInt (by decide)) (fun c_8 => ?_) (fun c_8 => absurd c_8 (by omega))
    refine lv_iload_n hx hb dX7_dripBy_96 rfl (lv_at hl 6 rfl) ?_
    refine lv_iconst (v := nI 1) hx hb dX7_dripBy_97 (by decide) ?_
    refine j_icmp_ne (tgt := 108) hx hb dX7_dripBy_98 (by decide) (nI_toInt (by omega)) (nI_toInt (by decide)) (fun c_9 => ?_) (fun c_9 => ?_)
    · refine lv_iload hx hb dX7_dripBy_108 (lv_at hl 0 rfl) ?_
      exact ro_iret hx hb hr hlocks (congrArg nI (by rw [sdE3]; split <;> (try split) <;> omega)) dX7_dripBy_110
    · refine lv_iconst (v := nI 1) hx hb dX7_dripBy_101 (by decide) ?_
      refine lv_iload hx hb dX7_dripBy_102 (lv_at hl 0 rfl) ?_
      refine n_isub hx hb dX7_dripBy_104 (by omega) ?_
      refine lv_goto (tgt := 110) hx hb dX7_dripBy_105 (by decide) ?_
      exact ro_iret hx hb hr hlocks (congrArg nI (by rw [sdE3]; split <;> (try split) <;> omega)) dX7_dripBy_110

set_option maxHeartbeats 4000000 in
set_option maxRecDepth 100000 in
theorem c_X7_dripBy4 (l : Launch) (D : va_G) (h : Nat) (g : Nat → Nat) (cI : ClassId) (J : Nat → Int32) (hz : Int64) (G : Nat → Nat → Int32) (b : Nat → Nat → Nat) (q : RS) (hM : MR b q J G) (hok9 : hok b) (hT : Tok q) (v w n : Nat) (hv : v < 4) (hw : w ≤ 1) (hn : n < 2 ^ 31) : ROi l yX7_dripBy (wA yX7_dripBy cX7_dripBy 9 (some .int)) ({ frames := 0, cells := 0, slots := 0, locals := 0 }) D (iTys cI) (mW h g cI J hz G) [.ref h, .int (nI 4), .int (nI w), .int (nI v), .int (nI n)] (nI (sd b 4 w v n)) := by
  refine go_start (by decide) (Nat.le_of_ble_eq_true rfl) ?_
  intro p e s m args below meth c ls F _ hB hl
  obtain ⟨hx, hb, hr, hlocks, hml, hown, hts⟩ := F
  obtain ⟨hP, hK⟩ := hB
  have hown : s.vm.findClass RX7 = some m.cls := hown
  have hl : lv_has ls 9 [(0, .ref h), (1, .int (nI 4)), (2, .int (nI w)), (3, .int (nI v)), (4, .int (nI n))] := hl
  have hm1 := (hok9 v hv).1
  have hm4 := (hok9 v hv).2.1
  have hmod : n % b v 0 < b v 0 := Nat.mod_lt _ hm1
  have hb1 := hok_at hok9 (n := n) hv
  have hb2 := hok_back hok9 (n := n) hv
  refine lv_aload_n hx hb dX7_dripBy_0 rfl (lv_at hl 0 rfl) ?_
  refine va_get (D := D) (ci := 7) (v := .ref (g 10)) (C := RX7) (T := TX7) (N := 22) hx hb hts iX7 hown hK hP 0 rfl rfl 10 (by decide) (hts _ mg_472) (fun _ h9 => h9) rfl dX7_dripBy_1 ?_
  refine lv_iconst (v := nI 5) hx hb dX7_dripBy_4 (by decide) ?_
  refine lv_iload_n hx hb dX7_dripBy_5 rfl (lv_at hl 3 rfl) ?_
  refine n_imul hx hb dX7_dripBy_6 ?_
  refine n_aldi hx hb hK hP 4 0 rfl rfl (by omega) (by decide) (v := nI (b v 0)) (MR_len hM (by omega)) dX7_dripBy_7 ?_
  refine lv_istore (lv' := [(5, .int (nI (b v 0))), (0, .ref h), (1, .int (nI 4)), (2, .int (nI w)), (3, .int (nI v)), (4, .int (nI n))]) hx hb dX7_dripBy_8 hl (by decide) rfl (fun ls hl => ?_)
  refine lv_iload hx hb dX7_dripBy_10 (lv_at hl 5 rfl) ?_
  refine lv_iload hx hb dX7_dripBy_12 (lv_at hl 0 rfl) ?_
  refine n_irem hx hb dX7_dripBy_14 (by omega) (by omega) (by omega) ?_
  refine lv_istore (lv' := [(6, .int (nI (n % (b v 0)))), (5, .int (nI (b v 0))), (0, .ref h), (1, .int (nI 4)), (2, .int (nI w)), (3, .int (nI v)), (4, .int (nI n))]) hx hb dX7_dripBy_15 hl (by decide) rfl (fun ls hl => ?_)
  refine lv_iload_n hx hb dX7_dripBy_17 rfl (lv_at hl 3 rfl) ?_
  refine lv_iconst (v := nI 1) hx hb dX7_dripBy_18 (by decide) ?_
  refine j_icmp_eq (tgt := 27) hx hb dX7_dripBy_19 (by decide) (nI_toInt (by decide)) (nI_toInt (by decide)) (fun c_1 => absurd c_1 (by omega)) (fun c_1 => ?_)
  refine lv_iload_n hx hb dX7_dripBy_22 rfl (lv_at hl 3 rfl) ?_
  refine lv_iconst (v := nI 4) hx hb dX7_dripBy_23 (by decide) ?_
  refine j_icmp_ne (tgt := 37) hx hb dX7_dripBy_24 (by decide) (nI_toInt (by decide)) (nI_toInt (by decide)) (fun c_2 => absurd c_2 (by omega)) (fun c_2 => ?_)
  refine lv_iload hx hb dX7_dripBy_27 (lv_at hl 1 rfl) ?_
  refine lv_iconst (v := nI 1) hx hb dX7_dripBy_29 (by decide) ?_
  refine n_isub hx hb dX7_dripBy_30 (by omega) ?_
  refine lv_iload hx hb dX7_dripBy_31 (lv_at hl 0 rfl) ?_
  refine n_isub hx hb dX7_dripBy_33 (by omega) ?_
  refine lv_goto (tgt := 39) hx hb dX7_dripBy_34 (by decide) ?_
  refine lv_istore (lv' := [(7, .int (nI (((b v 0) - 1) - (n % (b v 0))))), (6, .int (nI (n % (b v 0)))), (5, .int (nI (b v 0))), (0, .ref h), (1, .int (nI 4)), (2, .int (nI w)), (3, .int (nI v)), (4, .int (nI n))]) hx hb dX7_dripBy_39 hl (by decide) rfl (fun ls hl => ?_)
  refine lv_aload_n hx hb dX7_dripBy_41 rfl (lv_at hl 3 rfl) ?_
  refine va_get (D := D) (ci := 7) (v := .ref (g 10)) (C := RX7) (T := TX7) (N := 22) hx hb hts iX7 hown hK hP 0 rfl rfl 10 (by decide) (hts _ mg_472) (fun _ h9 => h9) rfl dX7_dripBy_42 ?_
  refine lv_iconst (v := nI 5) hx hb dX7_dripBy_45 (by decide) ?_
  refine lv_iload_n hx hb dX7_dripBy_46 rfl (lv_at hl 6 rfl) ?_
  refine n_imul hx hb dX7_dripBy_47 ?_
  refine lv_iconst (v := nI 1) hx hb dX7_dripBy_48 (by decide) ?_
  refine n_iadd hx hb dX7_dripBy_49 ?_
  refine lv_iload hx hb dX7_dripBy_50 (lv_at hl 0 rfl) ?_
  refine n_iadd hx hb dX7_dripBy_52 ?_
  refine n_aldi hx hb hK hP 4 0 rfl rfl (by omega) (by decide) (v := nI (b v (1 + (((b v 0) - 1) - (n % (b v 0)))))) (MR_beat hM (by omega) (by omega)) dX7_dripBy_53 ?_
  refine lv_istore (lv' := [(8, .int (nI (b v (1 + (((b v 0) - 1) - (n % (b v 0))))))), (7, .int (nI (((b v 0) - 1) - (n % (b v 0))))), (6, .int (nI (n % (b v 0)))), (5, .int (nI (b v 0))), (0, .ref h), (1, .int (nI 4)), (2, .int (nI w)), (3, .int (nI v)), (4, .int (nI n))]) hx hb dX7_dripBy_54 hl (by decide) rfl (fun ls hl => ?_)
  refine lv_iload_n hx hb dX7_dripBy_56 rfl (lv_at hl 5 rfl) ?_
  refine lv_iconst (v := nI 2) hx hb dX7_dripBy_57 (by decide) ?_
  refine j_icmp_ne (tgt := 72) hx hb dX7_dripBy_58 (by decide) (nI_toInt (by decide)) (nI_toInt (by decide)) (fun c_3 => ?_) (fun c_3 => absurd c_3 (by omega))
  refine lv_iload_n hx hb dX7_dripBy_72 rfl (lv_at hl 5 rfl) ?_
  refine lv_iconst (v := nI 3) hx hb dX7_dripBy_73 (by decide) ?_
  refine j_icmp_ne (tgt := 85) hx hb dX7_dripBy_74 (by decide) (nI_toInt (by decide)) (nI_toInt (by decide)) (fun c_4 => ?_) (fun c_4 => absurd c_4 (by omega))
  refine lv_iload_n hx hb dX7_dripBy_85 rfl (lv_at hl 5 rfl) ?_
  refine lv_iconst (v := nI 4) hx hb dX7_dripBy_86 (by decide) ?_
  refine j_icmp_ne (tgt := 96) hx hb dX7_dripBy_87 (by decide) (nI_toInt (by decide)) (nI_toInt (by decide)) (fun c_5 => absurd c_5 (by omega)) (fun c_5 => ?_)
  refine lv_iconst (v := nI 1) hx hb dX7_dripBy_90 (by decide) ?_
  refine lv_iload hx hb dX7_dripBy_91 (lv_at hl 0 rfl) ?_
  refine n_isub hx hb dX7_dripBy_93 (by omega) ?_
  refine lv_istore (lv' := [(8, .int (nI (1 - (b v (1 + (((b v 0) - 1) - (n % (b v 0)))))))), (7, .int (nI (((b v 0) - 1) - (n % (b v 0))))), (6, .int (nI (n % (b v 0)))), (5, .int (nI (b v 0))), (0, .ref h), (1, .int (nI 4)), (2, .int (nI w)), (3, .int (nI v)), (4, .int (nI n))]) hx hb dX7_dripBy_94 hl (by decide) rfl (fun ls hl => ?_)
  refine lv_iload_n hx hb dX7_dripBy_96 rfl (lv_at hl 6 rfl) ?_
  refine lv_iconst (v := nI 1) hx hb dX7_dripBy_97 (by decide) ?_
  refine j_icmp_ne (tgt := 108) hx hb dX7_dripBy_98 (by decide) (nI_toInt (by omega)) (nI_toInt (by decide)) (fun c_6 => ?_) (fun c_6 => ?_)
  · refine lv_iload hx hb dX7_dripBy_108 (lv_at hl 0 rfl) ?_
    exact ro_iret hx hb hr hlocks (congrArg nI (by rw [sdE4]; split <;> (try split) <;> omega)) dX7_dripBy_110
  · refine lv_iconst (v := nI 1) hx hb dX7_dripBy_101 (by decide) ?_
    refine lv_iload hx hb dX7_dripBy_102 (lv_at hl 0 rfl) ?_
    refine n_isub hx hb dX7_dripBy_104 (by omega) ?_
    refine lv_goto (tgt := 110) hx hb dX7_dripBy_105 (by decide) ?_
    exact ro_iret hx hb hr hlocks (congrArg nI (by rw [sdE4]; split <;> (try split) <;> omega)) dX7_dripBy_110

theorem c_X7_dripBy (l : Launch) (D : va_G) (h : Nat) (g : Nat → Nat) (cI : ClassId) (J : Nat → Int32) (hz : Int64) (G : Nat → Nat → Int32) (b : Nat → Nat → Nat) (q : RS) (hM : MR b q J G) (hok9 : hok b) (hT : Tok q) (kd v w n : Nat) (hk : kd < 5) (hv : v < 4) (hw : w ≤ 1) (hn : n < 2 ^ 31) : ROi l yX7_dripBy (wA yX7_dripBy cX7_dripBy 9 (some .int)) ({ frames := 0, cells := 0, slots := 0, locals := 0 }) D (iTys cI) (mW h g cI J hz G) [.ref h, .int (nI kd), .int (nI w), .int (nI v), .int (nI n)] (nI (sd b kd w v n)) := by
  match kd, hk with
  | 0, _ => exact c_X7_dripBy0 l D h g cI J hz G b q hM hok9 hT v w n hv hw hn
  | 1, _ => exact c_X7_dripBy1 l D h g cI J hz G b q hM hok9 hT v w n hv hw hn
  | 2, _ => exact c_X7_dripBy2 l D h g cI J hz G b q hM hok9 hT v w n hv hw hn
  | 3, _ => exact c_X7_dripBy3 l D h g cI J hz G b q hM hok9 hT v w n hv hw hn
  | 4, _ => exact c_X7_dripBy4 l D h g cI J hz G b q hM hok9 hT v w n hv hw hn

set_option maxHeartbeats 4000000 in
set_option maxRecDepth 100000 in
theorem c_X7_dripAs (l : Launch) (D : va_G) (h : Nat) (g : Nat → Nat) (cI : ClassId) (J : Nat → Int32) (hz : Int64) (G : Nat → Nat → Int32) (b : Nat → Nat → Nat) (q : RS) (hM : MR b q J G) (hok9 : hok b) (hT : Tok q) (i : Nat) (hi : i < q.1) (v n : Nat) (hv : v < 4) (hn : n < 2 ^ 31) : ROi l yX7_dripAs (wA yX7_dripAs cX7_dripAs 4 (some .int)) ({ frames := 1, cells := 0, slots := 0, locals := 28 }) D (iTys cI) (mW h g cI J hz G) [.ref h, .int (nI i), .int (nI v), .int (nI n)] (nI (sd b (q.2.2.2.1 i 0) (q.2.2.2.1 i 2) v n)) := by
  refine go_start (by decide) (Nat.le_of_ble_eq_true rfl) ?_
  intro p e s m args below meth c ls F _ hB hl
  obtain ⟨hx, hb, hr, hlocks, hml, hown, hts⟩ := F
  obtain ⟨hP, hK⟩ := hB
  have hown : s.vm.findClass RX7 = some m.cls := hown
  have hl : lv_has ls 4 [(0, .ref h), (1, .int (nI i)), (2, .int (nI v)), (3, .int (nI n))] := hl
  have ht5 := hT.1
  have ht8 := hT.2.1
  obtain ⟨hk0, hv0, hw0, hp0⟩ := hT.2.2.1 i hi
  refine lv_aload_n hx hb dX7_dripAs_0 rfl (lv_at hl 0 rfl) ?_
  refine lv_aload_n hx hb dX7_dripAs_1 rfl (lv_at hl 0 rfl) ?_
  refine va_get (D := D) (ci := 7) (v := .ref (g 11)) (C := RX7) (T := TX7) (N := 22) hx hb hts iX7 hown hK hP 0 rfl rfl 11 (by decide) (hts _ mg_473) (fun _ h9 => h9) rfl dX7_dripAs_2 ?_
  refine lv_iconst (v := nI 4) hx hb dX7_dripAs_5 (by decide) ?_
  refine lv_iload_n hx hb dX7_dripAs_6 rfl (lv_at hl 1 rfl) ?_
  refine n_imul hx hb dX7_dripAs_7 ?_
  refine n_aldi hx hb hK hP 5 0 rfl rfl (by omega) (by decide) (v := nI (q.2.2.2.1 i 0)) (MR_row0 hM (by omega)) dX7_dripAs_8 ?_
  refine lv_aload_n hx hb dX7_dripAs_9 rfl (lv_at hl 0 rfl) ?_
  refine va_get (D := D) (ci := 7) (v := .ref (g 11)) (C := RX7) (T := TX7) (N := 22) hx hb hts iX7 hown hK hP 0 rfl rfl 11 (by decide) (hts _ mg_473) (fun _ h9 => h9) rfl dX7_dripAs_10 ?_
  refine lv_iconst (v := nI 4) hx hb dX7_dripAs_13 (by decide) ?_
  refine lv_iload_n hx hb dX7_dripAs_14 rfl (lv_at hl 1 rfl) ?_
  refine n_imul hx hb dX7_dripAs_15 ?_
  refine lv_iconst (v := nI 2) hx hb dX7_dripAs_16 (by decide) ?_
  refine n_iadd hx hb dX7_dripAs_17 ?_
  refine n_aldi hx hb hK hP 5 0 rfl rfl (by omega) (by decide) (v := nI (q.2.2.2.1 i 2)) (MR_row hM (by omega) (by omega)) dX7_dripAs_18 ?_
  refine lv_iload_n hx hb dX7_dripAs_19 rfl (lv_at hl 2 rfl) ?_
  refine lv_iload_n hx hb dX7_dripAs_20 rfl (lv_at hl 3 rfl) ?_
  refine ro_iV (n := 4) (As := [.int (nI (q.2.2.2.1 i 0)), .int (nI (q.2.2.2.1 i 2)), .int (nI v), .int (nI n)]) ⟨hx, hb, hml, hown, hts⟩ (c_X7_dripBy l D h g cI J hz G b q hM hok9 hT (q.2.2.2.1 i 0) v (q.2.2.2.1 i 2) n (by omega) (by omega) (by omega) (by omega)) (cwV 4 hts (gV mg_616 mg_618 mg_1027 mg_8 mg_619) rfl rfl rfl vd_X7_dripBy ⟨Nat.le_of_ble_eq_true rfl, Nat.le_of_ble_eq_true rfl⟩) (va_recv hK hP (ci := 7) (q0 := 0) rfl rfl) hK hP rfl hl.1 rfl (Nat.le_of_ble_eq_true rfl) dX7_dripAs_21 ⟨Nat.zero_le _, Nat.zero_le _⟩ ?_
  exact ro_iret hx hb hr hlocks (rfl) dX7_dripAs_24

set_option maxHeartbeats 4000000 in
set_option maxRecDepth 100000 in
theorem c_X7_dripOf (l : Launch) (D : va_G) (h : Nat) (g : Nat → Nat) (cI : ClassId) (J : Nat → Int32) (hz : Int64) (G : Nat → Nat → Int32) (b : Nat → Nat → Nat) (q : RS) (hM : MR b q J G) (hok9 : hok b) (hT : Tok q) (i : Nat) (hi : i < q.1) (n : Nat) (hn : n < 2 ^ 31) : ROi l yX7_dripOf (wA yX7_dripOf cX7_dripOf 3 (some .int)) ({ frames := 2, cells := 0, slots := 0, locals := 51 }) D (iTys cI) (mW h g cI J hz G) [.ref h, .int (nI i), .int (nI n)] (nI (sd b (q.2.2.2.1 i 0) (q.2.2.2.1 i 2) (q.2.2.2.1 i 1) n)) := by
  refine go_start (by decide) (Nat.le_of_ble_eq_true rfl) ?_
  intro p e s m args below meth c ls F _ hB hl
  obtain ⟨hx, hb, hr, hlocks, hml, hown, hts⟩ := F
  obtain ⟨hP, hK⟩ := hB
  have hown : s.vm.findClass RX7 = some m.cls := hown
  have hl : lv_has ls 3 [(0, .ref h), (1, .int (nI i)), (2, .int (nI n))] := hl
  have ht5 := hT.1
  have ht8 := hT.2.1
  obtain ⟨hk0, hv0, hw0, hp0⟩ := hT.2.2.1 i hi
  refine lv_aload_n hx hb dX7_dripOf_0 rfl (lv_at hl 0 rfl) ?_
  refine lv_iload_n hx hb dX7_dripOf_1 rfl (lv_at hl 1 rfl) ?_
  refine lv_aload_n hx hb dX7_dripOf_2 rfl (lv_at hl 0 rfl) ?_
  refine va_get (D := D) (ci := 7) (v := .ref (g 11)) (C := RX7) (T := TX7) (N := 22) hx hb hts iX7 hown hK hP 0 rfl rfl 11 (by decide) (hts _ mg_473) (fun _ h9 => h9) rfl dX7_dripOf_3 ?_
  refine lv_iconst (v := nI 4) hx hb dX7_dripOf_6 (by decide) ?_
  refine lv_iload_n hx hb dX7_dripOf_7 rfl (lv_at hl 1 rfl) ?_
  refine n_imul hx hb dX7_dripOf_8 ?_
  refine lv_iconst (v := nI 1) hx hb dX7_dripOf_9 (by decide) ?_
  refine n_iadd hx hb dX7_dripOf_10 ?_
  refine n_aldi hx hb hK hP 5 0 rfl rfl (by omega) (by decide) (v := nI (q.2.2.2.1 i 1)) (MR_row hM (by omega) (by omega)) dX7_dripOf_11 ?_
  refine lv_iload_n hx hb dX7_dripOf_12 rfl (lv_at hl 2 rfl) ?_
  refine ro_iV (n := 3) (As := [.int (nI i), .int (nI (q.2.2.2.1 i 1)), .int (nI n)]) ⟨hx, hb, hml, hown, hts⟩ (c_X7_dripAs l D h g cI J hz G b q hM hok9 hT i (by omega) (q.2.2.2.1 i 1) n (by omega) (by omega)) (cwV 3 hts (gV mg_612 mg_614 mg_1026 mg_8 mg_615) rfl rfl rfl vd_X7_dripAs ⟨Nat.le_of_ble_eq_true rfl, Nat.le_of_ble_eq_true rfl⟩) (va_recv hK hP (ci := 7) (q0 := 0) rfl rfl) hK hP rfl hl.1 rfl (Nat.le_of_ble_eq_true rfl) dX7_dripOf_13 ⟨Nat.zero_le _, Nat.zero_le _⟩ ?_
  exact ro_iret hx hb hr hlocks (rfl) dX7_dripOf_16

set_option maxHeartbeats 4000000 in
set_option maxRecDepth 100000 in
theorem c_X7_patternOf (l : Launch) (D : va_G) (h : Nat) (g : Nat → Nat) (cI : ClassId) (J : Nat → Int32) (hz : Int64) (G : Nat → Nat → Int32) (b : Nat → Nat → Nat) (q : RS) (hM : MR b q J G) (hok9 : hok b) (hT : Tok q) (i : Nat) (hi : i < q.1) (v m9 : Nat) (hv : v < 4) (hm9 : m9 ≤ 16) : ROi l yX7_patternOf (wA yX7_patternOf cX7_patternOf 6 (some .int)) ({ frames := 2, cells := 0, slots := 0, locals := 51 }) D (iTys cI) (mW h g cI J hz G) [.ref h, .int (nI i), .int (nI v), .int (nI m9)] (nI (ptn (dpl b q.2.2.2.1 i v) m9)) := by
  refine go_start (by decide) (Nat.le_of_ble_eq_true rfl) ?_
  intro p e s m args below meth c ls F _ hB hl
  obtain ⟨hx, hb, hr, hlocks, hml, hown, hts⟩ := F
  obtain ⟨hP, hK⟩ := hB
  have hown : s.vm.findClass RX7 = some m.cls := hown
  have hl : lv_has ls 6 [(0, .ref h), (1, .int (nI i)), (2, .int (nI v)), (3, .int (nI m9))] := hl
  have ht5 := hT.1
  have ht8 := hT.2.1
  obtain ⟨hk0, hv0, hw0, hp0⟩ := hT.2.2.1 i hi
  refine lv_iconst (v := nI 0) hx hb dX7_patternOf_0 (by decide) ?_
  refine lv_istore (lv' := [(4, .int (nI 0)), (0, .ref h), (1, .int (nI i)), (2, .int (nI v)), (3, .int (nI m9))]) hx hb dX7_patternOf_1 hl (by decide) rfl (fun ls hl => ?_)
  refine lv_iconst (v := nI 0) hx hb dX7_patternOf_3 (by decide) ?_
  refine lv_istore (lv' := [(5, .int (nI 0)), (4, .int (nI 0)), (0, .ref h), (1, .int (nI i)), (2, .int (nI v)), (3, .int (nI m9))]) hx hb dX7_patternOf_4 hl (by decide) rfl (fun ls hl => ?_)
  have K_1 : ∀ n9 : Nat, ∀ (x : Nat) (n : Nat), n ≤ m9 → x = ptn (dpl b q.2.2.2.1 i v) n → m9 - n < n9 → ∀ ls : Array Slot, lv_has ls 6 [(0, .ref h), (1, .int (nI i)), (2, .int (nI v)), (3, .int (nI m9)), (4, .int (nI x)), (5, .int (nI n))] → W p l e (headSpec (wA yX7_patternOf cX7_patternOf 6 (some .int)) ({ frames := 2, cells := 0, slots := 0, locals := 51 })).room s m args below meth c s.heap [] 0 0 (MQ below (vp_Si (fun z9 => z9 = nI (ptn (dpl b q.2.2.2.1 i v) m9))) args s 0 0 (fun _ => False)) (F0 m 6 ls []) := by
    intro n9
    induction n9 with
    | zero => intros; omega
    | succ n9 ih_2 =>
      intro x n hn hx0 hn9 ls hl
      refine lv_iload hx hb dX7_patternOf_6 (lv_at hl 5 rfl) ?_
      refine lv_iload_n hx hb dX7_patternOf_8 rfl (lv_at hl 3 rfl) ?_
      refine j_icmp_ge (tgt := 45) hx hb dX7_patternOf_9 (by decide) (nI_toInt (by omega)) (nI_toInt (by omega)) (fun c_3 => ?_) (fun c_3 => ?_)
      · refine lv_iload hx hb dX7_patternOf_45 (lv_at hl 4 rfl) ?_
        exact ro_iret hx hb hr hlocks (by rw [hx0, show n = m9 by omega]) dX7_patternOf_47
      · refine lv_iload hx hb dX7_patternOf_12 (lv_at hl 4 rfl) ?_
        refine lv_aload_n hx hb dX7_patternOf_14 rfl (lv_at hl 0 rfl) ?_
        refine lv_iload_n hx hb dX7_patternOf_15 rfl (lv_at hl 1 rfl) ?_
        refine lv_iload_n hx hb dX7_patternOf_16 rfl (lv_at hl 2 rfl) ?_
        refine lv_aload_n hx hb dX7_patternOf_17 rfl (lv_at hl 0 rfl) ?_
        refine va_get (D := D) (ci := 7) (v := .ref (g 11)) (C := RX7) (T := TX7) (N := 22) hx hb hts iX7 hown hK hP 0 rfl rfl 11 (by decide) (hts _ mg_473) (fun _ h9 => h9) rfl dX7_patternOf_18 ?_
        refine lv_iconst (v := nI 4) hx hb dX7_patternOf_21 (by decide) ?_
        refine lv_iload_n hx hb dX7_patternOf_22 rfl (lv_at hl 1 rfl) ?_
        refine n_imul hx hb dX7_patternOf_23 ?_
        refine lv_iconst (v := nI 3) hx hb dX7_patternOf_24 (by decide) ?_
        refine n_iadd hx hb dX7_patternOf_25 ?_
        refine n_aldi hx hb hK hP 5 0 rfl rfl (by omega) (by decide) (v := nI (q.2.2.2.1 i 3)) (MR_row hM (by omega) (by omega)) dX7_patternOf_26 ?_
        refine lv_iload hx hb dX7_patternOf_27 (lv_at hl 5 rfl) ?_
        refine n_iadd hx hb dX7_patternOf_29 ?_
        refine ro_iV (n := 3) (As := [.int (nI i), .int (nI v), .int (nI ((q.2.2.2.1 i 3) + n))]) ⟨hx, hb, hml, hown, hts⟩ (c_X7_dripAs l D h g cI J hz G b q hM hok9 hT i (by omega) v ((q.2.2.2.1 i 3) + n) (by omega) (by omega)) (cwV 3 hts (gV mg_612 mg_614 mg_1026 mg_8 mg_615) rfl rfl rfl vd_X7_dripAs ⟨Nat.le_of_ble_eq_true rfl, Nat.le_of_ble_eq_true rfl⟩) (va_recv hK hP (ci := 7) (q0 := 0) rfl rfl) hK hP rfl hl.1 rfl (Nat.le_of_ble_eq_true rfl) dX7_patternOf_30 ⟨Nat.zero_le _, Nat.zero_le _⟩ ?_
        refine lv_iload hx hb dX7_patternOf_33 (lv_at hl 5 rfl) ?_
        refine n_ishl hx hb dX7_patternOf_35 (by omega) (sh_ok (sd_le hok9 hv) (by omega)) ?_
        refine n_ior hx hb dX7_patternOf_36 ?_
        refine lv_istore (lv' := [(4, .int (nI (x ||| ((sd b (q.2.2.2.1 i 0) (q.2.2.2.1 i 2) v ((q.2.2.2.1 i 3) + n)) * 2 ^ n)))), (0, .ref h), (1, .int (nI i)), (2, .int (nI v)), (3, .int (nI m9)), (5, .int (nI n))]) hx hb dX7_patternOf_37 hl (by decide) rfl (fun ls hl => ?_)
        refine lv_iinc (v := nI (n + 1)) (lv' := [(5, .int (nI (n + 1))), (4, .int (nI (x ||| ((sd b (q.2.2.2.1 i 0) (q.2.2.2.1 i 2) v ((q.2.2.2.1 i 3) + n)) * 2 ^ n)))), (0, .ref h), (1, .int (nI i)), (2, .int (nI v)), (3, .int (nI m9))]) hx hb dX7_patternOf_39 hl (k := 5) rfl (fr_inc1 _) (by decide) rfl (fun ls hl => ?_)
        refine lv_goto (tgt := 6) hx hb dX7_patternOf_42 (by decide) ?_
        exact ih_2 (x ||| ((sd b (q.2.2.2.1 i 0) (q.2.2.2.1 i 2) v ((q.2.2.2.1 i 3) + n)) * 2 ^ n)) (n + 1) (by omega) (by rw [hx0]; rfl) (by omega) _ (lv_sub hl [2, 3, 4, 5, 1, 0] rfl)
  exact K_1 (m9 - 0 + 1) 0 0 (by omega) (rfl) (Nat.lt_succ_self _) _ (lv_sub hl [2, 3, 4, 5, 1, 0] rfl)

set_option maxHeartbeats 4000000 in
set_option maxRecDepth 100000 in
theorem c_X7_sureOf (l : Launch) (D : va_G) (h : Nat) (g : Nat → Nat) (cI : ClassId) (J : Nat → Int32) (hz : Int64) (G : Nat → Nat → Int32) (b : Nat → Nat → Nat) (q : RS) (hM : MR b q J G) (hok9 : hok b) (hT : Tok q) (i : Nat) (hi : i < q.1) : ROi l yX7_sureOf (wA yX7_sureOf cX7_sureOf 6 (some .int)) ({ frames := 3, cells := 0, slots := 0, locals := 76 }) D (iTys cI) (mW h g cI J hz G) [.ref h, .int (nI i)] (sur (fda b q.2.2.2.1 i)) := by
  refine go_start (by decide) (Nat.le_of_ble_eq_true rfl) ?_
  intro p e s m args below meth c ls F _ hB hl
  obtain ⟨hx, hb, hr, hlocks, hml, hown, hts⟩ := F
  obtain ⟨hP, hK⟩ := hB
  have hown : s.vm.findClass RX7 = some m.cls := hown
  have hl : lv_has ls 6 [(0, .ref h), (1, .int (nI i))] := hl
  have ht5 := hT.1
  have ht8 := hT.2.1
  obtain ⟨hk0, hv0, hw0, hp0⟩ := hT.2.2.1 i hi
  have hl01 := fda_le b q.2.2.2.1 i 0 1
  have hl02 := fda_le b q.2.2.2.1 i 0 2
  have hl12 := fda_le b q.2.2.2.1 i 1 2
  have hl03 := fda_le b q.2.2.2.1 i 0 3
  have hl13 := fda_le b q.2.2.2.1 i 1 3
  have hl23 := fda_le b q.2.2.2.1 i 2 3
  refine lv_iconst (v := nI 1) hx hb dX7_sureOf_0 (by decide) ?_
  refine lv_istore_n (lv' := [(2, .int (nI 1)), (0, .ref h), (1, .int (nI i))]) hx hb dX7_sureOf_1 rfl hl (by decide) rfl (fun ls hl => ?_)
  have K_1 : ∀ n9 : Nat, ∀ (m9 : Nat), 1 ≤ m9 → m9 ≤ 17 → m9 = 1 ∨ m9 ≤ fda b q.2.2.2.1 i 0 1 + 1 ∨ m9 ≤ fda b q.2.2.2.1 i 0 2 + 1 ∨ m9 ≤ fda b q.2.2.2.1 i 1 2 + 1 ∨ m9 ≤ fda b q.2.2.2.1 i 0 3 + 1 ∨ m9 ≤ fda b q.2.2.2.1 i 1 3 + 1 ∨ m9 ≤ fda b q.2.2.2.1 i 2 3 + 1 → 17 - m9 < n9 → ∀ ls : Array Slot, lv_has ls 6 [(0, .ref h), (1, .int (nI i)), (2, .int (nI m9))] → W p l e (headSpec (wA yX7_sureOf cX7_sureOf 6 (some .int)) ({ frames := 3, cells := 0, slots := 0, locals := 76 })).room s m args below meth c s.heap [] 0 0 (MQ below (vp_Si (fun z9 => z9 = sur (fda b q.2.2.2.1 i))) args s 0 0 (fun _ => False)) (F0 m 2 ls []) := by
    intro n9
    induction n9 with
    | zero => intros; omega
    | succ n9 ih_2 =>
      intro m9 hm1 hm2 hE hn9 ls hl
      refine lv_iload_n hx hb dX7_sureOf_2 rfl (lv_at hl 2 rfl) ?_
      refine lv_bipush (v := nI 17) hx hb dX7_sureOf_3 (by decide) ?_
      refine j_icmp_ge (tgt := 82) hx hb dX7_sureOf_5 (by decide) (nI_toInt (by omega)) (nI_toInt (by decide)) (fun c_3 => ?_) (fun c_3 => ?_)
      · refine lv_iconst (v := (-1)) hx hb dX7_sureOf_82 (by decide) ?_
        exact ro_iret hx hb hr hlocks (by rw [sur, if_pos (by omega)]) dX7_sureOf_83
      · refine lv_iconst (v := nI 1) hx hb dX7_sureOf_8 (by decide) ?_
        refine lv_istore_n (lv' := [(3, .int (nI 1)), (0, .ref h), (1, .int (nI i)), (2, .int (nI m9))]) hx hb dX7_sureOf_9 rfl hl (by decide) rfl (fun ls hl => ?_)
        refine lv_iconst (v := nI 0) hx hb dX7_sureOf_10 (by decide) ?_
        refine lv_istore (lv' := [(4, .int (nI 0)), (3, .int (nI 1)), (0, .ref h), (1, .int (nI i)), (2, .int (nI m9))]) hx hb dX7_sureOf_11 hl (by decide) rfl (fun ls hl => ?_)
        refine lv_iload hx hb dX7_sureOf_13 (lv_at hl 0 rfl) ?_
        refine lv_iconst (v := nI 4) hx hb dX7_sureOf_15 (by decide) ?_
        refine j_icmp_ge (tgt := 70) hx hb dX7_sureOf_16 (by decide) (nI_toInt (by decide)) (nI_toInt (by decide)) (fun c_4 => absurd c_4 (by omega)) (fun c_4 => ?_)
        refine lv_iconst (v := nI 0) hx hb dX7_sureOf_19 (by decide) ?_
        refine lv_istore (lv' := [(5, .int (nI 0)), (4, .int (nI 0)), (3, .int (nI 1)), (0, .ref h), (1, .int (nI i)), (2, .int (nI m9))]) hx hb dX7_sureOf_20 hl (by decide) rfl (fun ls hl => ?_)
        refine lv_iload hx hb dX7_sureOf_22 (lv_at hl 0 rfl) ?_
        refine lv_iload hx hb dX7_sureOf_24 (lv_at hl 1 rfl) ?_
        refine j_icmp_ge (tgt := 64) hx hb dX7_sureOf_26 (by decide) (nI_toInt (by decide)) (nI_toInt (by decide)) (fun c_5 => ?_) (fun c_5 => absurd c_5 (by omega))
        refine lv_iinc (v := nI 1) (lv' := [(4, .int (nI 1)), (5, .int (nI 0)), (3, .int (nI 1)), (0, .ref h), (1, .int (nI i)), (2, .int (nI m9))]) hx hb dX7_sureOf_64 hl (k := 1) rfl rfl (by decide) rfl (fun ls hl => ?_)
        refine lv_goto (tgt := 13) hx hb dX7_sureOf_67 (by decide) ?_
        refine lv_iload hx hb dX7_sureOf_13 (lv_at hl 0 rfl) ?_
        refine lv_iconst (v := nI 4) hx hb dX7_sureOf_15 (by decide) ?_
        refine j_icmp_ge (tgt := 70) hx hb dX7_sureOf_16 (by decide) (nI_toInt (by decide)) (nI_toInt (by decide)) (fun c_6 => absurd c_6 (by omega)) (fun c_6 => ?_)
        refine lv_iconst (v := nI 0) hx hb dX7_sureOf_19 (by decide) ?_
        refine lv_istore (lv' := [(5, .int (nI 0)), (4, .int (nI 1)), (3, .int (nI 1)), (0, .ref h), (1, .int (nI i)), (2, .int (nI m9))]) hx hb dX7_sureOf_20 hl (by decide) rfl (fun ls hl => ?_)
        refine lv_iload hx hb dX7_sureOf_22 (lv_at hl 0 rfl) ?_
        refine lv_iload hx hb dX7_sureOf_24 (lv_at hl 1 rfl) ?_
        refine j_icmp_ge (tgt := 64) hx hb dX7_sureOf_26 (by decide) (nI_toInt (by decide)) (nI_toInt (by decide)) (fun c_7 => absurd c_7 (by omega)) (fun c_7 => ?_)
        refine lv_iload_n hx hb dX7_sureOf_29 rfl (lv_at hl 2 rfl) ?_
        refine j_if_eq (tgt := 56) hx hb dX7_sureOf_30 (by decide) (nI_toInt (by decide)) (fun c_8 => absurd c_8 (by omega)) (fun c_8 => ?_)
        refine lv_aload_n hx hb dX7_sureOf_33 rfl (lv_at hl 3 rfl) ?_
        refine lv_iload_n hx hb dX7_sureOf_34 rfl (lv_at hl 4 rfl) ?_
        refine lv_iload hx hb dX7_sureOf_35 (lv_at hl 1 rfl) ?_
        refine lv_iload_n hx hb dX7_sureOf_37 rfl (lv_at hl 5 rfl) ?_
        refine ro_iV (n := 3) (As := [.int (nI i), .int (nI 1), .int (nI m9)]) ⟨hx, hb, hml, hown, hts⟩ (c_X7_patternOf l D h g cI J hz G b q hM hok9 hT i hi 1 m9 (by decide) (by omega)) (cwV 3 hts (gV mg_608 mg_610 mg_1025 mg_8 mg_611) rfl rfl rfl vd_X7_patternOf ⟨Nat.le_of_ble_eq_true rfl, Nat.le_of_ble_eq_true rfl⟩) (va_recv hK hP (ci := 7) (q0 := 0) rfl rfl) hK hP rfl hl.1 rfl (Nat.le_of_ble_eq_true rfl) dX7_sureOf_38 ⟨Nat.zero_le _, Nat.zero_le _⟩ ?_
        refine lv_aload_n hx hb dX7_sureOf_41 rfl (lv_at hl 3 rfl) ?_
        refine lv_iload_n hx hb dX7_sureOf_42 rfl (lv_at hl 4 rfl) ?_
        refine lv_iload hx hb dX7_sureOf_43 (lv_at hl 0 rfl) ?_
        refine lv_iload_n hx hb dX7_sureOf_45 rfl (lv_at hl 5 rfl) ?_
        refine ro_iV (n := 3) (As := [.int (nI i), .int (nI 0), .int (nI m9)]) ⟨hx, hb, hml, hown, hts⟩ (c_X7_patternOf l D h g cI J hz G b q hM hok9 hT i hi 0 m9 (by decide) (by omega)) (cwV 3 hts (gV mg_608 mg_610 mg_1025 mg_8 mg_611) rfl rfl rfl vd_X7_patternOf ⟨Nat.le_of_ble_eq_true rfl, Nat.le_of_ble_eq_true rfl⟩) (va_recv hK hP (ci := 7) (q0 := 0) rfl rfl) hK hP rfl hl.1 rfl (Nat.le_of_ble_eq_true rfl) dX7_sureOf_46 ⟨Nat.zero_le _, Nat.zero_le _⟩ ?_
        have hq1 := ptn_lt16 (f := dpl b q.2.2.2.1 i 1) (fun _ => sd_le hok9 (by decide)) (n := m9) (by omega)
        have hq2 := ptn_lt16 (f := dpl b q.2.2.2.1 i 0) (fun _ => sd_le hok9 (by decide)) (n := m9) (by omega)
        have hq3 := ptn_fda hok9 (t := q.2.2.2.1) (i := i) (x := 1) (y := 0) (m := m9) (by decide) (by decide) (by omega)
        refine j_icmp_eq (tgt := 56) hx hb dX7_sureOf_49 (by decide) (nI_toInt (by omega)) (nI_toInt (by omega)) (fun c_9 => ?_) (fun c_9 => ?_)
        · have hz_10 : m9 ≤ fda b q.2.2.2.1 i 0 1 := hq3.mp (by omega)
          refine lv_iconst (v := nI 0) hx hb dX7_sureOf_56 (by decide) ?_
          refine lv_istore_n (lv' := [(3, .int (nI 0)), (5, .int (nI 0)), (4, .int (nI 1)), (0, .ref h), (1, .int (nI i)), (2, .int (nI m9))]) hx hb dX7_sureOf_57 rfl hl (by decide) rfl (fun ls hl => ?_)
          refine lv_iinc (v := nI 1) (lv' := [(5, .int (nI 1)), (3, .int (nI 0)), (4, .int (nI 1)), (0, .ref h), (1, .int (nI i)), (2, .int (nI m9))]) hx hb dX7_sureOf_58 hl (k := 1) rfl rfl (by decide) rfl (fun ls hl => ?_)
          refine lv_goto (tgt := 22) hx hb dX7_sureOf_61 (by decide) ?_
          refine lv_iload hx hb dX7_sureOf_22 (lv_at hl 0 rfl) ?_
          refine lv_iload hx hb dX7_sureOf_24 (lv_at hl 2 rfl) ?_
          refine j_icmp_ge (tgt := 64) hx hb dX7_sureOf_26 (by decide) (nI_toInt (by decide)) (nI_toInt (by decide)) (fun c_11 => ?_) (fun c_11 => absurd c_11 (by omega))
          refine lv_iinc (v := nI 2) (lv' := [(4, .int (nI 2)), (5, .int (nI 1)), (3, .int (nI 0)), (0, .ref h), (1, .int (nI i)), (2, .int (nI m9))]) hx hb dX7_sureOf_64 hl (k := 2) rfl rfl (by decide) rfl (fun ls hl => ?_)
          refine lv_goto (tgt := 13) hx hb dX7_sureOf_67 (by decide) ?_
          refine lv_iload hx hb dX7_sureOf_13 (lv_at hl 0 rfl) ?_
          refine lv_iconst (v := nI 4) hx hb dX7_sureOf_15 (by decide) ?_
          refine j_icmp_ge (tgt := 70) hx hb dX7_sureOf_16 (by decide) (nI_toInt (by decide)) (nI_toInt (by decide)) (fun c_12 => absurd c_12 (by omega)) (fun c_12 => ?_)
          refine lv_iconst (v := nI 0) hx hb dX7_sureOf_19 (by decide) ?_
          refine lv_istore (lv' := [(5, .int (nI 0)), (4, .int (nI 2)), (3, .int (nI 0)), (0, .ref h), (1, .int (nI i)), (2, .int (nI m9))]) hx hb dX7_sureOf_20 hl (by decide) rfl (fun ls hl => ?_)
          refine lv_iload hx hb dX7_sureOf_22 (lv_at hl 0 rfl) ?_
          refine lv_iload hx hb dX7_sureOf_24 (lv_at hl 1 rfl) ?_
          refine j_icmp_ge (tgt := 64) hx hb dX7_sureOf_26 (by decide) (nI_toInt (by decide)) (nI_toInt (by decide)) (fun c_13 => absurd c_13 (by omega)) (fun c_13 => ?_)
          refine lv_iload_n hx hb dX7_sureOf_29 rfl (lv_at hl 2 rfl) ?_
          refine j_if_eq (tgt := 56) hx hb dX7_sureOf_30 (by decide) (nI_toInt (by decide)) (fun c_14 => ?_) (fun c_14 => absurd c_14 (by omega))
          refine lv_iconst (v := nI 0) hx hb dX7_sureOf_56 (by decide) ?_
          refine lv_istore_n (lv' := [(3, .int (nI 0)), (5, .int (nI 0)), (4, .int (nI 2)), (0, .ref h), (1, .int (nI i)), (2, .int (nI m9))]) hx hb dX7_sureOf_57 rfl hl (by decide) rfl (fun ls hl => ?_)
          refine lv_iinc (v := nI 1) (lv' := [(5, .int (nI 1)), (3, .int (nI 0)), (4, .int (nI 2)), (0, .ref h), (1, .int (nI i)), (2, .int (nI m9))]) hx hb dX7_sureOf_58 hl (k := 1) rfl rfl (by decide) rfl (fun ls hl => ?_)
          refine lv_goto (tgt := 22) hx hb dX7_sureOf_61 (by decide) ?_
          refine lv_iload hx hb dX7_sureOf_22 (lv_at hl 0 rfl) ?_
          refine lv_iload hx hb dX7_sureOf_24 (lv_at hl 2 rfl) ?_
          refine j_icmp_ge (tgt := 64) hx hb dX7_sureOf_26 (by decide) (nI_toInt (by decide)) (nI_toInt (by decide)) (fun c_15 => absurd c_15 (by omega)) (fun c_15 => ?_)
          refine lv_iload_n hx hb dX7_sureOf_29 rfl (lv_at hl 1 rfl) ?_
          refine j_if_eq (tgt := 56) hx hb dX7_sureOf_30 (by decide) (nI_toInt (by decide)) (fun c_16 => ?_) (fun c_16 => absurd c_16 (by omega))
          refine lv_iconst (v := nI 0) hx hb dX7_sureOf_56 (by decide) ?_
          refine lv_istore_n (lv' := [(3, .int (nI 0)), (5, .int (nI 1)), (4, .int (nI 2)), (0, .ref h), (1, .int (nI i)), (2, .int (nI m9))]) hx hb dX7_sureOf_57 rfl hl (by decide) rfl (fun ls hl => ?_)
          refine lv_iinc (v := nI 2) (lv' := [(5, .int (nI 2)), (3, .int (nI 0)), (4, .int (nI 2)), (0, .ref h), (1, .int (nI i)), (2, .int (nI m9))]) hx hb dX7_sureOf_58 hl (k := 1) rfl rfl (by decide) rfl (fun ls hl => ?_)
          refine lv_goto (tgt := 22) hx hb dX7_sureOf_61 (by decide) ?_
          refine lv_iload hx hb dX7_sureOf_22 (lv_at hl 0 rfl) ?_
          refine lv_iload hx hb dX7_sureOf_24 (lv_at hl 2 rfl) ?_
          refine j_icmp_ge (tgt := 64) hx hb dX7_sureOf_26 (by decide) (nI_toInt (by decide)) (nI_toInt (by decide)) (fun c_17 => ?_) (fun c_17 => absurd c_17 (by omega))
          refine lv_iinc (v := nI 3) (lv' := [(4, .int (nI 3)), (5, .int (nI 2)), (3, .int (nI 0)), (0, .ref h), (1, .int (nI i)), (2, .int (nI m9))]) hx hb dX7_sureOf_64 hl (k := 2) rfl rfl (by decide) rfl (fun ls hl => ?_)
          refine lv_goto (tgt := 13) hx hb dX7_sureOf_67 (by decide) ?_
          refine lv_iload hx hb dX7_sureOf_13 (lv_at hl 0 rfl) ?_
          refine lv_iconst (v := nI 4) hx hb dX7_sureOf_15 (by decide) ?_
          refine j_icmp_ge (tgt := 70) hx hb dX7_sureOf_16 (by decide) (nI_toInt (by decide)) (nI_toInt (by decide)) (fun c_18 => absurd c_18 (by omega)) (fun c_18 => ?_)
          refine lv_iconst (v := nI 0) hx hb dX7_sureOf_19 (by decide) ?_
          refine lv_istore (lv' := [(5, .int (nI 0)), (4, .int (nI 3)), (3, .int (nI 0)), (0, .ref h), (1, .int (nI i)), (2, .int (nI m9))]) hx hb dX7_sureOf_20 hl (by decide) rfl (fun ls hl => ?_)
          refine lv_iload hx hb dX7_sureOf_22 (lv_at hl 0 rfl) ?_
          refine lv_iload hx hb dX7_sureOf_24 (lv_at hl 1 rfl) ?_
          refine j_icmp_ge (tgt := 64) hx hb dX7_sureOf_26 (by decide) (nI_toInt (by decide)) (nI_toInt (by decide)) (fun c_19 => absurd c_19 (by omega)) (fun c_19 => ?_)
          refine lv_iload_n hx hb dX7_sureOf_29 rfl (lv_at hl 2 rfl) ?_
          refine j_if_eq (tgt := 56) hx hb dX7_sureOf_30 (by decide) (nI_toInt (by decide)) (fun c_20 => ?_) (fun c_20 => absurd c_20 (by omega))
          refine lv_iconst (v := nI 0) hx hb dX7_sureOf_56 (by decide) ?_
          refine lv_istore_n (lv' := [(3, .int (nI 0)), (5, .int (nI 0)), (4, .int (nI 3)), (0, .ref h), (1, .int (nI i)), (2, .int (nI m9))]) hx hb dX7_sureOf_57 rfl hl (by decide) rfl (fun ls hl => ?_)
          refine lv_iinc (v := nI 1) (lv' := [(5, .int (nI 1)), (3, .int (nI 0)), (4, .int (nI 3)), (0, .ref h), (1, .int (nI i)), (2, .int (nI m9))]) hx hb dX7_sureOf_58 hl (k := 1) rfl rfl (by decide) rfl (fun ls hl => ?_)
          refine lv_goto (tgt := 22) hx hb dX7_sureOf_61 (by decide) ?_
          refine lv_iload hx hb dX7_sureOf_22 (lv_at hl 0 rfl) ?_
          refine lv_iload hx hb dX7_sureOf_24 (lv_at hl 2 rfl) ?_
          refine j_icmp_ge (tgt := 64) hx hb dX7_sureOf_26 (by decide) (nI_toInt (by decide)) (nI_toInt (by decide)) (fun c_21 => absurd c_21 (by omega)) (fun c_21 => ?_)
          refine lv_iload_n hx hb dX7_sureOf_29 rfl (lv_at hl 1 rfl) ?_
          refine j_if_eq (tgt := 56) hx hb dX7_sureOf_30 (by decide) (nI_toInt (by decide)) (fun c_22 => ?_) (fun c_22 => absurd c_22 (by omega))
          refine lv_iconst (v := nI 0) hx hb dX7_sureOf_56 (by decide) ?_
          refine lv_istore_n (lv' := [(3, .int (nI 0)), (5, .int (nI 1)), (4, .int (nI 3)), (0, .ref h), (1, .int (nI i)), (2, .int (nI m9))]) hx hb dX7_sureOf_57 rfl hl (by decide) rfl (fun ls hl => ?_)
          refine lv_iinc (v := nI 2) (lv' := [(5, .int (nI 2)), (3, .int (nI 0)), (4, .int (nI 3)), (0, .ref h), (1, .int (nI i)), (2, .int (nI m9))]) hx hb dX7_sureOf_58 hl (k := 1) rfl rfl (by decide) rfl (fun ls hl => ?_)
          refine lv_goto (tgt := 22) hx hb dX7_sureOf_61 (by decide) ?_
          refine lv_iload hx hb dX7_sureOf_22 (lv_at hl 0 rfl) ?_
          refine lv_iload hx hb dX7_sureOf_24 (lv_at hl 2 rfl) ?_
          refine j_icmp_ge (tgt := 64) hx hb dX7_sureOf_26 (by decide) (nI_toInt (by decide)) (nI_toInt (by decide)) (fun c_23 => absurd c_23 (by omega)) (fun c_23 => ?_)
          refine lv_iload_n hx hb dX7_sureOf_29 rfl (lv_at hl 1 rfl) ?_
          refine j_if_eq (tgt := 56) hx hb dX7_sureOf_30 (by decide) (nI_toInt (by decide)) (fun c_24 => ?_) (fun c_24 => absurd c_24 (by omega))
          refine lv_iconst (v := nI 0) hx hb dX7_sureOf_56 (by decide) ?_
          refine lv_istore_n (lv' := [(3, .int (nI 0)), (5, .int (nI 2)), (4, .int (nI 3)), (0, .ref h), (1, .int (nI i)), (2, .int (nI m9))]) hx hb dX7_sureOf_57 rfl hl (by decide) rfl (fun ls hl => ?_)
          refine lv_iinc (v := nI 3) (lv' := [(5, .int (nI 3)), (3, .int (nI 0)), (4, .int (nI 3)), (0, .ref h), (1, .int (nI i)), (2, .int (nI m9))]) hx hb dX7_sureOf_58 hl (k := 1) rfl rfl (by decide) rfl (fun ls hl => ?_)
          refine lv_goto (tgt := 22) hx hb dX7_sureOf_61 (by decide) ?_
          refine lv_iload hx hb dX7_sureOf_22 (lv_at hl 0 rfl) ?_
          refine lv_iload hx hb dX7_sureOf_24 (lv_at hl 2 rfl) ?_
          refine j_icmp_ge (tgt := 64) hx hb dX7_sureOf_26 (by decide) (nI_toInt (by decide)) (nI_toInt (by decide)) (fun c_25 => ?_) (fun c_25 => absurd c_25 (by omega))
          refine lv_iinc (v := nI 4) (lv' := [(4, .int (nI 4)), (5, .int (nI 3)), (3, .int (nI 0)), (0, .ref h), (1, .int (nI i)), (2, .int (nI m9))]) hx hb dX7_sureOf_64 hl (k := 2) rfl rfl (by decide) rfl (fun ls hl => ?_)
          refine lv_goto (tgt := 13) hx hb dX7_sureOf_67 (by decide) ?_
          refine lv_iload hx hb dX7_sureOf_13 (lv_at hl 0 rfl) ?_
          refine lv_iconst (v := nI 4) hx hb dX7_sureOf_15 (by decide) ?_
          refine j_icmp_ge (tgt := 70) hx hb dX7_sureOf_16 (by decide) (nI_toInt (by decide)) (nI_toInt (by decide)) (fun c_26 => ?_) (fun c_26 => absurd c_26 (by omega))
          refine lv_iload_n hx hb dX7_sureOf_70 rfl (lv_at hl 2 rfl) ?_
          refine j_if_eq (tgt := 76) hx hb dX7_sureOf_71 (by decide) (nI_toInt (by decide)) (fun c_27 => ?_) (fun c_27 => absurd c_27 (by omega))
          refine lv_iinc (v := nI (m9 + 1)) (lv' := [(2, .int (nI (m9 + 1))), (4, .int (nI 4)), (5, .int (nI 3)), (3, .int (nI 0)), (0, .ref h), (1, .int (nI i))]) hx hb dX7_sureOf_76 hl (k := 5) rfl (fr_inc1 _) (by decide) rfl (fun ls hl => ?_)
          refine lv_goto (tgt := 2) hx hb dX7_sureOf_79 (by decide) ?_
          exact ih_2 (m9 + 1) (by omega) (by omega) (by omega) (by omega) _ (lv_sub hl [4, 5, 0] rfl)
        · have hz_28 : ¬ m9 ≤ fda b q.2.2.2.1 i 0 1 := fun z => by have := hq3.mpr z; omega
          refine lv_iconst (v := nI 1) hx hb dX7_sureOf_52 (by decide) ?_
          refine lv_goto (tgt := 57) hx hb dX7_sureOf_53 (by decide) ?_
          refine lv_istore_n (lv' := [(3, .int (nI 1)), (5, .int (nI 0)), (4, .int (nI 1)), (0, .ref h), (1, .int (nI i)), (2, .int (nI m9))]) hx hb dX7_sureOf_57 rfl hl (by decide) rfl (fun ls hl => ?_)
          refine lv_iinc (v := nI 1) (lv' := [(5, .int (nI 1)), (3, .int (nI 1)), (4, .int (nI 1)), (0, .ref h), (1, .int (nI i)), (2, .int (nI m9))]) hx hb dX7_sureOf_58 hl (k := 1) rfl rfl (by decide) rfl (fun ls hl => ?_)
          refine lv_goto (tgt := 22) hx hb dX7_sureOf_61 (by decide) ?_
          refine lv_iload hx hb dX7_sureOf_22 (lv_at hl 0 rfl) ?_
          refine lv_iload hx hb dX7_sureOf_24 (lv_at hl 2 rfl) ?_
          refine j_icmp_ge (tgt := 64) hx hb dX7_sureOf_26 (by decide) (nI_toInt (by decide)) (nI_toInt (by decide)) (fun c_29 => ?_) (fun c_29 => absurd c_29 (by omega))
          refine lv_iinc (v := nI 2) (lv' := [(4, .int (nI 2)), (5, .int (nI 1)), (3, .int (nI 1)), (0, .ref h), (1, .int (nI i)), (2, .int (nI m9))]) hx hb dX7_sureOf_64 hl (k := 2) rfl rfl (by decide) rfl (fun ls hl => ?_)
          refine lv_goto (tgt := 13) hx hb dX7_sureOf_67 (by decide) ?_
          refine lv_iload hx hb dX7_sureOf_13 (lv_at hl 0 rfl) ?_
          refine lv_iconst (v := nI 4) hx hb dX7_sureOf_15 (by decide) ?_
          refine j_icmp_ge (tgt := 70) hx hb dX7_sureOf_16 (by decide) (nI_toInt (by decide)) (nI_toInt (by decide)) (fun c_30 => absurd c_30 (by omega)) (fun c_30 => ?_)
          refine lv_iconst (v := nI 0) hx hb dX7_sureOf_19 (by decide) ?_
          refine lv_istore (lv' := [(5, .int (nI 0)), (4, .int (nI 2)), (3, .int (nI 1)), (0, .ref h), (1, .int (nI i)), (2, .int (nI m9))]) hx hb dX7_sureOf_20 hl (by decide) rfl (fun ls hl => ?_)
          refine lv_iload hx hb dX7_sureOf_22 (lv_at hl 0 rfl) ?_
          refine lv_iload hx hb dX7_sureOf_24 (lv_at hl 1 rfl) ?_
          refine j_icmp_ge (tgt := 64) hx hb dX7_sureOf_26 (by decide) (nI_toInt (by decide)) (nI_toInt (by decide)) (fun c_31 => absurd c_31 (by omega)) (fun c_31 => ?_)
          refine lv_iload_n hx hb dX7_sureOf_29 rfl (lv_at hl 2 rfl) ?_
          refine j_if_eq (tgt := 56) hx hb dX7_sureOf_30 (by decide) (nI_toInt (by decide)) (fun c_32 => absurd c_32 (by omega)) (fun c_32 => ?_)
          refine lv_aload_n hx hb dX7_sureOf_33 rfl (lv_at hl 3 rfl) ?_
          refine lv_iload_n hx hb dX7_sureOf_34 rfl (lv_at hl 4 rfl) ?_
          refine lv_iload hx hb dX7_sureOf_35 (lv_at hl 1 rfl) ?_
          refine lv_iload_n hx hb dX7_sureOf_37 rfl (lv_at hl 5 rfl) ?_
          refine ro_iV (n := 3) (As := [.int (nI i), .int (nI 2), .int (nI m9)]) ⟨hx, hb, hml, hown, hts⟩ (c_X7_patternOf l D h g cI J hz G b q hM hok9 hT i hi 2 m9 (by decide) (by omega)) (cwV 3 hts (gV mg_608 mg_610 mg_1025 mg_8 mg_611) rfl rfl rfl vd_X7_patternOf ⟨Nat.le_of_ble_eq_true rfl, Nat.le_of_ble_eq_true rfl⟩) (va_recv hK hP (ci := 7) (q0 := 0) rfl rfl) hK hP rfl hl.1 rfl (Nat.le_of_ble_eq_true rfl) dX7_sureOf_38 ⟨Nat.zero_le _, Nat.zero_le _⟩ ?_
          refine lv_aload_n hx hb dX7_sureOf_41 rfl (lv_at hl 3 rfl) ?_
          refine lv_iload_n hx hb dX7_sureOf_42 rfl (lv_at hl 4 rfl) ?_
          refine lv_iload hx hb dX7_sureOf_43 (lv_at hl 0 rfl) ?_
          refine lv_iload_n hx hb dX7_sureOf_45 rfl (lv_at hl 5 rfl) ?_
          refine ro_iV (n := 3) (As := [.int (nI i), .int (nI 0), .int (nI m9)]) ⟨hx, hb, hml, hown, hts⟩ (c_X7_patternOf l D h g cI J hz G b q hM hok9 hT i hi 0 m9 (by decide) (by omega)) (cwV 3 hts (gV mg_608 mg_610 mg_1025 mg_8 mg_611) rfl rfl rfl vd_X7_patternOf ⟨Nat.le_of_ble_eq_true rfl, Nat.le_of_ble_eq_true rfl⟩) (va_recv hK hP (ci := 7) (q0 := 0) rfl rfl) hK hP rfl hl.1 rfl (Nat.le_of_ble_eq_true rfl) dX7_sureOf_46 ⟨Nat.zero_le _, Nat.zero_le _⟩ ?_
          have hq1 := ptn_lt16 (f := dpl b q.2.2.2.1 i 2) (fun _ => sd_le hok9 (by decide)) (n := m9) (by omega)
          have hq2 := ptn_lt16 (f := dpl b q.2.2.2.1 i 0) (fun _ => sd_le hok9 (by decide)) (n := m9) (by omega)
          have hq3 := ptn_fda hok9 (t := q.2.2.2.1) (i := i) (x := 2) (y := 0) (m := m9) (by decide) (by decide) (by omega)
          refine j_icmp_eq (tgt := 56) hx hb dX7_sureOf_49 (by decide) (nI_toInt (by omega)) (nI_toInt (by omega)) (fun c_33 => ?_) (fun c_33 => ?_)
          · have hz_34 : m9 ≤ fda b q.2.2.2.1 i 0 2 := hq3.mp (by omega)
            refine lv_iconst (v := nI 0) hx hb dX7_sureOf_56 (by decide) ?_
            refine lv_istore_n (lv' := [(3, .int (nI 0)), (5, .int (nI 0)), (4, .int (nI 2)), (0, .ref h), (1, .int (nI i)), (2, .int (nI m9))]) hx hb dX7_sureOf_57 rfl hl (by decide) rfl (fun ls hl => ?_)
            refine lv_iinc (v := nI 1) (lv' := [(5, .int (nI 1)), (3, .int (nI 0)), (4, .int (nI 2)), (0, .ref h), (1, .int (nI i)), (2, .int (nI m9))]) hx hb dX7_sureOf_58 hl (k := 1) rfl rfl (by decide) rfl (fun ls hl => ?_)
            refine lv_goto (tgt := 22) hx hb dX7_sureOf_61 (by decide) ?_
            refine lv_iload hx hb dX7_sureOf_22 (lv_at hl 0 rfl) ?_
            refine lv_iload hx hb dX7_sureOf_24 (lv_at hl 2 rfl) ?_
            refine j_icmp_ge (tgt := 64) hx hb dX7_sureOf_26 (by decide) (nI_toInt (by decide)) (nI_toInt (by decide)) (fun c_35 => absurd c_35 (by omega)) (fun c_35 => ?_)
            refine lv_iload_n hx hb dX7_sureOf_29 rfl (lv_at hl 1 rfl) ?_
            refine j_if_eq (tgt := 56) hx hb dX7_sureOf_30 (by decide) (nI_toInt (by decide)) (fun c_36 => ?_) (fun c_36 => absurd c_36 (by omega))
            refine lv_iconst (v := nI 0) hx hb dX7_sureOf_56 (by decide) ?_
            refine lv_istore_n (lv' := [(3, .int (nI 0)), (5, .int (nI 1)), (4, .int (nI 2)), (0, .ref h), (1, .int (nI i)), (2, .int (nI m9))]) hx hb dX7_sureOf_57 rfl hl (by decide) rfl (fun ls hl => ?_)
            refine lv_iinc (v := nI 2) (lv' := [(5, .int (nI 2)), (3, .int (nI 0)), (4, .int (nI 2)), (0, .ref h), (1, .int (nI i)), (2, .int (nI m9))]) hx hb dX7_sureOf_58 hl (k := 1) rfl rfl (by decide) rfl (fun ls hl => ?_)
            refine lv_goto (tgt := 22) hx hb dX7_sureOf_61 (by decide) ?_
            refine lv_iload hx hb dX7_sureOf_22 (lv_at hl 0 rfl) ?_
            refine lv_iload hx hb dX7_sureOf_24 (lv_at hl 2 rfl) ?_
            refine j_icmp_ge (tgt := 64) hx hb dX7_sureOf_26 (by decide) (nI_toInt (by decide)) (nI_toInt (by decide)) (fun c_37 => ?_) (fun c_37 => absurd c_37 (by omega))
            refine lv_iinc (v := nI 3) (lv' := [(4, .int (nI 3)), (5, .int (nI 2)), (3, .int (nI 0)), (0, .ref h), (1, .int (nI i)), (2, .int (nI m9))]) hx hb dX7_sureOf_64 hl (k := 2) rfl rfl (by decide) rfl (fun ls hl => ?_)
            refine lv_goto (tgt := 13) hx hb dX7_sureOf_67 (by decide) ?_
            refine lv_iload hx hb dX7_sureOf_13 (lv_at hl 0 rfl) ?_
            refine lv_iconst (v := nI 4) hx hb dX7_sureOf_15 (by decide) ?_
            refine j_icmp_ge (tgt := 70) hx hb dX7_sureOf_16 (by decide) (nI_toInt (by decide)) (nI_toInt (by decide)) (fun c_38 => absurd c_38 (by omega)) (fun c_38 => ?_)
            refine lv_iconst (v := nI 0) hx hb dX7_sureOf_19 (by decide) ?_
            refine lv_istore (lv' := [(5, .int (nI 0)), (4, .int (nI 3)), (3, .int (nI 0)), (0, .ref h), (1, .int (nI i)), (2, .int (nI m9))]) hx hb dX7_sureOf_20 hl (by decide) rfl (fun ls hl => ?_)
            refine lv_iload hx hb dX7_sureOf_22 (lv_at hl 0 rfl) ?_
            refine lv_iload hx hb dX7_sureOf_24 (lv_at hl 1 rfl) ?_
            refine j_icmp_ge (tgt := 64) hx hb dX7_sureOf_26 (by decide) (nI_toInt (by decide)) (nI_toInt (by decide)) (fun c_39 => absurd c_39 (by omega)) (fun c_39 => ?_)
            refine lv_iload_n hx hb dX7_sureOf_29 rfl (lv_at hl 2 rfl) ?_
            refine j_if_eq (tgt := 56) hx hb dX7_sureOf_30 (by decide) (nI_toInt (by decide)) (fun c_40 => ?_) (fun c_40 => absurd c_40 (by omega))
            refine lv_iconst (v := nI 0) hx hb dX7_sureOf_56 (by decide) ?_
            refine lv_istore_n (lv' := [(3, .int (nI 0)), (5, .int (nI 0)), (4, .int (nI 3)), (0, .ref h), (1, .int (nI i)), (2, .int (nI m9))]) hx hb dX7_sureOf_57 rfl hl (by decide) rfl (fun ls hl => ?_)
            refine lv_iinc (v := nI 1) (lv' := [(5, .int (nI 1)), (3, .int (nI 0)), (4, .int (nI 3)), (0, .ref h), (1, .int (nI i)), (2, .int (nI m9))]) hx hb dX7_sureOf_58 hl (k := 1) rfl rfl (by decide) rfl (fun ls hl => ?_)
            refine lv_goto (tgt := 22) hx hb dX7_sureOf_61 (by decide) ?_
            refine lv_iload hx hb dX7_sureOf_22 (lv_at hl 0 rfl) ?_
            refine lv_iload hx hb dX7_sureOf_24 (lv_at hl 2 rfl) ?_
            refine j_icmp_ge (tgt := 64) hx hb dX7_sureOf_26 (by decide) (nI_toInt (by decide)) (nI_toInt (by decide)) (fun c_41 => absurd c_41 (by omega)) (fun c_41 => ?_)
            refine lv_iload_n hx hb dX7_sureOf_29 rfl (lv_at hl 1 rfl) ?_
            refine j_if_eq (tgt := 56) hx hb dX7_sureOf_30 (by decide) (nI_toInt (by decide)) (fun c_42 => ?_) (fun c_42 => absurd c_42 (by omega))
            refine lv_iconst (v := nI 0) hx hb dX7_sureOf_56 (by decide) ?_
            refine lv_istore_n (lv' := [(3, .int (nI 0)), (5, .int (nI 1)), (4, .int (nI 3)), (0, .ref h), (1, .int (nI i)), (2, .int (nI m9))]) hx hb dX7_sureOf_57 rfl hl (by decide) rfl (fun ls hl => ?_)
            refine lv_iinc (v := nI 2) (lv' := [(5, .int (nI 2)), (3, .int (nI 0)), (4, .int (nI 3)), (0, .ref h), (1, .int (nI i)), (2, .int (nI m9))]) hx hb dX7_sureOf_58 hl (k := 1) rfl rfl (by decide) rfl (fun ls hl => ?_)
            refine lv_goto (tgt := 22) hx hb dX7_sureOf_61 (by decide) ?_
            refine lv_iload hx hb dX7_sureOf_22 (lv_at hl 0 rfl) ?_
            refine lv_iload hx hb dX7_sureOf_24 (lv_at hl 2 rfl) ?_
            refine j_icmp_ge (tgt := 64) hx hb dX7_sureOf_26 (by decide) (nI_toInt (by decide)) (nI_toInt (by decide)) (fun c_43 => absurd c_43 (by omega)) (fun c_43 => ?_)
            refine lv_iload_n hx hb dX7_sureOf_29 rfl (lv_at hl 1 rfl) ?_
            refine j_if_eq (tgt := 56) hx hb dX7_sureOf_30 (by decide) (nI_toInt (by decide)) (fun c_44 => ?_) (fun c_44 => absurd c_44 (by omega))
            refine lv_iconst (v := nI 0) hx hb dX7_sureOf_56 (by decide) ?_
            refine lv_istore_n (lv' := [(3, .int (nI 0)), (5, .int (nI 2)), (4, .int (nI 3)), (0, .ref h), (1, .int (nI i)), (2, .int (nI m9))]) hx hb dX7_sureOf_57 rfl hl (by decide) rfl (fun ls hl => ?_)
            refine lv_iinc (v := nI 3) (lv' := [(5, .int (nI 3)), (3, .int (nI 0)), (4, .int (nI 3)), (0, .ref h), (1, .int (nI i)), (2, .int (nI m9))]) hx hb dX7_sureOf_58 hl (k := 1) rfl rfl (by decide) rfl (fun ls hl => ?_)
            refine lv_goto (tgt := 22) hx hb dX7_sureOf_61 (by decide) ?_
            refine lv_iload hx hb dX7_sureOf_22 (lv_at hl 0 rfl) ?_
            refine lv_iload hx hb dX7_sureOf_24 (lv_at hl 2 rfl) ?_
            refine j_icmp_ge (tgt := 64) hx hb dX7_sureOf_26 (by decide) (nI_toInt (by decide)) (nI_toInt (by decide)) (fun c_45 => ?_) (fun c_45 => absurd c_45 (by omega))
            refine lv_iinc (v := nI 4) (lv' := [(4, .int (nI 4)), (5, .int (nI 3)), (3, .int (nI 0)), (0, .ref h), (1, .int (nI i)), (2, .int (nI m9))]) hx hb dX7_sureOf_64 hl (k := 2) rfl rfl (by decide) rfl (fun ls hl => ?_)
            refine lv_goto (tgt := 13) hx hb dX7_sureOf_67 (by decide) ?_
            refine lv_iload hx hb dX7_sureOf_13 (lv_at hl 0 rfl) ?_
            refine lv_iconst (v := nI 4) hx hb dX7_sureOf_15 (by decide) ?_
            refine j_icmp_ge (tgt := 70) hx hb dX7_sureOf_16 (by decide) (nI_toInt (by decide)) (nI_toInt (by decide)) (fun c_46 => ?_) (fun c_46 => absurd c_46 (by omega))
            refine lv_iload_n hx hb dX7_sureOf_70 rfl (lv_at hl 2 rfl) ?_
            refine j_if_eq (tgt := 76) hx hb dX7_sureOf_71 (by decide) (nI_toInt (by decide)) (fun c_47 => ?_) (fun c_47 => absurd c_47 (by omega))
            refine lv_iinc (v := nI (m9 + 1)) (lv' := [(2, .int (nI (m9 + 1))), (4, .int (nI 4)), (5, .int (nI 3)), (3, .int (nI 0)), (0, .ref h), (1, .int (nI i))]) hx hb dX7_sureOf_76 hl (k := 5) rfl (fr_inc1 _) (by decide) rfl (fun ls hl => ?_)
            refine lv_goto (tgt := 2) hx hb dX7_sureOf_79 (by decide) ?_
            exact ih_2 (m9 + 1) (by omega) (by omega) (by omega) (by omega) _ (lv_sub hl [4, 5, 0] rfl)
          · have hz_48 : ¬ m9 ≤ fda b q.2.2.2.1 i 0 2 := fun z => by have := hq3.mpr z; omega
            refine lv_iconst (v := nI 1) hx hb dX7_sureOf_52 (by decide) ?_
            refine lv_goto (tgt := 57) hx hb dX7_sureOf_53 (by decide) ?_
            refine lv_istore_n (lv' := [(3, .int (nI 1)), (5, .int (nI 0)), (4, .int (nI 2)), (0, .ref h), (1, .int (nI i)), (2, .int (nI m9))]) hx hb dX7_sureOf_57 rfl hl (by decide) rfl (fun ls hl => ?_)
            refine lv_iinc (v := nI 1) (lv' := [(5, .int (nI 1)), (3, .int (nI 1)), (4, .int (nI 2)), (0, .ref h), (1, .int (nI i)), (2, .int (nI m9))]) hx hb dX7_sureOf_58 hl (k := 1) rfl rfl (by decide) rfl (fun ls hl => ?_)
            refine lv_goto (tgt := 22) hx hb dX7_sureOf_61 (by decide) ?_
            refine lv_iload hx hb dX7_sureOf_22 (lv_at hl 0 rfl) ?_
            refine lv_iload hx hb dX7_sureOf_24 (lv_at hl 2 rfl) ?_
            refine j_icmp_ge (tgt := 64) hx hb dX7_sureOf_26 (by decide) (nI_toInt (by decide)) (nI_toInt (by decide)) (fun c_49 => absurd c_49 (by omega)) (fun c_49 => ?_)
            refine lv_iload_n hx hb dX7_sureOf_29 rfl (lv_at hl 1 rfl) ?_
            refine j_if_eq (tgt := 56) hx hb dX7_sureOf_30 (by decide) (nI_toInt (by decide)) (fun c_50 => absurd c_50 (by omega)) (fun c_50 => ?_)
            refine lv_aload_n hx hb dX7_sureOf_33 rfl (lv_at hl 3 rfl) ?_
            refine lv_iload_n hx hb dX7_sureOf_34 rfl (lv_at hl 4 rfl) ?_
            refine lv_iload hx hb dX7_sureOf_35 (lv_at hl 2 rfl) ?_
            refine lv_iload_n hx hb dX7_sureOf_37 rfl (lv_at hl 5 rfl) ?_
            refine ro_iV (n := 3) (As := [.int (nI i), .int (nI 2), .int (nI m9)]) ⟨hx, hb, hml, hown, hts⟩ (c_X7_patternOf l D h g cI J hz G b q hM hok9 hT i hi 2 m9 (by decide) (by omega)) (cwV 3 hts (gV mg_608 mg_610 mg_1025 mg_8 mg_611) rfl rfl rfl vd_X7_patternOf ⟨Nat.le_of_ble_eq_true rfl, Nat.le_of_ble_eq_true rfl⟩) (va_recv hK hP (ci := 7) (q0 := 0) rfl rfl) hK hP rfl hl.1 rfl (Nat.le_of_ble_eq_true rfl) dX7_sureOf_38 ⟨Nat.zero_le _, Nat.zero_le _⟩ ?_
            refine lv_aload_n hx hb dX7_sureOf_41 rfl (lv_at hl 3 rfl) ?_
            refine lv_iload_n hx hb dX7_sureOf_42 rfl (lv_at hl 4 rfl) ?_
            refine lv_iload hx hb dX7_sureOf_43 (lv_at hl 0 rfl) ?_
            refine lv_iload_n hx hb dX7_sureOf_45 rfl (lv_at hl 5 rfl) ?_
            refine ro_iV (n := 3) (As := [.int (nI i), .int (nI 1), .int (nI m9)]) ⟨hx, hb, hml, hown, hts⟩ (c_X7_patternOf l D h g cI J hz G b q hM hok9 hT i hi 1 m9 (by decide) (by omega)) (cwV 3 hts (gV mg_608 mg_610 mg_1025 mg_8 mg_611) rfl rfl rfl vd_X7_patternOf ⟨Nat.le_of_ble_eq_true rfl, Nat.le_of_ble_eq_true rfl⟩) (va_recv hK hP (ci := 7) (q0 := 0) rfl rfl) hK hP rfl hl.1 rfl (Nat.le_of_ble_eq_true rfl) dX7_sureOf_46 ⟨Nat.zero_le _, Nat.zero_le _⟩ ?_
            have hq1 := ptn_lt16 (f := dpl b q.2.2.2.1 i 2) (fun _ => sd_le hok9 (by decide)) (n := m9) (by omega)
            have hq2 := ptn_lt16 (f := dpl b q.2.2.2.1 i 1) (fun _ => sd_le hok9 (by decide)) (n := m9) (by omega)
            have hq3 := ptn_fda hok9 (t := q.2.2.2.1) (i := i) (x := 2) (y := 1) (m := m9) (by decide) (by decide) (by omega)
            refine j_icmp_eq (tgt := 56) hx hb dX7_sureOf_49 (by decide) (nI_toInt (by omega)) (nI_toInt (by omega)) (fun c_51 => ?_) (fun c_51 => ?_)
            · have hz_52 : m9 ≤ fda b q.2.2.2.1 i 1 2 := hq3.mp (by omega)
              refine lv_iconst (v := nI 0) hx hb dX7_sureOf_56 (by decide) ?_
              refine lv_istore_n (lv' := [(3, .int (nI 0)), (5, .int (nI 1)), (4, .int (nI 2)), (0, .ref h), (1, .int (nI i)), (2, .int (nI m9))]) hx hb dX7_sureOf_57 rfl hl (by decide) rfl (fun ls hl => ?_)
              refine lv_iinc (v := nI 2) (lv' := [(5, .int (nI 2)), (3, .int (nI 0)), (4, .int (nI 2)), (0, .ref h), (1, .int (nI i)), (2, .int (nI m9))]) hx hb dX7_sureOf_58 hl (k := 1) rfl rfl (by decide) rfl (fun ls hl => ?_)
              refine lv_goto (tgt := 22) hx hb dX7_sureOf_61 (by decide) ?_
              refine lv_iload hx hb dX7_sureOf_22 (lv_at hl 0 rfl) ?_
              refine lv_iload hx hb dX7_sureOf_24 (lv_at hl 2 rfl) ?_
              refine j_icmp_ge (tgt := 64) hx hb dX7_sureOf_26 (by decide) (nI_toInt (by decide)) (nI_toInt (by decide)) (fun c_53 => ?_) (fun c_53 => absurd c_53 (by omega))
              refine lv_iinc (v := nI 3) (lv' := [(4, .int (nI 3)), (5, .int (nI 2)), (3, .int (nI 0)), (0, .ref h), (1, .int (nI i)), (2, .int (nI m9))]) hx hb dX7_sureOf_64 hl (k := 2) rfl rfl (by decide) rfl (fun ls hl => ?_)
              refine lv_goto (tgt := 13) hx hb dX7_sureOf_67 (by decide) ?_
              refine lv_iload hx hb dX7_sureOf_13 (lv_at hl 0 rfl) ?_
              refine lv_iconst (v := nI 4) hx hb dX7_sureOf_15 (by decide) ?_
              refine j_icmp_ge (tgt := 70) hx hb dX7_sureOf_16 (by decide) (nI_toInt (by decide)) (nI_toInt (by decide)) (fun c_54 => absurd c_54 (by omega)) (fun c_54 => ?_)
              refine lv_iconst (v := nI 0) hx hb dX7_sureOf_19 (by decide) ?_
              refine lv_istore (lv' := [(5, .int (nI 0)), (4, .int (nI 3)), (3, .int (nI 0)), (0, .ref h), (1, .int (nI i)), (2, .int (nI m9))]) hx hb dX7_sureOf_20 hl (by decide) rfl (fun ls hl => ?_)
              refine lv_iload hx hb dX7_sureOf_22 (lv_at hl 0 rfl) ?_
              refine lv_iload hx hb dX7_sureOf_24 (lv_at hl 1 rfl) ?_
              refine j_icmp_ge (tgt := 64) hx hb dX7_sureOf_26 (by decide) (nI_toInt (by decide)) (nI_toInt (by decide)) (fun c_55 => absurd c_55 (by omega)) (fun c_55 => ?_)
              refine lv_iload_n hx hb dX7_sureOf_29 rfl (lv_at hl 2 rfl) ?_
              refine j_if_eq (tgt := 56) hx hb dX7_sureOf_30 (by decide) (nI_toInt (by decide)) (fun c_56 => ?_) (fun c_56 => absurd c_56 (by omega))
              refine lv_iconst (v := nI 0) hx hb dX7_sureOf_56 (by decide) ?_
              refine lv_istore_n (lv' := [(3, .int (nI 0)), (5, .int (nI 0)), (4, .int (nI 3)), (0, .ref h), (1, .int (nI i)), (2, .int (nI m9))]) hx hb dX7_sureOf_57 rfl hl (by decide) rfl (fun ls hl => ?_)
              refine lv_iinc (v := nI 1) (lv' := [(5, .int (nI 1)), (3, .int (nI 0)), (4, .int (nI 3)), (0, .ref h), (1, .int (nI i)), (2, .int (nI m9))]) hx hb dX7_sureOf_58 hl (k := 1) rfl rfl (by decide) rfl (fun ls hl => ?_)
              refine lv_goto (tgt := 22) hx hb dX7_sureOf_61 (by decide) ?_
              refine lv_iload hx hb dX7_sureOf_22 (lv_at hl 0 rfl) ?_
              refine lv_iload hx hb dX7_sureOf_24 (lv_at hl 2 rfl) ?_
              refine j_icmp_ge (tgt := 64) hx hb dX7_sureOf_26 (by decide) (nI_toInt (by decide)) (nI_toInt (by decide)) (fun c_57 => absurd c_57 (by omega)) (fun c_57 => ?_)
              refine lv_iload_n hx hb dX7_sureOf_29 rfl (lv_at hl 1 rfl) ?_
              refine j_if_eq (tgt := 56) hx hb dX7_sureOf_30 (by decide) (nI_toInt (by decide)) (fun c_58 => ?_) (fun c_58 => absurd c_58 (by omega))
              refine lv_iconst (v := nI 0) hx hb dX7_sureOf_56 (by decide) ?_
              refine lv_istore_n (lv' := [(3, .int (nI 0)), (5, .int (nI 1)), (4, .int (nI 3)), (0, .ref h), (1, .int (nI i)), (2, .int (nI m9))]) hx hb dX7_sureOf_57 rfl hl (by decide) rfl (fun ls hl => ?_)
              refine lv_iinc (v := nI 2) (lv' := [(5, .int (nI 2)), (3, .int (nI 0)), (4, .int (nI 3)), (0, .ref h), (1, .int (nI i)), (2, .int (nI m9))]) hx hb dX7_sureOf_58 hl (k := 1) rfl rfl (by decide) rfl (fun ls hl => ?_)
              refine lv_goto (tgt := 22) hx hb dX7_sureOf_61 (by decide) ?_
              refine lv_iload hx hb dX7_sureOf_22 (lv_at hl 0 rfl) ?_
              refine lv_iload hx hb dX7_sureOf_24 (lv_at hl 2 rfl) ?_
              refine j_icmp_ge (tgt := 64) hx hb dX7_sureOf_26 (by decide) (nI_toInt (by decide)) (nI_toInt (by decide)) (fun c_59 => absurd c_59 (by omega)) (fun c_59 => ?_)
              refine lv_iload_n hx hb dX7_sureOf_29 rfl (lv_at hl 1 rfl) ?_
              refine j_if_eq (tgt := 56) hx hb dX7_sureOf_30 (by decide) (nI_toInt (by decide)) (fun c_60 => ?_) (fun c_60 => absurd c_60 (by omega))
              refine lv_iconst (v := nI 0) hx hb dX7_sureOf_56 (by decide) ?_
              refine lv_istore_n (lv' := [(3, .int (nI 0)), (5, .int (nI 2)), (4, .int (nI 3)), (0, .ref h), (1, .int (nI i)), (2, .int (nI m9))]) hx hb dX7_sureOf_57 rfl hl (by decide) rfl (fun ls hl => ?_)
              refine lv_iinc (v := nI 3) (lv' := [(5, .int (nI 3)), (3, .int (nI 0)), (4, .int (nI 3)), (0, .ref h), (1, .int (nI i)), (2, .int (nI m9))]) hx hb dX7_sureOf_58 hl (k := 1) rfl rfl (by decide) rfl (fun ls hl => ?_)
              refine lv_goto (tgt := 22) hx hb dX7_sureOf_61 (by decide) ?_
              refine lv_iload hx hb dX7_sureOf_22 (lv_at hl 0 rfl) ?_
              refine lv_iload hx hb dX7_sureOf_24 (lv_at hl 2 rfl) ?_
              refine j_icmp_ge (tgt := 64) hx hb dX7_sureOf_26 (by decide) (nI_toInt (by decide)) (nI_toInt (by decide)) (fun c_61 => ?_) (fun c_61 => absurd c_61 (by omega))
              refine lv_iinc (v := nI 4) (lv' := [(4, .int (nI 4)), (5, .int (nI 3)), (3, .int (nI 0)), (0, .ref h), (1, .int (nI i)), (2, .int (nI m9))]) hx hb dX7_sureOf_64 hl (k := 2) rfl rfl (by decide) rfl (fun ls hl => ?_)
              refine lv_goto (tgt := 13) hx hb dX7_sureOf_67 (by decide) ?_
              refine lv_iload hx hb dX7_sureOf_13 (lv_at hl 0 rfl) ?_
              refine lv_iconst (v := nI 4) hx hb dX7_sureOf_15 (by decide) ?_
              refine j_icmp_ge (tgt := 70) hx hb dX7_sureOf_16 (by decide) (nI_toInt (by decide)) (nI_toInt (by decide)) (fun c_62 => ?_) (fun c_62 => absurd c_62 (by omega))
              refine lv_iload_n hx hb dX7_sureOf_70 rfl (lv_at hl 2 rfl) ?_
              refine j_if_eq (tgt := 76) hx hb dX7_sureOf_71 (by decide) (nI_toInt (by decide)) (fun c_63 => ?_) (fun c_63 => absurd c_63 (by omega))
              refine lv_iinc (v := nI (m9 + 1)) (lv' := [(2, .int (nI (m9 + 1))), (4, .int (nI 4)), (5, .int (nI 3)), (3, .int (nI 0)), (0, .ref h), (1, .int (nI i))]) hx hb dX7_sureOf_76 hl (k := 5) rfl (fr_inc1 _) (by decide) rfl (fun ls hl => ?_)
              refine lv_goto (tgt := 2) hx hb dX7_sureOf_79 (by decide) ?_
              exact ih_2 (m9 + 1) (by omega) (by omega) (by omega) (by omega) _ (lv_sub hl [4, 5, 0] rfl)
            · have hz_64 : ¬ m9 ≤ fda b q.2.2.2.1 i 1 2 := fun z => by have := hq3.mpr z; omega
              refine lv_iconst (v := nI 1) hx hb dX7_sureOf_52 (by decide) ?_
              refine lv_goto (tgt := 57) hx hb dX7_sureOf_53 (by decide) ?_
              refine lv_istore_n (lv' := [(3, .int (nI 1)), (5, .int (nI 1)), (4, .int (nI 2)), (0, .ref h), (1, .int (nI i)), (2, .int (nI m9))]) hx hb dX7_sureOf_57 rfl hl (by decide) rfl (fun ls hl => ?_)
              refine lv_iinc (v := nI 2) (lv' := [(5, .int (nI 2)), (3, .int (nI 1)), (4, .int (nI 2)), (0, .ref h), (1, .int (nI i)), (2, .int (nI m9))]) hx hb dX7_sureOf_58 hl (k := 1) rfl rfl (by decide) rfl (fun ls hl => ?_)
              refine lv_goto (tgt := 22) hx hb dX7_sureOf_61 (by decide) ?_
              refine lv_iload hx hb dX7_sureOf_22 (lv_at hl 0 rfl) ?_
              refine lv_iload hx hb dX7_sureOf_24 (lv_at hl 2 rfl) ?_
              refine j_icmp_ge (tgt := 64) hx hb dX7_sureOf_26 (by decide) (nI_toInt (by decide)) (nI_toInt (by decide)) (fun c_65 => ?_) (fun c_65 => absurd c_65 (by omega))
              refine lv_iinc (v := nI 3) (lv' := [(4, .int (nI 3)), (5, .int (nI 2)), (3, .int (nI 1)), (0, .ref h), (1, .int (nI i)), (2, .int (nI m9))]) hx hb dX7_sureOf_64 hl (k := 2) rfl rfl (by decide) rfl (fun ls hl => ?_)
              refine lv_goto (tgt := 13) hx hb dX7_sureOf_67 (by decide) ?_
              refine lv_iload hx hb dX7_sureOf_13 (lv_at hl 0 rfl) ?_
              refine lv_iconst (v := nI 4) hx hb dX7_sureOf_15 (by decide) ?_
              refine j_icmp_ge (tgt := 70) hx hb dX7_sureOf_16 (by decide) (nI_toInt (by decide)) (nI_toInt (by decide)) (fun c_66 => absurd c_66 (by omega)) (fun c_66 => ?_)
              refine lv_iconst (v := nI 0) hx hb dX7_sureOf_19 (by decide) ?_
              refine lv_istore (lv' := [(5, .int (nI 0)), (4, .int (nI 3)), (3, .int (nI 1)), (0, .ref h), (1, .int (nI i)), (2, .int (nI m9))]) hx hb dX7_sureOf_20 hl (by decide) rfl (fun ls hl => ?_)
              refine lv_iload hx hb dX7_sureOf_22 (lv_at hl 0 rfl) ?_
              refine lv_iload hx hb dX7_sureOf_24 (lv_at hl 1 rfl) ?_
              refine j_icmp_ge (tgt := 64) hx hb dX7_sureOf_26 (by decide) (nI_toInt (by decide)) (nI_toInt (by decide)) (fun c_67 => absurd c_67 (by omega)) (fun c_67 => ?_)
              refine lv_iload_n hx hb dX7_sureOf_29 rfl (lv_at hl 2 rfl) ?_
              refine j_if_eq (tgt := 56) hx hb dX7_sureOf_30 (by decide) (nI_toInt (by decide)) (fun c_68 => absurd c_68 (by omega)) (fun c_68 => ?_)
              refine lv_aload_n hx hb dX7_sureOf_33 rfl (lv_at hl 3 rfl) ?_
              refine lv_iload_n hx hb dX7_sureOf_34 rfl (lv_at hl 4 rfl) ?_
              refine lv_iload hx hb dX7_sureOf_35 (lv_at hl 1 rfl) ?_
              refine lv_iload_n hx hb dX7_sureOf_37 rfl (lv_at hl 5 rfl) ?_
              refine ro_iV (n := 3) (As := [.int (nI i), .int (nI 3), .int (nI m9)]) ⟨hx, hb, hml, hown, hts⟩ (c_X7_patternOf l D h g cI J hz G b q hM hok9 hT i hi 3 m9 (by decide) (by omega)) (cwV 3 hts (gV mg_608 mg_610 mg_1025 mg_8 mg_611) rfl rfl rfl vd_X7_patternOf ⟨Nat.le_of_ble_eq_true rfl, Nat.le_of_ble_eq_true rfl⟩) (va_recv hK hP (ci := 7) (q0 := 0) rfl rfl) hK hP rfl hl.1 rfl (Nat.le_of_ble_eq_true rfl) dX7_sureOf_38 ⟨Nat.zero_le _, Nat.zero_le _⟩ ?_
              refine lv_aload_n hx hb dX7_sureOf_41 rfl (lv_at hl 3 rfl) ?_
              refine lv_iload_n hx hb dX7_sureOf_42 rfl (lv_at hl 4 rfl) ?_
              refine lv_iload hx hb dX7_sureOf_43 (lv_at hl 0 rfl) ?_
              refine lv_iload_n hx hb dX7_sureOf_45 rfl (lv_at hl 5 rfl) ?_
              refine ro_iV (n := 3) (As := [.int (nI i), .int (nI 0), .int (nI m9)]) ⟨hx, hb, hml, hown, hts⟩ (c_X7_patternOf l D h g cI J hz G b q hM hok9 hT i hi 0 m9 (by decide) (by omega)) (cwV 3 hts (gV mg_608 mg_610 mg_1025 mg_8 mg_611) rfl rfl rfl vd_X7_patternOf ⟨Nat.le_of_ble_eq_true rfl, Nat.le_of_ble_eq_true rfl⟩) (va_recv hK hP (ci := 7) (q0 := 0) rfl rfl) hK hP rfl hl.1 rfl (Nat.le_of_ble_eq_true rfl) dX7_sureOf_46 ⟨Nat.zero_le _, Nat.zero_le _⟩ ?_
              have hq1 := ptn_lt16 (f := dpl b q.2.2.2.1 i 3) (fun _ => sd_le hok9 (by decide)) (n := m9) (by omega)
              have hq2 := ptn_lt16 (f := dpl b q.2.2.2.1 i 0) (fun _ => sd_le hok9 (by decide)) (n := m9) (by omega)
              have hq3 := ptn_fda hok9 (t := q.2.2.2.1) (i := i) (x := 3) (y := 0) (m := m9) (by decide) (by decide) (by omega)
              refine j_icmp_eq (tgt := 56) hx hb dX7_sureOf_49 (by decide) (nI_toInt (by omega)) (nI_toInt (by omega)) (fun c_69 => ?_) (fun c_69 => ?_)
              · have hz_70 : m9 ≤ fda b q.2.2.2.1 i 0 3 := hq3.mp (by omega)
                refine lv_iconst (v := nI 0) hx hb dX7_sureOf_56 (by decide) ?_
                refine lv_istore_n (lv' := [(3, .int (nI 0)), (5, .int (nI 0)), (4, .int (nI 3)), (0, .ref h), (1, .int (nI i)), (2, .int (nI m9))]) hx hb dX7_sureOf_57 rfl hl (by decide) rfl (fun ls hl => ?_)
                refine lv_iinc (v := nI 1) (lv' := [(5, .int (nI 1)), (3, .int (nI 0)), (4, .int (nI 3)), (0, .ref h), (1, .int (nI i)), (2, .int (nI m9))]) hx hb dX7_sureOf_58 hl (k := 1) rfl rfl (by decide) rfl (fun ls hl => ?_)
                refine lv_goto (tgt := 22) hx hb dX7_sureOf_61 (by decide) ?_
                refine lv_iload hx hb dX7_sureOf_22 (lv_at hl 0 rfl) ?_
                refine lv_iload hx hb dX7_sureOf_24 (lv_at hl 2 rfl) ?_
                refine j_icmp_ge (tgt := 64) hx hb dX7_sureOf_26 (by decide) (nI_toInt (by decide)) (nI_toInt (by decide)) (fun c_71 => absurd c_71 (by omega)) (fun c_71 => ?_)
                refine lv_iload_n hx hb dX7_sureOf_29 rfl (lv_at hl 1 rfl) ?_
                refine j_if_eq (tgt := 56) hx hb dX7_sureOf_30 (by decide) (nI_toInt (by decide)) (fun c_72 => ?_) (fun c_72 => absurd c_72 (by omega))
                refine lv_iconst (v := nI 0) hx hb dX7_sureOf_56 (by decide) ?_
                refine lv_istore_n (lv' := [(3, .int (nI 0)), (5, .int (nI 1)), (4, .int (nI 3)), (0, .ref h), (1, .int (nI i)), (2, .int (nI m9))]) hx hb dX7_sureOf_57 rfl hl (by decide) rfl (fun ls hl => ?_)
                refine lv_iinc (v := nI 2) (lv' := [(5, .int (nI 2)), (3, .int (nI 0)), (4, .int (nI 3)), (0, .ref h), (1, .int (nI i)), (2, .int (nI m9))]) hx hb dX7_sureOf_58 hl (k := 1) rfl rfl (by decide) rfl (fun ls hl => ?_)
                refine lv_goto (tgt := 22) hx hb dX7_sureOf_61 (by decide) ?_
                refine lv_iload hx hb dX7_sureOf_22 (lv_at hl 0 rfl) ?_
                refine lv_iload hx hb dX7_sureOf_24 (lv_at hl 2 rfl) ?_
                refine j_icmp_ge (tgt := 64) hx hb dX7_sureOf_26 (by decide) (nI_toInt (by decide)) (nI_toInt (by decide)) (fun c_73 => absurd c_73 (by omega)) (fun c_73 => ?_)
                refine lv_iload_n hx hb dX7_sureOf_29 rfl (lv_at hl 1 rfl) ?_
                refine j_if_eq (tgt := 56) hx hb dX7_sureOf_30 (by decide) (nI_toInt (by decide)) (fun c_74 => ?_) (fun c_74 => absurd c_74 (by omega))
                refine lv_iconst (v := nI 0) hx hb dX7_sureOf_56 (by decide) ?_
                refine lv_istore_n (lv' := [(3, .int (nI 0)), (5, .int (nI 2)), (4, .int (nI 3)), (0, .ref h), (1, .int (nI i)), (2, .int (nI m9))]) hx hb dX7_sureOf_57 rfl hl (by decide) rfl (fun ls hl => ?_)
                refine lv_iinc (v := nI 3) (lv' := [(5, .int (nI 3)), (3, .int (nI 0)), (4, .int (nI 3)), (0, .ref h), (1, .int (nI i)), (2, .int (nI m9))]) hx hb dX7_sureOf_58 hl (k := 1) rfl rfl (by decide) rfl (fun ls hl => ?_)
                refine lv_goto (tgt := 22) hx hb dX7_sureOf_61 (by decide) ?_
                refine lv_iload hx hb dX7_sureOf_22 (lv_at hl 0 rfl) ?_
                refine lv_iload hx hb dX7_sureOf_24 (lv_at hl 2 rfl) ?_
                refine j_icmp_ge (tgt := 64) hx hb dX7_sureOf_26 (by decide) (nI_toInt (by decide)) (nI_toInt (by decide)) (fun c_75 => ?_) (fun c_75 => absurd c_75 (by omega))
                refine lv_iinc (v := nI 4) (lv' := [(4, .int (nI 4)), (5, .int (nI 3)), (3, .int (nI 0)), (0, .ref h), (1, .int (nI i)), (2, .int (nI m9))]) hx hb dX7_sureOf_64 hl (k := 2) rfl rfl (by decide) rfl (fun ls hl => ?_)
                refine lv_goto (tgt := 13) hx hb dX7_sureOf_67 (by decide) ?_
                refine lv_iload hx hb dX7_sureOf_13 (lv_at hl 0 rfl) ?_
                refine lv_iconst (v := nI 4) hx hb dX7_sureOf_15 (by decide) ?_
                refine j_icmp_ge (tgt := 70) hx hb dX7_sureOf_16 (by decide) (nI_toInt (by decide)) (nI_toInt (by decide)) (fun c_76 => ?_) (fun c_76 => absurd c_76 (by omega))
                refine lv_iload_n hx hb dX7_sureOf_70 rfl (lv_at hl 2 rfl) ?_
                refine j_if_eq (tgt := 76) hx hb dX7_sureOf_71 (by decide) (nI_toInt (by decide)) (fun c_77 => ?_) (fun c_77 => absurd c_77 (by omega))
                refine lv_iinc (v := nI (m9 + 1)) (lv' := [(2, .int (nI (m9 + 1))), (4, .int (nI 4)), (5, .int (nI 3)), (3, .int (nI 0)), (0, .ref h), (1, .int (nI i))]) hx hb dX7_sureOf_76 hl (k := 5) rfl (fr_inc1 _) (by decide) rfl (fun ls hl => ?_)
                refine lv_goto (tgt := 2) hx hb dX7_sureOf_79 (by decide) ?_
                exact ih_2 (m9 + 1) (by omega) (by omega) (by omega) (by omega) _ (lv_sub hl [4, 5, 0] rfl)
              · have hz_78 : ¬ m9 ≤ fda b q.2.2.2.1 i 0 3 := fun z => by have := hq3.mpr z; omega
                refine lv_iconst (v := nI 1) hx hb dX7_sureOf_52 (by decide) ?_
                refine lv_goto (tgt := 57) hx hb dX7_sureOf_53 (by decide) ?_
                refine lv_istore_n (lv' := [(3, .int (nI 1)), (5, .int (nI 0)), (4, .int (nI 3)), (0, .ref h), (1, .int (nI i)), (2, .int (nI m9))]) hx hb dX7_sureOf_57 rfl hl (by decide) rfl (fun ls hl => ?_)
                refine lv_iinc (v := nI 1) (lv' := [(5, .int (nI 1)), (3, .int (nI 1)), (4, .int (nI 3)), (0, .ref h), (1, .int (nI i)), (2, .int (nI m9))]) hx hb dX7_sureOf_58 hl (k := 1) rfl rfl (by decide) rfl (fun ls hl => ?_)
                refine lv_goto (tgt := 22) hx hb dX7_sureOf_61 (by decide) ?_
                refine lv_iload hx hb dX7_sureOf_22 (lv_at hl 0 rfl) ?_
                refine lv_iload hx hb dX7_sureOf_24 (lv_at hl 2 rfl) ?_
                refine j_icmp_ge (tgt := 64) hx hb dX7_sureOf_26 (by decide) (nI_toInt (by decide)) (nI_toInt (by decide)) (fun c_79 => absurd c_79 (by omega)) (fun c_79 => ?_)
                refine lv_iload_n hx hb dX7_sureOf_29 rfl (lv_at hl 1 rfl) ?_
                refine j_if_eq (tgt := 56) hx hb dX7_sureOf_30 (by decide) (nI_toInt (by decide)) (fun c_80 => absurd c_80 (by omega)) (fun c_80 => ?_)
                refine lv_aload_n hx hb dX7_sureOf_33 rfl (lv_at hl 3 rfl) ?_
                refine lv_iload_n hx hb dX7_sureOf_34 rfl (lv_at hl 4 rfl) ?_
                refine lv_iload hx hb dX7_sureOf_35 (lv_at hl 2 rfl) ?_
                refine lv_iload_n hx hb dX7_sureOf_37 rfl (lv_at hl 5 rfl) ?_
                refine ro_iV (n := 3) (As := [.int (nI i), .int (nI 3), .int (nI m9)]) ⟨hx, hb, hml, hown, hts⟩ (c_X7_patternOf l D h g cI J hz G b q hM hok9 hT i hi 3 m9 (by decide) (by omega)) (cwV 3 hts (gV mg_608 mg_610 mg_1025 mg_8 mg_611) rfl rfl rfl vd_X7_patternOf ⟨Nat.le_of_ble_eq_true rfl, Nat.le_of_ble_eq_true rfl⟩) (va_recv hK hP (ci := 7) (q0 := 0) rfl rfl) hK hP rfl hl.1 rfl (Nat.le_of_ble_eq_true rfl) dX7_sureOf_38 ⟨Nat.zero_le _, Nat.zero_le _⟩ ?_
                refine lv_aload_n hx hb dX7_sureOf_41 rfl (lv_at hl 3 rfl) ?_
                refine lv_iload_n hx hb dX7_sureOf_42 rfl (lv_at hl 4 rfl) ?_
                refine lv_iload hx hb dX7_sureOf_43 (lv_at hl 0 rfl) ?_
                refine lv_iload_n hx hb dX7_sureOf_45 rfl (lv_at hl 5 rfl) ?_
                refine ro_iV (n := 3) (As := [.int (nI i), .int (nI 1), .int (nI m9)]) ⟨hx, hb, hml, hown, hts⟩ (c_X7_patternOf l D h g cI J hz G b q hM hok9 hT i hi 1 m9 (by decide) (by omega)) (cwV 3 hts (gV mg_608 mg_610 mg_1025 mg_8 mg_611) rfl rfl rfl vd_X7_patternOf ⟨Nat.le_of_ble_eq_true rfl, Nat.le_of_ble_eq_true rfl⟩) (va_recv hK hP (ci := 7) (q0 := 0) rfl rfl) hK hP rfl hl.1 rfl (Nat.le_of_ble_eq_true rfl) dX7_sureOf_46 ⟨Nat.zero_le _, Nat.zero_le _⟩ ?_
                have hq1 := ptn_lt16 (f := dpl b q.2.2.2.1 i 3) (fun _ => sd_le hok9 (by decide)) (n := m9) (by omega)
                have hq2 := ptn_lt16 (f := dpl b q.2.2.2.1 i 1) (fun _ => sd_le hok9 (by decide)) (n := m9) (by omega)
                have hq3 := ptn_fda hok9 (t := q.2.2.2.1) (i := i) (x := 3) (y := 1) (m := m9) (by decide) (by decide) (by omega)
                refine j_icmp_eq (tgt := 56) hx hb dX7_sureOf_49 (by decide) (nI_toInt (by omega)) (nI_toInt (by omega)) (fun c_81 => ?_) (fun c_81 => ?_)
                · have hz_82 : m9 ≤ fda b q.2.2.2.1 i 1 3 := hq3.mp (by omega)
                  refine lv_iconst (v := nI 0) hx hb dX7_sureOf_56 (by decide) ?_
                  refine lv_istore_n (lv' := [(3, .int (nI 0)), (5, .int (nI 1)), (4, .int (nI 3)), (0, .ref h), (1, .int (nI i)), (2, .int (nI m9))]) hx hb dX7_sureOf_57 rfl hl (by decide) rfl (fun ls hl => ?_)
                  refine lv_iinc (v := nI 2) (lv' := [(5, .int (nI 2)), (3, .int (nI 0)), (4, .int (nI 3)), (0, .ref h), (1, .int (nI i)), (2, .int (nI m9))]) hx hb dX7_sureOf_58 hl (k := 1) rfl rfl (by decide) rfl (fun ls hl => ?_)
                  refine lv_goto (tgt := 22) hx hb dX7_sureOf_61 (by decide) ?_
                  refine lv_iload hx hb dX7_sureOf_22 (lv_at hl 0 rfl) ?_
                  refine lv_iload hx hb dX7_sureOf_24 (lv_at hl 2 rfl) ?_
                  refine j_icmp_ge (tgt := 64) hx hb dX7_sureOf_26 (by decide) (nI_toInt (by decide)) (nI_toInt (by decide)) (fun c_83 => absurd c_83 (by omega)) (fun c_83 => ?_)
                  refine lv_iload_n hx hb dX7_sureOf_29 rfl (lv_at hl 1 rfl) ?_
                  refine j_if_eq (tgt := 56) hx hb dX7_sureOf_30 (by decide) (nI_toInt (by decide)) (fun c_84 => ?_) (fun c_84 => absurd c_84 (by omega))
                  refine lv_iconst (v := nI 0) hx hb dX7_sureOf_56 (by decide) ?_
                  refine lv_istore_n (lv' := [(3, .int (nI 0)), (5, .int (nI 2)), (4, .int (nI 3)), (0, .ref h), (1, .int (nI i)), (2, .int (nI m9))]) hx hb dX7_sureOf_57 rfl hl (by decide) rfl (fun ls hl => ?_)
                  refine lv_iinc (v := nI 3) (lv' := [(5, .int (nI 3)), (3, .int (nI 0)), (4, .int (nI 3)), (0, .ref h), (1, .int (nI i)), (2, .int (nI m9))]) hx hb dX7_sureOf_58 hl (k := 1) rfl rfl (by decide) rfl (fun ls hl => ?_)
                  refine lv_goto (tgt := 22) hx hb dX7_sureOf_61 (by decide) ?_
                  refine lv_iload hx hb dX7_sureOf_22 (lv_at hl 0 rfl) ?_
                  refine lv_iload hx hb dX7_sureOf_24 (lv_at hl 2 rfl) ?_
                  refine j_icmp_ge (tgt := 64) hx hb dX7_sureOf_26 (by decide) (nI_toInt (by decide)) (nI_toInt (by decide)) (fun c_85 => ?_) (fun c_85 => absurd c_85 (by omega))
                  refine lv_iinc (v := nI 4) (lv' := [(4, .int (nI 4)), (5, .int (nI 3)), (3, .int (nI 0)), (0, .ref h), (1, .int (nI i)), (2, .int (nI m9))]) hx hb dX7_sureOf_64 hl (k := 2) rfl rfl (by decide) rfl (fun ls hl => ?_)
                  refine lv_goto (tgt := 13) hx hb dX7_sureOf_67 (by decide) ?_
                  refine lv_iload hx hb dX7_sureOf_13 (lv_at hl 0 rfl) ?_
                  refine lv_iconst (v := nI 4) hx hb dX7_sureOf_15 (by decide) ?_
                  refine j_icmp_ge (tgt := 70) hx hb dX7_sureOf_16 (by decide) (nI_toInt (by decide)) (nI_toInt (by decide)) (fun c_86 => ?_) (fun c_86 => absurd c_86 (by omega))
                  refine lv_iload_n hx hb dX7_sureOf_70 rfl (lv_at hl 2 rfl) ?_
                  refine j_if_eq (tgt := 76) hx hb dX7_sureOf_71 (by decide) (nI_toInt (by decide)) (fun c_87 => ?_) (fun c_87 => absurd c_87 (by omega))
                  refine lv_iinc (v := nI (m9 + 1)) (lv' := [(2, .int (nI (m9 + 1))), (4, .int (nI 4)), (5, .int (nI 3)), (3, .int (nI 0)), (0, .ref h), (1, .int (nI i))]) hx hb dX7_sureOf_76 hl (k := 5) rfl (fr_inc1 _) (by decide) rfl (fun ls hl => ?_)
                  refine lv_goto (tgt := 2) hx hb dX7_sureOf_79 (by decide) ?_
                  exact ih_2 (m9 + 1) (by omega) (by omega) (by omega) (by omega) _ (lv_sub hl [4, 5, 0] rfl)
                · have hz_88 : ¬ m9 ≤ fda b q.2.2.2.1 i 1 3 := fun z => by have := hq3.mpr z; omega
                  refine lv_iconst (v := nI 1) hx hb dX7_sureOf_52 (by decide) ?_
                  refine lv_goto (tgt := 57) hx hb dX7_sureOf_53 (by decide) ?_
                  refine lv_istore_n (lv' := [(3, .int (nI 1)), (5, .int (nI 1)), (4, .int (nI 3)), (0, .ref h), (1, .int (nI i)), (2, .int (nI m9))]) hx hb dX7_sureOf_57 rfl hl (by decide) rfl (fun ls hl => ?_)
                  refine lv_iinc (v := nI 2) (lv' := [(5, .int (nI 2)), (3, .int (nI 1)), (4, .int (nI 3)), (0, .ref h), (1, .int (nI i)), (2, .int (nI m9))]) hx hb dX7_sureOf_58 hl (k := 1) rfl rfl (by decide) rfl (fun ls hl => ?_)
                  refine lv_goto (tgt := 22) hx hb dX7_sureOf_61 (by decide) ?_
                  refine lv_iload hx hb dX7_sureOf_22 (lv_at hl 0 rfl) ?_
                  refine lv_iload hx hb dX7_sureOf_24 (lv_at hl 2 rfl) ?_
                  refine j_icmp_ge (tgt := 64) hx hb dX7_sureOf_26 (by decide) (nI_toInt (by decide)) (nI_toInt (by decide)) (fun c_89 => absurd c_89 (by omega)) (fun c_89 => ?_)
                  refine lv_iload_n hx hb dX7_sureOf_29 rfl (lv_at hl 1 rfl) ?_
                  refine j_if_eq (tgt := 56) hx hb dX7_sureOf_30 (by decide) (nI_toInt (by decide)) (fun c_90 => absurd c_90 (by omega)) (fun c_90 => ?_)
                  refine lv_aload_n hx hb dX7_sureOf_33 rfl (lv_at hl 3 rfl) ?_
                  refine lv_iload_n hx hb dX7_sureOf_34 rfl (lv_at hl 4 rfl) ?_
                  refine lv_iload hx hb dX7_sureOf_35 (lv_at hl 2 rfl) ?_
                  refine lv_iload_n hx hb dX7_sureOf_37 rfl (lv_at hl 5 rfl) ?_
                  refine ro_iV (n := 3) (As := [.int (nI i), .int (nI 3), .int (nI m9)]) ⟨hx, hb, hml, hown, hts⟩ (c_X7_patternOf l D h g cI J hz G b q hM hok9 hT i hi 3 m9 (by decide) (by omega)) (cwV 3 hts (gV mg_608 mg_610 mg_1025 mg_8 mg_611) rfl rfl rfl vd_X7_patternOf ⟨Nat.le_of_ble_eq_true rfl, Nat.le_of_ble_eq_true rfl⟩) (va_recv hK hP (ci := 7) (q0 := 0) rfl rfl) hK hP rfl hl.1 rfl (Nat.le_of_ble_eq_true rfl) dX7_sureOf_38 ⟨Nat.zero_le _, Nat.zero_le _⟩ ?_
                  refine lv_aload_n hx hb dX7_sureOf_41 rfl (lv_at hl 3 rfl) ?_
                  refine lv_iload_n hx hb dX7_sureOf_42 rfl (lv_at hl 4 rfl) ?_
                  refine lv_iload hx hb dX7_sureOf_43 (lv_at hl 0 rfl) ?_
                  refine lv_iload_n hx hb dX7_sureOf_45 rfl (lv_at hl 5 rfl) ?_
                  refine ro_iV (n := 3) (As := [.int (nI i), .int (nI 2), .int (nI m9)]) ⟨hx, hb, hml, hown, hts⟩ (c_X7_patternOf l D h g cI J hz G b q hM hok9 hT i hi 2 m9 (by decide) (by omega)) (cwV 3 hts (gV mg_608 mg_610 mg_1025 mg_8 mg_611) rfl rfl rfl vd_X7_patternOf ⟨Nat.le_of_ble_eq_true rfl, Nat.le_of_ble_eq_true rfl⟩) (va_recv hK hP (ci := 7) (q0 := 0) rfl rfl) hK hP rfl hl.1 rfl (Nat.le_of_ble_eq_true rfl) dX7_sureOf_46 ⟨Nat.zero_le _, Nat.zero_le _⟩ ?_
                  have hq1 := ptn_lt16 (f := dpl b q.2.2.2.1 i 3) (fun _ => sd_le hok9 (by decide)) (n := m9) (by omega)
                  have hq2 := ptn_lt16 (f := dpl b q.2.2.2.1 i 2) (fun _ => sd_le hok9 (by decide)) (n := m9) (by omega)
                  have hq3 := ptn_fda hok9 (t := q.2.2.2.1) (i := i) (x := 3) (y := 2) (m := m9) (by decide) (by decide) (by omega)
                  refine j_icmp_eq (tgt := 56) hx hb dX7_sureOf_49 (by decide) (nI_toInt (by omega)) (nI_toInt (by omega)) (fun c_91 => ?_) (fun c_91 => ?_)
                  · have hz_92 : m9 ≤ fda b q.2.2.2.1 i 2 3 := hq3.mp (by omega)
                    refine lv_iconst (v := nI 0) hx hb dX7_sureOf_56 (by decide) ?_
                    refine lv_istore_n (lv' := [(3, .int (nI 0)), (5, .int (nI 2)), (4, .int (nI 3)), (0, .ref h), (1, .int (nI i)), (2, .int (nI m9))]) hx hb dX7_sureOf_57 rfl hl (by decide) rfl (fun ls hl => ?_)
                    refine lv_iinc (v := nI 3) (lv' := [(5, .int (nI 3)), (3, .int (nI 0)), (4, .int (nI 3)), (0, .ref h), (1, .int (nI i)), (2, .int (nI m9))]) hx hb dX7_sureOf_58 hl (k := 1) rfl rfl (by decide) rfl (fun ls hl => ?_)
                    refine lv_goto (tgt := 22) hx hb dX7_sureOf_61 (by decide) ?_
                    refine lv_iload hx hb dX7_sureOf_22 (lv_at hl 0 rfl) ?_
                    refine lv_iload hx hb dX7_sureOf_24 (lv_at hl 2 rfl) ?_
                    refine j_icmp_ge (tgt := 64) hx hb dX7_sureOf_26 (by decide) (nI_toInt (by decide)) (nI_toInt (by decide)) (fun c_93 => ?_) (fun c_93 => absurd c_93 (by omega))
                    refine lv_iinc (v := nI 4) (lv' := [(4, .int (nI 4)), (5, .int (nI 3)), (3, .int (nI 0)), (0, .ref h), (1, .int (nI i)), (2, .int (nI m9))]) hx hb dX7_sureOf_64 hl (k := 2) rfl rfl (by decide) rfl (fun ls hl => ?_)
                    refine lv_goto (tgt := 13) hx hb dX7_sureOf_67 (by decide) ?_
                    refine lv_iload hx hb dX7_sureOf_13 (lv_at hl 0 rfl) ?_
                    refine lv_iconst (v := nI 4) hx hb dX7_sureOf_15 (by decide) ?_
                    refine j_icmp_ge (tgt := 70) hx hb dX7_sureOf_16 (by decide) (nI_toInt (by decide)) (nI_toInt (by decide)) (fun c_94 => ?_) (fun c_94 => absurd c_94 (by omega))
                    refine lv_iload_n hx hb dX7_sureOf_70 rfl (lv_at hl 2 rfl) ?_
                    refine j_if_eq (tgt := 76) hx hb dX7_sureOf_71 (by decide) (nI_toInt (by decide)) (fun c_95 => ?_) (fun c_95 => absurd c_95 (by omega))
                    refine lv_iinc (v := nI (m9 + 1)) (lv' := [(2, .int (nI (m9 + 1))), (4, .int (nI 4)), (5, .int (nI 3)), (3, .int (nI 0)), (0, .ref h), (1, .int (nI i))]) hx hb dX7_sureOf_76 hl (k := 5) rfl (fr_inc1 _) (by decide) rfl (fun ls hl => ?_)
                    refine lv_goto (tgt := 2) hx hb dX7_sureOf_79 (by decide) ?_
                    exact ih_2 (m9 + 1) (by omega) (by omega) (by omega) (by omega) _ (lv_sub hl [4, 5, 0] rfl)
                  · have hz_96 : ¬ m9 ≤ fda b q.2.2.2.1 i 2 3 := fun z => by have := hq3.mpr z; omega
                    refine lv_iconst (v := nI 1) hx hb dX7_sureOf_52 (by decide) ?_
                    refine lv_goto (tgt := 57) hx hb dX7_sureOf_53 (by decide) ?_
                    refine lv_istore_n (lv' := [(3, .int (nI 1)), (5, .int (nI 2)), (4, .int (nI 3)), (0, .ref h), (1, .int (nI i)), (2, .int (nI m9))]) hx hb dX7_sureOf_57 rfl hl (by decide) rfl (fun ls hl => ?_)
                    refine lv_iinc (v := nI 3) (lv' := [(5, .int (nI 3)), (3, .int (nI 1)), (4, .int (nI 3)), (0, .ref h), (1, .int (nI i)), (2, .int (nI m9))]) hx hb dX7_sureOf_58 hl (k := 1) rfl rfl (by decide) rfl (fun ls hl => ?_)
                    refine lv_goto (tgt := 22) hx hb dX7_sureOf_61 (by decide) ?_
                    refine lv_iload hx hb dX7_sureOf_22 (lv_at hl 0 rfl) ?_
                    refine lv_iload hx hb dX7_sureOf_24 (lv_at hl 2 rfl) ?_
                    refine j_icmp_ge (tgt := 64) hx hb dX7_sureOf_26 (by decide) (nI_toInt (by decide)) (nI_toInt (by decide)) (fun c_97 => ?_) (fun c_97 => absurd c_97 (by omega))
                    refine lv_iinc (v := nI 4) (lv' := [(4, .int (nI 4)), (5, .int (nI 3)), (3, .int (nI 1)), (0, .ref h), (1, .int (nI i)), (2, .int (nI m9))]) hx hb dX7_sureOf_64 hl (k := 2) rfl rfl (by decide) rfl (fun ls hl => ?_)
                    refine lv_goto (tgt := 13) hx hb dX7_sureOf_67 (by decide) ?_
                    refine lv_iload hx hb dX7_sureOf_13 (lv_at hl 0 rfl) ?_
                    refine lv_iconst (v := nI 4) hx hb dX7_sureOf_15 (by decide) ?_
                    refine j_icmp_ge (tgt := 70) hx hb dX7_sureOf_16 (by decide) (nI_toInt (by decide)) (nI_toInt (by decide)) (fun c_98 => ?_) (fun c_98 => absurd c_98 (by omega))
                    refine lv_iload_n hx hb dX7_sureOf_70 rfl (lv_at hl 2 rfl) ?_
                    refine j_if_eq (tgt := 76) hx hb dX7_sureOf_71 (by decide) (nI_toInt (by decide)) (fun c_99 => absurd c_99 (by omega)) (fun c_99 => ?_)
                    refine lv_iload_n hx hb dX7_sureOf_74 rfl (lv_at hl 5 rfl) ?_
                    exact ro_iret hx hb hr hlocks (by rw [sur, if_neg (by omega)]; exact congrArg nI (by omega)) dX7_sureOf_75
  exact K_1 (17 - 1 + 1) 1 (by decide) (by decide) (Or.inl rfl) (Nat.lt_succ_self _) _ (lv_sub hl [1, 2, 0] rfl)

set_option maxHeartbeats 4000000 in
set_option maxRecDepth 100000 in
theorem c_X7_slipsBy (l : Launch) (D : va_G) (h : Nat) (g : Nat → Nat) (cI : ClassId) (J : Nat → Int32) (hz : Int64) (G : Nat → Nat → Int32) (b : Nat → Nat → Nat) (q : RS) (hM : MR b q J G) (hok9 : hok b) (hT : Tok q) (i : Nat) (hi : i < q.1) (v : Nat) (hv : v < 4) : ROi l yX7_slipsBy (wA yX7_slipsBy cX7_slipsBy 6 (some .int)) ({ frames := 1, cells := 0, slots := 0, locals := 28 }) D (iTys cI) (mW h g cI J hz G) [.ref h, .int (nI i), .int (nI v)] (nI (sly b q.2.2.2.1 i q.2.2.2.2 q.2.1 v)) := by
  refine go_start (by decide) (Nat.le_of_ble_eq_true rfl) ?_
  intro p e s m args below meth c ls F _ hB hl
  obtain ⟨hx, hb, hr, hlocks, hml, hown, hts⟩ := F
  obtain ⟨hP, hK⟩ := hB
  have hown : s.vm.findClass RX7 = some m.cls := hown
  have hl : lv_has ls 6 [(0, .ref h), (1, .int (nI i)), (2, .int (nI v))] := hl
  have ht5 := hT.1
  have ht8 := hT.2.1
  obtain ⟨hk0, hv0, hw0, hp0⟩ := hT.2.2.1 i hi
  refine lv_iconst (v := nI 0) hx hb dX7_slipsBy_0 (by decide) ?_
  refine lv_istore_n (lv' := [(3, .int (nI 0)), (0, .ref h), (1, .int (nI i)), (2, .int (nI v))]) hx hb dX7_slipsBy_1 rfl hl (by decide) rfl (fun ls hl => ?_)
  refine lv_iconst (v := nI 0) hx hb dX7_slipsBy_2 (by decide) ?_
  refine lv_istore (lv' := [(4, .int (nI 0)), (3, .int (nI 0)), (0, .ref h), (1, .int (nI i)), (2, .int (nI v))]) hx hb dX7_slipsBy_3 hl (by decide) rfl (fun ls hl => ?_)
  have K_1 : ∀ n9 : Nat, ∀ (x : Nat) (n : Nat), n ≤ q.2.1 → x = cnt (slf b (q.2.2.2.1 i 0) i q.2.2.2.2 v) n → q.2.1 - n < n9 → ∀ ls : Array Slot, lv_has ls 6 [(0, .ref h), (1, .int (nI i)), (2, .int (nI v)), (3, .int (nI x)), (4, .int (nI (4 * n)))] → W p l e (headSpec (wA yX7_slipsBy cX7_slipsBy 6 (some .int)) ({ frames := 1, cells := 0, slots := 0, locals := 28 })).room s m args below meth c s.heap [] 0 0 (MQ below (vp_Si (fun z9 => z9 = nI (sly b q.2.2.2.1 i q.2.2.2.2 q.2.1 v))) args s 0 0 (fun _ => False)) (F0 m 5 ls []) := by
    intro n9
    induction n9 with
    | zero => intros; omega
    | succ n9 ih_2 =>
      intro x n hn hx0 hn9 ls hl
      have hxl := cnt_le (slf b (q.2.2.2.1 i 0) i q.2.2.2.2 v) n
      refine lv_iload hx hb dX7_slipsBy_5 (lv_at hl 4 rfl) ?_
      refine lv_iconst (v := nI 4) hx hb dX7_slipsBy_7 (by decide) ?_
      refine lv_aload_n hx hb dX7_slipsBy_8 rfl (lv_at hl 0 rfl) ?_
      refine va_get (D := D) (ci := 7) (v := .int (nI q.2.1)) (C := RX7) (T := TX7) (N := 22) hx hb hts iX7 hown hK hP 0 rfl rfl 12 (by decide) (hts _ mg_474) (fun _ h9 => h9) (congrArg (fun z => some (Value.int z)) (MR_12 hM)) dX7_slipsBy_9 ?_
      refine n_imul hx hb dX7_slipsBy_12 ?_
      refine j_icmp_ge (tgt := 88) hx hb dX7_slipsBy_13 (by decide) (nI_toInt (by omega)) (nI_toInt (by omega)) (fun c_3 => ?_) (fun c_3 => ?_)
      · have e9 : n = q.2.1 := by omega
        refine lv_iload_n hx hb dX7_slipsBy_88 rfl (lv_at hl 3 rfl) ?_
        exact ro_iret hx hb hr hlocks (by rw [hx0, e9]; rfl) dX7_slipsBy_89
      · obtain ⟨hn0, hn1, hn2, hn3⟩ := hT.2.2.2 n (by omega)
        refine lv_aload_n hx hb dX7_slipsBy_16 rfl (lv_at hl 0 rfl) ?_
        refine lv_aload_n hx hb dX7_slipsBy_17 rfl (lv_at hl 0 rfl) ?_
        refine va_get (D := D) (ci := 7) (v := .ref (g 11)) (C := RX7) (T := TX7) (N := 22) hx hb hts iX7 hown hK hP 0 rfl rfl 11 (by decide) (hts _ mg_473) (fun _ h9 => h9) rfl dX7_slipsBy_18 ?_
        refine lv_iconst (v := nI 4) hx hb dX7_slipsBy_21 (by decide) ?_
        refine lv_iload_n hx hb dX7_slipsBy_22 rfl (lv_at hl 1 rfl) ?_
        refine n_imul hx hb dX7_slipsBy_23 ?_
        refine n_aldi hx hb hK hP 5 0 rfl rfl (by omega) (by decide) (v := nI (q.2.2.2.1 i 0)) (MR_row0 hM (by omega)) dX7_slipsBy_24 ?_
        refine lv_aload_n hx hb dX7_slipsBy_25 rfl (lv_at hl 0 rfl) ?_
        refine va_get (D := D) (ci := 7) (v := .ref (g 13)) (C := RX7) (T := TX7) (N := 22) hx hb hts iX7 hown hK hP 0 rfl rfl 13 (by decide) (hts _ mg_475) (fun _ h9 => h9) rfl dX7_slipsBy_26 ?_
        refine lv_iload hx hb dX7_slipsBy_29 (lv_at hl 4 rfl) ?_
        refine lv_iconst (v := nI 3) hx hb dX7_slipsBy_31 (by decide) ?_
        refine n_iadd hx hb dX7_slipsBy_32 ?_
        refine n_aldi hx hb hK hP 6 0 rfl rfl (by omega) (by decide) (v := nI (q.2.2.2.2 n 3)) (MR_put hM (by omega) (by omega)) dX7_slipsBy_33 ?_
        refine lv_iload_n hx hb dX7_slipsBy_34 rfl (lv_at hl 2 rfl) ?_
        refine lv_aload_n hx hb dX7_slipsBy_35 rfl (lv_at hl 0 rfl) ?_
        refine va_get (D := D) (ci := 7) (v := .ref (g 13)) (C := RX7) (T := TX7) (N := 22) hx hb hts iX7 hown hK hP 0 rfl rfl 13 (by decide) (hts _ mg_475) (fun _ h9 => h9) rfl dX7_slipsBy_36 ?_
        refine lv_iload hx hb dX7_slipsBy_39 (lv_at hl 4 rfl) ?_
        refine lv_iconst (v := nI 1) hx hb dX7_slipsBy_41 (by decide) ?_
        refine n_iadd hx hb dX7_slipsBy_42 ?_
        refine n_aldi hx hb hK hP 6 0 rfl rfl (by omega) (by decide) (v := nI (q.2.2.2.2 n 1)) (MR_put hM (by omega) (by omega)) dX7_slipsBy_43 ?_
        refine ro_iV (n := 4) (As := [.int (nI (q.2.2.2.1 i 0)), .int (nI (q.2.2.2.2 n 3)), .int (nI v), .int (nI (q.2.2.2.2 n 1))]) ⟨hx, hb, hml, hown, hts⟩ (c_X7_dripBy l D h g cI J hz G b q hM hok9 hT (q.2.2.2.1 i 0) v (q.2.2.2.2 n 3) (q.2.2.2.2 n 1) (by omega) (by omega) (by omega) (by omega)) (cwV 4 hts (gV mg_616 mg_618 mg_1027 mg_8 mg_619) rfl rfl rfl vd_X7_dripBy ⟨Nat.le_of_ble_eq_true rfl, Nat.le_of_ble_eq_true rfl⟩) (va_recv hK hP (ci := 7) (q0 := 0) rfl rfl) hK hP rfl hl.1 rfl (Nat.le_of_ble_eq_true rfl) dX7_slipsBy_44 ⟨Nat.zero_le _, Nat.zero_le _⟩ ?_
        have hd1 := sd_le hok9 (kd := q.2.2.2.1 i 0) (w := q.2.2.2.2 n 3) (n := q.2.2.2.2 n 1) hv
        refine lv_istore (lv' := [(5, .int (nI (sd b (q.2.2.2.1 i 0) (q.2.2.2.2 n 3) v (q.2.2.2.2 n 1)))), (0, .ref h), (1, .int (nI i)), (2, .int (nI v)), (3, .int (nI x)), (4, .int (nI (4 * n)))]) hx hb dX7_slipsBy_47 hl (by decide) rfl (fun ls hl => ?_)
        refine lv_iload_n hx hb dX7_slipsBy_49 rfl (lv_at hl 4 rfl) ?_
        refine lv_aload_n hx hb dX7_slipsBy_50 rfl (lv_at hl 1 rfl) ?_
        refine va_get (D := D) (ci := 7) (v := .ref (g 13)) (C := RX7) (T := TX7) (N := 22) hx hb hts iX7 hown hK hP 0 rfl rfl 13 (by decide) (hts _ mg_475) (fun _ h9 => h9) rfl dX7_slipsBy_51 ?_
        refine lv_iload hx hb dX7_slipsBy_54 (lv_at hl 5 rfl) ?_
        refine n_aldi hx hb hK hP 6 0 rfl rfl (by omega) (by decide) (v := nI (q.2.2.2.2 n 0)) (MR_put0 hM (by omega)) dX7_slipsBy_56 ?_
        refine lv_iload_n hx hb dX7_slipsBy_57 rfl (lv_at hl 2 rfl) ?_
        refine j_icmp_ne (tgt := 79) hx hb dX7_slipsBy_58 (by decide) (nI_toInt (by omega)) (nI_toInt (by omega)) (fun c_4 => ?_) (fun c_4 => ?_)
        · have hzz : slf b (q.2.2.2.1 i 0) i q.2.2.2.2 v n = false := decide_eq_false (fun z => by omega)
          refine lv_iconst (v := nI 0) hx hb dX7_slipsBy_79 (by decide) ?_
          refine n_iadd hx hb dX7_slipsBy_80 ?_
          refine lv_istore_n (lv' := [(3, .int (nI (x + 0))), (5, .int (nI (sd b (q.2.2.2.1 i 0) (q.2.2.2.2 n 3) v (q.2.2.2.2 n 1)))), (0, .ref h), (1, .int (nI i)), (2, .int (nI v)), (4, .int (nI (4 * n)))]) hx hb dX7_slipsBy_81 rfl hl (by decide) rfl (fun ls hl => ?_)
          refine lv_iinc (v := nI (4 * n + 4)) (lv' := [(4, .int (nI (4 * n + 4))), (3, .int (nI (x + 0))), (5, .int (nI (sd b (q.2.2.2.1 i 0) (q.2.2.2.2 n 3) v (q.2.2.2.2 n 1)))), (0, .ref h), (1, .int (nI i)), (2, .int (nI v))]) hx hb dX7_slipsBy_82 hl (k := 5) rfl (fr_inc4 _) (by decide) rfl (fun ls hl => ?_)
          have hl : lv_has ls 6 [(4, .int (nI (4 * (n + 1)))), (3, .int (nI (x + 0))), (5, .int (nI (sd b (q.2.2.2.1 i 0) (q.2.2.2.2 n 3) v (q.2.2.2.2 n 1)))), (0, .ref h), (1, .int (nI i)), (2, .int (nI v))] := hl
          refine lv_goto (tgt := 5) hx hb dX7_slipsBy_85 (by decide) ?_
          exact ih_2 (x + 0) (n + 1) (by omega) (by first | (rw [cnt_t hzz, hx0]; done) | (rw [cnt_f hzz]; omega)) (by omega) _ (lv_sub hl [3, 4, 5, 1, 0] rfl)
        · refine lv_iload hx hb dX7_slipsBy_61 (lv_at hl 0 rfl) ?_
          refine lv_aload_n hx hb dX7_slipsBy_63 rfl (lv_at hl 1 rfl) ?_
          refine va_get (D := D) (ci := 7) (v := .ref (g 13)) (C := RX7) (T := TX7) (N := 22) hx hb hts iX7 hown hK hP 0 rfl rfl 13 (by decide) (hts _ mg_475) (fun _ h9 => h9) rfl dX7_slipsBy_64 ?_
          refine lv_iload hx hb dX7_slipsBy_67 (lv_at hl 5 rfl) ?_
          refine lv_iconst (v := nI 2) hx hb dX7_slipsBy_69 (by decide) ?_
          refine n_iadd hx hb dX7_slipsBy_70 ?_
          refine n_aldi hx hb hK hP 6 0 rfl rfl (by omega) (by decide) (v := nI (q.2.2.2.2 n 2)) (MR_put hM (by omega) (by omega)) dX7_slipsBy_71 ?_
          refine j_icmp_eq (tgt := 79) hx hb dX7_slipsBy_72 (by decide) (nI_toInt (by omega)) (nI_toInt (by omega)) (fun c_5 => ?_) (fun c_5 => ?_)
          · have hzz : slf b (q.2.2.2.1 i 0) i q.2.2.2.2 v n = false := decide_eq_false (fun z => by omega)
            refine lv_iconst (v := nI 0) hx hb dX7_slipsBy_79 (by decide) ?_
            refine n_iadd hx hb dX7_slipsBy_80 ?_
            refine lv_istore_n (lv' := [(3, .int (nI (x + 0))), (5, .int (nI (sd b (q.2.2.2.1 i 0) (q.2.2.2.2 n 3) v (q.2.2.2.2 n 1)))), (0, .ref h), (1, .int (nI i)), (2, .int (nI v)), (4, .int (nI (4 * n)))]) hx hb dX7_slipsBy_81 rfl hl (by decide) rfl (fun ls hl => ?_)
            refine lv_iinc (v := nI (4 * n + 4)) (lv' := [(4, .int (nI (4 * n + 4))), (3, .int (nI (x + 0))), (5, .int (nI (sd b (q.2.2.2.1 i 0) (q.2.2.2.2 n 3) v (q.2.2.2.2 n 1)))), (0, .ref h), (1, .int (nI i)), (2, .int (nI v))]) hx hb dX7_slipsBy_82 hl (k := 5) rfl (fr_inc4 _) (by decide) rfl (fun ls hl => ?_)
            have hl : lv_has ls 6 [(4, .int (nI (4 * (n + 1)))), (3, .int (nI (x + 0))), (5, .int (nI (sd b (q.2.2.2.1 i 0) (q.2.2.2.2 n 3) v (q.2.2.2.2 n 1)))), (0, .ref h), (1, .int (nI i)), (2, .int (nI v))] := hl
            refine lv_goto (tgt := 5) hx hb dX7_slipsBy_85 (by decide) ?_
            exact ih_2 (x + 0) (n + 1) (by omega) (by first | (rw [cnt_t hzz, hx0]; done) | (rw [cnt_f hzz]; omega)) (by omega) _ (lv_sub hl [3, 4, 5, 1, 0] rfl)
          · have hzz : slf b (q.2.2.2.1 i 0) i q.2.2.2.2 v n = true := decide_eq_true (by constructor <;> omega)
            refine lv_iconst (v := nI 1) hx hb dX7_slipsBy_75 (by decide) ?_
            refine lv_goto (tgt := 80) hx hb dX7_slipsBy_76 (by decide) ?_
            refine n_iadd hx hb dX7_slipsBy_80 ?_
            refine lv_istore_n (lv' := [(3, .int (nI (x + 1))), (5, .int (nI (sd b (q.2.2.2.1 i 0) (q.2.2.2.2 n 3) v (q.2.2.2.2 n 1)))), (0, .ref h), (1, .int (nI i)), (2, .int (nI v)), (4, .int (nI (4 * n)))]) hx hb dX7_slipsBy_81 rfl hl (by decide) rfl (fun ls hl => ?_)
            refine lv_iinc (v := nI (4 * n + 4)) (lv' := [(4, .int (nI (4 * n + 4))), (3, .int (nI (x + 1))), (5, .int (nI (sd b (q.2.2.2.1 i 0) (q.2.2.2.2 n 3) v (q.2.2.2.2 n 1)))), (0, .ref h), (1, .int (nI i)), (2, .int (nI v))]) hx hb dX7_slipsBy_82 hl (k := 5) rfl (fr_inc4 _) (by decide) rfl (fun ls hl => ?_)
            have hl : lv_has ls 6 [(4, .int (nI (4 * (n + 1)))), (3, .int (nI (x + 1))), (5, .int (nI (sd b (q.2.2.2.1 i 0) (q.2.2.2.2 n 3) v (q.2.2.2.2 n 1)))), (0, .ref h), (1, .int (nI i)), (2, .int (nI v))] := hl
            refine lv_goto (tgt := 5) hx hb dX7_slipsBy_85 (by decide) ?_
            exact ih_2 (x + 1) (n + 1) (by omega) (by first | (rw [cnt_t hzz, hx0]; done) | (rw [cnt_f hzz]; omega)) (by omega) _ (lv_sub hl [3, 4, 5, 1, 0] rfl)
  exact K_1 (q.2.1 - 0 + 1) 0 0 (by omega) (rfl) (Nat.lt_succ_self _) _ (lv_sub hl [2, 3, 4, 1, 0] rfl)

set_option maxHeartbeats 4000000 in
set_option maxRecDepth 100000 in
theorem c_X7_saysOf (l : Launch) (D : va_G) (h : Nat) (g : Nat → Nat) (cI : ClassId) (J : Nat → Int32) (hz : Int64) (G : Nat → Nat → Int32) (b : Nat → Nat → Nat) (q : RS) (hM : MR b q J G) (hok9 : hok b) (hT : Tok q) (i : Nat) (hi : i < q.1) : ROi l yX7_saysOf (wA yX7_saysOf cX7_saysOf 4 (some .int)) ({ frames := 2, cells := 0, slots := 0, locals := 53 }) D (iTys cI) (mW h g cI J hz G) [.ref h, .int (nI i)] (nI (sys (sly b q.2.2.2.1 i q.2.2.2.2 q.2.1) 4)) := by
  refine go_start (by decide) (Nat.le_of_ble_eq_true rfl) ?_
  intro p e s m args below meth c ls F _ hB hl
  obtain ⟨hx, hb, hr, hlocks, hml, hown, hts⟩ := F
  obtain ⟨hP, hK⟩ := hB
  have hown : s.vm.findClass RX7 = some m.cls := hown
  have hl : lv_has ls 4 [(0, .ref h), (1, .int (nI i))] := hl
  have ht5 := hT.1
  have ht8 := hT.2.1
  obtain ⟨hk0, hv0, hw0, hp0⟩ := hT.2.2.1 i hi
  refine lv_iconst (v := nI 0) hx hb dX7_saysOf_0 (by decide) ?_
  refine lv_istore_n (lv' := [(2, .int (nI 0)), (0, .ref h), (1, .int (nI i))]) hx hb dX7_saysOf_1 rfl hl (by decide) rfl (fun ls hl => ?_)
  refine lv_iconst (v := nI 0) hx hb dX7_saysOf_2 (by decide) ?_
  refine lv_istore_n (lv' := [(3, .int (nI 0)), (2, .int (nI 0)), (0, .ref h), (1, .int (nI i))]) hx hb dX7_saysOf_3 rfl hl (by decide) rfl (fun ls hl => ?_)
  have K_1 : ∀ n9 : Nat, ∀ (x : Nat) (v : Nat), v ≤ 4 → x = sys (sly b q.2.2.2.1 i q.2.2.2.2 q.2.1) v → 4 - v < n9 → ∀ ls : Array Slot, lv_has ls 4 [(0, .ref h), (1, .int (nI i)), (2, .int (nI x)), (3, .int (nI v))] → W p l e (headSpec (wA yX7_saysOf cX7_saysOf 4 (some .int)) ({ frames := 2, cells := 0, slots := 0, locals := 53 })).room s m args below meth c s.heap [] 0 0 (MQ below (vp_Si (fun z9 => z9 = nI (sys (sly b q.2.2.2.1 i q.2.2.2.2 q.2.1) 4))) args s 0 0 (fun _ => False)) (F0 m 4 ls []) := by
    intro n9
    induction n9 with
    | zero => intros; omega
    | succ n9 ih_2 =>
      intro x v hv hx0 hn9 ls hl
      refine lv_iload_n hx hb dX7_saysOf_4 rfl (lv_at hl 3 rfl) ?_
      refine lv_iconst (v := nI 4) hx hb dX7_saysOf_5 (by decide) ?_
      refine j_icmp_ge (tgt := 34) hx hb dX7_saysOf_6 (by decide) (nI_toInt (by omega)) (nI_toInt (by decide)) (fun c_3 => ?_) (fun c_3 => ?_)
      · refine lv_iload_n hx hb dX7_saysOf_34 rfl (lv_at hl 2 rfl) ?_
        exact ro_iret hx hb hr hlocks (by rw [hx0, show v = 4 by omega]) dX7_saysOf_35
      · refine lv_iload_n hx hb dX7_saysOf_9 rfl (lv_at hl 2 rfl) ?_
        refine lv_aload_n hx hb dX7_saysOf_10 rfl (lv_at hl 0 rfl) ?_
        refine lv_iload_n hx hb dX7_saysOf_11 rfl (lv_at hl 1 rfl) ?_
        refine lv_iload_n hx hb dX7_saysOf_12 rfl (lv_at hl 3 rfl) ?_
        refine ro_iV (n := 2) (As := [.int (nI i), .int (nI v)]) ⟨hx, hb, hml, hown, hts⟩ (c_X7_slipsBy l D h g cI J hz G b q hM hok9 hT i hi v (by omega)) (cwV 2 hts (gV mg_624 mg_626 mg_1029 mg_8 mg_627) rfl rfl rfl vd_X7_slipsBy ⟨Nat.le_of_ble_eq_true rfl, Nat.le_of_ble_eq_true rfl⟩) (va_recv hK hP (ci := 7) (q0 := 0) rfl rfl) hK hP rfl hl.1 rfl (Nat.le_of_ble_eq_true rfl) dX7_saysOf_13 ⟨Nat.zero_le _, Nat.zero_le _⟩ ?_
        have hs9 : (sly b q.2.2.2.1 i q.2.2.2.2 q.2.1) v ≤ q.2.1 := slp_le _ _ _ _ _ _
        refine j_if_ne (tgt := 25) hx hb dX7_saysOf_16 (by decide) (nI_toInt (by omega)) (fun c_4 => ?_) (fun c_4 => ?_)
        · refine lv_iconst (v := nI 0) hx hb dX7_saysOf_25 (by decide) ?_
          refine n_ior hx hb dX7_saysOf_26 ?_
          refine lv_istore_n (lv' := [(2, .int (nI (x ||| 0))), (0, .ref h), (1, .int (nI i)), (3, .int (nI v))]) hx hb dX7_saysOf_27 rfl hl (by decide) rfl (fun ls hl => ?_)
          refine lv_iinc (v := nI (v + 1)) (lv' := [(3, .int (nI (v + 1))), (2, .int (nI (x ||| 0))), (0, .ref h), (1, .int (nI i))]) hx hb dX7_saysOf_28 hl (k := 3) rfl (fr_inc1 _) (by decide) rfl (fun ls hl => ?_)
          refine lv_goto (tgt := 4) hx hb dX7_saysOf_31 (by decide) ?_
          exact ih_2 (x ||| 0) (v + 1) (by omega) (by first | (rw [hx0]; exact sys_t (by omega)) | (rw [hx0, Nat.or_zero]; exact sys_f (by omega))) (by omega) _ (lv_sub hl [2, 3, 1, 0] rfl)
        · refine lv_iconst (v := nI 1) hx hb dX7_saysOf_19 (by decide) ?_
          refine lv_iload_n hx hb dX7_saysOf_20 rfl (lv_at hl 3 rfl) ?_
          refine n_ishl hx hb dX7_saysOf_21 (by omega) (by rcases (show v = 0 ∨ v = 1 ∨ v = 2 ∨ v = 3 by omega) with rfl | rfl | rfl | rfl <;> decide) ?_
          refine lv_goto (tgt := 26) hx hb dX7_saysOf_22 (by decide) ?_
          refine n_ior hx hb dX7_saysOf_26 ?_
          refine lv_istore_n (lv' := [(2, .int (nI (x ||| (1 * 2 ^ v)))), (0, .ref h), (1, .int (nI i)), (3, .int (nI v))]) hx hb dX7_saysOf_27 rfl hl (by decide) rfl (fun ls hl => ?_)
          refine lv_iinc (v := nI (v + 1)) (lv' := [(3, .int (nI (v + 1))), (2, .int (nI (x ||| (1 * 2 ^ v)))), (0, .ref h), (1, .int (nI i))]) hx hb dX7_saysOf_28 hl (k := 3) rfl (fr_inc1 _) (by decide) rfl (fun ls hl => ?_)
          refine lv_goto (tgt := 4) hx hb dX7_saysOf_31 (by decide) ?_
          exact ih_2 (x ||| (1 * 2 ^ v)) (v + 1) (by omega) (by first | (rw [hx0]; exact sys_t (by omega)) | (rw [hx0, Nat.or_zero]; exact sys_f (by omega))) (by omega) _ (lv_sub hl [2, 3, 1, 0] rfl)
  exact K_1 (4 - 0 + 1) 0 0 (by omega) (rfl) (Nat.lt_succ_self _) _ (lv_sub hl [2, 3, 1, 0] rfl)

set_option maxHeartbeats 4000000 in
set_option maxRecDepth 100000 in
theorem c_X7_likelyOf (l : Launch) (D : va_G) (h : Nat) (g : Nat → Nat) (cI : ClassId) (J : Nat → Int32) (hz : Int64) (G : Nat → Nat → Int32) (b : Nat → Nat → Nat) (q : RS) (hM : MR b q J G) (hok9 : hok b) (hT : Tok q) (i : Nat) (hi : i < q.1) : ROi l yX7_likelyOf (wA yX7_likelyOf cX7_likelyOf 4 (some .int)) ({ frames := 2, cells := 0, slots := 0, locals := 53 }) D (iTys cI) (mW h g cI J hz G) [.ref h, .int (nI i)] (nI (lky (sly b q.2.2.2.1 i q.2.2.2.2 q.2.1) 3)) := by
  refine go_start (by decide) (Nat.le_of_ble_eq_true rfl) ?_
  intro p e s m args below meth c ls F _ hB hl
  obtain ⟨hx, hb, hr, hlocks, hml, hown, hts⟩ := F
  obtain ⟨hP, hK⟩ := hB
  have hown : s.vm.findClass RX7 = some m.cls := hown
  have hl : lv_has ls 4 [(0, .ref h), (1, .int (nI i))] := hl
  have ht5 := hT.1
  have ht8 := hT.2.1
  obtain ⟨hk0, hv0, hw0, hp0⟩ := hT.2.2.1 i hi
  refine lv_iconst (v := nI 0) hx hb dX7_likelyOf_0 (by decide) ?_
  refine lv_istore_n (lv' := [(2, .int (nI 0)), (0, .ref h), (1, .int (nI i))]) hx hb dX7_likelyOf_1 rfl hl (by decide) rfl (fun ls hl => ?_)
  refine lv_iconst (v := nI 1) hx hb dX7_likelyOf_2 (by decide) ?_
  refine lv_istore_n (lv' := [(3, .int (nI 1)), (2, .int (nI 0)), (0, .ref h), (1, .int (nI i))]) hx hb dX7_likelyOf_3 rfl hl (by decide) rfl (fun ls hl => ?_)
  have K_1 : ∀ n9 : Nat, ∀ (x : Nat) (v : Nat), v ≤ 3 → x = lky (sly b q.2.2.2.1 i q.2.2.2.2 q.2.1) v → 3 - v < n9 → ∀ ls : Array Slot, lv_has ls 4 [(0, .ref h), (1, .int (nI i)), (2, .int (nI x)), (3, .int (nI (v + 1)))] → W p l e (headSpec (wA yX7_likelyOf cX7_likelyOf 4 (some .int)) ({ frames := 2, cells := 0, slots := 0, locals := 53 })).room s m args below meth c s.heap [] 0 0 (MQ below (vp_Si (fun z9 => z9 = nI (lky (sly b q.2.2.2.1 i q.2.2.2.2 q.2.1) 3))) args s 0 0 (fun _ => False)) (F0 m 4 ls []) := by
    intro n9
    induction n9 with
    | zero => intros; omega
    | succ n9 ih_2 =>
      intro x v hv hx0 hn9 ls hl
      refine lv_iload_n hx hb dX7_likelyOf_4 rfl (lv_at hl 3 rfl) ?_
      refine lv_iconst (v := nI 4) hx hb dX7_likelyOf_5 (by decide) ?_
      refine j_icmp_ge (tgt := 36) hx hb dX7_likelyOf_6 (by decide) (nI_toInt (by omega)) (nI_toInt (by decide)) (fun c_3 => ?_) (fun c_3 => ?_)
      · refine lv_iload_n hx hb dX7_likelyOf_36 rfl (lv_at hl 2 rfl) ?_
        exact ro_iret hx hb hr hlocks (by rw [hx0, show v = 3 by omega]) dX7_likelyOf_37
      · have hxl : x ≤ v := by rw [hx0]; exact lky_le _ _
        refine lv_aload_n hx hb dX7_likelyOf_9 rfl (lv_at hl 0 rfl) ?_
        refine lv_iload_n hx hb dX7_likelyOf_10 rfl (lv_at hl 1 rfl) ?_
        refine lv_iload_n hx hb dX7_likelyOf_11 rfl (lv_at hl 3 rfl) ?_
        refine ro_iV (n := 2) (As := [.int (nI i), .int (nI (v + 1))]) ⟨hx, hb, hml, hown, hts⟩ (c_X7_slipsBy l D h g cI J hz G b q hM hok9 hT i hi (v + 1) (by omega)) (cwV 2 hts (gV mg_624 mg_626 mg_1029 mg_8 mg_627) rfl rfl rfl vd_X7_slipsBy ⟨Nat.le_of_ble_eq_true rfl, Nat.le_of_ble_eq_true rfl⟩) (va_recv hK hP (ci := 7) (q0 := 0) rfl rfl) hK hP rfl hl.1 rfl (Nat.le_of_ble_eq_true rfl) dX7_likelyOf_12 ⟨Nat.zero_le _, Nat.zero_le _⟩ ?_
        have hs9 : (sly b q.2.2.2.1 i q.2.2.2.2 q.2.1) (v + 1) ≤ q.2.1 := slp_le _ _ _ _ _ _
        refine lv_aload_n hx hb dX7_likelyOf_15 rfl (lv_at hl 0 rfl) ?_
        refine lv_iload_n hx hb dX7_likelyOf_16 rfl (lv_at hl 1 rfl) ?_
        refine lv_iload_n hx hb dX7_likelyOf_17 rfl (lv_at hl 2 rfl) ?_
        refine ro_iV (n := 2) (As := [.int (nI i), .int (nI x)]) ⟨hx, hb, hml, hown, hts⟩ (c_X7_slipsBy l D h g cI J hz G b q hM hok9 hT i hi x (by omega)) (cwV 2 hts (gV mg_624 mg_626 mg_1029 mg_8 mg_627) rfl rfl rfl vd_X7_slipsBy ⟨Nat.le_of_ble_eq_true rfl, Nat.le_of_ble_eq_true rfl⟩) (va_recv hK hP (ci := 7) (q0 := 0) rfl rfl) hK hP rfl hl.1 rfl (Nat.le_of_ble_eq_true rfl) dX7_likelyOf_18 ⟨Nat.zero_le _, Nat.zero_le _⟩ ?_
        have hs8 : (sly b q.2.2.2.1 i q.2.2.2.2 q.2.1) x ≤ q.2.1 := slp_le _ _ _ _ _ _
        refine j_icmp_ge (tgt := 28) hx hb dX7_likelyOf_21 (by decide) (nI_toInt (by omega)) (nI_toInt (by omega)) (fun c_4 => ?_) (fun c_4 => ?_)
        · refine lv_iload_n hx hb dX7_likelyOf_28 rfl (lv_at hl 2 rfl) ?_
          refine lv_istore_n (lv' := [(2, .int (nI x)), (0, .ref h), (1, .int (nI i)), (3, .int (nI (v + 1)))]) hx hb dX7_likelyOf_29 rfl hl (by decide) rfl (fun ls hl => ?_)
          refine lv_iinc (v := nI (v + 1 + 1)) (lv' := [(3, .int (nI (v + 1 + 1))), (2, .int (nI x)), (0, .ref h), (1, .int (nI i))]) hx hb dX7_likelyOf_30 hl (k := 3) rfl (fr_inc1 _) (by decide) rfl (fun ls hl => ?_)
          refine lv_goto (tgt := 4) hx hb dX7_likelyOf_33 (by decide) ?_
          exact ih_2 x (v + 1) (by omega) (by first | exact lky_t hx0 (by omega) | exact lky_f hx0 (by omega)) (by omega) _ (lv_sub hl [2, 3, 1, 0] rfl)
        · refine lv_iload_n hx hb dX7_likelyOf_24 rfl (lv_at hl 3 rfl) ?_
          refine lv_goto (tgt := 29) hx hb dX7_likelyOf_25 (by decide) ?_
          refine lv_istore_n (lv' := [(2, .int (nI (v + 1))), (0, .ref h), (1, .int (nI i)), (3, .int (nI (v + 1)))]) hx hb dX7_likelyOf_29 rfl hl (by decide) rfl (fun ls hl => ?_)
          refine lv_iinc (v := nI (v + 1 + 1)) (lv' := [(3, .int (nI (v + 1 + 1))), (2, .int (nI (v + 1))), (0, .ref h), (1, .int (nI i))]) hx hb dX7_likelyOf_30 hl (k := 3) rfl (fr_inc1 _) (by decide) rfl (fun ls hl => ?_)
          refine lv_goto (tgt := 4) hx hb dX7_likelyOf_33 (by decide) ?_
          exact ih_2 (v + 1) (v + 1) (by omega) (by first | exact lky_t hx0 (by omega) | exact lky_f hx0 (by omega)) (by omega) _ (lv_sub hl [2, 3, 1, 0] rfl)
  exact K_1 (3 - 0 + 1) 0 0 (by omega) (rfl) (Nat.lt_succ_self _) _ (lv_sub hl [2, 3, 1, 0] rfl)
