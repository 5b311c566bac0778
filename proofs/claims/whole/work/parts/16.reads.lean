set_option maxHeartbeats 4000000 in
set_option maxRecDepth 100000 in
theorem c_X6_isKindT (l : Launch) (D : va_G) (x : Int32) (hx9 : 0 ≤ x.toInt ∧ x.toInt < 5) : ROi l yX6_isKind (wA yX6_isKind cX6_isKind 1 (some .boolean)) ({ frames := 0, cells := 0, slots := 0, locals := 0 }) D [] ([] : va_W) [.int x] (nI 1) := by
  refine go_start (by decide) (Nat.le_of_ble_eq_true rfl) ?_
  intro p e s m args below meth c ls F _ hB hl
  obtain ⟨hx, hb, hr, hlocks, hml, hown, hts⟩ := F
  obtain ⟨hP, hK⟩ := hB
  have hown : s.vm.findClass RX6 = some m.cls := hown
  have hl : lv_has ls 1 [(0, .int x)] := hl
  refine lv_iload_n hx hb dX6_isKind_0 rfl (lv_at hl 0 rfl) ?_
  refine j_if_lt (tgt := 13) hx hb dX6_isKind_1 (by decide) rfl (fun c_1 => absurd c_1 (by omega)) (fun c_1 => ?_)
  refine lv_iload_n hx hb dX6_isKind_4 rfl (lv_at hl 0 rfl) ?_
  refine lv_iconst (v := nI 5) hx hb dX6_isKind_5 (by decide) ?_
  refine j_icmp_ge (tgt := 13) hx hb dX6_isKind_6 (by decide) rfl (nI_toInt (by decide)) (fun c_2 => absurd c_2 (by omega)) (fun c_2 => ?_)
  refine lv_iconst (v := nI 1) hx hb dX6_isKind_9 (by decide) ?_
  refine lv_goto (tgt := 14) hx hb dX6_isKind_10 (by decide) ?_
  exact ro_zret hx hb hr rfl hlocks (rfl) dX6_isKind_14

set_option maxHeartbeats 4000000 in
set_option maxRecDepth 100000 in
theorem c_X6_isKindF (l : Launch) (D : va_G) (x : Int32) (hx9 : x.toInt < 0 ∨ 5 ≤ x.toInt) : ROi l yX6_isKind (wA yX6_isKind cX6_isKind 1 (some .boolean)) ({ frames := 0, cells := 0, slots := 0, locals := 0 }) D [] ([] : va_W) [.int x] (nI 0) := by
  refine go_start (by decide) (Nat.le_of_ble_eq_true rfl) ?_
  intro p e s m args below meth c ls F _ hB hl
  obtain ⟨hx, hb, hr, hlocks, hml, hown, hts⟩ := F
  obtain ⟨hP, hK⟩ := hB
  have hown : s.vm.findClass RX6 = some m.cls := hown
  have hl : lv_has ls 1 [(0, .int x)] := hl
  refine lv_iload_n hx hb dX6_isKind_0 rfl (lv_at hl 0 rfl) ?_
  refine j_if_lt (tgt := 13) hx hb dX6_isKind_1 (by decide) rfl (fun c_1 => ?_) (fun c_1 => ?_)
  · refine lv_iconst (v := nI 0) hx hb dX6_isKind_13 (by decide) ?_
    exact ro_zret hx hb hr rfl hlocks (rfl) dX6_isKind_14
  · refine lv_iload_n hx hb dX6_isKind_4 rfl (lv_at hl 0 rfl) ?_
    refine lv_iconst (v := nI 5) hx hb dX6_isKind_5 (by decide) ?_
    refine j_icmp_ge (tgt := 13) hx hb dX6_isKind_6 (by decide) rfl (nI_toInt (by decide)) (fun c_2 => ?_) (fun c_2 => absurd c_2 (by omega))
    refine lv_iconst (v := nI 0) hx hb dX6_isKind_13 (by decide) ?_
    exact ro_zret hx hb hr rfl hlocks (rfl) dX6_isKind_14

set_option maxHeartbeats 4000000 in
set_option maxRecDepth 100000 in
theorem c_X6_isSayingT (l : Launch) (D : va_G) (x : Int32) (hx9 : 0 ≤ x.toInt ∧ x.toInt < 4) : ROi l yX6_isSaying (wA yX6_isSaying cX6_isSaying 1 (some .boolean)) ({ frames := 0, cells := 0, slots := 0, locals := 0 }) D [] ([] : va_W) [.int x] (nI 1) := by
  refine go_start (by decide) (Nat.le_of_ble_eq_true rfl) ?_
  intro p e s m args below meth c ls F _ hB hl
  obtain ⟨hx, hb, hr, hlocks, hml, hown, hts⟩ := F
  obtain ⟨hP, hK⟩ := hB
  have hown : s.vm.findClass RX6 = some m.cls := hown
  have hl : lv_has ls 1 [(0, .int x)] := hl
  refine lv_iload_n hx hb dX6_isSaying_0 rfl (lv_at hl 0 rfl) ?_
  refine j_if_lt (tgt := 13) hx hb dX6_isSaying_1 (by decide) rfl (fun c_1 => absurd c_1 (by omega)) (fun c_1 => ?_)
  refine lv_iload_n hx hb dX6_isSaying_4 rfl (lv_at hl 0 rfl) ?_
  refine lv_iconst (v := nI 4) hx hb dX6_isSaying_5 (by decide) ?_
  refine j_icmp_ge (tgt := 13) hx hb dX6_isSaying_6 (by decide) rfl (nI_toInt (by decide)) (fun c_2 => absurd c_2 (by omega)) (fun c_2 => ?_)
  refine lv_iconst (v := nI 1) hx hb dX6_isSaying_9 (by decide) ?_
  refine lv_goto (tgt := 14) hx hb dX6_isSaying_10 (by decide) ?_
  exact ro_zret hx hb hr rfl hlocks (rfl) dX6_isSaying_14

set_option maxHeartbeats 4000000 in
set_option maxRecDepth 100000 in
theorem c_X6_isSayingF (l : Launch) (D : va_G) (x : Int32) (hx9 : x.toInt < 0 ∨ 4 ≤ x.toInt) : ROi l yX6_isSaying (wA yX6_isSaying cX6_isSaying 1 (some .boolean)) ({ frames := 0, cells := 0, slots := 0, locals := 0 }) D [] ([] : va_W) [.int x] (nI 0) := by
  refine go_start (by decide) (Nat.le_of_ble_eq_true rfl) ?_
  intro p e s m args below meth c ls F _ hB hl
  obtain ⟨hx, hb, hr, hlocks, hml, hown, hts⟩ := F
  obtain ⟨hP, hK⟩ := hB
  have hown : s.vm.findClass RX6 = some m.cls := hown
  have hl : lv_has ls 1 [(0, .int x)] := hl
  refine lv_iload_n hx hb dX6_isSaying_0 rfl (lv_at hl 0 rfl) ?_
  refine j_if_lt (tgt := 13) hx hb dX6_isSaying_1 (by decide) rfl (fun c_1 => ?_) (fun c_1 => ?_)
  · refine lv_iconst (v := nI 0) hx hb dX6_isSaying_13 (by decide) ?_
    exact ro_zret hx hb hr rfl hlocks (rfl) dX6_isSaying_14
  · refine lv_iload_n hx hb dX6_isSaying_4 rfl (lv_at hl 0 rfl) ?_
    refine lv_iconst (v := nI 4) hx hb dX6_isSaying_5 (by decide) ?_
    refine j_icmp_ge (tgt := 13) hx hb dX6_isSaying_6 (by decide) rfl (nI_toInt (by decide)) (fun c_2 => ?_) (fun c_2 => absurd c_2 (by omega))
    refine lv_iconst (v := nI 0) hx hb dX6_isSaying_13 (by decide) ?_
    exact ro_zret hx hb hr rfl hlocks (rfl) dX6_isSaying_14

set_option maxHeartbeats 4000000 in
set_option maxRecDepth 100000 in
theorem c_X6_kol0 (l : Launch) (D : va_G) : ROi l yX6_kindOfLetter (wA yX6_kindOfLetter cX6_kindOfLetter 1 (some .int)) ({ frames := 0, cells := 0, slots := 0, locals := 0 }) D [] ([] : va_W) [.int (nI 116)] (nI 0) := by
  refine go_start (by decide) (Nat.le_of_ble_eq_true rfl) ?_
  intro p e s m args below meth c ls F _ hB hl
  obtain ⟨hx, hb, hr, hlocks, hml, hown, hts⟩ := F
  obtain ⟨hP, hK⟩ := hB
  have hown : s.vm.findClass RX6 = some m.cls := hown
  have hl : lv_has ls 1 [(0, .int (nI 116))] := hl
  refine lv_iload_n hx hb dX6_kindOfLetter_0 rfl (lv_at hl 0 rfl) ?_
  refine lv_lookup (off := 51) (tgt := 52) hx hb dX6_kindOfLetter_1 (by decide) (by decide) (by decide) ?_
  refine lv_iconst (v := nI 0) hx hb dX6_kindOfLetter_52 (by decide) ?_
  exact ro_iret hx hb hr hlocks (rfl) dX6_kindOfLetter_53

set_option maxHeartbeats 4000000 in
set_option maxRecDepth 100000 in
theorem c_X6_kol1 (l : Launch) (D : va_G) : ROi l yX6_kindOfLetter (wA yX6_kindOfLetter cX6_kindOfLetter 1 (some .int)) ({ frames := 0, cells := 0, slots := 0, locals := 0 }) D [] ([] : va_W) [.int (nI 98)] (nI 1) := by
  refine go_start (by decide) (Nat.le_of_ble_eq_true rfl) ?_
  intro p e s m args below meth c ls F _ hB hl
  obtain ⟨hx, hb, hr, hlocks, hml, hown, hts⟩ := F
  obtain ⟨hP, hK⟩ := hB
  have hown : s.vm.findClass RX6 = some m.cls := hown
  have hl : lv_has ls 1 [(0, .int (nI 98))] := hl
  refine lv_iload_n hx hb dX6_kindOfLetter_0 rfl (lv_at hl 0 rfl) ?_
  refine lv_lookup (off := 53) (tgt := 54) hx hb dX6_kindOfLetter_1 (by decide) (by decide) (by decide) ?_
  refine lv_iconst (v := nI 1) hx hb dX6_kindOfLetter_54 (by decide) ?_
  exact ro_iret hx hb hr hlocks (rfl) dX6_kindOfLetter_55

set_option maxHeartbeats 4000000 in
set_option maxRecDepth 100000 in
theorem c_X6_kol2 (l : Launch) (D : va_G) : ROi l yX6_kindOfLetter (wA yX6_kindOfLetter cX6_kindOfLetter 1 (some .int)) ({ frames := 0, cells := 0, slots := 0, locals := 0 }) D [] ([] : va_W) [.int (nI 119)] (nI 2) := by
  refine go_start (by decide) (Nat.le_of_ble_eq_true rfl) ?_
  intro p e s m args below meth c ls F _ hB hl
  obtain ⟨hx, hb, hr, hlocks, hml, hown, hts⟩ := F
  obtain ⟨hP, hK⟩ := hB
  have hown : s.vm.findClass RX6 = some m.cls := hown
  have hl : lv_has ls 1 [(0, .int (nI 119))] := hl
  refine lv_iload_n hx hb dX6_kindOfLetter_0 rfl (lv_at hl 0 rfl) ?_
  refine lv_lookup (off := 55) (tgt := 56) hx hb dX6_kindOfLetter_1 (by decide) (by decide) (by decide) ?_
  refine lv_iconst (v := nI 2) hx hb dX6_kindOfLetter_56 (by decide) ?_
  exact ro_iret hx hb hr hlocks (rfl) dX6_kindOfLetter_57

set_option maxHeartbeats 4000000 in
set_option maxRecDepth 100000 in
theorem c_X6_kol3 (l : Launch) (D : va_G) : ROi l yX6_kindOfLetter (wA yX6_kindOfLetter cX6_kindOfLetter 1 (some .int)) ({ frames := 0, cells := 0, slots := 0, locals := 0 }) D [] ([] : va_W) [.int (nI 111)] (nI 3) := by
  refine go_start (by decide) (Nat.le_of_ble_eq_true rfl) ?_
  intro p e s m args below meth c ls F _ hB hl
  obtain ⟨hx, hb, hr, hlocks, hml, hown, hts⟩ := F
  obtain ⟨hP, hK⟩ := hB
  have hown : s.vm.findClass RX6 = some m.cls := hown
  have hl : lv_has ls 1 [(0, .int (nI 111))] := hl
  refine lv_iload_n hx hb dX6_kindOfLetter_0 rfl (lv_at hl 0 rfl) ?_
  refine lv_lookup (off := 57) (tgt := 58) hx hb dX6_kindOfLetter_1 (by decide) (by decide) (by decide) ?_
  refine lv_iconst (v := nI 3) hx hb dX6_kindOfLetter_58 (by decide) ?_
  exact ro_iret hx hb hr hlocks (rfl) dX6_kindOfLetter_59

set_option maxHeartbeats 4000000 in
set_option maxRecDepth 100000 in
theorem c_X6_kol4 (l : Launch) (D : va_G) : ROi l yX6_kindOfLetter (wA yX6_kindOfLetter cX6_kindOfLetter 1 (some .int)) ({ frames := 0, cells := 0, slots := 0, locals := 0 }) D [] ([] : va_W) [.int (nI 101)] (nI 4) := by
  refine go_start (by decide) (Nat.le_of_ble_eq_true rfl) ?_
  intro p e s m args below meth c ls F _ hB hl
  obtain ⟨hx, hb, hr, hlocks, hml, hown, hts⟩ := F
  obtain ⟨hP, hK⟩ := hB
  have hown : s.vm.findClass RX6 = some m.cls := hown
  have hl : lv_has ls 1 [(0, .int (nI 101))] := hl
  refine lv_iload_n hx hb dX6_kindOfLetter_0 rfl (lv_at hl 0 rfl) ?_
  refine lv_lookup (off := 59) (tgt := 60) hx hb dX6_kindOfLetter_1 (by decide) (by decide) (by decide) ?_
  refine lv_iconst (v := nI 4) hx hb dX6_kindOfLetter_60 (by decide) ?_
  exact ro_iret hx hb hr hlocks (rfl) dX6_kindOfLetter_61

set_option maxHeartbeats 4000000 in
set_option maxRecDepth 100000 in
theorem c_X6_kolN (l : Launch) (D : va_G) (x : Int32) (h1 : ¬ x.toInt = 116) (h2 : ¬ x.toInt = 98) (h3 : ¬ x.toInt = 119) (h4 : ¬ x.toInt = 111) (h5 : ¬ x.toInt = 101) : ROi l yX6_kindOfLetter (wA yX6_kindOfLetter cX6_kindOfLetter 1 (some .int)) ({ frames := 0, cells := 0, slots := 0, locals := 0 }) D [] ([] : va_W) [.int x] (-1) := by
  refine go_start (by decide) (Nat.le_of_ble_eq_true rfl) ?_
  intro p e s m args below meth c ls F _ hB hl
  obtain ⟨hx, hb, hr, hlocks, hml, hown, hts⟩ := F
  obtain ⟨hP, hK⟩ := hB
  have hown : s.vm.findClass RX6 = some m.cls := hown
  have hl : lv_has ls 1 [(0, .int x)] := hl
  refine lv_iload_n hx hb dX6_kindOfLetter_0 rfl (lv_at hl 0 rfl) ?_
  refine lv_lookup (off := 61) (tgt := 62) hx hb dX6_kindOfLetter_1 (by decide) (by simp only [lookupswitch.offset]; rw [if_neg (fun q => h2 q.symm), if_neg (fun q => h5 q.symm), if_neg (fun q => h4 q.symm), if_neg (fun q => h1 q.symm), if_neg (fun q => h3 q.symm)]) (by decide) ?_
  refine lv_iconst (v := (-1)) hx hb dX6_kindOfLetter_62 (by decide) ?_
  exact ro_iret hx hb hr hlocks (rfl) dX6_kindOfLetter_63

set_option maxHeartbeats 4000000 in
set_option maxRecDepth 100000 in
theorem c_X6_dripOf (l : Launch) (D : va_G) (a r k : Nat → Nat) (cI cT cN : ClassId) (xh xi xr pn : Nat) (pc : Nat → Int32) (rd : Nat × Nat × Nat) (B L : Nat → Int32) (q kq : RS) (b : Nat → Nat → Nat) (hS : SR b B L) (hok9 : hok b) (hT : Tok q) (i : Nat) (hi : i < q.1) (n : Nat) (hn : n < 2 ^ 31) : ROi l yX6_dripOf (wA yX6_dripOf cX6_dripOf 3 (some .int)) ({ frames := 2, cells := 0, slots := 0, locals := 50 }) D (cTys cI cT cN) (cW a r k cI cT cN xh xi xr pn pc rd B L q kq) [.ref (a 0), .ref (r (3 + i)), .int (nI n)] (nI (sd b (q.2.2.2.1 i 0) (q.2.2.2.1 i 2) (q.2.2.2.1 i 1) n)) := by
  refine go_start (by decide) (Nat.le_of_ble_eq_true rfl) ?_
  intro p e s m args below meth c ls F _ hB hl
  obtain ⟨hx, hb, hr, hlocks, hml, hown, hts⟩ := F
  obtain ⟨hP, hK⟩ := hB
  have hown : s.vm.findClass RX6 = some m.cls := hown
  have hl : lv_has ls 3 [(0, .ref (a 0)), (1, .ref (r (3 + i))), (2, .int (nI n))] := hl
  have ht5 := hT.1
  have ht8 := hT.2.1
  obtain ⟨hk0, hv0, hw0, hp0⟩ := hT.2.2.1 i hi
  refine lv_aload_n hx hb dX6_dripOf_0 rfl (lv_at hl 0 rfl) ?_
  refine va_get (D := D) (ci := 6) (v := .ref (a 4)) (C := RX6) (T := TX6) (N := 7) hx hb hts iX6 hown hK hP 0 rfl rfl 1 (by decide) (hts _ mg_152) (fun _ h9 => h9) rfl dX6_dripOf_1 ?_
  refine lv_aload_n hx hb dX6_dripOf_4 rfl (lv_at hl 1 rfl) ?_
  refine va_get (D := D) (ci := 5) (v := .int (nI (q.2.2.2.1 i 0))) (C := RX5) (T := TX5) (N := 5) hx hb hts iX5 hown hK hP (10 + i) (cW_tap (by omega)) rfl 1 (by decide) (hts _ mg_83) (fun _ h9 => h9) rfl dX6_dripOf_5 ?_
  refine lv_aload_n hx hb dX6_dripOf_8 rfl (lv_at hl 1 rfl) ?_
  refine va_get (D := D) (ci := 5) (v := .int (nI (q.2.2.2.1 i 1))) (C := RX5) (T := TX5) (N := 5) hx hb hts iX5 hown hK hP (10 + i) (cW_tap (by omega)) rfl 2 (by decide) (hts _ mg_86) (fun _ h9 => h9) rfl dX6_dripOf_9 ?_
  refine lv_aload_n hx hb dX6_dripOf_12 rfl (lv_at hl 1 rfl) ?_
  refine va_get (D := D) (ci := 5) (v := .int (nI (q.2.2.2.1 i 2))) (C := RX5) (T := TX5) (N := 5) hx hb hts iX5 hown hK hP (10 + i) (cW_tap (by omega)) rfl 3 (by decide) (hts _ mg_89) (fun _ h9 => h9) rfl dX6_dripOf_13 ?_
  refine lv_iload_n hx hb dX6_dripOf_16 rfl (lv_at hl 2 rfl) ?_
  refine ro_iV (n := 4) (As := [.int (nI (q.2.2.2.1 i 0)), .int (nI (q.2.2.2.1 i 1)), .int (nI (q.2.2.2.1 i 2)), .int (nI n)]) ⟨hx, hb, hml, hown, hts⟩ (c_X4_dripBy l D a cI cT cN B L b hS hok9 (q.2.2.2.1 i 0) (q.2.2.2.1 i 1) (q.2.2.2.1 i 2) n (by omega) (by omega) (by omega) (by omega)) (cwV 4 hts (gV mg_303 mg_304 mg_305 mg_4 mg_306) rfl rfl rfl vd_X4_dripBy ⟨Nat.le_of_ble_eq_true rfl, Nat.le_of_ble_eq_true rfl⟩) (va_recv hK hP (ci := 4) (q0 := 4) rfl rfl) hK (cW_s hP) rfl hl.1 rfl (Nat.le_of_ble_eq_true rfl) dX6_dripOf_17 ⟨Nat.zero_le _, Nat.zero_le _⟩ ?_
  exact ro_iret hx hb hr hlocks (rfl) dX6_dripOf_20

set_option maxHeartbeats 4000000 in
set_option maxRecDepth 100000 in
theorem c_X6_enoughToTell (l : Launch) (D : va_G) (a r k : Nat → Nat) (cI cT cN : ClassId) (xh xi xr pn : Nat) (pc : Nat → Int32) (rd : Nat × Nat × Nat) (B L : Nat → Int32) (q kq : RS) (b : Nat → Nat → Nat) (hS : SR b B L) (hok9 : hok b) (hT : Tok q) (i : Nat) (hi : i < q.1) (x y : Nat) (hx4 : x < 4) (hy4 : y < 4) : ROi l yX6_enoughToTell (wA yX6_enoughToTell cX6_enoughToTell 7 (some .int)) ({ frames := 2, cells := 0, slots := 0, locals := 50 }) D (cTys cI cT cN) (cW a r k cI cT cN xh xi xr pn pc rd B L q kq) [.ref (a 0), .ref (r (3 + i)), .int (nI x), .int (nI y)] (if fda b q.2.2.2.1 i x y < 16 then nI (fda b q.2.2.2.1 i x y + 1) else -1) := by
  refine go_start (by decide) (Nat.le_of_ble_eq_true rfl) ?_
  intro p e s m args below meth c ls F _ hB hl
  obtain ⟨hx, hb, hr, hlocks, hml, hown, hts⟩ := F
  obtain ⟨hP, hK⟩ := hB
  have hown : s.vm.findClass RX6 = some m.cls := hown
  have hl : lv_has ls 7 [(0, .ref (a 0)), (1, .ref (r (3 + i))), (2, .int (nI x)), (3, .int (nI y))] := hl
  have ht5 := hT.1
  have ht8 := hT.2.1
  obtain ⟨hk0, hv0, hw0, hp0⟩ := hT.2.2.1 i hi
  refine lv_iconst (v := nI 0) hx hb dX6_enoughToTell_0 (by decide) ?_
  refine lv_istore (lv' := [(4, .int (nI 0)), (0, .ref (a 0)), (1, .ref (r (3 + i))), (2, .int (nI x)), (3, .int (nI y))]) hx hb dX6_enoughToTell_1 hl (by decide) rfl (fun ls hl => ?_)
  have K_1 : ∀ n9 : Nat, ∀ (n : Nat), n ≤ 16 → fdi (dpl b q.2.2.2.1 i x) (dpl b q.2.2.2.1 i y) n = n → 16 - n < n9 → ∀ ls : Array Slot, lv_has ls 7 [(0, .ref (a 0)), (1, .ref (r (3 + i))), (2, .int (nI x)), (3, .int (nI y)), (4, .int (nI n))] → W p l e (headSpec (wA yX6_enoughToTell cX6_enoughToTell 7 (some .int)) ({ frames := 2, cells := 0, slots := 0, locals := 50 })).room s m args below meth c s.heap [] 0 0 (MQ below (vp_Si (fun z9 => z9 = (if fda b q.2.2.2.1 i x y < 16 then nI (fda b q.2.2.2.1 i x y + 1) else -1))) args s 0 0 (fun _ => False)) (F0 m 3 ls []) := by
    intro n9
    induction n9 with
    | zero => intros; omega
    | succ n9 ih_2 =>
      intro n hn hf hn9 ls hl
      refine lv_iload hx hb dX6_enoughToTell_3 (lv_at hl 4 rfl) ?_
      refine lv_bipush (v := nI 16) hx hb dX6_enoughToTell_5 (by decide) ?_
      refine j_icmp_ge (tgt := 78) hx hb dX6_enoughToTell_7 (by decide) (nI_toInt (by omega)) (nI_toInt (by decide)) (fun c_3 => ?_) (fun c_3 => ?_)
      · have e9 : n = 16 := by omega
        subst e9
        refine lv_iconst (v := (-1)) hx hb dX6_enoughToTell_78 (by decide) ?_
        exact ro_iret hx hb hr hlocks (by rw [if_neg (show ¬ fda b q.2.2.2.1 i x y < 16 from by have e8 : fda b q.2.2.2.1 i x y = 16 := hf; omega)]) dX6_enoughToTell_79
      · refine lv_aload_n hx hb dX6_enoughToTell_10 rfl (lv_at hl 0 rfl) ?_
        refine va_get (D := D) (ci := 6) (v := .ref (a 4)) (C := RX6) (T := TX6) (N := 7) hx hb hts iX6 hown hK hP 0 rfl rfl 1 (by decide) (hts _ mg_152) (fun _ h9 => h9) rfl dX6_enoughToTell_11 ?_
        refine lv_aload_n hx hb dX6_enoughToTell_14 rfl (lv_at hl 1 rfl) ?_
        refine va_get (D := D) (ci := 5) (v := .int (nI (q.2.2.2.1 i 0))) (C := RX5) (T := TX5) (N := 5) hx hb hts iX5 hown hK hP (10 + i) (cW_tap (by omega)) rfl 1 (by decide) (hts _ mg_83) (fun _ h9 => h9) rfl dX6_enoughToTell_15 ?_
        refine lv_iload_n hx hb dX6_enoughToTell_18 rfl (lv_at hl 2 rfl) ?_
        refine lv_aload_n hx hb dX6_enoughToTell_19 rfl (lv_at hl 1 rfl) ?_
        refine va_get (D := D) (ci := 5) (v := .int (nI (q.2.2.2.1 i 2))) (C := RX5) (T := TX5) (N := 5) hx hb hts iX5 hown hK hP (10 + i) (cW_tap (by omega)) rfl 3 (by decide) (hts _ mg_89) (fun _ h9 => h9) rfl dX6_enoughToTell_20 ?_
        refine lv_aload_n hx hb dX6_enoughToTell_23 rfl (lv_at hl 1 rfl) ?_
        refine va_get (D := D) (ci := 5) (v := .int (nI (q.2.2.2.1 i 3))) (C := RX5) (T := TX5) (N := 5) hx hb hts iX5 hown hK hP (10 + i) (cW_tap (by omega)) rfl 4 (by decide) (hts _ mg_92) (fun _ h9 => h9) rfl dX6_enoughToTell_24 ?_
        refine lv_iload hx hb dX6_enoughToTell_27 (lv_at hl 4 rfl) ?_
        refine n_iadd hx hb dX6_enoughToTell_29 ?_
        refine ro_iV (n := 4) (As := [.int (nI (q.2.2.2.1 i 0)), .int (nI x), .int (nI (q.2.2.2.1 i 2)), .int (nI ((q.2.2.2.1 i 3) + n))]) ⟨hx, hb, hml, hown, hts⟩ (c_X4_dripBy l D a cI cT cN B L b hS hok9 (q.2.2.2.1 i 0) x (q.2.2.2.1 i 2) ((q.2.2.2.1 i 3) + n) (by omega) (by omega) (by omega) (by omega)) (cwV 4 hts (gV mg_303 mg_304 mg_305 mg_4 mg_306) rfl rfl rfl vd_X4_dripBy ⟨Nat.le_of_ble_eq_true rfl, Nat.le_of_ble_eq_true rfl⟩) (va_recv hK hP (ci := 4) (q0 := 4) rfl rfl) hK (cW_s hP) rfl hl.1 rfl (Nat.le_of_ble_eq_true rfl) dX6_enoughToTell_30 ⟨Nat.zero_le _, Nat.zero_le _⟩ ?_
        have hd1 := sd_le hok9 (kd := q.2.2.2.1 i 0) (w := q.2.2.2.1 i 2) (n := q.2.2.2.1 i 3 + n) hx4
        refine lv_istore (lv' := [(5, .int (nI (sd b (q.2.2.2.1 i 0) (q.2.2.2.1 i 2) x ((q.2.2.2.1 i 3) + n)))), (0, .ref (a 0)), (1, .ref (r (3 + i))), (2, .int (nI x)), (3, .int (nI y)), (4, .int (nI n))]) hx hb dX6_enoughToTell_33 hl (by decide) rfl (fun ls hl => ?_)
        refine lv_aload_n hx hb dX6_enoughToTell_35 rfl (lv_at hl 1 rfl) ?_
        refine va_get (D := D) (ci := 6) (v := .ref (a 4)) (C := RX6) (T := TX6) (N := 7) hx hb hts iX6 hown hK hP 0 rfl rfl 1 (by decide) (hts _ mg_152) (fun _ h9 => h9) rfl dX6_enoughToTell_36 ?_
        refine lv_aload_n hx hb dX6_enoughToTell_39 rfl (lv_at hl 2 rfl) ?_
        refine va_get (D := D) (ci := 5) (v := .int (nI (q.2.2.2.1 i 0))) (C := RX5) (T := TX5) (N := 5) hx hb hts iX5 hown hK hP (10 + i) (cW_tap (by omega)) rfl 1 (by decide) (hts _ mg_83) (fun _ h9 => h9) rfl dX6_enoughToTell_40 ?_
        refine lv_iload_n hx hb dX6_enoughToTell_43 rfl (lv_at hl 4 rfl) ?_
        refine lv_aload_n hx hb dX6_enoughToTell_44 rfl (lv_at hl 2 rfl) ?_
        refine va_get (D := D) (ci := 5) (v := .int (nI (q.2.2.2.1 i 2))) (C := RX5) (T := TX5) (N := 5) hx hb hts iX5 hown hK hP (10 + i) (cW_tap (by omega)) rfl 3 (by decide) (hts _ mg_89) (fun _ h9 => h9) rfl dX6_enoughToTell_45 ?_
        refine lv_aload_n hx hb dX6_enoughToTell_48 rfl (lv_at hl 2 rfl) ?_
        refine va_get (D := D) (ci := 5) (v := .int (nI (q.2.2.2.1 i 3))) (C := RX5) (T := TX5) (N := 5) hx hb hts iX5 hown hK hP (10 + i) (cW_tap (by omega)) rfl 4 (by decide) (hts _ mg_92) (fun _ h9 => h9) rfl dX6_enoughToTell_49 ?_
        refine lv_iload hx hb dX6_enoughToTell_52 (lv_at hl 5 rfl) ?_
        refine n_iadd hx hb dX6_enoughToTell_54 ?_
        refine ro_iV (n := 4) (As := [.int (nI (q.2.2.2.1 i 0)), .int (nI y), .int (nI (q.2.2.2.1 i 2)), .int (nI ((q.2.2.2.1 i 3) + n))]) ⟨hx, hb, hml, hown, hts⟩ (c_X4_dripBy l D a cI cT cN B L b hS hok9 (q.2.2.2.1 i 0) y (q.2.2.2.1 i 2) ((q.2.2.2.1 i 3) + n) (by omega) (by omega) (by omega) (by omega)) (cwV 4 hts (gV mg_303 mg_304 mg_305 mg_4 mg_306) rfl rfl rfl vd_X4_dripBy ⟨Nat.le_of_ble_eq_true rfl, Nat.le_of_ble_eq_true rfl⟩) (va_recv hK hP (ci := 4) (q0 := 4) rfl rfl) hK (cW_s hP) rfl hl.1 rfl (Nat.le_of_ble_eq_true rfl) dX6_enoughToTell_55 ⟨Nat.zero_le _, Nat.zero_le _⟩ ?_
        have hd2 := sd_le hok9 (kd := q.2.2.2.1 i 0) (w := q.2.2.2.1 i 2) (n := q.2.2.2.1 i 3 + n) hy4
        refine lv_istore (lv' := [(6, .int (nI (sd b (q.2.2.2.1 i 0) (q.2.2.2.1 i 2) y ((q.2.2.2.1 i 3) + n)))), (5, .int (nI (sd b (q.2.2.2.1 i 0) (q.2.2.2.1 i 2) x ((q.2.2.2.1 i 3) + n)))), (0, .ref (a 0)), (1, .ref (r (3 + i))), (2, .int (nI x)), (3, .int (nI y)), (4, .int (nI n))]) hx hb dX6_enoughToTell_58 hl (by decide) rfl (fun ls hl => ?_)
        refine lv_iload hx hb dX6_enoughToTell_60 (lv_at hl 1 rfl) ?_
        refine lv_iload hx hb dX6_enoughToTell_62 (lv_at hl 0 rfl) ?_
        refine j_icmp_eq (tgt := 72) hx hb dX6_enoughToTell_64 (by decide) (nI_toInt (by omega)) (nI_toInt (by omega)) (fun c_4 => ?_) (fun c_4 => ?_)
        · have hf := fdi_s hf (by unfold dpl; omega)
          refine lv_iinc (v := nI (n + 1)) (lv' := [(4, .int (nI (n + 1))), (6, .int (nI (sd b (q.2.2.2.1 i 0) (q.2.2.2.1 i 2) y ((q.2.2.2.1 i 3) + n)))), (5, .int (nI (sd b (q.2.2.2.1 i 0) (q.2.2.2.1 i 2) x ((q.2.2.2.1 i 3) + n)))), (0, .ref (a 0)), (1, .ref (r (3 + i))), (2, .int (nI x)), (3, .int (nI y))]) hx hb dX6_enoughToTell_72 hl (k := 6) rfl (fr_inc1 _) (by decide) rfl (fun ls hl => ?_)
          refine lv_goto (tgt := 3) hx hb dX6_enoughToTell_75 (by decide) ?_
          exact ih_2 (n + 1) (by omega) (hf) (by omega) _ (lv_sub hl [3, 4, 5, 6, 0] rfl)
        · have e9 : fda b q.2.2.2.1 i x y = n := fdi_at hf (by unfold dpl; omega) (by omega)
          refine lv_iload hx hb dX6_enoughToTell_67 (lv_at hl 6 rfl) ?_
          refine lv_iconst (v := nI 1) hx hb dX6_enoughToTell_69 (by decide) ?_
          refine n_iadd hx hb dX6_enoughToTell_70 ?_
          exact ro_iret hx hb hr hlocks (by rw [e9, if_pos (by omega)]) dX6_enoughToTell_71
  exact K_1 (16 - 0 + 1) 0 (by omega) (rfl) (Nat.lt_succ_self _) _ (lv_sub hl [1, 2, 3, 4, 0] rfl)

theorem c_X6_ettA (l : Launch) (D : va_G) (a r k : Nat → Nat) (cI cT cN : ClassId) (xh xi xr pn : Nat) (pc : Nat → Int32) (rd : Nat × Nat × Nat) (B L : Nat → Int32) (q kq : RS) (b : Nat → Nat → Nat) (hS : SR b B L) (hok9 : hok b) (hT : Tok q) (i : Nat) (hi : i < q.1) (x y : Nat) (hx4 : x < 4) (hy4 : y < 4) (h9 : fda b q.2.2.2.1 i x y < 16) : ROi l yX6_enoughToTell (wA yX6_enoughToTell cX6_enoughToTell 7 (some .int)) ({ frames := 2, cells := 0, slots := 0, locals := 50 }) D (cTys cI cT cN) (cW a r k cI cT cN xh xi xr pn pc rd B L q kq) [.ref (a 0), .ref (r (3 + i)), .int (nI x), .int (nI y)] (nI (fda b q.2.2.2.1 i x y + 1)) := by
  have h := c_X6_enoughToTell l D a r k cI cT cN xh xi xr pn pc rd B L q kq b hS hok9 hT i hi x y hx4 hy4
  rw [if_pos h9] at h
  exact h

theorem c_X6_ettB (l : Launch) (D : va_G) (a r k : Nat → Nat) (cI cT cN : ClassId) (xh xi xr pn : Nat) (pc : Nat → Int32) (rd : Nat × Nat × Nat) (B L : Nat → Int32) (q kq : RS) (b : Nat → Nat → Nat) (hS : SR b B L) (hok9 : hok b) (hT : Tok q) (i : Nat) (hi : i < q.1) (x y : Nat) (hx4 : x < 4) (hy4 : y < 4) (h9 : ¬ fda b q.2.2.2.1 i x y < 16) : ROi l yX6_enoughToTell (wA yX6_enoughToTell cX6_enoughToTell 7 (some .int)) ({ frames := 2, cells := 0, slots := 0, locals := 50 }) D (cTys cI cT cN) (cW a r k cI cT cN xh xi xr pn pc rd B L q kq) [.ref (a 0), .ref (r (3 + i)), .int (nI x), .int (nI y)] (-1) := by
  have h := c_X6_enoughToTell l D a r k cI cT cN xh xi xr pn pc rd B L q kq b hS hok9 hT i hi x y hx4 hy4
  rw [if_neg h9] at h
  exact h

set_option maxHeartbeats 4000000 in
set_option maxRecDepth 100000 in
theorem c_X6_sureOf (l : Launch) (D : va_G) (a r k : Nat → Nat) (cI cT cN : ClassId) (xh xi xr pn : Nat) (pc : Nat → Int32) (rd : Nat × Nat × Nat) (B L : Nat → Int32) (q kq : RS) (b : Nat → Nat → Nat) (hS : SR b B L) (hok9 : hok b) (hT : Tok q) (i : Nat) (hi : i < q.1) : ROi l yX6_sureOf (wA yX6_sureOf cX6_sureOf 6 (some .int)) ({ frames := 3, cells := 0, slots := 0, locals := 76 }) D (cTys cI cT cN) (cW a r k cI cT cN xh xi xr pn pc rd B L q kq) [.ref (a 0), .ref (r (3 + i))] (sur (fda b q.2.2.2.1 i)) := by
  refine go_start (by decide) (Nat.le_of_ble_eq_true rfl) ?_
  intro p e s m args below meth c ls F _ hB hl
  obtain ⟨hx, hb, hr, hlocks, hml, hown, hts⟩ := F
  obtain ⟨hP, hK⟩ := hB
  have hown : s.vm.findClass RX6 = some m.cls := hown
  have hl : lv_has ls 6 [(0, .ref (a 0)), (1, .ref (r (3 + i)))] := hl
  have ht5 := hT.1
  have ht8 := hT.2.1
  obtain ⟨hk0, hv0, hw0, hp0⟩ := hT.2.2.1 i hi
  refine lv_iconst (v := nI 0) hx hb dX6_sureOf_0 (by decide) ?_
  refine lv_istore_n (lv' := [(2, .int (nI 0)), (0, .ref (a 0)), (1, .ref (r (3 + i)))]) hx hb dX6_sureOf_1 rfl hl (by decide) rfl (fun ls hl => ?_)
  refine lv_iconst (v := nI 0) hx hb dX6_sureOf_2 (by decide) ?_
  refine lv_istore_n (lv' := [(3, .int (nI 0)), (2, .int (nI 0)), (0, .ref (a 0)), (1, .ref (r (3 + i)))]) hx hb dX6_sureOf_3 rfl hl (by decide) rfl (fun ls hl => ?_)
  refine lv_iload_n hx hb dX6_sureOf_4 rfl (lv_at hl 0 rfl) ?_
  refine lv_iconst (v := nI 4) hx hb dX6_sureOf_5 (by decide) ?_
  refine j_icmp_ge (tgt := 57) hx hb dX6_sureOf_6 (by decide) (nI_toInt (by decide)) (nI_toInt (by decide)) (fun c_1 => absurd c_1 (by omega)) (fun c_1 => ?_)
  refine lv_iload_n hx hb dX6_sureOf_9 rfl (lv_at hl 0 rfl) ?_
  refine lv_iconst (v := nI 1) hx hb dX6_sureOf_10 (by decide) ?_
  refine n_iadd hx hb dX6_sureOf_11 ?_
  refine lv_istore (lv' := [(4, .int (nI 1)), (3, .int (nI 0)), (2, .int (nI 0)), (0, .ref (a 0)), (1, .ref (r (3 + i)))]) hx hb dX6_sureOf_12 hl (by decide) rfl (fun ls hl => ?_)
  refine lv_iload hx hb dX6_sureOf_14 (lv_at hl 0 rfl) ?_
  refine lv_iconst (v := nI 4) hx hb dX6_sureOf_16 (by decide) ?_
  refine j_icmp_ge (tgt := 51) hx hb dX6_sureOf_17 (by decide) (nI_toInt (by decide)) (nI_toInt (by decide)) (fun c_2 => absurd c_2 (by omega)) (fun c_2 => ?_)
  refine lv_aload_n hx hb dX6_sureOf_20 rfl (lv_at hl 3 rfl) ?_
  refine lv_aload_n hx hb dX6_sureOf_21 rfl (lv_at hl 4 rfl) ?_
  refine lv_iload_n hx hb dX6_sureOf_22 rfl (lv_at hl 1 rfl) ?_
  refine lv_iload hx hb dX6_sureOf_23 (lv_at hl 0 rfl) ?_
  rcases Decidable.em (fda b q.2.2.2.1 i 0 1 < 16) with hf_3 | hf_3
  · refine ro_iV (n := 3) (As := [.ref (r (3 + i)), .int (nI 0), .int (nI 1)]) ⟨hx, hb, hml, hown, hts⟩ (c_X6_ettA l D a r k cI cT cN xh xi xr pn pc rd B L q kq b hS hok9 hT i hi 0 1 (by decide) (by decide) hf_3) (cwV 3 hts (gV mg_299 mg_301 mg_1005 mg_1 mg_302) rfl rfl rfl vd_X6_enoughToTell ⟨Nat.le_of_ble_eq_true rfl, Nat.le_of_ble_eq_true rfl⟩) (va_recv hK hP (ci := 6) (q0 := 0) rfl rfl) hK hP rfl hl.1 rfl (Nat.le_of_ble_eq_true rfl) dX6_sureOf_25 ⟨Nat.zero_le _, Nat.zero_le _⟩ ?_
    refine lv_istore (lv' := [(5, .int (nI (fda b q.2.2.2.1 i 0 1 + 1))), (4, .int (nI 1)), (3, .int (nI 0)), (2, .int (nI 0)), (0, .ref (a 0)), (1, .ref (r (3 + i)))]) hx hb dX6_sureOf_28 hl (by decide) rfl (fun ls hl => ?_)
    refine lv_iload hx hb dX6_sureOf_30 (lv_at hl 0 rfl) ?_
    refine lv_iconst (v := (-1)) hx hb dX6_sureOf_32 (by decide) ?_
    refine j_icmp_ne (tgt := 38) hx hb dX6_sureOf_33 (by decide) (nI_toInt (by omega)) (show ((-1) : Int32).toInt = -1 from by decide) (fun c_4 => ?_) (fun c_4 => absurd c_4 (by omega))
    refine lv_iload_n hx hb dX6_sureOf_38 rfl (lv_at hl 3 rfl) ?_
    refine lv_iload hx hb dX6_sureOf_39 (lv_at hl 0 rfl) ?_
    refine va_mmax hx hb (hml.trans hl.1.symm) hown (hts _ mg_309) (hts _ mg_310) (hts _ mg_9) (hts _ mg_311) (Nat.le_of_ble_eq_true rfl) (Nat.le_of_ble_eq_true rfl) (Nat.zero_le _) (Nat.zero_le _) dX6_sureOf_41 ?_
    refine n_top (n_max (by omega) (by omega)) ?_
    refine lv_istore_n (lv' := [(2, .int (nI (max 0 (fda b q.2.2.2.1 i 0 1 + 1)))), (5, .int (nI (fda b q.2.2.2.1 i 0 1 + 1))), (4, .int (nI 1)), (3, .int (nI 0)), (0, .ref (a 0)), (1, .ref (r (3 + i)))]) hx hb dX6_sureOf_44 rfl hl (by decide) rfl (fun ls hl => ?_)
    refine lv_iinc (v := nI 2) (lv' := [(4, .int (nI 2)), (2, .int (nI (max 0 (fda b q.2.2.2.1 i 0 1 + 1)))), (5, .int (nI (fda b q.2.2.2.1 i 0 1 + 1))), (3, .int (nI 0)), (0, .ref (a 0)), (1, .ref (r (3 + i)))]) hx hb dX6_sureOf_45 hl (k := 2) rfl rfl (by decide) rfl (fun ls hl => ?_)
    refine lv_goto (tgt := 14) hx hb dX6_sureOf_48 (by decide) ?_
    refine lv_iload hx hb dX6_sureOf_14 (lv_at hl 0 rfl) ?_
    refine lv_iconst (v := nI 4) hx hb dX6_sureOf_16 (by decide) ?_
    refine j_icmp_ge (tgt := 51) hx hb dX6_sureOf_17 (by decide) (nI_toInt (by decide)) (nI_toInt (by decide)) (fun c_5 => absurd c_5 (by omega)) (fun c_5 => ?_)
    refine lv_aload_n hx hb dX6_sureOf_20 rfl (lv_at hl 4 rfl) ?_
    refine lv_aload_n hx hb dX6_sureOf_21 rfl (lv_at hl 5 rfl) ?_
    refine lv_iload_n hx hb dX6_sureOf_22 rfl (lv_at hl 3 rfl) ?_
    refine lv_iload hx hb dX6_sureOf_23 (lv_at hl 0 rfl) ?_
    rcases Decidable.em (fda b q.2.2.2.1 i 0 2 < 16) with hf_6 | hf_6
    · refine ro_iV (n := 3) (As := [.ref (r (3 + i)), .int (nI 0), .int (nI 2)]) ⟨hx, hb, hml, hown, hts⟩ (c_X6_ettA l D a r k cI cT cN xh xi xr pn pc rd B L q kq b hS hok9 hT i hi 0 2 (by decide) (by decide) hf_6) (cwV 3 hts (gV mg_299 mg_301 mg_1005 mg_1 mg_302) rfl rfl rfl vd_X6_enoughToTell ⟨Nat.le_of_ble_eq_true rfl, Nat.le_of_ble_eq_true rfl⟩) (va_recv hK hP (ci := 6) (q0 := 0) rfl rfl) hK hP rfl hl.1 rfl (Nat.le_of_ble_eq_true rfl) dX6_sureOf_25 ⟨Nat.zero_le _, Nat.zero_le _⟩ ?_
      refine lv_istore (lv' := [(5, .int (nI (fda b q.2.2.2.1 i 0 2 + 1))), (4, .int (nI 2)), (2, .int (nI (max 0 (fda b q.2.2.2.1 i 0 1 + 1)))), (3, .int (nI 0)), (0, .ref (a 0)), (1, .ref (r (3 + i)))]) hx hb dX6_sureOf_28 hl (by decide) rfl (fun ls hl => ?_)
      refine lv_iload hx hb dX6_sureOf_30 (lv_at hl 0 rfl) ?_
      refine lv_iconst (v := (-1)) hx hb dX6_sureOf_32 (by decide) ?_
      refine j_icmp_ne (tgt := 38) hx hb dX6_sureOf_33 (by decide) (nI_toInt (by omega)) (show ((-1) : Int32).toInt = -1 from by decide) (fun c_7 => ?_) (fun c_7 => absurd c_7 (by omega))
      refine lv_iload_n hx hb dX6_sureOf_38 rfl (lv_at hl 2 rfl) ?_
      refine lv_iload hx hb dX6_sureOf_39 (lv_at hl 0 rfl) ?_
      refine va_mmax hx hb (hml.trans hl.1.symm) hown (hts _ mg_309) (hts _ mg_310) (hts _ mg_9) (hts _ mg_311) (Nat.le_of_ble_eq_true rfl) (Nat.le_of_ble_eq_true rfl) (Nat.zero_le _) (Nat.zero_le _) dX6_sureOf_41 ?_
      refine n_top (n_max (by omega) (by omega)) ?_
      refine lv_istore_n (lv' := [(2, .int (nI (max (max 0 (fda b q.2.2.2.1 i 0 1 + 1)) (fda b q.2.2.2.1 i 0 2 + 1)))), (5, .int (nI (fda b q.2.2.2.1 i 0 2 + 1))), (4, .int (nI 2)), (3, .int (nI 0)), (0, .ref (a 0)), (1, .ref (r (3 + i)))]) hx hb dX6_sureOf_44 rfl hl (by decide) rfl (fun ls hl => ?_)
      refine lv_iinc (v := nI 3) (lv' := [(4, .int (nI 3)), (2, .int (nI (max (max 0 (fda b q.2.2.2.1 i 0 1 + 1)) (fda b q.2.2.2.1 i 0 2 + 1)))), (5, .int (nI (fda b q.2.2.2.1 i 0 2 + 1))), (3, .int (nI 0)), (0, .ref (a 0)), (1, .ref (r (3 + i)))]) hx hb dX6_sureOf_45 hl (k := 2) rfl rfl (by decide) rfl (fun ls hl => ?_)
      refine lv_goto (tgt := 14) hx hb dX6_sureOf_48 (by decide) ?_
      refine lv_iload hx hb dX6_sureOf_14 (lv_at hl 0 rfl) ?_
      refine lv_iconst (v := nI 4) hx hb dX6_sureOf_16 (by decide) ?_
      refine j_icmp_ge (tgt := 51) hx hb dX6_sureOf_17 (by decide) (nI_toInt (by decide)) (nI_toInt (by decide)) (fun c_8 => absurd c_8 (by omega)) (fun c_8 => ?_)
      refine lv_aload_n hx hb dX6_sureOf_20 rfl (lv_at hl 4 rfl) ?_
      refine lv_aload_n hx hb dX6_sureOf_21 rfl (lv_at hl 5 rfl) ?_
      refine lv_iload_n hx hb dX6_sureOf_22 rfl (lv_at hl 3 rfl) ?_
      refine lv_iload hx hb dX6_sureOf_23 (lv_at hl 0 rfl) ?_
      rcases Decidable.em (fda b q.2.2.2.1 i 0 3 < 16) with hf_9 | hf_9
      · refine ro_iV (n := 3) (As := [.ref (r (3 + i)), .int (nI 0), .int (nI 3)]) ⟨hx, hb, hml, hown, hts⟩ (c_X6_ettA l D a r k cI cT cN xh xi xr pn pc rd B L q kq b hS hok9 hT i hi 0 3 (by decide) (by decide) hf_9) (cwV 3 hts (gV mg_299 mg_301 mg_1005 mg_1 mg_302) rfl rfl rfl vd_X6_enoughToTell ⟨Nat.le_of_ble_eq_true rfl, Nat.le_of_ble_eq_true rfl⟩) (va_recv hK hP (ci := 6) (q0 := 0) rfl rfl) hK hP rfl hl.1 rfl (Nat.le_of_ble_eq_true rfl) dX6_sureOf_25 ⟨Nat.zero_le _, Nat.zero_le _⟩ ?_
        refine lv_istore (lv' := [(5, .int (nI (fda b q.2.2.2.1 i 0 3 + 1))), (4, .int (nI 3)), (2, .int (nI (max (max 0 (fda b q.2.2.2.1 i 0 1 + 1)) (fda b q.2.2.2.1 i 0 2 + 1)))), (3, .int (nI 0)), (0, .ref (a 0)), (1, .ref (r (3 + i)))]) hx hb dX6_sureOf_28 hl (by decide) rfl (fun ls hl => ?_)
        refine lv_iload hx hb dX6_sureOf_30 (lv_at hl 0 rfl) ?_
        refine lv_iconst (v := (-1)) hx hb dX6_sureOf_32 (by decide) ?_
        refine j_icmp_ne (tgt := 38) hx hb dX6_sureOf_33 (by decide) (nI_toInt (by omega)) (show ((-1) : Int32).toInt = -1 from by decide) (fun c_10 => ?_) (fun c_10 => absurd c_10 (by omega))
        refine lv_iload_n hx hb dX6_sureOf_38 rfl (lv_at hl 2 rfl) ?_
        refine lv_iload hx hb dX6_sureOf_39 (lv_at hl 0 rfl) ?_
        refine va_mmax hx hb (hml.trans hl.1.symm) hown (hts _ mg_309) (hts _ mg_310) (hts _ mg_9) (hts _ mg_311) (Nat.le_of_ble_eq_true rfl) (Nat.le_of_ble_eq_true rfl) (Nat.zero_le _) (Nat.zero_le _) dX6_sureOf_41 ?_
        refine n_top (n_max (by omega) (by omega)) ?_
        refine lv_istore_n (lv' := [(2, .int (nI (max (max (max 0 (fda b q.2.2.2.1 i 0 1 + 1)) (fda b q.2.2.2.1 i 0 2 + 1)) (fda b q.2.2.2.1 i 0 3 + 1)))), (5, .int (nI (fda b q.2.2.2.1 i 0 3 + 1))), (4, .int (nI 3)), (3, .int (nI 0)), (0, .ref (a 0)), (1, .ref (r (3 + i)))]) hx hb dX6_sureOf_44 rfl hl (by decide) rfl (fun ls hl => ?_)
        refine lv_iinc (v := nI 4) (lv' := [(4, .int (nI 4)), (2, .int (nI (max (max (max 0 (fda b q.2.2.2.1 i 0 1 + 1)) (fda b q.2.2.2.1 i 0 2 + 1)) (fda b q.2.2.2.1 i 0 3 + 1)))), (5, .int (nI (fda b q.2.2.2.1 i 0 3 + 1))), (3, .int (nI 0)), (0, .ref (a 0)), (1, .ref (r (3 + i)))]) hx hb dX6_sureOf_45 hl (k := 2) rfl rfl (by decide) rfl (fun ls hl => ?_)
        refine lv_goto (tgt := 14) hx hb dX6_sureOf_48 (by decide) ?_
        refine lv_iload hx hb dX6_sureOf_14 (lv_at hl 0 rfl) ?_
        refine lv_iconst (v := nI 4) hx hb dX6_sureOf_16 (by decide) ?_
        refine j_icmp_ge (tgt := 51) hx hb dX6_sureOf_17 (by decide) (nI_toInt (by decide)) (nI_toInt (by decide)) (fun c_11 => ?_) (fun c_11 => absurd c_11 (by omega))
        refine lv_iinc (v := nI 1) (lv' := [(3, .int (nI 1)), (4, .int (nI 4)), (2, .int (nI (max (max (max 0 (fda b q.2.2.2.1 i 0 1 + 1)) (fda b q.2.2.2.1 i 0 2 + 1)) (fda b q.2.2.2.1 i 0 3 + 1)))), (5, .int (nI (fda b q.2.2.2.1 i 0 3 + 1))), (0, .ref (a 0)), (1, .ref (r (3 + i)))]) hx hb dX6_sureOf_51 hl (k := 3) rfl rfl (by decide) rfl (fun ls hl => ?_)
        refine lv_goto (tgt := 4) hx hb dX6_sureOf_54 (by decide) ?_
        refine lv_iload_n hx hb dX6_sureOf_4 rfl (lv_at hl 0 rfl) ?_
        refine lv_iconst (v := nI 4) hx hb dX6_sureOf_5 (by decide) ?_
        refine j_icmp_ge (tgt := 57) hx hb dX6_sureOf_6 (by decide) (nI_toInt (by decide)) (nI_toInt (by decide)) (fun c_12 => absurd c_12 (by omega)) (fun c_12 => ?_)
        refine lv_iload_n hx hb dX6_sureOf_9 rfl (lv_at hl 0 rfl) ?_
        refine lv_iconst (v := nI 1) hx hb dX6_sureOf_10 (by decide) ?_
        refine n_iadd hx hb dX6_sureOf_11 ?_
        refine lv_istore (lv' := [(4, .int (nI 2)), (3, .int (nI 1)), (2, .int (nI (max (max (max 0 (fda b q.2.2.2.1 i 0 1 + 1)) (fda b q.2.2.2.1 i 0 2 + 1)) (fda b q.2.2.2.1 i 0 3 + 1)))), (5, .int (nI (fda b q.2.2.2.1 i 0 3 + 1))), (0, .ref (a 0)), (1, .ref (r (3 + i)))]) hx hb dX6_sureOf_12 hl (by decide) rfl (fun ls hl => ?_)
        refine lv_iload hx hb dX6_sureOf_14 (lv_at hl 0 rfl) ?_
        refine lv_iconst (v := nI 4) hx hb dX6_sureOf_16 (by decide) ?_
        refine j_icmp_ge (tgt := 51) hx hb dX6_sureOf_17 (by decide) (nI_toInt (by decide)) (nI_toInt (by decide)) (fun c_13 => absurd c_13 (by omega)) (fun c_13 => ?_)
        refine lv_aload_n hx hb dX6_sureOf_20 rfl (lv_at hl 4 rfl) ?_
        refine lv_aload_n hx hb dX6_sureOf_21 rfl (lv_at hl 5 rfl) ?_
        refine lv_iload_n hx hb dX6_sureOf_22 rfl (lv_at hl 1 rfl) ?_
        refine lv_iload hx hb dX6_sureOf_23 (lv_at hl 0 rfl) ?_
        rcases Decidable.em (fda b q.2.2.2.1 i 1 2 < 16) with hf_14 | hf_14
        · refine ro_iV (n := 3) (As := [.ref (r (3 + i)), .int (nI 1), .int (nI 2)]) ⟨hx, hb, hml, hown, hts⟩ (c_X6_ettA l D a r k cI cT cN xh xi xr pn pc rd B L q kq b hS hok9 hT i hi 1 2 (by decide) (by decide) hf_14) (cwV 3 hts (gV mg_299 mg_301 mg_1005 mg_1 mg_302) rfl rfl rfl vd_X6_enoughToTell ⟨Nat.le_of_ble_eq_true rfl, Nat.le_of_ble_eq_true rfl⟩) (va_recv hK hP (ci := 6) (q0 := 0) rfl rfl) hK hP rfl hl.1 rfl (Nat.le_of_ble_eq_true rfl) dX6_sureOf_25 ⟨Nat.zero_le _, Nat.zero_le _⟩ ?_
          refine lv_istore (lv' := [(5, .int (nI (fda b q.2.2.2.1 i 1 2 + 1))), (4, .int (nI 2)), (3, .int (nI 1)), (2, .int (nI (max (max (max 0 (fda b q.2.2.2.1 i 0 1 + 1)) (fda b q.2.2.2.1 i 0 2 + 1)) (fda b q.2.2.2.1 i 0 3 + 1)))), (0, .ref (a 0)), (1, .ref (r (3 + i)))]) hx hb dX6_sureOf_28 hl (by decide) rfl (fun ls hl => ?_)
          refine lv_iload hx hb dX6_sureOf_30 (lv_at hl 0 rfl) ?_
          refine lv_iconst (v := (-1)) hx hb dX6_sureOf_32 (by decide) ?_
          refine j_icmp_ne (tgt := 38) hx hb dX6_sureOf_33 (by decide) (nI_toInt (by omega)) (show ((-1) : Int32).toInt = -1 from by decide) (fun c_15 => ?_) (fun c_15 => absurd c_15 (by omega))
          refine lv_iload_n hx hb dX6_sureOf_38 rfl (lv_at hl 3 rfl) ?_
          refine lv_iload hx hb dX6_sureOf_39 (lv_at hl 0 rfl) ?_
          refine va_mmax hx hb (hml.trans hl.1.symm) hown (hts _ mg_309) (hts _ mg_310) (hts _ mg_9) (hts _ mg_311) (Nat.le_of_ble_eq_true rfl) (Nat.le_of_ble_eq_true rfl) (Nat.zero_le _) (Nat.zero_le _) dX6_sureOf_41 ?_
          refine n_top (n_max (by omega) (by omega)) ?_
          refine lv_istore_n (lv' := [(2, .int (nI (max (max (max (max 0 (fda b q.2.2.2.1 i 0 1 + 1)) (fda b q.2.2.2.1 i 0 2 + 1)) (fda b q.2.2.2.1 i 0 3 + 1)) (fda b q.2.2.2.1 i 1 2 + 1)))), (5, .int (nI (fda b q.2.2.2.1 i 1 2 + 1))), (4, .int (nI 2)), (3, .int (nI 1)), (0, .ref (a 0)), (1, .ref (r (3 + i)))]) hx hb dX6_sureOf_44 rfl hl (by decide) rfl (fun ls hl => ?_)
          refine lv_iinc (v := nI 3) (lv' := [(4, .int (nI 3)), (2, .int (nI (max (max (max (max 0 (fda b q.2.2.2.1 i 0 1 + 1)) (fda b q.2.2.2.1 i 0 2 + 1)) (fda b q.2.2.2.1 i 0 3 + 1)) (fda b q.2.2.2.1 i 1 2 + 1)))), (5, .int (nI (fda b q.2.2.2.1 i 1 2 + 1))), (3, .int (nI 1)), (0, .ref (a 0)), (1, .ref (r (3 + i)))]) hx hb dX6_sureOf_45 hl (k := 2) rfl rfl (by decide) rfl (fun ls hl => ?_)
          refine lv_goto (tgt := 14) hx hb dX6_sureOf_48 (by decide) ?_
          refine lv_iload hx hb dX6_sureOf_14 (lv_at hl 0 rfl) ?_
          refine lv_iconst (v := nI 4) hx hb dX6_sureOf_16 (by decide) ?_
          refine j_icmp_ge (tgt := 51) hx hb dX6_sureOf_17 (by decide) (nI_toInt (by decide)) (nI_toInt (by decide)) (fun c_16 => absurd c_16 (by omega)) (fun c_16 => ?_)
          refine lv_aload_n hx hb dX6_sureOf_20 rfl (lv_at hl 4 rfl) ?_
          refine lv_aload_n hx hb dX6_sureOf_21 rfl (lv_at hl 5 rfl) ?_
          refine lv_iload_n hx hb dX6_sureOf_22 rfl (lv_at hl 3 rfl) ?_
          refine lv_iload hx hb dX6_sureOf_23 (lv_at hl 0 rfl) ?_
          rcases Decidable.em (fda b q.2.2.2.1 i 1 3 < 16) with hf_17 | hf_17
          · refine ro_iV (n := 3) (As := [.ref (r (3 + i)), .int (nI 1), .int (nI 3)]) ⟨hx, hb, hml, hown, hts⟩ (c_X6_ettA l D a r k cI cT cN xh xi xr pn pc rd B L q kq b hS hok9 hT i hi 1 3 (by decide) (by decide) hf_17) (cwV 3 hts (gV mg_299 mg_301 mg_1005 mg_1 mg_302) rfl rfl rfl vd_X6_enoughToTell ⟨Nat.le_of_ble_eq_true rfl, Nat.le_of_ble_eq_true rfl⟩) (va_recv hK hP (ci := 6) (q0 := 0) rfl rfl) hK hP rfl hl.1 rfl (Nat.le_of_ble_eq_true rfl) dX6_sureOf_25 ⟨Nat.zero_le _, Nat.zero_le _⟩ ?_
            refine lv_istore (lv' := [(5, .int (nI (fda b q.2.2.2.1 i 1 3 + 1))), (4, .int (nI 3)), (2, .int (nI (max (max (max (max 0 (fda b q.2.2.2.1 i 0 1 + 1)) (fda b q.2.2.2.1 i 0 2 + 1)) (fda b q.2.2.2.1 i 0 3 + 1)) (fda b q.2.2.2.1 i 1 2 + 1)))), (3, .int (nI 1)), (0, .ref (a 0)), (1, .ref (r (3 + i)))]) hx hb dX6_sureOf_28 hl (by decide) rfl (fun ls hl => ?_)
            refine lv_iload hx hb dX6_sureOf_30 (lv_at hl 0 rfl) ?_
            refine lv_iconst (v := (-1)) hx hb dX6_sureOf_32 (by decide) ?_
            refine j_icmp_ne (tgt := 38) hx hb dX6_sureOf_33 (by decide) (nI_toInt (by omega)) (show ((-1) : Int32).toInt = -1 from by decide) (fun c_18 => ?_) (fun c_18 => absurd c_18 (by omega))
            refine lv_iload_n hx hb dX6_sureOf_38 rfl (lv_at hl 2 rfl) ?_
            refine lv_iload hx hb dX6_sureOf_39 (lv_at hl 0 rfl) ?_
            refine va_mmax hx hb (hml.trans hl.1.symm) hown (hts _ mg_309) (hts _ mg_310) (hts _ mg_9) (hts _ mg_311) (Nat.le_of_ble_eq_true rfl) (Nat.le_of_ble_eq_true rfl) (Nat.zero_le _) (Nat.zero_le _) dX6_sureOf_41 ?_
            refine n_top (n_max (by omega) (by omega)) ?_
            refine lv_istore_n (lv' := [(2, .int (nI (max (max (max (max (max 0 (fda b q.2.2.2.1 i 0 1 + 1)) (fda b q.2.2.2.1 i 0 2 + 1)) (fda b q.2.2.2.1 i 0 3 + 1)) (fda b q.2.2.2.1 i 1 2 + 1)) (fda b q.2.2.2.1 i 1 3 + 1)))), (5, .int (nI (fda b q.2.2.2.1 i 1 3 + 1))), (4, .int (nI 3)), (3, .int (nI 1)), (0, .ref (a 0)), (1, .ref (r (3 + i)))]) hx hb dX6_sureOf_44 rfl hl (by decide) rfl (fun ls hl => ?_)
            refine lv_iinc (v := nI 4) (lv' := [(4, .int (nI 4)), (2, .int (nI (max (max (max (max (max 0 (fda b q.2.2.2.1 i 0 1 + 1)) (fda b q.2.2.2.1 i 0 2 + 1)) (fda b q.2.2.2.1 i 0 3 + 1)) (fda b q.2.2.2.1 i 1 2 + 1)) (fda b q.2.2.2.1 i 1 3 + 1)))), (5, .int (nI (fda b q.2.2.2.1 i 1 3 + 1))), (3, .int (nI 1)), (0, .ref (a 0)), (1, .ref (r (3 + i)))]) hx hb dX6_sureOf_45 hl (k := 2) rfl rfl (by decide) rfl (fun ls hl => ?_)
            refine lv_goto (tgt := 14) hx hb dX6_sureOf_48 (by decide) ?_
            refine lv_iload hx hb dX6_sureOf_14 (lv_at hl 0 rfl) ?_
            refine lv_iconst (v := nI 4) hx hb dX6_sureOf_16 (by decide) ?_
            refine j_icmp_ge (tgt := 51) hx hb dX6_sureOf_17 (by decide) (nI_toInt (by decide)) (nI_toInt (by decide)) (fun c_19 => ?_) (fun c_19 => absurd c_19 (by omega))
            refine lv_iinc (v := nI 2) (lv' := [(3, .int (nI 2)), (4, .int (nI 4)), (2, .int (nI (max (max (max (max (max 0 (fda b q.2.2.2.1 i 0 1 + 1)) (fda b q.2.2.2.1 i 0 2 + 1)) (fda b q.2.2.2.1 i 0 3 + 1)) (fda b q.2.2.2.1 i 1 2 + 1)) (fda b q.2.2.2.1 i 1 3 + 1)))), (5, .int (nI (fda b q.2.2.2.1 i 1 3 + 1))), (0, .ref (a 0)), (1, .ref (r (3 + i)))]) hx hb dX6_sureOf_51 hl (k := 3) rfl rfl (by decide) rfl (fun ls hl => ?_)
            refine lv_goto (tgt := 4) hx hb dX6_sureOf_54 (by decide) ?_
            refine lv_iload_n hx hb dX6_sureOf_4 rfl (lv_at hl 0 rfl) ?_
            refine lv_iconst (v := nI 4) hx hb dX6_sureOf_5 (by decide) ?_
            refine j_icmp_ge (tgt := 57) hx hb dX6_sureOf_6 (by decide) (nI_toInt (by decide)) (nI_toInt (by decide)) (fun c_20 => absurd c_20 (by omega)) (fun c_20 => ?_)
            refine lv_iload_n hx hb dX6_sureOf_9 rfl (lv_at hl 0 rfl) ?_
            refine lv_iconst (v := nI 1) hx hb dX6_sureOf_10 (by decide) ?_
            refine n_iadd hx hb dX6_sureOf_11 ?_
            refine lv_istore (lv' := [(4, .int (nI 3)), (3, .int (nI 2)), (2, .int (nI (max (max (max (max (max 0 (fda b q.2.2.2.1 i 0 1 + 1)) (fda b q.2.2.2.1 i 0 2 + 1)) (fda b q.2.2.2.1 i 0 3 + 1)) (fda b q.2.2.2.1 i 1 2 + 1)) (fda b q.2.2.2.1 i 1 3 + 1)))), (5, .int (nI (fda b q.2.2.2.1 i 1 3 + 1))), (0, .ref (a 0)), (1, .ref (r (3 + i)))]) hx hb dX6_sureOf_12 hl (by decide) rfl (fun ls hl => ?_)
            refine lv_iload hx hb dX6_sureOf_14 (lv_at hl 0 rfl) ?_
            refine lv_iconst (v := nI 4) hx hb dX6_sureOf_16 (by decide) ?_
            refine j_icmp_ge (tgt := 51) hx hb dX6_sureOf_17 (by decide) (nI_toInt (by decide)) (nI_toInt (by decide)) (fun c_21 => absurd c_21 (by omega)) (fun c_21 => ?_)
            refine lv_aload_n hx hb dX6_sureOf_20 rfl (lv_at hl 4 rfl) ?_
            refine lv_aload_n hx hb dX6_sureOf_21 rfl (lv_at hl 5 rfl) ?_
            refine lv_iload_n hx hb dX6_sureOf_22 rfl (lv_at hl 1 rfl) ?_
            refine lv_iload hx hb dX6_sureOf_23 (lv_at hl 0 rfl) ?_
            rcases Decidable.em (fda b q.2.2.2.1 i 2 3 < 16) with hf_22 | hf_22
            · refine ro_iV (n := 3) (As := [.ref (r (3 + i)), .int (nI 2), .int (nI 3)]) ⟨hx, hb, hml, hown, hts⟩ (c_X6_ettA l D a r k cI cT cN xh xi xr pn pc rd B L q kq b hS hok9 hT i hi 2 3 (by decide) (by decide) hf_22) (cwV 3 hts (gV mg_299 mg_301 mg_1005 mg_1 mg_302) rfl rfl rfl vd_X6_enoughToTell ⟨Nat.le_of_ble_eq_true rfl, Nat.le_of_ble_eq_true rfl⟩) (va_recv hK hP (ci := 6) (q0 := 0) rfl rfl) hK hP rfl hl.1 rfl (Nat.le_of_ble_eq_true rfl) dX6_sureOf_25 ⟨Nat.zero_le _, Nat.zero_le _⟩ ?_
              refine lv_istore (lv' := [(5, .int (nI (fda b q.2.2.2.1 i 2 3 + 1))), (4, .int (nI 3)), (3, .int (nI 2)), (2, .int (nI (max (max (max (max (max 0 (fda b q.2.2.2.1 i 0 1 + 1)) (fda b q.2.2.2.1 i 0 2 + 1)) (fda b q.2.2.2.1 i 0 3 + 1)) (fda b q.2.2.2.1 i 1 2 + 1)) (fda b q.2.2.2.1 i 1 3 + 1)))), (0, .ref (a 0)), (1, .ref (r (3 + i)))]) hx hb dX6_sureOf_28 hl (by decide) rfl (fun ls hl => ?_)
              refine lv_iload hx hb dX6_sureOf_30 (lv_at hl 0 rfl) ?_
              refine lv_iconst (v := (-1)) hx hb dX6_sureOf_32 (by decide) ?_
              refine j_icmp_ne (tgt := 38) hx hb dX6_sureOf_33 (by decide) (nI_toInt (by omega)) (show ((-1) : Int32).toInt = -1 from by decide) (fun c_23 => ?_) (fun c_23 => absurd c_23 (by omega))
              refine lv_iload_n hx hb dX6_sureOf_38 rfl (lv_at hl 3 rfl) ?_
              refine lv_iload hx hb dX6_sureOf_39 (lv_at hl 0 rfl) ?_
              refine va_mmax hx hb (hml.trans hl.1.symm) hown (hts _ mg_309) (hts _ mg_310) (hts _ mg_9) (hts _ mg_311) (Nat.le_of_ble_eq_true rfl) (Nat.le_of_ble_eq_true rfl) (Nat.zero_le _) (Nat.zero_le _) dX6_sureOf_41 ?_
              refine n_top (n_max (by omega) (by omega)) ?_
              refine lv_istore_n (lv' := [(2, .int (nI (max (max (max (max (max (max 0 (fda b q.2.2.2.1 i 0 1 + 1)) (fda b q.2.2.2.1 i 0 2 + 1)) (fda b q.2.2.2.1 i 0 3 + 1)) (fda b q.2.2.2.1 i 1 2 + 1)) (fda b q.2.2.2.1 i 1 3 + 1)) (fda b q.2.2.2.1 i 2 3 + 1)))), (5, .int (nI (fda b q.2.2.2.1 i 2 3 + 1))), (4, .int (nI 3)), (3, .int (nI 2)), (0, .ref (a 0)), (1, .ref (r (3 + i)))]) hx hb dX6_sureOf_44 rfl hl (by decide) rfl (fun ls hl => ?_)
              refine lv_iinc (v := nI 4) (lv' := [(4, .int (nI 4)), (2, .int (nI (max (max (max (max (max (max 0 (fda b q.2.2.2.1 i 0 1 + 1)) (fda b q.2.2.2.1 i 0 2 + 1)) (fda b q.2.2.2.1 i 0 3 + 1)) (fda b q.2.2.2.1 i 1 2 + 1)) (fda b q.2.2.2.1 i 1 3 + 1)) (fda b q.2.2.2.1 i 2 3 + 1)))), (5, .int (nI (fda b q.2.2.2.1 i 2 3 + 1))), (3, .int (nI 2)), (0, .ref (a 0)), (1, .ref (r (3 + i)))]) hx hb dX6_sureOf_45 hl (k := 2) rfl rfl (by decide) rfl (fun ls hl => ?_)
              refine lv_goto (tgt := 14) hx hb dX6_sureOf_48 (by decide) ?_
              refine lv_iload hx hb dX6_sureOf_14 (lv_at hl 0 rfl) ?_
              refine lv_iconst (v := nI 4) hx hb dX6_sureOf_16 (by decide) ?_
              refine j_icmp_ge (tgt := 51) hx hb dX6_sureOf_17 (by decide) (nI_toInt (by decide)) (nI_toInt (by decide)) (fun c_24 => ?_) (fun c_24 => absurd c_24 (by omega))
              refine lv_iinc (v := nI 3) (lv' := [(3, .int (nI 3)), (4, .int (nI 4)), (2, .int (nI (max (max (max (max (max (max 0 (fda b q.2.2.2.1 i 0 1 + 1)) (fda b q.2.2.2.1 i 0 2 + 1)) (fda b q.2.2.2.1 i 0 3 + 1)) (fda b q.2.2.2.1 i 1 2 + 1)) (fda b q.2.2.2.1 i 1 3 + 1)) (fda b q.2.2.2.1 i 2 3 + 1)))), (5, .int (nI (fda b q.2.2.2.1 i 2 3 + 1))), (0, .ref (a 0)), (1, .ref (r (3 + i)))]) hx hb dX6_sureOf_51 hl (k := 3) rfl rfl (by decide) rfl (fun ls hl => ?_)
              refine lv_goto (tgt := 4) hx hb dX6_sureOf_54 (by decide) ?_
              refine lv_iload_n hx hb dX6_sureOf_4 rfl (lv_at hl 0 rfl) ?_
              refine lv_iconst (v := nI 4) hx hb dX6_sureOf_5 (by decide) ?_
              refine j_icmp_ge (tgt := 57) hx hb dX6_sureOf_6 (by decide) (nI_toInt (by decide)) (nI_toInt (by decide)) (fun c_25 => absurd c_25 (by omega)) (fun c_25 => ?_)
              refine lv_iload_n hx hb dX6_sureOf_9 rfl (lv_at hl 0 rfl) ?_
              refine lv_iconst (v := nI 1) hx hb dX6_sureOf_10 (by decide) ?_
              refine n_iadd hx hb dX6_sureOf_11 ?_
              refine lv_istore (lv' := [(4, .int (nI 4)), (3, .int (nI 3)), (2, .int (nI (max (max (max (max (max (max 0 (fda b q.2.2.2.1 i 0 1 + 1)) (fda b q.2.2.2.1 i 0 2 + 1)) (fda b q.2.2.2.1 i 0 3 + 1)) (fda b q.2.2.2.1 i 1 2 + 1)) (fda b q.2.2.2.1 i 1 3 + 1)) (fda b q.2.2.2.1 i 2 3 + 1)))), (5, .int (nI (fda b q.2.2.2.1 i 2 3 + 1))), (0, .ref (a 0)), (1, .ref (r (3 + i)))]) hx hb dX6_sureOf_12 hl (by decide) rfl (fun ls hl => ?_)
              refine lv_iload hx hb dX6_sureOf_14 (lv_at hl 0 rfl) ?_
              refine lv_iconst (v := nI 4) hx hb dX6_sureOf_16 (by decide) ?_
              refine j_icmp_ge (tgt := 51) hx hb dX6_sureOf_17 (by decide) (nI_toInt (by decide)) (nI_toInt (by decide)) (fun c_26 => ?_) (fun c_26 => absurd c_26 (by omega))
              refine lv_iinc (v := nI 4) (lv' := [(3, .int (nI 4)), (4, .int (nI 4)), (2, .int (nI (max (max (max (max (max (max 0 (fda b q.2.2.2.1 i 0 1 + 1)) (fda b q.2.2.2.1 i 0 2 + 1)) (fda b q.2.2.2.1 i 0 3 + 1)) (fda b q.2.2.2.1 i 1 2 + 1)) (fda b q.2.2.2.1 i 1 3 + 1)) (fda b q.2.2.2.1 i 2 3 + 1)))), (5, .int (nI (fda b q.2.2.2.1 i 2 3 + 1))), (0, .ref (a 0)), (1, .ref (r (3 + i)))]) hx hb dX6_sureOf_51 hl (k := 1) rfl rfl (by decide) rfl (fun ls hl => ?_)
              refine lv_goto (tgt := 4) hx hb dX6_sureOf_54 (by decide) ?_
              refine lv_iload_n hx hb dX6_sureOf_4 rfl (lv_at hl 0 rfl) ?_
              refine lv_iconst (v := nI 4) hx hb dX6_sureOf_5 (by decide) ?_
              refine j_icmp_ge (tgt := 57) hx hb dX6_sureOf_6 (by decide) (nI_toInt (by decide)) (nI_toInt (by decide)) (fun c_27 => ?_) (fun c_27 => absurd c_27 (by omega))
              refine lv_iload_n hx hb dX6_sureOf_57 rfl (lv_at hl 2 rfl) ?_
              exact ro_iret hx hb hr hlocks (by rw [sur, if_neg (by omega)]) dX6_sureOf_58
            · refine ro_iV (n := 3) (As := [.ref (r (3 + i)), .int (nI 2), .int (nI 3)]) ⟨hx, hb, hml, hown, hts⟩ (c_X6_ettB l D a r k cI cT cN xh xi xr pn pc rd B L q kq b hS hok9 hT i hi 2 3 (by decide) (by decide) hf_22) (cwV 3 hts (gV mg_299 mg_301 mg_1005 mg_1 mg_302) rfl rfl rfl vd_X6_enoughToTell ⟨Nat.le_of_ble_eq_true rfl, Nat.le_of_ble_eq_true rfl⟩) (va_recv hK hP (ci := 6) (q0 := 0) rfl rfl) hK hP rfl hl.1 rfl (Nat.le_of_ble_eq_true rfl) dX6_sureOf_25 ⟨Nat.zero_le _, Nat.zero_le _⟩ ?_
              refine lv_istore (lv' := [(5, .int (-1)), (4, .int (nI 3)), (3, .int (nI 2)), (2, .int (nI (max (max (max (max (max 0 (fda b q.2.2.2.1 i 0 1 + 1)) (fda b q.2.2.2.1 i 0 2 + 1)) (fda b q.2.2.2.1 i 0 3 + 1)) (fda b q.2.2.2.1 i 1 2 + 1)) (fda b q.2.2.2.1 i 1 3 + 1)))), (0, .ref (a 0)), (1, .ref (r (3 + i)))]) hx hb dX6_sureOf_28 hl (by decide) rfl (fun ls hl => ?_)
              refine lv_iload hx hb dX6_sureOf_30 (lv_at hl 0 rfl) ?_
              refine lv_iconst (v := (-1)) hx hb dX6_sureOf_32 (by decide) ?_
              refine j_icmp_ne (tgt := 38) hx hb dX6_sureOf_33 (by decide) (show ((-1) : Int32).toInt = -1 from by decide) (show ((-1) : Int32).toInt = -1 from by decide) (fun c_28 => absurd c_28 (by omega)) (fun c_28 => ?_)
              refine lv_iconst (v := (-1)) hx hb dX6_sureOf_36 (by decide) ?_
              exact ro_iret hx hb hr hlocks (by rw [sur, if_pos (by first | exact Or.inl (by have := fda_le b q.2.2.2.1 i 0 1; omega) | exact Or.inr (Or.inl (by have := fda_le b q.2.2.2.1 i 0 2; omega)) | exact Or.inr (Or.inr (Or.inl (by have := fda_le b q.2.2.2.1 i 0 3; omega))) | exact Or.inr (Or.inr (Or.inr (Or.inl (by have := fda_le b q.2.2.2.1 i 1 2; omega)))) | exact Or.inr (Or.inr (Or.inr (Or.inr (Or.inl (by have := fda_le b q.2.2.2.1 i 1 3; omega))))) | exact Or.inr (Or.inr (Or.inr (Or.inr (Or.inr (by have := fda_le b q.2.2.2.1 i 2 3; omega))))))]) dX6_sureOf_37
          · refine ro_iV (n := 3) (As := [.ref (r (3 + i)), .int (nI 1), .int (nI 3)]) ⟨hx, hb, hml, hown, hts⟩ (c_X6_ettB l D a r k cI cT cN xh xi xr pn pc rd B L q kq b hS hok9 hT i hi 1 3 (by decide) (by decide) hf_17) (cwV 3 hts (gV mg_299 mg_301 mg_1005 mg_1 mg_302) rfl rfl rfl vd_X6_enoughToTell ⟨Nat.le_of_ble_eq_true rfl, Nat.le_of_ble_eq_true rfl⟩) (va_recv hK hP (ci := 6) (q0 := 0) rfl rfl) hK hP rfl hl.1 rfl (Nat.le_of_ble_eq_true rfl) dX6_sureOf_25 ⟨Nat.zero_le _, Nat.zero_le _⟩ ?_
            refine lv_istore (lv' := [(5, .int (-1)), (4, .int (nI 3)), (2, .int (nI (max (max (max (max 0 (fda b q.2.2.2.1 i 0 1 + 1)) (fda b q.2.2.2.1 i 0 2 + 1)) (fda b q.2.2.2.1 i 0 3 + 1)) (fda b q.2.2.2.1 i 1 2 + 1)))), (3, .int (nI 1)), (0, .ref (a 0)), (1, .ref (r (3 + i)))]) hx hb dX6_sureOf_28 hl (by decide) rfl (fun ls hl => ?_)
            refine lv_iload hx hb dX6_sureOf_30 (lv_at hl 0 rfl) ?_
            refine lv_iconst (v := (-1)) hx hb dX6_sureOf_32 (by decide) ?_
            refine j_icmp_ne (tgt := 38) hx hb dX6_sureOf_33 (by decide) (show ((-1) : Int32).toInt = -1 from by decide) (show ((-1) : Int32).toInt = -1 from by decide) (fun c_29 => absurd c_29 (by omega)) (fun c_29 => ?_)
            refine lv_iconst (v := (-1)) hx hb dX6_sureOf_36 (by decide) ?_
            exact ro_iret hx hb hr hlocks (by rw [sur, if_pos (by first | exact Or.inl (by have := fda_le b q.2.2.2.1 i 0 1; omega) | exact Or.inr (Or.inl (by have := fda_le b q.2.2.2.1 i 0 2; omega)) | exact Or.inr (Or.inr (Or.inl (by have := fda_le b q.2.2.2.1 i 0 3; omega))) | exact Or.inr (Or.inr (Or.inr (Or.inl (by have := fda_le b q.2.2.2.1 i 1 2; omega)))) | exact Or.inr (Or.inr (Or.inr (Or.inr (Or.inl (by have := fda_le b q.2.2.2.1 i 1 3; omega))))) | exact Or.inr (Or.inr (Or.inr (Or.inr (Or.inr (by have := fda_le b q.2.2.2.1 i 2 3; omega))))))]) dX6_sureOf_37
        · refine ro_iV (n := 3) (As := [.ref (r (3 + i)), .int (nI 1), .int (nI 2)]) ⟨hx, hb, hml, hown, hts⟩ (c_X6_ettB l D a r k cI cT cN xh xi xr pn pc rd B L q kq b hS hok9 hT i hi 1 2 (by decide) (by decide) hf_14) (cwV 3 hts (gV mg_299 mg_301 mg_1005 mg_1 mg_302) rfl rfl rfl vd_X6_enoughToTell ⟨Nat.le_of_ble_eq_true rfl, Nat.le_of_ble_eq_true rfl⟩) (va_recv hK hP (ci := 6) (q0 := 0) rfl rfl) hK hP rfl hl.1 rfl (Nat.le_of_ble_eq_true rfl) dX6_sureOf_25 ⟨Nat.zero_le _, Nat.zero_le _⟩ ?_
          refine lv_istore (lv' := [(5, .int (-1)), (4, .int (nI 2)), (3, .int (nI 1)), (2, .int (nI (max (max (max 0 (fda b q.2.2.2.1 i 0 1 + 1)) (fda b q.2.2.2.1 i 0 2 + 1)) (fda b q.2.2.2.1 i 0 3 + 1)))), (0, .ref (a 0)), (1, .ref (r (3 + i)))]) hx hb dX6_sureOf_28 hl (by decide) rfl (fun ls hl => ?_)
          refine lv_iload hx hb dX6_sureOf_30 (lv_at hl 0 rfl) ?_
          refine lv_iconst (v := (-1)) hx hb dX6_sureOf_32 (by decide) ?_
          refine j_icmp_ne (tgt := 38) hx hb dX6_sureOf_33 (by decide) (show ((-1) : Int32).toInt = -1 from by decide) (show ((-1) : Int32).toInt = -1 from by decide) (fun c_30 => absurd c_30 (by omega)) (fun c_30 => ?_)
          refine lv_iconst (v := (-1)) hx hb dX6_sureOf_36 (by decide) ?_
          exact ro_iret hx hb hr hlocks (by rw [sur, if_pos (by first | exact Or.inl (by have := fda_le b q.2.2.2.1 i 0 1; omega) | exact Or.inr (Or.inl (by have := fda_le b q.2.2.2.1 i 0 2; omega)) | exact Or.inr (Or.inr (Or.inl (by have := fda_le b q.2.2.2.1 i 0 3; omega))) | exact Or.inr (Or.inr (Or.inr (Or.inl (by have := fda_le b q.2.2.2.1 i 1 2; omega)))) | exact Or.inr (Or.inr (Or.inr (Or.inr (Or.inl (by have := fda_le b q.2.2.2.1 i 1 3; omega))))) | exact Or.inr (Or.inr (Or.inr (Or.inr (Or.inr (by have := fda_le b q.2.2.2.1 i 2 3; omega))))))]) dX6_sureOf_37
      · refine ro_iV (n := 3) (As := [.ref (r (3 + i)), .int (nI 0), .int (nI 3)]) ⟨hx, hb, hml, hown, hts⟩ (c_X6_ettB l D a r k cI cT cN xh xi xr pn pc rd B L q kq b hS hok9 hT i hi 0 3 (by decide) (by decide) hf_9) (cwV 3 hts (gV mg_299 mg_301 mg_1005 mg_1 mg_302) rfl rfl rfl vd_X6_enoughToTell ⟨Nat.le_of_ble_eq_true rfl, Nat.le_of_ble_eq_true rfl⟩) (va_recv hK hP (ci := 6) (q0 := 0) rfl rfl) hK hP rfl hl.1 rfl (Nat.le_of_ble_eq_true rfl) dX6_sureOf_25 ⟨Nat.zero_le _, Nat.zero_le _⟩ ?_
        refine lv_istore (lv' := [(5, .int (-1)), (4, .int (nI 3)), (2, .int (nI (max (max 0 (fda b q.2.2.2.1 i 0 1 + 1)) (fda b q.2.2.2.1 i 0 2 + 1)))), (3, .int (nI 0)), (0, .ref (a 0)), (1, .ref (r (3 + i)))]) hx hb dX6_sureOf_28 hl (by decide) rfl (fun ls hl => ?_)
        refine lv_iload hx hb dX6_sureOf_30 (lv_at hl 0 rfl) ?_
        refine lv_iconst (v := (-1)) hx hb dX6_sureOf_32 (by decide) ?_
        refine j_icmp_ne (tgt := 38) hx hb dX6_sureOf_33 (by decide) (show ((-1) : Int32).toInt = -1 from by decide) (show ((-1) : Int32).toInt = -1 from by decide) (fun c_31 => absurd c_31 (by omega)) (fun c_31 => ?_)
        refine lv_iconst (v := (-1)) hx hb dX6_sureOf_36 (by decide) ?_
        exact ro_iret hx hb hr hlocks (by rw [sur, if_pos (by first | exact Or.inl (by have := fda_le b q.2.2.2.1 i 0 1; omega) | exact Or.inr (Or.inl (by have := fda_le b q.2.2.2.1 i 0 2; omega)) | exact Or.inr (Or.inr (Or.inl (by have := fda_le b q.2.2.2.1 i 0 3; omega))) | exact Or.inr (Or.inr (Or.inr (Or.inl (by have := fda_le b q.2.2.2.1 i 1 2; omega)))) | exact Or.inr (Or.inr (Or.inr (Or.inr (Or.inl (by have := fda_le b q.2.2.2.1 i 1 3; omega))))) | exact Or.inr (Or.inr (Or.inr (Or.inr (Or.inr (by have := fda_le b q.2.2.2.1 i 2 3; omega))))))]) dX6_sureOf_37
    · refine ro_iV (n := 3) (As := [.ref (r (3 + i)), .int (nI 0), .int (nI 2)]) ⟨hx, hb, hml, hown, hts⟩ (c_X6_ettB l D a r k cI cT cN xh xi xr pn pc rd B L q kq b hS hok9 hT i hi 0 2 (by decide) (by decide) hf_6) (cwV 3 hts (gV mg_299 mg_301 mg_1005 mg_1 mg_302) rfl rfl rfl vd_X6_enoughToTell ⟨Nat.le_of_ble_eq_true rfl, Nat.le_of_ble_eq_true rfl⟩) (va_recv hK hP (ci := 6) (q0 := 0) rfl rfl) hK hP rfl hl.1 rfl (Nat.le_of_ble_eq_true rfl) dX6_sureOf_25 ⟨Nat.zero_le _, Nat.zero_le _⟩ ?_
      refine lv_istore (lv' := [(5, .int (-1)), (4, .int (nI 2)), (2, .int (nI (max 0 (fda b q.2.2.2.1 i 0 1 + 1)))), (3, .int (nI 0)), (0, .ref (a 0)), (1, .ref (r (3 + i)))]) hx hb dX6_sureOf_28 hl (by decide) rfl (fun ls hl => ?_)
      refine lv_iload hx hb dX6_sureOf_30 (lv_at hl 0 rfl) ?_
      refine lv_iconst (v := (-1)) hx hb dX6_sureOf_32 (by decide) ?_
      refine j_icmp_ne (tgt := 38) hx hb dX6_sureOf_33 (by decide) (show ((-1) : Int32).toInt = -1 from by decide) (show ((-1) : Int32).toInt = -1 from by decide) (fun c_32 => absurd c_32 (by omega)) (fun c_32 => ?_)
      refine lv_iconst (v := (-1)) hx hb dX6_sureOf_36 (by decide) ?_
      exact ro_iret hx hb hr hlocks (by rw [sur, if_pos (by first | exact Or.inl (by have := fda_le b q.2.2.2.1 i 0 1; omega) | exact Or.inr (Or.inl (by have := fda_le b q.2.2.2.1 i 0 2; omega)) | exact Or.inr (Or.inr (Or.inl (by have := fda_le b q.2.2.2.1 i 0 3; omega))) | exact Or.inr (Or.inr (Or.inr (Or.inl (by have := fda_le b q.2.2.2.1 i 1 2; omega)))) | exact Or.inr (Or.inr (Or.inr (Or.inr (Or.inl (by have := fda_le b q.2.2.2.1 i 1 3; omega))))) | exact Or.inr (Or.inr (Or.inr (Or.inr (Or.inr (by have := fda_le b q.2.2.2.1 i 2 3; omega))))))]) dX6_sureOf_37
  · refine ro_iV (n := 3) (As := [.ref (r (3 + i)), .int (nI 0), .int (nI 1)]) ⟨hx, hb, hml, hown, hts⟩ (c_X6_ettB l D a r k cI cT cN xh xi xr pn pc rd B L q kq b hS hok9 hT i hi 0 1 (by decide) (by decide) hf_3) (cwV 3 hts (gV mg_299 mg_301 mg_1005 mg_1 mg_302) rfl rfl rfl vd_X6_enoughToTell ⟨Nat.le_of_ble_eq_true rfl, Nat.le_of_ble_eq_true rfl⟩) (va_recv hK hP (ci := 6) (q0 := 0) rfl rfl) hK hP rfl hl.1 rfl (Nat.le_of_ble_eq_true rfl) dX6_sureOf_25 ⟨Nat.zero_le _, Nat.zero_le _⟩ ?_
    refine lv_istore (lv' := [(5, .int (-1)), (4, .int (nI 1)), (3, .int (nI 0)), (2, .int (nI 0)), (0, .ref (a 0)), (1, .ref (r (3 + i)))]) hx hb dX6_sureOf_28 hl (by decide) rfl (fun ls hl => ?_)
    refine lv_iload hx hb dX6_sureOf_30 (lv_at hl 0 rfl) ?_
    refine lv_iconst (v := (-1)) hx hb dX6_sureOf_32 (by decide) ?_
    refine j_icmp_ne (tgt := 38) hx hb dX6_sureOf_33 (by decide) (show ((-1) : Int32).toInt = -1 from by decide) (show ((-1) : Int32).toInt = -1 from by decide) (fun c_33 => absurd c_33 (by omega)) (fun c_33 => ?_)
    refine lv_iconst (v := (-1)) hx hb dX6_sureOf_36 (by decide) ?_
    exact ro_iret hx hb hr hlocks (by rw [sur, if_pos (by first | exact Or.inl (by have := fda_le b q.2.2.2.1 i 0 1; omega) | exact Or.inr (Or.inl (by have := fda_le b q.2.2.2.1 i 0 2; omega)) | exact Or.inr (Or.inr (Or.inl (by have := fda_le b q.2.2.2.1 i 0 3; omega))) | exact Or.inr (Or.inr (Or.inr (Or.inl (by have := fda_le b q.2.2.2.1 i 1 2; omega)))) | exact Or.inr (Or.inr (Or.inr (Or.inr (Or.inl (by have := fda_le b q.2.2.2.1 i 1 3; omega))))) | exact Or.inr (Or.inr (Or.inr (Or.inr (Or.inr (by have := fda_le b q.2.2.2.1 i 2 3; omega))))))]) dX6_sureOf_37

set_option maxHeartbeats 4000000 in
set_option maxRecDepth 100000 in
theorem c_X6_slipsOf (l : Launch) (D : va_G) (a r k : Nat → Nat) (cI cT cN : ClassId) (xh xi xr pn : Nat) (pc : Nat → Int32) (rd : Nat × Nat × Nat) (B L : Nat → Int32) (q kq : RS) (b : Nat → Nat → Nat) (hS : SR b B L) (hok9 : hok b) (hT : Tok q) (i : Nat) (hi : i < q.1) (v : Nat) (hv : v < 4) : ROi l yX6_slipsOf (wA yX6_slipsOf cX6_slipsOf 6 (some .int)) ({ frames := 2, cells := 0, slots := 0, locals := 50 }) D (cTys cI cT cN) (cW a r k cI cT cN xh xi xr pn pc rd B L q kq) [.ref (a 0), .ref (r (3 + i)), .int (nI v)] (nI (sly b q.2.2.2.1 i q.2.2.2.2 q.2.1 v)) := by
  refine go_start (by decide) (Nat.le_of_ble_eq_true rfl) ?_
  intro p e s m args below meth c ls F _ hB hl
  obtain ⟨hx, hb, hr, hlocks, hml, hown, hts⟩ := F
  obtain ⟨hP, hK⟩ := hB
  have hown : s.vm.findClass RX6 = some m.cls := hown
  have hl : lv_has ls 6 [(0, .ref (a 0)), (1, .ref (r (3 + i))), (2, .int (nI v))] := hl
  have ht5 := hT.1
  have ht8 := hT.2.1
  obtain ⟨hk0, hv0, hw0, hp0⟩ := hT.2.2.1 i hi
  refine lv_iconst (v := nI 0) hx hb dX6_slipsOf_0 (by decide) ?_
  refine lv_istore_n (lv' := [(3, .int (nI 0)), (0, .ref (a 0)), (1, .ref (r (3 + i))), (2, .int (nI v))]) hx hb dX6_slipsOf_1 rfl hl (by decide) rfl (fun ls hl => ?_)
  refine lv_iconst (v := nI 0) hx hb dX6_slipsOf_2 (by decide) ?_
  refine lv_istore (lv' := [(4, .int (nI 0)), (3, .int (nI 0)), (0, .ref (a 0)), (1, .ref (r (3 + i))), (2, .int (nI v))]) hx hb dX6_slipsOf_3 hl (by decide) rfl (fun ls hl => ?_)
  have K_1 : ∀ n9 : Nat, ∀ (x : Nat) (n : Nat), n ≤ q.2.1 → x = cnt (slf b (q.2.2.2.1 i 0) i q.2.2.2.2 v) n → q.2.1 - n < n9 → ∀ ls : Array Slot, lv_has ls 6 [(0, .ref (a 0)), (1, .ref (r (3 + i))), (2, .int (nI v)), (3, .int (nI x)), (4, .int (nI n))] → W p l e (headSpec (wA yX6_slipsOf cX6_slipsOf 6 (some .int)) ({ frames := 2, cells := 0, slots := 0, locals := 50 })).room s m args below meth c s.heap [] 0 0 (MQ below (vp_Si (fun z9 => z9 = nI (sly b q.2.2.2.1 i q.2.2.2.2 q.2.1 v))) args s 0 0 (fun _ => False)) (F0 m 5 ls []) := by
    intro n9
    induction n9 with
    | zero => intros; omega
    | succ n9 ih_2 =>
      intro x n hn hx0 hn9 ls hl
      have hxl := cnt_le (slf b (q.2.2.2.1 i 0) i q.2.2.2.2 v) n
      refine lv_iload hx hb dX6_slipsOf_5 (lv_at hl 4 rfl) ?_
      refine lv_aload_n hx hb dX6_slipsOf_7 rfl (lv_at hl 0 rfl) ?_
      refine va_get (D := D) (ci := 6) (v := .ref (r 0)) (C := RX6) (T := TX6) (N := 7) hx hb hts iX6 hown hK hP 0 rfl rfl 2 (by decide) (hts _ mg_153) (fun _ h9 => h9) rfl dX6_slipsOf_8 ?_
      refine va_get (D := D) (ci := 3) (v := .int (nI q.2.1)) (C := RX3) (T := TX3) (N := 5) hx hb hts iX3 hown hK hP 7 rfl rfl 3 (by decide) (hts _ mg_137) (fun _ h9 => h9) rfl dX6_slipsOf_11 ?_
      refine j_icmp_ge (tgt := 87) hx hb dX6_slipsOf_14 (by decide) (nI_toInt (by omega)) (nI_toInt (by omega)) (fun c_3 => ?_) (fun c_3 => ?_)
      · have e9 : n = q.2.1 := by omega
        refine lv_iload_n hx hb dX6_slipsOf_87 rfl (lv_at hl 3 rfl) ?_
        exact ro_iret hx hb hr hlocks (by rw [hx0, e9]; rfl) dX6_slipsOf_88
      · obtain ⟨hn0, hn1, hn2, hn3⟩ := hT.2.2.2 n (by omega)
        refine lv_aload_n hx hb dX6_slipsOf_17 rfl (lv_at hl 0 rfl) ?_
        refine va_get (D := D) (ci := 6) (v := .ref (r 0)) (C := RX6) (T := TX6) (N := 7) hx hb hts iX6 hown hK hP 0 rfl rfl 2 (by decide) (hts _ mg_153) (fun _ h9 => h9) rfl dX6_slipsOf_18 ?_
        refine lv_iload hx hb dX6_slipsOf_21 (lv_at hl 4 rfl) ?_
        refine ro_qV (n := 1) (As := [.int (nI n)]) ⟨hx, hb, hml, hown, hts⟩ (c_X3_noteAt l D r cI cT cN q n (by omega) (by omega)) (cwV 1 hts (gV mg_320 mg_321 mg_322 mg_5 mg_323) rfl rfl rfl vd_X3_noteAt ⟨Nat.le_of_ble_eq_true rfl, Nat.le_of_ble_eq_true rfl⟩) (va_recv hK hP (ci := 3) (q0 := 7) rfl rfl) hK (cW_r hP) rfl hl.1 rfl (Nat.le_of_ble_eq_true rfl) dX6_slipsOf_23 ⟨Nat.zero_le _, Nat.zero_le _⟩ ?_
        refine lv_astore (lv' := [(5, .ref (r (8 + n))), (0, .ref (a 0)), (1, .ref (r (3 + i))), (2, .int (nI v)), (3, .int (nI x)), (4, .int (nI n))]) hx hb dX6_slipsOf_26 hl (by decide) rfl (fun ls hl => ?_)
        refine lv_aload hx hb dX6_slipsOf_28 (lv_at hl 0 rfl) ?_
        refine lv_ifnull hx hb dX6_slipsOf_30 ?_
        refine lv_aload hx hb dX6_slipsOf_33 (lv_at hl 0 rfl) ?_
        refine va_get (D := D) (ci := 0) (v := .int (nI (q.2.2.2.2 n 0))) (C := RX0) (T := TX0) (N := 4) hx hb hts iX0 hown hK hP (15 + n) (cW_note (by omega)) rfl 0 (by decide) (hts _ mg_113) (fun _ h9 => h9) rfl dX6_slipsOf_35 ?_
        refine lv_aload_n hx hb dX6_slipsOf_38 rfl (lv_at hl 2 rfl) ?_
        refine va_get (D := D) (ci := 5) (v := .int (nI i)) (C := RX5) (T := TX5) (N := 5) hx hb hts iX5 hown hK hP (10 + i) (cW_tap (by omega)) rfl 0 (by decide) (hts _ mg_80) (fun _ h9 => h9) rfl dX6_slipsOf_39 ?_
        refine j_icmp_eq (tgt := 48) hx hb dX6_slipsOf_42 (by decide) (nI_toInt (by omega)) (nI_toInt (by omega)) (fun c_4 => ?_) (fun c_4 => ?_)
        · refine lv_aload_n hx hb dX6_slipsOf_48 rfl (lv_at hl 1 rfl) ?_
          refine va_get (D := D) (ci := 6) (v := .ref (a 4)) (C := RX6) (T := TX6) (N := 7) hx hb hts iX6 hown hK hP 0 rfl rfl 1 (by decide) (hts _ mg_152) (fun _ h9 => h9) rfl dX6_slipsOf_49 ?_
          refine lv_aload_n hx hb dX6_slipsOf_52 rfl (lv_at hl 2 rfl) ?_
          refine va_get (D := D) (ci := 5) (v := .int (nI (q.2.2.2.1 i 0))) (C := RX5) (T := TX5) (N := 5) hx hb hts iX5 hown hK hP (10 + i) (cW_tap (by omega)) rfl 1 (by decide) (hts _ mg_83) (fun _ h9 => h9) rfl dX6_slipsOf_53 ?_
          refine lv_iload_n hx hb dX6_slipsOf_56 rfl (lv_at hl 3 rfl) ?_
          refine lv_aload hx hb dX6_slipsOf_57 (lv_at hl 0 rfl) ?_
          refine va_get (D := D) (ci := 0) (v := .int (nI (q.2.2.2.2 n 3))) (C := RX0) (T := TX0) (N := 4) hx hb hts iX0 hown hK hP (15 + n) (cW_note (by omega)) rfl 3 (by decide) (hts _ mg_122) (fun _ h9 => h9) rfl dX6_slipsOf_59 ?_
          refine lv_aload hx hb dX6_slipsOf_62 (lv_at hl 0 rfl) ?_
          refine va_get (D := D) (ci := 0) (v := .int (nI (q.2.2.2.2 n 1))) (C := RX0) (T := TX0) (N := 4) hx hb hts iX0 hown hK hP (15 + n) (cW_note (by omega)) rfl 1 (by decide) (hts _ mg_116) (fun _ h9 => h9) rfl dX6_slipsOf_64 ?_
          refine ro_iV (n := 4) (As := [.int (nI (q.2.2.2.1 i 0)), .int (nI v), .int (nI (q.2.2.2.2 n 3)), .int (nI (q.2.2.2.2 n 1))]) ⟨hx, hb, hml, hown, hts⟩ (c_X4_dripBy l D a cI cT cN B L b hS hok9 (q.2.2.2.1 i 0) v (q.2.2.2.2 n 3) (q.2.2.2.2 n 1) (by omega) (by omega) (by omega) (by omega)) (cwV 4 hts (gV mg_303 mg_304 mg_305 mg_4 mg_306) rfl rfl rfl vd_X4_dripBy ⟨Nat.le_of_ble_eq_true rfl, Nat.le_of_ble_eq_true rfl⟩) (va_recv hK hP (ci := 4) (q0 := 4) rfl rfl) hK (cW_s hP) rfl hl.1 rfl (Nat.le_of_ble_eq_true rfl) dX6_slipsOf_67 ⟨Nat.zero_le _, Nat.zero_le _⟩ ?_
          have hd1 := sd_le hok9 (kd := q.2.2.2.1 i 0) (w := q.2.2.2.2 n 3) (n := q.2.2.2.2 n 1) hv
          refine lv_aload hx hb dX6_slipsOf_70 (lv_at hl 0 rfl) ?_
          refine va_get (D := D) (ci := 0) (v := .int (nI (q.2.2.2.2 n 2))) (C := RX0) (T := TX0) (N := 4) hx hb hts iX0 hown hK hP (15 + n) (cW_note (by omega)) rfl 2 (by decide) (hts _ mg_119) (fun _ h9 => h9) rfl dX6_slipsOf_72 ?_
          refine j_icmp_eq (tgt := 81) hx hb dX6_slipsOf_75 (by decide) (nI_toInt (by omega)) (nI_toInt (by omega)) (fun c_5 => ?_) (fun c_5 => ?_)
          · refine lv_iinc (v := nI (n + 1)) (lv' := [(4, .int (nI (n + 1))), (5, .ref (r (8 + n))), (0, .ref (a 0)), (1, .ref (r (3 + i))), (2, .int (nI v)), (3, .int (nI x))]) hx hb dX6_slipsOf_81 hl (k := 5) rfl (fr_inc1 _) (by decide) rfl (fun ls hl => ?_)
            refine lv_goto (tgt := 5) hx hb dX6_slipsOf_84 (by decide) ?_
            exact ih_2 x (n + 1) (by omega) (by first | (rw [cnt_t hz, hx0]; done) | (rw [cnt_f hz, hx0]; done) | (rw [cnt_f (decide_eq_false (fun z => by omega)), hx0]; done)) (by omega) _ (lv_sub hl [2, 3, 4, 5, 0] rfl)
          · have hz : slf b (q.2.2.2.1 i 0) i q.2.2.2.2 v n = true := decide_eq_true (by constructor <;> omega)
            refine lv_iinc (v := nI (x + 1)) (lv' := [(3, .int (nI (x + 1))), (5, .ref (r (8 + n))), (0, .ref (a 0)), (1, .ref (r (3 + i))), (2, .int (nI v)), (4, .int (nI n))]) hx hb dX6_slipsOf_78 hl (k := 4) rfl (fr_inc1 _) (by decide) rfl (fun ls hl => ?_)
            refine lv_iinc (v := nI (n + 1)) (lv' := [(4, .int (nI (n + 1))), (3, .int (nI (x + 1))), (5, .ref (r (8 + n))), (0, .ref (a 0)), (1, .ref (r (3 + i))), (2, .int (nI v))]) hx hb dX6_slipsOf_81 hl (k := 5) rfl (fr_inc1 _) (by decide) rfl (fun ls hl => ?_)
            refine lv_goto (tgt := 5) hx hb dX6_slipsOf_84 (by decide) ?_
            exact ih_2 (x + 1) (n + 1) (by omega) (by first | (rw [cnt_t hz, hx0]; done) | (rw [cnt_f hz, hx0]; done) | (rw [cnt_f (decide_eq_false (fun z => by omega)), hx0]; done)) (by omega) _ (lv_sub hl [3, 4, 5, 1, 0] rfl)
        · have hz : slf b (q.2.2.2.1 i 0) i q.2.2.2.2 v n = false := decide_eq_false (fun z => by omega)
          refine lv_goto (tgt := 81) hx hb dX6_slipsOf_45 (by decide) ?_
          refine lv_iinc (v := nI (n + 1)) (lv' := [(4, .int (nI (n + 1))), (5, .ref (r (8 + n))), (0, .ref (a 0)), (1, .ref (r (3 + i))), (2, .int (nI v)), (3, .int (nI x))]) hx hb dX6_slipsOf_81 hl (k := 5) rfl (fr_inc1 _) (by decide) rfl (fun ls hl => ?_)
          refine lv_goto (tgt := 5) hx hb dX6_slipsOf_84 (by decide) ?_
          exact ih_2 x (n + 1) (by omega) (by first | (rw [cnt_t hz, hx0]; done) | (rw [cnt_f hz, hx0]; done) | (rw [cnt_f (decide_eq_false (fun z => by omega)), hx0]; done)) (by omega) _ (lv_sub hl [2, 3, 4, 5, 0] rfl)
  exact K_1 (q.2.1 - 0 + 1) 0 0 (by omega) (rfl) (Nat.lt_succ_self _) _ (lv_sub hl [2, 3, 4, 1, 0] rfl)

set_option maxHeartbeats 4000000 in
set_option maxRecDepth 100000 in
theorem c_X6_saysOf (l : Launch) (D : va_G) (a r k : Nat → Nat) (cI cT cN : ClassId) (xh xi xr pn : Nat) (pc : Nat → Int32) (rd : Nat × Nat × Nat) (B L : Nat → Int32) (q kq : RS) (b : Nat → Nat → Nat) (hS : SR b B L) (hok9 : hok b) (hT : Tok q) (i : Nat) (hi : i < q.1) : ROi l yX6_saysOf (wA yX6_saysOf cX6_saysOf 4 (some .int)) ({ frames := 3, cells := 0, slots := 0, locals := 75 }) D (cTys cI cT cN) (cW a r k cI cT cN xh xi xr pn pc rd B L q kq) [.ref (a 0), .ref (r (3 + i))] (nI (sys (sly b q.2.2.2.1 i q.2.2.2.2 q.2.1) 4)) := by
  refine go_start (by decide) (Nat.le_of_ble_eq_true rfl) ?_
  intro p e s m args below meth c ls F _ hB hl
  obtain ⟨hx, hb, hr, hlocks, hml, hown, hts⟩ := F
  obtain ⟨hP, hK⟩ := hB
  have hown : s.vm.findClass RX6 = some m.cls := hown
  have hl : lv_has ls 4 [(0, .ref (a 0)), (1, .ref (r (3 + i)))] := hl
  have ht5 := hT.1
  have ht8 := hT.2.1
  obtain ⟨hk0, hv0, hw0, hp0⟩ := hT.2.2.1 i hi
  refine lv_iconst (v := nI 0) hx hb dX6_saysOf_0 (by decide) ?_
  refine lv_istore_n (lv' := [(2, .int (nI 0)), (0, .ref (a 0)), (1, .ref (r (3 + i)))]) hx hb dX6_saysOf_1 rfl hl (by decide) rfl (fun ls hl => ?_)
  refine lv_iconst (v := nI 0) hx hb dX6_saysOf_2 (by decide) ?_
  refine lv_istore_n (lv' := [(3, .int (nI 0)), (2, .int (nI 0)), (0, .ref (a 0)), (1, .ref (r (3 + i)))]) hx hb dX6_saysOf_3 rfl hl (by decide) rfl (fun ls hl => ?_)
  have K_1 : ∀ n9 : Nat, ∀ (x : Nat) (v : Nat), v ≤ 4 → x = sys (sly b q.2.2.2.1 i q.2.2.2.2 q.2.1) v → 4 - v < n9 → ∀ ls : Array Slot, lv_has ls 4 [(0, .ref (a 0)), (1, .ref (r (3 + i))), (2, .int (nI x)), (3, .int (nI v))] → W p l e (headSpec (wA yX6_saysOf cX6_saysOf 4 (some .int)) ({ frames := 3, cells := 0, slots := 0, locals := 75 })).room s m args below meth c s.heap [] 0 0 (MQ below (vp_Si (fun z9 => z9 = nI (sys (sly b q.2.2.2.1 i q.2.2.2.2 q.2.1) 4))) args s 0 0 (fun _ => False)) (F0 m 4 ls []) := by
    intro n9
    induction n9 with
    | zero => intros; omega
    | succ n9 ih_2 =>
      intro x v hv hx0 hn9 ls hl
      refine lv_iload_n hx hb dX6_saysOf_4 rfl (lv_at hl 3 rfl) ?_
      refine lv_iconst (v := nI 4) hx hb dX6_saysOf_5 (by decide) ?_
      refine j_icmp_ge (tgt := 30) hx hb dX6_saysOf_6 (by decide) (nI_toInt (by omega)) (nI_toInt (by decide)) (fun c_3 => ?_) (fun c_3 => ?_)
      · refine lv_iload_n hx hb dX6_saysOf_30 rfl (lv_at hl 2 rfl) ?_
        exact ro_iret hx hb hr hlocks (by rw [hx0, show v = 4 by omega]) dX6_saysOf_31
      · refine lv_aload_n hx hb dX6_saysOf_9 rfl (lv_at hl 0 rfl) ?_
        refine lv_aload_n hx hb dX6_saysOf_10 rfl (lv_at hl 1 rfl) ?_
        refine lv_iload_n hx hb dX6_saysOf_11 rfl (lv_at hl 3 rfl) ?_
        refine ro_iV (n := 2) (As := [.ref (r (3 + i)), .int (nI v)]) ⟨hx, hb, hml, hown, hts⟩ (c_X6_slipsOf l D a r k cI cT cN xh xi xr pn pc rd B L q kq b hS hok9 hT i hi v (by omega)) (cwV 2 hts (gV mg_316 mg_318 mg_1007 mg_1 mg_319) rfl rfl rfl vd_X6_slipsOf ⟨Nat.le_of_ble_eq_true rfl, Nat.le_of_ble_eq_true rfl⟩) (va_recv hK hP (ci := 6) (q0 := 0) rfl rfl) hK hP rfl hl.1 rfl (Nat.le_of_ble_eq_true rfl) dX6_saysOf_12 ⟨Nat.zero_le _, Nat.zero_le _⟩ ?_
        have hs9 : (sly b q.2.2.2.1 i q.2.2.2.2 q.2.1) v ≤ q.2.1 := slp_le _ _ _ _ _ _
        refine j_if_ne (tgt := 24) hx hb dX6_saysOf_15 (by decide) (nI_toInt (by omega)) (fun c_4 => ?_) (fun c_4 => ?_)
        · refine lv_iinc (v := nI (v + 1)) (lv' := [(3, .int (nI (v + 1))), (0, .ref (a 0)), (1, .ref (r (3 + i))), (2, .int (nI x))]) hx hb dX6_saysOf_24 hl (k := 3) rfl (fr_inc1 _) (by decide) rfl (fun ls hl => ?_)
          refine lv_goto (tgt := 4) hx hb dX6_saysOf_27 (by decide) ?_
          exact ih_2 x (v + 1) (by omega) (by first | (rw [hx0]; exact sys_t (by omega)) | (rw [hx0]; exact sys_f (by omega))) (by omega) _ (lv_sub hl [1, 2, 3, 0] rfl)
        · refine lv_iload_n hx hb dX6_saysOf_18 rfl (lv_at hl 2 rfl) ?_
          refine lv_iconst (v := nI 1) hx hb dX6_saysOf_19 (by decide) ?_
          refine lv_iload_n hx hb dX6_saysOf_20 rfl (lv_at hl 3 rfl) ?_
          refine n_ishl hx hb dX6_saysOf_21 (by omega) (by rcases (show v = 0 ∨ v = 1 ∨ v = 2 ∨ v = 3 by omega) with rfl | rfl | rfl | rfl <;> decide) ?_
          refine n_ior hx hb dX6_saysOf_22 ?_
          refine lv_istore_n (lv' := [(2, .int (nI (x ||| (1 * 2 ^ v)))), (0, .ref (a 0)), (1, .ref (r (3 + i))), (3, .int (nI v))]) hx hb dX6_saysOf_23 rfl hl (by decide) rfl (fun ls hl => ?_)
          refine lv_iinc (v := nI (v + 1)) (lv' := [(3, .int (nI (v + 1))), (2, .int (nI (x ||| (1 * 2 ^ v)))), (0, .ref (a 0)), (1, .ref (r (3 + i)))]) hx hb dX6_saysOf_24 hl (k := 3) rfl (fr_inc1 _) (by decide) rfl (fun ls hl => ?_)
          refine lv_goto (tgt := 4) hx hb dX6_saysOf_27 (by decide) ?_
          exact ih_2 (x ||| (1 * 2 ^ v)) (v + 1) (by omega) (by first | (rw [hx0]; exact sys_t (by omega)) | (rw [hx0]; exact sys_f (by omega))) (by omega) _ (lv_sub hl [2, 3, 1, 0] rfl)
  exact K_1 (4 - 0 + 1) 0 0 (by omega) (rfl) (Nat.lt_succ_self _) _ (lv_sub hl [2, 3, 1, 0] rfl)

set_option maxHeartbeats 4000000 in
set_option maxRecDepth 100000 in
theorem c_X6_likelyOf (l : Launch) (D : va_G) (a r k : Nat → Nat) (cI cT cN : ClassId) (xh xi xr pn : Nat) (pc : Nat → Int32) (rd : Nat × Nat × Nat) (B L : Nat → Int32) (q kq : RS) (b : Nat → Nat → Nat) (hS : SR b B L) (hok9 : hok b) (hT : Tok q) (i : Nat) (hi : i < q.1) : ROi l yX6_likelyOf (wA yX6_likelyOf cX6_likelyOf 4 (some .int)) ({ frames := 3, cells := 0, slots := 0, locals := 75 }) D (cTys cI cT cN) (cW a r k cI cT cN xh xi xr pn pc rd B L q kq) [.ref (a 0), .ref (r (3 + i))] (nI (lky (sly b q.2.2.2.1 i q.2.2.2.2 q.2.1) 3)) := by
  refine go_start (by decide) (Nat.le_of_ble_eq_true rfl) ?_
  intro p e s m args below meth c ls F _ hB hl
  obtain ⟨hx, hb, hr, hlocks, hml, hown, hts⟩ := F
  obtain ⟨hP, hK⟩ := hB
  have hown : s.vm.findClass RX6 = some m.cls := hown
  have hl : lv_has ls 4 [(0, .ref (a 0)), (1, .ref (r (3 + i)))] := hl
  have ht5 := hT.1
  have ht8 := hT.2.1
  obtain ⟨hk0, hv0, hw0, hp0⟩ := hT.2.2.1 i hi
  refine lv_iconst (v := nI 0) hx hb dX6_likelyOf_0 (by decide) ?_
  refine lv_istore_n (lv' := [(2, .int (nI 0)), (0, .ref (a 0)), (1, .ref (r (3 + i)))]) hx hb dX6_likelyOf_1 rfl hl (by decide) rfl (fun ls hl => ?_)
  refine lv_iconst (v := nI 1) hx hb dX6_likelyOf_2 (by decide) ?_
  refine lv_istore_n (lv' := [(3, .int (nI 1)), (2, .int (nI 0)), (0, .ref (a 0)), (1, .ref (r (3 + i)))]) hx hb dX6_likelyOf_3 rfl hl (by decide) rfl (fun ls hl => ?_)
  have K_1 : ∀ n9 : Nat, ∀ (x : Nat) (v : Nat), v ≤ 3 → x = lky (sly b q.2.2.2.1 i q.2.2.2.2 q.2.1) v → 3 - v < n9 → ∀ ls : Array Slot, lv_has ls 4 [(0, .ref (a 0)), (1, .ref (r (3 + i))), (2, .int (nI x)), (3, .int (nI (v + 1)))] → W p l e (headSpec (wA yX6_likelyOf cX6_likelyOf 4 (some .int)) ({ frames := 3, cells := 0, slots := 0, locals := 75 })).room s m args below meth c s.heap [] 0 0 (MQ below (vp_Si (fun z9 => z9 = nI (lky (sly b q.2.2.2.1 i q.2.2.2.2 q.2.1) 3))) args s 0 0 (fun _ => False)) (F0 m 4 ls []) := by
    intro n9
    induction n9 with
    | zero => intros; omega
    | succ n9 ih_2 =>
      intro x v hv hx0 hn9 ls hl
      refine lv_iload_n hx hb dX6_likelyOf_4 rfl (lv_at hl 3 rfl) ?_
      refine lv_iconst (v := nI 4) hx hb dX6_likelyOf_5 (by decide) ?_
      refine j_icmp_ge (tgt := 32) hx hb dX6_likelyOf_6 (by decide) (nI_toInt (by omega)) (nI_toInt (by decide)) (fun c_3 => ?_) (fun c_3 => ?_)
      · refine lv_iload_n hx hb dX6_likelyOf_32 rfl (lv_at hl 2 rfl) ?_
        exact ro_iret hx hb hr hlocks (by rw [hx0, show v = 3 by omega]) dX6_likelyOf_33
      · have hxl : x ≤ v := by rw [hx0]; exact lky_le _ _
        refine lv_aload_n hx hb dX6_likelyOf_9 rfl (lv_at hl 0 rfl) ?_
        refine lv_aload_n hx hb dX6_likelyOf_10 rfl (lv_at hl 1 rfl) ?_
        refine lv_iload_n hx hb dX6_likelyOf_11 rfl (lv_at hl 3 rfl) ?_
        refine ro_iV (n := 2) (As := [.ref (r (3 + i)), .int (nI (v + 1))]) ⟨hx, hb, hml, hown, hts⟩ (c_X6_slipsOf l D a r k cI cT cN xh xi xr pn pc rd B L q kq b hS hok9 hT i hi (v + 1) (by omega)) (cwV 2 hts (gV mg_316 mg_318 mg_1007 mg_1 mg_319) rfl rfl rfl vd_X6_slipsOf ⟨Nat.le_of_ble_eq_true rfl, Nat.le_of_ble_eq_true rfl⟩) (va_recv hK hP (ci := 6) (q0 := 0) rfl rfl) hK hP rfl hl.1 rfl (Nat.le_of_ble_eq_true rfl) dX6_likelyOf_12 ⟨Nat.zero_le _, Nat.zero_le _⟩ ?_
        have hs9 : (sly b q.2.2.2.1 i q.2.2.2.2 q.2.1) (v + 1) ≤ q.2.1 := slp_le _ _ _ _ _ _
        refine lv_aload_n hx hb dX6_likelyOf_15 rfl (lv_at hl 0 rfl) ?_
        refine lv_aload_n hx hb dX6_likelyOf_16 rfl (lv_at hl 1 rfl) ?_
        refine lv_iload_n hx hb dX6_likelyOf_17 rfl (lv_at hl 2 rfl) ?_
        refine ro_iV (n := 2) (As := [.ref (r (3 + i)), .int (nI x)]) ⟨hx, hb, hml, hown, hts⟩ (c_X6_slipsOf l D a r k cI cT cN xh xi xr pn pc rd B L q kq b hS hok9 hT i hi x (by omega)) (cwV 2 hts (gV mg_316 mg_318 mg_1007 mg_1 mg_319) rfl rfl rfl vd_X6_slipsOf ⟨Nat.le_of_ble_eq_true rfl, Nat.le_of_ble_eq_true rfl⟩) (va_recv hK hP (ci := 6) (q0 := 0) rfl rfl) hK hP rfl hl.1 rfl (Nat.le_of_ble_eq_true rfl) dX6_likelyOf_18 ⟨Nat.zero_le _, Nat.zero_le _⟩ ?_
        have hs8 : (sly b q.2.2.2.1 i q.2.2.2.2 q.2.1) x ≤ q.2.1 := slp_le _ _ _ _ _ _
        refine j_icmp_ge (tgt := 26) hx hb dX6_likelyOf_21 (by decide) (nI_toInt (by omega)) (nI_toInt (by omega)) (fun c_4 => ?_) (fun c_4 => ?_)
        · refine lv_iinc (v := nI (v + 1 + 1)) (lv' := [(3, .int (nI (v + 1 + 1))), (0, .ref (a 0)), (1, .ref (r (3 + i))), (2, .int (nI x))]) hx hb dX6_likelyOf_26 hl (k := 3) rfl (fr_inc1 _) (by decide) rfl (fun ls hl => ?_)
          refine lv_goto (tgt := 4) hx hb dX6_likelyOf_29 (by decide) ?_
          exact ih_2 x (v + 1) (by omega) (by first | exact lky_t hx0 (by omega) | exact lky_f hx0 (by omega)) (by omega) _ (lv_sub hl [1, 2, 3, 0] rfl)
        · refine lv_iload_n hx hb dX6_likelyOf_24 rfl (lv_at hl 3 rfl) ?_
          refine lv_istore_n (lv' := [(2, .int (nI (v + 1))), (0, .ref (a 0)), (1, .ref (r (3 + i))), (3, .int (nI (v + 1)))]) hx hb dX6_likelyOf_25 rfl hl (by decide) rfl (fun ls hl => ?_)
          refine lv_iinc (v := nI (v + 1 + 1)) (lv' := [(3, .int (nI (v + 1 + 1))), (2, .int (nI (v + 1))), (0, .ref (a 0)), (1, .ref (r (3 + i)))]) hx hb dX6_likelyOf_26 hl (k := 3) rfl (fr_inc1 _) (by decide) rfl (fun ls hl => ?_)
          refine lv_goto (tgt := 4) hx hb dX6_likelyOf_29 (by decide) ?_
          exact ih_2 (v + 1) (v + 1) (by omega) (by first | exact lky_t hx0 (by omega) | exact lky_f hx0 (by omega)) (by omega) _ (lv_sub hl [2, 3, 1, 0] rfl)
  exact K_1 (3 - 0 + 1) 0 0 (by omega) (rfl) (Nat.lt_succ_self _) _ (lv_sub hl [2, 3, 1, 0] rfl)

set_option maxHeartbeats 4000000 in
set_option maxRecDepth 100000 in
theorem c_X6_leftAtWorst (l : Launch) (D : va_G) (a r k : Nat → Nat) (cI cT cN : ClassId) (xh xi xr pn : Nat) (pc : Nat → Int32) (rd : Nat × Nat × Nat) (B L : Nat → Int32) (q kq : RS) (b : Nat → Nat → Nat) (hS : SR b B L) (hok9 : hok b) (hT : Tok q) (i : Nat) (hi : i < q.1) (bits n : Nat) (hb16 : bits < 16) (hn : n < 16) : ROi l yX6_leftAtWorst (wA yX6_leftAtWorst cX6_leftAtWorst 7 (some .int)) ({ frames := 2, cells := 0, slots := 0, locals := 50 }) D (cTys cI cT cN) (cW a r k cI cT cN xh xi xr pn pc rd B L q kq) [.ref (a 0), .ref (r (3 + i)), .int (nI bits), .int (nI n)] (nI (lw b q.2.2.2.1 i bits n)) := by
  refine go_start (by decide) (Nat.le_of_ble_eq_true rfl) ?_
  intro p e s m args below meth c ls F _ hB hl
  obtain ⟨hx, hb, hr, hlocks, hml, hown, hts⟩ := F
  obtain ⟨hP, hK⟩ := hB
  have hown : s.vm.findClass RX6 = some m.cls := hown
  have hl : lv_has ls 7 [(0, .ref (a 0)), (1, .ref (r (3 + i))), (2, .int (nI bits)), (3, .int (nI n))] := hl
  have ht5 := hT.1
  have ht8 := hT.2.1
  obtain ⟨hk0, hv0, hw0, hp0⟩ := hT.2.2.1 i hi
  refine lv_iconst (v := nI 0) hx hb dX6_leftAtWorst_0 (by decide) ?_
  refine lv_istore (lv' := [(4, .int (nI 0)), (0, .ref (a 0)), (1, .ref (r (3 + i))), (2, .int (nI bits)), (3, .int (nI n))]) hx hb dX6_leftAtWorst_1 hl (by decide) rfl (fun ls hl => ?_)
  refine lv_iconst (v := nI 0) hx hb dX6_leftAtWorst_3 (by decide) ?_
  refine lv_istore (lv' := [(5, .int (nI 0)), (4, .int (nI 0)), (0, .ref (a 0)), (1, .ref (r (3 + i))), (2, .int (nI bits)), (3, .int (nI n))]) hx hb dX6_leftAtWorst_4 hl (by decide) rfl (fun ls hl => ?_)
  refine lv_iconst (v := nI 0) hx hb dX6_leftAtWorst_6 (by decide) ?_
  refine lv_istore (lv' := [(6, .int (nI 0)), (5, .int (nI 0)), (4, .int (nI 0)), (0, .ref (a 0)), (1, .ref (r (3 + i))), (2, .int (nI bits)), (3, .int (nI n))]) hx hb dX6_leftAtWorst_7 hl (by decide) rfl (fun ls hl => ?_)
  have K_1 : ∀ n9 : Nat, ∀ (x : Nat) (y : Nat) (v : Nat), v ≤ 4 → x = cnt (shf b q.2.2.2.1 i bits n) v → y = cnt (lgf b q.2.2.2.1 i bits n) v → 4 - v < n9 → ∀ ls : Array Slot, lv_has ls 7 [(0, .ref (a 0)), (1, .ref (r (3 + i))), (2, .int (nI bits)), (3, .int (nI n)), (4, .int (nI x)), (5, .int (nI y)), (6, .int (nI v))] → W p l e (headSpec (wA yX6_leftAtWorst cX6_leftAtWorst 7 (some .int)) ({ frames := 2, cells := 0, slots := 0, locals := 50 })).room s m args below meth c s.heap [] 0 0 (MQ below (vp_Si (fun z9 => z9 = nI (lw b q.2.2.2.1 i bits n))) args s 0 0 (fun _ => False)) (F0 m 9 ls []) := by
    intro n9
    induction n9 with
    | zero => intros; omega
    | succ n9 ih_2 =>
      intro x y v hv hx0 hy0 hn9 ls hl
      have hxl := cnt_le (shf b q.2.2.2.1 i bits n) v
      have hyl := cnt_le (lgf b q.2.2.2.1 i bits n) v
      refine lv_iload hx hb dX6_leftAtWorst_9 (lv_at hl 6 rfl) ?_
      refine lv_iconst (v := nI 4) hx hb dX6_leftAtWorst_11 (by decide) ?_
      refine j_icmp_ge (tgt := 69) hx hb dX6_leftAtWorst_12 (by decide) (nI_toInt (by omega)) (nI_toInt (by decide)) (fun c_3 => ?_) (fun c_3 => ?_)
      · have e9 : v = 4 := by omega
        subst e9
        refine lv_iload hx hb dX6_leftAtWorst_69 (lv_at hl 4 rfl) ?_
        refine lv_iload hx hb dX6_leftAtWorst_71 (lv_at hl 5 rfl) ?_
        refine va_mmax hx hb (hml.trans hl.1.symm) hown (hts _ mg_309) (hts _ mg_310) (hts _ mg_9) (hts _ mg_311) (Nat.le_of_ble_eq_true rfl) (Nat.le_of_ble_eq_true rfl) (Nat.zero_le _) (Nat.zero_le _) dX6_leftAtWorst_73 ?_
        refine n_top (n_max (by omega) (by omega)) ?_
        exact ro_iret hx hb hr hlocks (by rw [hx0, hy0]; rfl) dX6_leftAtWorst_76
      · refine lv_iload_n hx hb dX6_leftAtWorst_15 rfl (lv_at hl 2 rfl) ?_
        refine lv_iload hx hb dX6_leftAtWorst_16 (lv_at hl 6 rfl) ?_
        refine n_ishr hx hb dX6_leftAtWorst_18 (by omega) (by omega) ?_
        refine lv_iconst (v := nI 1) hx hb dX6_leftAtWorst_19 (by decide) ?_
        refine n_iand1 hx hb dX6_leftAtWorst_20 (Nat.lt_of_le_of_lt (Nat.div_le_self _ _) (by omega)) ?_
        refine j_if_ne (tgt := 27) hx hb dX6_leftAtWorst_21 (by decide) (nI_toInt (by omega)) (fun c_4 => ?_) (fun c_4 => ?_)
        · refine lv_aload_n hx hb dX6_leftAtWorst_27 rfl (lv_at hl 0 rfl) ?_
          refine va_get (D := D) (ci := 6) (v := .ref (a 4)) (C := RX6) (T := TX6) (N := 7) hx hb hts iX6 hown hK hP 0 rfl rfl 1 (by decide) (hts _ mg_152) (fun _ h9 => h9) rfl dX6_leftAtWorst_28 ?_
          refine lv_aload_n hx hb dX6_leftAtWorst_31 rfl (lv_at hl 1 rfl) ?_
          refine va_get (D := D) (ci := 5) (v := .int (nI (q.2.2.2.1 i 0))) (C := RX5) (T := TX5) (N := 5) hx hb hts iX5 hown hK hP (10 + i) (cW_tap (by omega)) rfl 1 (by decide) (hts _ mg_83) (fun _ h9 => h9) rfl dX6_leftAtWorst_32 ?_
          refine lv_iload hx hb dX6_leftAtWorst_35 (lv_at hl 6 rfl) ?_
          refine lv_aload_n hx hb dX6_leftAtWorst_37 rfl (lv_at hl 1 rfl) ?_
          refine va_get (D := D) (ci := 5) (v := .int (nI (q.2.2.2.1 i 2))) (C := RX5) (T := TX5) (N := 5) hx hb hts iX5 hown hK hP (10 + i) (cW_tap (by omega)) rfl 3 (by decide) (hts _ mg_89) (fun _ h9 => h9) rfl dX6_leftAtWorst_38 ?_
          refine lv_aload_n hx hb dX6_leftAtWorst_41 rfl (lv_at hl 1 rfl) ?_
          refine va_get (D := D) (ci := 5) (v := .int (nI (q.2.2.2.1 i 3))) (C := RX5) (T := TX5) (N := 5) hx hb hts iX5 hown hK hP (10 + i) (cW_tap (by omega)) rfl 4 (by decide) (hts _ mg_92) (fun _ h9 => h9) rfl dX6_leftAtWorst_42 ?_
          refine lv_iload_n hx hb dX6_leftAtWorst_45 rfl (lv_at hl 3 rfl) ?_
          refine n_iadd hx hb dX6_leftAtWorst_46 ?_
          refine ro_iV (n := 4) (As := [.int (nI (q.2.2.2.1 i 0)), .int (nI v), .int (nI (q.2.2.2.1 i 2)), .int (nI ((q.2.2.2.1 i 3) + n))]) ⟨hx, hb, hml, hown, hts⟩ (c_X4_dripBy l D a cI cT cN B L b hS hok9 (q.2.2.2.1 i 0) v (q.2.2.2.1 i 2) ((q.2.2.2.1 i 3) + n) (by omega) (by omega) (by omega) (by omega)) (cwV 4 hts (gV mg_303 mg_304 mg_305 mg_4 mg_306) rfl rfl rfl vd_X4_dripBy ⟨Nat.le_of_ble_eq_true rfl, Nat.le_of_ble_eq_true rfl⟩) (va_recv hK hP (ci := 4) (q0 := 4) rfl rfl) hK (cW_s hP) rfl hl.1 rfl (Nat.le_of_ble_eq_true rfl) dX6_leftAtWorst_47 ⟨Nat.zero_le _, Nat.zero_le _⟩ ?_
          have hd1 := sd_le hok9 (kd := q.2.2.2.1 i 0) (w := q.2.2.2.1 i 2) (n := q.2.2.2.1 i 3 + n) (v := v) (by omega)
          refine lv_iconst (v := nI 1) hx hb dX6_leftAtWorst_50 (by decide) ?_
          refine j_icmp_ne (tgt := 60) hx hb dX6_leftAtWorst_51 (by decide) (nI_toInt (by omega)) (nI_toInt (by decide)) (fun c_5 => ?_) (fun c_5 => ?_)
          · have hl0 : (lgf b q.2.2.2.1 i bits n) v = false := decide_eq_false (by unfold dpl; omega)
            have hs0 : (shf b q.2.2.2.1 i bits n) v = true := decide_eq_true (by unfold dpl; omega)
            refine lv_iinc (v := nI (x + 1)) (lv' := [(4, .int (nI (x + 1))), (0, .ref (a 0)), (1, .ref (r (3 + i))), (2, .int (nI bits)), (3, .int (nI n)), (5, .int (nI y)), (6, .int (nI v))]) hx hb dX6_leftAtWorst_60 hl (k := 4) rfl (fr_inc1 _) (by decide) rfl (fun ls hl => ?_)
            refine lv_iinc (v := nI (v + 1)) (lv' := [(6, .int (nI (v + 1))), (4, .int (nI (x + 1))), (0, .ref (a 0)), (1, .ref (r (3 + i))), (2, .int (nI bits)), (3, .int (nI n)), (5, .int (nI y))]) hx hb dX6_leftAtWorst_63 hl (k := 6) rfl (fr_inc1 _) (by decide) rfl (fun ls hl => ?_)
            refine lv_goto (tgt := 9) hx hb dX6_leftAtWorst_66 (by decide) ?_
            exact ih_2 (x + 1) y (v + 1) (by omega) (by first | (rw [cnt_t hs0, hx0]; done) | (rw [cnt_f hs0, hx0]; done)) (by first | (rw [cnt_t hl0, hy0]; done) | (rw [cnt_f hl0, hy0]; done)) (by omega) _ (lv_sub hl [2, 3, 4, 5, 1, 6, 0] rfl)
          · have hl0 : (lgf b q.2.2.2.1 i bits n) v = true := decide_eq_true (by unfold dpl; omega)
            have hs0 : (shf b q.2.2.2.1 i bits n) v = false := decide_eq_false (by unfold dpl; omega)
            refine lv_iinc (v := nI (y + 1)) (lv' := [(5, .int (nI (y + 1))), (0, .ref (a 0)), (1, .ref (r (3 + i))), (2, .int (nI bits)), (3, .int (nI n)), (4, .int (nI x)), (6, .int (nI v))]) hx hb dX6_leftAtWorst_54 hl (k := 5) rfl (fr_inc1 _) (by decide) rfl (fun ls hl => ?_)
            refine lv_goto (tgt := 63) hx hb dX6_leftAtWorst_57 (by decide) ?_
            refine lv_iinc (v := nI (v + 1)) (lv' := [(6, .int (nI (v + 1))), (5, .int (nI (y + 1))), (0, .ref (a 0)), (1, .ref (r (3 + i))), (2, .int (nI bits)), (3, .int (nI n)), (4, .int (nI x))]) hx hb dX6_leftAtWorst_63 hl (k := 6) rfl (fr_inc1 _) (by decide) rfl (fun ls hl => ?_)
            refine lv_goto (tgt := 9) hx hb dX6_leftAtWorst_66 (by decide) ?_
            exact ih_2 x (y + 1) (v + 1) (by omega) (by first | (rw [cnt_t hs0, hx0]; done) | (rw [cnt_f hs0, hx0]; done)) (by first | (rw [cnt_t hl0, hy0]; done) | (rw [cnt_f hl0, hy0]; done)) (by omega) _ (lv_sub hl [2, 3, 4, 5, 6, 1, 0] rfl)
        · have hl0 : (lgf b q.2.2.2.1 i bits n) v = false := decide_eq_false (fun z => by omega)
          have hs0 : (shf b q.2.2.2.1 i bits n) v = false := decide_eq_false (fun z => by omega)
          refine lv_goto (tgt := 63) hx hb dX6_leftAtWorst_24 (by decide) ?_
          refine lv_iinc (v := nI (v + 1)) (lv' := [(6, .int (nI (v + 1))), (0, .ref (a 0)), (1, .ref (r (3 + i))), (2, .int (nI bits)), (3, .int (nI n)), (4, .int (nI x)), (5, .int (nI y))]) hx hb dX6_leftAtWorst_63 hl (k := 6) rfl (fr_inc1 _) (by decide) rfl (fun ls hl => ?_)
          refine lv_goto (tgt := 9) hx hb dX6_leftAtWorst_66 (by decide) ?_
          exact ih_2 x y (v + 1) (by omega) (by first | (rw [cnt_t hs0, hx0]; done) | (rw [cnt_f hs0, hx0]; done)) (by first | (rw [cnt_t hl0, hy0]; done) | (rw [cnt_f hl0, hy0]; done)) (by omega) _ (lv_sub hl [1, 2, 3, 4, 5, 6, 0] rfl)
  exact K_1 (4 - 0 + 1) 0 0 0 (by omega) (rfl) (rfl) (Nat.lt_succ_self _) _ (lv_sub hl [3, 4, 5, 6, 2, 1, 0] rfl)

set_option maxHeartbeats 4000000 in
set_option maxRecDepth 100000 in
theorem c_X6_bestToHear (l : Launch) (D : va_G) (a r k : Nat → Nat) (cI cT cN : ClassId) (xh xi xr pn : Nat) (pc : Nat → Int32) (rd : Nat × Nat × Nat) (B L : Nat → Int32) (q kq : RS) (b : Nat → Nat → Nat) (hS : SR b B L) (hok9 : hok b) (hT : Tok q) (i : Nat) (hi : i < q.1) (bits : Nat) (hb16 : bits < 16) : ROi l yX6_bestToHear (wA yX6_bestToHear cX6_bestToHear 5 (some .int)) ({ frames := 3, cells := 0, slots := 0, locals := 76 }) D (cTys cI cT cN) (cW a r k cI cT cN xh xi xr pn pc rd B L q kq) [.ref (a 0), .ref (r (3 + i)), .int (nI bits)] (bth b q.2.2.2.1 i bits) := by
  refine go_start (by decide) (Nat.le_of_ble_eq_true rfl) ?_
  intro p e s m args below meth c ls F _ hB hl
  obtain ⟨hx, hb, hr, hlocks, hml, hown, hts⟩ := F
  obtain ⟨hP, hK⟩ := hB
  have hown : s.vm.findClass RX6 = some m.cls := hown
  have hl : lv_has ls 5 [(0, .ref (a 0)), (1, .ref (r (3 + i))), (2, .int (nI bits))] := hl
  have ht5 := hT.1
  have ht8 := hT.2.1
  obtain ⟨hk0, hv0, hw0, hp0⟩ := hT.2.2.1 i hi
  refine lv_iload_n hx hb dX6_bestToHear_0 rfl (lv_at hl 2 rfl) ?_
  refine j_if_ne (tgt := 6) hx hb dX6_bestToHear_1 (by decide) (nI_toInt (by omega)) (fun c_1 => ?_) (fun c_1 => ?_)
  · refine lv_iconst (v := nI 0) hx hb dX6_bestToHear_6 (by decide) ?_
    refine lv_istore_n (lv' := [(3, .int (nI 0)), (0, .ref (a 0)), (1, .ref (r (3 + i))), (2, .int (nI bits))]) hx hb dX6_bestToHear_7 rfl hl (by decide) rfl (fun ls hl => ?_)
    refine lv_iconst (v := nI 1) hx hb dX6_bestToHear_8 (by decide) ?_
    refine lv_istore (lv' := [(4, .int (nI 1)), (3, .int (nI 0)), (0, .ref (a 0)), (1, .ref (r (3 + i))), (2, .int (nI bits))]) hx hb dX6_bestToHear_9 hl (by decide) rfl (fun ls hl => ?_)
    have K_2 : ∀ n9 : Nat, ∀ (x : Nat) (v : Nat), v ≤ 7 → x = lky (lw b q.2.2.2.1 i bits) v → 7 - v < n9 → ∀ ls : Array Slot, lv_has ls 5 [(0, .ref (a 0)), (1, .ref (r (3 + i))), (2, .int (nI bits)), (3, .int (nI x)), (4, .int (nI (v + 1)))] → W p l e (headSpec (wA yX6_bestToHear cX6_bestToHear 5 (some .int)) ({ frames := 3, cells := 0, slots := 0, locals := 76 })).room s m args below meth c s.heap [] 0 0 (MQ below (vp_Si (fun z9 => z9 = bth b q.2.2.2.1 i bits)) args s 0 0 (fun _ => False)) (F0 m 11 ls []) := by
      intro n9
      induction n9 with
      | zero => intros; omega
      | succ n9 ih_3 =>
        intro x v hv hx0 hn9 ls hl
        refine lv_iload hx hb dX6_bestToHear_11 (lv_at hl 4 rfl) ?_
        refine lv_bipush (v := nI 8) hx hb dX6_bestToHear_13 (by decide) ?_
        refine j_icmp_ge (tgt := 45) hx hb dX6_bestToHear_15 (by decide) (nI_toInt (by omega)) (nI_toInt (by decide)) (fun c_4 => ?_) (fun c_4 => ?_)
        · refine lv_iload_n hx hb dX6_bestToHear_45 rfl (lv_at hl 3 rfl) ?_
          exact ro_iret hx hb hr hlocks (by rw [bth, if_neg (by omega), hx0, show v = 7 by omega]) dX6_bestToHear_46
        · have hxl : x ≤ v := by rw [hx0]; exact lky_le _ _
          refine lv_aload_n hx hb dX6_bestToHear_18 rfl (lv_at hl 0 rfl) ?_
          refine lv_aload_n hx hb dX6_bestToHear_19 rfl (lv_at hl 1 rfl) ?_
          refine lv_iload_n hx hb dX6_bestToHear_20 rfl (lv_at hl 2 rfl) ?_
          refine lv_iload hx hb dX6_bestToHear_21 (lv_at hl 4 rfl) ?_
          refine ro_iV (n := 3) (As := [.ref (r (3 + i)), .int (nI bits), .int (nI (v + 1))]) ⟨hx, hb, hml, hown, hts⟩ (c_X6_leftAtWorst l D a r k cI cT cN xh xi xr pn pc rd B L q kq b hS hok9 hT i hi bits (v + 1) hb16 (by omega)) (cwV 3 hts (gV mg_332 mg_334 mg_1010 mg_1 mg_335) rfl rfl rfl vd_X6_leftAtWorst ⟨Nat.le_of_ble_eq_true rfl, Nat.le_of_ble_eq_true rfl⟩) (va_recv hK hP (ci := 6) (q0 := 0) rfl rfl) hK hP rfl hl.1 rfl (Nat.le_of_ble_eq_true rfl) dX6_bestToHear_23 ⟨Nat.zero_le _, Nat.zero_le _⟩ ?_
          have hs9 := lw_le b q.2.2.2.1 i bits (v + 1)
          refine lv_aload_n hx hb dX6_bestToHear_26 rfl (lv_at hl 0 rfl) ?_
          refine lv_aload_n hx hb dX6_bestToHear_27 rfl (lv_at hl 1 rfl) ?_
          refine lv_iload_n hx hb dX6_bestToHear_28 rfl (lv_at hl 2 rfl) ?_
          refine lv_iload_n hx hb dX6_bestToHear_29 rfl (lv_at hl 3 rfl) ?_
          refine ro_iV (n := 3) (As := [.ref (r (3 + i)), .int (nI bits), .int (nI x)]) ⟨hx, hb, hml, hown, hts⟩ (c_X6_leftAtWorst l D a r k cI cT cN xh xi xr pn pc rd B L q kq b hS hok9 hT i hi bits x hb16 (by omega)) (cwV 3 hts (gV mg_332 mg_334 mg_1010 mg_1 mg_335) rfl rfl rfl vd_X6_leftAtWorst ⟨Nat.le_of_ble_eq_true rfl, Nat.le_of_ble_eq_true rfl⟩) (va_recv hK hP (ci := 6) (q0 := 0) rfl rfl) hK hP rfl hl.1 rfl (Nat.le_of_ble_eq_true rfl) dX6_bestToHear_30 ⟨Nat.zero_le _, Nat.zero_le _⟩ ?_
          have hs8 := lw_le b q.2.2.2.1 i bits x
          refine j_icmp_ge (tgt := 39) hx hb dX6_bestToHear_33 (by decide) (nI_toInt (by omega)) (nI_toInt (by omega)) (fun c_5 => ?_) (fun c_5 => ?_)
          · refine lv_iinc (v := nI (v + 1 + 1)) (lv' := [(4, .int (nI (v + 1 + 1))), (0, .ref (a 0)), (1, .ref (r (3 + i))), (2, .int (nI bits)), (3, .int (nI x))]) hx hb dX6_bestToHear_39 hl (k := 4) rfl (fr_inc1 _) (by decide) rfl (fun ls hl => ?_)
            refine lv_goto (tgt := 11) hx hb dX6_bestToHear_42 (by decide) ?_
            exact ih_3 x (v + 1) (by omega) (by first | exact lky_t hx0 (by omega) | exact lky_f hx0 (by omega)) (by omega) _ (lv_sub hl [1, 2, 3, 4, 0] rfl)
          · refine lv_iload hx hb dX6_bestToHear_36 (lv_at hl 4 rfl) ?_
            refine lv_istore_n (lv' := [(3, .int (nI (v + 1))), (0, .ref (a 0)), (1, .ref (r (3 + i))), (2, .int (nI bits)), (4, .int (nI (v + 1)))]) hx hb dX6_bestToHear_38 rfl hl (by decide) rfl (fun ls hl => ?_)
            refine lv_iinc (v := nI (v + 1 + 1)) (lv' := [(4, .int (nI (v + 1 + 1))), (3, .int (nI (v + 1))), (0, .ref (a 0)), (1, .ref (r (3 + i))), (2, .int (nI bits))]) hx hb dX6_bestToHear_39 hl (k := 4) rfl (fr_inc1 _) (by decide) rfl (fun ls hl => ?_)
            refine lv_goto (tgt := 11) hx hb dX6_bestToHear_42 (by decide) ?_
            exact ih_3 (v + 1) (v + 1) (by omega) (by first | exact lky_t hx0 (by omega) | exact lky_f hx0 (by omega)) (by omega) _ (lv_sub hl [2, 3, 4, 1, 0] rfl)
    exact K_2 (7 - 0 + 1) 0 0 (by omega) (rfl) (Nat.lt_succ_self _) _ (lv_sub hl [2, 3, 4, 1, 0] rfl)
  · refine lv_iconst (v := (-1)) hx hb dX6_bestToHear_4 (by decide) ?_
    exact ro_iret hx hb hr hlocks (by rw [bth, if_pos (by omega)]) dX6_bestToHear_5

set_option maxHeartbeats 4000000 in
set_option maxRecDepth 100000 in
theorem c_X6_unlikeOf (l : Launch) (D : va_G) (a r k : Nat → Nat) (cI cT cN : ClassId) (xh xi xr pn : Nat) (pc : Nat → Int32) (rd : Nat × Nat × Nat) (B L : Nat → Int32) (q kq : RS) (b : Nat → Nat → Nat) (hS : SR b B L) (hok9 : hok b) (hT : Tok q) (i : Nat) (hi : i < q.1) (w v2 : Nat) (hw1 : w ≤ 1) (hv2 : v2 < 4) : ROi l yX6_unlikeOf (wA yX6_unlikeOf cX6_unlikeOf 7 (some .int)) ({ frames := 2, cells := 0, slots := 0, locals := 50 }) D (cTys cI cT cN) (cW a r k cI cT cN xh xi xr pn pc rd B L q kq) [.ref (a 0), .ref (r (3 + i)), .int (nI w), .int (nI v2)] (nI (unl b (q.2.2.2.1 i 0) w (q.2.2.2.1 i 1) v2)) := by
  refine go_start (by decide) (Nat.le_of_ble_eq_true rfl) ?_
  intro p e s m args below meth c ls F _ hB hl
  obtain ⟨hx, hb, hr, hlocks, hml, hown, hts⟩ := F
  obtain ⟨hP, hK⟩ := hB
  have hown : s.vm.findClass RX6 = some m.cls := hown
  have hl : lv_has ls 7 [(0, .ref (a 0)), (1, .ref (r (3 + i))), (2, .int (nI w)), (3, .int (nI v2))] := hl
  have ht5 := hT.1
  have ht8 := hT.2.1
  obtain ⟨hk0, hv0, hw0, hp0⟩ := hT.2.2.1 i hi
  refine lv_iconst (v := nI 0) hx hb dX6_unlikeOf_0 (by decide) ?_
  refine lv_istore (lv' := [(4, .int (nI 0)), (0, .ref (a 0)), (1, .ref (r (3 + i))), (2, .int (nI w)), (3, .int (nI v2))]) hx hb dX6_unlikeOf_1 hl (by decide) rfl (fun ls hl => ?_)
  refine lv_iconst (v := nI 0) hx hb dX6_unlikeOf_3 (by decide) ?_
  refine lv_istore (lv' := [(5, .int (nI 0)), (4, .int (nI 0)), (0, .ref (a 0)), (1, .ref (r (3 + i))), (2, .int (nI w)), (3, .int (nI v2))]) hx hb dX6_unlikeOf_4 hl (by decide) rfl (fun ls hl => ?_)
  have K_1 : ∀ n9 : Nat, ∀ (x : Nat) (n : Nat), n ≤ 12 → x = cnt (unf b (q.2.2.2.1 i 0) w (q.2.2.2.1 i 1) v2) n → 12 - n < n9 → ∀ ls : Array Slot, lv_has ls 7 [(0, .ref (a 0)), (1, .ref (r (3 + i))), (2, .int (nI w)), (3, .int (nI v2)), (4, .int (nI x)), (5, .int (nI n))] → W p l e (headSpec (wA yX6_unlikeOf cX6_unlikeOf 7 (some .int)) ({ frames := 2, cells := 0, slots := 0, locals := 50 })).room s m args below meth c s.heap [] 0 0 (MQ below (vp_Si (fun z9 => z9 = nI (unl b (q.2.2.2.1 i 0) w (q.2.2.2.1 i 1) v2))) args s 0 0 (fun _ => False)) (F0 m 6 ls []) := by
    intro n9
    induction n9 with
    | zero => intros; omega
    | succ n9 ih_2 =>
      intro x n hn hx0 hn9 ls hl
      have hxl := cnt_le (unf b (q.2.2.2.1 i 0) w (q.2.2.2.1 i 1) v2) n
      refine lv_iload hx hb dX6_unlikeOf_6 (lv_at hl 5 rfl) ?_
      refine lv_bipush (v := nI 12) hx hb dX6_unlikeOf_8 (by decide) ?_
      refine j_icmp_ge (tgt := 59) hx hb dX6_unlikeOf_10 (by decide) (nI_toInt (by omega)) (nI_toInt (by decide)) (fun c_3 => ?_) (fun c_3 => ?_)
      · have e9 : n = 12 := by omega
        refine lv_iload hx hb dX6_unlikeOf_59 (lv_at hl 4 rfl) ?_
        exact ro_iret hx hb hr hlocks (by rw [hx0, e9]; rfl) dX6_unlikeOf_61
      · refine lv_aload_n hx hb dX6_unlikeOf_13 rfl (lv_at hl 0 rfl) ?_
        refine va_get (D := D) (ci := 6) (v := .ref (a 4)) (C := RX6) (T := TX6) (N := 7) hx hb hts iX6 hown hK hP 0 rfl rfl 1 (by decide) (hts _ mg_152) (fun _ h9 => h9) rfl dX6_unlikeOf_14 ?_
        refine lv_aload_n hx hb dX6_unlikeOf_17 rfl (lv_at hl 1 rfl) ?_
        refine va_get (D := D) (ci := 5) (v := .int (nI (q.2.2.2.1 i 0))) (C := RX5) (T := TX5) (N := 5) hx hb hts iX5 hown hK hP (10 + i) (cW_tap (by omega)) rfl 1 (by decide) (hts _ mg_83) (fun _ h9 => h9) rfl dX6_unlikeOf_18 ?_
        refine lv_aload_n hx hb dX6_unlikeOf_21 rfl (lv_at hl 1 rfl) ?_
        refine va_get (D := D) (ci := 5) (v := .int (nI (q.2.2.2.1 i 1))) (C := RX5) (T := TX5) (N := 5) hx hb hts iX5 hown hK hP (10 + i) (cW_tap (by omega)) rfl 2 (by decide) (hts _ mg_86) (fun _ h9 => h9) rfl dX6_unlikeOf_22 ?_
        refine lv_iload_n hx hb dX6_unlikeOf_25 rfl (lv_at hl 2 rfl) ?_
        refine lv_iload hx hb dX6_unlikeOf_26 (lv_at hl 5 rfl) ?_
        refine ro_iV (n := 4) (As := [.int (nI (q.2.2.2.1 i 0)), .int (nI (q.2.2.2.1 i 1)), .int (nI w), .int (nI n)]) ⟨hx, hb, hml, hown, hts⟩ (c_X4_dripBy l D a cI cT cN B L b hS hok9 (q.2.2.2.1 i 0) (q.2.2.2.1 i 1) w n (by omega) (by omega) (by omega) (by omega)) (cwV 4 hts (gV mg_303 mg_304 mg_305 mg_4 mg_306) rfl rfl rfl vd_X4_dripBy ⟨Nat.le_of_ble_eq_true rfl, Nat.le_of_ble_eq_true rfl⟩) (va_recv hK hP (ci := 4) (q0 := 4) rfl rfl) hK (cW_s hP) rfl hl.1 rfl (Nat.le_of_ble_eq_true rfl) dX6_unlikeOf_28 ⟨Nat.zero_le _, Nat.zero_le _⟩ ?_
        have hd1 := sd_le hok9 (kd := q.2.2.2.1 i 0) (w := w) (n := n) (v := q.2.2.2.1 i 1) (by omega)
        refine lv_istore (lv' := [(6, .int (nI (sd b (q.2.2.2.1 i 0) w (q.2.2.2.1 i 1) n))), (0, .ref (a 0)), (1, .ref (r (3 + i))), (2, .int (nI w)), (3, .int (nI v2)), (4, .int (nI x)), (5, .int (nI n))]) hx hb dX6_unlikeOf_31 hl (by decide) rfl (fun ls hl => ?_)
        refine lv_iload hx hb dX6_unlikeOf_33 (lv_at hl 0 rfl) ?_
        refine lv_aload_n hx hb dX6_unlikeOf_35 rfl (lv_at hl 1 rfl) ?_
        refine va_get (D := D) (ci := 6) (v := .ref (a 4)) (C := RX6) (T := TX6) (N := 7) hx hb hts iX6 hown hK hP 0 rfl rfl 1 (by decide) (hts _ mg_152) (fun _ h9 => h9) rfl dX6_unlikeOf_36 ?_
        refine lv_iconst (v := nI 0) hx hb dX6_unlikeOf_39 (by decide) ?_
        refine lv_iload_n hx hb dX6_unlikeOf_40 rfl (lv_at hl 4 rfl) ?_
        refine lv_iconst (v := nI 0) hx hb dX6_unlikeOf_41 (by decide) ?_
        refine lv_iload hx hb dX6_unlikeOf_42 (lv_at hl 6 rfl) ?_
        refine ro_iV (n := 4) (As := [.int (nI 0), .int (nI v2), .int (nI 0), .int (nI n)]) ⟨hx, hb, hml, hown, hts⟩ (c_X4_dripBy l D a cI cT cN B L b hS hok9 0 v2 0 n (by omega) (by omega) (by omega) (by omega)) (cwV 4 hts (gV mg_303 mg_304 mg_305 mg_4 mg_306) rfl rfl rfl vd_X4_dripBy ⟨Nat.le_of_ble_eq_true rfl, Nat.le_of_ble_eq_true rfl⟩) (va_recv hK hP (ci := 4) (q0 := 4) rfl rfl) hK (cW_s hP) rfl hl.1 rfl (Nat.le_of_ble_eq_true rfl) dX6_unlikeOf_44 ⟨Nat.zero_le _, Nat.zero_le _⟩ ?_
        have hd2 := sd_le hok9 (kd := 0) (w := 0) (n := n) (v := v2) (by omega)
        refine j_icmp_eq (tgt := 53) hx hb dX6_unlikeOf_47 (by decide) (nI_toInt (by omega)) (nI_toInt (by omega)) (fun c_4 => ?_) (fun c_4 => ?_)
        · refine lv_iinc (v := nI (n + 1)) (lv' := [(5, .int (nI (n + 1))), (6, .int (nI (sd b (q.2.2.2.1 i 0) w (q.2.2.2.1 i 1) n))), (0, .ref (a 0)), (1, .ref (r (3 + i))), (2, .int (nI w)), (3, .int (nI v2)), (4, .int (nI x))]) hx hb dX6_unlikeOf_53 hl (k := 6) rfl (fr_inc1 _) (by decide) rfl (fun ls hl => ?_)
          refine lv_goto (tgt := 6) hx hb dX6_unlikeOf_56 (by decide) ?_
          exact ih_2 x (n + 1) (by omega) (by first | (rw [cnt_t hz, hx0]; done) | (rw [cnt_f (decide_eq_false (fun z => by omega)), hx0]; done)) (by omega) _ (lv_sub hl [2, 3, 4, 5, 6, 0] rfl)
        · have hz : (unf b (q.2.2.2.1 i 0) w (q.2.2.2.1 i 1) v2) n = true := decide_eq_true (by omega)
          refine lv_iinc (v := nI (x + 1)) (lv' := [(4, .int (nI (x + 1))), (6, .int (nI (sd b (q.2.2.2.1 i 0) w (q.2.2.2.1 i 1) n))), (0, .ref (a 0)), (1, .ref (r (3 + i))), (2, .int (nI w)), (3, .int (nI v2)), (5, .int (nI n))]) hx hb dX6_unlikeOf_50 hl (k := 5) rfl (fr_inc1 _) (by decide) rfl (fun ls hl => ?_)
          refine lv_iinc (v := nI (n + 1)) (lv' := [(5, .int (nI (n + 1))), (4, .int (nI (x + 1))), (6, .int (nI (sd b (q.2.2.2.1 i 0) w (q.2.2.2.1 i 1) n))), (0, .ref (a 0)), (1, .ref (r (3 + i))), (2, .int (nI w)), (3, .int (nI v2))]) hx hb dX6_unlikeOf_53 hl (k := 6) rfl (fr_inc1 _) (by decide) rfl (fun ls hl => ?_)
          refine lv_goto (tgt := 6) hx hb dX6_unlikeOf_56 (by decide) ?_
          exact ih_2 (x + 1) (n + 1) (by omega) (by first | (rw [cnt_t hz, hx0]; done) | (rw [cnt_f (decide_eq_false (fun z => by omega)), hx0]; done)) (by omega) _ (lv_sub hl [3, 4, 5, 6, 1, 0] rfl)
  exact K_1 (12 - 0 + 1) 0 0 (by omega) (rfl) (Nat.lt_succ_self _) _ (lv_sub hl [2, 3, 4, 5, 1, 0] rfl)

set_option maxHeartbeats 4000000 in
set_option maxRecDepth 100000 in
theorem c_X6_nearOf0 (l : Launch) (D : va_G) (a r k : Nat → Nat) (cI cT cN : ClassId) (xh xi xr pn : Nat) (pc : Nat → Int32) (rd : Nat × Nat × Nat) (B L : Nat → Int32) (q kq : RS) (b : Nat → Nat → Nat) (hS : SR b B L) (hok9 : hok b) (hT : Tok q) (i : Nat) (hi : i < q.1) (v2 : Nat) (hv2 : v2 < 4) : ROi l yX6_nearOf (wA yX6_nearOf cX6_nearOf 6 (some .int)) ({ frames := 3, cells := 0, slots := 0, locals := 76 }) D (cTys cI cT cN) (cW a r k cI cT cN xh xi xr pn pc rd B L q kq) [.ref (a 0), .ref (r (3 + i)), .int (nI v2), .int (nI 0)] (nI (ner b (q.2.2.2.1 i 0) (q.2.2.2.1 i 1) v2 0)) := by
  refine go_start (by decide) (Nat.le_of_ble_eq_true rfl) ?_
  intro p e s m args below meth c ls F _ hB hl
  obtain ⟨hx, hb, hr, hlocks, hml, hown, hts⟩ := F
  obtain ⟨hP, hK⟩ := hB
  have hown : s.vm.findClass RX6 = some m.cls := hown
  have hl : lv_has ls 6 [(0, .ref (a 0)), (1, .ref (r (3 + i))), (2, .int (nI v2)), (3, .int (nI 0))] := hl
  have ht5 := hT.1
  have ht8 := hT.2.1
  obtain ⟨hk0, hv0, hw0, hp0⟩ := hT.2.2.1 i hi
  refine lv_aload_n hx hb dX6_nearOf_0 rfl (lv_at hl 0 rfl) ?_
  refine lv_aload_n hx hb dX6_nearOf_1 rfl (lv_at hl 1 rfl) ?_
  refine lv_iconst (v := nI 0) hx hb dX6_nearOf_2 (by decide) ?_
  refine lv_iload_n hx hb dX6_nearOf_3 rfl (lv_at hl 2 rfl) ?_
  refine ro_iV (n := 3) (As := [.ref (r (3 + i)), .int (nI 0), .int (nI v2)]) ⟨hx, hb, hml, hown, hts⟩ (c_X6_unlikeOf l D a r k cI cT cN xh xi xr pn pc rd B L q kq b hS hok9 hT i hi 0 v2 (by decide) hv2) (cwV 3 hts (gV mg_372 mg_374 mg_1013 mg_1 mg_375) rfl rfl rfl vd_X6_unlikeOf ⟨Nat.le_of_ble_eq_true rfl, Nat.le_of_ble_eq_true rfl⟩) (va_recv hK hP (ci := 6) (q0 := 0) rfl rfl) hK hP rfl hl.1 rfl (Nat.le_of_ble_eq_true rfl) dX6_nearOf_4 ⟨Nat.zero_le _, Nat.zero_le _⟩ ?_
  refine lv_istore (lv' := [(4, .int (nI (unl b (q.2.2.2.1 i 0) 0 (q.2.2.2.1 i 1) v2))), (0, .ref (a 0)), (1, .ref (r (3 + i))), (2, .int (nI v2)), (3, .int (nI 0))]) hx hb dX6_nearOf_7 hl (by decide) rfl (fun ls hl => ?_)
  refine lv_aload_n hx hb dX6_nearOf_9 rfl (lv_at hl 1 rfl) ?_
  refine lv_aload_n hx hb dX6_nearOf_10 rfl (lv_at hl 2 rfl) ?_
  refine lv_iconst (v := nI 1) hx hb dX6_nearOf_11 (by decide) ?_
  refine lv_iload_n hx hb dX6_nearOf_12 rfl (lv_at hl 3 rfl) ?_
  refine ro_iV (n := 3) (As := [.ref (r (3 + i)), .int (nI 1), .int (nI v2)]) ⟨hx, hb, hml, hown, hts⟩ (c_X6_unlikeOf l D a r k cI cT cN xh xi xr pn pc rd B L q kq b hS hok9 hT i hi 1 v2 (by decide) hv2) (cwV 3 hts (gV mg_372 mg_374 mg_1013 mg_1 mg_375) rfl rfl rfl vd_X6_unlikeOf ⟨Nat.le_of_ble_eq_true rfl, Nat.le_of_ble_eq_true rfl⟩) (va_recv hK hP (ci := 6) (q0 := 0) rfl rfl) hK hP rfl hl.1 rfl (Nat.le_of_ble_eq_true rfl) dX6_nearOf_13 ⟨Nat.zero_le _, Nat.zero_le _⟩ ?_
  refine lv_istore (lv' := [(5, .int (nI (unl b (q.2.2.2.1 i 0) 1 (q.2.2.2.1 i 1) v2))), (4, .int (nI (unl b (q.2.2.2.1 i 0) 0 (q.2.2.2.1 i 1) v2))), (0, .ref (a 0)), (1, .ref (r (3 + i))), (2, .int (nI v2)), (3, .int (nI 0))]) hx hb dX6_nearOf_16 hl (by decide) rfl (fun ls hl => ?_)
  have hu0 := unl_le b (q.2.2.2.1 i 0) 0 (q.2.2.2.1 i 1) v2
  have hu1 := unl_le b (q.2.2.2.1 i 0) 1 (q.2.2.2.1 i 1) v2
  refine lv_iload_n hx hb dX6_nearOf_18 rfl (lv_at hl 5 rfl) ?_
  refine j_if_ne (tgt := 35) hx hb dX6_nearOf_19 (by decide) (nI_toInt (by decide)) (fun c_1 => absurd c_1 (by omega)) (fun c_1 => ?_)
  refine lv_iload hx hb dX6_nearOf_22 (lv_at hl 0 rfl) ?_
  refine lv_iload hx hb dX6_nearOf_24 (lv_at hl 1 rfl) ?_
  refine j_icmp_ge (tgt := 33) hx hb dX6_nearOf_26 (by decide) (nI_toInt (by omega)) (nI_toInt (by omega)) (fun c_2 => ?_) (fun c_2 => ?_)
  · refine lv_iconst (v := nI 0) hx hb dX6_nearOf_33 (by decide) ?_
    exact ro_iret hx hb hr hlocks (by rw [ner]; first | rfl | (rw [if_pos rfl, if_pos (by omega)]; done) | (rw [if_pos rfl, if_neg (by omega)]; done) | (rw [if_neg (by decide)]; done)) dX6_nearOf_34
  · refine lv_iconst (v := nI 1) hx hb dX6_nearOf_29 (by decide) ?_
    refine lv_goto (tgt := 34) hx hb dX6_nearOf_30 (by decide) ?_
    exact ro_iret hx hb hr hlocks (by rw [ner]; first | rfl | (rw [if_pos rfl, if_pos (by omega)]; done) | (rw [if_pos rfl, if_neg (by omega)]; done) | (rw [if_neg (by decide)]; done)) dX6_nearOf_34

set_option maxHeartbeats 4000000 in
set_option maxRecDepth 100000 in
theorem c_X6_nearOf1 (l : Launch) (D : va_G) (a r k : Nat → Nat) (cI cT cN : ClassId) (xh xi xr pn : Nat) (pc : Nat → Int32) (rd : Nat × Nat × Nat) (B L : Nat → Int32) (q kq : RS) (b : Nat → Nat → Nat) (hS : SR b B L) (hok9 : hok b) (hT : Tok q) (i : Nat) (hi : i < q.1) (v2 : Nat) (hv2 : v2 < 4) : ROi l yX6_nearOf (wA yX6_nearOf cX6_nearOf 6 (some .int)) ({ frames := 3, cells := 0, slots := 0, locals := 76 }) D (cTys cI cT cN) (cW a r k cI cT cN xh xi xr pn pc rd B L q kq) [.ref (a 0), .ref (r (3 + i)), .int (nI v2), .int (nI 1)] (nI (ner b (q.2.2.2.1 i 0) (q.2.2.2.1 i 1) v2 1)) := by
  refine go_start (by decide) (Nat.le_of_ble_eq_true rfl) ?_
  intro p e s m args below meth c ls F _ hB hl
  obtain ⟨hx, hb, hr, hlocks, hml, hown, hts⟩ := F
  obtain ⟨hP, hK⟩ := hB
  have hown : s.vm.findClass RX6 = some m.cls := hown
  have hl : lv_has ls 6 [(0, .ref (a 0)), (1, .ref (r (3 + i))), (2, .int (nI v2)), (3, .int (nI 1))] := hl
  have ht5 := hT.1
  have ht8 := hT.2.1
  obtain ⟨hk0, hv0, hw0, hp0⟩ := hT.2.2.1 i hi
  refine lv_aload_n hx hb dX6_nearOf_0 rfl (lv_at hl 0 rfl) ?_
  refine lv_aload_n hx hb dX6_nearOf_1 rfl (lv_at hl 1 rfl) ?_
  refine lv_iconst (v := nI 0) hx hb dX6_nearOf_2 (by decide) ?_
  refine lv_iload_n hx hb dX6_nearOf_3 rfl (lv_at hl 2 rfl) ?_
  refine ro_iV (n := 3) (As := [.ref (r (3 + i)), .int (nI 0), .int (nI v2)]) ⟨hx, hb, hml, hown, hts⟩ (c_X6_unlikeOf l D a r k cI cT cN xh xi xr pn pc rd B L q kq b hS hok9 hT i hi 0 v2 (by decide) hv2) (cwV 3 hts (gV mg_372 mg_374 mg_1013 mg_1 mg_375) rfl rfl rfl vd_X6_unlikeOf ⟨Nat.le_of_ble_eq_true rfl, Nat.le_of_ble_eq_true rfl⟩) (va_recv hK hP (ci := 6) (q0 := 0) rfl rfl) hK hP rfl hl.1 rfl (Nat.le_of_ble_eq_true rfl) dX6_nearOf_4 ⟨Nat.zero_le _, Nat.zero_le _⟩ ?_
  refine lv_istore (lv' := [(4, .int (nI (unl b (q.2.2.2.1 i 0) 0 (q.2.2.2.1 i 1) v2))), (0, .ref (a 0)), (1, .ref (r (3 + i))), (2, .int (nI v2)), (3, .int (nI 1))]) hx hb dX6_nearOf_7 hl (by decide) rfl (fun ls hl => ?_)
  refine lv_aload_n hx hb dX6_nearOf_9 rfl (lv_at hl 1 rfl) ?_
  refine lv_aload_n hx hb dX6_nearOf_10 rfl (lv_at hl 2 rfl) ?_
  refine lv_iconst (v := nI 1) hx hb dX6_nearOf_11 (by decide) ?_
  refine lv_iload_n hx hb dX6_nearOf_12 rfl (lv_at hl 3 rfl) ?_
  refine ro_iV (n := 3) (As := [.ref (r (3 + i)), .int (nI 1), .int (nI v2)]) ⟨hx, hb, hml, hown, hts⟩ (c_X6_unlikeOf l D a r k cI cT cN xh xi xr pn pc rd B L q kq b hS hok9 hT i hi 1 v2 (by decide) hv2) (cwV 3 hts (gV mg_372 mg_374 mg_1013 mg_1 mg_375) rfl rfl rfl vd_X6_unlikeOf ⟨Nat.le_of_ble_eq_true rfl, Nat.le_of_ble_eq_true rfl⟩) (va_recv hK hP (ci := 6) (q0 := 0) rfl rfl) hK hP rfl hl.1 rfl (Nat.le_of_ble_eq_true rfl) dX6_nearOf_13 ⟨Nat.zero_le _, Nat.zero_le _⟩ ?_
  refine lv_istore (lv' := [(5, .int (nI (unl b (q.2.2.2.1 i 0) 1 (q.2.2.2.1 i 1) v2))), (4, .int (nI (unl b (q.2.2.2.1 i 0) 0 (q.2.2.2.1 i 1) v2))), (0, .ref (a 0)), (1, .ref (r (3 + i))), (2, .int (nI v2)), (3, .int (nI 1))]) hx hb dX6_nearOf_16 hl (by decide) rfl (fun ls hl => ?_)
  have hu0 := unl_le b (q.2.2.2.1 i 0) 0 (q.2.2.2.1 i 1) v2
  have hu1 := unl_le b (q.2.2.2.1 i 0) 1 (q.2.2.2.1 i 1) v2
  refine lv_iload_n hx hb dX6_nearOf_18 rfl (lv_at hl 5 rfl) ?_
  refine j_if_ne (tgt := 35) hx hb dX6_nearOf_19 (by decide) (nI_toInt (by decide)) (fun c_1 => ?_) (fun c_1 => absurd c_1 (by omega))
  refine lv_iload hx hb dX6_nearOf_35 (lv_at hl 0 rfl) ?_
  refine lv_iload hx hb dX6_nearOf_37 (lv_at hl 1 rfl) ?_
  refine va_mmin hx hb (hml.trans hl.1.symm) hown (hts _ mg_376) (hts _ mg_377) (hts _ mg_9) (hts _ mg_378) (Nat.le_of_ble_eq_true rfl) (Nat.le_of_ble_eq_true rfl) (Nat.zero_le _) (Nat.zero_le _) dX6_nearOf_39 ?_
  refine n_top (n_min (by omega) (by omega)) ?_
  exact ro_iret hx hb hr hlocks (by rw [ner]; first | rfl | (rw [if_pos rfl, if_pos (by omega)]; done) | (rw [if_pos rfl, if_neg (by omega)]; done) | (rw [if_neg (by decide)]; done)) dX6_nearOf_42

set_option maxHeartbeats 4000000 in
set_option maxRecDepth 100000 in
theorem c_X6_aboutOf0 (l : Launch) (D : va_G) (a r k : Nat → Nat) (cI cT cN : ClassId) (xh xi xr pn : Nat) (pc : Nat → Int32) (rd : Nat × Nat × Nat) (B L : Nat → Int32) (q kq : RS) (b : Nat → Nat → Nat) (hS : SR b B L) (hok9 : hok b) (hT : Tok q) (i : Nat) (hi : i < q.1) : ROi l yX6_aboutOf (wA yX6_aboutOf cX6_aboutOf 3 (some .int)) ({ frames := 0, cells := 0, slots := 0, locals := 0 }) D (cTys cI cT cN) (cW a r k cI cT cN xh xi xr pn pc rd B L q kq) [.ref (a 0), .ref (r (3 + i)), .int (nI 0)] (abt b q.2.2.2.1 q.2.2.2.2 q.2.1 i 0) := by
  refine go_start (by decide) (Nat.le_of_ble_eq_true rfl) ?_
  intro p e s m args below meth c ls F _ hB hl
  obtain ⟨hx, hb, hr, hlocks, hml, hown, hts⟩ := F
  obtain ⟨hP, hK⟩ := hB
  have hown : s.vm.findClass RX6 = some m.cls := hown
  have hl : lv_has ls 3 [(0, .ref (a 0)), (1, .ref (r (3 + i))), (2, .int (nI 0))] := hl
  have ht5 := hT.1
  have ht8 := hT.2.1
  obtain ⟨hk0, hv0, hw0, hp0⟩ := hT.2.2.1 i hi
  refine lv_iload_n hx hb dX6_aboutOf_0 rfl (lv_at hl 2 rfl) ?_
  refine lv_tableIn (off := 47) (tgt := 48) hx hb dX6_aboutOf_1 (by rw [show (nI 0).toInt = 0 from by first | decide | (rw [nI_toInt (by decide)]; omega)]; decide) (by rw [show (nI 0).toInt = 0 from by first | decide | (rw [nI_toInt (by decide)]; omega)]; decide) (by rw [show (nI 0).toInt = 0 from by first | decide | (rw [nI_toInt (by decide)]; omega)]; rfl) (by decide) ?_
  refine lv_aload_n hx hb dX6_aboutOf_48 rfl (lv_at hl 1 rfl) ?_
  refine va_get (D := D) (ci := 5) (v := .int (nI (q.2.2.2.1 i 0))) (C := RX5) (T := TX5) (N := 5) hx hb hts iX5 hown hK hP (10 + i) (cW_tap (by omega)) rfl 1 (by decide) (hts _ mg_83) (fun _ h9 => h9) rfl dX6_aboutOf_49 ?_
  exact ro_iret hx hb hr hlocks (abt_0.symm) dX6_aboutOf_52

set_option maxHeartbeats 4000000 in
set_option maxRecDepth 100000 in
theorem c_X6_aboutOf1 (l : Launch) (D : va_G) (a r k : Nat → Nat) (cI cT cN : ClassId) (xh xi xr pn : Nat) (pc : Nat → Int32) (rd : Nat × Nat × Nat) (B L : Nat → Int32) (q kq : RS) (b : Nat → Nat → Nat) (hS : SR b B L) (hok9 : hok b) (hT : Tok q) (i : Nat) (hi : i < q.1) : ROi l yX6_aboutOf (wA yX6_aboutOf cX6_aboutOf 3 (some .int)) ({ frames := 0, cells := 0, slots := 0, locals := 0 }) D (cTys cI cT cN) (cW a r k cI cT cN xh xi xr pn pc rd B L q kq) [.ref (a 0), .ref (r (3 + i)), .int (nI 1)] (abt b q.2.2.2.1 q.2.2.2.2 q.2.1 i 1) := by
  refine go_start (by decide) (Nat.le_of_ble_eq_true rfl) ?_
  intro p e s m args below meth c ls F _ hB hl
  obtain ⟨hx, hb, hr, hlocks, hml, hown, hts⟩ := F
  obtain ⟨hP, hK⟩ := hB
  have hown : s.vm.findClass RX6 = some m.cls := hown
  have hl : lv_has ls 3 [(0, .ref (a 0)), (1, .ref (r (3 + i))), (2, .int (nI 1))] := hl
  have ht5 := hT.1
  have ht8 := hT.2.1
  obtain ⟨hk0, hv0, hw0, hp0⟩ := hT.2.2.1 i hi
  refine lv_iload_n hx hb dX6_aboutOf_0 rfl (lv_at hl 2 rfl) ?_
  refine lv_tableIn (off := 52) (tgt := 53) hx hb dX6_aboutOf_1 (by rw [show (nI 1).toInt = 1 from by first | decide | (rw [nI_toInt (by decide)]; omega)]; decide) (by rw [show (nI 1).toInt = 1 from by first | decide | (rw [nI_toInt (by decide)]; omega)]; decide) (by rw [show (nI 1).toInt = 1 from by first | decide | (rw [nI_toInt (by decide)]; omega)]; rfl) (by decide) ?_
  refine lv_aload_n hx hb dX6_aboutOf_53 rfl (lv_at hl 1 rfl) ?_
  refine va_get (D := D) (ci := 5) (v := .int (nI (q.2.2.2.1 i 1))) (C := RX5) (T := TX5) (N := 5) hx hb hts iX5 hown hK hP (10 + i) (cW_tap (by omega)) rfl 2 (by decide) (hts _ mg_86) (fun _ h9 => h9) rfl dX6_aboutOf_54 ?_
  exact ro_iret hx hb hr hlocks (abt_1.symm) dX6_aboutOf_57

set_option maxHeartbeats 4000000 in
set_option maxRecDepth 100000 in
theorem c_X6_aboutOf2 (l : Launch) (D : va_G) (a r k : Nat → Nat) (cI cT cN : ClassId) (xh xi xr pn : Nat) (pc : Nat → Int32) (rd : Nat × Nat × Nat) (B L : Nat → Int32) (q kq : RS) (b : Nat → Nat → Nat) (hS : SR b B L) (hok9 : hok b) (hT : Tok q) (i : Nat) (hi : i < q.1) : ROi l yX6_aboutOf (wA yX6_aboutOf cX6_aboutOf 3 (some .int)) ({ frames := 0, cells := 0, slots := 0, locals := 0 }) D (cTys cI cT cN) (cW a r k cI cT cN xh xi xr pn pc rd B L q kq) [.ref (a 0), .ref (r (3 + i)), .int (nI 2)] (abt b q.2.2.2.1 q.2.2.2.2 q.2.1 i 2) := by
  refine go_start (by decide) (Nat.le_of_ble_eq_true rfl) ?_
  intro p e s m args below meth c ls F _ hB hl
  obtain ⟨hx, hb, hr, hlocks, hml, hown, hts⟩ := F
  obtain ⟨hP, hK⟩ := hB
  have hown : s.vm.findClass RX6 = some m.cls := hown
  have hl : lv_has ls 3 [(0, .ref (a 0)), (1, .ref (r (3 + i))), (2, .int (nI 2))] := hl
  have ht5 := hT.1
  have ht8 := hT.2.1
  obtain ⟨hk0, hv0, hw0, hp0⟩ := hT.2.2.1 i hi
  refine lv_iload_n hx hb dX6_aboutOf_0 rfl (lv_at hl 2 rfl) ?_
  refine lv_tableIn (off := 57) (tgt := 58) hx hb dX6_aboutOf_1 (by rw [show (nI 2).toInt = 2 from by first | decide | (rw [nI_toInt (by decide)]; omega)]; decide) (by rw [show (nI 2).toInt = 2 from by first | decide | (rw [nI_toInt (by decide)]; omega)]; decide) (by rw [show (nI 2).toInt = 2 from by first | decide | (rw [nI_toInt (by decide)]; omega)]; rfl) (by decide) ?_
  refine lv_aload_n hx hb dX6_aboutOf_58 rfl (lv_at hl 1 rfl) ?_
  refine va_get (D := D) (ci := 5) (v := .int (nI (q.2.2.2.1 i 2))) (C := RX5) (T := TX5) (N := 5) hx hb hts iX5 hown hK hP (10 + i) (cW_tap (by omega)) rfl 3 (by decide) (hts _ mg_89) (fun _ h9 => h9) rfl dX6_aboutOf_59 ?_
  exact ro_iret hx hb hr hlocks (abt_2.symm) dX6_aboutOf_62

set_option maxHeartbeats 4000000 in
set_option maxRecDepth 100000 in
theorem c_X6_aboutOf3 (l : Launch) (D : va_G) (a r k : Nat → Nat) (cI cT cN : ClassId) (xh xi xr pn : Nat) (pc : Nat → Int32) (rd : Nat × Nat × Nat) (B L : Nat → Int32) (q kq : RS) (b : Nat → Nat → Nat) (hS : SR b B L) (hok9 : hok b) (hT : Tok q) (i : Nat) (hi : i < q.1) : ROi l yX6_aboutOf (wA yX6_aboutOf cX6_aboutOf 3 (some .int)) ({ frames := 0, cells := 0, slots := 0, locals := 0 }) D (cTys cI cT cN) (cW a r k cI cT cN xh xi xr pn pc rd B L q kq) [.ref (a 0), .ref (r (3 + i)), .int (nI 3)] (abt b q.2.2.2.1 q.2.2.2.2 q.2.1 i 3) := by
  refine go_start (by decide) (Nat.le_of_ble_eq_true rfl) ?_
  intro p e s m args below meth c ls F _ hB hl
  obtain ⟨hx, hb, hr, hlocks, hml, hown, hts⟩ := F
  obtain ⟨hP, hK⟩ := hB
  have hown : s.vm.findClass RX6 = some m.cls := hown
  have hl : lv_has ls 3 [(0, .ref (a 0)), (1, .ref (r (3 + i))), (2, .int (nI 3))] := hl
  have ht5 := hT.1
  have ht8 := hT.2.1
  obtain ⟨hk0, hv0, hw0, hp0⟩ := hT.2.2.1 i hi
  refine lv_iload_n hx hb dX6_aboutOf_0 rfl (lv_at hl 2 rfl) ?_
  refine lv_tableIn (off := 62) (tgt := 63) hx hb dX6_aboutOf_1 (by rw [show (nI 3).toInt = 3 from by first | decide | (rw [nI_toInt (by decide)]; omega)]; decide) (by rw [show (nI 3).toInt = 3 from by first | decide | (rw [nI_toInt (by decide)]; omega)]; decide) (by rw [show (nI 3).toInt = 3 from by first | decide | (rw [nI_toInt (by decide)]; omega)]; rfl) (by decide) ?_
  refine lv_aload_n hx hb dX6_aboutOf_63 rfl (lv_at hl 1 rfl) ?_
  refine va_get (D := D) (ci := 5) (v := .int (nI (q.2.2.2.1 i 3))) (C := RX5) (T := TX5) (N := 5) hx hb hts iX5 hown hK hP (10 + i) (cW_tap (by omega)) rfl 4 (by decide) (hts _ mg_92) (fun _ h9 => h9) rfl dX6_aboutOf_64 ?_
  exact ro_iret hx hb hr hlocks (abt_3.symm) dX6_aboutOf_67

set_option maxHeartbeats 4000000 in
set_option maxRecDepth 100000 in
theorem c_X6_aboutOf4 (l : Launch) (D : va_G) (a r k : Nat → Nat) (cI cT cN : ClassId) (xh xi xr pn : Nat) (pc : Nat → Int32) (rd : Nat × Nat × Nat) (B L : Nat → Int32) (q kq : RS) (b : Nat → Nat → Nat) (hS : SR b B L) (hok9 : hok b) (hT : Tok q) (i : Nat) (hi : i < q.1) : ROi l yX6_aboutOf (wA yX6_aboutOf cX6_aboutOf 3 (some .int)) ({ frames := 4, cells := 0, slots := 0, locals := 101 }) D (cTys cI cT cN) (cW a r k cI cT cN xh xi xr pn pc rd B L q kq) [.ref (a 0), .ref (r (3 + i)), .int (nI 4)] (abt b q.2.2.2.1 q.2.2.2.2 q.2.1 i 4) := by
  refine go_start (by decide) (Nat.le_of_ble_eq_true rfl) ?_
  intro p e s m args below meth c ls F _ hB hl
  obtain ⟨hx, hb, hr, hlocks, hml, hown, hts⟩ := F
  obtain ⟨hP, hK⟩ := hB
  have hown : s.vm.findClass RX6 = some m.cls := hown
  have hl : lv_has ls 3 [(0, .ref (a 0)), (1, .ref (r (3 + i))), (2, .int (nI 4))] := hl
  have ht5 := hT.1
  have ht8 := hT.2.1
  obtain ⟨hk0, hv0, hw0, hp0⟩ := hT.2.2.1 i hi
  refine lv_iload_n hx hb dX6_aboutOf_0 rfl (lv_at hl 2 rfl) ?_
  refine lv_tableIn (off := 67) (tgt := 68) hx hb dX6_aboutOf_1 (by rw [show (nI 4).toInt = 4 from by first | decide | (rw [nI_toInt (by decide)]; omega)]; decide) (by rw [show (nI 4).toInt = 4 from by first | decide | (rw [nI_toInt (by decide)]; omega)]; decide) (by rw [show (nI 4).toInt = 4 from by first | decide | (rw [nI_toInt (by decide)]; omega)]; rfl) (by decide) ?_
  refine lv_aload_n hx hb dX6_aboutOf_68 rfl (lv_at hl 0 rfl) ?_
  refine lv_aload_n hx hb dX6_aboutOf_69 rfl (lv_at hl 1 rfl) ?_
  refine ro_iV (n := 1) (As := [.ref (r (3 + i))]) ⟨hx, hb, hml, hown, hts⟩ (c_X6_sureOf l D a r k cI cT cN xh xi xr pn pc rd B L q kq b hS hok9 hT i hi) (cwV 1 hts (gV mg_295 mg_297 mg_1004 mg_1 mg_298) rfl rfl rfl vd_X6_sureOf ⟨Nat.le_of_ble_eq_true rfl, Nat.le_of_ble_eq_true rfl⟩) (va_recv hK hP (ci := 6) (q0 := 0) rfl rfl) hK hP rfl hl.1 rfl (Nat.le_of_ble_eq_true rfl) dX6_aboutOf_70 ⟨Nat.zero_le _, Nat.zero_le _⟩ ?_
  exact ro_iret hx hb hr hlocks (abt_4.symm) dX6_aboutOf_73

set_option maxHeartbeats 4000000 in
set_option maxRecDepth 100000 in
theorem c_X6_aboutOf5 (l : Launch) (D : va_G) (a r k : Nat → Nat) (cI cT cN : ClassId) (xh xi xr pn : Nat) (pc : Nat → Int32) (rd : Nat × Nat × Nat) (B L : Nat → Int32) (q kq : RS) (b : Nat → Nat → Nat) (hS : SR b B L) (hok9 : hok b) (hT : Tok q) (i : Nat) (hi : i < q.1) : ROi l yX6_aboutOf (wA yX6_aboutOf cX6_aboutOf 3 (some .int)) ({ frames := 4, cells := 0, slots := 0, locals := 98 }) D (cTys cI cT cN) (cW a r k cI cT cN xh xi xr pn pc rd B L q kq) [.ref (a 0), .ref (r (3 + i)), .int (nI 5)] (abt b q.2.2.2.1 q.2.2.2.2 q.2.1 i 5) := by
  refine go_start (by decide) (Nat.le_of_ble_eq_true rfl) ?_
  intro p e s m args below meth c ls F _ hB hl
  obtain ⟨hx, hb, hr, hlocks, hml, hown, hts⟩ := F
  obtain ⟨hP, hK⟩ := hB
  have hown : s.vm.findClass RX6 = some m.cls := hown
  have hl : lv_has ls 3 [(0, .ref (a 0)), (1, .ref (r (3 + i))), (2, .int (nI 5))] := hl
  have ht5 := hT.1
  have ht8 := hT.2.1
  obtain ⟨hk0, hv0, hw0, hp0⟩ := hT.2.2.1 i hi
  refine lv_iload_n hx hb dX6_aboutOf_0 rfl (lv_at hl 2 rfl) ?_
  refine lv_tableIn (off := 73) (tgt := 74) hx hb dX6_aboutOf_1 (by rw [show (nI 5).toInt = 5 from by first | decide | (rw [nI_toInt (by decide)]; omega)]; decide) (by rw [show (nI 5).toInt = 5 from by first | decide | (rw [nI_toInt (by decide)]; omega)]; decide) (by rw [show (nI 5).toInt = 5 from by first | decide | (rw [nI_toInt (by decide)]; omega)]; rfl) (by decide) ?_
  refine lv_aload_n hx hb dX6_aboutOf_74 rfl (lv_at hl 0 rfl) ?_
  refine lv_aload_n hx hb dX6_aboutOf_75 rfl (lv_at hl 1 rfl) ?_
  refine ro_iV (n := 1) (As := [.ref (r (3 + i))]) ⟨hx, hb, hml, hown, hts⟩ (c_X6_saysOf l D a r k cI cT cN xh xi xr pn pc rd B L q kq b hS hok9 hT i hi) (cwV 1 hts (gV mg_312 mg_314 mg_1006 mg_1 mg_315) rfl rfl rfl vd_X6_saysOf ⟨Nat.le_of_ble_eq_true rfl, Nat.le_of_ble_eq_true rfl⟩) (va_recv hK hP (ci := 6) (q0 := 0) rfl rfl) hK hP rfl hl.1 rfl (Nat.le_of_ble_eq_true rfl) dX6_aboutOf_76 ⟨Nat.zero_le _, Nat.zero_le _⟩ ?_
  exact ro_iret hx hb hr hlocks (abt_5.symm) dX6_aboutOf_79

set_option maxHeartbeats 4000000 in
set_option maxRecDepth 100000 in
theorem c_X6_aboutOf6 (l : Launch) (D : va_G) (a r k : Nat → Nat) (cI cT cN : ClassId) (xh xi xr pn : Nat) (pc : Nat → Int32) (rd : Nat × Nat × Nat) (B L : Nat → Int32) (q kq : RS) (b : Nat → Nat → Nat) (hS : SR b B L) (hok9 : hok b) (hT : Tok q) (i : Nat) (hi : i < q.1) : ROi l yX6_aboutOf (wA yX6_aboutOf cX6_aboutOf 3 (some .int)) ({ frames := 4, cells := 0, slots := 0, locals := 98 }) D (cTys cI cT cN) (cW a r k cI cT cN xh xi xr pn pc rd B L q kq) [.ref (a 0), .ref (r (3 + i)), .int (nI 6)] (abt b q.2.2.2.1 q.2.2.2.2 q.2.1 i 6) := by
  refine go_start (by decide) (Nat.le_of_ble_eq_true rfl) ?_
  intro p e s m args below meth c ls F _ hB hl
  obtain ⟨hx, hb, hr, hlocks, hml, hown, hts⟩ := F
  obtain ⟨hP, hK⟩ := hB
  have hown : s.vm.findClass RX6 = some m.cls := hown
  have hl : lv_has ls 3 [(0, .ref (a 0)), (1, .ref (r (3 + i))), (2, .int (nI 6))] := hl
  have ht5 := hT.1
  have ht8 := hT.2.1
  obtain ⟨hk0, hv0, hw0, hp0⟩ := hT.2.2.1 i hi
  refine lv_iload_n hx hb dX6_aboutOf_0 rfl (lv_at hl 2 rfl) ?_
  refine lv_tableIn (off := 79) (tgt := 80) hx hb dX6_aboutOf_1 (by rw [show (nI 6).toInt = 6 from by first | decide | (rw [nI_toInt (by decide)]; omega)]; decide) (by rw [show (nI 6).toInt = 6 from by first | decide | (rw [nI_toInt (by decide)]; omega)]; decide) (by rw [show (nI 6).toInt = 6 from by first | decide | (rw [nI_toInt (by decide)]; omega)]; rfl) (by decide) ?_
  refine lv_aload_n hx hb dX6_aboutOf_80 rfl (lv_at hl 0 rfl) ?_
  refine lv_aload_n hx hb dX6_aboutOf_81 rfl (lv_at hl 1 rfl) ?_
  refine ro_iV (n := 1) (As := [.ref (r (3 + i))]) ⟨hx, hb, hml, hown, hts⟩ (c_X6_likelyOf l D a r k cI cT cN xh xi xr pn pc rd B L q kq b hS hok9 hT i hi) (cwV 1 hts (gV mg_324 mg_326 mg_1008 mg_1 mg_327) rfl rfl rfl vd_X6_likelyOf ⟨Nat.le_of_ble_eq_true rfl, Nat.le_of_ble_eq_true rfl⟩) (va_recv hK hP (ci := 6) (q0 := 0) rfl rfl) hK hP rfl hl.1 rfl (Nat.le_of_ble_eq_true rfl) dX6_aboutOf_82 ⟨Nat.zero_le _, Nat.zero_le _⟩ ?_
  exact ro_iret hx hb hr hlocks (abt_6.symm) dX6_aboutOf_85

set_option maxHeartbeats 4000000 in
set_option maxRecDepth 100000 in
theorem c_X6_aboutOf7 (l : Launch) (D : va_G) (a r k : Nat → Nat) (cI cT cN : ClassId) (xh xi xr pn : Nat) (pc : Nat → Int32) (rd : Nat × Nat × Nat) (B L : Nat → Int32) (q kq : RS) (b : Nat → Nat → Nat) (hS : SR b B L) (hok9 : hok b) (hT : Tok q) (i : Nat) (hi : i < q.1) : ROi l yX6_aboutOf (wA yX6_aboutOf cX6_aboutOf 3 (some .int)) ({ frames := 4, cells := 0, slots := 0, locals := 98 }) D (cTys cI cT cN) (cW a r k cI cT cN xh xi xr pn pc rd B L q kq) [.ref (a 0), .ref (r (3 + i)), .int (nI 7)] (abt b q.2.2.2.1 q.2.2.2.2 q.2.1 i 7) := by
  refine go_start (by decide) (Nat.le_of_ble_eq_true rfl) ?_
  intro p e s m args below meth c ls F _ hB hl
  obtain ⟨hx, hb, hr, hlocks, hml, hown, hts⟩ := F
  obtain ⟨hP, hK⟩ := hB
  have hown : s.vm.findClass RX6 = some m.cls := hown
  have hl : lv_has ls 3 [(0, .ref (a 0)), (1, .ref (r (3 + i))), (2, .int (nI 7))] := hl
  have ht5 := hT.1
  have ht8 := hT.2.1
  obtain ⟨hk0, hv0, hw0, hp0⟩ := hT.2.2.1 i hi
  refine lv_iload_n hx hb dX6_aboutOf_0 rfl (lv_at hl 2 rfl) ?_
  refine lv_tableIn (off := 85) (tgt := 86) hx hb dX6_aboutOf_1 (by rw [show (nI 7).toInt = 7 from by first | decide | (rw [nI_toInt (by decide)]; omega)]; decide) (by rw [show (nI 7).toInt = 7 from by first | decide | (rw [nI_toInt (by decide)]; omega)]; decide) (by rw [show (nI 7).toInt = 7 from by first | decide | (rw [nI_toInt (by decide)]; omega)]; rfl) (by decide) ?_
  refine lv_aload_n hx hb dX6_aboutOf_86 rfl (lv_at hl 0 rfl) ?_
  refine lv_aload_n hx hb dX6_aboutOf_87 rfl (lv_at hl 1 rfl) ?_
  refine lv_aload_n hx hb dX6_aboutOf_88 rfl (lv_at hl 0 rfl) ?_
  refine lv_aload_n hx hb dX6_aboutOf_89 rfl (lv_at hl 1 rfl) ?_
  refine ro_iV (n := 1) (As := [.ref (r (3 + i))]) ⟨hx, hb, hml, hown, hts⟩ (c_X6_likelyOf l D a r k cI cT cN xh xi xr pn pc rd B L q kq b hS hok9 hT i hi) (cwV 1 hts (gV mg_324 mg_326 mg_1008 mg_1 mg_327) rfl rfl rfl vd_X6_likelyOf ⟨Nat.le_of_ble_eq_true rfl, Nat.le_of_ble_eq_true rfl⟩) (va_recv hK hP (ci := 6) (q0 := 0) rfl rfl) hK hP rfl hl.1 rfl (Nat.le_of_ble_eq_true rfl) dX6_aboutOf_90 ⟨Nat.zero_le _, Nat.zero_le _⟩ ?_
  refine ro_iV (n := 2) (As := [.ref (r (3 + i)), .int (nI (lky (sly b q.2.2.2.1 i q.2.2.2.2 q.2.1) 3))]) ⟨hx, hb, hml, hown, hts⟩ (c_X6_slipsOf l D a r k cI cT cN xh xi xr pn pc rd B L q kq b hS hok9 hT i hi (lky (sly b q.2.2.2.1 i q.2.2.2.2 q.2.1) 3) (Nat.lt_succ_of_le (lky_le (sly b q.2.2.2.1 i q.2.2.2.2 q.2.1) 3))) (cwV 2 hts (gV mg_316 mg_318 mg_1007 mg_1 mg_319) rfl rfl rfl vd_X6_slipsOf ⟨Nat.le_of_ble_eq_true rfl, Nat.le_of_ble_eq_true rfl⟩) (va_recv hK hP (ci := 6) (q0 := 0) rfl rfl) hK hP rfl hl.1 rfl (Nat.le_of_ble_eq_true rfl) dX6_aboutOf_93 ⟨Nat.zero_le _, Nat.zero_le _⟩ ?_
  exact ro_iret hx hb hr hlocks (abt_7.symm) dX6_aboutOf_96

set_option maxHeartbeats 4000000 in
set_option maxRecDepth 100000 in
theorem c_X6_aboutOf8 (l : Launch) (D : va_G) (a r k : Nat → Nat) (cI cT cN : ClassId) (xh xi xr pn : Nat) (pc : Nat → Int32) (rd : Nat × Nat × Nat) (B L : Nat → Int32) (q kq : RS) (b : Nat → Nat → Nat) (hS : SR b B L) (hok9 : hok b) (hT : Tok q) (i : Nat) (hi : i < q.1) : ROi l yX6_aboutOf (wA yX6_aboutOf cX6_aboutOf 3 (some .int)) ({ frames := 4, cells := 0, slots := 0, locals := 100 }) D (cTys cI cT cN) (cW a r k cI cT cN xh xi xr pn pc rd B L q kq) [.ref (a 0), .ref (r (3 + i)), .int (nI 8)] (abt b q.2.2.2.1 q.2.2.2.2 q.2.1 i 8) := by
  refine go_start (by decide) (Nat.le_of_ble_eq_true rfl) ?_
  intro p e s m args below meth c ls F _ hB hl
  obtain ⟨hx, hb, hr, hlocks, hml, hown, hts⟩ := F
  obtain ⟨hP, hK⟩ := hB
  have hown : s.vm.findClass RX6 = some m.cls := hown
  have hl : lv_has ls 3 [(0, .ref (a 0)), (1, .ref (r (3 + i))), (2, .int (nI 8))] := hl
  have ht5 := hT.1
  have ht8 := hT.2.1
  obtain ⟨hk0, hv0, hw0, hp0⟩ := hT.2.2.1 i hi
  refine lv_iload_n hx hb dX6_aboutOf_0 rfl (lv_at hl 2 rfl) ?_
  refine lv_tableOut (tgt := 97) hx hb dX6_aboutOf_1 (by decide) (by decide) ?_
  refine lv_aload_n hx hb dX6_aboutOf_97 rfl (lv_at hl 0 rfl) ?_
  refine lv_aload_n hx hb dX6_aboutOf_98 rfl (lv_at hl 1 rfl) ?_
  refine lv_aload_n hx hb dX6_aboutOf_99 rfl (lv_at hl 0 rfl) ?_
  refine lv_aload_n hx hb dX6_aboutOf_100 rfl (lv_at hl 1 rfl) ?_
  refine ro_iV (n := 1) (As := [.ref (r (3 + i))]) ⟨hx, hb, hml, hown, hts⟩ (c_X6_saysOf l D a r k cI cT cN xh xi xr pn pc rd B L q kq b hS hok9 hT i hi) (cwV 1 hts (gV mg_312 mg_314 mg_1006 mg_1 mg_315) rfl rfl rfl vd_X6_saysOf ⟨Nat.le_of_ble_eq_true rfl, Nat.le_of_ble_eq_true rfl⟩) (va_recv hK hP (ci := 6) (q0 := 0) rfl rfl) hK hP rfl hl.1 rfl (Nat.le_of_ble_eq_true rfl) dX6_aboutOf_101 ⟨Nat.zero_le _, Nat.zero_le _⟩ ?_
  refine ro_iV (n := 2) (As := [.ref (r (3 + i)), .int (nI (sys (sly b q.2.2.2.1 i q.2.2.2.2 q.2.1) 4))]) ⟨hx, hb, hml, hown, hts⟩ (c_X6_bestToHear l D a r k cI cT cN xh xi xr pn pc rd B L q kq b hS hok9 hT i hi (sys (sly b q.2.2.2.1 i q.2.2.2.2 q.2.1) 4) (sys_lt (sly b q.2.2.2.1 i q.2.2.2.2 q.2.1) 4)) (cwV 2 hts (gV mg_328 mg_330 mg_1009 mg_1 mg_331) rfl rfl rfl vd_X6_bestToHear ⟨Nat.le_of_ble_eq_true rfl, Nat.le_of_ble_eq_true rfl⟩) (va_recv hK hP (ci := 6) (q0 := 0) rfl rfl) hK hP rfl hl.1 rfl (Nat.le_of_ble_eq_true rfl) dX6_aboutOf_104 ⟨Nat.zero_le _, Nat.zero_le _⟩ ?_
  exact ro_iret hx hb hr hlocks (abt_8.symm) dX6_aboutOf_107
