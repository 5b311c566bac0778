theorem ner_le (b : Nat → Nat → Nat) (kd v0 v w : Nat) : ner b kd v0 v w ≤ 12 := by
  have h0 := unl_le b kd 0 v0 v
  have h1 := unl_le b kd 1 v0 v
  unfold ner
  split
  · split <;> omega
  · exact Nat.le_trans (Nat.min_le_left _ _) h1
set_option maxHeartbeats 4000000 in
set_option maxRecDepth 100000 in
theorem c_X6_nextSeed (l : Launch) (D : va_G) (x : Nat) (hx0 : x < 2 ^ 31) : ROi l yX6_nextSeed (wA yX6_nextSeed cX6_nextSeed 1 (some .int)) ({ frames := 0, cells := 0, slots := 0, locals := 0 }) D [] ([] : va_W) [.int (nI x)] (nI (nxs x)) := by
  refine go_start (by decide) (Nat.le_of_ble_eq_true rfl) ?_
  intro p e s m args below meth c ls F _ hB hl
  obtain ⟨hx, hb, hr, hlocks, hml, hown, hts⟩ := F
  obtain ⟨hP, hK⟩ := hB
  have hown : s.vm.findClass RX6 = some m.cls := hown
  have hl : lv_has ls 1 [(0, .int (nI x))] := hl
  refine lv_ldc2 (v := (1103515245 : Int64)) hx hb hown (hts _ mg_403) dX6_nextSeed_0 ?_
  refine lv_iload_n hx hb dX6_nextSeed_3 rfl (lv_at hl 0 rfl) ?_
  refine lv_i2l (v := lN x) hx hb dX6_nextSeed_4 (nI_l (by omega)) ?_
  refine lv_lmul hx hb dX6_nextSeed_5 ?_
  refine lv_ldc2 (v := (12345 : Int64)) hx hb hown (hts _ mg_404) dX6_nextSeed_6 ?_
  refine lv_ladd hx hb dX6_nextSeed_9 ?_
  refine lv_ldc2 (v := (2147483648 : Int64)) hx hb hown (hts _ mg_405) dX6_nextSeed_10 ?_
  refine lv_lrem hx hb dX6_nextSeed_13 (by decide) ?_
  refine lv_l2i (v := ((((1103515245 : Int64) * (lN x)) + (12345 : Int64)) - (((1103515245 : Int64) * (lN x)) + (12345 : Int64)) / (2147483648 : Int64) * (2147483648 : Int64)).toInt32) hx hb dX6_nextSeed_14 rfl ?_
  exact ro_iret hx hb hr hlocks (nxs_eq hx0) dX6_nextSeed_15

set_option maxHeartbeats 4000000 in
set_option maxRecDepth 100000 in
theorem c_X6_drawOf (l : Launch) (D : va_G) (x : Nat) (hx0 : x < 2 ^ 31) : ROi l yX6_drawOf (wA yX6_drawOf cX6_drawOf 1 (some .int)) ({ frames := 0, cells := 0, slots := 0, locals := 0 }) D [] ([] : va_W) [.int (nI x)] (nI (x / 65536 % 8)) := by
  refine go_start (by decide) (Nat.le_of_ble_eq_true rfl) ?_
  intro p e s m args below meth c ls F _ hB hl
  obtain ⟨hx, hb, hr, hlocks, hml, hown, hts⟩ := F
  obtain ⟨hP, hK⟩ := hB
  have hown : s.vm.findClass RX6 = some m.cls := hown
  have hl : lv_has ls 1 [(0, .int (nI x))] := hl
  refine lv_iload_n hx hb dX6_drawOf_0 rfl (lv_at hl 0 rfl) ?_
  refine lv_ldc (v := (65536 : Int32)) hx hb hown (hts _ mg_409) dX6_drawOf_1 ?_
  refine n_top (y := nI 65536) (by decide) ?_
  refine n_idiv hx hb dX6_drawOf_3 (by omega) (by omega) (by omega) ?_
  refine lv_bipush (v := nI 8) hx hb dX6_drawOf_4 (by decide) ?_
  refine n_irem hx hb dX6_drawOf_6 (by omega) (by omega) (by omega) ?_
  exact ro_iret hx hb hr hlocks (rfl) dX6_drawOf_7

set_option maxHeartbeats 4000000 in
set_option maxRecDepth 100000 in
theorem c_X6_nights1 (l : Launch) (D : va_G) (a r k : Nat → Nat) (cI cT cN : ClassId) (xi xr pn : Nat) (pc : Nat → Int32) (rd : Nat × Nat × Nat) (B L : Nat → Int32) (q kq : RS) (b : Nat → Nat → Nat) (hS : SR b B L) (hokz : ¬ q.1 = 0 → hok b) (hT : Tok q) (xh : Nat) (x y w : Int32) (ox : ¬ inr x 1 41) : ROi l yX6_nights (wA yX6_nights cX6_nights 11 (some .int)) ({ frames := 3, cells := 0, slots := 0, locals := 72 }) D (cTys cI cT cN) (cW a r k cI cT cN xh xi xr pn pc rd B L q kq) [.ref (a 0), .int x, .int y, .int w] (-102) := by
  refine go_start (by decide) (Nat.le_of_ble_eq_true rfl) ?_
  intro p e s m args below meth c ls F _ hB hl
  obtain ⟨hx, hb, hr, hlocks, hml, hown, hts⟩ := F
  obtain ⟨hP, hK⟩ := hB
  have hown : s.vm.findClass RX6 = some m.cls := hown
  have hl : lv_has ls 11 [(0, .ref (a 0)), (1, .int x), (2, .int y), (3, .int w)] := hl
  have ht5 := hT.1
  have ht8 := hT.2.1
  have ox7 := inr_out ox
  refine lv_iload_n hx hb dX6_nights_0 rfl (lv_at hl 1 rfl) ?_
  refine lv_iconst (v := nI 1) hx hb dX6_nights_1 (by decide) ?_
  refine j_icmp_lt (tgt := 24) hx hb dX6_nights_2 (by decide) rfl (nI_toInt (by decide)) (fun c_1 => ?_) (fun c_1 => ?_)
  · refine lv_bipush (v := (-102)) hx hb dX6_nights_24 (by decide) ?_
    exact ro_iret hx hb hr hlocks (rfl) dX6_nights_26
  · refine lv_iload_n hx hb dX6_nights_5 rfl (lv_at hl 1 rfl) ?_
    refine lv_bipush (v := nI 40) hx hb dX6_nights_6 (by decide) ?_
    refine j_icmp_gt (tgt := 24) hx hb dX6_nights_8 (by decide) rfl (nI_toInt (by decide)) (fun c_2 => ?_) (fun c_2 => absurd c_2 (by omega))
    refine lv_bipush (v := (-102)) hx hb dX6_nights_24 (by decide) ?_
    exact ro_iret hx hb hr hlocks (rfl) dX6_nights_26

set_option maxHeartbeats 4000000 in
set_option maxRecDepth 100000 in
theorem c_X6_nights2 (l : Launch) (D : va_G) (a r k : Nat → Nat) (cI cT cN : ClassId) (xi xr pn : Nat) (pc : Nat → Int32) (rd : Nat × Nat × Nat) (B L : Nat → Int32) (q kq : RS) (b : Nat → Nat → Nat) (hS : SR b B L) (hokz : ¬ q.1 = 0 → hok b) (hT : Tok q) (xh : Nat) (dd : Nat) (hd1 : 1 ≤ dd) (hd2 : dd < 41) (y w : Int32) (oy : ¬ 0 ≤ y.toInt) : ROi l yX6_nights (wA yX6_nights cX6_nights 11 (some .int)) ({ frames := 3, cells := 0, slots := 0, locals := 72 }) D (cTys cI cT cN) (cW a r k cI cT cN xh xi xr pn pc rd B L q kq) [.ref (a 0), .int (nI dd), .int y, .int w] (-102) := by
  refine go_start (by decide) (Nat.le_of_ble_eq_true rfl) ?_
  intro p e s m args below meth c ls F _ hB hl
  obtain ⟨hx, hb, hr, hlocks, hml, hown, hts⟩ := F
  obtain ⟨hP, hK⟩ := hB
  have hown : s.vm.findClass RX6 = some m.cls := hown
  have hl : lv_has ls 11 [(0, .ref (a 0)), (1, .int (nI dd)), (2, .int y), (3, .int w)] := hl
  have ht5 := hT.1
  have ht8 := hT.2.1
  refine lv_iload_n hx hb dX6_nights_0 rfl (lv_at hl 1 rfl) ?_
  refine lv_iconst (v := nI 1) hx hb dX6_nights_1 (by decide) ?_
  refine j_icmp_lt (tgt := 24) hx hb dX6_nights_2 (by decide) (nI_toInt (by omega)) (nI_toInt (by decide)) (fun c_1 => absurd c_1 (by omega)) (fun c_1 => ?_)
  refine lv_iload_n hx hb dX6_nights_5 rfl (lv_at hl 1 rfl) ?_
  refine lv_bipush (v := nI 40) hx hb dX6_nights_6 (by decide) ?_
  refine j_icmp_gt (tgt := 24) hx hb dX6_nights_8 (by decide) (nI_toInt (by omega)) (nI_toInt (by decide)) (fun c_2 => absurd c_2 (by omega)) (fun c_2 => ?_)
  refine lv_iload_n hx hb dX6_nights_11 rfl (lv_at hl 2 rfl) ?_
  refine j_if_lt (tgt := 24) hx hb dX6_nights_12 (by decide) rfl (fun c_3 => ?_) (fun c_3 => absurd c_3 (by omega))
  refine lv_bipush (v := (-102)) hx hb dX6_nights_24 (by decide) ?_
  exact ro_iret hx hb hr hlocks (rfl) dX6_nights_26

set_option maxHeartbeats 4000000 in
set_option maxRecDepth 100000 in
theorem c_X6_nights3 (l : Launch) (D : va_G) (a r k : Nat → Nat) (cI cT cN : ClassId) (xi xr pn : Nat) (pc : Nat → Int32) (rd : Nat × Nat × Nat) (B L : Nat → Int32) (q kq : RS) (b : Nat → Nat → Nat) (hS : SR b B L) (hokz : ¬ q.1 = 0 → hok b) (hT : Tok q) (xh : Nat) (dd : Nat) (hd1 : 1 ≤ dd) (hd2 : dd < 41) (y : Nat) (hy : y < 2 ^ 31) (w : Int32) (ow : ¬ inr w 0 3) : ROi l yX6_nights (wA yX6_nights cX6_nights 11 (some .int)) ({ frames := 3, cells := 0, slots := 0, locals := 72 }) D (cTys cI cT cN) (cW a r k cI cT cN xh xi xr pn pc rd B L q kq) [.ref (a 0), .int (nI dd), .int (nI y), .int w] (-102) := by
  refine go_start (by decide) (Nat.le_of_ble_eq_true rfl) ?_
  intro p e s m args below meth c ls F _ hB hl
  obtain ⟨hx, hb, hr, hlocks, hml, hown, hts⟩ := F
  obtain ⟨hP, hK⟩ := hB
  have hown : s.vm.findClass RX6 = some m.cls := hown
  have hl : lv_has ls 11 [(0, .ref (a 0)), (1, .int (nI dd)), (2, .int (nI y)), (3, .int w)] := hl
  have ht5 := hT.1
  have ht8 := hT.2.1
  have ow7 := inr_out ow
  refine lv_iload_n hx hb dX6_nights_0 rfl (lv_at hl 1 rfl) ?_
  refine lv_iconst (v := nI 1) hx hb dX6_nights_1 (by decide) ?_
  refine j_icmp_lt (tgt := 24) hx hb dX6_nights_2 (by decide) (nI_toInt (by omega)) (nI_toInt (by decide)) (fun c_1 => absurd c_1 (by omega)) (fun c_1 => ?_)
  refine lv_iload_n hx hb dX6_nights_5 rfl (lv_at hl 1 rfl) ?_
  refine lv_bipush (v := nI 40) hx hb dX6_nights_6 (by decide) ?_
  refine j_icmp_gt (tgt := 24) hx hb dX6_nights_8 (by decide) (nI_toInt (by omega)) (nI_toInt (by decide)) (fun c_2 => absurd c_2 (by omega)) (fun c_2 => ?_)
  refine lv_iload_n hx hb dX6_nights_11 rfl (lv_at hl 2 rfl) ?_
  refine j_if_lt (tgt := 24) hx hb dX6_nights_12 (by decide) (nI_toInt (by omega)) (fun c_3 => absurd c_3 (by omega)) (fun c_3 => ?_)
  refine lv_iload_n hx hb dX6_nights_15 rfl (lv_at hl 3 rfl) ?_
  refine j_if_lt (tgt := 24) hx hb dX6_nights_16 (by decide) rfl (fun c_4 => ?_) (fun c_4 => ?_)
  · refine lv_bipush (v := (-102)) hx hb dX6_nights_24 (by decide) ?_
    exact ro_iret hx hb hr hlocks (rfl) dX6_nights_26
  · refine lv_iload_n hx hb dX6_nights_19 rfl (lv_at hl 3 rfl) ?_
    refine lv_iconst (v := nI 2) hx hb dX6_nights_20 (by decide) ?_
    refine j_icmp_le (tgt := 27) hx hb dX6_nights_21 (by decide) rfl (nI_toInt (by decide)) (fun c_5 => absurd c_5 (by omega)) (fun c_5 => ?_)
    refine lv_bipush (v := (-102)) hx hb dX6_nights_24 (by decide) ?_
    exact ro_iret hx hb hr hlocks (rfl) dX6_nights_26

set_option maxHeartbeats 4000000 in
set_option maxRecDepth 100000 in
theorem c_X6_nights4 (l : Launch) (D : va_G) (a r k : Nat → Nat) (cI cT cN : ClassId) (xi xr pn : Nat) (pc : Nat → Int32) (rd : Nat × Nat × Nat) (B L : Nat → Int32) (q kq : RS) (b : Nat → Nat → Nat) (hS : SR b B L) (hokz : ¬ q.1 = 0 → hok b) (hT : Tok q) (dd : Nat) (hd1 : 1 ≤ dd) (hd2 : dd < 41) (y : Nat) (hy : y < 2 ^ 31) (w : Nat) (hw : w < 3) : ROi l yX6_nights (wA yX6_nights cX6_nights 11 (some .int)) ({ frames := 3, cells := 0, slots := 0, locals := 72 }) D (cTys cI cT cN) (cW a r k cI cT cN 0 xi xr pn pc rd B L q kq) [.ref (a 0), .int (nI dd), .int (nI y), .int (nI w)] (-103) := by
  refine go_start (by decide) (Nat.le_of_ble_eq_true rfl) ?_
  intro p e s m args below meth c ls F _ hB hl
  obtain ⟨hx, hb, hr, hlocks, hml, hown, hts⟩ := F
  obtain ⟨hP, hK⟩ := hB
  have hown : s.vm.findClass RX6 = some m.cls := hown
  have hl : lv_has ls 11 [(0, .ref (a 0)), (1, .int (nI dd)), (2, .int (nI y)), (3, .int (nI w))] := hl
  have ht5 := hT.1
  have ht8 := hT.2.1
  refine lv_iload_n hx hb dX6_nights_0 rfl (lv_at hl 1 rfl) ?_
  refine lv_iconst (v := nI 1) hx hb dX6_nights_1 (by decide) ?_
  refine j_icmp_lt (tgt := 24) hx hb dX6_nights_2 (by decide) (nI_toInt (by omega)) (nI_toInt (by decide)) (fun c_1 => absurd c_1 (by omega)) (fun c_1 => ?_)
  refine lv_iload_n hx hb dX6_nights_5 rfl (lv_at hl 1 rfl) ?_
  refine lv_bipush (v := nI 40) hx hb dX6_nights_6 (by decide) ?_
  refine j_icmp_gt (tgt := 24) hx hb dX6_nights_8 (by decide) (nI_toInt (by omega)) (nI_toInt (by decide)) (fun c_2 => absurd c_2 (by omega)) (fun c_2 => ?_)
  refine lv_iload_n hx hb dX6_nights_11 rfl (lv_at hl 2 rfl) ?_
  refine j_if_lt (tgt := 24) hx hb dX6_nights_12 (by decide) (nI_toInt (by omega)) (fun c_3 => absurd c_3 (by omega)) (fun c_3 => ?_)
  refine lv_iload_n hx hb dX6_nights_15 rfl (lv_at hl 3 rfl) ?_
  refine j_if_lt (tgt := 24) hx hb dX6_nights_16 (by decide) (nI_toInt (by omega)) (fun c_4 => absurd c_4 (by omega)) (fun c_4 => ?_)
  refine lv_iload_n hx hb dX6_nights_19 rfl (lv_at hl 3 rfl) ?_
  refine lv_iconst (v := nI 2) hx hb dX6_nights_20 (by decide) ?_
  refine j_icmp_le (tgt := 27) hx hb dX6_nights_21 (by decide) (nI_toInt (by omega)) (nI_toInt (by decide)) (fun c_5 => ?_) (fun c_5 => absurd c_5 (by omega))
  refine lv_aload_n hx hb dX6_nights_27 rfl (lv_at hl 0 rfl) ?_
  refine va_get (D := D) (ci := 6) (v := .int (nI 0)) (C := RX6) (T := TX6) (N := 7) hx hb hts iX6 hown hK hP 0 rfl rfl 4 (by decide) (hts _ mg_155) (fun _ h9 => h9) rfl dX6_nights_28 ?_
  refine j_if_ne (tgt := 37) hx hb dX6_nights_31 (by decide) (nI_toInt (by decide)) (fun c_6 => absurd c_6 (by omega)) (fun c_6 => ?_)
  refine lv_bipush (v := (-103)) hx hb dX6_nights_34 (by decide) ?_
  exact ro_iret hx hb hr hlocks (rfl) dX6_nights_36

set_option maxHeartbeats 4000000 in
set_option maxRecDepth 100000 in
theorem c_X6_nightsI0 (l : Launch) (D : va_G) (a r k : Nat → Nat) (cI cT cN : ClassId) (xi xr pn : Nat) (pc : Nat → Int32) (rd : Nat × Nat × Nat) (B L : Nat → Int32) (q kq : RS) (b : Nat → Nat → Nat) (hS : SR b B L) (hokz : ¬ q.1 = 0 → hok b) (hT : Tok q) (h0 : ¬ q.1 = 0) (dd : Nat) (hd1 : 1 ≤ dd) (hd2 : dd < 41) (y : Nat) (hy : y < 2 ^ 31) : ROi l yX6_nights (wA yX6_nights cX6_nights 11 (some .int)) ({ frames := 3, cells := 0, slots := 0, locals := 72 }) D (cTys cI cT cN) (cW a r k cI cT cN 1 xi xr pn pc rd B L q kq) [.ref (a 0), .int (nI dd), .int (nI y), .int (nI 0)] (let z := ngo b q.2.2.2.1 q.1 (0, 0, y) dd; if 0 = 0 then nI z.1 else if 0 = 1 then nI z.2.1 else nI z.2.2) := by
  refine go_start (by decide) (Nat.le_of_ble_eq_true rfl) ?_
  intro p e s m args below meth c ls F _ hB hl
  obtain ⟨hx, hb, hr, hlocks, hml, hown, hts⟩ := F
  obtain ⟨hP, hK⟩ := hB
  have hown : s.vm.findClass RX6 = some m.cls := hown
  have hl : lv_has ls 11 [(0, .ref (a 0)), (1, .int (nI dd)), (2, .int (nI y)), (3, .int (nI 0))] := hl
  have ht5 := hT.1
  have ht8 := hT.2.1
  have hok9 := hokz h0
  refine lv_iload_n hx hb dX6_nights_0 rfl (lv_at hl 1 rfl) ?_
  refine lv_iconst (v := nI 1) hx hb dX6_nights_1 (by decide) ?_
  refine j_icmp_lt (tgt := 24) hx hb dX6_nights_2 (by decide) (nI_toInt (by omega)) (nI_toInt (by decide)) (fun c_1 => absurd c_1 (by omega)) (fun c_1 => ?_)
  refine lv_iload_n hx hb dX6_nights_5 rfl (lv_at hl 1 rfl) ?_
  refine lv_bipush (v := nI 40) hx hb dX6_nights_6 (by decide) ?_
  refine j_icmp_gt (tgt := 24) hx hb dX6_nights_8 (by decide) (nI_toInt (by omega)) (nI_toInt (by decide)) (fun c_2 => absurd c_2 (by omega)) (fun c_2 => ?_)
  refine lv_iload_n hx hb dX6_nights_11 rfl (lv_at hl 2 rfl) ?_
  refine j_if_lt (tgt := 24) hx hb dX6_nights_12 (by decide) (nI_toInt (by omega)) (fun c_3 => absurd c_3 (by omega)) (fun c_3 => ?_)
  refine lv_iload_n hx hb dX6_nights_15 rfl (lv_at hl 3 rfl) ?_
  refine j_if_lt (tgt := 24) hx hb dX6_nights_16 (by decide) (nI_toInt (by decide)) (fun c_4 => absurd c_4 (by omega)) (fun c_4 => ?_)
  refine lv_iload_n hx hb dX6_nights_19 rfl (lv_at hl 3 rfl) ?_
  refine lv_iconst (v := nI 2) hx hb dX6_nights_20 (by decide) ?_
  refine j_icmp_le (tgt := 27) hx hb dX6_nights_21 (by decide) (nI_toInt (by decide)) (nI_toInt (by decide)) (fun c_5 => ?_) (fun c_5 => absurd c_5 (by omega))
  refine lv_aload_n hx hb dX6_nights_27 rfl (lv_at hl 0 rfl) ?_
  refine va_get (D := D) (ci := 6) (v := .int (nI 1)) (C := RX6) (T := TX6) (N := 7) hx hb hts iX6 hown hK hP 0 rfl rfl 4 (by decide) (hts _ mg_155) (fun _ h9 => h9) rfl dX6_nights_28 ?_
  refine j_if_ne (tgt := 37) hx hb dX6_nights_31 (by decide) (nI_toInt (by decide)) (fun c_6 => ?_) (fun c_6 => absurd c_6 (by omega))
  refine lv_iconst (v := nI 0) hx hb dX6_nights_37 (by decide) ?_
  refine lv_istore (lv' := [(4, .int (nI 0)), (0, .ref (a 0)), (1, .int (nI dd)), (2, .int (nI y)), (3, .int (nI 0))]) hx hb dX6_nights_38 hl (by decide) rfl (fun ls hl => ?_)
  refine lv_iconst (v := nI 0) hx hb dX6_nights_40 (by decide) ?_
  refine lv_istore (lv' := [(5, .int (nI 0)), (4, .int (nI 0)), (0, .ref (a 0)), (1, .int (nI dd)), (2, .int (nI y)), (3, .int (nI 0))]) hx hb dX6_nights_41 hl (by decide) rfl (fun ls hl => ?_)
  refine lv_iload_n hx hb dX6_nights_43 rfl (lv_at hl 4 rfl) ?_
  refine lv_istore (lv' := [(6, .int (nI y)), (5, .int (nI 0)), (4, .int (nI 0)), (0, .ref (a 0)), (1, .int (nI dd)), (2, .int (nI y)), (3, .int (nI 0))]) hx hb dX6_nights_44 hl (by decide) rfl (fun ls hl => ?_)
  refine lv_iconst (v := nI 0) hx hb dX6_nights_46 (by decide) ?_
  refine lv_istore (lv' := [(7, .int (nI 0)), (6, .int (nI y)), (5, .int (nI 0)), (4, .int (nI 0)), (0, .ref (a 0)), (1, .int (nI dd)), (2, .int (nI y)), (3, .int (nI 0))]) hx hb dX6_nights_47 hl (by decide) rfl (fun ls hl => ?_)
  have K_7 : ∀ n9 : Nat, ∀ (x : Nat) (w : Nat) (z : Nat) (n : Nat), n ≤ dd → (x, w, z) = (ngo b q.2.2.2.1 q.1 (0, 0, y) n) → z < 2 ^ 31 → x ≤ 5 * n → w ≤ 5 * n → dd - n < n9 → ∀ ls : Array Slot, lv_has ls 11 [(0, .ref (a 0)), (1, .int (nI dd)), (3, .int (nI 0)), (4, .int (nI x)), (5, .int (nI w)), (6, .int (nI z)), (7, .int (nI n))] → W p l e (headSpec (wA yX6_nights cX6_nights 11 (some .int)) ({ frames := 3, cells := 0, slots := 0, locals := 72 })).room s m args below meth c s.heap [] 0 0 (MQ below (vp_Si (fun z9 => z9 = (let z := ngo b q.2.2.2.1 q.1 (0, 0, y) dd; if 0 = 0 then nI z.1 else if 0 = 1 then nI z.2.1 else nI z.2.2))) args s 0 0 (fun _ => False)) (F0 m 49 ls []) := by
    intro n9
    induction n9 with
    | zero => intros; omega
    | succ n9 ih_8 =>
      intro x w z n hn hz0 hzl0 hxl0 hwl0 hn9 ls hl
      refine lv_iload hx hb dX6_nights_49 (lv_at hl 6 rfl) ?_
      refine lv_iload_n hx hb dX6_nights_51 rfl (lv_at hl 1 rfl) ?_
      refine j_icmp_ge (tgt := 152) hx hb dX6_nights_52 (by decide) (nI_toInt (by omega)) (nI_toInt (by omega)) (fun c_9 => ?_) (fun c_9 => ?_)
      · refine lv_iload_n hx hb dX6_nights_152 rfl (lv_at hl 2 rfl) ?_
        refine j_if_ne (tgt := 161) hx hb dX6_nights_153 (by decide) (nI_toInt (by decide)) (fun c_10 => absurd c_10 (by omega)) (fun c_10 => ?_)
        refine lv_iload hx hb dX6_nights_156 (lv_at hl 3 rfl) ?_
        refine lv_goto (tgt := 173) hx hb dX6_nights_158 (by decide) ?_
        exact ro_iret hx hb hr hlocks (by dsimp only; rw [show dd = n by omega, ← hz0]; rfl) dX6_nights_173
      · refine lv_iconst (v := nI 0) hx hb dX6_nights_55 (by decide) ?_
        refine lv_istore (lv' := [(8, .int (nI 0)), (0, .ref (a 0)), (1, .int (nI dd)), (3, .int (nI 0)), (4, .int (nI x)), (5, .int (nI w)), (6, .int (nI z)), (7, .int (nI n))]) hx hb dX6_nights_56 hl (by decide) rfl (fun ls hl => ?_)
        have K_11 : ∀ n9 : Nat, ∀ (x : Nat) (w : Nat) (z : Nat) (i : Nat), i ≤ q.1 → (x, w, z) = (ngs b q.2.2.2.1 n (ngo b q.2.2.2.1 q.1 (0, 0, y) n) i) → z < 2 ^ 31 → x ≤ 5 * n + i → w ≤ 5 * n + i → q.1 - i < n9 → ∀ ls : Array Slot, lv_has ls 11 [(0, .ref (a 0)), (1, .int (nI dd)), (3, .int (nI 0)), (4, .int (nI x)), (5, .int (nI w)), (6, .int (nI z)), (7, .int (nI n)), (8, .int (nI i))] → W p l e (headSpec (wA yX6_nights cX6_nights 11 (some .int)) ({ frames := 3, cells := 0, slots := 0, locals := 72 })).room s m args below meth c s.heap [] 0 0 (MQ below (vp_Si (fun z9 => z9 = (let z := ngo b q.2.2.2.1 q.1 (0, 0, y) dd; if 0 = 0 then nI z.1 else if 0 = 1 then nI z.2.1 else nI z.2.2))) args s 0 0 (fun _ => False)) (F0 m 58 ls []) := by
          intro n9
          induction n9 with
          | zero => intros; omega
          | succ n9 ih_12 =>
            intro x w z i hi hz hzl hxl hwl hn9 ls hl
            have hg9 := ngd_le (nxs z)
            refine lv_iload hx hb dX6_nights_58 (lv_at hl 7 rfl) ?_
            refine lv_aload_n hx hb dX6_nights_60 rfl (lv_at hl 0 rfl) ?_
            refine va_get (D := D) (ci := 6) (v := .ref (r 0)) (C := RX6) (T := TX6) (N := 7) hx hb hts iX6 hown hK hP 0 rfl rfl 2 (by decide) (hts _ mg_153) (fun _ h9 => h9) rfl dX6_nights_61 ?_
            refine va_get (D := D) (ci := 3) (v := .int (nI q.1)) (C := RX3) (T := TX3) (N := 5) hx hb hts iX3 hown hK hP 7 rfl rfl 2 (by decide) (hts _ mg_135) (fun _ h9 => h9) rfl dX6_nights_64 ?_
            refine j_icmp_ge (tgt := 146) hx hb dX6_nights_67 (by decide) (nI_toInt (by omega)) (nI_toInt (by omega)) (fun c_13 => ?_) (fun c_13 => ?_)
            · refine lv_iinc (v := nI (n + 1)) (lv' := [(7, .int (nI (n + 1))), (0, .ref (a 0)), (1, .int (nI dd)), (3, .int (nI 0)), (4, .int (nI x)), (5, .int (nI w)), (6, .int (nI z)), (8, .int (nI i))]) hx hb dX6_nights_146 hl (k := 6) rfl (fr_inc1 _) (by decide) rfl (fun ls hl => ?_)
              refine lv_goto (tgt := 49) hx hb dX6_nights_149 (by decide) ?_
              exact ih_8 x w z (n + 1) (by omega) (by rw [hz, show i = q.1 by omega]; rfl) (hzl) (by omega) (by omega) (by omega) _ (lv_sub hl [1, 2, 3, 4, 5, 6, 0] rfl)
            · obtain ⟨hk0, hv0, hw0, hp0⟩ := hT.2.2.1 i (by omega)
              refine lv_aload_n hx hb dX6_nights_70 rfl (lv_at hl 0 rfl) ?_
              refine va_get (D := D) (ci := 6) (v := .ref (r 0)) (C := RX6) (T := TX6) (N := 7) hx hb hts iX6 hown hK hP 0 rfl rfl 2 (by decide) (hts _ mg_153) (fun _ h9 => h9) rfl dX6_nights_71 ?_
              refine lv_iload hx hb dX6_nights_74 (lv_at hl 7 rfl) ?_
              refine ro_qV (n := 1) (As := [.int (nI i)]) ⟨hx, hb, hml, hown, hts⟩ (c_X3_tapAt l D r cI cT cN q i (by omega) ht5) (cwV 1 hts (gV mg_290 mg_259 mg_260 mg_5 mg_261) rfl rfl rfl vd_X3_tapAt ⟨Nat.le_of_ble_eq_true rfl, Nat.le_of_ble_eq_true rfl⟩) (va_recv hK hP (ci := 3) (q0 := 7) rfl rfl) hK (cW_r hP) rfl hl.1 rfl (Nat.le_of_ble_eq_true rfl) dX6_nights_76 ⟨Nat.zero_le _, Nat.zero_le _⟩ ?_
              refine lv_astore (lv' := [(9, .ref (r (3 + i))), (0, .ref (a 0)), (1, .int (nI dd)), (3, .int (nI 0)), (4, .int (nI x)), (5, .int (nI w)), (6, .int (nI z)), (7, .int (nI n)), (8, .int (nI i))]) hx hb dX6_nights_79 hl (by decide) rfl (fun ls hl => ?_)
              refine lv_aload hx hb dX6_nights_81 (lv_at hl 0 rfl) ?_
              refine lv_ifnonnull (tgt := 89) hx hb dX6_nights_83 (by decide) ?_
              refine lv_iload hx hb dX6_nights_89 (lv_at hl 6 rfl) ?_
              refine ro_iS (n := 1) (As := [.int (nI z)]) ⟨hx, hb, hml, hown, hts⟩ (c_X6_nextSeed l D z (by omega)) (cwS 1 hts (gS mg_400 mg_401 mg_1 mg_402) rfl rfl rfl vd_X6_nextSeed ⟨Nat.le_of_ble_eq_true rfl, Nat.le_of_ble_eq_true rfl⟩)  (hK.sub [] rfl) (fun k q h => by simp at h) rfl hl.1 rfl (Nat.le_of_ble_eq_true rfl) dX6_nights_91 ⟨Nat.zero_le _, Nat.zero_le _⟩ ?_
              refine lv_istore (lv' := [(6, .int (nI (nxs z))), (9, .ref (r (3 + i))), (0, .ref (a 0)), (1, .int (nI dd)), (3, .int (nI 0)), (4, .int (nI x)), (5, .int (nI w)), (7, .int (nI n)), (8, .int (nI i))]) hx hb dX6_nights_94 hl (by decide) rfl (fun ls hl => ?_)
              refine lv_iload hx hb dX6_nights_96 (lv_at hl 0 rfl) ?_
              refine ro_iS (n := 1) (As := [.int (nI (nxs z))]) ⟨hx, hb, hml, hown, hts⟩ (c_X6_drawOf l D (nxs z) (nxs_lt _)) (cwS 1 hts (gS mg_406 mg_407 mg_1 mg_408) rfl rfl rfl vd_X6_drawOf ⟨Nat.le_of_ble_eq_true rfl, Nat.le_of_ble_eq_true rfl⟩)  (hK.sub [] rfl) (fun k q h => by simp at h) rfl hl.1 rfl (Nat.le_of_ble_eq_true rfl) dX6_nights_98 ⟨Nat.zero_le _, Nat.zero_le _⟩ ?_
              refine j_if_ne (tgt := 108) hx hb dX6_nights_101 (by decide) (nI_toInt (by omega)) (fun c_14 => ?_) (fun c_14 => ?_)
              · refine lv_iconst (v := nI 0) hx hb dX6_nights_108 (by decide) ?_
                refine n_top (y := nI (ngd (nxs z))) (congrArg nI (by unfold ngd; rw [if_neg (by omega)])) ?_
                refine lv_istore (lv' := [(10, .int (nI (ngd (nxs z)))), (6, .int (nI (nxs z))), (9, .ref (r (3 + i))), (0, .ref (a 0)), (1, .int (nI dd)), (3, .int (nI 0)), (4, .int (nI x)), (5, .int (nI w)), (7, .int (nI n)), (8, .int (nI i))]) hx hb dX6_nights_109 hl (by decide) rfl (fun ls hl => ?_)
                refine lv_iload hx hb dX6_nights_111 (lv_at hl 7 rfl) ?_
                refine lv_iload hx hb dX6_nights_113 (lv_at hl 0 rfl) ?_
                refine n_iadd hx hb dX6_nights_115 ?_
                refine lv_istore (lv' := [(5, .int (nI (w + (ngd (nxs z))))), (10, .int (nI (ngd (nxs z)))), (6, .int (nI (nxs z))), (9, .ref (r (3 + i))), (0, .ref (a 0)), (1, .int (nI dd)), (3, .int (nI 0)), (4, .int (nI x)), (7, .int (nI n)), (8, .int (nI i))]) hx hb dX6_nights_116 hl (by decide) rfl (fun ls hl => ?_)
                refine lv_iload hx hb dX6_nights_118 (lv_at hl 7 rfl) ?_
                refine lv_aload_n hx hb dX6_nights_120 rfl (lv_at hl 4 rfl) ?_
                refine lv_aload hx hb dX6_nights_121 (lv_at hl 3 rfl) ?_
                refine lv_aload hx hb dX6_nights_123 (lv_at hl 3 rfl) ?_
                refine va_get (D := D) (ci := 5) (v := .int (nI (q.2.2.2.1 i 3))) (C := RX5) (T := TX5) (N := 5) hx hb hts iX5 hown hK hP (10 + i) (cW_tap (by omega)) rfl 4 (by decide) (hts _ mg_92) (fun _ h9 => h9) rfl dX6_nights_125 ?_
                refine lv_iload hx hb dX6_nights_128 (lv_at hl 8 rfl) ?_
                refine n_iadd hx hb dX6_nights_130 ?_
                refine ro_iV (n := 2) (As := [.ref (r (3 + i)), .int (nI ((q.2.2.2.1 i 3) + n))]) ⟨hx, hb, hml, hown, hts⟩ (c_X6_dripOf l D a r k cI cT cN 1 xi xr pn pc rd B L q kq b hS hok9 hT i (by omega) ((q.2.2.2.1 i 3) + n) (by omega)) (cwV 2 hts (gV mg_344 mg_346 mg_1011 mg_1 mg_347) rfl rfl rfl vd_X6_dripOf ⟨Nat.le_of_ble_eq_true rfl, Nat.le_of_ble_eq_true rfl⟩) (va_recv hK hP (ci := 6) (q0 := 0) rfl rfl) hK hP rfl hl.1 rfl (Nat.le_of_ble_eq_true rfl) dX6_nights_131 ⟨Nat.zero_le _, Nat.zero_le _⟩ ?_
                have hd9 := sd_le hok9 (kd := q.2.2.2.1 i 0) (w := q.2.2.2.1 i 2) (n := q.2.2.2.1 i 3 + n) (v := q.2.2.2.1 i 1) (by omega)
                refine lv_iload hx hb dX6_nights_134 (lv_at hl 1 rfl) ?_
                refine n_ixor hx hb dX6_nights_136 ?_
                have hx9 : sd b (q.2.2.2.1 i 0) (q.2.2.2.1 i 2) (q.2.2.2.1 i 1) (q.2.2.2.1 i 3 + n) ^^^ ngd (nxs z) ≤ 1 := xor_le hd9 hg9
                refine n_iadd hx hb dX6_nights_137 ?_
                refine lv_istore (lv' := [(4, .int (nI (x + ((sd b (q.2.2.2.1 i 0) (q.2.2.2.1 i 2) (q.2.2.2.1 i 1) ((q.2.2.2.1 i 3) + n)) ^^^ (ngd (nxs z)))))), (5, .int (nI (w + (ngd (nxs z))))), (10, .int (nI (ngd (nxs z)))), (6, .int (nI (nxs z))), (9, .ref (r (3 + i))), (0, .ref (a 0)), (1, .int (nI dd)), (3, .int (nI 0)), (7, .int (nI n)), (8, .int (nI i))]) hx hb dX6_nights_138 hl (by decide) rfl (fun ls hl => ?_)
                refine lv_iinc (v := nI (i + 1)) (lv' := [(8, .int (nI (i + 1))), (4, .int (nI (x + ((sd b (q.2.2.2.1 i 0) (q.2.2.2.1 i 2) (q.2.2.2.1 i 1) ((q.2.2.2.1 i 3) + n)) ^^^ (ngd (nxs z)))))), (5, .int (nI (w + (ngd (nxs z))))), (10, .int (nI (ngd (nxs z)))), (6, .int (nI (nxs z))), (9, .ref (r (3 + i))), (0, .ref (a 0)), (1, .int (nI dd)), (3, .int (nI 0)), (7, .int (nI n))]) hx hb dX6_nights_140 hl (k := 9) rfl (fr_inc1 _) (by decide) rfl (fun ls hl => ?_)
                refine lv_goto (tgt := 58) hx hb dX6_nights_143 (by decide) ?_
                exact ih_12 (x + ((sd b (q.2.2.2.1 i 0) (q.2.2.2.1 i 2) (q.2.2.2.1 i 1) ((q.2.2.2.1 i 3) + n)) ^^^ (ngd (nxs z)))) (w + (ngd (nxs z))) (nxs z) (i + 1) (by omega) (by rw [ngs, ← hz]; rfl) (nxs_lt _) (by omega) (by omega) (by omega) _ (lv_sub hl [6, 7, 8, 1, 2, 4, 9, 0] rfl)
              · refine lv_iconst (v := nI 1) hx hb dX6_nights_104 (by decide) ?_
                refine lv_goto (tgt := 109) hx hb dX6_nights_105 (by decide) ?_
                refine n_top (y := nI (ngd (nxs z))) (congrArg nI (by unfold ngd; rw [if_pos (by omega)])) ?_
                refine lv_istore (lv' := [(10, .int (nI (ngd (nxs z)))), (6, .int (nI (nxs z))), (9, .ref (r (3 + i))), (0, .ref (a 0)), (1, .int (nI dd)), (3, .int (nI 0)), (4, .int (nI x)), (5, .int (nI w)), (7, .int (nI n)), (8, .int (nI i))]) hx hb dX6_nights_109 hl (by decide) rfl (fun ls hl => ?_)
                refine lv_iload hx hb dX6_nights_111 (lv_at hl 7 rfl) ?_
                refine lv_iload hx hb dX6_nights_113 (lv_at hl 0 rfl) ?_
                refine n_iadd hx hb dX6_nights_115 ?_
                refine lv_istore (lv' := [(5, .int (nI (w + (ngd (nxs z))))), (10, .int (nI (ngd (nxs z)))), (6, .int (nI (nxs z))), (9, .ref (r (3 + i))), (0, .ref (a 0)), (1, .int (nI dd)), (3, .int (nI 0)), (4, .int (nI x)), (7, .int (nI n)), (8, .int (nI i))]) hx hb dX6_nights_116 hl (by decide) rfl (fun ls hl => ?_)
                refine lv_iload hx hb dX6_nights_118 (lv_at hl 7 rfl) ?_
                refine lv_aload_n hx hb dX6_nights_120 rfl (lv_at hl 4 rfl) ?_
                refine lv_aload hx hb dX6_nights_121 (lv_at hl 3 rfl) ?_
                refine lv_aload hx hb dX6_nights_123 (lv_at hl 3 rfl) ?_
                refine va_get (D := D) (ci := 5) (v := .int (nI (q.2.2.2.1 i 3))) (C := RX5) (T := TX5) (N := 5) hx hb hts iX5 hown hK hP (10 + i) (cW_tap (by omega)) rfl 4 (by decide) (hts _ mg_92) (fun _ h9 => h9) rfl dX6_nights_125 ?_
                refine lv_iload hx hb dX6_nights_128 (lv_at hl 8 rfl) ?_
                refine n_iadd hx hb dX6_nights_130 ?_
                refine ro_iV (n := 2) (As := [.ref (r (3 + i)), .int (nI ((q.2.2.2.1 i 3) + n))]) ⟨hx, hb, hml, hown, hts⟩ (c_X6_dripOf l D a r k cI cT cN 1 xi xr pn pc rd B L q kq b hS hok9 hT i (by omega) ((q.2.2.2.1 i 3) + n) (by omega)) (cwV 2 hts (gV mg_344 mg_346 mg_1011 mg_1 mg_347) rfl rfl rfl vd_X6_dripOf ⟨Nat.le_of_ble_eq_true rfl, Nat.le_of_ble_eq_true rfl⟩) (va_recv hK hP (ci := 6) (q0 := 0) rfl rfl) hK hP rfl hl.1 rfl (Nat.le_of_ble_eq_true rfl) dX6_nights_131 ⟨Nat.zero_le _, Nat.zero_le _⟩ ?_
                have hd9 := sd_le hok9 (kd := q.2.2.2.1 i 0) (w := q.2.2.2.1 i 2) (n := q.2.2.2.1 i 3 + n) (v := q.2.2.2.1 i 1) (by omega)
                refine lv_iload hx hb dX6_nights_134 (lv_at hl 1 rfl) ?_
                refine n_ixor hx hb dX6_nights_136 ?_
                have hx9 : sd b (q.2.2.2.1 i 0) (q.2.2.2.1 i 2) (q.2.2.2.1 i 1) (q.2.2.2.1 i 3 + n) ^^^ ngd (nxs z) ≤ 1 := xor_le hd9 hg9
                refine n_iadd hx hb dX6_nights_137 ?_
                refine lv_istore (lv' := [(4, .int (nI (x + ((sd b (q.2.2.2.1 i 0) (q.2.2.2.1 i 2) (q.2.2.2.1 i 1) ((q.2.2.2.1 i 3) + n)) ^^^ (ngd (nxs z)))))), (5, .int (nI (w + (ngd (nxs z))))), (10, .int (nI (ngd (nxs z)))), (6, .int (nI (nxs z))), (9, .ref (r (3 + i))), (0, .ref (a 0)), (1, .int (nI dd)), (3, .int (nI 0)), (7, .int (nI n)), (8, .int (nI i))]) hx hb dX6_nights_138 hl (by decide) rfl (fun ls hl => ?_)
                refine lv_iinc (v := nI (i + 1)) (lv' := [(8, .int (nI (i + 1))), (4, .int (nI (x + ((sd b (q.2.2.2.1 i 0) (q.2.2.2.1 i 2) (q.2.2.2.1 i 1) ((q.2.2.2.1 i 3) + n)) ^^^ (ngd (nxs z)))))), (5, .int (nI (w + (ngd (nxs z))))), (10, .int (nI (ngd (nxs z)))), (6, .int (nI (nxs z))), (9, .ref (r (3 + i))), (0, .ref (a 0)), (1, .int (nI dd)), (3, .int (nI 0)), (7, .int (nI n))]) hx hb dX6_nights_140 hl (k := 9) rfl (fr_inc1 _) (by decide) rfl (fun ls hl => ?_)
                refine lv_goto (tgt := 58) hx hb dX6_nights_143 (by decide) ?_
                exact ih_12 (x + ((sd b (q.2.2.2.1 i 0) (q.2.2.2.1 i 2) (q.2.2.2.1 i 1) ((q.2.2.2.1 i 3) + n)) ^^^ (ngd (nxs z)))) (w + (ngd (nxs z))) (nxs z) (i + 1) (by omega) (by rw [ngs, ← hz]; rfl) (nxs_lt _) (by omega) (by omega) (by omega) _ (lv_sub hl [6, 7, 8, 1, 2, 4, 9, 0] rfl)
        exact K_11 (q.1 - 0 + 1) x w z 0 (by omega) (by rw [hz0]; rfl) (by omega) (by omega) (by omega) (Nat.lt_succ_self _) _ (lv_sub hl [1, 2, 3, 4, 5, 6, 7, 0] rfl)
  exact K_7 (dd - 0 + 1) 0 0 y 0 (by omega) (rfl) (by omega) (by omega) (by omega) (Nat.lt_succ_self _) _ (lv_sub hl [4, 5, 7, 3, 2, 1, 0] rfl)

set_option maxHeartbeats 4000000 in
set_option maxRecDepth 100000 in
theorem c_X6_nightsI1 (l : Launch) (D : va_G) (a r k : Nat → Nat) (cI cT cN : ClassId) (xi xr pn : Nat) (pc : Nat → Int32) (rd : Nat × Nat × Nat) (B L : Nat → Int32) (q kq : RS) (b : Nat → Nat → Nat) (hS : SR b B L) (hokz : ¬ q.1 = 0 → hok b) (hT : Tok q) (h0 : ¬ q.1 = 0) (dd : Nat) (hd1 : 1 ≤ dd) (hd2 : dd < 41) (y : Nat) (hy : y < 2 ^ 31) : ROi l yX6_nights (wA yX6_nights cX6_nights 11 (some .int)) ({ frames := 3, cells := 0, slots := 0, locals := 72 }) D (cTys cI cT cN) (cW a r k cI cT cN 1 xi xr pn pc rd B L q kq) [.ref (a 0), .int (nI dd), .int (nI y), .int (nI 1)] (let z := ngo b q.2.2.2.1 q.1 (0, 0, y) dd; if 1 = 0 then nI z.1 else if 1 = 1 then nI z.2.1 else nI z.2.2) := by
  refine go_start (by decide) (Nat.le_of_ble_eq_true rfl) ?_
  intro p e s m args below meth c ls F _ hB hl
  obtain ⟨hx, hb, hr, hlocks, hml, hown, hts⟩ := F
  obtain ⟨hP, hK⟩ := hB
  have hown : s.vm.findClass RX6 = some m.cls := hown
  have hl : lv_has ls 11 [(0, .ref (a 0)), (1, .int (nI dd)), (2, .int (nI y)), (3, .int (nI 1))] := hl
  have ht5 := hT.1
  have ht8 := hT.2.1
  have hok9 := hokz h0
  refine lv_iload_n hx hb dX6_nights_0 rfl (lv_at hl 1 rfl) ?_
  refine lv_iconst (v := nI 1) hx hb dX6_nights_1 (by decide) ?_
  refine j_icmp_lt (tgt := 24) hx hb dX6_nights_2 (by decide) (nI_toInt (by omega)) (nI_toInt (by decide)) (fun c_1 => absurd c_1 (by omega)) (fun c_1 => ?_)
  refine lv_iload_n hx hb dX6_nights_5 rfl (lv_at hl 1 rfl) ?_
  refine lv_bipush (v := nI 40) hx hb dX6_nights_6 (by decide) ?_
  refine j_icmp_gt (tgt := 24) hx hb dX6_nights_8 (by decide) (nI_toInt (by omega)) (nI_toInt (by decide)) (fun c_2 => absurd c_2 (by omega)) (fun c_2 => ?_)
  refine lv_iload_n hx hb dX6_nights_11 rfl (lv_at hl 2 rfl) ?_
  refine j_if_lt (tgt := 24) hx hb dX6_nights_12 (by decide) (nI_toInt (by omega)) (fun c_3 => absurd c_3 (by omega)) (fun c_3 => ?_)
  refine lv_iload_n hx hb dX6_nights_15 rfl (lv_at hl 3 rfl) ?_
  refine j_if_lt (tgt := 24) hx hb dX6_nights_16 (by decide) (nI_toInt (by decide)) (fun c_4 => absurd c_4 (by omega)) (fun c_4 => ?_)
  refine lv_iload_n hx hb dX6_nights_19 rfl (lv_at hl 3 rfl) ?_
  refine lv_iconst (v := nI 2) hx hb dX6_nights_20 (by decide) ?_
  refine j_icmp_le (tgt := 27) hx hb dX6_nights_21 (by decide) (nI_toInt (by decide)) (nI_toInt (by decide)) (fun c_5 => ?_) (fun c_5 => absurd c_5 (by omega))
  refine lv_aload_n hx hb dX6_nights_27 rfl (lv_at hl 0 rfl) ?_
  refine va_get (D := D) (ci := 6) (v := .int (nI 1)) (C := RX6) (T := TX6) (N := 7) hx hb hts iX6 hown hK hP 0 rfl rfl 4 (by decide) (hts _ mg_155) (fun _ h9 => h9) rfl dX6_nights_28 ?_
  refine j_if_ne (tgt := 37) hx hb dX6_nights_31 (by decide) (nI_toInt (by decide)) (fun c_6 => ?_) (fun c_6 => absurd c_6 (by omega))
  refine lv_iconst (v := nI 0) hx hb dX6_nights_37 (by decide) ?_
  refine lv_istore (lv' := [(4, .int (nI 0)), (0, .ref (a 0)), (1, .int (nI dd)), (2, .int (nI y)), (3, .int (nI 1))]) hx hb dX6_nights_38 hl (by decide) rfl (fun ls hl => ?_)
  refine lv_iconst (v := nI 0) hx hb dX6_nights_40 (by decide) ?_
  refine lv_istore (lv' := [(5, .int (nI 0)), (4, .int (nI 0)), (0, .ref (a 0)), (1, .int (nI dd)), (2, .int (nI y)), (3, .int (nI 1))]) hx hb dX6_nights_41 hl (by decide) rfl (fun ls hl => ?_)
  refine lv_iload_n hx hb dX6_nights_43 rfl (lv_at hl 4 rfl) ?_
  refine lv_istore (lv' := [(6, .int (nI y)), (5, .int (nI 0)), (4, .int (nI 0)), (0, .ref (a 0)), (1, .int (nI dd)), (2, .int (nI y)), (3, .int (nI 1))]) hx hb dX6_nights_44 hl (by decide) rfl (fun ls hl => ?_)
  refine lv_iconst (v := nI 0) hx hb dX6_nights_46 (by decide) ?_
  refine lv_istore (lv' := [(7, .int (nI 0)), (6, .int (nI y)), (5, .int (nI 0)), (4, .int (nI 0)), (0, .ref (a 0)), (1, .int (nI dd)), (2, .int (nI y)), (3, .int (nI 1))]) hx hb dX6_nights_47 hl (by decide) rfl (fun ls hl => ?_)
  have K_7 : ∀ n9 : Nat, ∀ (x : Nat) (w : Nat) (z : Nat) (n : Nat), n ≤ dd → (x, w, z) = (ngo b q.2.2.2.1 q.1 (0, 0, y) n) → z < 2 ^ 31 → x ≤ 5 * n → w ≤ 5 * n → dd - n < n9 → ∀ ls : Array Slot, lv_has ls 11 [(0, .ref (a 0)), (1, .int (nI dd)), (3, .int (nI 1)), (4, .int (nI x)), (5, .int (nI w)), (6, .int (nI z)), (7, .int (nI n))] → W p l e (headSpec (wA yX6_nights cX6_nights 11 (some .int)) ({ frames := 3, cells := 0, slots := 0, locals := 72 })).room s m args below meth c s.heap [] 0 0 (MQ below (vp_Si (fun z9 => z9 = (let z := ngo b q.2.2.2.1 q.1 (0, 0, y) dd; if 1 = 0 then nI z.1 else if 1 = 1 then nI z.2.1 else nI z.2.2))) args s 0 0 (fun _ => False)) (F0 m 49 ls []) := by
    intro n9
    induction n9 with
    | zero => intros; omega
    | succ n9 ih_8 =>
      intro x w z n hn hz0 hzl0 hxl0 hwl0 hn9 ls hl
      refine lv_iload hx hb dX6_nights_49 (lv_at hl 6 rfl) ?_
      refine lv_iload_n hx hb dX6_nights_51 rfl (lv_at hl 1 rfl) ?_
      refine j_icmp_ge (tgt := 152) hx hb dX6_nights_52 (by decide) (nI_toInt (by omega)) (nI_toInt (by omega)) (fun c_9 => ?_) (fun c_9 => ?_)
      · refine lv_iload_n hx hb dX6_nights_152 rfl (lv_at hl 2 rfl) ?_
        refine j_if_ne (tgt := 161) hx hb dX6_nights_153 (by decide) (nI_toInt (by decide)) (fun c_10 => ?_) (fun c_10 => absurd c_10 (by omega))
        refine lv_iload_n hx hb dX6_nights_161 rfl (lv_at hl 2 rfl) ?_
        refine lv_iconst (v := nI 1) hx hb dX6_nights_162 (by decide) ?_
        refine j_icmp_ne (tgt := 171) hx hb dX6_nights_163 (by decide) (nI_toInt (by decide)) (nI_toInt (by decide)) (fun c_11 => absurd c_11 (by omega)) (fun c_11 => ?_)
        refine lv_iload hx hb dX6_nights_166 (lv_at hl 4 rfl) ?_
        refine lv_goto (tgt := 173) hx hb dX6_nights_168 (by decide) ?_
        exact ro_iret hx hb hr hlocks (by dsimp only; rw [show dd = n by omega, ← hz0]; rfl) dX6_nights_173
      · refine lv_iconst (v := nI 0) hx hb dX6_nights_55 (by decide) ?_
        refine lv_istore (lv' := [(8, .int (nI 0)), (0, .ref (a 0)), (1, .int (nI dd)), (3, .int (nI 1)), (4, .int (nI x)), (5, .int (nI w)), (6, .int (nI z)), (7, .int (nI n))]) hx hb dX6_nights_56 hl (by decide) rfl (fun ls hl => ?_)
        have K_12 : ∀ n9 : Nat, ∀ (x : Nat) (w : Nat) (z : Nat) (i : Nat), i ≤ q.1 → (x, w, z) = (ngs b q.2.2.2.1 n (ngo b q.2.2.2.1 q.1 (0, 0, y) n) i) → z < 2 ^ 31 → x ≤ 5 * n + i → w ≤ 5 * n + i → q.1 - i < n9 → ∀ ls : Array Slot, lv_has ls 11 [(0, .ref (a 0)), (1, .int (nI dd)), (3, .int (nI 1)), (4, .int (nI x)), (5, .int (nI w)), (6, .int (nI z)), (7, .int (nI n)), (8, .int (nI i))] → W p l e (headSpec (wA yX6_nights cX6_nights 11 (some .int)) ({ frames := 3, cells := 0, slots := 0, locals := 72 })).room s m args below meth c s.heap [] 0 0 (MQ below (vp_Si (fun z9 => z9 = (let z := ngo b q.2.2.2.1 q.1 (0, 0, y) dd; if 1 = 0 then nI z.1 else if 1 = 1 then nI z.2.1 else nI z.2.2))) args s 0 0 (fun _ => False)) (F0 m 58 ls []) := by
          intro n9
          induction n9 with
          | zero => intros; omega
          | succ n9 ih_13 =>
            intro x w z i hi hz hzl hxl hwl hn9 ls hl
            have hg9 := ngd_le (nxs z)
            refine lv_iload hx hb dX6_nights_58 (lv_at hl 7 rfl) ?_
            refine lv_aload_n hx hb dX6_nights_60 rfl (lv_at hl 0 rfl) ?_
            refine va_get (D := D) (ci := 6) (v := .ref (r 0)) (C := RX6) (T := TX6) (N := 7) hx hb hts iX6 hown hK hP 0 rfl rfl 2 (by decide) (hts _ mg_153) (fun _ h9 => h9) rfl dX6_nights_61 ?_
            refine va_get (D := D) (ci := 3) (v := .int (nI q.1)) (C := RX3) (T := TX3) (N := 5) hx hb hts iX3 hown hK hP 7 rfl rfl 2 (by decide) (hts _ mg_135) (fun _ h9 => h9) rfl dX6_nights_64 ?_
            refine j_icmp_ge (tgt := 146) hx hb dX6_nights_67 (by decide) (nI_toInt (by omega)) (nI_toInt (by omega)) (fun c_14 => ?_) (fun c_14 => ?_)
            · refine lv_iinc (v := nI (n + 1)) (lv' := [(7, .int (nI (n + 1))), (0, .ref (a 0)), (1, .int (nI dd)), (3, .int (nI 1)), (4, .int (nI x)), (5, .int (nI w)), (6, .int (nI z)), (8, .int (nI i))]) hx hb dX6_nights_146 hl (k := 6) rfl (fr_inc1 _) (by decide) rfl (fun ls hl => ?_)
              refine lv_goto (tgt := 49) hx hb dX6_nights_149 (by decide) ?_
              exact ih_8 x w z (n + 1) (by omega) (by rw [hz, show i = q.1 by omega]; rfl) (hzl) (by omega) (by omega) (by omega) _ (lv_sub hl [1, 2, 3, 4, 5, 6, 0] rfl)
            · obtain ⟨hk0, hv0, hw0, hp0⟩ := hT.2.2.1 i (by omega)
              refine lv_aload_n hx hb dX6_nights_70 rfl (lv_at hl 0 rfl) ?_
              refine va_get (D := D) (ci := 6) (v := .ref (r 0)) (C := RX6) (T := TX6) (N := 7) hx hb hts iX6 hown hK hP 0 rfl rfl 2 (by decide) (hts _ mg_153) (fun _ h9 => h9) rfl dX6_nights_71 ?_
              refine lv_iload hx hb dX6_nights_74 (lv_at hl 7 rfl) ?_
              refine ro_qV (n := 1) (As := [.int (nI i)]) ⟨hx, hb, hml, hown, hts⟩ (c_X3_tapAt l D r cI cT cN q i (by omega) ht5) (cwV 1 hts (gV mg_290 mg_259 mg_260 mg_5 mg_261) rfl rfl rfl vd_X3_tapAt ⟨Nat.le_of_ble_eq_true rfl, Nat.le_of_ble_eq_true rfl⟩) (va_recv hK hP (ci := 3) (q0 := 7) rfl rfl) hK (cW_r hP) rfl hl.1 rfl (Nat.le_of_ble_eq_true rfl) dX6_nights_76 ⟨Nat.zero_le _, Nat.zero_le _⟩ ?_
              refine lv_astore (lv' := [(9, .ref (r (3 + i))), (0, .ref (a 0)), (1, .int (nI dd)), (3, .int (nI 1)), (4, .int (nI x)), (5, .int (nI w)), (6, .int (nI z)), (7, .int (nI n)), (8, .int (nI i))]) hx hb dX6_nights_79 hl (by decide) rfl (fun ls hl => ?_)
              refine lv_aload hx hb dX6_nights_81 (lv_at hl 0 rfl) ?_
              refine lv_ifnonnull (tgt := 89) hx hb dX6_nights_83 (by decide) ?_
              refine lv_iload hx hb dX6_nights_89 (lv_at hl 6 rfl) ?_
              refine ro_iS (n := 1) (As := [.int (nI z)]) ⟨hx, hb, hml, hown, hts⟩ (c_X6_nextSeed l D z (by omega)) (cwS 1 hts (gS mg_400 mg_401 mg_1 mg_402) rfl rfl rfl vd_X6_nextSeed ⟨Nat.le_of_ble_eq_true rfl, Nat.le_of_ble_eq_true rfl⟩)  (hK.sub [] rfl) (fun k q h => by simp at h) rfl hl.1 rfl (Nat.le_of_ble_eq_true rfl) dX6_nights_91 ⟨Nat.zero_le _, Nat.zero_le _⟩ ?_
              refine lv_istore (lv' := [(6, .int (nI (nxs z))), (9, .ref (r (3 + i))), (0, .ref (a 0)), (1, .int (nI dd)), (3, .int (nI 1)), (4, .int (nI x)), (5, .int (nI w)), (7, .int (nI n)), (8, .int (nI i))]) hx hb dX6_nights_94 hl (by decide) rfl (fun ls hl => ?_)
              refine lv_iload hx hb dX6_nights_96 (lv_at hl 0 rfl) ?_
              refine ro_iS (n := 1) (As := [.int (nI (nxs z))]) ⟨hx, hb, hml, hown, hts⟩ (c_X6_drawOf l D (nxs z) (nxs_lt _)) (cwS 1 hts (gS mg_406 mg_407 mg_1 mg_408) rfl rfl rfl vd_X6_drawOf ⟨Nat.le_of_ble_eq_true rfl, Nat.le_of_ble_eq_true rfl⟩)  (hK.sub [] rfl) (fun k q h => by simp at h) rfl hl.1 rfl (Nat.le_of_ble_eq_true rfl) dX6_nights_98 ⟨Nat.zero_le _, Nat.zero_le _⟩ ?_
              refine j_if_ne (tgt := 108) hx hb dX6_nights_101 (by decide) (nI_toInt (by omega)) (fun c_15 => ?_) (fun c_15 => ?_)
              · refine lv_iconst (v := nI 0) hx hb dX6_nights_108 (by decide) ?_
                refine n_top (y := nI (ngd (nxs z))) (congrArg nI (by unfold ngd; rw [if_neg (by omega)])) ?_
                refine lv_istore (lv' := [(10, .int (nI (ngd (nxs z)))), (6, .int (nI (nxs z))), (9, .ref (r (3 + i))), (0, .ref (a 0)), (1, .int (nI dd)), (3, .int (nI 1)), (4, .int (nI x)), (5, .int (nI w)), (7, .int (nI n)), (8, .int (nI i))]) hx hb dX6_nights_109 hl (by decide) rfl (fun ls hl => ?_)
                refine lv_iload hx hb dX6_nights_111 (lv_at hl 7 rfl) ?_
                refine lv_iload hx hb dX6_nights_113 (lv_at hl 0 rfl) ?_
                refine n_iadd hx hb dX6_nights_115 ?_
                refine lv_istore (lv' := [(5, .int (nI (w + (ngd (nxs z))))), (10, .int (nI (ngd (nxs z)))), (6, .int (nI (nxs z))), (9, .ref (r (3 + i))), (0, .ref (a 0)), (1, .int (nI dd)), (3, .int (nI 1)), (4, .int (nI x)), (7, .int (nI n)), (8, .int (nI i))]) hx hb dX6_nights_116 hl (by decide) rfl (fun ls hl => ?_)
                refine lv_iload hx hb dX6_nights_118 (lv_at hl 7 rfl) ?_
                refine lv_aload_n hx hb dX6_nights_120 rfl (lv_at hl 4 rfl) ?_
                refine lv_aload hx hb dX6_nights_121 (lv_at hl 3 rfl) ?_
                refine lv_aload hx hb dX6_nights_123 (lv_at hl 3 rfl) ?_
                refine va_get (D := D) (ci := 5) (v := .int (nI (q.2.2.2.1 i 3))) (C := RX5) (T := TX5) (N := 5) hx hb hts iX5 hown hK hP (10 + i) (cW_tap (by omega)) rfl 4 (by decide) (hts _ mg_92) (fun _ h9 => h9) rfl dX6_nights_125 ?_
                refine lv_iload hx hb dX6_nights_128 (lv_at hl 8 rfl) ?_
                refine n_iadd hx hb dX6_nights_130 ?_
                refine ro_iV (n := 2) (As := [.ref (r (3 + i)), .int (nI ((q.2.2.2.1 i 3) + n))]) ⟨hx, hb, hml, hown, hts⟩ (c_X6_dripOf l D a r k cI cT cN 1 xi xr pn pc rd B L q kq b hS hok9 hT i (by omega) ((q.2.2.2.1 i 3) + n) (by omega)) (cwV 2 hts (gV mg_344 mg_346 mg_1011 mg_1 mg_347) rfl rfl rfl vd_X6_dripOf ⟨Nat.le_of_ble_eq_true rfl, Nat.le_of_ble_eq_true rfl⟩) (va_recv hK hP (ci := 6) (q0 := 0) rfl rfl) hK hP rfl hl.1 rfl (Nat.le_of_ble_eq_true rfl) dX6_nights_131 ⟨Nat.zero_le _, Nat.zero_le _⟩ ?_
                have hd9 := sd_le hok9 (kd := q.2.2.2.1 i 0) (w := q.2.2.2.1 i 2) (n := q.2.2.2.1 i 3 + n) (v := q.2.2.2.1 i 1) (by omega)
                refine lv_iload hx hb dX6_nights_134 (lv_at hl 1 rfl) ?_
                refine n_ixor hx hb dX6_nights_136 ?_
                have hx9 : sd b (q.2.2.2.1 i 0) (q.2.2.2.1 i 2) (q.2.2.2.1 i 1) (q.2.2.2.1 i 3 + n) ^^^ ngd (nxs z) ≤ 1 := xor_le hd9 hg9
                refine n_iadd hx hb dX6_nights_137 ?_
                refine lv_istore (lv' := [(4, .int (nI (x + ((sd b (q.2.2.2.1 i 0) (q.2.2.2.1 i 2) (q.2.2.2.1 i 1) ((q.2.2.2.1 i 3) + n)) ^^^ (ngd (nxs z)))))), (5, .int (nI (w + (ngd (nxs z))))), (10, .int (nI (ngd (nxs z)))), (6, .int (nI (nxs z))), (9, .ref (r (3 + i))), (0, .ref (a 0)), (1, .int (nI dd)), (3, .int (nI 1)), (7, .int (nI n)), (8, .int (nI i))]) hx hb dX6_nights_138 hl (by decide) rfl (fun ls hl => ?_)
                refine lv_iinc (v := nI (i + 1)) (lv' := [(8, .int (nI (i + 1))), (4, .int (nI (x + ((sd b (q.2.2.2.1 i 0) (q.2.2.2.1 i 2) (q.2.2.2.1 i 1) ((q.2.2.2.1 i 3) + n)) ^^^ (ngd (nxs z)))))), (5, .int (nI (w + (ngd (nxs z))))), (10, .int (nI (ngd (nxs z)))), (6, .int (nI (nxs z))), (9, .ref (r (3 + i))), (0, .ref (a 0)), (1, .int (nI dd)), (3, .int (nI 1)), (7, .int (nI n))]) hx hb dX6_nights_140 hl (k := 9) rfl (fr_inc1 _) (by decide) rfl (fun ls hl => ?_)
                refine lv_goto (tgt := 58) hx hb dX6_nights_143 (by decide) ?_
                exact ih_13 (x + ((sd b (q.2.2.2.1 i 0) (q.2.2.2.1 i 2) (q.2.2.2.1 i 1) ((q.2.2.2.1 i 3) + n)) ^^^ (ngd (nxs z)))) (w + (ngd (nxs z))) (nxs z) (i + 1) (by omega) (by rw [ngs, ← hz]; rfl) (nxs_lt _) (by omega) (by omega) (by omega) _ (lv_sub hl [6, 7, 8, 1, 2, 4, 9, 0] rfl)
              · refine lv_iconst (v := nI 1) hx hb dX6_nights_104 (by decide) ?_
                refine lv_goto (tgt := 109) hx hb dX6_nights_105 (by decide) ?_
                refine n_top (y := nI (ngd (nxs z))) (congrArg nI (by unfold ngd; rw [if_pos (by omega)])) ?_
                refine lv_istore (lv' := [(10, .int (nI (ngd (nxs z)))), (6, .int (nI (nxs z))), (9, .ref (r (3 + i))), (0, .ref (a 0)), (1, .int (nI dd)), (3, .int (nI 1)), (4, .int (nI x)), (5, .int (nI w)), (7, .int (nI n)), (8, .int (nI i))]) hx hb dX6_nights_109 hl (by decide) rfl (fun ls hl => ?_)
                refine lv_iload hx hb dX6_nights_111 (lv_at hl 7 rfl) ?_
                refine lv_iload hx hb dX6_nights_113 (lv_at hl 0 rfl) ?_
                refine n_iadd hx hb dX6_nights_115 ?_
                refine lv_istore (lv' := [(5, .int (nI (w + (ngd (nxs z))))), (10, .int (nI (ngd (nxs z)))), (6, .int (nI (nxs z))), (9, .ref (r (3 + i))), (0, .ref (a 0)), (1, .int (nI dd)), (3, .int (nI 1)), (4, .int (nI x)), (7, .int (nI n)), (8, .int (nI i))]) hx hb dX6_nights_116 hl (by decide) rfl (fun ls hl => ?_)
                refine lv_iload hx hb dX6_nights_118 (lv_at hl 7 rfl) ?_
                refine lv_aload_n hx hb dX6_nights_120 rfl (lv_at hl 4 rfl) ?_
                refine lv_aload hx hb dX6_nights_121 (lv_at hl 3 rfl) ?_
                refine lv_aload hx hb dX6_nights_123 (lv_at hl 3 rfl) ?_
                refine va_get (D := D) (ci := 5) (v := .int (nI (q.2.2.2.1 i 3))) (C := RX5) (T := TX5) (N := 5) hx hb hts iX5 hown hK hP (10 + i) (cW_tap (by omega)) rfl 4 (by decide) (hts _ mg_92) (fun _ h9 => h9) rfl dX6_nights_125 ?_
                refine lv_iload hx hb dX6_nights_128 (lv_at hl 8 rfl) ?_
                refine n_iadd hx hb dX6_nights_130 ?_
                refine ro_iV (n := 2) (As := [.ref (r (3 + i)), .int (nI ((q.2.2.2.1 i 3) + n))]) ⟨hx, hb, hml, hown, hts⟩ (c_X6_dripOf l D a r k cI cT cN 1 xi xr pn pc rd B L q kq b hS hok9 hT i (by omega) ((q.2.2.2.1 i 3) + n) (by omega)) (cwV 2 hts (gV mg_344 mg_346 mg_1011 mg_1 mg_347) rfl rfl rfl vd_X6_dripOf ⟨Nat.le_of_ble_eq_true rfl, Nat.le_of_ble_eq_true rfl⟩) (va_recv hK hP (ci := 6) (q0 := 0) rfl rfl) hK hP rfl hl.1 rfl (Nat.le_of_ble_eq_true rfl) dX6_nights_131 ⟨Nat.zero_le _, Nat.zero_le _⟩ ?_
                have hd9 := sd_le hok9 (kd := q.2.2.2.1 i 0) (w := q.2.2.2.1 i 2) (n := q.2.2.2.1 i 3 + n) (v := q.2.2.2.1 i 1) (by omega)
                refine lv_iload hx hb dX6_nights_134 (lv_at hl 1 rfl) ?_
                refine n_ixor hx hb dX6_nights_136 ?_
                have hx9 : sd b (q.2.2.2.1 i 0) (q.2.2.2.1 i 2) (q.2.2.2.1 i 1) (q.2.2.2.1 i 3 + n) ^^^ ngd (nxs z) ≤ 1 := xor_le hd9 hg9
                refine n_iadd hx hb dX6_nights_137 ?_
                refine lv_istore (lv' := [(4, .int (nI (x + ((sd b (q.2.2.2.1 i 0) (q.2.2.2.1 i 2) (q.2.2.2.1 i 1) ((q.2.2.2.1 i 3) + n)) ^^^ (ngd (nxs z)))))), (5, .int (nI (w + (ngd (nxs z))))), (10, .int (nI (ngd (nxs z)))), (6, .int (nI (nxs z))), (9, .ref (r (3 + i))), (0, .ref (a 0)), (1, .int (nI dd)), (3, .int (nI 1)), (7, .int (nI n)), (8, .int (nI i))]) hx hb dX6_nights_138 hl (by decide) rfl (fun ls hl => ?_)
                refine lv_iinc (v := nI (i + 1)) (lv' := [(8, .int (nI (i + 1))), (4, .int (nI (x + ((sd b (q.2.2.2.1 i 0) (q.2.2.2.1 i 2) (q.2.2.2.1 i 1) ((q.2.2.2.1 i 3) + n)) ^^^ (ngd (nxs z)))))), (5, .int (nI (w + (ngd (nxs z))))), (10, .int (nI (ngd (nxs z)))), (6, .int (nI (nxs z))), (9, .ref (r (3 + i))), (0, .ref (a 0)), (1, .int (nI dd)), (3, .int (nI 1)), (7, .int (nI n))]) hx hb dX6_nights_140 hl (k := 9) rfl (fr_inc1 _) (by decide) rfl (fun ls hl => ?_)
                refine lv_goto (tgt := 58) hx hb dX6_nights_143 (by decide) ?_
                exact ih_13 (x + ((sd b (q.2.2.2.1 i 0) (q.2.2.2.1 i 2) (q.2.2.2.1 i 1) ((q.2.2.2.1 i 3) + n)) ^^^ (ngd (nxs z)))) (w + (ngd (nxs z))) (nxs z) (i + 1) (by omega) (by rw [ngs, ← hz]; rfl) (nxs_lt _) (by omega) (by omega) (by omega) _ (lv_sub hl [6, 7, 8, 1, 2, 4, 9, 0] rfl)
        exact K_12 (q.1 - 0 + 1) x w z 0 (by omega) (by rw [hz0]; rfl) (by omega) (by omega) (by omega) (Nat.lt_succ_self _) _ (lv_sub hl [1, 2, 3, 4, 5, 6, 7, 0] rfl)
  exact K_7 (dd - 0 + 1) 0 0 y 0 (by omega) (rfl) (by omega) (by omega) (by omega) (Nat.lt_succ_self _) _ (lv_sub hl [4, 5, 7, 3, 2, 1, 0] rfl)

set_option maxHeartbeats 4000000 in
set_option maxRecDepth 100000 in
theorem c_X6_nightsI2 (l : Launch) (D : va_G) (a r k : Nat → Nat) (cI cT cN : ClassId) (xi xr pn : Nat) (pc : Nat → Int32) (rd : Nat × Nat × Nat) (B L : Nat → Int32) (q kq : RS) (b : Nat → Nat → Nat) (hS : SR b B L) (hokz : ¬ q.1 = 0 → hok b) (hT : Tok q) (h0 : ¬ q.1 = 0) (dd : Nat) (hd1 : 1 ≤ dd) (hd2 : dd < 41) (y : Nat) (hy : y < 2 ^ 31) : ROi l yX6_nights (wA yX6_nights cX6_nights 11 (some .int)) ({ frames := 3, cells := 0, slots := 0, locals := 72 }) D (cTys cI cT cN) (cW a r k cI cT cN 1 xi xr pn pc rd B L q kq) [.ref (a 0), .int (nI dd), .int (nI y), .int (nI 2)] (let z := ngo b q.2.2.2.1 q.1 (0, 0, y) dd; if 2 = 0 then nI z.1 else if 2 = 1 then nI z.2.1 else nI z.2.2) := by
  refine go_start (by decide) (Nat.le_of_ble_eq_true rfl) ?_
  intro p e s m args below meth c ls F _ hB hl
  obtain ⟨hx, hb, hr, hlocks, hml, hown, hts⟩ := F
  obtain ⟨hP, hK⟩ := hB
  have hown : s.vm.findClass RX6 = some m.cls := hown
  have hl : lv_has ls 11 [(0, .ref (a 0)), (1, .int (nI dd)), (2, .int (nI y)), (3, .int (nI 2))] := hl
  have ht5 := hT.1
  have ht8 := hT.2.1
  have hok9 := hokz h0
  refine lv_iload_n hx hb dX6_nights_0 rfl (lv_at hl 1 rfl) ?_
  refine lv_iconst (v := nI 1) hx hb dX6_nights_1 (by decide) ?_
  refine j_icmp_lt (tgt := 24) hx hb dX6_nights_2 (by decide) (nI_toInt (by omega)) (nI_toInt (by decide)) (fun c_1 => absurd c_1 (by omega)) (fun c_1 => ?_)
  refine lv_iload_n hx hb dX6_nights_5 rfl (lv_at hl 1 rfl) ?_
  refine lv_bipush (v := nI 40) hx hb dX6_nights_6 (by decide) ?_
  refine j_icmp_gt (tgt := 24) hx hb dX6_nights_8 (by decide) (nI_toInt (by omega)) (nI_toInt (by decide)) (fun c_2 => absurd c_2 (by omega)) (fun c_2 => ?_)
  refine lv_iload_n hx hb dX6_nights_11 rfl (lv_at hl 2 rfl) ?_
  refine j_if_lt (tgt := 24) hx hb dX6_nights_12 (by decide) (nI_toInt (by omega)) (fun c_3 => absurd c_3 (by omega)) (fun c_3 => ?_)
  refine lv_iload_n hx hb dX6_nights_15 rfl (lv_at hl 3 rfl) ?_
  refine j_if_lt (tgt := 24) hx hb dX6_nights_16 (by decide) (nI_toInt (by decide)) (fun c_4 => absurd c_4 (by omega)) (fun c_4 => ?_)
  refine lv_iload_n hx hb dX6_nights_19 rfl (lv_at hl 3 rfl) ?_
  refine lv_iconst (v := nI 2) hx hb dX6_nights_20 (by decide) ?_
  refine j_icmp_le (tgt := 27) hx hb dX6_nights_21 (by decide) (nI_toInt (by decide)) (nI_toInt (by decide)) (fun c_5 => ?_) (fun c_5 => absurd c_5 (by omega))
  refine lv_aload_n hx hb dX6_nights_27 rfl (lv_at hl 0 rfl) ?_
  refine va_get (D := D) (ci := 6) (v := .int (nI 1)) (C := RX6) (T := TX6) (N := 7) hx hb hts iX6 hown hK hP 0 rfl rfl 4 (by decide) (hts _ mg_155) (fun _ h9 => h9) rfl dX6_nights_28 ?_
  refine j_if_ne (tgt := 37) hx hb dX6_nights_31 (by decide) (nI_toInt (by decide)) (fun c_6 => ?_) (fun c_6 => absurd c_6 (by omega))
  refine lv_iconst (v := nI 0) hx hb dX6_nights_37 (by decide) ?_
  refine lv_istore (lv' := [(4, .int (nI 0)), (0, .ref (a 0)), (1, .int (nI dd)), (2, .int (nI y)), (3, .int (nI 2))]) hx hb dX6_nights_38 hl (by decide) rfl (fun ls hl => ?_)
  refine lv_iconst (v := nI 0) hx hb dX6_nights_40 (by decide) ?_
  refine lv_istore (lv' := [(5, .int (nI 0)), (4, .int (nI 0)), (0, .ref (a 0)), (1, .int (nI dd)), (2, .int (nI y)), (3, .int (nI 2))]) hx hb dX6_nights_41 hl (by decide) rfl (fun ls hl => ?_)
  refine lv_iload_n hx hb dX6_nights_43 rfl (lv_at hl 4 rfl) ?_
  refine lv_istore (lv' := [(6, .int (nI y)), (5, .int (nI 0)), (4, .int (nI 0)), (0, .ref (a 0)), (1, .int (nI dd)), (2, .int (nI y)), (3, .int (nI 2))]) hx hb dX6_nights_44 hl (by decide) rfl (fun ls hl => ?_)
  refine lv_iconst (v := nI 0) hx hb dX6_nights_46 (by decide) ?_
  refine lv_istore (lv' := [(7, .int (nI 0)), (6, .int (nI y)), (5, .int (nI 0)), (4, .int (nI 0)), (0, .ref (a 0)), (1, .int (nI dd)), (2, .int (nI y)), (3, .int (nI 2))]) hx hb dX6_nights_47 hl (by decide) rfl (fun ls hl => ?_)
  have K_7 : ∀ n9 : Nat, ∀ (x : Nat) (w : Nat) (z : Nat) (n : Nat), n ≤ dd → (x, w, z) = (ngo b q.2.2.2.1 q.1 (0, 0, y) n) → z < 2 ^ 31 → x ≤ 5 * n → w ≤ 5 * n → dd - n < n9 → ∀ ls : Array Slot, lv_has ls 11 [(0, .ref (a 0)), (1, .int (nI dd)), (3, .int (nI 2)), (4, .int (nI x)), (5, .int (nI w)), (6, .int (nI z)), (7, .int (nI n))] → W p l e (headSpec (wA yX6_nights cX6_nights 11 (some .int)) ({ frames := 3, cells := 0, slots := 0, locals := 72 })).room s m args below meth c s.heap [] 0 0 (MQ below (vp_Si (fun z9 => z9 = (let z := ngo b q.2.2.2.1 q.1 (0, 0, y) dd; if 2 = 0 then nI z.1 else if 2 = 1 then nI z.2.1 else nI z.2.2))) args s 0 0 (fun _ => False)) (F0 m 49 ls []) := by
    intro n9
    induction n9 with
    | zero => intros; omega
    | succ n9 ih_8 =>
      intro x w z n hn hz0 hzl0 hxl0 hwl0 hn9 ls hl
      refine lv_iload hx hb dX6_nights_49 (lv_at hl 6 rfl) ?_
      refine lv_iload_n hx hb dX6_nights_51 rfl (lv_at hl 1 rfl) ?_
      refine j_icmp_ge (tgt := 152) hx hb dX6_nights_52 (by decide) (nI_toInt (by omega)) (nI_toInt (by omega)) (fun c_9 => ?_) (fun c_9 => ?_)
      · refine lv_iload_n hx hb dX6_nights_152 rfl (lv_at hl 2 rfl) ?_
        refine j_if_ne (tgt := 161) hx hb dX6_nights_153 (by decide) (nI_toInt (by decide)) (fun c_10 => ?_) (fun c_10 => absurd c_10 (by omega))
        refine lv_iload_n hx hb dX6_nights_161 rfl (lv_at hl 2 rfl) ?_
        refine lv_iconst (v := nI 1) hx hb dX6_nights_162 (by decide) ?_
        refine j_icmp_ne (tgt := 171) hx hb dX6_nights_163 (by decide) (nI_toInt (by decide)) (nI_toInt (by decide)) (fun c_11 => ?_) (fun c_11 => absurd c_11 (by omega))
        refine lv_iload hx hb dX6_nights_171 (lv_at hl 5 rfl) ?_
        exact ro_iret hx hb hr hlocks (by dsimp only; rw [show dd = n by omega, ← hz0]; rfl) dX6_nights_173
      · refine lv_iconst (v := nI 0) hx hb dX6_nights_55 (by decide) ?_
        refine lv_istore (lv' := [(8, .int (nI 0)), (0, .ref (a 0)), (1, .int (nI dd)), (3, .int (nI 2)), (4, .int (nI x)), (5, .int (nI w)), (6, .int (nI z)), (7, .int (nI n))]) hx hb dX6_nights_56 hl (by decide) rfl (fun ls hl => ?_)
        have K_12 : ∀ n9 : Nat, ∀ (x : Nat) (w : Nat) (z : Nat) (i : Nat), i ≤ q.1 → (x, w, z) = (ngs b q.2.2.2.1 n (ngo b q.2.2.2.1 q.1 (0, 0, y) n) i) → z < 2 ^ 31 → x ≤ 5 * n + i → w ≤ 5 * n + i → q.1 - i < n9 → ∀ ls : Array Slot, lv_has ls 11 [(0, .ref (a 0)), (1, .int (nI dd)), (3, .int (nI 2)), (4, .int (nI x)), (5, .int (nI w)), (6, .int (nI z)), (7, .int (nI n)), (8, .int (nI i))] → W p l e (headSpec (wA yX6_nights cX6_nights 11 (some .int)) ({ frames := 3, cells := 0, slots := 0, locals := 72 })).room s m args below meth c s.heap [] 0 0 (MQ below (vp_Si (fun z9 => z9 = (let z := ngo b q.2.2.2.1 q.1 (0, 0, y) dd; if 2 = 0 then nI z.1 else if 2 = 1 then nI z.2.1 else nI z.2.2))) args s 0 0 (fun _ => False)) (F0 m 58 ls []) := by
          intro n9
          induction n9 with
          | zero => intros; omega
          | succ n9 ih_13 =>
            intro x w z i hi hz hzl hxl hwl hn9 ls hl
            have hg9 := ngd_le (nxs z)
            refine lv_iload hx hb dX6_nights_58 (lv_at hl 7 rfl) ?_
            refine lv_aload_n hx hb dX6_nights_60 rfl (lv_at hl 0 rfl) ?_
            refine va_get (D := D) (ci := 6) (v := .ref (r 0)) (C := RX6) (T := TX6) (N := 7) hx hb hts iX6 hown hK hP 0 rfl rfl 2 (by decide) (hts _ mg_153) (fun _ h9 => h9) rfl dX6_nights_61 ?_
            refine va_get (D := D) (ci := 3) (v := .int (nI q.1)) (C := RX3) (T := TX3) (N := 5) hx hb hts iX3 hown hK hP 7 rfl rfl 2 (by decide) (hts _ mg_135) (fun _ h9 => h9) rfl dX6_nights_64 ?_
            refine j_icmp_ge (tgt := 146) hx hb dX6_nights_67 (by decide) (nI_toInt (by omega)) (nI_toInt (by omega)) (fun c_14 => ?_) (fun c_14 => ?_)
            · refine lv_iinc (v := nI (n + 1)) (lv' := [(7, .int (nI (n + 1))), (0, .ref (a 0)), (1, .int (nI dd)), (3, .int (nI 2)), (4, .int (nI x)), (5, .int (nI w)), (6, .int (nI z)), (8, .int (nI i))]) hx hb dX6_nights_146 hl (k := 6) rfl (fr_inc1 _) (by decide) rfl (fun ls hl => ?_)
              refine lv_goto (tgt := 49) hx hb dX6_nights_149 (by decide) ?_
              exact ih_8 x w z (n + 1) (by omega) (by rw [hz, show i = q.1 by omega]; rfl) (hzl) (by omega) (by omega) (by omega) _ (lv_sub hl [1, 2, 3, 4, 5, 6, 0] rfl)
            · obtain ⟨hk0, hv0, hw0, hp0⟩ := hT.2.2.1 i (by omega)
              refine lv_aload_n hx hb dX6_nights_70 rfl (lv_at hl 0 rfl) ?_
              refine va_get (D := D) (ci := 6) (v := .ref (r 0)) (C := RX6) (T := TX6) (N := 7) hx hb hts iX6 hown hK hP 0 rfl rfl 2 (by decide) (hts _ mg_153) (fun _ h9 => h9) rfl dX6_nights_71 ?_
              refine lv_iload hx hb dX6_nights_74 (lv_at hl 7 rfl) ?_
              refine ro_qV (n := 1) (As := [.int (nI i)]) ⟨hx, hb, hml, hown, hts⟩ (c_X3_tapAt l D r cI cT cN q i (by omega) ht5) (cwV 1 hts (gV mg_290 mg_259 mg_260 mg_5 mg_261) rfl rfl rfl vd_X3_tapAt ⟨Nat.le_of_ble_eq_true rfl, Nat.le_of_ble_eq_true rfl⟩) (va_recv hK hP (ci := 3) (q0 := 7) rfl rfl) hK (cW_r hP) rfl hl.1 rfl (Nat.le_of_ble_eq_true rfl) dX6_nights_76 ⟨Nat.zero_le _, Nat.zero_le _⟩ ?_
              refine lv_astore (lv' := [(9, .ref (r (3 + i))), (0, .ref (a 0)), (1, .int (nI dd)), (3, .int (nI 2)), (4, .int (nI x)), (5, .int (nI w)), (6, .int (nI z)), (7, .int (nI n)), (8, .int (nI i))]) hx hb dX6_nights_79 hl (by decide) rfl (fun ls hl => ?_)
              refine lv_aload hx hb dX6_nights_81 (lv_at hl 0 rfl) ?_
              refine lv_ifnonnull (tgt := 89) hx hb dX6_nights_83 (by decide) ?_
              refine lv_iload hx hb dX6_nights_89 (lv_at hl 6 rfl) ?_
              refine ro_iS (n := 1) (As := [.int (nI z)]) ⟨hx, hb, hml, hown, hts⟩ (c_X6_nextSeed l D z (by omega)) (cwS 1 hts (gS mg_400 mg_401 mg_1 mg_402) rfl rfl rfl vd_X6_nextSeed ⟨Nat.le_of_ble_eq_true rfl, Nat.le_of_ble_eq_true rfl⟩)  (hK.sub [] rfl) (fun k q h => by simp at h) rfl hl.1 rfl (Nat.le_of_ble_eq_true rfl) dX6_nights_91 ⟨Nat.zero_le _, Nat.zero_le _⟩ ?_
              refine lv_istore (lv' := [(6, .int (nI (nxs z))), (9, .ref (r (3 + i))), (0, .ref (a 0)), (1, .int (nI dd)), (3, .int (nI 2)), (4, .int (nI x)), (5, .int (nI w)), (7, .int (nI n)), (8, .int (nI i))]) hx hb dX6_nights_94 hl (by decide) rfl (fun ls hl => ?_)
              refine lv_iload hx hb dX6_nights_96 (lv_at hl 0 rfl) ?_
              refine ro_iS (n := 1) (As := [.int (nI (nxs z))]) ⟨hx, hb, hml, hown, hts⟩ (c_X6_drawOf l D (nxs z) (nxs_lt _)) (cwS 1 hts (gS mg_406 mg_407 mg_1 mg_408) rfl rfl rfl vd_X6_drawOf ⟨Nat.le_of_ble_eq_true rfl, Nat.le_of_ble_eq_true rfl⟩)  (hK.sub [] rfl) (fun k q h => by simp at h) rfl hl.1 rfl (Nat.le_of_ble_eq_true rfl) dX6_nights_98 ⟨Nat.zero_le _, Nat.zero_le _⟩ ?_
              refine j_if_ne (tgt := 108) hx hb dX6_nights_101 (by decide) (nI_toInt (by omega)) (fun c_15 => ?_) (fun c_15 => ?_)
              · refine lv_iconst (v := nI 0) hx hb dX6_nights_108 (by decide) ?_
                refine n_top (y := nI (ngd (nxs z))) (congrArg nI (by unfold ngd; rw [if_neg (by omega)])) ?_
                refine lv_istore (lv' := [(10, .int (nI (ngd (nxs z)))), (6, .int (nI (nxs z))), (9, .ref (r (3 + i))), (0, .ref (a 0)), (1, .int (nI dd)), (3, .int (nI 2)), (4, .int (nI x)), (5, .int (nI w)), (7, .int (nI n)), (8, .int (nI i))]) hx hb dX6_nights_109 hl (by decide) rfl (fun ls hl => ?_)
                refine lv_iload hx hb dX6_nights_111 (lv_at hl 7 rfl) ?_
                refine lv_iload hx hb dX6_nights_113 (lv_at hl 0 rfl) ?_
                refine n_iadd hx hb dX6_nights_115 ?_
                refine lv_istore (lv' := [(5, .int (nI (w + (ngd (nxs z))))), (10, .int (nI (ngd (nxs z)))), (6, .int (nI (nxs z))), (9, .ref (r (3 + i))), (0, .ref (a 0)), (1, .int (nI dd)), (3, .int (nI 2)), (4, .int (nI x)), (7, .int (nI n)), (8, .int (nI i))]) hx hb dX6_nights_116 hl (by decide) rfl (fun ls hl => ?_)
                refine lv_iload hx hb dX6_nights_118 (lv_at hl 7 rfl) ?_
                refine lv_aload_n hx hb dX6_nights_120 rfl (lv_at hl 4 rfl) ?_
                refine lv_aload hx hb dX6_nights_121 (lv_at hl 3 rfl) ?_
                refine lv_aload hx hb dX6_nights_123 (lv_at hl 3 rfl) ?_
                refine va_get (D := D) (ci := 5) (v := .int (nI (q.2.2.2.1 i 3))) (C := RX5) (T := TX5) (N := 5) hx hb hts iX5 hown hK hP (10 + i) (cW_tap (by omega)) rfl 4 (by decide) (hts _ mg_92) (fun _ h9 => h9) rfl dX6_nights_125 ?_
                refine lv_iload hx hb dX6_nights_128 (lv_at hl 8 rfl) ?_
                refine n_iadd hx hb dX6_nights_130 ?_
                refine ro_iV (n := 2) (As := [.ref (r (3 + i)), .int (nI ((q.2.2.2.1 i 3) + n))]) ⟨hx, hb, hml, hown, hts⟩ (c_X6_dripOf l D a r k cI cT cN 1 xi xr pn pc rd B L q kq b hS hok9 hT i (by omega) ((q.2.2.2.1 i 3) + n) (by omega)) (cwV 2 hts (gV mg_344 mg_346 mg_1011 mg_1 mg_347) rfl rfl rfl vd_X6_dripOf ⟨Nat.le_of_ble_eq_true rfl, Nat.le_of_ble_eq_true rfl⟩) (va_recv hK hP (ci := 6) (q0 := 0) rfl rfl) hK hP rfl hl.1 rfl (Nat.le_of_ble_eq_true rfl) dX6_nights_131 ⟨Nat.zero_le _, Nat.zero_le _⟩ ?_
                have hd9 := sd_le hok9 (kd := q.2.2.2.1 i 0) (w := q.2.2.2.1 i 2) (n := q.2.2.2.1 i 3 + n) (v := q.2.2.2.1 i 1) (by omega)
                refine lv_iload hx hb dX6_nights_134 (lv_at hl 1 rfl) ?_
                refine n_ixor hx hb dX6_nights_136 ?_
                have hx9 : sd b (q.2.2.2.1 i 0) (q.2.2.2.1 i 2) (q.2.2.2.1 i 1) (q.2.2.2.1 i 3 + n) ^^^ ngd (nxs z) ≤ 1 := xor_le hd9 hg9
                refine n_iadd hx hb dX6_nights_137 ?_
                refine lv_istore (lv' := [(4, .int (nI (x + ((sd b (q.2.2.2.1 i 0) (q.2.2.2.1 i 2) (q.2.2.2.1 i 1) ((q.2.2.2.1 i 3) + n)) ^^^ (ngd (nxs z)))))), (5, .int (nI (w + (ngd (nxs z))))), (10, .int (nI (ngd (nxs z)))), (6, .int (nI (nxs z))), (9, .ref (r (3 + i))), (0, .ref (a 0)), (1, .int (nI dd)), (3, .int (nI 2)), (7, .int (nI n)), (8, .int (nI i))]) hx hb dX6_nights_138 hl (by decide) rfl (fun ls hl => ?_)
                refine lv_iinc (v := nI (i + 1)) (lv' := [(8, .int (nI (i + 1))), (4, .int (nI (x + ((sd b (q.2.2.2.1 i 0) (q.2.2.2.1 i 2) (q.2.2.2.1 i 1) ((q.2.2.2.1 i 3) + n)) ^^^ (ngd (nxs z)))))), (5, .int (nI (w + (ngd (nxs z))))), (10, .int (nI (ngd (nxs z)))), (6, .int (nI (nxs z))), (9, .ref (r (3 + i))), (0, .ref (a 0)), (1, .int (nI dd)), (3, .int (nI 2)), (7, .int (nI n))]) hx hb dX6_nights_140 hl (k := 9) rfl (fr_inc1 _) (by decide) rfl (fun ls hl => ?_)
                refine lv_goto (tgt := 58) hx hb dX6_nights_143 (by decide) ?_
                exact ih_13 (x + ((sd b (q.2.2.2.1 i 0) (q.2.2.2.1 i 2) (q.2.2.2.1 i 1) ((q.2.2.2.1 i 3) + n)) ^^^ (ngd (nxs z)))) (w + (ngd (nxs z))) (nxs z) (i + 1) (by omega) (by rw [ngs, ← hz]; rfl) (nxs_lt _) (by omega) (by omega) (by omega) _ (lv_sub hl [6, 7, 8, 1, 2, 4, 9, 0] rfl)
              · refine lv_iconst (v := nI 1) hx hb dX6_nights_104 (by decide) ?_
                refine lv_goto (tgt := 109) hx hb dX6_nights_105 (by decide) ?_
                refine n_top (y := nI (ngd (nxs z))) (congrArg nI (by unfold ngd; rw [if_pos (by omega)])) ?_
                refine lv_istore (lv' := [(10, .int (nI (ngd (nxs z)))), (6, .int (nI (nxs z))), (9, .ref (r (3 + i))), (0, .ref (a 0)), (1, .int (nI dd)), (3, .int (nI 2)), (4, .int (nI x)), (5, .int (nI w)), (7, .int (nI n)), (8, .int (nI i))]) hx hb dX6_nights_109 hl (by decide) rfl (fun ls hl => ?_)
                refine lv_iload hx hb dX6_nights_111 (lv_at hl 7 rfl) ?_
                refine lv_iload hx hb dX6_nights_113 (lv_at hl 0 rfl) ?_
                refine n_iadd hx hb dX6_nights_115 ?_
                refine lv_istore (lv' := [(5, .int (nI (w + (ngd (nxs z))))), (10, .int (nI (ngd (nxs z)))), (6, .int (nI (nxs z))), (9, .ref (r (3 + i))), (0, .ref (a 0)), (1, .int (nI dd)), (3, .int (nI 2)), (4, .int (nI x)), (7, .int (nI n)), (8, .int (nI i))]) hx hb dX6_nights_116 hl (by decide) rfl (fun ls hl => ?_)
                refine lv_iload hx hb dX6_nights_118 (lv_at hl 7 rfl) ?_
                refine lv_aload_n hx hb dX6_nights_120 rfl (lv_at hl 4 rfl) ?_
                refine lv_aload hx hb dX6_nights_121 (lv_at hl 3 rfl) ?_
                refine lv_aload hx hb dX6_nights_123 (lv_at hl 3 rfl) ?_
                refine va_get (D := D) (ci := 5) (v := .int (nI (q.2.2.2.1 i 3))) (C := RX5) (T := TX5) (N := 5) hx hb hts iX5 hown hK hP (10 + i) (cW_tap (by omega)) rfl 4 (by decide) (hts _ mg_92) (fun _ h9 => h9) rfl dX6_nights_125 ?_
                refine lv_iload hx hb dX6_nights_128 (lv_at hl 8 rfl) ?_
                refine n_iadd hx hb dX6_nights_130 ?_
                refine ro_iV (n := 2) (As := [.ref (r (3 + i)), .int (nI ((q.2.2.2.1 i 3) + n))]) ⟨hx, hb, hml, hown, hts⟩ (c_X6_dripOf l D a r k cI cT cN 1 xi xr pn pc rd B L q kq b hS hok9 hT i (by omega) ((q.2.2.2.1 i 3) + n) (by omega)) (cwV 2 hts (gV mg_344 mg_346 mg_1011 mg_1 mg_347) rfl rfl rfl vd_X6_dripOf ⟨Nat.le_of_ble_eq_true rfl, Nat.le_of_ble_eq_true rfl⟩) (va_recv hK hP (ci := 6) (q0 := 0) rfl rfl) hK hP rfl hl.1 rfl (Nat.le_of_ble_eq_true rfl) dX6_nights_131 ⟨Nat.zero_le _, Nat.zero_le _⟩ ?_
                have hd9 := sd_le hok9 (kd := q.2.2.2.1 i 0) (w := q.2.2.2.1 i 2) (n := q.2.2.2.1 i 3 + n) (v := q.2.2.2.1 i 1) (by omega)
                refine lv_iload hx hb dX6_nights_134 (lv_at hl 1 rfl) ?_
                refine n_ixor hx hb dX6_nights_136 ?_
                have hx9 : sd b (q.2.2.2.1 i 0) (q.2.2.2.1 i 2) (q.2.2.2.1 i 1) (q.2.2.2.1 i 3 + n) ^^^ ngd (nxs z) ≤ 1 := xor_le hd9 hg9
                refine n_iadd hx hb dX6_nights_137 ?_
                refine lv_istore (lv' := [(4, .int (nI (x + ((sd b (q.2.2.2.1 i 0) (q.2.2.2.1 i 2) (q.2.2.2.1 i 1) ((q.2.2.2.1 i 3) + n)) ^^^ (ngd (nxs z)))))), (5, .int (nI (w + (ngd (nxs z))))), (10, .int (nI (ngd (nxs z)))), (6, .int (nI (nxs z))), (9, .ref (r (3 + i))), (0, .ref (a 0)), (1, .int (nI dd)), (3, .int (nI 2)), (7, .int (nI n)), (8, .int (nI i))]) hx hb dX6_nights_138 hl (by decide) rfl (fun ls hl => ?_)
                refine lv_iinc (v := nI (i + 1)) (lv' := [(8, .int (nI (i + 1))), (4, .int (nI (x + ((sd b (q.2.2.2.1 i 0) (q.2.2.2.1 i 2) (q.2.2.2.1 i 1) ((q.2.2.2.1 i 3) + n)) ^^^ (ngd (nxs z)))))), (5, .int (nI (w + (ngd (nxs z))))), (10, .int (nI (ngd (nxs z)))), (6, .int (nI (nxs z))), (9, .ref (r (3 + i))), (0, .ref (a 0)), (1, .int (nI dd)), (3, .int (nI 2)), (7, .int (nI n))]) hx hb dX6_nights_140 hl (k := 9) rfl (fr_inc1 _) (by decide) rfl (fun ls hl => ?_)
                refine lv_goto (tgt := 58) hx hb dX6_nights_143 (by decide) ?_
                exact ih_13 (x + ((sd b (q.2.2.2.1 i 0) (q.2.2.2.1 i 2) (q.2.2.2.1 i 1) ((q.2.2.2.1 i 3) + n)) ^^^ (ngd (nxs z)))) (w + (ngd (nxs z))) (nxs z) (i + 1) (by omega) (by rw [ngs, ← hz]; rfl) (nxs_lt _) (by omega) (by omega) (by omega) _ (lv_sub hl [6, 7, 8, 1, 2, 4, 9, 0] rfl)
        exact K_12 (q.1 - 0 + 1) x w z 0 (by omega) (by rw [hz0]; rfl) (by omega) (by omega) (by omega) (Nat.lt_succ_self _) _ (lv_sub hl [1, 2, 3, 4, 5, 6, 7, 0] rfl)
  exact K_7 (dd - 0 + 1) 0 0 y 0 (by omega) (rfl) (by omega) (by omega) (by omega) (Nat.lt_succ_self _) _ (lv_sub hl [4, 5, 7, 3, 2, 1, 0] rfl)

theorem c_X6_nights (l : Launch) (D : va_G) (a r k : Nat → Nat) (cI cT cN : ClassId) (xh xi xr pn : Nat) (pc : Nat → Int32) (rd : Nat × Nat × Nat) (B L : Nat → Int32) (q kq : RS) (b : Nat → Nat → Nat) (hS : SR b B L) (hokz : ¬ q.1 = 0 → hok b) (hT : Tok q) (hH : xh = if q.1 = 0 then 0 else 1) (x y w : Int32) : ROi l yX6_nights (wA yX6_nights cX6_nights 11 (some .int)) ({ frames := 3, cells := 0, slots := 0, locals := 72 }) D (cTys cI cT cN) (cW a r k cI cT cN xh xi xr pn pc rd B L q kq) [.ref (a 0), .int x, .int y, .int w] (sp_nights b q x y w) := by
  unfold sp_nights
  by_cases hx : inr x 1 41
  · obtain ⟨d, hd, rfl⟩ : ∃ d : Nat, d < 41 ∧ x = nI d := inr_nat (n := 41) ⟨by have := hx.1; omega, hx.2⟩ (by decide)
    have hd1 : 1 ≤ d := by have := hx.1; rw [nI_toInt (by omega)] at this; omega
    by_cases hy : 0 ≤ y.toInt
    · obtain ⟨y, hy2, rfl⟩ : ∃ d : Nat, d < 2 ^ 31 ∧ y = nI d := nI_of (fun z => by have := (fr_lt rfl fr_0).mp z; omega)
      by_cases hw : inr w 0 3
      · obtain ⟨j, hj, rfl⟩ := inr_nat (n := 3) hw (by decide)
        rw [if_pos ⟨hx, hy, hw⟩, ti_nI (by omega), ti_nI (by omega), ti_nI (by omega)]
        by_cases h0 : q.1 = 0
        · rw [if_pos h0] at hH ⊢
          subst hH
          exact c_X6_nights4 l D a r k cI cT cN xi xr pn pc rd B L q kq b hS hokz hT d hd1 hd y hy2 j hj
        · rw [if_neg h0] at hH ⊢
          subst hH
          match j, hj with
          | 0, _ => exact c_X6_nightsI0 l D a r k cI cT cN xi xr pn pc rd B L q kq b hS hokz hT h0 d hd1 hd y hy2
          | 1, _ => exact c_X6_nightsI1 l D a r k cI cT cN xi xr pn pc rd B L q kq b hS hokz hT h0 d hd1 hd y hy2
          | 2, _ => exact c_X6_nightsI2 l D a r k cI cT cN xi xr pn pc rd B L q kq b hS hokz hT h0 d hd1 hd y hy2
      · rw [if_neg (fun z => hw z.2.2)]
        exact c_X6_nights3 l D a r k cI cT cN xi xr pn pc rd B L q kq b hS hokz hT xh d hd1 hd y hy2 w hw
    · rw [if_neg (fun z => hy z.2.1)]
      exact c_X6_nights2 l D a r k cI cT cN xi xr pn pc rd B L q kq b hS hokz hT xh d hd1 hd y w hy
  · rw [if_neg (fun z => hx z.1)]
    exact c_X6_nights1 l D a r k cI cT cN xi xr pn pc rd B L q kq b hS hokz hT xh x y w hx

set_option maxHeartbeats 4000000 in
set_option maxRecDepth 100000 in
theorem c_X6_digestSayings (l : Launch) (D : va_G) (a r k : Nat → Nat) (cI cT cN : ClassId) (xh xi xr pn : Nat) (pc : Nat → Int32) (rd : Nat × Nat × Nat) (B L : Nat → Int32) (q kq : RS) (b : Nat → Nat → Nat) (hS : SR b B L) (hok9 : hok b) (h : Int64) : ROl l yX6_digestSayings (wA yX6_digestSayings cX6_digestSayings 7 (some .long)) ({ frames := 1, cells := 0, slots := 0, locals := 23 }) D (cTys cI cT cN) (cW a r k cI cT cN xh xi xr pn pc rd B L q kq) [.ref (a 0), .long h] (dsy b h 4) := by
  refine go_start (by decide) (Nat.le_of_ble_eq_true rfl) ?_
  intro p e s m args below meth c ls F _ hB hl
  obtain ⟨hx, hb, hr, hlocks, hml, hown, hts⟩ := F
  obtain ⟨hP, hK⟩ := hB
  have hown : s.vm.findClass RX6 = some m.cls := hown
  have hl : lv_has ls 7 [(0, .ref (a 0)), (1, .long h)] := hl
  refine lv_lload_n hx hb dX6_digestSayings_0 rfl (lv_at hl 1 rfl) ?_
  refine lv_lstore_n (lv' := [(3, .long h), (0, .ref (a 0)), (1, .long h)]) hx hb dX6_digestSayings_1 rfl hl (by decide) rfl (fun ls hl => ?_)
  refine lv_iconst (v := nI 0) hx hb dX6_digestSayings_2 (by decide) ?_
  refine lv_istore (lv' := [(5, .int (nI 0)), (3, .long h), (0, .ref (a 0)), (1, .long h)]) hx hb dX6_digestSayings_3 hl (by decide) rfl (fun ls hl => ?_)
  have K_1 : ∀ n9 : Nat, ∀ (x : Int64) (v : Nat), v ≤ 4 → x = dsy b h v → 4 - v < n9 → ∀ ls : Array Slot, lv_has ls 7 [(0, .ref (a 0)), (3, .long x), (5, .int (nI v))] → W p l e (headSpec (wA yX6_digestSayings cX6_digestSayings 7 (some .long)) ({ frames := 1, cells := 0, slots := 0, locals := 23 })).room s m args below meth c s.heap [] 0 0 (MQ below (vp_Sl (fun z9 => z9 = dsy b h 4)) args s 0 0 (fun _ => False)) (F0 m 5 ls []) := by
    intro n9
    induction n9 with
    | zero => intros; omega
    | succ n9 ih_2 =>
      intro x v hv hx0 hn9 ls hl
      refine lv_iload hx hb dX6_digestSayings_5 (lv_at hl 2 rfl) ?_
      refine lv_iconst (v := nI 4) hx hb dX6_digestSayings_7 (by decide) ?_
      refine j_icmp_ge (tgt := 68) hx hb dX6_digestSayings_8 (by decide) (nI_toInt (by omega)) (nI_toInt (by decide)) (fun c_3 => ?_) (fun c_3 => ?_)
      · refine lv_lload_n hx hb dX6_digestSayings_68 rfl (lv_at hl 1 rfl) ?_
        exact ro_lret hx hb hr hlocks (by rw [hx0, show v = 4 by omega]) dX6_digestSayings_69
      · refine lv_ldc2 (v := (31 : Int64)) hx hb hown (hts _ mg_451) dX6_digestSayings_11 ?_
        refine lv_lload_n hx hb dX6_digestSayings_14 rfl (lv_at hl 1 rfl) ?_
        refine lv_lmul hx hb dX6_digestSayings_15 ?_
        refine lv_aload_n hx hb dX6_digestSayings_16 rfl (lv_at hl 0 rfl) ?_
        refine va_get (D := D) (ci := 6) (v := .ref (a 4)) (C := RX6) (T := TX6) (N := 7) hx hb hts iX6 hown hK hP 0 rfl rfl 1 (by decide) (hts _ mg_152) (fun _ h9 => h9) rfl dX6_digestSayings_17 ?_
        refine lv_iload hx hb dX6_digestSayings_20 (lv_at hl 2 rfl) ?_
        have hb4 := (hok9 v (by omega)).2.1
        refine ro_iV (n := 1) (As := [.int (nI v)]) ⟨hx, hb, hml, hown, hts⟩ (c_X4_lengthOf l D a cI cT cN B L b hS v (by omega)) (cwV 1 hts (gV mg_271 mg_272 mg_273 mg_4 mg_274) rfl rfl rfl vd_X4_lengthOf ⟨Nat.le_of_ble_eq_true rfl, Nat.le_of_ble_eq_true rfl⟩) (va_recv hK hP (ci := 4) (q0 := 4) rfl rfl) hK (cW_s hP) rfl hl.1 rfl (Nat.le_of_ble_eq_true rfl) dX6_digestSayings_22 ⟨Nat.zero_le _, Nat.zero_le _⟩ ?_
        refine lv_i2l (v := lN (b v 0)) hx hb dX6_digestSayings_25 (nI_l (by omega)) ?_
        refine lv_ladd hx hb dX6_digestSayings_26 ?_
        refine lv_lstore_n (lv' := [(3, .long (((31 : Int64) * x) + (lN (b v 0)))), (0, .ref (a 0)), (5, .int (nI v))]) hx hb dX6_digestSayings_27 rfl hl (by decide) rfl (fun ls hl => ?_)
        refine lv_iconst (v := nI 0) hx hb dX6_digestSayings_28 (by decide) ?_
        refine lv_istore (lv' := [(6, .int (nI 0)), (3, .long (((31 : Int64) * x) + (lN (b v 0)))), (0, .ref (a 0)), (5, .int (nI v))]) hx hb dX6_digestSayings_29 hl (by decide) rfl (fun ls hl => ?_)
        have K_4 : ∀ n9 : Nat, ∀ (y : Int64) (j : Nat), j ≤ 4 → y = fo (31 * dsy b h v + lN (b v 0)) (fun j => (bta b v j).toInt64) j → 4 - j < n9 → ∀ ls : Array Slot, lv_has ls 7 [(0, .ref (a 0)), (3, .long y), (5, .int (nI v)), (6, .int (nI j))] → W p l e (headSpec (wA yX6_digestSayings cX6_digestSayings 7 (some .long)) ({ frames := 1, cells := 0, slots := 0, locals := 23 })).room s m args below meth c s.heap [] 0 0 (MQ below (vp_Sl (fun z9 => z9 = dsy b h 4)) args s 0 0 (fun _ => False)) (F0 m 31 ls []) := by
          intro n9
          induction n9 with
          | zero => intros; omega
          | succ n9 ih_5 =>
            intro y j hj hy0 hn9 ls hl
            refine lv_iload hx hb dX6_digestSayings_31 (lv_at hl 3 rfl) ?_
            refine lv_iconst (v := nI 4) hx hb dX6_digestSayings_33 (by decide) ?_
            refine j_icmp_ge (tgt := 62) hx hb dX6_digestSayings_34 (by decide) (nI_toInt (by omega)) (nI_toInt (by decide)) (fun c_6 => ?_) (fun c_6 => ?_)
            · refine lv_iinc (v := nI (v + 1)) (lv' := [(5, .int (nI (v + 1))), (0, .ref (a 0)), (3, .long y), (6, .int (nI j))]) hx hb dX6_digestSayings_62 hl (k := 2) rfl (fr_inc1 _) (by decide) rfl (fun ls hl => ?_)
              refine lv_goto (tgt := 5) hx hb dX6_digestSayings_65 (by decide) ?_
              exact ih_2 y (v + 1) (by omega) (by rw [hy0, show j = 4 by omega]; rfl) (by omega) _ (lv_sub hl [1, 2, 0] rfl)
            · refine lv_ldc2 (v := (31 : Int64)) hx hb hown (hts _ mg_451) dX6_digestSayings_37 ?_
              refine lv_lload_n hx hb dX6_digestSayings_40 rfl (lv_at hl 1 rfl) ?_
              refine lv_lmul hx hb dX6_digestSayings_41 ?_
              refine lv_aload_n hx hb dX6_digestSayings_42 rfl (lv_at hl 0 rfl) ?_
              refine va_get (D := D) (ci := 6) (v := .ref (a 4)) (C := RX6) (T := TX6) (N := 7) hx hb hts iX6 hown hK hP 0 rfl rfl 1 (by decide) (hts _ mg_152) (fun _ h9 => h9) rfl dX6_digestSayings_43 ?_
              refine lv_iload hx hb dX6_digestSayings_46 (lv_at hl 2 rfl) ?_
              refine lv_iload hx hb dX6_digestSayings_48 (lv_at hl 3 rfl) ?_
              refine ro_iV (n := 2) (As := [.int (nI v), .int (nI j)]) ⟨hx, hb, hml, hown, hts⟩ (c_X4_beatOf l D a cI cT cN B L v j (by omega) (by omega)) (cwV 2 hts (gV mg_275 mg_276 mg_277 mg_4 mg_278) rfl rfl rfl vd_X4_beatOf ⟨Nat.le_of_ble_eq_true rfl, Nat.le_of_ble_eq_true rfl⟩) (va_recv hK hP (ci := 4) (q0 := 4) rfl rfl) hK (cW_s hP) rfl hl.1 rfl (Nat.le_of_ble_eq_true rfl) dX6_digestSayings_50 ⟨Nat.zero_le _, Nat.zero_le _⟩ ?_
              refine n_top (y := bta b v j) ((hS v (by omega)).2 (hok9 v (by omega)).1 j (by omega)) ?_
              refine lv_i2l (v := (bta b v j).toInt64) hx hb dX6_digestSayings_53 rfl ?_
              refine lv_ladd hx hb dX6_digestSayings_54 ?_
              refine lv_lstore_n (lv' := [(3, .long (((31 : Int64) * y) + ((bta b v j).toInt64))), (0, .ref (a 0)), (5, .int (nI v)), (6, .int (nI j))]) hx hb dX6_digestSayings_55 rfl hl (by decide) rfl (fun ls hl => ?_)
              refine lv_iinc (v := nI (j + 1)) (lv' := [(6, .int (nI (j + 1))), (3, .long (((31 : Int64) * y) + ((bta b v j).toInt64))), (0, .ref (a 0)), (5, .int (nI v))]) hx hb dX6_digestSayings_56 hl (k := 3) rfl (fr_inc1 _) (by decide) rfl (fun ls hl => ?_)
              refine lv_goto (tgt := 31) hx hb dX6_digestSayings_59 (by decide) ?_
              exact ih_5 (((31 : Int64) * y) + ((bta b v j).toInt64)) (j + 1) (by omega) (by rw [hy0]; rfl) (by omega) _ (lv_sub hl [2, 1, 3, 0] rfl)
        exact K_4 (4 - 0 + 1) (((31 : Int64) * x) + (lN (b v 0))) 0 (by omega) (by rw [hx0]; rfl) (Nat.lt_succ_self _) _ (lv_sub hl [2, 1, 3, 0] rfl)
  exact K_1 (4 - 0 + 1) h 0 (by omega) (rfl) (Nat.lt_succ_self _) _ (lv_sub hl [2, 1, 0] rfl)

set_option maxHeartbeats 4000000 in
set_option maxRecDepth 100000 in
theorem c_X6_digestTap (l : Launch) (D : va_G) (a r k : Nat → Nat) (cI cT cN : ClassId) (xh xi xr pn : Nat) (pc : Nat → Int32) (rd : Nat × Nat × Nat) (B L : Nat → Int32) (q kq : RS) (b : Nat → Nat → Nat) (hS : SR b B L) (hok9 : hok b) (hT : Tok q) (i : Nat) (hi : i < q.1) (h : Int64) : ROl l yX6_digestTap (wA yX6_digestTap cX6_digestTap 8 (some .long)) ({ frames := 5, cells := 0, slots := 0, locals := 123 }) D (cTys cI cT cN) (cW a r k cI cT cN xh xi xr pn pc rd B L q kq) [.ref (a 0), .long h, .ref (r (3 + i))] (dtp b q i h) := by
  refine go_start (by decide) (Nat.le_of_ble_eq_true rfl) ?_
  intro p e s m args below meth c ls F _ hB hl
  obtain ⟨hx, hb, hr, hlocks, hml, hown, hts⟩ := F
  obtain ⟨hP, hK⟩ := hB
  have hown : s.vm.findClass RX6 = some m.cls := hown
  have hl : lv_has ls 8 [(0, .ref (a 0)), (1, .long h), (3, .ref (r (3 + i)))] := hl
  have ht5 := hT.1
  have ht8 := hT.2.1
  obtain ⟨hk0, hv0, hw0, hp0⟩ := hT.2.2.1 i hi
  refine lv_lload_n hx hb dX6_digestTap_0 rfl (lv_at hl 1 rfl) ?_
  refine lv_lstore (lv' := [(4, .long h), (0, .ref (a 0)), (1, .long h), (3, .ref (r (3 + i)))]) hx hb dX6_digestTap_1 hl (by decide) rfl (fun ls hl => ?_)
  refine lv_iconst (v := nI 0) hx hb dX6_digestTap_3 (by decide) ?_
  refine lv_istore (lv' := [(6, .int (nI 0)), (4, .long h), (0, .ref (a 0)), (1, .long h), (3, .ref (r (3 + i)))]) hx hb dX6_digestTap_4 hl (by decide) rfl (fun ls hl => ?_)
  have K_1 : ∀ n9 : Nat, ∀ (x : Int64) (w : Nat), w ≤ 9 → x = fo h (fun w => (abt b q.2.2.2.1 q.2.2.2.2 q.2.1 i w).toInt64) w → 9 - w < n9 → ∀ ls : Array Slot, lv_has ls 8 [(0, .ref (a 0)), (3, .ref (r (3 + i))), (4, .long x), (6, .int (nI w))] → W p l e (headSpec (wA yX6_digestTap cX6_digestTap 8 (some .long)) ({ frames := 5, cells := 0, slots := 0, locals := 123 })).room s m args below meth c s.heap [] 0 0 (MQ below (vp_Sl (fun z9 => z9 = dtp b q i h)) args s 0 0 (fun _ => False)) (F0 m 6 ls []) := by
    intro n9
    induction n9 with
    | zero => intros; omega
    | succ n9 ih_2 =>
      intro x w hw hx0 hn9 ls hl
      refine lv_iload hx hb dX6_digestTap_6 (lv_at hl 3 rfl) ?_
      refine lv_bipush (v := nI 8) hx hb dX6_digestTap_8 (by decide) ?_
      refine j_icmp_gt (tgt := 36) hx hb dX6_digestTap_10 (by decide) (nI_toInt (by omega)) (nI_toInt (by decide)) (fun c_3 => ?_) (fun c_3 => ?_)
      · refine lv_iconst (v := nI 0) hx hb dX6_digestTap_36 (by decide) ?_
        refine lv_istore (lv' := [(6, .int (nI 0)), (0, .ref (a 0)), (3, .ref (r (3 + i))), (4, .long x)]) hx hb dX6_digestTap_37 hl (by decide) rfl (fun ls hl => ?_)
        have K_4 : ∀ n9 : Nat, ∀ (y : Int64) (n : Nat), n ≤ 8 → y = fo (fo h (fun w => (abt b q.2.2.2.1 q.2.2.2.2 q.2.1 i w).toInt64) 9) (fun n => lN (sd b (q.2.2.2.1 i 0) (q.2.2.2.1 i 2) (q.2.2.2.1 i 1) n)) n → 8 - n < n9 → ∀ ls : Array Slot, lv_has ls 8 [(0, .ref (a 0)), (3, .ref (r (3 + i))), (4, .long y), (6, .int (nI n))] → W p l e (headSpec (wA yX6_digestTap cX6_digestTap 8 (some .long)) ({ frames := 5, cells := 0, slots := 0, locals := 123 })).room s m args below meth c s.heap [] 0 0 (MQ below (vp_Sl (fun z9 => z9 = dtp b q i h)) args s 0 0 (fun _ => False)) (F0 m 39 ls []) := by
          intro n9
          induction n9 with
          | zero => intros; omega
          | succ n9 ih_5 =>
            intro y n hn hy0 hn9 ls hl
            refine lv_iload hx hb dX6_digestTap_39 (lv_at hl 3 rfl) ?_
            refine lv_bipush (v := nI 8) hx hb dX6_digestTap_41 (by decide) ?_
            refine j_icmp_ge (tgt := 69) hx hb dX6_digestTap_43 (by decide) (nI_toInt (by omega)) (nI_toInt (by decide)) (fun c_6 => ?_) (fun c_6 => ?_)
            · refine lv_iconst (v := nI 0) hx hb dX6_digestTap_69 (by decide) ?_
              refine lv_istore (lv' := [(6, .int (nI 0)), (0, .ref (a 0)), (3, .ref (r (3 + i))), (4, .long y)]) hx hb dX6_digestTap_70 hl (by decide) rfl (fun ls hl => ?_)
              have K_7 : ∀ n9 : Nat, ∀ (z : Int64) (v : Nat), v ≤ 4 → z = dnr b (q.2.2.2.1 i 0) (q.2.2.2.1 i 1) (fo (fo h (fun w => (abt b q.2.2.2.1 q.2.2.2.2 q.2.1 i w).toInt64) 9) (fun n => lN (sd b (q.2.2.2.1 i 0) (q.2.2.2.1 i 2) (q.2.2.2.1 i 1) n)) 8) v → 4 - v < n9 → ∀ ls : Array Slot, lv_has ls 8 [(0, .ref (a 0)), (3, .ref (r (3 + i))), (4, .long z), (6, .int (nI v))] → W p l e (headSpec (wA yX6_digestTap cX6_digestTap 8 (some .long)) ({ frames := 5, cells := 0, slots := 0, locals := 123 })).room s m args below meth c s.heap [] 0 0 (MQ below (vp_Sl (fun z9 => z9 = dtp b q i h)) args s 0 0 (fun _ => False)) (F0 m 72 ls []) := by
                intro n9
                induction n9 with
                | zero => intros; omega
                | succ n9 ih_8 =>
                  intro z v hv hz0 hn9 ls hl
                  refine lv_iload hx hb dX6_digestTap_72 (lv_at hl 3 rfl) ?_
                  refine lv_iconst (v := nI 4) hx hb dX6_digestTap_74 (by decide) ?_
                  refine j_icmp_ge (tgt := 118) hx hb dX6_digestTap_75 (by decide) (nI_toInt (by omega)) (nI_toInt (by decide)) (fun c_9 => ?_) (fun c_9 => ?_)
                  · refine lv_lload hx hb dX6_digestTap_118 (lv_at hl 2 rfl) ?_
                    exact ro_lret hx hb hr hlocks (by rw [hz0, show v = 4 by omega]; rfl) dX6_digestTap_120
                  · refine lv_iconst (v := nI 0) hx hb dX6_digestTap_78 (by decide) ?_
                    refine lv_istore (lv' := [(7, .int (nI 0)), (0, .ref (a 0)), (3, .ref (r (3 + i))), (4, .long z), (6, .int (nI v))]) hx hb dX6_digestTap_79 hl (by decide) rfl (fun ls hl => ?_)
                    have K_10 : ∀ n9 : Nat, ∀ (u : Int64) (w : Nat), w ≤ 2 → u = fo (dnr b (q.2.2.2.1 i 0) (q.2.2.2.1 i 1) (fo (fo h (fun w => (abt b q.2.2.2.1 q.2.2.2.2 q.2.1 i w).toInt64) 9) (fun n => lN (sd b (q.2.2.2.1 i 0) (q.2.2.2.1 i 2) (q.2.2.2.1 i 1) n)) 8) v) (fun w => lN (ner b (q.2.2.2.1 i 0) (q.2.2.2.1 i 1) v w)) w → 2 - w < n9 → ∀ ls : Array Slot, lv_has ls 8 [(0, .ref (a 0)), (3, .ref (r (3 + i))), (4, .long u), (6, .int (nI v)), (7, .int (nI w))] → W p l e (headSpec (wA yX6_digestTap cX6_digestTap 8 (some .long)) ({ frames := 5, cells := 0, slots := 0, locals := 123 })).room s m args below meth c s.heap [] 0 0 (MQ below (vp_Sl (fun z9 => z9 = dtp b q i h)) args s 0 0 (fun _ => False)) (F0 m 81 ls []) := by
                      intro n9
                      induction n9 with
                      | zero => intros; omega
                      | succ n9 ih_11 =>
                        intro u w hw2 hu0 hn9 ls hl
                        refine lv_iload hx hb dX6_digestTap_81 (lv_at hl 4 rfl) ?_
                        refine lv_iconst (v := nI 1) hx hb dX6_digestTap_83 (by decide) ?_
                        refine j_icmp_gt (tgt := 112) hx hb dX6_digestTap_84 (by decide) (nI_toInt (by omega)) (nI_toInt (by decide)) (fun c_12 => ?_) (fun c_12 => ?_)
                        · refine lv_iinc (v := nI (v + 1)) (lv' := [(6, .int (nI (v + 1))), (0, .ref (a 0)), (3, .ref (r (3 + i))), (4, .long u), (7, .int (nI w))]) hx hb dX6_digestTap_112 hl (k := 3) rfl (fr_inc1 _) (by decide) rfl (fun ls hl => ?_)
                          refine lv_goto (tgt := 72) hx hb dX6_digestTap_115 (by decide) ?_
                          exact ih_8 u (v + 1) (by omega) (by rw [hu0, show w = 2 by omega]; rfl) (by omega) _ (lv_sub hl [1, 2, 3, 0] rfl)
                        · refine lv_ldc2 (v := (31 : Int64)) hx hb hown (hts _ mg_451) dX6_digestTap_87 ?_
                          refine lv_lload hx hb dX6_digestTap_90 (lv_at hl 2 rfl) ?_
                          refine lv_lmul hx hb dX6_digestTap_92 ?_
                          refine lv_aload_n hx hb dX6_digestTap_93 rfl (lv_at hl 0 rfl) ?_
                          refine lv_aload_n hx hb dX6_digestTap_94 rfl (lv_at hl 1 rfl) ?_
                          refine lv_iload hx hb dX6_digestTap_95 (lv_at hl 3 rfl) ?_
                          refine lv_iload hx hb dX6_digestTap_97 (lv_at hl 4 rfl) ?_
                          refine ro_iV (n := 3) (As := [.ref (r (3 + i)), .int (nI v), .int (nI w)]) ⟨hx, hb, hml, hown, hts⟩ (c_X6_nearOf l D a r k cI cT cN xh xi xr pn pc rd B L q kq b hS hok9 hT i hi v (by omega) w (by omega)) (cwV 3 hts (gV mg_368 mg_370 mg_1012 mg_1 mg_371) rfl rfl rfl vd_X6_nearOf ⟨Nat.le_of_ble_eq_true rfl, Nat.le_of_ble_eq_true rfl⟩) (va_recv hK hP (ci := 6) (q0 := 0) rfl rfl) hK hP rfl hl.1 rfl (Nat.le_of_ble_eq_true rfl) dX6_digestTap_99 ⟨Nat.zero_le _, Nat.zero_le _⟩ ?_
                          have hn9 : ner b (q.2.2.2.1 i 0) (q.2.2.2.1 i 1) v w ≤ 12 := ner_le _ _ _ _ _
                          refine lv_i2l (v := lN (ner b (q.2.2.2.1 i 0) (q.2.2.2.1 i 1) v w)) hx hb dX6_digestTap_102 (nI_l (by omega)) ?_
                          refine lv_ladd hx hb dX6_digestTap_103 ?_
                          refine lv_lstore (lv' := [(4, .long (((31 : Int64) * u) + (lN (ner b (q.2.2.2.1 i 0) (q.2.2.2.1 i 1) v w)))), (0, .ref (a 0)), (3, .ref (r (3 + i))), (6, .int (nI v)), (7, .int (nI w))]) hx hb dX6_digestTap_104 hl (by decide) rfl (fun ls hl => ?_)
                          refine lv_iinc (v := nI (w + 1)) (lv' := [(7, .int (nI (w + 1))), (4, .long (((31 : Int64) * u) + (lN (ner b (q.2.2.2.1 i 0) (q.2.2.2.1 i 1) v w)))), (0, .ref (a 0)), (3, .ref (r (3 + i))), (6, .int (nI v))]) hx hb dX6_digestTap_106 hl (k := 4) rfl (fr_inc1 _) (by decide) rfl (fun ls hl => ?_)
                          refine lv_goto (tgt := 81) hx hb dX6_digestTap_109 (by decide) ?_
                          exact ih_11 (((31 : Int64) * u) + (lN (ner b (q.2.2.2.1 i 0) (q.2.2.2.1 i 1) v w))) (w + 1) (by omega) (by rw [hu0]; rfl) (by omega) _ (lv_sub hl [2, 3, 1, 4, 0] rfl)
                    exact K_10 (2 - 0 + 1) z 0 (by omega) (by rw [hz0]; rfl) (Nat.lt_succ_self _) _ (lv_sub hl [1, 2, 3, 4, 0] rfl)
              exact K_7 (4 - 0 + 1) y 0 (by omega) (by rw [hy0, show n = 8 by omega]; rfl) (Nat.lt_succ_self _) _ (lv_sub hl [1, 2, 3, 0] rfl)
            · refine lv_ldc2 (v := (31 : Int64)) hx hb hown (hts _ mg_451) dX6_digestTap_46 ?_
              refine lv_lload hx hb dX6_digestTap_49 (lv_at hl 2 rfl) ?_
              refine lv_lmul hx hb dX6_digestTap_51 ?_
              refine lv_aload_n hx hb dX6_digestTap_52 rfl (lv_at hl 0 rfl) ?_
              refine lv_aload_n hx hb dX6_digestTap_53 rfl (lv_at hl 1 rfl) ?_
              refine lv_iload hx hb dX6_digestTap_54 (lv_at hl 3 rfl) ?_
              refine ro_iV (n := 2) (As := [.ref (r (3 + i)), .int (nI n)]) ⟨hx, hb, hml, hown, hts⟩ (c_X6_dripOf l D a r k cI cT cN xh xi xr pn pc rd B L q kq b hS hok9 hT i (by omega) n (by omega)) (cwV 2 hts (gV mg_344 mg_346 mg_1011 mg_1 mg_347) rfl rfl rfl vd_X6_dripOf ⟨Nat.le_of_ble_eq_true rfl, Nat.le_of_ble_eq_true rfl⟩) (va_recv hK hP (ci := 6) (q0 := 0) rfl rfl) hK hP rfl hl.1 rfl (Nat.le_of_ble_eq_true rfl) dX6_digestTap_56 ⟨Nat.zero_le _, Nat.zero_le _⟩ ?_
              have hd1 := sd_le hok9 (kd := q.2.2.2.1 i 0) (w := q.2.2.2.1 i 2) (n := n) (v := q.2.2.2.1 i 1) (by omega)
              refine lv_i2l (v := lN (sd b (q.2.2.2.1 i 0) (q.2.2.2.1 i 2) (q.2.2.2.1 i 1) n)) hx hb dX6_digestTap_59 (nI_l (by omega)) ?_
              refine lv_ladd hx hb dX6_digestTap_60 ?_
              refine lv_lstore (lv' := [(4, .long (((31 : Int64) * y) + (lN (sd b (q.2.2.2.1 i 0) (q.2.2.2.1 i 2) (q.2.2.2.1 i 1) n)))), (0, .ref (a 0)), (3, .ref (r (3 + i))), (6, .int (nI n))]) hx hb dX6_digestTap_61 hl (by decide) rfl (fun ls hl => ?_)
              refine lv_iinc (v := nI (n + 1)) (lv' := [(6, .int (nI (n + 1))), (4, .long (((31 : Int64) * y) + (lN (sd b (q.2.2.2.1 i 0) (q.2.2.2.1 i 2) (q.2.2.2.1 i 1) n)))), (0, .ref (a 0)), (3, .ref (r (3 + i)))]) hx hb dX6_digestTap_63 hl (k := 3) rfl (fr_inc1 _) (by decide) rfl (fun ls hl => ?_)
              refine lv_goto (tgt := 39) hx hb dX6_digestTap_66 (by decide) ?_
              exact ih_5 (((31 : Int64) * y) + (lN (sd b (q.2.2.2.1 i 0) (q.2.2.2.1 i 2) (q.2.2.2.1 i 1) n))) (n + 1) (by omega) (by rw [hy0]; rfl) (by omega) _ (lv_sub hl [2, 3, 1, 0] rfl)
        exact K_4 (8 - 0 + 1) x 0 (by omega) (by rw [hx0, show w = 9 by omega]; rfl) (Nat.lt_succ_self _) _ (lv_sub hl [1, 2, 3, 0] rfl)
      · refine lv_ldc2 (v := (31 : Int64)) hx hb hown (hts _ mg_451) dX6_digestTap_13 ?_
        refine lv_lload hx hb dX6_digestTap_16 (lv_at hl 2 rfl) ?_
        refine lv_lmul hx hb dX6_digestTap_18 ?_
        refine lv_aload_n hx hb dX6_digestTap_19 rfl (lv_at hl 0 rfl) ?_
        refine lv_aload_n hx hb dX6_digestTap_20 rfl (lv_at hl 1 rfl) ?_
        refine lv_iload hx hb dX6_digestTap_21 (lv_at hl 3 rfl) ?_
        refine ro_iV (n := 2) (As := [.ref (r (3 + i)), .int (nI w)]) ⟨hx, hb, hml, hown, hts⟩ (c_X6_aboutOf l D a r k cI cT cN xh xi xr pn pc rd B L q kq b hS hok9 hT i hi w (by omega)) (cwV 2 hts (gV mg_291 mg_293 mg_1003 mg_1 mg_294) rfl rfl rfl vd_X6_aboutOf ⟨Nat.le_of_ble_eq_true rfl, Nat.le_of_ble_eq_true rfl⟩) (va_recv hK hP (ci := 6) (q0 := 0) rfl rfl) hK hP rfl hl.1 rfl (Nat.le_of_ble_eq_true rfl) dX6_digestTap_23 ⟨Nat.zero_le _, Nat.zero_le _⟩ ?_
        refine lv_i2l (v := (abt b q.2.2.2.1 q.2.2.2.2 q.2.1 i w).toInt64) hx hb dX6_digestTap_26 rfl ?_
        refine lv_ladd hx hb dX6_digestTap_27 ?_
        refine lv_lstore (lv' := [(4, .long (((31 : Int64) * x) + ((abt b q.2.2.2.1 q.2.2.2.2 q.2.1 i w).toInt64))), (0, .ref (a 0)), (3, .ref (r (3 + i))), (6, .int (nI w))]) hx hb dX6_digestTap_28 hl (by decide) rfl (fun ls hl => ?_)
        refine lv_iinc (v := nI (w + 1)) (lv' := [(6, .int (nI (w + 1))), (4, .long (((31 : Int64) * x) + ((abt b q.2.2.2.1 q.2.2.2.2 q.2.1 i w).toInt64))), (0, .ref (a 0)), (3, .ref (r (3 + i)))]) hx hb dX6_digestTap_30 hl (k := 3) rfl (fr_inc1 _) (by decide) rfl (fun ls hl => ?_)
        refine lv_goto (tgt := 6) hx hb dX6_digestTap_33 (by decide) ?_
        exact ih_2 (((31 : Int64) * x) + ((abt b q.2.2.2.1 q.2.2.2.2 q.2.1 i w).toInt64)) (w + 1) (by omega) (by rw [hx0]; rfl) (by omega) _ (lv_sub hl [2, 3, 1, 0] rfl)
  exact K_1 (9 - 0 + 1) h 0 (by omega) (rfl) (Nat.lt_succ_self _) _ (lv_sub hl [2, 4, 1, 0] rfl)

set_option maxHeartbeats 4000000 in
set_option maxRecDepth 100000 in
theorem c_X6_digest0 (l : Launch) (D : va_G) (a r k : Nat → Nat) (cI cT cN : ClassId) (xi xr pn : Nat) (pc : Nat → Int32) (rd : Nat × Nat × Nat) (B L : Nat → Int32) (q kq : RS) (b : Nat → Nat → Nat) (hS : SR b B L) (hokz : ¬ q.1 = 0 → hok b) (hb4 : ∀ v, v < 4 → b v 0 ≤ 4) (hT : Tok q) (h30 : pn ≤ 30) (h0 : q.1 = 0) : ROl l yX6_digest (wA yX6_digest cX6_digest 5 (some .long)) ({ frames := 6, cells := 0, slots := 0, locals := 150 }) D (cTys cI cT cN) (cW a r k cI cT cN 0 xi xr pn pc rd B L q kq) [.ref (a 0)] (sp_digest b q pc pn xr) := by
  refine go_start (by decide) (Nat.le_of_ble_eq_true rfl) ?_
  intro p e s m args below meth c ls F _ hB hl
  obtain ⟨hx, hb, hr, hlocks, hml, hown, hts⟩ := F
  obtain ⟨hP, hK⟩ := hB
  have hown : s.vm.findClass RX6 = some m.cls := hown
  have hl : lv_has ls 5 [(0, .ref (a 0))] := hl
  have ht5 := hT.1
  have ht8 := hT.2.1
  refine lv_ldc2 (v := (1061 : Int64)) hx hb hown (hts _ mg_446) dX6_digest_0 ?_
  refine lv_lstore_n (lv' := [(1, .long (1061 : Int64)), (0, .ref (a 0))]) hx hb dX6_digest_3 rfl hl (by decide) rfl (fun ls hl => ?_)
  refine lv_aload_n hx hb dX6_digest_4 rfl (lv_at hl 1 rfl) ?_
  refine va_get (D := D) (ci := 6) (v := .int (nI 0)) (C := RX6) (T := TX6) (N := 7) hx hb hts iX6 hown hK hP 0 rfl rfl 4 (by decide) (hts _ mg_155) (fun _ h9 => h9) rfl dX6_digest_5 ?_
  refine j_if_eq (tgt := 17) hx hb dX6_digest_8 (by decide) (nI_toInt (by decide)) (fun c_1 => ?_) (fun c_1 => absurd c_1 (by omega))
  refine lv_iconst (v := nI 0) hx hb dX6_digest_17 (by decide) ?_
  refine lv_istore_n (lv' := [(3, .int (nI 0)), (1, .long (1061 : Int64)), (0, .ref (a 0))]) hx hb dX6_digest_18 rfl hl (by decide) rfl (fun ls hl => ?_)
  have K_2 : ∀ n9 : Nat, ∀ (x : Int64) (i : Nat), i ≤ q.1 → x = dtl b q (if q.1 = 0 then 1061 else dsy b 1061 4) i → q.1 - i < n9 → ∀ ls : Array Slot, lv_has ls 5 [(0, .ref (a 0)), (1, .long x), (3, .int (nI i))] → W p l e (headSpec (wA yX6_digest cX6_digest 5 (some .long)) ({ frames := 6, cells := 0, slots := 0, locals := 150 })).room s m args below meth c s.heap [] 0 0 (MQ below (vp_Sl (fun z9 => z9 = sp_digest b q pc pn xr)) args s 0 0 (fun _ => False)) (F0 m 19 ls []) := by
    intro n9
    induction n9 with
    | zero => intros; omega
    | succ n9 ih_3 =>
      intro x i hi hx0 hn9 ls hl
      refine lv_iload_n hx hb dX6_digest_19 rfl (lv_at hl 2 rfl) ?_
      refine lv_aload_n hx hb dX6_digest_20 rfl (lv_at hl 0 rfl) ?_
      refine va_get (D := D) (ci := 6) (v := .ref (r 0)) (C := RX6) (T := TX6) (N := 7) hx hb hts iX6 hown hK hP 0 rfl rfl 2 (by decide) (hts _ mg_153) (fun _ h9 => h9) rfl dX6_digest_21 ?_
      refine va_get (D := D) (ci := 3) (v := .int (nI q.1)) (C := RX3) (T := TX3) (N := 5) hx hb hts iX3 hown hK hP 7 rfl rfl 2 (by decide) (hts _ mg_135) (fun _ h9 => h9) rfl dX6_digest_24 ?_
      refine j_icmp_ge (tgt := 59) hx hb dX6_digest_27 (by decide) (nI_toInt (by omega)) (nI_toInt (by omega)) (fun c_4 => ?_) (fun c_4 => ?_)
      · refine lv_iconst (v := nI 0) hx hb dX6_digest_59 (by decide) ?_
        refine lv_istore_n (lv' := [(3, .int (nI 0)), (0, .ref (a 0)), (1, .long x)]) hx hb dX6_digest_60 rfl hl (by decide) rfl (fun ls hl => ?_)
        have K_5 : ∀ n9 : Nat, ∀ (y : Int64) (j : Nat), j ≤ pn → y = fo (dtl b q (if q.1 = 0 then 1061 else dsy b 1061 4) q.1) (fun k => (pc k).toInt64) j → pn - j < n9 → ∀ ls : Array Slot, lv_has ls 5 [(0, .ref (a 0)), (1, .long y), (3, .int (nI j))] → W p l e (headSpec (wA yX6_digest cX6_digest 5 (some .long)) ({ frames := 6, cells := 0, slots := 0, locals := 150 })).room s m args below meth c s.heap [] 0 0 (MQ below (vp_Sl (fun z9 => z9 = sp_digest b q pc pn xr)) args s 0 0 (fun _ => False)) (F0 m 61 ls []) := by
          intro n9
          induction n9 with
          | zero => intros; omega
          | succ n9 ih_6 =>
            intro y j hj hy0 hn9 ls hl
            refine lv_iload_n hx hb dX6_digest_61 rfl (lv_at hl 2 rfl) ?_
            refine lv_aload_n hx hb dX6_digest_62 rfl (lv_at hl 0 rfl) ?_
            refine va_get (D := D) (ci := 6) (v := .ref (a 1)) (C := RX6) (T := TX6) (N := 7) hx hb hts iX6 hown hK hP 0 rfl rfl 0 (by decide) (hts _ mg_151) (fun _ h9 => h9) rfl dX6_digest_63 ?_
            refine va_get (D := D) (ci := 1) (v := .int (nI pn)) (C := RX1) (T := TX1) (N := 3) hx hb hts iX1 hown hK hP 1 rfl rfl 2 (by decide) (hts _ mg_44) (fun _ h9 => h9) rfl dX6_digest_66 ?_
            refine j_icmp_ge (tgt := 94) hx hb dX6_digest_69 (by decide) (nI_toInt (by omega)) (nI_toInt (by omega)) (fun c_7 => ?_) (fun c_7 => ?_)
            · refine lv_iconst (v := nI 0) hx hb dX6_digest_94 (by decide) ?_
              refine lv_istore_n (lv' := [(3, .int (nI 0)), (0, .ref (a 0)), (1, .long y)]) hx hb dX6_digest_95 rfl hl (by decide) rfl (fun ls hl => ?_)
              have K_8 : ∀ n9 : Nat, ∀ (z : Int64) (w : Nat), w ≤ 8 → z = fo (fo (dtl b q (if q.1 = 0 then 1061 else dsy b 1061 4) q.1) (fun k => (pc k).toInt64) pn) (fun w => (cto b q pn xr w).toInt64) w → 8 - w < n9 → ∀ ls : Array Slot, lv_has ls 5 [(0, .ref (a 0)), (1, .long z), (3, .int (nI w))] → W p l e (headSpec (wA yX6_digest cX6_digest 5 (some .long)) ({ frames := 6, cells := 0, slots := 0, locals := 150 })).room s m args below meth c s.heap [] 0 0 (MQ below (vp_Sl (fun z9 => z9 = sp_digest b q pc pn xr)) args s 0 0 (fun _ => False)) (F0 m 96 ls []) := by
                intro n9
                induction n9 with
                | zero => intros; omega
                | succ n9 ih_9 =>
                  intro z w hw hz0 hn9 ls hl
                  refine lv_iload_n hx hb dX6_digest_96 rfl (lv_at hl 2 rfl) ?_
                  refine lv_bipush (v := nI 7) hx hb dX6_digest_97 (by decide) ?_
                  refine j_icmp_gt (tgt := 121) hx hb dX6_digest_99 (by decide) (nI_toInt (by omega)) (nI_toInt (by decide)) (fun c_10 => ?_) (fun c_10 => ?_)
                  · refine lv_lload_n hx hb dX6_digest_121 rfl (lv_at hl 1 rfl) ?_
                    exact ro_lret hx hb hr hlocks (by rw [hz0, show w = 8 by omega]; rfl) dX6_digest_122
                  · refine lv_ldc2 (v := (31 : Int64)) hx hb hown (hts _ mg_451) dX6_digest_102 ?_
                    refine lv_lload_n hx hb dX6_digest_105 rfl (lv_at hl 1 rfl) ?_
                    refine lv_lmul hx hb dX6_digest_106 ?_
                    refine lv_aload_n hx hb dX6_digest_107 rfl (lv_at hl 0 rfl) ?_
                    refine lv_iload_n hx hb dX6_digest_108 rfl (lv_at hl 2 rfl) ?_
                    refine ro_iV (n := 1) (As := [.int (nI w)]) ⟨hx, hb, hml, hown, hts⟩ (c_X6_countOf l D a r k cI cT cN 0 xi xr pn pc rd B L q kq b hS hb4 hT w (by omega)) (cwV 1 hts (gV mg_426 mg_428 mg_1014 mg_1 mg_429) rfl rfl rfl vd_X6_countOf ⟨Nat.le_of_ble_eq_true rfl, Nat.le_of_ble_eq_true rfl⟩) (va_recv hK hP (ci := 6) (q0 := 0) rfl rfl) hK hP rfl hl.1 rfl (Nat.le_of_ble_eq_true rfl) dX6_digest_109 ⟨Nat.zero_le _, Nat.zero_le _⟩ ?_
                    refine lv_i2l (v := (cto b q pn xr w).toInt64) hx hb dX6_digest_112 rfl ?_
                    refine lv_ladd hx hb dX6_digest_113 ?_
                    refine lv_lstore_n (lv' := [(1, .long (((31 : Int64) * z) + ((cto b q pn xr w).toInt64))), (0, .ref (a 0)), (3, .int (nI w))]) hx hb dX6_digest_114 rfl hl (by decide) rfl (fun ls hl => ?_)
                    refine lv_iinc (v := nI (w + 1)) (lv' := [(3, .int (nI (w + 1))), (1, .long (((31 : Int64) * z) + ((cto b q pn xr w).toInt64))), (0, .ref (a 0))]) hx hb dX6_digest_115 hl (k := 2) rfl (fr_inc1 _) (by decide) rfl (fun ls hl => ?_)
                    refine lv_goto (tgt := 96) hx hb dX6_digest_118 (by decide) ?_
                    exact ih_9 (((31 : Int64) * z) + ((cto b q pn xr w).toInt64)) (w + 1) (by omega) (by rw [hz0]; rfl) (by omega) _ (lv_sub hl [2, 1, 0] rfl)
              exact K_8 (8 - 0 + 1) y 0 (by omega) (by rw [hy0, show j = pn by omega]; rfl) (Nat.lt_succ_self _) _ (lv_sub hl [1, 2, 0] rfl)
            · refine lv_ldc2 (v := (31 : Int64)) hx hb hown (hts _ mg_451) dX6_digest_72 ?_
              refine lv_lload_n hx hb dX6_digest_75 rfl (lv_at hl 1 rfl) ?_
              refine lv_lmul hx hb dX6_digest_76 ?_
              refine lv_aload_n hx hb dX6_digest_77 rfl (lv_at hl 0 rfl) ?_
              refine va_get (D := D) (ci := 6) (v := .ref (a 1)) (C := RX6) (T := TX6) (N := 7) hx hb hts iX6 hown hK hP 0 rfl rfl 0 (by decide) (hts _ mg_151) (fun _ h9 => h9) rfl dX6_digest_78 ?_
              refine lv_iload_n hx hb dX6_digest_81 rfl (lv_at hl 2 rfl) ?_
              refine ro_iV (n := 1) (As := [.int (nI j)]) ⟨hx, hb, hml, hown, hts⟩ (c_X1_codeAt l D a cI cT cN pn pc rd j (by omega) h30) (cwV 1 hts (gV mg_248 mg_202 mg_203 mg_2 mg_204) rfl rfl rfl vd_X1_codeAt ⟨Nat.le_of_ble_eq_true rfl, Nat.le_of_ble_eq_true rfl⟩) (va_recv hK hP (ci := 1) (q0 := 1) rfl rfl) hK (cW_p hP) rfl hl.1 rfl (Nat.le_of_ble_eq_true rfl) dX6_digest_82 ⟨Nat.zero_le _, Nat.zero_le _⟩ ?_
              refine lv_i2l (v := (pc j).toInt64) hx hb dX6_digest_85 rfl ?_
              refine lv_ladd hx hb dX6_digest_86 ?_
              refine lv_lstore_n (lv' := [(1, .long (((31 : Int64) * y) + ((pc j).toInt64))), (0, .ref (a 0)), (3, .int (nI j))]) hx hb dX6_digest_87 rfl hl (by decide) rfl (fun ls hl => ?_)
              refine lv_iinc (v := nI (j + 1)) (lv' := [(3, .int (nI (j + 1))), (1, .long (((31 : Int64) * y) + ((pc j).toInt64))), (0, .ref (a 0))]) hx hb dX6_digest_88 hl (k := 2) rfl (fr_inc1 _) (by decide) rfl (fun ls hl => ?_)
              refine lv_goto (tgt := 61) hx hb dX6_digest_91 (by decide) ?_
              exact ih_6 (((31 : Int64) * y) + ((pc j).toInt64)) (j + 1) (by omega) (by rw [hy0]; rfl) (by omega) _ (lv_sub hl [2, 1, 0] rfl)
        exact K_5 (pn - 0 + 1) x 0 (by omega) (by rw [hx0, show i = q.1 by omega]; rfl) (Nat.lt_succ_self _) _ (lv_sub hl [1, 2, 0] rfl)
      · refine lv_aload_n hx hb dX6_digest_30 rfl (lv_at hl 0 rfl) ?_
        refine va_get (D := D) (ci := 6) (v := .ref (r 0)) (C := RX6) (T := TX6) (N := 7) hx hb hts iX6 hown hK hP 0 rfl rfl 2 (by decide) (hts _ mg_153) (fun _ h9 => h9) rfl dX6_digest_31 ?_
        refine lv_iload_n hx hb dX6_digest_34 rfl (lv_at hl 2 rfl) ?_
        refine ro_qV (n := 1) (As := [.int (nI i)]) ⟨hx, hb, hml, hown, hts⟩ (c_X3_tapAt l D r cI cT cN q i (by omega) ht5) (cwV 1 hts (gV mg_290 mg_259 mg_260 mg_5 mg_261) rfl rfl rfl vd_X3_tapAt ⟨Nat.le_of_ble_eq_true rfl, Nat.le_of_ble_eq_true rfl⟩) (va_recv hK hP (ci := 3) (q0 := 7) rfl rfl) hK (cW_r hP) rfl hl.1 rfl (Nat.le_of_ble_eq_true rfl) dX6_digest_35 ⟨Nat.zero_le _, Nat.zero_le _⟩ ?_
        refine lv_astore (lv' := [(4, .ref (r (3 + i))), (0, .ref (a 0)), (1, .long x), (3, .int (nI i))]) hx hb dX6_digest_38 hl (by decide) rfl (fun ls hl => ?_)
        refine lv_aload hx hb dX6_digest_40 (lv_at hl 0 rfl) ?_
        refine lv_ifnull hx hb dX6_digest_42 ?_
        refine lv_aload_n hx hb dX6_digest_45 rfl (lv_at hl 1 rfl) ?_
        refine lv_lload_n hx hb dX6_digest_46 rfl (lv_at hl 2 rfl) ?_
        refine lv_aload hx hb dX6_digest_47 (lv_at hl 0 rfl) ?_
        refine ro_lV (n := 2) (As := [.long x, .ref (r (3 + i))]) ⟨hx, hb, hml, hown, hts⟩ (c_X6_digestTap l D a r k cI cT cN 0 xi xr pn pc rd B L q kq b hS (hokz (by omega)) hT i (by omega) x) (cwV 2 hts (gV mg_452 mg_454 mg_1016 mg_1 mg_455) rfl rfl rfl vd_X6_digestTap ⟨Nat.le_of_ble_eq_true rfl, Nat.le_of_ble_eq_true rfl⟩) (va_recv hK hP (ci := 6) (q0 := 0) rfl rfl) hK hP rfl hl.1 rfl (Nat.le_of_ble_eq_true rfl) dX6_digest_49 ⟨Nat.zero_le _, Nat.zero_le _⟩ ?_
        refine lv_lstore_n (lv' := [(1, .long (dtp b q i x)), (4, .ref (r (3 + i))), (0, .ref (a 0)), (3, .int (nI i))]) hx hb dX6_digest_52 rfl hl (by decide) rfl (fun ls hl => ?_)
        refine lv_iinc (v := nI (i + 1)) (lv' := [(3, .int (nI (i + 1))), (1, .long (dtp b q i x)), (4, .ref (r (3 + i))), (0, .ref (a 0))]) hx hb dX6_digest_53 hl (k := 3) rfl (fr_inc1 _) (by decide) rfl (fun ls hl => ?_)
        refine lv_goto (tgt := 19) hx hb dX6_digest_56 (by decide) ?_
        exact ih_3 (dtp b q i x) (i + 1) (by omega) (by rw [hx0]; rfl) (by omega) _ (lv_sub hl [3, 1, 0] rfl)
  exact K_2 (q.1 - 0 + 1) (1061 : Int64) 0 (by omega) (by rw [if_pos h0]; rfl) (Nat.lt_succ_self _) _ (lv_sub hl [2, 1, 0] rfl)

set_option maxHeartbeats 4000000 in
set_option maxRecDepth 100000 in
theorem c_X6_digest1 (l : Launch) (D : va_G) (a r k : Nat → Nat) (cI cT cN : ClassId) (xi xr pn : Nat) (pc : Nat → Int32) (rd : Nat × Nat × Nat) (B L : Nat → Int32) (q kq : RS) (b : Nat → Nat → Nat) (hS : SR b B L) (hokz : ¬ q.1 = 0 → hok b) (hb4 : ∀ v, v < 4 → b v 0 ≤ 4) (hT : Tok q) (h30 : pn ≤ 30) (h0 : ¬ q.1 = 0) : ROl l yX6_digest (wA yX6_digest cX6_digest 5 (some .long)) ({ frames := 6, cells := 0, slots := 0, locals := 150 }) D (cTys cI cT cN) (cW a r k cI cT cN 1 xi xr pn pc rd B L q kq) [.ref (a 0)] (sp_digest b q pc pn xr) := by
  refine go_start (by decide) (Nat.le_of_ble_eq_true rfl) ?_
  intro p e s m args below meth c ls F _ hB hl
  obtain ⟨hx, hb, hr, hlocks, hml, hown, hts⟩ := F
  obtain ⟨hP, hK⟩ := hB
  have hown : s.vm.findClass RX6 = some m.cls := hown
  have hl : lv_has ls 5 [(0, .ref (a 0))] := hl
  have ht5 := hT.1
  have ht8 := hT.2.1
  have hok9 := hokz h0
  refine lv_ldc2 (v := (1061 : Int64)) hx hb hown (hts _ mg_446) dX6_digest_0 ?_
  refine lv_lstore_n (lv' := [(1, .long (1061 : Int64)), (0, .ref (a 0))]) hx hb dX6_digest_3 rfl hl (by decide) rfl (fun ls hl => ?_)
  refine lv_aload_n hx hb dX6_digest_4 rfl (lv_at hl 1 rfl) ?_
  refine va_get (D := D) (ci := 6) (v := .int (nI 1)) (C := RX6) (T := TX6) (N := 7) hx hb hts iX6 hown hK hP 0 rfl rfl 4 (by decide) (hts _ mg_155) (fun _ h9 => h9) rfl dX6_digest_5 ?_
  refine j_if_eq (tgt := 17) hx hb dX6_digest_8 (by decide) (nI_toInt (by decide)) (fun c_1 => absurd c_1 (by omega)) (fun c_1 => ?_)
  refine lv_aload_n hx hb dX6_digest_11 rfl (lv_at hl 1 rfl) ?_
  refine lv_lload_n hx hb dX6_digest_12 rfl (lv_at hl 0 rfl) ?_
  refine ro_lV (n := 1) (As := [.long (1061 : Int64)]) ⟨hx, hb, hml, hown, hts⟩ (c_X6_digestSayings l D a r k cI cT cN 1 xi xr pn pc rd B L q kq b hS (hokz h0) (1061 : Int64)) (cwV 1 hts (gV mg_447 mg_449 mg_1015 mg_1 mg_450) rfl rfl rfl vd_X6_digestSayings ⟨Nat.le_of_ble_eq_true rfl, Nat.le_of_ble_eq_true rfl⟩) (va_recv hK hP (ci := 6) (q0 := 0) rfl rfl) hK hP rfl hl.1 rfl (Nat.le_of_ble_eq_true rfl) dX6_digest_13 ⟨Nat.zero_le _, Nat.zero_le _⟩ ?_
  refine lv_lstore_n (lv' := [(1, .long (dsy b (1061 : Int64) 4)), (0, .ref (a 0))]) hx hb dX6_digest_16 rfl hl (by decide) rfl (fun ls hl => ?_)
  refine lv_iconst (v := nI 0) hx hb dX6_digest_17 (by decide) ?_
  refine lv_istore_n (lv' := [(3, .int (nI 0)), (1, .long (dsy b (1061 : Int64) 4)), (0, .ref (a 0))]) hx hb dX6_digest_18 rfl hl (by decide) rfl (fun ls hl => ?_)
  have K_2 : ∀ n9 : Nat, ∀ (x : Int64) (i : Nat), i ≤ q.1 → x = dtl b q (if q.1 = 0 then 1061 else dsy b 1061 4) i → q.1 - i < n9 → ∀ ls : Array Slot, lv_has ls 5 [(0, .ref (a 0)), (1, .long x), (3, .int (nI i))] → W p l e (headSpec (wA yX6_digest cX6_digest 5 (some .long)) ({ frames := 6, cells := 0, slots := 0, locals := 150 })).room s m args below meth c s.heap [] 0 0 (MQ below (vp_Sl (fun z9 => z9 = sp_digest b q pc pn xr)) args s 0 0 (fun _ => False)) (F0 m 19 ls []) := by
    intro n9
    induction n9 with
    | zero => intros; omega
    | succ n9 ih_3 =>
      intro x i hi hx0 hn9 ls hl
      refine lv_iload_n hx hb dX6_digest_19 rfl (lv_at hl 2 rfl) ?_
      refine lv_aload_n hx hb dX6_digest_20 rfl (lv_at hl 0 rfl) ?_
      refine va_get (D := D) (ci := 6) (v := .ref (r 0)) (C := RX6) (T := TX6) (N := 7) hx hb hts iX6 hown hK hP 0 rfl rfl 2 (by decide) (hts _ mg_153) (fun _ h9 => h9) rfl dX6_digest_21 ?_
      refine va_get (D := D) (ci := 3) (v := .int (nI q.1)) (C := RX3) (T := TX3) (N := 5) hx hb hts iX3 hown hK hP 7 rfl rfl 2 (by decide) (hts _ mg_135) (fun _ h9 => h9) rfl dX6_digest_24 ?_
      refine j_icmp_ge (tgt := 59) hx hb dX6_digest_27 (by decide) (nI_toInt (by omega)) (nI_toInt (by omega)) (fun c_4 => ?_) (fun c_4 => ?_)
      · refine lv_iconst (v := nI 0) hx hb dX6_digest_59 (by decide) ?_
        refine lv_istore_n (lv' := [(3, .int (nI 0)), (0, .ref (a 0)), (1, .long x)]) hx hb dX6_digest_60 rfl hl (by decide) rfl (fun ls hl => ?_)
        have K_5 : ∀ n9 : Nat, ∀ (y : Int64) (j : Nat), j ≤ pn → y = fo (dtl b q (if q.1 = 0 then 1061 else dsy b 1061 4) q.1) (fun k => (pc k).toInt64) j → pn - j < n9 → ∀ ls : Array Slot, lv_has ls 5 [(0, .ref (a 0)), (1, .long y), (3, .int (nI j))] → W p l e (headSpec (wA yX6_digest cX6_digest 5 (some .long)) ({ frames := 6, cells := 0, slots := 0, locals := 150 })).room s m args below meth c s.heap [] 0 0 (MQ below (vp_Sl (fun z9 => z9 = sp_digest b q pc pn xr)) args s 0 0 (fun _ => False)) (F0 m 61 ls []) := by
          intro n9
          induction n9 with
          | zero => intros; omega
          | succ n9 ih_6 =>
            intro y j hj hy0 hn9 ls hl
            refine lv_iload_n hx hb dX6_digest_61 rfl (lv_at hl 2 rfl) ?_
            refine lv_aload_n hx hb dX6_digest_62 rfl (lv_at hl 0 rfl) ?_
            refine va_get (D := D) (ci := 6) (v := .ref (a 1)) (C := RX6) (T := TX6) (N := 7) hx hb hts iX6 hown hK hP 0 rfl rfl 0 (by decide) (hts _ mg_151) (fun _ h9 => h9) rfl dX6_digest_63 ?_
            refine va_get (D := D) (ci := 1) (v := .int (nI pn)) (C := RX1) (T := TX1) (N := 3) hx hb hts iX1 hown hK hP 1 rfl rfl 2 (by decide) (hts _ mg_44) (fun _ h9 => h9) rfl dX6_digest_66 ?_
            refine j_icmp_ge (tgt := 94) hx hb dX6_digest_69 (by decide) (nI_toInt (by omega)) (nI_toInt (by omega)) (fun c_7 => ?_) (fun c_7 => ?_)
            · refine lv_iconst (v := nI 0) hx hb dX6_digest_94 (by decide) ?_
              refine lv_istore_n (lv' := [(3, .int (nI 0)), (0, .ref (a 0)), (1, .long y)]) hx hb dX6_digest_95 rfl hl (by decide) rfl (fun ls hl => ?_)
              have K_8 : ∀ n9 : Nat, ∀ (z : Int64) (w : Nat), w ≤ 8 → z = fo (fo (dtl b q (if q.1 = 0 then 1061 else dsy b 1061 4) q.1) (fun k => (pc k).toInt64) pn) (fun w => (cto b q pn xr w).toInt64) w → 8 - w < n9 → ∀ ls : Array Slot, lv_has ls 5 [(0, .ref (a 0)), (1, .long z), (3, .int (nI w))] → W p l e (headSpec (wA yX6_digest cX6_digest 5 (some .long)) ({ frames := 6, cells := 0, slots := 0, locals := 150 })).room s m args below meth c s.heap [] 0 0 (MQ below (vp_Sl (fun z9 => z9 = sp_digest b q pc pn xr)) args s 0 0 (fun _ => False)) (F0 m 96 ls []) := by
                intro n9
                induction n9 with
                | zero => intros; omega
                | succ n9 ih_9 =>
                  intro z w hw hz0 hn9 ls hl
                  refine lv_iload_n hx hb dX6_digest_96 rfl (lv_at hl 2 rfl) ?_
                  refine lv_bipush (v := nI 7) hx hb dX6_digest_97 (by decide) ?_
                  refine j_icmp_gt (tgt := 121) hx hb dX6_digest_99 (by decide) (nI_toInt (by omega)) (nI_toInt (by decide)) (fun c_10 => ?_) (fun c_10 => ?_)
                  · refine lv_lload_n hx hb dX6_digest_121 rfl (lv_at hl 1 rfl) ?_
                    exact ro_lret hx hb hr hlocks (by rw [hz0, show w = 8 by omega]; rfl) dX6_digest_122
                  · refine lv_ldc2 (v := (31 : Int64)) hx hb hown (hts _ mg_451) dX6_digest_102 ?_
                    refine lv_lload_n hx hb dX6_digest_105 rfl (lv_at hl 1 rfl) ?_
                    refine lv_lmul hx hb dX6_digest_106 ?_
                    refine lv_aload_n hx hb dX6_digest_107 rfl (lv_at hl 0 rfl) ?_
                    refine lv_iload_n hx hb dX6_digest_108 rfl (lv_at hl 2 rfl) ?_
                    refine ro_iV (n := 1) (As := [.int (nI w)]) ⟨hx, hb, hml, hown, hts⟩ (c_X6_countOf l D a r k cI cT cN 1 xi xr pn pc rd B L q kq b hS hb4 hT w (by omega)) (cwV 1 hts (gV mg_426 mg_428 mg_1014 mg_1 mg_429) rfl rfl rfl vd_X6_countOf ⟨Nat.le_of_ble_eq_true rfl, Nat.le_of_ble_eq_true rfl⟩) (va_recv hK hP (ci := 6) (q0 := 0) rfl rfl) hK hP rfl hl.1 rfl (Nat.le_of_ble_eq_true rfl) dX6_digest_109 ⟨Nat.zero_le _, Nat.zero_le _⟩ ?_
                    refine lv_i2l (v := (cto b q pn xr w).toInt64) hx hb dX6_digest_112 rfl ?_
                    refine lv_ladd hx hb dX6_digest_113 ?_
                    refine lv_lstore_n (lv' := [(1, .long (((31 : Int64) * z) + ((cto b q pn xr w).toInt64))), (0, .ref (a 0)), (3, .int (nI w))]) hx hb dX6_digest_114 rfl hl (by decide) rfl (fun ls hl => ?_)
                    refine lv_iinc (v := nI (w + 1)) (lv' := [(3, .int (nI (w + 1))), (1, .long (((31 : Int64) * z) + ((cto b q pn xr w).toInt64))), (0, .ref (a 0))]) hx hb dX6_digest_115 hl (k := 2) rfl (fr_inc1 _) (by decide) rfl (fun ls hl => ?_)
                    refine lv_goto (tgt := 96) hx hb dX6_digest_118 (by decide) ?_
                    exact ih_9 (((31 : Int64) * z) + ((cto b q pn xr w).toInt64)) (w + 1) (by omega) (by rw [hz0]; rfl) (by omega) _ (lv_sub hl [2, 1, 0] rfl)
              exact K_8 (8 - 0 + 1) y 0 (by omega) (by rw [hy0, show j = pn by omega]; rfl) (Nat.lt_succ_self _) _ (lv_sub hl [1, 2, 0] rfl)
            · refine lv_ldc2 (v := (31 : Int64)) hx hb hown (hts _ mg_451) dX6_digest_72 ?_
              refine lv_lload_n hx hb dX6_digest_75 rfl (lv_at hl 1 rfl) ?_
              refine lv_lmul hx hb dX6_digest_76 ?_
              refine lv_aload_n hx hb dX6_digest_77 rfl (lv_at hl 0 rfl) ?_
              refine va_get (D := D) (ci := 6) (v := .ref (a 1)) (C := RX6) (T := TX6) (N := 7) hx hb hts iX6 hown hK hP 0 rfl rfl 0 (by decide) (hts _ mg_151) (fun _ h9 => h9) rfl dX6_digest_78 ?_
              refine lv_iload_n hx hb dX6_digest_81 rfl (lv_at hl 2 rfl) ?_
              refine ro_iV (n := 1) (As := [.int (nI j)]) ⟨hx, hb, hml, hown, hts⟩ (c_X1_codeAt l D a cI cT cN pn pc rd j (by omega) h30) (cwV 1 hts (gV mg_248 mg_202 mg_203 mg_2 mg_204) rfl rfl rfl vd_X1_codeAt ⟨Nat.le_of_ble_eq_true rfl, Nat.le_of_ble_eq_true rfl⟩) (va_recv hK hP (ci := 1) (q0 := 1) rfl rfl) hK (cW_p hP) rfl hl.1 rfl (Nat.le_of_ble_eq_true rfl) dX6_digest_82 ⟨Nat.zero_le _, Nat.zero_le _⟩ ?_
              refine lv_i2l (v := (pc j).toInt64) hx hb dX6_digest_85 rfl ?_
              refine lv_ladd hx hb dX6_digest_86 ?_
              refine lv_lstore_n (lv' := [(1, .long (((31 : Int64) * y) + ((pc j).toInt64))), (0, .ref (a 0)), (3, .int (nI j))]) hx hb dX6_digest_87 rfl hl (by decide) rfl (fun ls hl => ?_)
              refine lv_iinc (v := nI (j + 1)) (lv' := [(3, .int (nI (j + 1))), (1, .long (((31 : Int64) * y) + ((pc j).toInt64))), (0, .ref (a 0))]) hx hb dX6_digest_88 hl (k := 2) rfl (fr_inc1 _) (by decide) rfl (fun ls hl => ?_)
              refine lv_goto (tgt := 61) hx hb dX6_digest_91 (by decide) ?_
              exact ih_6 (((31 : Int64) * y) + ((pc j).toInt64)) (j + 1) (by omega) (by rw [hy0]; rfl) (by omega) _ (lv_sub hl [2, 1, 0] rfl)
        exact K_5 (pn - 0 + 1) x 0 (by omega) (by rw [hx0, show i = q.1 by omega]; rfl) (Nat.lt_succ_self _) _ (lv_sub hl [1, 2, 0] rfl)
      · refine lv_aload_n hx hb dX6_digest_30 rfl (lv_at hl 0 rfl) ?_
        refine va_get (D := D) (ci := 6) (v := .ref (r 0)) (C := RX6) (T := TX6) (N := 7) hx hb hts iX6 hown hK hP 0 rfl rfl 2 (by decide) (hts _ mg_153) (fun _ h9 => h9) rfl dX6_digest_31 ?_
        refine lv_iload_n hx hb dX6_digest_34 rfl (lv_at hl 2 rfl) ?_
        refine ro_qV (n := 1) (As := [.int (nI i)]) ⟨hx, hb, hml, hown, hts⟩ (c_X3_tapAt l D r cI cT cN q i (by omega) ht5) (cwV 1 hts (gV mg_290 mg_259 mg_260 mg_5 mg_261) rfl rfl rfl vd_X3_tapAt ⟨Nat.le_of_ble_eq_true rfl, Nat.le_of_ble_eq_true rfl⟩) (va_recv hK hP (ci := 3) (q0 := 7) rfl rfl) hK (cW_r hP) rfl hl.1 rfl (Nat.le_of_ble_eq_true rfl) dX6_digest_35 ⟨Nat.zero_le _, Nat.zero_le _⟩ ?_
        refine lv_astore (lv' := [(4, .ref (r (3 + i))), (0, .ref (a 0)), (1, .long x), (3, .int (nI i))]) hx hb dX6_digest_38 hl (by decide) rfl (fun ls hl => ?_)
        refine lv_aload hx hb dX6_digest_40 (lv_at hl 0 rfl) ?_
        refine lv_ifnull hx hb dX6_digest_42 ?_
        refine lv_aload_n hx hb dX6_digest_45 rfl (lv_at hl 1 rfl) ?_
        refine lv_lload_n hx hb dX6_digest_46 rfl (lv_at hl 2 rfl) ?_
        refine lv_aload hx hb dX6_digest_47 (lv_at hl 0 rfl) ?_
        refine ro_lV (n := 2) (As := [.long x, .ref (r (3 + i))]) ⟨hx, hb, hml, hown, hts⟩ (c_X6_digestTap l D a r k cI cT cN 1 xi xr pn pc rd B L q kq b hS (hokz (by omega)) hT i (by omega) x) (cwV 2 hts (gV mg_452 mg_454 mg_1016 mg_1 mg_455) rfl rfl rfl vd_X6_digestTap ⟨Nat.le_of_ble_eq_true rfl, Nat.le_of_ble_eq_true rfl⟩) (va_recv hK hP (ci := 6) (q0 := 0) rfl rfl) hK hP rfl hl.1 rfl (Nat.le_of_ble_eq_true rfl) dX6_digest_49 ⟨Nat.zero_le _, Nat.zero_le _⟩ ?_
        refine lv_lstore_n (lv' := [(1, .long (dtp b q i x)), (4, .ref (r (3 + i))), (0, .ref (a 0)), (3, .int (nI i))]) hx hb dX6_digest_52 rfl hl (by decide) rfl (fun ls hl => ?_)
        refine lv_iinc (v := nI (i + 1)) (lv' := [(3, .int (nI (i + 1))), (1, .long (dtp b q i x)), (4, .ref (r (3 + i))), (0, .ref (a 0))]) hx hb dX6_digest_53 hl (k := 3) rfl (fr_inc1 _) (by decide) rfl (fun ls hl => ?_)
        refine lv_goto (tgt := 19) hx hb dX6_digest_56 (by decide) ?_
        exact ih_3 (dtp b q i x) (i + 1) (by omega) (by rw [hx0]; rfl) (by omega) _ (lv_sub hl [3, 1, 0] rfl)
  exact K_2 (q.1 - 0 + 1) (dsy b (1061 : Int64) 4) 0 (by omega) (by rw [if_neg h0]; rfl) (Nat.lt_succ_self _) _ (lv_sub hl [2, 1, 0] rfl)

theorem c_X6_digest (l : Launch) (D : va_G) (a r k : Nat → Nat) (cI cT cN : ClassId) (xh xi xr pn : Nat) (pc : Nat → Int32) (rd : Nat × Nat × Nat) (B L : Nat → Int32) (q kq : RS) (b : Nat → Nat → Nat) (hS : SR b B L) (hokz : ¬ q.1 = 0 → hok b) (hb4 : ∀ v, v < 4 → b v 0 ≤ 4) (hT : Tok q) (h30 : pn ≤ 30) (hH : xh = if q.1 = 0 then 0 else 1) : ROl l yX6_digest (wA yX6_digest cX6_digest 5 (some .long)) ({ frames := 6, cells := 0, slots := 0, locals := 150 }) D (cTys cI cT cN) (cW a r k cI cT cN xh xi xr pn pc rd B L q kq) [.ref (a 0)] (sp_digest b q pc pn xr) := by
  by_cases h0 : q.1 = 0
  · rw [if_pos h0] at hH
    subst hH
    exact c_X6_digest0 l D a r k cI cT cN xi xr pn pc rd B L q kq b hS hokz hb4 hT h30 h0
  · rw [if_neg h0] at hH
    subst hH
    exact c_X6_digest1 l D a r k cI cT cN xi xr pn pc rd B L q kq b hS hokz hb4 hT h30 h0
