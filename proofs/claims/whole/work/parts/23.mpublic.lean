set_option maxHeartbeats 4000000 in
set_option maxRecDepth 100000 in
theorem c_X7_aboutX (l : Launch) (D : va_G) (h : Nat) (g : Nat → Nat) (cI : ClassId) (J : Nat → Int32) (hz : Int64) (G : Nat → Nat → Int32) (b : Nat → Nat → Nat) (q : RS) (hM : MR b q J G) (hokz : ¬ q.1 = 0 → hok b) (hT : Tok q) (x w : Int32) (ox : ¬ inr x 0 q.1) : ROi l yX7_about (wA yX7_about cX7_about 3 (some .int)) ({ frames := 5, cells := 0, slots := 0, locals := 127 }) D (iTys cI) (mW h g cI J hz G) [.ref h, .int x, .int w] (-101) := by
  refine go_start (by decide) (Nat.le_of_ble_eq_true rfl) ?_
  intro p e s m args below meth c ls F _ hB hl
  obtain ⟨hx, hb, hr, hlocks, hml, hown, hts⟩ := F
  obtain ⟨hP, hK⟩ := hB
  have hown : s.vm.findClass RX7 = some m.cls := hown
  have hl : lv_has ls 3 [(0, .ref h), (1, .int x), (2, .int w)] := hl
  have ht5 := hT.1
  have ht8 := hT.2.1
  refine lv_aload_n hx hb dX7_about_0 rfl (lv_at hl 0 rfl) ?_
  refine lv_iload_n hx hb dX7_about_1 rfl (lv_at hl 1 rfl) ?_
  refine ro_iV (n := 1) (As := [.int x]) ⟨hx, hb, hml, hown, hts⟩ (c_X7_isTapF l D h g cI J hz G b q hM hT x ox) (cwV 1 hts (gV mg_596 mg_598 mg_1022 mg_8 mg_599) rfl rfl rfl vd_X7_isTap ⟨Nat.le_of_ble_eq_true rfl, Nat.le_of_ble_eq_true rfl⟩) (va_recv hK hP (ci := 7) (q0 := 0) rfl rfl) hK hP rfl hl.1 rfl (Nat.le_of_ble_eq_true rfl) dX7_about_2 ⟨Nat.zero_le _, Nat.zero_le _⟩ ?_
  refine j_if_eq (tgt := 17) hx hb dX7_about_5 (by decide) (nI_toInt (by decide)) (fun c_1 => ?_) (fun c_1 => absurd c_1 (by omega))
  refine lv_bipush (v := (-101)) hx hb dX7_about_17 (by decide) ?_
  exact ro_iret hx hb hr hlocks (rfl) dX7_about_19

set_option maxHeartbeats 4000000 in
set_option maxRecDepth 100000 in
theorem c_X7_aboutO (l : Launch) (D : va_G) (h : Nat) (g : Nat → Nat) (cI : ClassId) (J : Nat → Int32) (hz : Int64) (G : Nat → Nat → Int32) (b : Nat → Nat → Nat) (q : RS) (hM : MR b q J G) (hokz : ¬ q.1 = 0 → hok b) (hT : Tok q) (i : Nat) (hi : i < q.1) (w : Int32) (ow : ¬ inr w 0 9) : ROi l yX7_about (wA yX7_about cX7_about 3 (some .int)) ({ frames := 5, cells := 0, slots := 0, locals := 127 }) D (iTys cI) (mW h g cI J hz G) [.ref h, .int (nI i), .int w] (-102) := by
  refine go_start (by decide) (Nat.le_of_ble_eq_true rfl) ?_
  intro p e s m args below meth c ls F _ hB hl
  obtain ⟨hx, hb, hr, hlocks, hml, hown, hts⟩ := F
  obtain ⟨hP, hK⟩ := hB
  have hown : s.vm.findClass RX7 = some m.cls := hown
  have hl : lv_has ls 3 [(0, .ref h), (1, .int (nI i)), (2, .int w)] := hl
  have ht5 := hT.1
  have ht8 := hT.2.1
  have hok9 := hokz (by omega)
  refine lv_aload_n hx hb dX7_about_0 rfl (lv_at hl 0 rfl) ?_
  refine lv_iload_n hx hb dX7_about_1 rfl (lv_at hl 1 rfl) ?_
  refine ro_iV (n := 1) (As := [.int (nI i)]) ⟨hx, hb, hml, hown, hts⟩ (c_X7_isTapT l D h g cI J hz G b q hM hT i (by omega)) (cwV 1 hts (gV mg_596 mg_598 mg_1022 mg_8 mg_599) rfl rfl rfl vd_X7_isTap ⟨Nat.le_of_ble_eq_true rfl, Nat.le_of_ble_eq_true rfl⟩) (va_recv hK hP (ci := 7) (q0 := 0) rfl rfl) hK hP rfl hl.1 rfl (Nat.le_of_ble_eq_true rfl) dX7_about_2 ⟨Nat.zero_le _, Nat.zero_le _⟩ ?_
  refine j_if_eq (tgt := 17) hx hb dX7_about_5 (by decide) (nI_toInt (by decide)) (fun c_1 => absurd c_1 (by omega)) (fun c_1 => ?_)
  refine lv_aload_n hx hb dX7_about_8 rfl (lv_at hl 0 rfl) ?_
  refine lv_iload_n hx hb dX7_about_9 rfl (lv_at hl 1 rfl) ?_
  refine lv_iload_n hx hb dX7_about_10 rfl (lv_at hl 2 rfl) ?_
  refine ro_iV (n := 2) (As := [.int (nI i), .int w]) ⟨hx, hb, hml, hown, hts⟩ (c_X7_tellO l D h g cI J hz G b q hM hok9 hT i hi w ow) (cwV 2 hts (gV mg_600 mg_602 mg_1023 mg_8 mg_603) rfl rfl rfl vd_X7_tell ⟨Nat.le_of_ble_eq_true rfl, Nat.le_of_ble_eq_true rfl⟩) (va_recv hK hP (ci := 7) (q0 := 0) rfl rfl) hK hP rfl hl.1 rfl (Nat.le_of_ble_eq_true rfl) dX7_about_11 ⟨Nat.zero_le _, Nat.zero_le _⟩ ?_
  refine lv_goto (tgt := 19) hx hb dX7_about_14 (by decide) ?_
  exact ro_iret hx hb hr hlocks (rfl) dX7_about_19

set_option maxHeartbeats 4000000 in
set_option maxRecDepth 100000 in
theorem c_X7_aboutI (l : Launch) (D : va_G) (h : Nat) (g : Nat → Nat) (cI : ClassId) (J : Nat → Int32) (hz : Int64) (G : Nat → Nat → Int32) (b : Nat → Nat → Nat) (q : RS) (hM : MR b q J G) (hokz : ¬ q.1 = 0 → hok b) (hT : Tok q) (i : Nat) (hi : i < q.1) (w : Nat) (hw : w < 9) : ROi l yX7_about (wA yX7_about cX7_about 3 (some .int)) ({ frames := 5, cells := 0, slots := 0, locals := 127 }) D (iTys cI) (mW h g cI J hz G) [.ref h, .int (nI i), .int (nI w)] (abt b q.2.2.2.1 q.2.2.2.2 q.2.1 i w) := by
  refine go_start (by decide) (Nat.le_of_ble_eq_true rfl) ?_
  intro p e s m args below meth c ls F _ hB hl
  obtain ⟨hx, hb, hr, hlocks, hml, hown, hts⟩ := F
  obtain ⟨hP, hK⟩ := hB
  have hown : s.vm.findClass RX7 = some m.cls := hown
  have hl : lv_has ls 3 [(0, .ref h), (1, .int (nI i)), (2, .int (nI w))] := hl
  have ht5 := hT.1
  have ht8 := hT.2.1
  have hok9 := hokz (by omega)
  refine lv_aload_n hx hb dX7_about_0 rfl (lv_at hl 0 rfl) ?_
  refine lv_iload_n hx hb dX7_about_1 rfl (lv_at hl 1 rfl) ?_
  refine ro_iV (n := 1) (As := [.int (nI i)]) ⟨hx, hb, hml, hown, hts⟩ (c_X7_isTapT l D h g cI J hz G b q hM hT i (by omega)) (cwV 1 hts (gV mg_596 mg_598 mg_1022 mg_8 mg_599) rfl rfl rfl vd_X7_isTap ⟨Nat.le_of_ble_eq_true rfl, Nat.le_of_ble_eq_true rfl⟩) (va_recv hK hP (ci := 7) (q0 := 0) rfl rfl) hK hP rfl hl.1 rfl (Nat.le_of_ble_eq_true rfl) dX7_about_2 ⟨Nat.zero_le _, Nat.zero_le _⟩ ?_
  refine j_if_eq (tgt := 17) hx hb dX7_about_5 (by decide) (nI_toInt (by decide)) (fun c_1 => absurd c_1 (by omega)) (fun c_1 => ?_)
  refine lv_aload_n hx hb dX7_about_8 rfl (lv_at hl 0 rfl) ?_
  refine lv_iload_n hx hb dX7_about_9 rfl (lv_at hl 1 rfl) ?_
  refine lv_iload_n hx hb dX7_about_10 rfl (lv_at hl 2 rfl) ?_
  refine ro_iV (n := 2) (As := [.int (nI i), .int (nI w)]) ⟨hx, hb, hml, hown, hts⟩ (c_X7_tell l D h g cI J hz G b q hM hok9 hT i hi w hw) (cwV 2 hts (gV mg_600 mg_602 mg_1023 mg_8 mg_603) rfl rfl rfl vd_X7_tell ⟨Nat.le_of_ble_eq_true rfl, Nat.le_of_ble_eq_true rfl⟩) (va_recv hK hP (ci := 7) (q0 := 0) rfl rfl) hK hP rfl hl.1 rfl (Nat.le_of_ble_eq_true rfl) dX7_about_11 ⟨Nat.zero_le _, Nat.zero_le _⟩ ?_
  refine lv_goto (tgt := 19) hx hb dX7_about_14 (by decide) ?_
  exact ro_iret hx hb hr hlocks (rfl) dX7_about_19

theorem c_X7_about (l : Launch) (D : va_G) (h : Nat) (g : Nat → Nat) (cI : ClassId) (J : Nat → Int32) (hz : Int64) (G : Nat → Nat → Int32) (b : Nat → Nat → Nat) (q : RS) (hM : MR b q J G) (hokz : ¬ q.1 = 0 → hok b) (hT : Tok q) (x w : Int32) : ROi l yX7_about (wA yX7_about cX7_about 3 (some .int)) ({ frames := 5, cells := 0, slots := 0, locals := 127 }) D (iTys cI) (mW h g cI J hz G) [.ref h, .int x, .int w] (sp_about b q x w) := by
  unfold sp_about
  have h5 := hT.1
  by_cases hx : inr x 0 q.1
  · obtain ⟨i, hi, rfl⟩ := inr_nat hx (by omega)
    rw [if_pos hx, ti_nI (by omega)]
    by_cases hw : inr w 0 9
    · obtain ⟨j, hj, rfl⟩ := inr_nat (n := 9) hw (by decide)
      rw [if_pos hw, ti_nI (by omega)]
      exact c_X7_aboutI l D h g cI J hz G b q hM hokz hT i hi j hj
    · rw [if_neg hw]
      exact c_X7_aboutO l D h g cI J hz G b q hM hokz hT i hi w hw
  · rw [if_neg hx]
    exact c_X7_aboutX l D h g cI J hz G b q hM hokz hT x w hx

set_option maxHeartbeats 4000000 in
set_option maxRecDepth 100000 in
theorem c_X7_asX (l : Launch) (D : va_G) (h : Nat) (g : Nat → Nat) (cI : ClassId) (J : Nat → Int32) (hz : Int64) (G : Nat → Nat → Int32) (b : Nat → Nat → Nat) (q : RS) (hM : MR b q J G) (hokz : ¬ q.1 = 0 → hok b) (hT : Tok q) (x w : Int32) (ox : ¬ inr x 0 q.1) : ROi l yX7_as (wA yX7_as cX7_as 5 (some .int)) ({ frames := 2, cells := 0, slots := 0, locals := 46 }) D (iTys cI) (mW h g cI J hz G) [.ref h, .int x, .int w] (-101) := by
  refine go_start (by decide) (Nat.le_of_ble_eq_true rfl) ?_
  intro p e s m args below meth c ls F _ hB hl
  obtain ⟨hx, hb, hr, hlocks, hml, hown, hts⟩ := F
  obtain ⟨hP, hK⟩ := hB
  have hown : s.vm.findClass RX7 = some m.cls := hown
  have hl : lv_has ls 5 [(0, .ref h), (1, .int x), (2, .int w)] := hl
  have ht5 := hT.1
  have ht8 := hT.2.1
  refine lv_aload_n hx hb dX7_as_0 rfl (lv_at hl 0 rfl) ?_
  refine lv_iload_n hx hb dX7_as_1 rfl (lv_at hl 1 rfl) ?_
  refine ro_iV (n := 1) (As := [.int x]) ⟨hx, hb, hml, hown, hts⟩ (c_X7_isTapF l D h g cI J hz G b q hM hT x ox) (cwV 1 hts (gV mg_596 mg_598 mg_1022 mg_8 mg_599) rfl rfl rfl vd_X7_isTap ⟨Nat.le_of_ble_eq_true rfl, Nat.le_of_ble_eq_true rfl⟩) (va_recv hK hP (ci := 7) (q0 := 0) rfl rfl) hK hP rfl hl.1 rfl (Nat.le_of_ble_eq_true rfl) dX7_as_2 ⟨Nat.zero_le _, Nat.zero_le _⟩ ?_
  refine j_if_ne (tgt := 11) hx hb dX7_as_5 (by decide) (nI_toInt (by decide)) (fun c_1 => absurd c_1 (by omega)) (fun c_1 => ?_)
  refine lv_bipush (v := (-101)) hx hb dX7_as_8 (by decide) ?_
  exact ro_iret hx hb hr hlocks (rfl) dX7_as_10

set_option maxHeartbeats 4000000 in
set_option maxRecDepth 100000 in
theorem c_X7_asO (l : Launch) (D : va_G) (h : Nat) (g : Nat → Nat) (cI : ClassId) (J : Nat → Int32) (hz : Int64) (G : Nat → Nat → Int32) (b : Nat → Nat → Nat) (q : RS) (hM : MR b q J G) (hokz : ¬ q.1 = 0 → hok b) (hT : Tok q) (i : Nat) (hi : i < q.1) (w : Int32) (ow : ¬ inr w 0 5) : ROi l yX7_as (wA yX7_as cX7_as 5 (some .int)) ({ frames := 2, cells := 0, slots := 0, locals := 46 }) D (iTys cI) (mW h g cI J hz G) [.ref h, .int (nI i), .int w] (-102) := by
  refine go_start (by decide) (Nat.le_of_ble_eq_true rfl) ?_
  intro p e s m args below meth c ls F _ hB hl
  obtain ⟨hx, hb, hr, hlocks, hml, hown, hts⟩ := F
  obtain ⟨hP, hK⟩ := hB
  have hown : s.vm.findClass RX7 = some m.cls := hown
  have hl : lv_has ls 5 [(0, .ref h), (1, .int (nI i)), (2, .int w)] := hl
  have ht5 := hT.1
  have ht8 := hT.2.1
  have ow7 := inr_out ow
  have hok9 := hokz (by omega)
  refine lv_aload_n hx hb dX7_as_0 rfl (lv_at hl 0 rfl) ?_
  refine lv_iload_n hx hb dX7_as_1 rfl (lv_at hl 1 rfl) ?_
  refine ro_iV (n := 1) (As := [.int (nI i)]) ⟨hx, hb, hml, hown, hts⟩ (c_X7_isTapT l D h g cI J hz G b q hM hT i (by omega)) (cwV 1 hts (gV mg_596 mg_598 mg_1022 mg_8 mg_599) rfl rfl rfl vd_X7_isTap ⟨Nat.le_of_ble_eq_true rfl, Nat.le_of_ble_eq_true rfl⟩) (va_recv hK hP (ci := 7) (q0 := 0) rfl rfl) hK hP rfl hl.1 rfl (Nat.le_of_ble_eq_true rfl) dX7_as_2 ⟨Nat.zero_le _, Nat.zero_le _⟩ ?_
  refine j_if_ne (tgt := 11) hx hb dX7_as_5 (by decide) (nI_toInt (by decide)) (fun c_1 => ?_) (fun c_1 => absurd c_1 (by omega))
  refine lv_iload_n hx hb dX7_as_11 rfl (lv_at hl 2 rfl) ?_
  refine lv_i2l (v := w.toInt64) hx hb dX7_as_12 rfl ?_
  refine lv_lconst (v := (0 : Int64)) hx hb dX7_as_13 (by decide) ?_
  refine lv_ldc2 (v := (4 : Int64)) hx hb hown (hts _ mg_591) dX7_as_14 ?_
  have e1 : (w.toInt64 : Int64).toInt = w.toInt := (Int32.toInt_toInt64 _).trans rfl
  have e2 : ((0) : Int64).toInt = 0 := (by decide)
  have e3 : ((4 : Int64) : Int64).toInt = 4 := (by decide)
  refine ro_iS (n := 3) (As := [.long w.toInt64, .long (0), .long (4 : Int64)]) ⟨hx, hb, hml, hown, hts⟩ (c_X7_inF l D (w.toInt64) ((0)) ((4 : Int64)) (fun z => by omega)) (cwS 3 hts (gS mg_534 mg_535 mg_8 mg_536) rfl rfl rfl vd_X7_in ⟨Nat.le_of_ble_eq_true rfl, Nat.le_of_ble_eq_true rfl⟩)  (hK.sub [] rfl) (fun k q h => by simp at h) rfl hl.1 rfl (Nat.le_of_ble_eq_true rfl) dX7_as_17 ⟨Nat.zero_le _, Nat.zero_le _⟩ ?_
  refine j_if_ne (tgt := 26) hx hb dX7_as_20 (by decide) (nI_toInt (by decide)) (fun c_2 => absurd c_2 (by omega)) (fun c_2 => ?_)
  refine lv_bipush (v := (-102)) hx hb dX7_as_23 (by decide) ?_
  exact ro_iret hx hb hr hlocks (rfl) dX7_as_25

set_option maxHeartbeats 4000000 in
set_option maxRecDepth 100000 in
theorem c_X7_asI (l : Launch) (D : va_G) (h : Nat) (g : Nat → Nat) (cI : ClassId) (J : Nat → Int32) (hz : Int64) (G : Nat → Nat → Int32) (b : Nat → Nat → Nat) (q : RS) (hM : MR b q J G) (hokz : ¬ q.1 = 0 → hok b) (hT : Tok q) (i : Nat) (hi : i < q.1) (w : Nat) (hw : w < 5) : ROi l yX7_as (wA yX7_as cX7_as 5 (some .int)) ({ frames := 2, cells := 0, slots := 0, locals := 46 }) D (iTys cI) (mW h g cI J hz G) [.ref h, .int (nI i), .int (nI w)] (if w = 0 ∨ w = q.2.2.2.1 i 0 ∨ (w = 1 ∧ q.2.2.2.1 i 0 = 4) then nI i else -1) := by
  refine go_start (by decide) (Nat.le_of_ble_eq_true rfl) ?_
  intro p e s m args below meth c ls F _ hB hl
  obtain ⟨hx, hb, hr, hlocks, hml, hown, hts⟩ := F
  obtain ⟨hP, hK⟩ := hB
  have hown : s.vm.findClass RX7 = some m.cls := hown
  have hl : lv_has ls 5 [(0, .ref h), (1, .int (nI i)), (2, .int (nI w))] := hl
  have ht5 := hT.1
  have ht8 := hT.2.1
  obtain ⟨hk0, hv0, hw0, hp0⟩ := hT.2.2.1 i hi
  have hok9 := hokz (by omega)
  refine lv_aload_n hx hb dX7_as_0 rfl (lv_at hl 0 rfl) ?_
  refine lv_iload_n hx hb dX7_as_1 rfl (lv_at hl 1 rfl) ?_
  refine ro_iV (n := 1) (As := [.int (nI i)]) ⟨hx, hb, hml, hown, hts⟩ (c_X7_isTapT l D h g cI J hz G b q hM hT i (by omega)) (cwV 1 hts (gV mg_596 mg_598 mg_1022 mg_8 mg_599) rfl rfl rfl vd_X7_isTap ⟨Nat.le_of_ble_eq_true rfl, Nat.le_of_ble_eq_true rfl⟩) (va_recv hK hP (ci := 7) (q0 := 0) rfl rfl) hK hP rfl hl.1 rfl (Nat.le_of_ble_eq_true rfl) dX7_as_2 ⟨Nat.zero_le _, Nat.zero_le _⟩ ?_
  refine j_if_ne (tgt := 11) hx hb dX7_as_5 (by decide) (nI_toInt (by decide)) (fun c_1 => ?_) (fun c_1 => absurd c_1 (by omega))
  refine lv_iload_n hx hb dX7_as_11 rfl (lv_at hl 2 rfl) ?_
  refine lv_i2l (v := lN w) hx hb dX7_as_12 (nI_l (by omega)) ?_
  refine lv_lconst (v := (0 : Int64)) hx hb dX7_as_13 (by decide) ?_
  refine lv_ldc2 (v := (4 : Int64)) hx hb hown (hts _ mg_591) dX7_as_14 ?_
  have e1 : (lN w : Int64).toInt = ((w : Nat) : Int) := lN_toInt (by omega)
  have e2 : ((0) : Int64).toInt = 0 := (by decide)
  have e3 : ((4 : Int64) : Int64).toInt = 4 := (by decide)
  refine ro_iS (n := 3) (As := [.long (lN w), .long (0), .long (4 : Int64)]) ⟨hx, hb, hml, hown, hts⟩ (c_X7_inT l D (lN w) ((0)) ((4 : Int64)) (by constructor <;> omega)) (cwS 3 hts (gS mg_534 mg_535 mg_8 mg_536) rfl rfl rfl vd_X7_in ⟨Nat.le_of_ble_eq_true rfl, Nat.le_of_ble_eq_true rfl⟩)  (hK.sub [] rfl) (fun k q h => by simp at h) rfl hl.1 rfl (Nat.le_of_ble_eq_true rfl) dX7_as_17 ⟨Nat.zero_le _, Nat.zero_le _⟩ ?_
  refine j_if_ne (tgt := 26) hx hb dX7_as_20 (by decide) (nI_toInt (by decide)) (fun c_2 => ?_) (fun c_2 => absurd c_2 (by omega))
  refine lv_aload_n hx hb dX7_as_26 rfl (lv_at hl 0 rfl) ?_
  refine va_get (D := D) (ci := 7) (v := .ref (g 11)) (C := RX7) (T := TX7) (N := 22) hx hb hts iX7 hown hK hP 0 rfl rfl 11 (by decide) (hts _ mg_473) (fun _ h9 => h9) rfl dX7_as_27 ?_
  refine lv_iconst (v := nI 4) hx hb dX7_as_30 (by decide) ?_
  refine lv_iload_n hx hb dX7_as_31 rfl (lv_at hl 1 rfl) ?_
  refine n_imul hx hb dX7_as_32 ?_
  refine n_aldi hx hb hK hP 5 0 rfl rfl (by omega) (by decide) (v := nI (q.2.2.2.1 i 0)) (MR_row0 hM (by omega)) dX7_as_33 ?_
  refine lv_istore_n (lv' := [(3, .int (nI (q.2.2.2.1 i 0))), (0, .ref h), (1, .int (nI i)), (2, .int (nI w))]) hx hb dX7_as_34 rfl hl (by decide) rfl (fun ls hl => ?_)
  refine lv_iload_n hx hb dX7_as_35 rfl (lv_at hl 3 rfl) ?_
  refine j_if_eq (tgt := 54) hx hb dX7_as_36 (by decide) (nI_toInt (by omega)) (fun c_3 => ?_) (fun c_3 => ?_)
  · refine lv_iconst (v := nI 1) hx hb dX7_as_54 (by decide) ?_
    refine lv_goto (tgt := 59) hx hb dX7_as_55 (by decide) ?_
    refine lv_istore (lv' := [(4, .int (nI 1)), (3, .int (nI (q.2.2.2.1 i 0))), (0, .ref h), (1, .int (nI i)), (2, .int (nI w))]) hx hb dX7_as_59 hl (by decide) rfl (fun ls hl => ?_)
    refine lv_iload hx hb dX7_as_61 (lv_at hl 0 rfl) ?_
    refine j_if_eq (tgt := 70) hx hb dX7_as_63 (by decide) (nI_toInt (by decide)) (fun c_4 => absurd c_4 (by omega)) (fun c_4 => ?_)
    refine lv_iload_n hx hb dX7_as_66 rfl (lv_at hl 3 rfl) ?_
    refine lv_goto (tgt := 71) hx hb dX7_as_67 (by decide) ?_
    exact ro_iret hx hb hr hlocks (by rw [if_pos (by omega)]) dX7_as_71
  · refine lv_iload_n hx hb dX7_as_39 rfl (lv_at hl 3 rfl) ?_
    refine lv_iload_n hx hb dX7_as_40 rfl (lv_at hl 0 rfl) ?_
    refine j_icmp_eq (tgt := 54) hx hb dX7_as_41 (by decide) (nI_toInt (by omega)) (nI_toInt (by omega)) (fun c_5 => ?_) (fun c_5 => ?_)
    · refine lv_iconst (v := nI 1) hx hb dX7_as_54 (by decide) ?_
      refine lv_goto (tgt := 59) hx hb dX7_as_55 (by decide) ?_
      refine lv_istore (lv' := [(4, .int (nI 1)), (3, .int (nI (q.2.2.2.1 i 0))), (0, .ref h), (1, .int (nI i)), (2, .int (nI w))]) hx hb dX7_as_59 hl (by decide) rfl (fun ls hl => ?_)
      refine lv_iload hx hb dX7_as_61 (lv_at hl 0 rfl) ?_
      refine j_if_eq (tgt := 70) hx hb dX7_as_63 (by decide) (nI_toInt (by decide)) (fun c_6 => absurd c_6 (by omega)) (fun c_6 => ?_)
      refine lv_iload_n hx hb dX7_as_66 rfl (lv_at hl 3 rfl) ?_
      refine lv_goto (tgt := 71) hx hb dX7_as_67 (by decide) ?_
      exact ro_iret hx hb hr hlocks (by rw [if_pos (by omega)]) dX7_as_71
    · refine lv_iload_n hx hb dX7_as_44 rfl (lv_at hl 3 rfl) ?_
      refine lv_iconst (v := nI 1) hx hb dX7_as_45 (by decide) ?_
      refine j_icmp_ne (tgt := 58) hx hb dX7_as_46 (by decide) (nI_toInt (by omega)) (nI_toInt (by decide)) (fun c_7 => ?_) (fun c_7 => ?_)
      · refine lv_iconst (v := nI 0) hx hb dX7_as_58 (by decide) ?_
        refine lv_istore (lv' := [(4, .int (nI 0)), (3, .int (nI (q.2.2.2.1 i 0))), (0, .ref h), (1, .int (nI i)), (2, .int (nI w))]) hx hb dX7_as_59 hl (by decide) rfl (fun ls hl => ?_)
        refine lv_iload hx hb dX7_as_61 (lv_at hl 0 rfl) ?_
        refine j_if_eq (tgt := 70) hx hb dX7_as_63 (by decide) (nI_toInt (by decide)) (fun c_8 => ?_) (fun c_8 => absurd c_8 (by omega))
        refine lv_iconst (v := (-1)) hx hb dX7_as_70 (by decide) ?_
        exact ro_iret hx hb hr hlocks (by rw [if_neg (by omega)]) dX7_as_71
      · refine lv_iload_n hx hb dX7_as_49 rfl (lv_at hl 0 rfl) ?_
        refine lv_iconst (v := nI 4) hx hb dX7_as_50 (by decide) ?_
        refine j_icmp_ne (tgt := 58) hx hb dX7_as_51 (by decide) (nI_toInt (by omega)) (nI_toInt (by decide)) (fun c_9 => ?_) (fun c_9 => ?_)
        · refine lv_iconst (v := nI 0) hx hb dX7_as_58 (by decide) ?_
          refine lv_istore (lv' := [(4, .int (nI 0)), (3, .int (nI (q.2.2.2.1 i 0))), (0, .ref h), (1, .int (nI i)), (2, .int (nI w))]) hx hb dX7_as_59 hl (by decide) rfl (fun ls hl => ?_)
          refine lv_iload hx hb dX7_as_61 (lv_at hl 0 rfl) ?_
          refine j_if_eq (tgt := 70) hx hb dX7_as_63 (by decide) (nI_toInt (by decide)) (fun c_10 => ?_) (fun c_10 => absurd c_10 (by omega))
          refine lv_iconst (v := (-1)) hx hb dX7_as_70 (by decide) ?_
          exact ro_iret hx hb hr hlocks (by rw [if_neg (by omega)]) dX7_as_71
        · refine lv_iconst (v := nI 1) hx hb dX7_as_54 (by decide) ?_
          refine lv_goto (tgt := 59) hx hb dX7_as_55 (by decide) ?_
          refine lv_istore (lv' := [(4, .int (nI 1)), (3, .int (nI (q.2.2.2.1 i 0))), (0, .ref h), (1, .int (nI i)), (2, .int (nI w))]) hx hb dX7_as_59 hl (by decide) rfl (fun ls hl => ?_)
          refine lv_iload hx hb dX7_as_61 (lv_at hl 0 rfl) ?_
          refine j_if_eq (tgt := 70) hx hb dX7_as_63 (by decide) (nI_toInt (by decide)) (fun c_11 => absurd c_11 (by omega)) (fun c_11 => ?_)
          refine lv_iload_n hx hb dX7_as_66 rfl (lv_at hl 3 rfl) ?_
          refine lv_goto (tgt := 71) hx hb dX7_as_67 (by decide) ?_
          exact ro_iret hx hb hr hlocks (by rw [if_pos (by omega)]) dX7_as_71

theorem c_X7_as (l : Launch) (D : va_G) (h : Nat) (g : Nat → Nat) (cI : ClassId) (J : Nat → Int32) (hz : Int64) (G : Nat → Nat → Int32) (b : Nat → Nat → Nat) (q : RS) (hM : MR b q J G) (hokz : ¬ q.1 = 0 → hok b) (hT : Tok q) (x w : Int32) : ROi l yX7_as (wA yX7_as cX7_as 5 (some .int)) ({ frames := 2, cells := 0, slots := 0, locals := 46 }) D (iTys cI) (mW h g cI J hz G) [.ref h, .int x, .int w] (sp_as q x w) := by
  unfold sp_as
  have h5 := hT.1
  by_cases hx : inr x 0 q.1
  · obtain ⟨i, hi, rfl⟩ := inr_nat hx (by omega)
    rw [if_pos hx, ti_nI (by omega)]
    by_cases hw : inr w 0 5
    · obtain ⟨j, hj, rfl⟩ := inr_nat (n := 5) hw (by decide)
      rw [if_pos hw, ti_nI (by omega)]
      exact c_X7_asI l D h g cI J hz G b q hM hokz hT i hi j hj
    · rw [if_neg hw]
      exact c_X7_asO l D h g cI J hz G b q hM hokz hT i hi w hw
  · rw [if_neg hx]
    exact c_X7_asX l D h g cI J hz G b q hM hokz hT x w hx

set_option maxHeartbeats 4000000 in
set_option maxRecDepth 100000 in
theorem c_X7_dripX (l : Launch) (D : va_G) (h : Nat) (g : Nat → Nat) (cI : ClassId) (J : Nat → Int32) (hz : Int64) (G : Nat → Nat → Int32) (b : Nat → Nat → Nat) (q : RS) (hM : MR b q J G) (hokz : ¬ q.1 = 0 → hok b) (hT : Tok q) (x w : Int32) (ox : ¬ inr x 0 q.1) : ROi l yX7_drip (wA yX7_drip cX7_drip 3 (some .int)) ({ frames := 3, cells := 0, slots := 0, locals := 73 }) D (iTys cI) (mW h g cI J hz G) [.ref h, .int x, .int w] (-101) := by
  refine go_start (by decide) (Nat.le_of_ble_eq_true rfl) ?_
  intro p e s m args below meth c ls F _ hB hl
  obtain ⟨hx, hb, hr, hlocks, hml, hown, hts⟩ := F
  obtain ⟨hP, hK⟩ := hB
  have hown : s.vm.findClass RX7 = some m.cls := hown
  have hl : lv_has ls 3 [(0, .ref h), (1, .int x), (2, .int w)] := hl
  have ht5 := hT.1
  have ht8 := hT.2.1
  refine lv_aload_n hx hb dX7_drip_0 rfl (lv_at hl 0 rfl) ?_
  refine lv_iload_n hx hb dX7_drip_1 rfl (lv_at hl 1 rfl) ?_
  refine ro_iV (n := 1) (As := [.int x]) ⟨hx, hb, hml, hown, hts⟩ (c_X7_isTapF l D h g cI J hz G b q hM hT x ox) (cwV 1 hts (gV mg_596 mg_598 mg_1022 mg_8 mg_599) rfl rfl rfl vd_X7_isTap ⟨Nat.le_of_ble_eq_true rfl, Nat.le_of_ble_eq_true rfl⟩) (va_recv hK hP (ci := 7) (q0 := 0) rfl rfl) hK hP rfl hl.1 rfl (Nat.le_of_ble_eq_true rfl) dX7_drip_2 ⟨Nat.zero_le _, Nat.zero_le _⟩ ?_
  refine j_if_ne (tgt := 11) hx hb dX7_drip_5 (by decide) (nI_toInt (by decide)) (fun c_1 => absurd c_1 (by omega)) (fun c_1 => ?_)
  refine lv_bipush (v := (-101)) hx hb dX7_drip_8 (by decide) ?_
  exact ro_iret hx hb hr hlocks (rfl) dX7_drip_10

set_option maxHeartbeats 4000000 in
set_option maxRecDepth 100000 in
theorem c_X7_dripO (l : Launch) (D : va_G) (h : Nat) (g : Nat → Nat) (cI : ClassId) (J : Nat → Int32) (hz : Int64) (G : Nat → Nat → Int32) (b : Nat → Nat → Nat) (q : RS) (hM : MR b q J G) (hokz : ¬ q.1 = 0 → hok b) (hT : Tok q) (i : Nat) (hi : i < q.1) (w : Int32) (ow : ¬ inr w 0 100) : ROi l yX7_drip (wA yX7_drip cX7_drip 3 (some .int)) ({ frames := 3, cells := 0, slots := 0, locals := 73 }) D (iTys cI) (mW h g cI J hz G) [.ref h, .int (nI i), .int w] (-102) := by
  refine go_start (by decide) (Nat.le_of_ble_eq_true rfl) ?_
  intro p e s m args below meth c ls F _ hB hl
  obtain ⟨hx, hb, hr, hlocks, hml, hown, hts⟩ := F
  obtain ⟨hP, hK⟩ := hB
  have hown : s.vm.findClass RX7 = some m.cls := hown
  have hl : lv_has ls 3 [(0, .ref h), (1, .int (nI i)), (2, .int w)] := hl
  have ht5 := hT.1
  have ht8 := hT.2.1
  have ow7 := inr_out ow
  have hok9 := hokz (by omega)
  refine lv_aload_n hx hb dX7_drip_0 rfl (lv_at hl 0 rfl) ?_
  refine lv_iload_n hx hb dX7_drip_1 rfl (lv_at hl 1 rfl) ?_
  refine ro_iV (n := 1) (As := [.int (nI i)]) ⟨hx, hb, hml, hown, hts⟩ (c_X7_isTapT l D h g cI J hz G b q hM hT i (by omega)) (cwV 1 hts (gV mg_596 mg_598 mg_1022 mg_8 mg_599) rfl rfl rfl vd_X7_isTap ⟨Nat.le_of_ble_eq_true rfl, Nat.le_of_ble_eq_true rfl⟩) (va_recv hK hP (ci := 7) (q0 := 0) rfl rfl) hK hP rfl hl.1 rfl (Nat.le_of_ble_eq_true rfl) dX7_drip_2 ⟨Nat.zero_le _, Nat.zero_le _⟩ ?_
  refine j_if_ne (tgt := 11) hx hb dX7_drip_5 (by decide) (nI_toInt (by decide)) (fun c_1 => ?_) (fun c_1 => absurd c_1 (by omega))
  refine lv_iload_n hx hb dX7_drip_11 rfl (lv_at hl 2 rfl) ?_
  refine lv_i2l (v := w.toInt64) hx hb dX7_drip_12 rfl ?_
  refine lv_lconst (v := (0 : Int64)) hx hb dX7_drip_13 (by decide) ?_
  refine lv_ldc2 (v := (99 : Int64)) hx hb hown (hts _ mg_644) dX7_drip_14 ?_
  have e1 : (w.toInt64 : Int64).toInt = w.toInt := (Int32.toInt_toInt64 _).trans rfl
  have e2 : ((0) : Int64).toInt = 0 := (by decide)
  have e3 : ((99 : Int64) : Int64).toInt = 99 := (by decide)
  refine ro_iS (n := 3) (As := [.long w.toInt64, .long (0), .long (99 : Int64)]) ⟨hx, hb, hml, hown, hts⟩ (c_X7_inF l D (w.toInt64) ((0)) ((99 : Int64)) (fun z => by omega)) (cwS 3 hts (gS mg_534 mg_535 mg_8 mg_536) rfl rfl rfl vd_X7_in ⟨Nat.le_of_ble_eq_true rfl, Nat.le_of_ble_eq_true rfl⟩)  (hK.sub [] rfl) (fun k q h => by simp at h) rfl hl.1 rfl (Nat.le_of_ble_eq_true rfl) dX7_drip_17 ⟨Nat.zero_le _, Nat.zero_le _⟩ ?_
  refine j_if_eq (tgt := 32) hx hb dX7_drip_20 (by decide) (nI_toInt (by decide)) (fun c_2 => ?_) (fun c_2 => absurd c_2 (by omega))
  refine lv_bipush (v := (-102)) hx hb dX7_drip_32 (by decide) ?_
  exact ro_iret hx hb hr hlocks (rfl) dX7_drip_34

set_option maxHeartbeats 4000000 in
set_option maxRecDepth 100000 in
theorem c_X7_dripI (l : Launch) (D : va_G) (h : Nat) (g : Nat → Nat) (cI : ClassId) (J : Nat → Int32) (hz : Int64) (G : Nat → Nat → Int32) (b : Nat → Nat → Nat) (q : RS) (hM : MR b q J G) (hokz : ¬ q.1 = 0 → hok b) (hT : Tok q) (i : Nat) (hi : i < q.1) (w : Nat) (hw : w < 100) : ROi l yX7_drip (wA yX7_drip cX7_drip 3 (some .int)) ({ frames := 3, cells := 0, slots := 0, locals := 73 }) D (iTys cI) (mW h g cI J hz G) [.ref h, .int (nI i), .int (nI w)] (nI (sd b (q.2.2.2.1 i 0) (q.2.2.2.1 i 2) (q.2.2.2.1 i 1) w)) := by
  refine go_start (by decide) (Nat.le_of_ble_eq_true rfl) ?_
  intro p e s m args below meth c ls F _ hB hl
  obtain ⟨hx, hb, hr, hlocks, hml, hown, hts⟩ := F
  obtain ⟨hP, hK⟩ := hB
  have hown : s.vm.findClass RX7 = some m.cls := hown
  have hl : lv_has ls 3 [(0, .ref h), (1, .int (nI i)), (2, .int (nI w))] := hl
  have ht5 := hT.1
  have ht8 := hT.2.1
  obtain ⟨hk0, hv0, hw0, hp0⟩ := hT.2.2.1 i hi
  have hok9 := hokz (by omega)
  refine lv_aload_n hx hb dX7_drip_0 rfl (lv_at hl 0 rfl) ?_
  refine lv_iload_n hx hb dX7_drip_1 rfl (lv_at hl 1 rfl) ?_
  refine ro_iV (n := 1) (As := [.int (nI i)]) ⟨hx, hb, hml, hown, hts⟩ (c_X7_isTapT l D h g cI J hz G b q hM hT i (by omega)) (cwV 1 hts (gV mg_596 mg_598 mg_1022 mg_8 mg_599) rfl rfl rfl vd_X7_isTap ⟨Nat.le_of_ble_eq_true rfl, Nat.le_of_ble_eq_true rfl⟩) (va_recv hK hP (ci := 7) (q0 := 0) rfl rfl) hK hP rfl hl.1 rfl (Nat.le_of_ble_eq_true rfl) dX7_drip_2 ⟨Nat.zero_le _, Nat.zero_le _⟩ ?_
  refine j_if_ne (tgt := 11) hx hb dX7_drip_5 (by decide) (nI_toInt (by decide)) (fun c_1 => ?_) (fun c_1 => absurd c_1 (by omega))
  refine lv_iload_n hx hb dX7_drip_11 rfl (lv_at hl 2 rfl) ?_
  refine lv_i2l (v := lN w) hx hb dX7_drip_12 (nI_l (by omega)) ?_
  refine lv_lconst (v := (0 : Int64)) hx hb dX7_drip_13 (by decide) ?_
  refine lv_ldc2 (v := (99 : Int64)) hx hb hown (hts _ mg_644) dX7_drip_14 ?_
  have e1 : (lN w : Int64).toInt = ((w : Nat) : Int) := lN_toInt (by omega)
  have e2 : ((0) : Int64).toInt = 0 := (by decide)
  have e3 : ((99 : Int64) : Int64).toInt = 99 := (by decide)
  refine ro_iS (n := 3) (As := [.long (lN w), .long (0), .long (99 : Int64)]) ⟨hx, hb, hml, hown, hts⟩ (c_X7_inT l D (lN w) ((0)) ((99 : Int64)) (by constructor <;> omega)) (cwS 3 hts (gS mg_534 mg_535 mg_8 mg_536) rfl rfl rfl vd_X7_in ⟨Nat.le_of_ble_eq_true rfl, Nat.le_of_ble_eq_true rfl⟩)  (hK.sub [] rfl) (fun k q h => by simp at h) rfl hl.1 rfl (Nat.le_of_ble_eq_true rfl) dX7_drip_17 ⟨Nat.zero_le _, Nat.zero_le _⟩ ?_
  refine j_if_eq (tgt := 32) hx hb dX7_drip_20 (by decide) (nI_toInt (by decide)) (fun c_2 => absurd c_2 (by omega)) (fun c_2 => ?_)
  refine lv_aload_n hx hb dX7_drip_23 rfl (lv_at hl 0 rfl) ?_
  refine lv_iload_n hx hb dX7_drip_24 rfl (lv_at hl 1 rfl) ?_
  refine lv_iload_n hx hb dX7_drip_25 rfl (lv_at hl 2 rfl) ?_
  refine ro_iV (n := 2) (As := [.int (nI i), .int (nI w)]) ⟨hx, hb, hml, hown, hts⟩ (c_X7_dripOf l D h g cI J hz G b q hM hok9 hT i (by omega) w (by omega)) (cwV 2 hts (gV mg_645 mg_647 mg_1032 mg_8 mg_648) rfl rfl rfl vd_X7_dripOf ⟨Nat.le_of_ble_eq_true rfl, Nat.le_of_ble_eq_true rfl⟩) (va_recv hK hP (ci := 7) (q0 := 0) rfl rfl) hK hP rfl hl.1 rfl (Nat.le_of_ble_eq_true rfl) dX7_drip_26 ⟨Nat.zero_le _, Nat.zero_le _⟩ ?_
  refine lv_goto (tgt := 34) hx hb dX7_drip_29 (by decide) ?_
  exact ro_iret hx hb hr hlocks (rfl) dX7_drip_34

theorem c_X7_drip (l : Launch) (D : va_G) (h : Nat) (g : Nat → Nat) (cI : ClassId) (J : Nat → Int32) (hz : Int64) (G : Nat → Nat → Int32) (b : Nat → Nat → Nat) (q : RS) (hM : MR b q J G) (hokz : ¬ q.1 = 0 → hok b) (hT : Tok q) (x w : Int32) : ROi l yX7_drip (wA yX7_drip cX7_drip 3 (some .int)) ({ frames := 3, cells := 0, slots := 0, locals := 73 }) D (iTys cI) (mW h g cI J hz G) [.ref h, .int x, .int w] (sp_drip b q x w) := by
  unfold sp_drip
  have h5 := hT.1
  by_cases hx : inr x 0 q.1
  · obtain ⟨i, hi, rfl⟩ := inr_nat hx (by omega)
    rw [if_pos hx, ti_nI (by omega)]
    by_cases hw : inr w 0 100
    · obtain ⟨j, hj, rfl⟩ := inr_nat (n := 100) hw (by decide)
      rw [if_pos hw, ti_nI (by omega)]
      exact c_X7_dripI l D h g cI J hz G b q hM hokz hT i hi j hj
    · rw [if_neg hw]
      exact c_X7_dripO l D h g cI J hz G b q hM hokz hT i hi w hw
  · rw [if_neg hx]
    exact c_X7_dripX l D h g cI J hz G b q hM hokz hT x w hx

set_option maxHeartbeats 4000000 in
set_option maxRecDepth 100000 in
theorem c_X7_agree1 (l : Launch) (D : va_G) (h : Nat) (g : Nat → Nat) (cI : ClassId) (J : Nat → Int32) (hz : Int64) (G : Nat → Nat → Int32) (b : Nat → Nat → Nat) (q : RS) (hM : MR b q J G) (hokz : ¬ q.1 = 0 → hok b) (hT : Tok q) (x y : Int32) (ox : ¬ inr x 0 q.1) : ROi l yX7_agree (wA yX7_agree cX7_agree 3 (some .int)) ({ frames := 4, cells := 0, slots := 0, locals := 97 }) D (iTys cI) (mW h g cI J hz G) [.ref h, .int x, .int y] (-101) := by
  refine go_start (by decide) (Nat.le_of_ble_eq_true rfl) ?_
  intro p e s m args below meth c ls F _ hB hl
  obtain ⟨hx, hb, hr, hlocks, hml, hown, hts⟩ := F
  obtain ⟨hP, hK⟩ := hB
  have hown : s.vm.findClass RX7 = some m.cls := hown
  have hl : lv_has ls 3 [(0, .ref h), (1, .int x), (2, .int y)] := hl
  have ht5 := hT.1
  have ht8 := hT.2.1
  refine lv_aload_n hx hb dX7_agree_0 rfl (lv_at hl 0 rfl) ?_
  refine lv_iload_n hx hb dX7_agree_1 rfl (lv_at hl 1 rfl) ?_
  refine ro_iV (n := 1) (As := [.int x]) ⟨hx, hb, hml, hown, hts⟩ (c_X7_isTapF l D h g cI J hz G b q hM hT x ox) (cwV 1 hts (gV mg_596 mg_598 mg_1022 mg_8 mg_599) rfl rfl rfl vd_X7_isTap ⟨Nat.le_of_ble_eq_true rfl, Nat.le_of_ble_eq_true rfl⟩) (va_recv hK hP (ci := 7) (q0 := 0) rfl rfl) hK hP rfl hl.1 rfl (Nat.le_of_ble_eq_true rfl) dX7_agree_2 ⟨Nat.zero_le _, Nat.zero_le _⟩ ?_
  refine j_if_eq (tgt := 30) hx hb dX7_agree_5 (by decide) (nI_toInt (by decide)) (fun c_1 => ?_) (fun c_1 => absurd c_1 (by omega))
  refine lv_bipush (v := (-101)) hx hb dX7_agree_30 (by decide) ?_
  exact ro_iret hx hb hr hlocks (rfl) dX7_agree_32

set_option maxHeartbeats 4000000 in
set_option maxRecDepth 100000 in
theorem c_X7_agree3 (l : Launch) (D : va_G) (h : Nat) (g : Nat → Nat) (cI : ClassId) (J : Nat → Int32) (hz : Int64) (G : Nat → Nat → Int32) (b : Nat → Nat → Nat) (q : RS) (hM : MR b q J G) (hokz : ¬ q.1 = 0 → hok b) (hT : Tok q) (i : Nat) (hi : i < q.1) (y : Int32) (oy : ¬ inr y 0 q.1) : ROi l yX7_agree (wA yX7_agree cX7_agree 3 (some .int)) ({ frames := 4, cells := 0, slots := 0, locals := 97 }) D (iTys cI) (mW h g cI J hz G) [.ref h, .int (nI i), .int y] (-101) := by
  refine go_start (by decide) (Nat.le_of_ble_eq_true rfl) ?_
  intro p e s m args below meth c ls F _ hB hl
  obtain ⟨hx, hb, hr, hlocks, hml, hown, hts⟩ := F
  obtain ⟨hP, hK⟩ := hB
  have hown : s.vm.findClass RX7 = some m.cls := hown
  have hl : lv_has ls 3 [(0, .ref h), (1, .int (nI i)), (2, .int y)] := hl
  have ht5 := hT.1
  have ht8 := hT.2.1
  have hok9 := hokz (by omega)
  refine lv_aload_n hx hb dX7_agree_0 rfl (lv_at hl 0 rfl) ?_
  refine lv_iload_n hx hb dX7_agree_1 rfl (lv_at hl 1 rfl) ?_
  refine ro_iV (n := 1) (As := [.int (nI i)]) ⟨hx, hb, hml, hown, hts⟩ (c_X7_isTapT l D h g cI J hz G b q hM hT i (by omega)) (cwV 1 hts (gV mg_596 mg_598 mg_1022 mg_8 mg_599) rfl rfl rfl vd_X7_isTap ⟨Nat.le_of_ble_eq_true rfl, Nat.le_of_ble_eq_true rfl⟩) (va_recv hK hP (ci := 7) (q0 := 0) rfl rfl) hK hP rfl hl.1 rfl (Nat.le_of_ble_eq_true rfl) dX7_agree_2 ⟨Nat.zero_le _, Nat.zero_le _⟩ ?_
  refine j_if_eq (tgt := 30) hx hb dX7_agree_5 (by decide) (nI_toInt (by decide)) (fun c_1 => absurd c_1 (by omega)) (fun c_1 => ?_)
  refine lv_aload_n hx hb dX7_agree_8 rfl (lv_at hl 0 rfl) ?_
  refine lv_iload_n hx hb dX7_agree_9 rfl (lv_at hl 2 rfl) ?_
  refine ro_iV (n := 1) (As := [.int y]) ⟨hx, hb, hml, hown, hts⟩ (c_X7_isTapF l D h g cI J hz G b q hM hT y oy) (cwV 1 hts (gV mg_596 mg_598 mg_1022 mg_8 mg_599) rfl rfl rfl vd_X7_isTap ⟨Nat.le_of_ble_eq_true rfl, Nat.le_of_ble_eq_true rfl⟩) (va_recv hK hP (ci := 7) (q0 := 0) rfl rfl) hK hP rfl hl.1 rfl (Nat.le_of_ble_eq_true rfl) dX7_agree_10 ⟨Nat.zero_le _, Nat.zero_le _⟩ ?_
  refine j_if_eq (tgt := 30) hx hb dX7_agree_13 (by decide) (nI_toInt (by decide)) (fun c_2 => ?_) (fun c_2 => absurd c_2 (by omega))
  refine lv_bipush (v := (-101)) hx hb dX7_agree_30 (by decide) ?_
  exact ro_iret hx hb hr hlocks (rfl) dX7_agree_32

set_option maxHeartbeats 4000000 in
set_option maxRecDepth 100000 in
theorem c_X7_agree4 (l : Launch) (D : va_G) (h : Nat) (g : Nat → Nat) (cI : ClassId) (J : Nat → Int32) (hz : Int64) (G : Nat → Nat → Int32) (b : Nat → Nat → Nat) (q : RS) (hM : MR b q J G) (hokz : ¬ q.1 = 0 → hok b) (hT : Tok q) (i : Nat) (hi : i < q.1) (j : Nat) (hj : j < q.1) (hij : i = j) : ROi l yX7_agree (wA yX7_agree cX7_agree 3 (some .int)) ({ frames := 4, cells := 0, slots := 0, locals := 97 }) D (iTys cI) (mW h g cI J hz G) [.ref h, .int (nI i), .int (nI j)] (-101) := by
  refine go_start (by decide) (Nat.le_of_ble_eq_true rfl) ?_
  intro p e s m args below meth c ls F _ hB hl
  obtain ⟨hx, hb, hr, hlocks, hml, hown, hts⟩ := F
  obtain ⟨hP, hK⟩ := hB
  have hown : s.vm.findClass RX7 = some m.cls := hown
  have hl : lv_has ls 3 [(0, .ref h), (1, .int (nI i)), (2, .int (nI j))] := hl
  have ht5 := hT.1
  have ht8 := hT.2.1
  have hok9 := hokz (by omega)
  refine lv_aload_n hx hb dX7_agree_0 rfl (lv_at hl 0 rfl) ?_
  refine lv_iload_n hx hb dX7_agree_1 rfl (lv_at hl 1 rfl) ?_
  refine ro_iV (n := 1) (As := [.int (nI i)]) ⟨hx, hb, hml, hown, hts⟩ (c_X7_isTapT l D h g cI J hz G b q hM hT i (by omega)) (cwV 1 hts (gV mg_596 mg_598 mg_1022 mg_8 mg_599) rfl rfl rfl vd_X7_isTap ⟨Nat.le_of_ble_eq_true rfl, Nat.le_of_ble_eq_true rfl⟩) (va_recv hK hP (ci := 7) (q0 := 0) rfl rfl) hK hP rfl hl.1 rfl (Nat.le_of_ble_eq_true rfl) dX7_agree_2 ⟨Nat.zero_le _, Nat.zero_le _⟩ ?_
  refine j_if_eq (tgt := 30) hx hb dX7_agree_5 (by decide) (nI_toInt (by decide)) (fun c_1 => absurd c_1 (by omega)) (fun c_1 => ?_)
  refine lv_aload_n hx hb dX7_agree_8 rfl (lv_at hl 0 rfl) ?_
  refine lv_iload_n hx hb dX7_agree_9 rfl (lv_at hl 2 rfl) ?_
  refine ro_iV (n := 1) (As := [.int (nI j)]) ⟨hx, hb, hml, hown, hts⟩ (c_X7_isTapT l D h g cI J hz G b q hM hT j (by omega)) (cwV 1 hts (gV mg_596 mg_598 mg_1022 mg_8 mg_599) rfl rfl rfl vd_X7_isTap ⟨Nat.le_of_ble_eq_true rfl, Nat.le_of_ble_eq_true rfl⟩) (va_recv hK hP (ci := 7) (q0 := 0) rfl rfl) hK hP rfl hl.1 rfl (Nat.le_of_ble_eq_true rfl) dX7_agree_10 ⟨Nat.zero_le _, Nat.zero_le _⟩ ?_
  refine j_if_eq (tgt := 30) hx hb dX7_agree_13 (by decide) (nI_toInt (by decide)) (fun c_2 => absurd c_2 (by omega)) (fun c_2 => ?_)
  refine lv_iload_n hx hb dX7_agree_16 rfl (lv_at hl 1 rfl) ?_
  refine lv_iload_n hx hb dX7_agree_17 rfl (lv_at hl 2 rfl) ?_
  refine j_icmp_eq (tgt := 30) hx hb dX7_agree_18 (by decide) (nI_toInt (by omega)) (nI_toInt (by omega)) (fun c_3 => ?_) (fun c_3 => absurd c_3 (by omega))
  refine lv_bipush (v := (-101)) hx hb dX7_agree_30 (by decide) ?_
  exact ro_iret hx hb hr hlocks (rfl) dX7_agree_32

set_option maxHeartbeats 4000000 in
set_option maxRecDepth 100000 in
theorem c_X7_agree5 (l : Launch) (D : va_G) (h : Nat) (g : Nat → Nat) (cI : ClassId) (J : Nat → Int32) (hz : Int64) (G : Nat → Nat → Int32) (b : Nat → Nat → Nat) (q : RS) (hM : MR b q J G) (hokz : ¬ q.1 = 0 → hok b) (hT : Tok q) (i : Nat) (hi : i < q.1) (j : Nat) (hj : j < q.1) (hij : ¬ i = j) : ROi l yX7_agree (wA yX7_agree cX7_agree 3 (some .int)) ({ frames := 4, cells := 0, slots := 0, locals := 97 }) D (iTys cI) (mW h g cI J hz G) [.ref h, .int (nI i), .int (nI j)] (nI (cnt (agf b q.2.2.2.1 i j) 16)) := by
  refine go_start (by decide) (Nat.le_of_ble_eq_true rfl) ?_
  intro p e s m args below meth c ls F _ hB hl
  obtain ⟨hx, hb, hr, hlocks, hml, hown, hts⟩ := F
  obtain ⟨hP, hK⟩ := hB
  have hown : s.vm.findClass RX7 = some m.cls := hown
  have hl : lv_has ls 3 [(0, .ref h), (1, .int (nI i)), (2, .int (nI j))] := hl
  have ht5 := hT.1
  have ht8 := hT.2.1
  have hok9 := hokz (by omega)
  refine lv_aload_n hx hb dX7_agree_0 rfl (lv_at hl 0 rfl) ?_
  refine lv_iload_n hx hb dX7_agree_1 rfl (lv_at hl 1 rfl) ?_
  refine ro_iV (n := 1) (As := [.int (nI i)]) ⟨hx, hb, hml, hown, hts⟩ (c_X7_isTapT l D h g cI J hz G b q hM hT i (by omega)) (cwV 1 hts (gV mg_596 mg_598 mg_1022 mg_8 mg_599) rfl rfl rfl vd_X7_isTap ⟨Nat.le_of_ble_eq_true rfl, Nat.le_of_ble_eq_true rfl⟩) (va_recv hK hP (ci := 7) (q0 := 0) rfl rfl) hK hP rfl hl.1 rfl (Nat.le_of_ble_eq_true rfl) dX7_agree_2 ⟨Nat.zero_le _, Nat.zero_le _⟩ ?_
  refine j_if_eq (tgt := 30) hx hb dX7_agree_5 (by decide) (nI_toInt (by decide)) (fun c_1 => absurd c_1 (by omega)) (fun c_1 => ?_)
  refine lv_aload_n hx hb dX7_agree_8 rfl (lv_at hl 0 rfl) ?_
  refine lv_iload_n hx hb dX7_agree_9 rfl (lv_at hl 2 rfl) ?_
  refine ro_iV (n := 1) (As := [.int (nI j)]) ⟨hx, hb, hml, hown, hts⟩ (c_X7_isTapT l D h g cI J hz G b q hM hT j (by omega)) (cwV 1 hts (gV mg_596 mg_598 mg_1022 mg_8 mg_599) rfl rfl rfl vd_X7_isTap ⟨Nat.le_of_ble_eq_true rfl, Nat.le_of_ble_eq_true rfl⟩) (va_recv hK hP (ci := 7) (q0 := 0) rfl rfl) hK hP rfl hl.1 rfl (Nat.le_of_ble_eq_true rfl) dX7_agree_10 ⟨Nat.zero_le _, Nat.zero_le _⟩ ?_
  refine j_if_eq (tgt := 30) hx hb dX7_agree_13 (by decide) (nI_toInt (by decide)) (fun c_2 => absurd c_2 (by omega)) (fun c_2 => ?_)
  refine lv_iload_n hx hb dX7_agree_16 rfl (lv_at hl 1 rfl) ?_
  refine lv_iload_n hx hb dX7_agree_17 rfl (lv_at hl 2 rfl) ?_
  refine j_icmp_eq (tgt := 30) hx hb dX7_agree_18 (by decide) (nI_toInt (by omega)) (nI_toInt (by omega)) (fun c_3 => absurd c_3 (by omega)) (fun c_3 => ?_)
  refine lv_aload_n hx hb dX7_agree_21 rfl (lv_at hl 0 rfl) ?_
  refine lv_iload_n hx hb dX7_agree_22 rfl (lv_at hl 1 rfl) ?_
  refine lv_iload_n hx hb dX7_agree_23 rfl (lv_at hl 2 rfl) ?_
  refine ro_iV (n := 2) (As := [.int (nI i), .int (nI j)]) ⟨hx, hb, hml, hown, hts⟩ (c_X7_agreeOf l D h g cI J hz G b q hM hok9 hT i hi j hj) (cwV 2 hts (gV mg_665 mg_667 mg_1033 mg_8 mg_668) rfl rfl rfl vd_X7_agreeOf ⟨Nat.le_of_ble_eq_true rfl, Nat.le_of_ble_eq_true rfl⟩) (va_recv hK hP (ci := 7) (q0 := 0) rfl rfl) hK hP rfl hl.1 rfl (Nat.le_of_ble_eq_true rfl) dX7_agree_24 ⟨Nat.zero_le _, Nat.zero_le _⟩ ?_
  refine lv_goto (tgt := 32) hx hb dX7_agree_27 (by decide) ?_
  exact ro_iret hx hb hr hlocks (rfl) dX7_agree_32

theorem c_X7_agree (l : Launch) (D : va_G) (h : Nat) (g : Nat → Nat) (cI : ClassId) (J : Nat → Int32) (hz : Int64) (G : Nat → Nat → Int32) (b : Nat → Nat → Nat) (q : RS) (hM : MR b q J G) (hokz : ¬ q.1 = 0 → hok b) (hT : Tok q) (x y : Int32) : ROi l yX7_agree (wA yX7_agree cX7_agree 3 (some .int)) ({ frames := 4, cells := 0, slots := 0, locals := 97 }) D (iTys cI) (mW h g cI J hz G) [.ref h, .int x, .int y] (sp_agree b q x y) := by
  unfold sp_agree
  have h5 := hT.1
  by_cases hx : inr x 0 q.1
  · obtain ⟨i, hi, rfl⟩ := inr_nat hx (by omega)
    by_cases hy : inr y 0 q.1
    · obtain ⟨j, hj, rfl⟩ := inr_nat hy (by omega)
      rw [ti_nI (by omega), ti_nI (by omega)]
      by_cases hij : i = j
      · rw [if_neg (fun z => z.2.2 hij)]
        exact c_X7_agree4 l D h g cI J hz G b q hM hokz hT i hi j hj hij
      · rw [if_pos ⟨hx, hy, hij⟩]
        exact c_X7_agree5 l D h g cI J hz G b q hM hokz hT i hi j hj hij
    · rw [if_neg (fun z => hy z.2.1)]
      exact c_X7_agree3 l D h g cI J hz G b q hM hokz hT i hi y hy
  · rw [if_neg (fun z => hx z.1)]
    exact c_X7_agree1 l D h g cI J hz G b q hM hokz hT x y hx

set_option maxHeartbeats 4000000 in
set_option maxRecDepth 100000 in
theorem c_X7_nearX (l : Launch) (D : va_G) (h : Nat) (g : Nat → Nat) (cI : ClassId) (J : Nat → Int32) (hz : Int64) (G : Nat → Nat → Int32) (b : Nat → Nat → Nat) (q : RS) (hM : MR b q J G) (hokz : ¬ q.1 = 0 → hok b) (hT : Tok q) (x y w : Int32) (ox : ¬ inr x 0 q.1) : ROi l yX7_near (wA yX7_near cX7_near 4 (some .int)) ({ frames := 3, cells := 0, slots := 0, locals := 80 }) D (iTys cI) (mW h g cI J hz G) [.ref h, .int x, .int y, .int w] (-101) := by
  refine go_start (by decide) (Nat.le_of_ble_eq_true rfl) ?_
  intro p e s m args below meth c ls F _ hB hl
  obtain ⟨hx, hb, hr, hlocks, hml, hown, hts⟩ := F
  obtain ⟨hP, hK⟩ := hB
  have hown : s.vm.findClass RX7 = some m.cls := hown
  have hl : lv_has ls 4 [(0, .ref h), (1, .int x), (2, .int y), (3, .int w)] := hl
  have ht5 := hT.1
  have ht8 := hT.2.1
  refine lv_aload_n hx hb dX7_near_0 rfl (lv_at hl 0 rfl) ?_
  refine lv_iload_n hx hb dX7_near_1 rfl (lv_at hl 1 rfl) ?_
  refine ro_iV (n := 1) (As := [.int x]) ⟨hx, hb, hml, hown, hts⟩ (c_X7_isTapF l D h g cI J hz G b q hM hT x ox) (cwV 1 hts (gV mg_596 mg_598 mg_1022 mg_8 mg_599) rfl rfl rfl vd_X7_isTap ⟨Nat.le_of_ble_eq_true rfl, Nat.le_of_ble_eq_true rfl⟩) (va_recv hK hP (ci := 7) (q0 := 0) rfl rfl) hK hP rfl hl.1 rfl (Nat.le_of_ble_eq_true rfl) dX7_near_2 ⟨Nat.zero_le _, Nat.zero_le _⟩ ?_
  refine j_if_ne (tgt := 11) hx hb dX7_near_5 (by decide) (nI_toInt (by decide)) (fun c_1 => absurd c_1 (by omega)) (fun c_1 => ?_)
  refine lv_bipush (v := (-101)) hx hb dX7_near_8 (by decide) ?_
  exact ro_iret hx hb hr hlocks (rfl) dX7_near_10

set_option maxHeartbeats 4000000 in
set_option maxRecDepth 100000 in
theorem c_X7_nearY (l : Launch) (D : va_G) (h : Nat) (g : Nat → Nat) (cI : ClassId) (J : Nat → Int32) (hz : Int64) (G : Nat → Nat → Int32) (b : Nat → Nat → Nat) (q : RS) (hM : MR b q J G) (hokz : ¬ q.1 = 0 → hok b) (hT : Tok q) (i : Nat) (hi : i < q.1) (y w : Int32) (oy : ¬ inr y 0 4) : ROi l yX7_near (wA yX7_near cX7_near 4 (some .int)) ({ frames := 3, cells := 0, slots := 0, locals := 80 }) D (iTys cI) (mW h g cI J hz G) [.ref h, .int (nI i), .int y, .int w] (-102) := by
  refine go_start (by decide) (Nat.le_of_ble_eq_true rfl) ?_
  intro p e s m args below meth c ls F _ hB hl
  obtain ⟨hx, hb, hr, hlocks, hml, hown, hts⟩ := F
  obtain ⟨hP, hK⟩ := hB
  have hown : s.vm.findClass RX7 = some m.cls := hown
  have hl : lv_has ls 4 [(0, .ref h), (1, .int (nI i)), (2, .int y), (3, .int w)] := hl
  have ht5 := hT.1
  have ht8 := hT.2.1
  have hok9 := hokz (by omega)
  refine lv_aload_n hx hb dX7_near_0 rfl (lv_at hl 0 rfl) ?_
  refine lv_iload_n hx hb dX7_near_1 rfl (lv_at hl 1 rfl) ?_
  refine ro_iV (n := 1) (As := [.int (nI i)]) ⟨hx, hb, hml, hown, hts⟩ (c_X7_isTapT l D h g cI J hz G b q hM hT i (by omega)) (cwV 1 hts (gV mg_596 mg_598 mg_1022 mg_8 mg_599) rfl rfl rfl vd_X7_isTap ⟨Nat.le_of_ble_eq_true rfl, Nat.le_of_ble_eq_true rfl⟩) (va_recv hK hP (ci := 7) (q0 := 0) rfl rfl) hK hP rfl hl.1 rfl (Nat.le_of_ble_eq_true rfl) dX7_near_2 ⟨Nat.zero_le _, Nat.zero_le _⟩ ?_
  refine j_if_ne (tgt := 11) hx hb dX7_near_5 (by decide) (nI_toInt (by decide)) (fun c_1 => ?_) (fun c_1 => absurd c_1 (by omega))
  refine lv_iload_n hx hb dX7_near_11 rfl (lv_at hl 2 rfl) ?_
  refine ro_iS (n := 1) (As := [.int y]) ⟨hx, hb, hml, hown, hts⟩ (c_X7_isSayingF l D y (inr_out oy)) (cwS 1 hts (gS mg_577 mg_578 mg_8 mg_579) rfl rfl rfl vd_X7_isSaying ⟨Nat.le_of_ble_eq_true rfl, Nat.le_of_ble_eq_true rfl⟩)  (hK.sub [] rfl) (fun k q h => by simp at h) rfl hl.1 rfl (Nat.le_of_ble_eq_true rfl) dX7_near_12 ⟨Nat.zero_le _, Nat.zero_le _⟩ ?_
  refine j_if_eq (tgt := 38) hx hb dX7_near_15 (by decide) (nI_toInt (by decide)) (fun c_2 => ?_) (fun c_2 => absurd c_2 (by omega))
  refine lv_bipush (v := (-102)) hx hb dX7_near_38 (by decide) ?_
  exact ro_iret hx hb hr hlocks (rfl) dX7_near_40

set_option maxHeartbeats 4000000 in
set_option maxRecDepth 100000 in
theorem c_X7_nearO (l : Launch) (D : va_G) (h : Nat) (g : Nat → Nat) (cI : ClassId) (J : Nat → Int32) (hz : Int64) (G : Nat → Nat → Int32) (b : Nat → Nat → Nat) (q : RS) (hM : MR b q J G) (hokz : ¬ q.1 = 0 → hok b) (hT : Tok q) (i : Nat) (hi : i < q.1) (v : Nat) (hv : v < 4) (w : Int32) (ow : ¬ inr w 0 2) : ROi l yX7_near (wA yX7_near cX7_near 4 (some .int)) ({ frames := 3, cells := 0, slots := 0, locals := 80 }) D (iTys cI) (mW h g cI J hz G) [.ref h, .int (nI i), .int (nI v), .int w] (-102) := by
  refine go_start (by decide) (Nat.le_of_ble_eq_true rfl) ?_
  intro p e s m args below meth c ls F _ hB hl
  obtain ⟨hx, hb, hr, hlocks, hml, hown, hts⟩ := F
  obtain ⟨hP, hK⟩ := hB
  have hown : s.vm.findClass RX7 = some m.cls := hown
  have hl : lv_has ls 4 [(0, .ref h), (1, .int (nI i)), (2, .int (nI v)), (3, .int w)] := hl
  have ht5 := hT.1
  have ht8 := hT.2.1
  have ow7 := inr_out ow
  have hok9 := hokz (by omega)
  refine lv_aload_n hx hb dX7_near_0 rfl (lv_at hl 0 rfl) ?_
  refine lv_iload_n hx hb dX7_near_1 rfl (lv_at hl 1 rfl) ?_
  refine ro_iV (n := 1) (As := [.int (nI i)]) ⟨hx, hb, hml, hown, hts⟩ (c_X7_isTapT l D h g cI J hz G b q hM hT i (by omega)) (cwV 1 hts (gV mg_596 mg_598 mg_1022 mg_8 mg_599) rfl rfl rfl vd_X7_isTap ⟨Nat.le_of_ble_eq_true rfl, Nat.le_of_ble_eq_true rfl⟩) (va_recv hK hP (ci := 7) (q0 := 0) rfl rfl) hK hP rfl hl.1 rfl (Nat.le_of_ble_eq_true rfl) dX7_near_2 ⟨Nat.zero_le _, Nat.zero_le _⟩ ?_
  refine j_if_ne (tgt := 11) hx hb dX7_near_5 (by decide) (nI_toInt (by decide)) (fun c_1 => ?_) (fun c_1 => absurd c_1 (by omega))
  refine lv_iload_n hx hb dX7_near_11 rfl (lv_at hl 2 rfl) ?_
  refine ro_iS (n := 1) (As := [.int (nI v)]) ⟨hx, hb, hml, hown, hts⟩ (c_X7_isSayingT l D (nI v) (by rw [nI_toInt (by omega)]; omega)) (cwS 1 hts (gS mg_577 mg_578 mg_8 mg_579) rfl rfl rfl vd_X7_isSaying ⟨Nat.le_of_ble_eq_true rfl, Nat.le_of_ble_eq_true rfl⟩)  (hK.sub [] rfl) (fun k q h => by simp at h) rfl hl.1 rfl (Nat.le_of_ble_eq_true rfl) dX7_near_12 ⟨Nat.zero_le _, Nat.zero_le _⟩ ?_
  refine j_if_eq (tgt := 38) hx hb dX7_near_15 (by decide) (nI_toInt (by decide)) (fun c_2 => absurd c_2 (by omega)) (fun c_2 => ?_)
  refine lv_iload_n hx hb dX7_near_18 rfl (lv_at hl 3 rfl) ?_
  refine lv_i2l (v := w.toInt64) hx hb dX7_near_19 rfl ?_
  refine lv_lconst (v := (0 : Int64)) hx hb dX7_near_20 (by decide) ?_
  refine lv_lconst (v := (1 : Int64)) hx hb dX7_near_21 (by decide) ?_
  have e1 : (w.toInt64 : Int64).toInt = w.toInt := (Int32.toInt_toInt64 _).trans rfl
  have e2 : ((0) : Int64).toInt = 0 := (by decide)
  have e3 : ((1) : Int64).toInt = 1 := (by decide)
  refine ro_iS (n := 3) (As := [.long w.toInt64, .long (0), .long (1)]) ⟨hx, hb, hml, hown, hts⟩ (c_X7_inF l D (w.toInt64) ((0)) ((1)) (fun z => by omega)) (cwS 3 hts (gS mg_534 mg_535 mg_8 mg_536) rfl rfl rfl vd_X7_in ⟨Nat.le_of_ble_eq_true rfl, Nat.le_of_ble_eq_true rfl⟩)  (hK.sub [] rfl) (fun k q h => by simp at h) rfl hl.1 rfl (Nat.le_of_ble_eq_true rfl) dX7_near_22 ⟨Nat.zero_le _, Nat.zero_le _⟩ ?_
  refine j_if_eq (tgt := 38) hx hb dX7_near_25 (by decide) (nI_toInt (by decide)) (fun c_3 => ?_) (fun c_3 => absurd c_3 (by omega))
  refine lv_bipush (v := (-102)) hx hb dX7_near_38 (by decide) ?_
  exact ro_iret hx hb hr hlocks (rfl) dX7_near_40

set_option maxHeartbeats 4000000 in
set_option maxRecDepth 100000 in
theorem c_X7_nearI (l : Launch) (D : va_G) (h : Nat) (g : Nat → Nat) (cI : ClassId) (J : Nat → Int32) (hz : Int64) (G : Nat → Nat → Int32) (b : Nat → Nat → Nat) (q : RS) (hM : MR b q J G) (hokz : ¬ q.1 = 0 → hok b) (hT : Tok q) (i : Nat) (hi : i < q.1) (v : Nat) (hv : v < 4) (w : Nat) (hw : w < 2) : ROi l yX7_near (wA yX7_near cX7_near 4 (some .int)) ({ frames := 3, cells := 0, slots := 0, locals := 80 }) D (iTys cI) (mW h g cI J hz G) [.ref h, .int (nI i), .int (nI v), .int (nI w)] (nI (ner b (q.2.2.2.1 i 0) (q.2.2.2.1 i 1) v w)) := by
  refine go_start (by decide) (Nat.le_of_ble_eq_true rfl) ?_
  intro p e s m args below meth c ls F _ hB hl
  obtain ⟨hx, hb, hr, hlocks, hml, hown, hts⟩ := F
  obtain ⟨hP, hK⟩ := hB
  have hown : s.vm.findClass RX7 = some m.cls := hown
  have hl : lv_has ls 4 [(0, .ref h), (1, .int (nI i)), (2, .int (nI v)), (3, .int (nI w))] := hl
  have ht5 := hT.1
  have ht8 := hT.2.1
  have hok9 := hokz (by omega)
  refine lv_aload_n hx hb dX7_near_0 rfl (lv_at hl 0 rfl) ?_
  refine lv_iload_n hx hb dX7_near_1 rfl (lv_at hl 1 rfl) ?_
  refine ro_iV (n := 1) (As := [.int (nI i)]) ⟨hx, hb, hml, hown, hts⟩ (c_X7_isTapT l D h g cI J hz G b q hM hT i (by omega)) (cwV 1 hts (gV mg_596 mg_598 mg_1022 mg_8 mg_599) rfl rfl rfl vd_X7_isTap ⟨Nat.le_of_ble_eq_true rfl, Nat.le_of_ble_eq_true rfl⟩) (va_recv hK hP (ci := 7) (q0 := 0) rfl rfl) hK hP rfl hl.1 rfl (Nat.le_of_ble_eq_true rfl) dX7_near_2 ⟨Nat.zero_le _, Nat.zero_le _⟩ ?_
  refine j_if_ne (tgt := 11) hx hb dX7_near_5 (by decide) (nI_toInt (by decide)) (fun c_1 => ?_) (fun c_1 => absurd c_1 (by omega))
  refine lv_iload_n hx hb dX7_near_11 rfl (lv_at hl 2 rfl) ?_
  refine ro_iS (n := 1) (As := [.int (nI v)]) ⟨hx, hb, hml, hown, hts⟩ (c_X7_isSayingT l D (nI v) (by rw [nI_toInt (by omega)]; omega)) (cwS 1 hts (gS mg_577 mg_578 mg_8 mg_579) rfl rfl rfl vd_X7_isSaying ⟨Nat.le_of_ble_eq_true rfl, Nat.le_of_ble_eq_true rfl⟩)  (hK.sub [] rfl) (fun k q h => by simp at h) rfl hl.1 rfl (Nat.le_of_ble_eq_true rfl) dX7_near_12 ⟨Nat.zero_le _, Nat.zero_le _⟩ ?_
  refine j_if_eq (tgt := 38) hx hb dX7_near_15 (by decide) (nI_toInt (by decide)) (fun c_2 => absurd c_2 (by omega)) (fun c_2 => ?_)
  refine lv_iload_n hx hb dX7_near_18 rfl (lv_at hl 3 rfl) ?_
  refine lv_i2l (v := lN w) hx hb dX7_near_19 (nI_l (by omega)) ?_
  refine lv_lconst (v := (0 : Int64)) hx hb dX7_near_20 (by decide) ?_
  refine lv_lconst (v := (1 : Int64)) hx hb dX7_near_21 (by decide) ?_
  have e1 : (lN w : Int64).toInt = ((w : Nat) : Int) := lN_toInt (by omega)
  have e2 : ((0) : Int64).toInt = 0 := (by decide)
  have e3 : ((1) : Int64).toInt = 1 := (by decide)
  refine ro_iS (n := 3) (As := [.long (lN w), .long (0), .long (1)]) ⟨hx, hb, hml, hown, hts⟩ (c_X7_inT l D (lN w) ((0)) ((1)) (by constructor <;> omega)) (cwS 3 hts (gS mg_534 mg_535 mg_8 mg_536) rfl rfl rfl vd_X7_in ⟨Nat.le_of_ble_eq_true rfl, Nat.le_of_ble_eq_true rfl⟩)  (hK.sub [] rfl) (fun k q h => by simp at h) rfl hl.1 rfl (Nat.le_of_ble_eq_true rfl) dX7_near_22 ⟨Nat.zero_le _, Nat.zero_le _⟩ ?_
  refine j_if_eq (tgt := 38) hx hb dX7_near_25 (by decide) (nI_toInt (by decide)) (fun c_3 => absurd c_3 (by omega)) (fun c_3 => ?_)
  refine lv_aload_n hx hb dX7_near_28 rfl (lv_at hl 0 rfl) ?_
  refine lv_iload_n hx hb dX7_near_29 rfl (lv_at hl 1 rfl) ?_
  refine lv_iload_n hx hb dX7_near_30 rfl (lv_at hl 2 rfl) ?_
  refine lv_iload_n hx hb dX7_near_31 rfl (lv_at hl 3 rfl) ?_
  refine ro_iV (n := 3) (As := [.int (nI i), .int (nI v), .int (nI w)]) ⟨hx, hb, hml, hown, hts⟩ (c_X7_nearOf l D h g cI J hz G b q hM hok9 hT i hi v hv w hw) (cwV 3 hts (gV mg_673 mg_675 mg_1034 mg_8 mg_676) rfl rfl rfl vd_X7_nearOf ⟨Nat.le_of_ble_eq_true rfl, Nat.le_of_ble_eq_true rfl⟩) (va_recv hK hP (ci := 7) (q0 := 0) rfl rfl) hK hP rfl hl.1 rfl (Nat.le_of_ble_eq_true rfl) dX7_near_32 ⟨Nat.zero_le _, Nat.zero_le _⟩ ?_
  refine lv_goto (tgt := 40) hx hb dX7_near_35 (by decide) ?_
  exact ro_iret hx hb hr hlocks (rfl) dX7_near_40

theorem c_X7_near (l : Launch) (D : va_G) (h : Nat) (g : Nat → Nat) (cI : ClassId) (J : Nat → Int32) (hz : Int64) (G : Nat → Nat → Int32) (b : Nat → Nat → Nat) (q : RS) (hM : MR b q J G) (hokz : ¬ q.1 = 0 → hok b) (hT : Tok q) (x y w : Int32) : ROi l yX7_near (wA yX7_near cX7_near 4 (some .int)) ({ frames := 3, cells := 0, slots := 0, locals := 80 }) D (iTys cI) (mW h g cI J hz G) [.ref h, .int x, .int y, .int w] (sp_near b q x y w) := by
  unfold sp_near
  have h5 := hT.1
  by_cases hx : inr x 0 q.1
  · obtain ⟨i, hi, rfl⟩ := inr_nat hx (by omega)
    rw [if_pos hx, ti_nI (by omega)]
    by_cases hy : inr y 0 4
    · obtain ⟨v, hv, rfl⟩ := inr_nat (n := 4) hy (by decide)
      by_cases hw : inr w 0 2
      · obtain ⟨j, hj, rfl⟩ := inr_nat (n := 2) hw (by decide)
        rw [if_pos ⟨hy, hw⟩, ti_nI (by omega), ti_nI (by omega)]
        exact c_X7_nearI l D h g cI J hz G b q hM hokz hT i hi v hv j hj
      · rw [if_neg (fun z => hw z.2)]
        exact c_X7_nearO l D h g cI J hz G b q hM hokz hT i hi v hv w hw
    · rw [if_neg (fun z => hy z.1)]
      exact c_X7_nearY l D h g cI J hz G b q hM hokz hT i hi y w hy
  · rw [if_neg hx]
    exact c_X7_nearX l D h g cI J hz G b q hM hokz hT x y w hx

set_option maxHeartbeats 4000000 in
set_option maxRecDepth 100000 in
theorem c_X7_saying0 (l : Launch) (D : va_G) (h : Nat) (g : Nat → Nat) (cI : ClassId) (J : Nat → Int32) (hz : Int64) (G : Nat → Nat → Int32) (b : Nat → Nat → Nat) (q : RS) (hM : MR b q J G) (hb4 : ∀ v, v < 4 → b v 0 ≤ 4) (h5 : q.1 ≤ 5) (h0 : q.1 = 0) (x w : Int32) : ROi l yX7_saying (wA yX7_saying cX7_saying 3 (some .int)) ({ frames := 2, cells := 0, slots := 0, locals := 47 }) D (iTys cI) (mW h g cI J hz G) [.ref h, .int x, .int w] (-101) := by
  refine go_start (by decide) (Nat.le_of_ble_eq_true rfl) ?_
  intro p e s m args below meth c ls F _ hB hl
  obtain ⟨hx, hb, hr, hlocks, hml, hown, hts⟩ := F
  obtain ⟨hP, hK⟩ := hB
  have hown : s.vm.findClass RX7 = some m.cls := hown
  have hl : lv_has ls 3 [(0, .ref h), (1, .int x), (2, .int w)] := hl
  refine lv_aload_n hx hb dX7_saying_0 rfl (lv_at hl 0 rfl) ?_
  refine ro_iV (n := 0) (As := []) ⟨hx, hb, hml, hown, hts⟩ (c_X7_lacksT l D h g cI J hz G q b hM h5 h0) (cwV 0 hts (gV mg_573 mg_575 mg_1020 mg_8 mg_576) rfl rfl rfl vd_X7_lacks ⟨Nat.le_of_ble_eq_true rfl, Nat.le_of_ble_eq_true rfl⟩) (va_recv hK hP (ci := 7) (q0 := 0) rfl rfl) hK hP rfl hl.1 rfl (Nat.le_of_ble_eq_true rfl) dX7_saying_1 ⟨Nat.zero_le _, Nat.zero_le _⟩ ?_
  refine j_if_ne (tgt := 23) hx hb dX7_saying_4 (by decide) (nI_toInt (by decide)) (fun c_1 => ?_) (fun c_1 => absurd c_1 (by omega))
  refine lv_bipush (v := (-101)) hx hb dX7_saying_23 (by decide) ?_
  exact ro_iret hx hb hr hlocks (rfl) dX7_saying_25

set_option maxHeartbeats 4000000 in
set_option maxRecDepth 100000 in
theorem c_X7_sayingX (l : Launch) (D : va_G) (h : Nat) (g : Nat → Nat) (cI : ClassId) (J : Nat → Int32) (hz : Int64) (G : Nat → Nat → Int32) (b : Nat → Nat → Nat) (q : RS) (hM : MR b q J G) (hb4 : ∀ v, v < 4 → b v 0 ≤ 4) (h5 : q.1 ≤ 5) (h0 : ¬ q.1 = 0) (x w : Int32) (ox : ¬ inr x 0 4) : ROi l yX7_saying (wA yX7_saying cX7_saying 3 (some .int)) ({ frames := 2, cells := 0, slots := 0, locals := 47 }) D (iTys cI) (mW h g cI J hz G) [.ref h, .int x, .int w] (-101) := by
  refine go_start (by decide) (Nat.le_of_ble_eq_true rfl) ?_
  intro p e s m args below meth c ls F _ hB hl
  obtain ⟨hx, hb, hr, hlocks, hml, hown, hts⟩ := F
  obtain ⟨hP, hK⟩ := hB
  have hown : s.vm.findClass RX7 = some m.cls := hown
  have hl : lv_has ls 3 [(0, .ref h), (1, .int x), (2, .int w)] := hl
  refine lv_aload_n hx hb dX7_saying_0 rfl (lv_at hl 0 rfl) ?_
  refine ro_iV (n := 0) (As := []) ⟨hx, hb, hml, hown, hts⟩ (c_X7_lacksF l D h g cI J hz G q b hM h5 h0) (cwV 0 hts (gV mg_573 mg_575 mg_1020 mg_8 mg_576) rfl rfl rfl vd_X7_lacks ⟨Nat.le_of_ble_eq_true rfl, Nat.le_of_ble_eq_true rfl⟩) (va_recv hK hP (ci := 7) (q0 := 0) rfl rfl) hK hP rfl hl.1 rfl (Nat.le_of_ble_eq_true rfl) dX7_saying_1 ⟨Nat.zero_le _, Nat.zero_le _⟩ ?_
  refine j_if_ne (tgt := 23) hx hb dX7_saying_4 (by decide) (nI_toInt (by decide)) (fun c_1 => absurd c_1 (by omega)) (fun c_1 => ?_)
  refine lv_iload_n hx hb dX7_saying_7 rfl (lv_at hl 1 rfl) ?_
  refine ro_iS (n := 1) (As := [.int x]) ⟨hx, hb, hml, hown, hts⟩ (c_X7_isSayingF l D x (inr_out ox)) (cwS 1 hts (gS mg_577 mg_578 mg_8 mg_579) rfl rfl rfl vd_X7_isSaying ⟨Nat.le_of_ble_eq_true rfl, Nat.le_of_ble_eq_true rfl⟩)  (hK.sub [] rfl) (fun k q h => by simp at h) rfl hl.1 rfl (Nat.le_of_ble_eq_true rfl) dX7_saying_8 ⟨Nat.zero_le _, Nat.zero_le _⟩ ?_
  refine j_if_eq (tgt := 23) hx hb dX7_saying_11 (by decide) (nI_toInt (by decide)) (fun c_2 => ?_) (fun c_2 => absurd c_2 (by omega))
  refine lv_bipush (v := (-101)) hx hb dX7_saying_23 (by decide) ?_
  exact ro_iret hx hb hr hlocks (rfl) dX7_saying_25

set_option maxHeartbeats 4000000 in
set_option maxRecDepth 100000 in
theorem c_X7_sayingL (l : Launch) (D : va_G) (h : Nat) (g : Nat → Nat) (cI : ClassId) (J : Nat → Int32) (hz : Int64) (G : Nat → Nat → Int32) (b : Nat → Nat → Nat) (q : RS) (hM : MR b q J G) (hb4 : ∀ v, v < 4 → b v 0 ≤ 4) (h5 : q.1 ≤ 5) (h0 : ¬ q.1 = 0) (v : Nat) (hv : v < 4) : ROi l yX7_saying (wA yX7_saying cX7_saying 3 (some .int)) ({ frames := 2, cells := 0, slots := 0, locals := 47 }) D (iTys cI) (mW h g cI J hz G) [.ref h, .int (nI v), .int (nI 0)] (nI (b v 0)) := by
  refine go_start (by decide) (Nat.le_of_ble_eq_true rfl) ?_
  intro p e s m args below meth c ls F _ hB hl
  obtain ⟨hx, hb, hr, hlocks, hml, hown, hts⟩ := F
  obtain ⟨hP, hK⟩ := hB
  have hown : s.vm.findClass RX7 = some m.cls := hown
  have hl : lv_has ls 3 [(0, .ref h), (1, .int (nI v)), (2, .int (nI 0))] := hl
  refine lv_aload_n hx hb dX7_saying_0 rfl (lv_at hl 0 rfl) ?_
  refine ro_iV (n := 0) (As := []) ⟨hx, hb, hml, hown, hts⟩ (c_X7_lacksF l D h g cI J hz G q b hM h5 h0) (cwV 0 hts (gV mg_573 mg_575 mg_1020 mg_8 mg_576) rfl rfl rfl vd_X7_lacks ⟨Nat.le_of_ble_eq_true rfl, Nat.le_of_ble_eq_true rfl⟩) (va_recv hK hP (ci := 7) (q0 := 0) rfl rfl) hK hP rfl hl.1 rfl (Nat.le_of_ble_eq_true rfl) dX7_saying_1 ⟨Nat.zero_le _, Nat.zero_le _⟩ ?_
  refine j_if_ne (tgt := 23) hx hb dX7_saying_4 (by decide) (nI_toInt (by decide)) (fun c_1 => absurd c_1 (by omega)) (fun c_1 => ?_)
  refine lv_iload_n hx hb dX7_saying_7 rfl (lv_at hl 1 rfl) ?_
  refine ro_iS (n := 1) (As := [.int (nI v)]) ⟨hx, hb, hml, hown, hts⟩ (c_X7_isSayingT l D (nI v) (by rw [nI_toInt (by omega)]; omega)) (cwS 1 hts (gS mg_577 mg_578 mg_8 mg_579) rfl rfl rfl vd_X7_isSaying ⟨Nat.le_of_ble_eq_true rfl, Nat.le_of_ble_eq_true rfl⟩)  (hK.sub [] rfl) (fun k q h => by simp at h) rfl hl.1 rfl (Nat.le_of_ble_eq_true rfl) dX7_saying_8 ⟨Nat.zero_le _, Nat.zero_le _⟩ ?_
  refine j_if_eq (tgt := 23) hx hb dX7_saying_11 (by decide) (nI_toInt (by decide)) (fun c_2 => absurd c_2 (by omega)) (fun c_2 => ?_)
  refine lv_aload_n hx hb dX7_saying_14 rfl (lv_at hl 0 rfl) ?_
  refine lv_iload_n hx hb dX7_saying_15 rfl (lv_at hl 1 rfl) ?_
  refine lv_iload_n hx hb dX7_saying_16 rfl (lv_at hl 2 rfl) ?_
  refine ro_iV (n := 2) (As := [.int (nI v), .int (nI 0)]) ⟨hx, hb, hml, hown, hts⟩ (c_X7_tsL l D h g cI J hz G b q hM hb4 v hv) (cwV 2 hts (gV mg_581 mg_583 mg_1021 mg_8 mg_584) rfl rfl rfl vd_X7_tellSaying ⟨Nat.le_of_ble_eq_true rfl, Nat.le_of_ble_eq_true rfl⟩) (va_recv hK hP (ci := 7) (q0 := 0) rfl rfl) hK hP rfl hl.1 rfl (Nat.le_of_ble_eq_true rfl) dX7_saying_17 ⟨Nat.zero_le _, Nat.zero_le _⟩ ?_
  refine lv_goto (tgt := 25) hx hb dX7_saying_20 (by decide) ?_
  exact ro_iret hx hb hr hlocks (rfl) dX7_saying_25

set_option maxHeartbeats 4000000 in
set_option maxRecDepth 100000 in
theorem c_X7_sayingO (l : Launch) (D : va_G) (h : Nat) (g : Nat → Nat) (cI : ClassId) (J : Nat → Int32) (hz : Int64) (G : Nat → Nat → Int32) (b : Nat → Nat → Nat) (q : RS) (hM : MR b q J G) (hb4 : ∀ v, v < 4 → b v 0 ≤ 4) (h5 : q.1 ≤ 5) (h0 : ¬ q.1 = 0) (v : Nat) (hv : v < 4) (w : Int32) (hw0 : ¬ w.toInt = 0) (ow : ¬ inr w 10 14) : ROi l yX7_saying (wA yX7_saying cX7_saying 3 (some .int)) ({ frames := 2, cells := 0, slots := 0, locals := 47 }) D (iTys cI) (mW h g cI J hz G) [.ref h, .int (nI v), .int w] (-102) := by
  refine go_start (by decide) (Nat.le_of_ble_eq_true rfl) ?_
  intro p e s m args below meth c ls F _ hB hl
  obtain ⟨hx, hb, hr, hlocks, hml, hown, hts⟩ := F
  obtain ⟨hP, hK⟩ := hB
  have hown : s.vm.findClass RX7 = some m.cls := hown
  have hl : lv_has ls 3 [(0, .ref h), (1, .int (nI v)), (2, .int w)] := hl
  refine lv_aload_n hx hb dX7_saying_0 rfl (lv_at hl 0 rfl) ?_
  refine ro_iV (n := 0) (As := []) ⟨hx, hb, hml, hown, hts⟩ (c_X7_lacksF l D h g cI J hz G q b hM h5 h0) (cwV 0 hts (gV mg_573 mg_575 mg_1020 mg_8 mg_576) rfl rfl rfl vd_X7_lacks ⟨Nat.le_of_ble_eq_true rfl, Nat.le_of_ble_eq_true rfl⟩) (va_recv hK hP (ci := 7) (q0 := 0) rfl rfl) hK hP rfl hl.1 rfl (Nat.le_of_ble_eq_true rfl) dX7_saying_1 ⟨Nat.zero_le _, Nat.zero_le _⟩ ?_
  refine j_if_ne (tgt := 23) hx hb dX7_saying_4 (by decide) (nI_toInt (by decide)) (fun c_1 => absurd c_1 (by omega)) (fun c_1 => ?_)
  refine lv_iload_n hx hb dX7_saying_7 rfl (lv_at hl 1 rfl) ?_
  refine ro_iS (n := 1) (As := [.int (nI v)]) ⟨hx, hb, hml, hown, hts⟩ (c_X7_isSayingT l D (nI v) (by rw [nI_toInt (by omega)]; omega)) (cwS 1 hts (gS mg_577 mg_578 mg_8 mg_579) rfl rfl rfl vd_X7_isSaying ⟨Nat.le_of_ble_eq_true rfl, Nat.le_of_ble_eq_true rfl⟩)  (hK.sub [] rfl) (fun k q h => by simp at h) rfl hl.1 rfl (Nat.le_of_ble_eq_true rfl) dX7_saying_8 ⟨Nat.zero_le _, Nat.zero_le _⟩ ?_
  refine j_if_eq (tgt := 23) hx hb dX7_saying_11 (by decide) (nI_toInt (by decide)) (fun c_2 => absurd c_2 (by omega)) (fun c_2 => ?_)
  refine lv_aload_n hx hb dX7_saying_14 rfl (lv_at hl 0 rfl) ?_
  refine lv_iload_n hx hb dX7_saying_15 rfl (lv_at hl 1 rfl) ?_
  refine lv_iload_n hx hb dX7_saying_16 rfl (lv_at hl 2 rfl) ?_
  refine ro_iV (n := 2) (As := [.int (nI v), .int w]) ⟨hx, hb, hml, hown, hts⟩ (c_X7_tsO l D h g cI J hz G b q hM hb4 v hv w hw0 ow) (cwV 2 hts (gV mg_581 mg_583 mg_1021 mg_8 mg_584) rfl rfl rfl vd_X7_tellSaying ⟨Nat.le_of_ble_eq_true rfl, Nat.le_of_ble_eq_true rfl⟩) (va_recv hK hP (ci := 7) (q0 := 0) rfl rfl) hK hP rfl hl.1 rfl (Nat.le_of_ble_eq_true rfl) dX7_saying_17 ⟨Nat.zero_le _, Nat.zero_le _⟩ ?_
  refine lv_goto (tgt := 25) hx hb dX7_saying_20 (by decide) ?_
  exact ro_iret hx hb hr hlocks (rfl) dX7_saying_25

set_option maxHeartbeats 4000000 in
set_option maxRecDepth 100000 in
theorem c_X7_sayingI (l : Launch) (D : va_G) (h : Nat) (g : Nat → Nat) (cI : ClassId) (J : Nat → Int32) (hz : Int64) (G : Nat → Nat → Int32) (b : Nat → Nat → Nat) (q : RS) (hM : MR b q J G) (hb4 : ∀ v, v < 4 → b v 0 ≤ 4) (h5 : q.1 ≤ 5) (h0 : ¬ q.1 = 0) (v : Nat) (hv : v < 4) (j : Nat) (hj : j < 4) : ROi l yX7_saying (wA yX7_saying cX7_saying 3 (some .int)) ({ frames := 2, cells := 0, slots := 0, locals := 47 }) D (iTys cI) (mW h g cI J hz G) [.ref h, .int (nI v), .int (nI (10 + j))] (bta b v j) := by
  refine go_start (by decide) (Nat.le_of_ble_eq_true rfl) ?_
  intro p e s m args below meth c ls F _ hB hl
  obtain ⟨hx, hb, hr, hlocks, hml, hown, hts⟩ := F
  obtain ⟨hP, hK⟩ := hB
  have hown : s.vm.findClass RX7 = some m.cls := hown
  have hl : lv_has ls 3 [(0, .ref h), (1, .int (nI v)), (2, .int (nI (10 + j)))] := hl
  refine lv_aload_n hx hb dX7_saying_0 rfl (lv_at hl 0 rfl) ?_
  refine ro_iV (n := 0) (As := []) ⟨hx, hb, hml, hown, hts⟩ (c_X7_lacksF l D h g cI J hz G q b hM h5 h0) (cwV 0 hts (gV mg_573 mg_575 mg_1020 mg_8 mg_576) rfl rfl rfl vd_X7_lacks ⟨Nat.le_of_ble_eq_true rfl, Nat.le_of_ble_eq_true rfl⟩) (va_recv hK hP (ci := 7) (q0 := 0) rfl rfl) hK hP rfl hl.1 rfl (Nat.le_of_ble_eq_true rfl) dX7_saying_1 ⟨Nat.zero_le _, Nat.zero_le _⟩ ?_
  refine j_if_ne (tgt := 23) hx hb dX7_saying_4 (by decide) (nI_toInt (by decide)) (fun c_1 => absurd c_1 (by omega)) (fun c_1 => ?_)
  refine lv_iload_n hx hb dX7_saying_7 rfl (lv_at hl 1 rfl) ?_
  refine ro_iS (n := 1) (As := [.int (nI v)]) ⟨hx, hb, hml, hown, hts⟩ (c_X7_isSayingT l D (nI v) (by rw [nI_toInt (by omega)]; omega)) (cwS 1 hts (gS mg_577 mg_578 mg_8 mg_579) rfl rfl rfl vd_X7_isSaying ⟨Nat.le_of_ble_eq_true rfl, Nat.le_of_ble_eq_true rfl⟩)  (hK.sub [] rfl) (fun k q h => by simp at h) rfl hl.1 rfl (Nat.le_of_ble_eq_true rfl) dX7_saying_8 ⟨Nat.zero_le _, Nat.zero_le _⟩ ?_
  refine j_if_eq (tgt := 23) hx hb dX7_saying_11 (by decide) (nI_toInt (by decide)) (fun c_2 => absurd c_2 (by omega)) (fun c_2 => ?_)
  refine lv_aload_n hx hb dX7_saying_14 rfl (lv_at hl 0 rfl) ?_
  refine lv_iload_n hx hb dX7_saying_15 rfl (lv_at hl 1 rfl) ?_
  refine lv_iload_n hx hb dX7_saying_16 rfl (lv_at hl 2 rfl) ?_
  refine ro_iV (n := 2) (As := [.int (nI v), .int (nI (10 + j))]) ⟨hx, hb, hml, hown, hts⟩ (c_X7_tsI l D h g cI J hz G b q hM hb4 v hv j hj) (cwV 2 hts (gV mg_581 mg_583 mg_1021 mg_8 mg_584) rfl rfl rfl vd_X7_tellSaying ⟨Nat.le_of_ble_eq_true rfl, Nat.le_of_ble_eq_true rfl⟩) (va_recv hK hP (ci := 7) (q0 := 0) rfl rfl) hK hP rfl hl.1 rfl (Nat.le_of_ble_eq_true rfl) dX7_saying_17 ⟨Nat.zero_le _, Nat.zero_le _⟩ ?_
  refine lv_goto (tgt := 25) hx hb dX7_saying_20 (by decide) ?_
  exact ro_iret hx hb hr hlocks (rfl) dX7_saying_25

theorem c_X7_saying (l : Launch) (D : va_G) (h : Nat) (g : Nat → Nat) (cI : ClassId) (J : Nat → Int32) (hz : Int64) (G : Nat → Nat → Int32) (b : Nat → Nat → Nat) (q : RS) (hM : MR b q J G) (hb4 : ∀ v, v < 4 → b v 0 ≤ 4) (h5 : q.1 ≤ 5) (x w : Int32) : ROi l yX7_saying (wA yX7_saying cX7_saying 3 (some .int)) ({ frames := 2, cells := 0, slots := 0, locals := 47 }) D (iTys cI) (mW h g cI J hz G) [.ref h, .int x, .int w] (sp_saying b q.1 x w) := by
  unfold sp_saying
  by_cases h0 : q.1 = 0
  · rw [if_neg (fun z => z.1 h0)]
    exact c_X7_saying0 l D h g cI J hz G b q hM hb4 h5 h0 x w
  · by_cases hx : inr x 0 4
    · obtain ⟨v, hv, rfl⟩ := inr_nat (n := 4) hx (by decide)
      rw [if_pos ⟨h0, hx⟩, ti_nI (by omega)]
      by_cases hw0 : w.toInt = 0
      · rw [if_pos hw0]
        have hw1 : w = nI 0 := Int32.toInt_inj.mp hw0
        subst hw1
        exact c_X7_sayingL l D h g cI J hz G b q hM hb4 h5 h0 v hv
      · rw [if_neg hw0]
        by_cases hw : inr w 10 14
        · obtain ⟨j, hj, rfl⟩ : ∃ j : Nat, j < 14 ∧ w = nI j := inr_nat (n := 14) ⟨by have := hw.1; omega, hw.2⟩ (by decide)
          have h10 : 10 ≤ j := by have := hw.1; rw [nI_toInt (by omega)] at this; omega
          rw [if_pos hw, ti_nI (by omega)]
          have := c_X7_sayingI l D h g cI J hz G b q hM hb4 h5 h0 v hv (j - 10) (by omega)
          rw [show 10 + (j - 10) = j by omega] at this
          exact this
        · rw [if_neg hw]
          exact c_X7_sayingO l D h g cI J hz G b q hM hb4 h5 h0 v hv w hw0 hw
    · rw [if_neg (fun z => hx z.2)]
      exact c_X7_sayingX l D h g cI J hz G b q hM hb4 h5 h0 x w hx
