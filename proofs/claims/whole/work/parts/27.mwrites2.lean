set_option maxHeartbeats 4000000 in
set_option maxRecDepth 100000 in
theorem c_X7_copy (l : Launch) (D : va_G) (cI : ClassId) (sz : Nat) (w : va_W) (x y k1 k2 n : Nat) (f f2 : Nat → Int32) (hk : k1 ≠ k2) (h1 : w[k1]? = some (x, .inl (cI, n, .inl f))) (h2 : w[k2]? = some (y, .inl (cI, n, .inl f2))) (hn : n < 2 ^ 31) : WV l yX7_copy (wA yX7_copy cX7_copy 3 none) ({ frames := 0, cells := 0, slots := 0, locals := 0 }) D (iTys cI) w sz [.ref x, .ref y] (fun _ : Unit => True) (fun _ : Unit => (w.set k2 ((y : Nat), (.inl (cI, n, .inl (cpyF f f2 n)) : va_E)))) := by
  refine rw_startV (by decide) (Nat.le_of_ble_eq_true rfl) ?_
  intro p e s m args below meth c ls A F hP hK hD hA hS hl
  obtain ⟨hx, hb, hr, hlocks, hml, hown, hts⟩ := F
  have hown : s.vm.findClass RX7 = some m.cls := hown
  have hl : lv_has ls 3 [(0, .ref x), (1, .ref y)] := hl
  refine lv_iconst (v := nI 0) hx hb dX7_copy_0 (by decide) ?_
  have hP : va_P D vwCl (w.set k2 ((y : Nat), (.inl (cI, n, .inl (cpyF f f2 0)) : va_E))) s.heap := Eq.mp (congrArg (fun z => va_P D vwCl z s.heap) (cpw_0 (f := f) h2)) hP
  have hD : va_D A (w.set k2 ((y : Nat), (.inl (cI, n, .inl (cpyF f f2 0)) : va_E))) := Eq.mp (congrArg (fun z => va_D A z) (cpw_0 (f := f) h2)) hD
  refine lv_istore_n (lv' := [(2, .int (nI 0)), (0, .ref x), (1, .ref y)]) hx hb dX7_copy_1 rfl hl (by decide) rfl (fun ls hl => ?_)
  have K_1 : ∀ n9 : Nat, ∀ (i : Nat), i ≤ n → n - i < n9 → ∀ (H : Heap) (locs : List Loc), va_P D vwCl (w.set k2 ((y : Nat), (.inl (cI, n, .inl (cpyF f f2 i)) : va_E))) H → va_D A (w.set k2 ((y : Nat), (.inl (cI, n, .inl (cpyF f f2 i)) : va_E))) → va_S A s.heap H locs → ∀ ls : Array Slot, lv_has ls 3 [(0, .ref x), (1, .ref y), (2, .int (nI i))] → W p l e (headSpec (wA yX7_copy cX7_copy 3 none) ({ frames := 0, cells := 0, slots := 0, locals := 0 })).room s m args below meth c H locs 0 0 (MQ below (va_Qv (fun _ : Unit => True) (fun u t => wB D (iTys cI) A ((fun _ : Unit => (w.set k2 ((y : Nat), (.inl (cI, n, .inl (cpyF f f2 n)) : va_E)))) u) t) A) args s 0 0 A) (F0 m 2 ls []) := by
    intro n9
    induction n9 with
    | zero => intros; omega
    | succ n9 ih_2 =>
      intro i hi hn9 H locs hP hD hS ls hl
      refine lv_iload_n hx hb dX7_copy_2 rfl (lv_at hl 2 rfl) ?_
      refine lv_aload_n hx hb dX7_copy_3 rfl (lv_at hl 0 rfl) ?_
      refine va_alen (v := nI n) hx hb hK hP k1 0 (cpw_x hk h1) rfl rfl dX7_copy_4 ?_
      refine j_icmp_ge (tgt := 20) hx hb dX7_copy_5 (by decide) (nI_toInt (by omega)) (nI_toInt (by omega)) (fun c_3 => ?_) (fun c_3 => ?_)
      · have e9 : i = n := by omega
        have hP : va_P D vwCl (w.set k2 ((y : Nat), (.inl (cI, n, .inl (cpyF f f2 n)) : va_E))) H := Eq.mp (congrArg (fun z => va_P D vwCl (w.set k2 ((y : Nat), (.inl (cI, n, .inl (cpyF f f2 z)) : va_E))) H) e9) hP
        have hD : va_D A (w.set k2 ((y : Nat), (.inl (cI, n, .inl (cpyF f f2 n)) : va_E))) := Eq.mp (congrArg (fun z => va_D A (w.set k2 ((y : Nat), (.inl (cI, n, .inl (cpyF f f2 z)) : va_E)))) e9) hD
        exact rw_vret (wp := (fun _ : Unit => (w.set k2 ((y : Nat), (.inl (cI, n, .inl (cpyF f f2 n)) : va_E))))) (post := (fun _ : Unit => True)) () hx hb hr hlocks hK hP hD hS (rfl) (trivial) dX7_copy_20
      · refine lv_aload_n hx hb dX7_copy_8 rfl (lv_at hl 1 rfl) ?_
        refine lv_iload_n hx hb dX7_copy_9 rfl (lv_at hl 2 rfl) ?_
        refine lv_aload_n hx hb dX7_copy_10 rfl (lv_at hl 0 rfl) ?_
        refine lv_iload_n hx hb dX7_copy_11 rfl (lv_at hl 2 rfl) ?_
        refine n_aldi hx hb hK hP k1 0 (cpw_x hk h1) rfl (by omega) (by omega) (v := f i) (rfl) dX7_copy_12 ?_
        refine n_asti hx hb hK hP hD hS k2 0 (cpw_y h2) rfl (by omega) (by omega) dX7_copy_13 (fun H locs hP hD hS => ?_)
        have hP : va_P D vwCl (w.set k2 ((y : Nat), (.inl (cI, n, .inl (cpyF f f2 (i + 1))) : va_E))) H := Eq.mp (congrArg (fun z => va_P D vwCl z H) (cpw_s (f := f) (f2 := f2))) hP
        have hD : va_D A (w.set k2 ((y : Nat), (.inl (cI, n, .inl (cpyF f f2 (i + 1))) : va_E))) := Eq.mp (congrArg (fun z => va_D A z) (cpw_s (f := f) (f2 := f2))) hD
        refine lv_iinc (v := nI (i + 1)) (lv' := [(2, .int (nI (i + 1))), (0, .ref x), (1, .ref y)]) hx hb dX7_copy_14 hl (k := 2) rfl (fr_inc1 _) (by decide) rfl (fun ls hl => ?_)
        refine lv_goto (tgt := 2) hx hb dX7_copy_17 (by decide) ?_
        exact ih_2 (i + 1) (by omega) (by omega) _ _ hP hD hS _ (lv_sub hl [1, 2, 0] rfl)
  exact K_1 (n - 0 + 1) 0 (by omega) (Nat.lt_succ_self _) _ _ hP hD hS _ (lv_sub hl [1, 2, 0] rfl)

set_option maxHeartbeats 4000000 in
set_option maxRecDepth 100000 in
theorem c_X7_image0 (l : Launch) (D : va_G) (h : Nat) (g : Nat → Nat) (cI : ClassId) (sz : Nat) (J : Nat → Int32) (hz : Int64) (G : Nat → Nat → Int32) (b : Nat → Nat → Nat) (pn xr xi : Nat) (pc : Nat → Int32) (q kq : RS) (hF : MF b pn xr xi pc q kq J G) (hokz : ¬ q.1 = 0 → hok b) (hT : Tok q) (h0 : q.1 = 0) : WI l yX7_image (wA yX7_image cX7_image 1 (some .int)) ({ frames := 1, cells := 0, slots := 0, locals := 22 }) D (iTys cI) (mW h g cI J hz G) sz [.ref h] (fun (r : Int32) (u : (Nat → Int32) × (Nat → Nat → Int32)) => r = -103 ∧ MF b pn xr xi pc q kq u.1 u.2) (fun u => mW h g cI u.1 hz u.2) := by
  refine rw_startI (by decide) (Nat.le_of_ble_eq_true rfl) ?_
  intro p e s m args below meth c ls A F hP hK hD hA hS hl
  obtain ⟨hx, hb, hr, hlocks, hml, hown, hts⟩ := F
  have hown : s.vm.findClass RX7 = some m.cls := hown
  have hl : lv_has ls 1 [(0, .ref h)] := hl
  have hM := hF.1
  have ht5 := hT.1
  have ht8 := hT.2.1
  refine lv_aload_n hx hb dX7_image_0 rfl (lv_at hl 0 rfl) ?_
  refine ro_iV (n := 0) (As := []) ⟨hx, hb, hml, hown, hts⟩ (c_X7_lacksT l D h g cI J hz G q b hM hT.1 h0) (cwV 0 hts (gV mg_573 mg_575 mg_1020 mg_8 mg_576) rfl rfl rfl vd_X7_lacks ⟨Nat.le_of_ble_eq_true rfl, Nat.le_of_ble_eq_true rfl⟩) (va_recv hK hP (ci := 7) (q0 := 0) rfl rfl) hK hP rfl hl.1 rfl (Nat.le_of_ble_eq_true rfl) dX7_image_1 ⟨Nat.zero_le _, Nat.zero_le _⟩ ?_
  refine j_if_eq (tgt := 10) hx hb dX7_image_4 (by decide) (nI_toInt (by decide)) (fun c_1 => absurd c_1 (by omega)) (fun c_1 => ?_)
  refine lv_bipush (v := (-103)) hx hb dX7_image_7 (by decide) ?_
  exact rw_iret (wp := (fun u => mW h g cI u.1 hz u.2)) (post := (fun (r : Int32) (u : (Nat → Int32) × (Nat → Nat → Int32)) => r = -103 ∧ MF b pn xr xi pc q kq u.1 u.2)) (J, G) hx hb hr hlocks hK hP hD hS (rfl) (⟨rfl, hF⟩) dX7_image_9

set_option maxHeartbeats 4000000 in
set_option maxRecDepth 100000 in
theorem c_X7_image1 (l : Launch) (D : va_G) (h : Nat) (g : Nat → Nat) (cI : ClassId) (sz : Nat) (J : Nat → Int32) (hz : Int64) (G : Nat → Nat → Int32) (b : Nat → Nat → Nat) (pn xr xi : Nat) (pc : Nat → Int32) (q kq : RS) (hF : MF b pn xr xi pc q kq J G) (hokz : ¬ q.1 = 0 → hok b) (hT : Tok q) (h0 : ¬ q.1 = 0) : WI l yX7_image (wA yX7_image cX7_image 1 (some .int)) ({ frames := 1, cells := 0, slots := 0, locals := 22 }) D (iTys cI) (mW h g cI J hz G) sz [.ref h] (fun (r : Int32) (u : (Nat → Int32) × (Nat → Nat → Int32)) => r = q.2.2.1 ∧ MF b pn xr 1 pc q (imK q kq) u.1 u.2) (fun u => mW h g cI u.1 hz u.2) := by
  refine rw_startI (by decide) (Nat.le_of_ble_eq_true rfl) ?_
  intro p e s m args below meth c ls A F hP hK hD hA hS hl
  obtain ⟨hx, hb, hr, hlocks, hml, hown, hts⟩ := F
  have hown : s.vm.findClass RX7 = some m.cls := hown
  have hl : lv_has ls 1 [(0, .ref h)] := hl
  have hM := hF.1
  have ht5 := hT.1
  have ht8 := hT.2.1
  have hok9 := hokz h0
  refine lv_aload_n hx hb dX7_image_0 rfl (lv_at hl 0 rfl) ?_
  refine ro_iV (n := 0) (As := []) ⟨hx, hb, hml, hown, hts⟩ (c_X7_lacksF l D h g cI J hz G q b hM hT.1 h0) (cwV 0 hts (gV mg_573 mg_575 mg_1020 mg_8 mg_576) rfl rfl rfl vd_X7_lacks ⟨Nat.le_of_ble_eq_true rfl, Nat.le_of_ble_eq_true rfl⟩) (va_recv hK hP (ci := 7) (q0 := 0) rfl rfl) hK hP rfl hl.1 rfl (Nat.le_of_ble_eq_true rfl) dX7_image_1 ⟨Nat.zero_le _, Nat.zero_le _⟩ ?_
  refine j_if_eq (tgt := 10) hx hb dX7_image_4 (by decide) (nI_toInt (by decide)) (fun c_1 => ?_) (fun c_1 => absurd c_1 (by omega))
  refine lv_aload_n hx hb dX7_image_10 rfl (lv_at hl 0 rfl) ?_
  refine va_get (D := D) (ci := 7) (v := .ref (g 11)) (C := RX7) (T := TX7) (N := 22) hx hb hts iX7 hown hK hP 0 rfl rfl 11 (by decide) (hts _ mg_473) (fun _ h9 => h9) rfl dX7_image_11 ?_
  refine lv_aload_n hx hb dX7_image_14 rfl (lv_at hl 0 rfl) ?_
  refine va_get (D := D) (ci := 7) (v := .ref (g 19)) (C := RX7) (T := TX7) (N := 22) hx hb hts iX7 hown hK hP 0 rfl rfl 19 (by decide) (hts _ mg_481) (fun _ h9 => h9) rfl dX7_image_15 ?_
  refine rw_vS (X := []) (Y := []) (n := 2) (As := [.ref (g 11), .ref (g 19)]) ⟨hx, hb, hml, hown, hts⟩ (c_X7_copy l D cI _ (mW h g cI J hz G) (g 11) (g 19) 5 7 20 (G 11) (G 19) (by decide) rfl rfl (by decide)) (cwS 2 hts (gS mg_566 mg_567 mg_8 mg_568) rfl rfl rfl vd_X7_copy ⟨Nat.le_of_ble_eq_true rfl, Nat.le_of_ble_eq_true rfl⟩)  hK hP hD hS hA rfl hl.1 rfl (Nat.le_of_ble_eq_true rfl) dX7_image_18 ⟨Nat.zero_le _, Nat.zero_le _⟩ (fun u_2 H locs w_3 hP hD hS => ?_)
  have hP : va_P D vwCl (mW h g cI J hz (updF G 19 (cpyF (G 11) (G 19) 20))) H := hP
  have hD : va_D A (mW h g cI J hz (updF G 19 (cpyF (G 11) (G 19) 20))) := hD
  refine lv_aload_n hx hb dX7_image_21 rfl (lv_at hl 0 rfl) ?_
  refine va_get (D := D) (ci := 7) (v := .ref (g 13)) (C := RX7) (T := TX7) (N := 22) hx hb hts iX7 hown hK hP 0 rfl rfl 13 (by decide) (hts _ mg_475) (fun _ h9 => h9) rfl dX7_image_22 ?_
  refine lv_aload_n hx hb dX7_image_25 rfl (lv_at hl 0 rfl) ?_
  refine va_get (D := D) (ci := 7) (v := .ref (g 20)) (C := RX7) (T := TX7) (N := 22) hx hb hts iX7 hown hK hP 0 rfl rfl 20 (by decide) (hts _ mg_482) (fun _ h9 => h9) rfl dX7_image_26 ?_
  refine rw_vS (X := []) (Y := []) (n := 2) (As := [.ref (g 13), .ref (g 20)]) ⟨hx, hb, hml, hown, hts⟩ (c_X7_copy l D cI _ (mW h g cI J hz (updF G 19 (cpyF (G 11) (G 19) 20))) (g 13) (g 20) 6 8 32 ((updF G 19 (cpyF (G 11) (G 19) 20)) 13) ((updF G 19 (cpyF (G 11) (G 19) 20)) 20) (by decide) rfl rfl (by decide)) (cwS 2 hts (gS mg_566 mg_567 mg_8 mg_568) rfl rfl rfl vd_X7_copy ⟨Nat.le_of_ble_eq_true rfl, Nat.le_of_ble_eq_true rfl⟩)  hK hP hD hS hA rfl hl.1 rfl (Nat.le_of_ble_eq_true rfl) dX7_image_29 ⟨Nat.zero_le _, Nat.zero_le _⟩ (fun u_4 H locs w_5 hP hD hS => ?_)
  have hP : va_P D vwCl (mW h g cI J hz (updF (updF G 19 (cpyF (G 11) (G 19) 20)) 20 (cpyF ((updF G 19 (cpyF (G 11) (G 19) 20)) 13) ((updF G 19 (cpyF (G 11) (G 19) 20)) 20) 32))) H := hP
  have hD : va_D A (mW h g cI J hz (updF (updF G 19 (cpyF (G 11) (G 19) 20)) 20 (cpyF ((updF G 19 (cpyF (G 11) (G 19) 20)) 13) ((updF G 19 (cpyF (G 11) (G 19) 20)) 20) 32))) := hD
  refine lv_aload_n hx hb dX7_image_32 rfl (lv_at hl 0 rfl) ?_
  refine lv_aload_n hx hb dX7_image_33 rfl (lv_at hl 0 rfl) ?_
  refine va_get (D := D) (ci := 7) (v := .int (nI q.1)) (C := RX7) (T := TX7) (N := 22) hx hb hts iX7 hown hK hP 0 rfl rfl 7 (by decide) (hts _ mg_469) (fun _ h9 => h9) (congrArg (fun z => some (Value.int z)) (MR_7 hM)) dX7_image_34 ?_
  refine va_put (D := D) (ci := 7) (v := .int (nI q.1)) (ty := .int) (C := RX7) (T := TX7) (N := 22) hx hb hts iX7 tyX7 tyX7_ok nmX7 hown hK hP hD hS 0 rfl rfl 16 (by decide) (hts _ mg_478) (fun _ h9 => h9) rfl (tyX7_ok 16 (by decide)) rfl rfl (Nat.le_of_ble_eq_true rfl) dX7_image_37 (fun H locs hP hD hS => ?_)
  have hP : va_P D vwCl (mW h g cI (upd J 16 (nI q.1)) hz (updF (updF G 19 (cpyF (G 11) (G 19) 20)) 20 (cpyF ((updF G 19 (cpyF (G 11) (G 19) 20)) 13) ((updF G 19 (cpyF (G 11) (G 19) 20)) 20) 32))) H := hP
  have hD : va_D A (mW h g cI (upd J 16 (nI q.1)) hz (updF (updF G 19 (cpyF (G 11) (G 19) 20)) 20 (cpyF ((updF G 19 (cpyF (G 11) (G 19) 20)) 13) ((updF G 19 (cpyF (G 11) (G 19) 20)) 20) 32))) := hD
  refine lv_aload_n hx hb dX7_image_40 rfl (lv_at hl 0 rfl) ?_
  refine lv_aload_n hx hb dX7_image_41 rfl (lv_at hl 0 rfl) ?_
  refine va_get (D := D) (ci := 7) (v := .int q.2.2.1) (C := RX7) (T := TX7) (N := 22) hx hb hts iX7 hown hK hP 0 rfl rfl 8 (by decide) (hts _ mg_470) (fun _ h9 => h9) (congrArg (fun z => some (Value.int z)) (MR_8 hM)) dX7_image_42 ?_
  refine va_put (D := D) (ci := 7) (v := .int q.2.2.1) (ty := .int) (C := RX7) (T := TX7) (N := 22) hx hb hts iX7 tyX7 tyX7_ok nmX7 hown hK hP hD hS 0 rfl rfl 17 (by decide) (hts _ mg_479) (fun _ h9 => h9) rfl (tyX7_ok 17 (by decide)) rfl rfl (Nat.le_of_ble_eq_true rfl) dX7_image_45 (fun H locs hP hD hS => ?_)
  have hP : va_P D vwCl (mW h g cI (upd (upd J 16 (nI q.1)) 17 q.2.2.1) hz (updF (updF G 19 (cpyF (G 11) (G 19) 20)) 20 (cpyF ((updF G 19 (cpyF (G 11) (G 19) 20)) 13) ((updF G 19 (cpyF (G 11) (G 19) 20)) 20) 32))) H := hP
  have hD : va_D A (mW h g cI (upd (upd J 16 (nI q.1)) 17 q.2.2.1) hz (updF (updF G 19 (cpyF (G 11) (G 19) 20)) 20 (cpyF ((updF G 19 (cpyF (G 11) (G 19) 20)) 13) ((updF G 19 (cpyF (G 11) (G 19) 20)) 20) 32))) := hD
  refine lv_aload_n hx hb dX7_image_48 rfl (lv_at hl 0 rfl) ?_
  refine lv_aload_n hx hb dX7_image_49 rfl (lv_at hl 0 rfl) ?_
  refine va_get (D := D) (ci := 7) (v := .int (nI q.2.1)) (C := RX7) (T := TX7) (N := 22) hx hb hts iX7 hown hK hP 0 rfl rfl 12 (by decide) (hts _ mg_474) (fun _ h9 => h9) (congrArg (fun z => some (Value.int z)) (MR_12 hM)) dX7_image_50 ?_
  refine va_put (D := D) (ci := 7) (v := .int (nI q.2.1)) (ty := .int) (C := RX7) (T := TX7) (N := 22) hx hb hts iX7 tyX7 tyX7_ok nmX7 hown hK hP hD hS 0 rfl rfl 18 (by decide) (hts _ mg_480) (fun _ h9 => h9) rfl (tyX7_ok 18 (by decide)) rfl rfl (Nat.le_of_ble_eq_true rfl) dX7_image_53 (fun H locs hP hD hS => ?_)
  have hP : va_P D vwCl (mW h g cI (upd (upd (upd J 16 (nI q.1)) 17 q.2.2.1) 18 (nI q.2.1)) hz (updF (updF G 19 (cpyF (G 11) (G 19) 20)) 20 (cpyF ((updF G 19 (cpyF (G 11) (G 19) 20)) 13) ((updF G 19 (cpyF (G 11) (G 19) 20)) 20) 32))) H := hP
  have hD : va_D A (mW h g cI (upd (upd (upd J 16 (nI q.1)) 17 q.2.2.1) 18 (nI q.2.1)) hz (updF (updF G 19 (cpyF (G 11) (G 19) 20)) 20 (cpyF ((updF G 19 (cpyF (G 11) (G 19) 20)) 13) ((updF G 19 (cpyF (G 11) (G 19) 20)) 20) 32))) := hD
  refine lv_aload_n hx hb dX7_image_56 rfl (lv_at hl 0 rfl) ?_
  refine lv_aload_n hx hb dX7_image_57 rfl (lv_at hl 0 rfl) ?_
  refine va_get (D := D) (ci := 7) (v := .int (nI xr)) (C := RX7) (T := TX7) (N := 22) hx hb hts iX7 hown hK hP 0 rfl rfl 9 (by decide) (hts _ mg_471) (fun _ h9 => h9) (congrArg (fun z => some (Value.int z)) hF.2.2.1) dX7_image_58 ?_
  refine va_put (D := D) (ci := 7) (v := .int (nI xr)) (ty := .int) (C := RX7) (T := TX7) (N := 22) hx hb hts iX7 tyX7 tyX7_ok nmX7 hown hK hP hD hS 0 rfl rfl 15 (by decide) (hts _ mg_477) (fun _ h9 => h9) rfl (tyX7_ok 15 (by decide)) rfl rfl (Nat.le_of_ble_eq_true rfl) dX7_image_61 (fun H locs hP hD hS => ?_)
  have hP : va_P D vwCl (mW h g cI (upd (upd (upd (upd J 16 (nI q.1)) 17 q.2.2.1) 18 (nI q.2.1)) 15 (nI xr)) hz (updF (updF G 19 (cpyF (G 11) (G 19) 20)) 20 (cpyF ((updF G 19 (cpyF (G 11) (G 19) 20)) 13) ((updF G 19 (cpyF (G 11) (G 19) 20)) 20) 32))) H := hP
  have hD : va_D A (mW h g cI (upd (upd (upd (upd J 16 (nI q.1)) 17 q.2.2.1) 18 (nI q.2.1)) 15 (nI xr)) hz (updF (updF G 19 (cpyF (G 11) (G 19) 20)) 20 (cpyF ((updF G 19 (cpyF (G 11) (G 19) 20)) 13) ((updF G 19 (cpyF (G 11) (G 19) 20)) 20) 32))) := hD
  refine lv_aload_n hx hb dX7_image_64 rfl (lv_at hl 0 rfl) ?_
  refine va_get (D := D) (ci := 7) (v := .int q.2.2.1) (C := RX7) (T := TX7) (N := 22) hx hb hts iX7 hown hK hP 0 rfl rfl 8 (by decide) (hts _ mg_470) (fun _ h9 => h9) (congrArg (fun z => some (Value.int z)) (MR_8 hM)) dX7_image_65 ?_
  exact rw_iret (wp := (fun u => mW h g cI u.1 hz u.2)) (post := (fun (r : Int32) (u : (Nat → Int32) × (Nat → Nat → Int32)) => r = q.2.2.1 ∧ MF b pn xr 1 pc q (imK q kq) u.1 u.2)) (upd (upd (upd (upd J 16 (nI q.1)) 17 q.2.2.1) 18 (nI q.2.1)) 15 (nI xr), updF (updF G 19 (cpyF (G 11) (G 19) 20)) 20 (cpyF ((updF G 19 (cpyF (G 11) (G 19) 20)) 13) ((updF G 19 (cpyF (G 11) (G 19) 20)) 20) 32)) hx hb hr hlocks hK hP hD hS (rfl) (⟨rfl, ⟨hM, hF.2.1, hF.2.2.1, hF.2.2.2.1, fun _ => ⟨rfl, rfl, rfl, rfl, kr_row hM.2.2.2.2.1 (show 4 * q.1 ≤ 20 by omega), kr_row hM.2.2.2.2.2 (show 4 * q.2.1 ≤ 32 by omega)⟩, fun z => absurd z (by decide)⟩⟩) dX7_image_68

set_option maxHeartbeats 4000000 in
set_option maxRecDepth 100000 in
theorem c_X7_restore0 (l : Launch) (D : va_G) (h : Nat) (g : Nat → Nat) (cI : ClassId) (sz : Nat) (J : Nat → Int32) (hz : Int64) (G : Nat → Nat → Int32) (b : Nat → Nat → Nat) (pn xr xi : Nat) (pc : Nat → Int32) (q kq : RS) (hF : MF b pn xr xi pc q kq J G) (hokz : ¬ q.1 = 0 → hok b) (hT : Tok q) (h0 : xi = 0) (hxr : xr < 1000) : WI l yX7_restore (wA yX7_restore cX7_restore 1 (some .int)) ({ frames := 1, cells := 0, slots := 0, locals := 22 }) D (iTys cI) (mW h g cI J hz G) sz [.ref h] (fun (r : Int32) (u : (Nat → Int32) × (Nat → Nat → Int32)) => r = -103 ∧ MF b pn xr xi pc q kq u.1 u.2) (fun u => mW h g cI u.1 hz u.2) := by
  refine rw_startI (by decide) (Nat.le_of_ble_eq_true rfl) ?_
  intro p e s m args below meth c ls A F hP hK hD hA hS hl
  obtain ⟨hx, hb, hr, hlocks, hml, hown, hts⟩ := F
  have hown : s.vm.findClass RX7 = some m.cls := hown
  have hl : lv_has ls 1 [(0, .ref h)] := hl
  have hM := hF.1
  have ht5 := hT.1
  have ht8 := hT.2.1
  have h15 := hF.2.2.2.2.2 h0
  refine lv_aload_n hx hb dX7_restore_0 rfl (lv_at hl 0 rfl) ?_
  refine va_get (D := D) (ci := 7) (v := .int (J 15)) (C := RX7) (T := TX7) (N := 22) hx hb hts iX7 hown hK hP 0 rfl rfl 15 (by decide) (hts _ mg_477) (fun _ h9 => h9) rfl dX7_restore_1 ?_
  refine lv_aload_n hx hb dX7_restore_4 rfl (lv_at hl 0 rfl) ?_
  refine va_get (D := D) (ci := 7) (v := .int (nI xr)) (C := RX7) (T := TX7) (N := 22) hx hb hts iX7 hown hK hP 0 rfl rfl 9 (by decide) (hts _ mg_471) (fun _ h9 => h9) (congrArg (fun z => some (Value.int z)) hF.2.2.1) dX7_restore_5 ?_
  refine j_icmp_eq (tgt := 14) hx hb dX7_restore_8 (by decide) rfl (nI_toInt (by omega)) (fun c_1 => absurd c_1 (by omega)) (fun c_1 => ?_)
  refine lv_bipush (v := (-103)) hx hb dX7_restore_11 (by decide) ?_
  exact rw_iret (wp := (fun u => mW h g cI u.1 hz u.2)) (post := (fun (r : Int32) (u : (Nat → Int32) × (Nat → Nat → Int32)) => r = -103 ∧ MF b pn xr xi pc q kq u.1 u.2)) (J, G) hx hb hr hlocks hK hP hD hS (rfl) (⟨rfl, hF⟩) dX7_restore_13

set_option maxHeartbeats 4000000 in
set_option maxRecDepth 100000 in
theorem c_X7_restore1 (l : Launch) (D : va_G) (h : Nat) (g : Nat → Nat) (cI : ClassId) (sz : Nat) (J : Nat → Int32) (hz : Int64) (G : Nat → Nat → Int32) (b : Nat → Nat → Nat) (pn xr xi : Nat) (pc : Nat → Int32) (q kq : RS) (hF : MF b pn xr xi pc q kq J G) (hokz : ¬ q.1 = 0 → hok b) (hT : Tok q) (h0 : xi = 1) (hTk : Tok kq) (hxr : xr < 1000) : WI l yX7_restore (wA yX7_restore cX7_restore 1 (some .int)) ({ frames := 1, cells := 0, slots := 0, locals := 22 }) D (iTys cI) (mW h g cI J hz G) sz [.ref h] (fun (r : Int32) (u : (Nat → Int32) × (Nat → Nat → Int32)) => r = kq.2.2.1 ∧ MF b pn xr xi pc (imK kq q) kq u.1 u.2) (fun u => mW h g cI u.1 hz u.2) := by
  refine rw_startI (by decide) (Nat.le_of_ble_eq_true rfl) ?_
  intro p e s m args below meth c ls A F hP hK hD hA hS hl
  obtain ⟨hx, hb, hr, hlocks, hml, hown, hts⟩ := F
  have hown : s.vm.findClass RX7 = some m.cls := hown
  have hl : lv_has ls 1 [(0, .ref h)] := hl
  have hM := hF.1
  have ht5 := hT.1
  have ht8 := hT.2.1
  obtain ⟨h15, hK9⟩ := hF.2.2.2.2.1 h0
  have hk5 := hTk.1
  have hk8 := hTk.2.1
  refine lv_aload_n hx hb dX7_restore_0 rfl (lv_at hl 0 rfl) ?_
  refine va_get (D := D) (ci := 7) (v := .int (nI xr)) (C := RX7) (T := TX7) (N := 22) hx hb hts iX7 hown hK hP 0 rfl rfl 15 (by decide) (hts _ mg_477) (fun _ h9 => h9) (congrArg (fun z => some (Value.int z)) h15) dX7_restore_1 ?_
  refine lv_aload_n hx hb dX7_restore_4 rfl (lv_at hl 0 rfl) ?_
  refine va_get (D := D) (ci := 7) (v := .int (nI xr)) (C := RX7) (T := TX7) (N := 22) hx hb hts iX7 hown hK hP 0 rfl rfl 9 (by decide) (hts _ mg_471) (fun _ h9 => h9) (congrArg (fun z => some (Value.int z)) hF.2.2.1) dX7_restore_5 ?_
  refine j_icmp_eq (tgt := 14) hx hb dX7_restore_8 (by decide) (nI_toInt (by omega)) (nI_toInt (by omega)) (fun c_1 => ?_) (fun c_1 => absurd c_1 (by omega))
  refine lv_aload_n hx hb dX7_restore_14 rfl (lv_at hl 0 rfl) ?_
  refine va_get (D := D) (ci := 7) (v := .ref (g 19)) (C := RX7) (T := TX7) (N := 22) hx hb hts iX7 hown hK hP 0 rfl rfl 19 (by decide) (hts _ mg_481) (fun _ h9 => h9) rfl dX7_restore_15 ?_
  refine lv_aload_n hx hb dX7_restore_18 rfl (lv_at hl 0 rfl) ?_
  refine va_get (D := D) (ci := 7) (v := .ref (g 11)) (C := RX7) (T := TX7) (N := 22) hx hb hts iX7 hown hK hP 0 rfl rfl 11 (by decide) (hts _ mg_473) (fun _ h9 => h9) rfl dX7_restore_19 ?_
  refine rw_vS (X := []) (Y := []) (n := 2) (As := [.ref (g 19), .ref (g 11)]) ⟨hx, hb, hml, hown, hts⟩ (c_X7_copy l D cI _ (mW h g cI J hz G) (g 19) (g 11) 7 5 20 (G 19) (G 11) (by decide) rfl rfl (by decide)) (cwS 2 hts (gS mg_566 mg_567 mg_8 mg_568) rfl rfl rfl vd_X7_copy ⟨Nat.le_of_ble_eq_true rfl, Nat.le_of_ble_eq_true rfl⟩)  hK hP hD hS hA rfl hl.1 rfl (Nat.le_of_ble_eq_true rfl) dX7_restore_22 ⟨Nat.zero_le _, Nat.zero_le _⟩ (fun u_2 H locs w_3 hP hD hS => ?_)
  have hP : va_P D vwCl (mW h g cI J hz (updF G 11 (cpyF (G 19) (G 11) 20))) H := hP
  have hD : va_D A (mW h g cI J hz (updF G 11 (cpyF (G 19) (G 11) 20))) := hD
  refine lv_aload_n hx hb dX7_restore_25 rfl (lv_at hl 0 rfl) ?_
  refine va_get (D := D) (ci := 7) (v := .ref (g 20)) (C := RX7) (T := TX7) (N := 22) hx hb hts iX7 hown hK hP 0 rfl rfl 20 (by decide) (hts _ mg_482) (fun _ h9 => h9) rfl dX7_restore_26 ?_
  refine lv_aload_n hx hb dX7_restore_29 rfl (lv_at hl 0 rfl) ?_
  refine va_get (D := D) (ci := 7) (v := .ref (g 13)) (C := RX7) (T := TX7) (N := 22) hx hb hts iX7 hown hK hP 0 rfl rfl 13 (by decide) (hts _ mg_475) (fun _ h9 => h9) rfl dX7_restore_30 ?_
  refine rw_vS (X := []) (Y := []) (n := 2) (As := [.ref (g 20), .ref (g 13)]) ⟨hx, hb, hml, hown, hts⟩ (c_X7_copy l D cI _ (mW h g cI J hz (updF G 11 (cpyF (G 19) (G 11) 20))) (g 20) (g 13) 8 6 32 ((updF G 11 (cpyF (G 19) (G 11) 20)) 20) ((updF G 11 (cpyF (G 19) (G 11) 20)) 13) (by decide) rfl rfl (by decide)) (cwS 2 hts (gS mg_566 mg_567 mg_8 mg_568) rfl rfl rfl vd_X7_copy ⟨Nat.le_of_ble_eq_true rfl, Nat.le_of_ble_eq_true rfl⟩)  hK hP hD hS hA rfl hl.1 rfl (Nat.le_of_ble_eq_true rfl) dX7_restore_33 ⟨Nat.zero_le _, Nat.zero_le _⟩ (fun u_4 H locs w_5 hP hD hS => ?_)
  have hP : va_P D vwCl (mW h g cI J hz (updF (updF G 11 (cpyF (G 19) (G 11) 20)) 13 (cpyF ((updF G 11 (cpyF (G 19) (G 11) 20)) 20) ((updF G 11 (cpyF (G 19) (G 11) 20)) 13) 32))) H := hP
  have hD : va_D A (mW h g cI J hz (updF (updF G 11 (cpyF (G 19) (G 11) 20)) 13 (cpyF ((updF G 11 (cpyF (G 19) (G 11) 20)) 20) ((updF G 11 (cpyF (G 19) (G 11) 20)) 13) 32))) := hD
  refine lv_aload_n hx hb dX7_restore_36 rfl (lv_at hl 0 rfl) ?_
  refine lv_aload_n hx hb dX7_restore_37 rfl (lv_at hl 0 rfl) ?_
  refine va_get (D := D) (ci := 7) (v := .int (nI kq.1)) (C := RX7) (T := TX7) (N := 22) hx hb hts iX7 hown hK hP 0 rfl rfl 16 (by decide) (hts _ mg_478) (fun _ h9 => h9) (congrArg (fun z => some (Value.int z)) hK9.1) dX7_restore_38 ?_
  refine va_put (D := D) (ci := 7) (v := .int (nI kq.1)) (ty := .int) (C := RX7) (T := TX7) (N := 22) hx hb hts iX7 tyX7 tyX7_ok nmX7 hown hK hP hD hS 0 rfl rfl 7 (by decide) (hts _ mg_469) (fun _ h9 => h9) rfl (tyX7_ok 7 (by decide)) rfl rfl (Nat.le_of_ble_eq_true rfl) dX7_restore_41 (fun H locs hP hD hS => ?_)
  have hP : va_P D vwCl (mW h g cI (upd J 7 (nI kq.1)) hz (updF (updF G 11 (cpyF (G 19) (G 11) 20)) 13 (cpyF ((updF G 11 (cpyF (G 19) (G 11) 20)) 20) ((updF G 11 (cpyF (G 19) (G 11) 20)) 13) 32))) H := hP
  have hD : va_D A (mW h g cI (upd J 7 (nI kq.1)) hz (updF (updF G 11 (cpyF (G 19) (G 11) 20)) 13 (cpyF ((updF G 11 (cpyF (G 19) (G 11) 20)) 20) ((updF G 11 (cpyF (G 19) (G 11) 20)) 13) 32))) := hD
  refine lv_aload_n hx hb dX7_restore_44 rfl (lv_at hl 0 rfl) ?_
  refine lv_aload_n hx hb dX7_restore_45 rfl (lv_at hl 0 rfl) ?_
  refine va_get (D := D) (ci := 7) (v := .int kq.2.2.1) (C := RX7) (T := TX7) (N := 22) hx hb hts iX7 hown hK hP 0 rfl rfl 17 (by decide) (hts _ mg_479) (fun _ h9 => h9) (congrArg (fun z => some (Value.int z)) hK9.2.1) dX7_restore_46 ?_
  refine va_put (D := D) (ci := 7) (v := .int kq.2.2.1) (ty := .int) (C := RX7) (T := TX7) (N := 22) hx hb hts iX7 tyX7 tyX7_ok nmX7 hown hK hP hD hS 0 rfl rfl 8 (by decide) (hts _ mg_470) (fun _ h9 => h9) rfl (tyX7_ok 8 (by decide)) rfl rfl (Nat.le_of_ble_eq_true rfl) dX7_restore_49 (fun H locs hP hD hS => ?_)
  have hP : va_P D vwCl (mW h g cI (upd (upd J 7 (nI kq.1)) 8 kq.2.2.1) hz (updF (updF G 11 (cpyF (G 19) (G 11) 20)) 13 (cpyF ((updF G 11 (cpyF (G 19) (G 11) 20)) 20) ((updF G 11 (cpyF (G 19) (G 11) 20)) 13) 32))) H := hP
  have hD : va_D A (mW h g cI (upd (upd J 7 (nI kq.1)) 8 kq.2.2.1) hz (updF (updF G 11 (cpyF (G 19) (G 11) 20)) 13 (cpyF ((updF G 11 (cpyF (G 19) (G 11) 20)) 20) ((updF G 11 (cpyF (G 19) (G 11) 20)) 13) 32))) := hD
  refine lv_aload_n hx hb dX7_restore_52 rfl (lv_at hl 0 rfl) ?_
  refine lv_aload_n hx hb dX7_restore_53 rfl (lv_at hl 0 rfl) ?_
  refine va_get (D := D) (ci := 7) (v := .int (nI kq.2.1)) (C := RX7) (T := TX7) (N := 22) hx hb hts iX7 hown hK hP 0 rfl rfl 18 (by decide) (hts _ mg_480) (fun _ h9 => h9) (congrArg (fun z => some (Value.int z)) hK9.2.2.1) dX7_restore_54 ?_
  refine va_put (D := D) (ci := 7) (v := .int (nI kq.2.1)) (ty := .int) (C := RX7) (T := TX7) (N := 22) hx hb hts iX7 tyX7 tyX7_ok nmX7 hown hK hP hD hS 0 rfl rfl 12 (by decide) (hts _ mg_474) (fun _ h9 => h9) rfl (tyX7_ok 12 (by decide)) rfl rfl (Nat.le_of_ble_eq_true rfl) dX7_restore_57 (fun H locs hP hD hS => ?_)
  have hP : va_P D vwCl (mW h g cI (upd (upd (upd J 7 (nI kq.1)) 8 kq.2.2.1) 12 (nI kq.2.1)) hz (updF (updF G 11 (cpyF (G 19) (G 11) 20)) 13 (cpyF ((updF G 11 (cpyF (G 19) (G 11) 20)) 20) ((updF G 11 (cpyF (G 19) (G 11) 20)) 13) 32))) H := hP
  have hD : va_D A (mW h g cI (upd (upd (upd J 7 (nI kq.1)) 8 kq.2.2.1) 12 (nI kq.2.1)) hz (updF (updF G 11 (cpyF (G 19) (G 11) 20)) 13 (cpyF ((updF G 11 (cpyF (G 19) (G 11) 20)) 20) ((updF G 11 (cpyF (G 19) (G 11) 20)) 13) 32))) := hD
  refine lv_aload_n hx hb dX7_restore_60 rfl (lv_at hl 0 rfl) ?_
  refine va_get (D := D) (ci := 7) (v := .int ((upd (upd (upd J 7 (nI kq.1)) 8 kq.2.2.1) 12 (nI kq.2.1)) 8)) (C := RX7) (T := TX7) (N := 22) hx hb hts iX7 hown hK hP 0 rfl rfl 8 (by decide) (hts _ mg_470) (fun _ h9 => h9) rfl dX7_restore_61 ?_
  exact rw_iret (wp := (fun u => mW h g cI u.1 hz u.2)) (post := (fun (r : Int32) (u : (Nat → Int32) × (Nat → Nat → Int32)) => r = kq.2.2.1 ∧ MF b pn xr xi pc (imK kq q) kq u.1 u.2)) (upd (upd (upd J 7 (nI kq.1)) 8 kq.2.2.1) 12 (nI kq.2.1), updF (updF G 11 (cpyF (G 19) (G 11) 20)) 13 (cpyF ((updF G 11 (cpyF (G 19) (G 11) 20)) 20) ((updF G 11 (cpyF (G 19) (G 11) 20)) 13) 32)) hx hb hr hlocks hK hP hD hS (rfl) (⟨rfl, ⟨⟨rfl, rfl, rfl, hM.2.2.2.1, kr_row hK9.2.2.2.1 (show 4 * kq.1 ≤ 20 by omega), kr_row hK9.2.2.2.2 (show 4 * kq.2.1 ≤ 32 by omega)⟩, hF.2⟩⟩) dX7_restore_64

set_option maxHeartbeats 4000000 in
set_option maxRecDepth 100000 in
theorem c_X7_draw (l : Launch) (D : va_G) (h : Nat) (g : Nat → Nat) (cI : ClassId) (sz : Nat) (J : Nat → Int32) (hz : Int64) (G : Nat → Nat → Int32) (z : Nat) (hz9 : z < 2 ^ 31) (h14 : J 14 = nI z) : WI l yX7_draw (wA yX7_draw cX7_draw 2 (some .int)) ({ frames := 0, cells := 0, slots := 0, locals := 0 }) D (iTys cI) (mW h g cI J hz G) sz [.ref h, .int (nI 8)] (fun (r : Int32) (_ : Unit) => r = nI (nxs z / 65536 % 8)) (fun _ : Unit => mW h g cI (upd J 14 (nI (nxs z))) hz G) := by
  refine rw_startI (by decide) (Nat.le_of_ble_eq_true rfl) ?_
  intro p e s m args below meth c ls A F hP hK hD hA hS hl
  obtain ⟨hx, hb, hr, hlocks, hml, hown, hts⟩ := F
  have hown : s.vm.findClass RX7 = some m.cls := hown
  have hl : lv_has ls 2 [(0, .ref h), (1, .int (nI 8))] := hl
  have hz8 := nxs_lt z
  refine lv_aload_n hx hb dX7_draw_0 rfl (lv_at hl 0 rfl) ?_
  refine lv_ldc2 (v := (1103515245 : Int64)) hx hb hown (hts _ mg_700) dX7_draw_1 ?_
  refine lv_aload_n hx hb dX7_draw_4 rfl (lv_at hl 0 rfl) ?_
  refine va_get (D := D) (ci := 7) (v := .int (nI z)) (C := RX7) (T := TX7) (N := 22) hx hb hts iX7 hown hK hP 0 rfl rfl 14 (by decide) (hts _ mg_476) (fun _ h9 => h9) (congrArg (fun z => some (Value.int z)) h14) dX7_draw_5 ?_
  refine lv_i2l (v := lN z) hx hb dX7_draw_8 (nI_l (by omega)) ?_
  refine lv_lmul hx hb dX7_draw_9 ?_
  refine lv_ldc2 (v := (12345 : Int64)) hx hb hown (hts _ mg_701) dX7_draw_10 ?_
  refine lv_ladd hx hb dX7_draw_13 ?_
  refine lv_ldc2 (v := (2147483647 : Int64)) hx hb hown (hts _ mg_702) dX7_draw_14 ?_
  refine lv_land hx hb dX7_draw_17 ?_
  refine lv_l2i (v := ((((1103515245 : Int64) * (lN z)) + (12345 : Int64)) &&& (2147483647 : Int64)).toInt32) hx hb dX7_draw_18 rfl ?_
  refine n_top (y := nI (nxs z)) nxs_eq2 ?_
  refine va_put (D := D) (ci := 7) (v := .int (nI (nxs z))) (ty := .int) (C := RX7) (T := TX7) (N := 22) hx hb hts iX7 tyX7 tyX7_ok nmX7 hown hK hP hD hS 0 rfl rfl 14 (by decide) (hts _ mg_476) (fun _ h9 => h9) rfl (tyX7_ok 14 (by decide)) rfl rfl (Nat.le_of_ble_eq_true rfl) dX7_draw_19 (fun H locs hP hD hS => ?_)
  have hP : va_P D vwCl (mW h g cI (upd J 14 (nI (nxs z))) hz G) H := hP
  have hD : va_D A (mW h g cI (upd J 14 (nI (nxs z))) hz G) := hD
  refine lv_aload_n hx hb dX7_draw_22 rfl (lv_at hl 0 rfl) ?_
  refine va_get (D := D) (ci := 7) (v := .int (nI (nxs z))) (C := RX7) (T := TX7) (N := 22) hx hb hts iX7 hown hK hP 0 rfl rfl 14 (by decide) (hts _ mg_476) (fun _ h9 => h9) (congrArg (fun z => some (Value.int z)) rfl) dX7_draw_23 ?_
  refine lv_ldc (v := (65536 : Int32)) hx hb hown (hts _ mg_703) dX7_draw_26 ?_
  refine n_top (y := nI 65536) (by decide) ?_
  refine n_idiv hx hb dX7_draw_28 (by omega) (by omega) (by omega) ?_
  refine lv_iload_n hx hb dX7_draw_29 rfl (lv_at hl 1 rfl) ?_
  refine n_irem hx hb dX7_draw_30 (by omega) (by omega) (by omega) ?_
  exact rw_iret (wp := (fun _ : Unit => mW h g cI (upd J 14 (nI (nxs z))) hz G)) (post := (fun (r : Int32) (_ : Unit) => r = nI (nxs z / 65536 % 8))) () hx hb hr hlocks hK hP hD hS (rfl) (rfl) dX7_draw_31

set_option maxHeartbeats 4000000 in
set_option maxRecDepth 100000 in
theorem c_X7_say (l : Launch) (D : va_G) (h : Nat) (g : Nat → Nat) (cI : ClassId) (sz : Nat) (J : Nat → Int32) (hz : Int64) (G : Nat → Nat → Int32) (v : Int64) : WV l yX7_say (wA yX7_say cX7_say 3 none) ({ frames := 0, cells := 0, slots := 0, locals := 0 }) D (iTys cI) (mW h g cI J hz G) sz [.ref h, .long v] (fun _ : Unit => True) (fun _ : Unit => mW h g cI J (31 * hz + v) G) := by
  refine rw_startV (by decide) (Nat.le_of_ble_eq_true rfl) ?_
  intro p e s m args below meth c ls A F hP hK hD hA hS hl
  obtain ⟨hx, hb, hr, hlocks, hml, hown, hts⟩ := F
  have hown : s.vm.findClass RX7 = some m.cls := hown
  have hl : lv_has ls 3 [(0, .ref h), (1, .long v)] := hl
  refine lv_aload_n hx hb dX7_say_0 rfl (lv_at hl 0 rfl) ?_
  refine lv_ldc2 (v := (31 : Int64)) hx hb hown (hts _ mg_737) dX7_say_1 ?_
  refine lv_aload_n hx hb dX7_say_4 rfl (lv_at hl 0 rfl) ?_
  refine va_get (D := D) (ci := 7) (v := .long hz) (C := RX7) (T := TX7) (N := 22) hx hb hts iX7 hown hK hP 0 rfl rfl 21 (by decide) (hts _ mg_483) (fun _ h9 => h9) rfl dX7_say_5 ?_
  refine lv_lmul hx hb dX7_say_8 ?_
  refine lv_lload_n hx hb dX7_say_9 rfl (lv_at hl 1 rfl) ?_
  refine lv_ladd hx hb dX7_say_10 ?_
  refine va_put (D := D) (ci := 7) (v := .long (((31 : Int64) * hz) + v)) (ty := .long) (C := RX7) (T := TX7) (N := 22) hx hb hts iX7 tyX7 tyX7_ok nmX7 hown hK hP hD hS 0 rfl rfl 21 (by decide) (hts _ mg_483) (fun _ h9 => h9) rfl (tyX7_ok 21 (by decide)) rfl rfl (Nat.le_of_ble_eq_true rfl) dX7_say_11 (fun H locs hP hD hS => ?_)
  have hP : va_P D vwCl (mW h g cI J (((31 : Int64) * hz) + v) G) H := hP
  have hD : va_D A (mW h g cI J (((31 : Int64) * hz) + v) G) := hD
  exact rw_vret (wp := (fun _ : Unit => mW h g cI J (31 * hz + v) G)) (post := (fun _ : Unit => True)) () hx hb hr hlocks hK hP hD hS (rfl) (trivial) dX7_say_14

set_option maxHeartbeats 4000000 in
set_option maxRecDepth 100000 in
theorem c_X7_sayTap (l : Launch) (D : va_G) (h : Nat) (g : Nat → Nat) (cI : ClassId) (sz : Nat) (J : Nat → Int32) (hz : Int64) (G : Nat → Nat → Int32) (b : Nat → Nat → Nat) (q : RS) (hM : MR b q J G) (hok9 : hok b) (hT : Tok q) (i : Nat) (hi : i < q.1) : WV l yX7_sayTap (wA yX7_sayTap cX7_sayTap 3 none) ({ frames := 5, cells := 0, slots := 0, locals := 127 }) D (iTys cI) (mW h g cI J hz G) sz [.ref h, .int (nI i)] (fun _ : Unit => True) (fun _ : Unit => mW h g cI J (dtp b q i hz) G) := by
  refine rw_startV (by decide) (Nat.le_of_ble_eq_true rfl) ?_
  intro p e s m args below meth c ls A F hP hK hD hA hS hl
  obtain ⟨hx, hb, hr, hlocks, hml, hown, hts⟩ := F
  have hown : s.vm.findClass RX7 = some m.cls := hown
  have hl : lv_has ls 3 [(0, .ref h), (1, .int (nI i))] := hl
  have ht5 := hT.1
  have ht8 := hT.2.1
  obtain ⟨hk0, hv0, hw0, hp0⟩ := hT.2.2.1 i hi
  refine lv_iconst (v := nI 0) hx hb dX7_sayTap_0 (by decide) ?_
  refine lv_istore_n (lv' := [(2, .int (nI 0)), (0, .ref h), (1, .int (nI i))]) hx hb dX7_sayTap_1 rfl hl (by decide) rfl (fun ls hl => ?_)
  have K_1 : ∀ n9 : Nat, ∀ (x : Int64) (w : Nat), w ≤ 9 → x = fo hz (fun w => (abt b q.2.2.2.1 q.2.2.2.2 q.2.1 i w).toInt64) w → 9 - w < n9 → ∀ (H : Heap) (locs : List Loc), va_P D vwCl (mW h g cI J x G) H → va_D A (mW h g cI J x G) → va_S A s.heap H locs → ∀ ls : Array Slot, lv_has ls 3 [(0, .ref h), (1, .int (nI i)), (2, .int (nI w))] → W p l e (headSpec (wA yX7_sayTap cX7_sayTap 3 none) ({ frames := 5, cells := 0, slots := 0, locals := 127 })).room s m args below meth c H locs 0 0 (MQ below (va_Qv (fun _ : Unit => True) (fun u t => wB D (iTys cI) A ((fun _ : Unit => mW h g cI J (dtp b q i hz) G) u) t) A) args s 0 0 A) (F0 m 2 ls []) := by
    intro n9
    induction n9 with
    | zero => intros; omega
    | succ n9 ih_2 =>
      intro x w hw hx0 hn9 H locs hP hD hS ls hl
      refine lv_iload_n hx hb dX7_sayTap_2 rfl (lv_at hl 2 rfl) ?_
      refine lv_bipush (v := nI 9) hx hb dX7_sayTap_3 (by decide) ?_
      refine j_icmp_ge (tgt := 25) hx hb dX7_sayTap_5 (by decide) (nI_toInt (by omega)) (nI_toInt (by decide)) (fun c_3 => ?_) (fun c_3 => ?_)
      · refine lv_iconst (v := nI 0) hx hb dX7_sayTap_25 (by decide) ?_
        refine lv_istore_n (lv' := [(2, .int (nI 0)), (0, .ref h), (1, .int (nI i))]) hx hb dX7_sayTap_26 rfl hl (by decide) rfl (fun ls hl => ?_)
        have K_4 : ∀ n9 : Nat, ∀ (y : Int64) (n : Nat), n ≤ 8 → y = fo (fo hz (fun w => (abt b q.2.2.2.1 q.2.2.2.2 q.2.1 i w).toInt64) 9) (fun n => lN (sd b (q.2.2.2.1 i 0) (q.2.2.2.1 i 2) (q.2.2.2.1 i 1) n)) n → 8 - n < n9 → ∀ (H : Heap) (locs : List Loc), va_P D vwCl (mW h g cI J y G) H → va_D A (mW h g cI J y G) → va_S A s.heap H locs → ∀ ls : Array Slot, lv_has ls 3 [(0, .ref h), (1, .int (nI i)), (2, .int (nI n))] → W p l e (headSpec (wA yX7_sayTap cX7_sayTap 3 none) ({ frames := 5, cells := 0, slots := 0, locals := 127 })).room s m args below meth c H locs 0 0 (MQ below (va_Qv (fun _ : Unit => True) (fun u t => wB D (iTys cI) A ((fun _ : Unit => mW h g cI J (dtp b q i hz) G) u) t) A) args s 0 0 A) (F0 m 27 ls []) := by
          intro n9
          induction n9 with
          | zero => intros; omega
          | succ n9 ih_5 =>
            intro y n hn hy0 hn9 H locs hP hD hS ls hl
            refine lv_iload_n hx hb dX7_sayTap_27 rfl (lv_at hl 2 rfl) ?_
            refine lv_bipush (v := nI 8) hx hb dX7_sayTap_28 (by decide) ?_
            refine j_icmp_ge (tgt := 50) hx hb dX7_sayTap_30 (by decide) (nI_toInt (by omega)) (nI_toInt (by decide)) (fun c_6 => ?_) (fun c_6 => ?_)
            · refine lv_iconst (v := nI 0) hx hb dX7_sayTap_50 (by decide) ?_
              refine lv_istore_n (lv' := [(2, .int (nI 0)), (0, .ref h), (1, .int (nI i))]) hx hb dX7_sayTap_51 rfl hl (by decide) rfl (fun ls hl => ?_)
              have K_7 : ∀ n9 : Nat, ∀ (z : Int64) (v : Nat), v ≤ 4 → z = dnr b (q.2.2.2.1 i 0) (q.2.2.2.1 i 1) (fo (fo hz (fun w => (abt b q.2.2.2.1 q.2.2.2.2 q.2.1 i w).toInt64) 9) (fun n => lN (sd b (q.2.2.2.1 i 0) (q.2.2.2.1 i 2) (q.2.2.2.1 i 1) n)) 8) v → 4 - v < n9 → ∀ (H : Heap) (locs : List Loc), va_P D vwCl (mW h g cI J z G) H → va_D A (mW h g cI J z G) → va_S A s.heap H locs → ∀ ls : Array Slot, lv_has ls 3 [(0, .ref h), (1, .int (nI i)), (2, .int (nI v))] → W p l e (headSpec (wA yX7_sayTap cX7_sayTap 3 none) ({ frames := 5, cells := 0, slots := 0, locals := 127 })).room s m args below meth c H locs 0 0 (MQ below (va_Qv (fun _ : Unit => True) (fun u t => wB D (iTys cI) A ((fun _ : Unit => mW h g cI J (dtp b q i hz) G) u) t) A) args s 0 0 A) (F0 m 52 ls []) := by
                intro n9
                induction n9 with
                | zero => intros; omega
                | succ n9 ih_8 =>
                  intro z v hv hz0 hn9 H locs hP hD hS ls hl
                  refine lv_iload_n hx hb dX7_sayTap_52 rfl (lv_at hl 2 rfl) ?_
                  refine lv_iconst (v := nI 4) hx hb dX7_sayTap_53 (by decide) ?_
                  refine j_icmp_ge (tgt := 87) hx hb dX7_sayTap_54 (by decide) (nI_toInt (by omega)) (nI_toInt (by decide)) (fun c_9 => ?_) (fun c_9 => ?_)
                  · exact rw_vret (wp := (fun _ : Unit => mW h g cI J (dtp b q i hz) G)) (post := (fun _ : Unit => True)) () hx hb hr hlocks hK hP hD hS (by rw [hz0, show v = 4 by omega]; rfl) (trivial) dX7_sayTap_87
                  · refine lv_aload_n hx hb dX7_sayTap_57 rfl (lv_at hl 0 rfl) ?_
                    refine lv_aload_n hx hb dX7_sayTap_58 rfl (lv_at hl 0 rfl) ?_
                    refine lv_iload_n hx hb dX7_sayTap_59 rfl (lv_at hl 1 rfl) ?_
                    refine lv_iload_n hx hb dX7_sayTap_60 rfl (lv_at hl 2 rfl) ?_
                    refine lv_iconst (v := nI 0) hx hb dX7_sayTap_61 (by decide) ?_
                    refine ro_iV (n := 3) (As := [.int (nI i), .int (nI v), .int (nI 0)]) ⟨hx, hb, hml, hown, hts⟩ (c_X7_nearOf l D h g cI J z G b q hM hok9 hT i hi v (by omega) 0 (by decide)) (cwV 3 hts (gV mg_673 mg_675 mg_1034 mg_8 mg_676) rfl rfl rfl vd_X7_nearOf ⟨Nat.le_of_ble_eq_true rfl, Nat.le_of_ble_eq_true rfl⟩) (va_recv hK hP (ci := 7) (q0 := 0) rfl rfl) hK hP rfl hl.1 rfl (Nat.le_of_ble_eq_true rfl) dX7_sayTap_62 ⟨Nat.zero_le _, Nat.zero_le _⟩ ?_
                    have hn9 : ner b (q.2.2.2.1 i 0) (q.2.2.2.1 i 1) v 0 ≤ 12 := ner_le _ _ _ _ _
                    refine lv_i2l (v := lN (ner b (q.2.2.2.1 i 0) (q.2.2.2.1 i 1) v 0)) hx hb dX7_sayTap_65 (nI_l (by omega)) ?_
                    refine rw_vV (X := []) (Y := []) (n := 1) (As := [.long (lN (ner b (q.2.2.2.1 i 0) (q.2.2.2.1 i 1) v 0))]) ⟨hx, hb, hml, hown, hts⟩ (c_X7_say l D h g cI _ J z G (lN (ner b (q.2.2.2.1 i 0) (q.2.2.2.1 i 1) v 0))) (cwV 1 hts (gV mg_733 mg_735 mg_1040 mg_8 mg_736) rfl rfl rfl vd_X7_say ⟨Nat.le_of_ble_eq_true rfl, Nat.le_of_ble_eq_true rfl⟩) (va_recv hK hP (ci := 7) (q0 := 0) rfl rfl) hK hP hD hS hA rfl hl.1 rfl (Nat.le_of_ble_eq_true rfl) dX7_sayTap_66 ⟨Nat.zero_le _, Nat.zero_le _⟩ (fun u_10 H locs w_11 hP hD hS => ?_)
                    have hP : va_P D vwCl (mW h g cI J (31 * z + (lN (ner b (q.2.2.2.1 i 0) (q.2.2.2.1 i 1) v 0))) G) H := hP
                    have hD : va_D A (mW h g cI J (31 * z + (lN (ner b (q.2.2.2.1 i 0) (q.2.2.2.1 i 1) v 0))) G) := hD
                    refine lv_aload_n hx hb dX7_sayTap_69 rfl (lv_at hl 0 rfl) ?_
                    refine lv_aload_n hx hb dX7_sayTap_70 rfl (lv_at hl 0 rfl) ?_
                    refine lv_iload_n hx hb dX7_sayTap_71 rfl (lv_at hl 1 rfl) ?_
                    refine lv_iload_n hx hb dX7_sayTap_72 rfl (lv_at hl 2 rfl) ?_
                    refine lv_iconst (v := nI 1) hx hb dX7_sayTap_73 (by decide) ?_
                    refine ro_iV (n := 3) (As := [.int (nI i), .int (nI v), .int (nI 1)]) ⟨hx, hb, hml, hown, hts⟩ (c_X7_nearOf l D h g cI J (31 * z + (lN (ner b (q.2.2.2.1 i 0) (q.2.2.2.1 i 1) v 0))) G b q hM hok9 hT i hi v (by omega) 1 (by decide)) (cwV 3 hts (gV mg_673 mg_675 mg_1034 mg_8 mg_676) rfl rfl rfl vd_X7_nearOf ⟨Nat.le_of_ble_eq_true rfl, Nat.le_of_ble_eq_true rfl⟩) (va_recv hK hP (ci := 7) (q0 := 0) rfl rfl) hK hP rfl hl.1 rfl (Nat.le_of_ble_eq_true rfl) dX7_sayTap_74 ⟨Nat.zero_le _, Nat.zero_le _⟩ ?_
                    have hn9 : ner b (q.2.2.2.1 i 0) (q.2.2.2.1 i 1) v 1 ≤ 12 := ner_le _ _ _ _ _
                    refine lv_i2l (v := lN (ner b (q.2.2.2.1 i 0) (q.2.2.2.1 i 1) v 1)) hx hb dX7_sayTap_77 (nI_l (by omega)) ?_
                    refine rw_vV (X := []) (Y := []) (n := 1) (As := [.long (lN (ner b (q.2.2.2.1 i 0) (q.2.2.2.1 i 1) v 1))]) ⟨hx, hb, hml, hown, hts⟩ (c_X7_say l D h g cI _ J (31 * z + (lN (ner b (q.2.2.2.1 i 0) (q.2.2.2.1 i 1) v 0))) G (lN (ner b (q.2.2.2.1 i 0) (q.2.2.2.1 i 1) v 1))) (cwV 1 hts (gV mg_733 mg_735 mg_1040 mg_8 mg_736) rfl rfl rfl vd_X7_say ⟨Nat.le_of_ble_eq_true rfl, Nat.le_of_ble_eq_true rfl⟩) (va_recv hK hP (ci := 7) (q0 := 0) rfl rfl) hK hP hD hS hA rfl hl.1 rfl (Nat.le_of_ble_eq_true rfl) dX7_sayTap_78 ⟨Nat.zero_le _, Nat.zero_le _⟩ (fun u_12 H locs w_13 hP hD hS => ?_)
                    have hP : va_P D vwCl (mW h g cI J (31 * (31 * z + (lN (ner b (q.2.2.2.1 i 0) (q.2.2.2.1 i 1) v 0))) + (lN (ner b (q.2.2.2.1 i 0) (q.2.2.2.1 i 1) v 1))) G) H := hP
                    have hD : va_D A (mW h g cI J (31 * (31 * z + (lN (ner b (q.2.2.2.1 i 0) (q.2.2.2.1 i 1) v 0))) + (lN (ner b (q.2.2.2.1 i 0) (q.2.2.2.1 i 1) v 1))) G) := hD
                    refine lv_iinc (v := nI (v + 1)) (lv' := [(2, .int (nI (v + 1))), (0, .ref h), (1, .int (nI i))]) hx hb dX7_sayTap_81 hl (k := 2) rfl (fr_inc1 _) (by decide) rfl (fun ls hl => ?_)
                    refine lv_goto (tgt := 52) hx hb dX7_sayTap_84 (by decide) ?_
                    exact ih_8 (31 * (31 * z + (lN (ner b (q.2.2.2.1 i 0) (q.2.2.2.1 i 1) v 0))) + (lN (ner b (q.2.2.2.1 i 0) (q.2.2.2.1 i 1) v 1))) (v + 1) (by omega) (by rw [hz0]; rfl) (by omega) _ _ hP hD hS _ (lv_sub hl [1, 2, 0] rfl)
              exact K_7 (4 - 0 + 1) y 0 (by omega) (by rw [hy0, show n = 8 by omega]; rfl) (Nat.lt_succ_self _) _ _ hP hD hS _ (lv_sub hl [1, 2, 0] rfl)
            · refine lv_aload_n hx hb dX7_sayTap_33 rfl (lv_at hl 0 rfl) ?_
              refine lv_aload_n hx hb dX7_sayTap_34 rfl (lv_at hl 0 rfl) ?_
              refine lv_iload_n hx hb dX7_sayTap_35 rfl (lv_at hl 1 rfl) ?_
              refine lv_iload_n hx hb dX7_sayTap_36 rfl (lv_at hl 2 rfl) ?_
              refine ro_iV (n := 2) (As := [.int (nI i), .int (nI n)]) ⟨hx, hb, hml, hown, hts⟩ (c_X7_dripOf l D h g cI J y G b q hM hok9 hT i hi n (by omega)) (cwV 2 hts (gV mg_645 mg_647 mg_1032 mg_8 mg_648) rfl rfl rfl vd_X7_dripOf ⟨Nat.le_of_ble_eq_true rfl, Nat.le_of_ble_eq_true rfl⟩) (va_recv hK hP (ci := 7) (q0 := 0) rfl rfl) hK hP rfl hl.1 rfl (Nat.le_of_ble_eq_true rfl) dX7_sayTap_37 ⟨Nat.zero_le _, Nat.zero_le _⟩ ?_
              have hd1 := sd_le hok9 (kd := q.2.2.2.1 i 0) (w := q.2.2.2.1 i 2) (n := n) (v := q.2.2.2.1 i 1) (by omega)
              refine lv_i2l (v := lN (sd b (q.2.2.2.1 i 0) (q.2.2.2.1 i 2) (q.2.2.2.1 i 1) n)) hx hb dX7_sayTap_40 (nI_l (by omega)) ?_
              refine rw_vV (X := []) (Y := []) (n := 1) (As := [.long (lN (sd b (q.2.2.2.1 i 0) (q.2.2.2.1 i 2) (q.2.2.2.1 i 1) n))]) ⟨hx, hb, hml, hown, hts⟩ (c_X7_say l D h g cI _ J y G (lN (sd b (q.2.2.2.1 i 0) (q.2.2.2.1 i 2) (q.2.2.2.1 i 1) n))) (cwV 1 hts (gV mg_733 mg_735 mg_1040 mg_8 mg_736) rfl rfl rfl vd_X7_say ⟨Nat.le_of_ble_eq_true rfl, Nat.le_of_ble_eq_true rfl⟩) (va_recv hK hP (ci := 7) (q0 := 0) rfl rfl) hK hP hD hS hA rfl hl.1 rfl (Nat.le_of_ble_eq_true rfl) dX7_sayTap_41 ⟨Nat.zero_le _, Nat.zero_le _⟩ (fun u_14 H locs w_15 hP hD hS => ?_)
              have hP : va_P D vwCl (mW h g cI J (31 * y + (lN (sd b (q.2.2.2.1 i 0) (q.2.2.2.1 i 2) (q.2.2.2.1 i 1) n))) G) H := hP
              have hD : va_D A (mW h g cI J (31 * y + (lN (sd b (q.2.2.2.1 i 0) (q.2.2.2.1 i 2) (q.2.2.2.1 i 1) n))) G) := hD
              refine lv_iinc (v := nI (n + 1)) (lv' := [(2, .int (nI (n + 1))), (0, .ref h), (1, .int (nI i))]) hx hb dX7_sayTap_44 hl (k := 2) rfl (fr_inc1 _) (by decide) rfl (fun ls hl => ?_)
              refine lv_goto (tgt := 27) hx hb dX7_sayTap_47 (by decide) ?_
              exact ih_5 (31 * y + (lN (sd b (q.2.2.2.1 i 0) (q.2.2.2.1 i 2) (q.2.2.2.1 i 1) n))) (n + 1) (by omega) (by rw [hy0]; rfl) (by omega) _ _ hP hD hS _ (lv_sub hl [1, 2, 0] rfl)
        exact K_4 (8 - 0 + 1) x 0 (by omega) (by rw [hx0, show w = 9 by omega]; rfl) (Nat.lt_succ_self _) _ _ hP hD hS _ (lv_sub hl [1, 2, 0] rfl)
      · refine lv_aload_n hx hb dX7_sayTap_8 rfl (lv_at hl 0 rfl) ?_
        refine lv_aload_n hx hb dX7_sayTap_9 rfl (lv_at hl 0 rfl) ?_
        refine lv_iload_n hx hb dX7_sayTap_10 rfl (lv_at hl 1 rfl) ?_
        refine lv_iload_n hx hb dX7_sayTap_11 rfl (lv_at hl 2 rfl) ?_
        refine ro_iV (n := 2) (As := [.int (nI i), .int (nI w)]) ⟨hx, hb, hml, hown, hts⟩ (c_X7_tell l D h g cI J x G b q hM hok9 hT i hi w (by omega)) (cwV 2 hts (gV mg_600 mg_602 mg_1023 mg_8 mg_603) rfl rfl rfl vd_X7_tell ⟨Nat.le_of_ble_eq_true rfl, Nat.le_of_ble_eq_true rfl⟩) (va_recv hK hP (ci := 7) (q0 := 0) rfl rfl) hK hP rfl hl.1 rfl (Nat.le_of_ble_eq_true rfl) dX7_sayTap_12 ⟨Nat.zero_le _, Nat.zero_le _⟩ ?_
        refine lv_i2l (v := (abt b q.2.2.2.1 q.2.2.2.2 q.2.1 i w).toInt64) hx hb dX7_sayTap_15 rfl ?_
        refine rw_vV (X := []) (Y := []) (n := 1) (As := [.long ((abt b q.2.2.2.1 q.2.2.2.2 q.2.1 i w).toInt64)]) ⟨hx, hb, hml, hown, hts⟩ (c_X7_say l D h g cI _ J x G ((abt b q.2.2.2.1 q.2.2.2.2 q.2.1 i w).toInt64)) (cwV 1 hts (gV mg_733 mg_735 mg_1040 mg_8 mg_736) rfl rfl rfl vd_X7_say ⟨Nat.le_of_ble_eq_true rfl, Nat.le_of_ble_eq_true rfl⟩) (va_recv hK hP (ci := 7) (q0 := 0) rfl rfl) hK hP hD hS hA rfl hl.1 rfl (Nat.le_of_ble_eq_true rfl) dX7_sayTap_16 ⟨Nat.zero_le _, Nat.zero_le _⟩ (fun u_16 H locs w_17 hP hD hS => ?_)
        have hP : va_P D vwCl (mW h g cI J (31 * x + ((abt b q.2.2.2.1 q.2.2.2.2 q.2.1 i w).toInt64)) G) H := hP
        have hD : va_D A (mW h g cI J (31 * x + ((abt b q.2.2.2.1 q.2.2.2.2 q.2.1 i w).toInt64)) G) := hD
        refine lv_iinc (v := nI (w + 1)) (lv' := [(2, .int (nI (w + 1))), (0, .ref h), (1, .int (nI i))]) hx hb dX7_sayTap_19 hl (k := 2) rfl (fr_inc1 _) (by decide) rfl (fun ls hl => ?_)
        refine lv_goto (tgt := 2) hx hb dX7_sayTap_22 (by decide) ?_
        exact ih_2 (31 * x + ((abt b q.2.2.2.1 q.2.2.2.2 q.2.1 i w).toInt64)) (w + 1) (by omega) (by rw [hx0]; rfl) (by omega) _ _ hP hD hS _ (lv_sub hl [1, 2, 0] rfl)
  exact K_1 (9 - 0 + 1) hz 0 (by omega) (rfl) (Nat.lt_succ_self _) _ _ hP hD hS _ (lv_sub hl [1, 2, 0] rfl)

set_option maxHeartbeats 4000000 in
set_option maxRecDepth 100000 in
theorem c_X7_digest0 (l : Launch) (D : va_G) (h : Nat) (g : Nat → Nat) (cI : ClassId) (sz : Nat) (J : Nat → Int32) (hz : Int64) (G : Nat → Nat → Int32) (b : Nat → Nat → Nat) (pn xr xi : Nat) (pc : Nat → Int32) (q kq : RS) (hF : MF b pn xr xi pc q kq J G) (hokz : ¬ q.1 = 0 → hok b) (hb4 : ∀ v, v < 4 → b v 0 ≤ 4) (hbz : q.1 = 0 → ∀ v, v < 4 → b v 0 = 0) (hT : Tok q) (h30 : pn ≤ 30) (h0 : q.1 = 0) : WL l yX7_digest (wA yX7_digest cX7_digest 3 (some .long)) ({ frames := 6, cells := 0, slots := 0, locals := 149 }) D (iTys cI) (mW h g cI J hz G) sz [.ref h] (fun (r : Int64) (_ : Int64) => r = sp_digest b q pc pn xr) (fun u : Int64 => mW h g cI J u G) := by
  refine rw_startL (by decide) (Nat.le_of_ble_eq_true rfl) ?_
  intro p e s m args below meth c ls A F hP hK hD hA hS hl
  obtain ⟨hx, hb, hr, hlocks, hml, hown, hts⟩ := F
  have hown : s.vm.findClass RX7 = some m.cls := hown
  have hl : lv_has ls 3 [(0, .ref h)] := hl
  have hM := hF.1
  have ht5 := hT.1
  have ht8 := hT.2.1
  refine lv_aload_n hx hb dX7_digest_0 rfl (lv_at hl 0 rfl) ?_
  refine lv_ldc2 (v := (1061 : Int64)) hx hb hown (hts _ mg_732) dX7_digest_1 ?_
  refine va_put (D := D) (ci := 7) (v := .long (1061 : Int64)) (ty := .long) (C := RX7) (T := TX7) (N := 22) hx hb hts iX7 tyX7 tyX7_ok nmX7 hown hK hP hD hS 0 rfl rfl 21 (by decide) (hts _ mg_483) (fun _ h9 => h9) rfl (tyX7_ok 21 (by decide)) rfl rfl (Nat.le_of_ble_eq_true rfl) dX7_digest_4 (fun H locs hP hD hS => ?_)
  have hP : va_P D vwCl (mW h g cI J (1061 : Int64) G) H := hP
  have hD : va_D A (mW h g cI J (1061 : Int64) G) := hD
  refine lv_iconst (v := nI 0) hx hb dX7_digest_7 (by decide) ?_
  refine lv_istore_n (lv' := [(1, .int (nI 0)), (0, .ref h)]) hx hb dX7_digest_8 rfl hl (by decide) rfl (fun ls hl => ?_)
  refine lv_iload_n hx hb dX7_digest_9 rfl (lv_at hl 0 rfl) ?_
  refine lv_iconst (v := nI 4) hx hb dX7_digest_10 (by decide) ?_
  refine j_icmp_ge (tgt := 64) hx hb dX7_digest_11 (by decide) (nI_toInt (by decide)) (nI_toInt (by decide)) (fun c_1 => absurd c_1 (by omega)) (fun c_1 => ?_)
  refine lv_aload_n hx hb dX7_digest_14 rfl (lv_at hl 1 rfl) ?_
  refine ro_iV (n := 0) (As := []) ⟨hx, hb, hml, hown, hts⟩ (c_X7_lacksT l D h g cI J (1061 : Int64) G q b hM hT.1 h0) (cwV 0 hts (gV mg_573 mg_575 mg_1020 mg_8 mg_576) rfl rfl rfl vd_X7_lacks ⟨Nat.le_of_ble_eq_true rfl, Nat.le_of_ble_eq_true rfl⟩) (va_recv hK hP (ci := 7) (q0 := 0) rfl rfl) hK hP rfl hl.1 rfl (Nat.le_of_ble_eq_true rfl) dX7_digest_15 ⟨Nat.zero_le _, Nat.zero_le _⟩ ?_
  refine j_if_ne (tgt := 64) hx hb dX7_digest_18 (by decide) (nI_toInt (by decide)) (fun c_2 => ?_) (fun c_2 => absurd c_2 (by omega))
  refine lv_iconst (v := nI 0) hx hb dX7_digest_64 (by decide) ?_
  refine lv_istore_n (lv' := [(1, .int (nI 0)), (0, .ref h)]) hx hb dX7_digest_65 rfl hl (by decide) rfl (fun ls hl => ?_)
  have K_3 : ∀ n9 : Nat, ∀ (x : Int64) (i : Nat), i ≤ q.1 → x = dtl b q (if q.1 = 0 then 1061 else dsy b 1061 4) i → q.1 - i < n9 → ∀ (H : Heap) (locs : List Loc), va_P D vwCl (mW h g cI J x G) H → va_D A (mW h g cI J x G) → va_S A s.heap H locs → ∀ ls : Array Slot, lv_has ls 3 [(0, .ref h), (1, .int (nI i))] → W p l e (headSpec (wA yX7_digest cX7_digest 3 (some .long)) ({ frames := 6, cells := 0, slots := 0, locals := 149 })).room s m args below meth c H locs 0 0 (MQ below (va_Ql (fun (r : Int64) (_ : Int64) => r = sp_digest b q pc pn xr) (fun u t => wB D (iTys cI) A ((fun u : Int64 => mW h g cI J u G) u) t) A) args s 0 0 A) (F0 m 66 ls []) := by
    intro n9
    induction n9 with
    | zero => intros; omega
    | succ n9 ih_4 =>
      intro x i hi hx0 hn9 H locs hP hD hS ls hl
      refine lv_iload_n hx hb dX7_digest_66 rfl (lv_at hl 1 rfl) ?_
      refine lv_aload_n hx hb dX7_digest_67 rfl (lv_at hl 0 rfl) ?_
      refine va_get (D := D) (ci := 7) (v := .int (nI q.1)) (C := RX7) (T := TX7) (N := 22) hx hb hts iX7 hown hK hP 0 rfl rfl 7 (by decide) (hts _ mg_469) (fun _ h9 => h9) (congrArg (fun z => some (Value.int z)) (MR_7 hM)) dX7_digest_68 ?_
      refine j_icmp_ge (tgt := 85) hx hb dX7_digest_71 (by decide) (nI_toInt (by omega)) (nI_toInt (by omega)) (fun c_5 => ?_) (fun c_5 => ?_)
      · refine lv_iconst (v := nI 0) hx hb dX7_digest_85 (by decide) ?_
        refine lv_istore_n (lv' := [(1, .int (nI 0)), (0, .ref h)]) hx hb dX7_digest_86 rfl hl (by decide) rfl (fun ls hl => ?_)
        have K_6 : ∀ n9 : Nat, ∀ (y : Int64) (j : Nat), j ≤ pn → y = fo (dtl b q (if q.1 = 0 then 1061 else dsy b 1061 4) q.1) (fun k => (pc k).toInt64) j → pn - j < n9 → ∀ (H : Heap) (locs : List Loc), va_P D vwCl (mW h g cI J y G) H → va_D A (mW h g cI J y G) → va_S A s.heap H locs → ∀ ls : Array Slot, lv_has ls 3 [(0, .ref h), (1, .int (nI j))] → W p l e (headSpec (wA yX7_digest cX7_digest 3 (some .long)) ({ frames := 6, cells := 0, slots := 0, locals := 149 })).room s m args below meth c H locs 0 0 (MQ below (va_Ql (fun (r : Int64) (_ : Int64) => r = sp_digest b q pc pn xr) (fun u t => wB D (iTys cI) A ((fun u : Int64 => mW h g cI J u G) u) t) A) args s 0 0 A) (F0 m 87 ls []) := by
          intro n9
          induction n9 with
          | zero => intros; omega
          | succ n9 ih_7 =>
            intro y j hj hy0 hn9 H locs hP hD hS ls hl
            refine lv_iload_n hx hb dX7_digest_87 rfl (lv_at hl 1 rfl) ?_
            refine lv_aload_n hx hb dX7_digest_88 rfl (lv_at hl 0 rfl) ?_
            refine va_get (D := D) (ci := 7) (v := .int (nI pn)) (C := RX7) (T := TX7) (N := 22) hx hb hts iX7 hown hK hP 0 rfl rfl 1 (by decide) (hts _ mg_463) (fun _ h9 => h9) (congrArg (fun z => some (Value.int z)) hF.2.1) dX7_digest_89 ?_
            refine j_icmp_ge (tgt := 112) hx hb dX7_digest_92 (by decide) (nI_toInt (by omega)) (nI_toInt (by omega)) (fun c_8 => ?_) (fun c_8 => ?_)
            · refine lv_iconst (v := nI 0) hx hb dX7_digest_112 (by decide) ?_
              refine lv_istore_n (lv' := [(1, .int (nI 0)), (0, .ref h)]) hx hb dX7_digest_113 rfl hl (by decide) rfl (fun ls hl => ?_)
              have K_9 : ∀ n9 : Nat, ∀ (z : Int64) (w : Nat), w ≤ 8 → z = fo (fo (dtl b q (if q.1 = 0 then 1061 else dsy b 1061 4) q.1) (fun k => (pc k).toInt64) pn) (fun w => (cto b q pn xr w).toInt64) w → 8 - w < n9 → ∀ (H : Heap) (locs : List Loc), va_P D vwCl (mW h g cI J z G) H → va_D A (mW h g cI J z G) → va_S A s.heap H locs → ∀ ls : Array Slot, lv_has ls 3 [(0, .ref h), (1, .int (nI w))] → W p l e (headSpec (wA yX7_digest cX7_digest 3 (some .long)) ({ frames := 6, cells := 0, slots := 0, locals := 149 })).room s m args below meth c H locs 0 0 (MQ below (va_Ql (fun (r : Int64) (_ : Int64) => r = sp_digest b q pc pn xr) (fun u t => wB D (iTys cI) A ((fun u : Int64 => mW h g cI J u G) u) t) A) args s 0 0 A) (F0 m 114 ls []) := by
                intro n9
                induction n9 with
                | zero => intros; omega
                | succ n9 ih_10 =>
                  intro z w hw hz0 hn9 H locs hP hD hS ls hl
                  refine lv_iload_n hx hb dX7_digest_114 rfl (lv_at hl 1 rfl) ?_
                  refine lv_bipush (v := nI 8) hx hb dX7_digest_115 (by decide) ?_
                  refine j_icmp_ge (tgt := 136) hx hb dX7_digest_117 (by decide) (nI_toInt (by omega)) (nI_toInt (by decide)) (fun c_11 => ?_) (fun c_11 => ?_)
                  · refine lv_aload_n hx hb dX7_digest_136 rfl (lv_at hl 0 rfl) ?_
                    refine va_get (D := D) (ci := 7) (v := .long z) (C := RX7) (T := TX7) (N := 22) hx hb hts iX7 hown hK hP 0 rfl rfl 21 (by decide) (hts _ mg_483) (fun _ h9 => h9) rfl dX7_digest_137 ?_
                    exact rw_lret (wp := (fun u : Int64 => mW h g cI J u G)) (post := (fun (r : Int64) (_ : Int64) => r = sp_digest b q pc pn xr)) z hx hb hr hlocks hK hP hD hS (rfl) (by rw [hz0, show w = 8 by omega]; rfl) dX7_digest_140
                  · refine lv_aload_n hx hb dX7_digest_120 rfl (lv_at hl 0 rfl) ?_
                    refine lv_aload_n hx hb dX7_digest_121 rfl (lv_at hl 0 rfl) ?_
                    refine lv_iload_n hx hb dX7_digest_122 rfl (lv_at hl 1 rfl) ?_
                    refine ro_iV (n := 1) (As := [.int (nI w)]) ⟨hx, hb, hml, hown, hts⟩ (c_X7_countOf l D h g cI J z G b q hM hb4 hbz hT.1 pn xr hF.2.1 hF.2.2.1 w (by omega)) (cwV 1 hts (gV mg_716 mg_718 mg_1037 mg_8 mg_719) rfl rfl rfl vd_X7_countOf ⟨Nat.le_of_ble_eq_true rfl, Nat.le_of_ble_eq_true rfl⟩) (va_recv hK hP (ci := 7) (q0 := 0) rfl rfl) hK hP rfl hl.1 rfl (Nat.le_of_ble_eq_true rfl) dX7_digest_123 ⟨Nat.zero_le _, Nat.zero_le _⟩ ?_
                    refine lv_i2l (v := (cto b q pn xr w).toInt64) hx hb dX7_digest_126 rfl ?_
                    refine rw_vV (X := []) (Y := []) (n := 1) (As := [.long ((cto b q pn xr w).toInt64)]) ⟨hx, hb, hml, hown, hts⟩ (c_X7_say l D h g cI _ J z G ((cto b q pn xr w).toInt64)) (cwV 1 hts (gV mg_733 mg_735 mg_1040 mg_8 mg_736) rfl rfl rfl vd_X7_say ⟨Nat.le_of_ble_eq_true rfl, Nat.le_of_ble_eq_true rfl⟩) (va_recv hK hP (ci := 7) (q0 := 0) rfl rfl) hK hP hD hS hA rfl hl.1 rfl (Nat.le_of_ble_eq_true rfl) dX7_digest_127 ⟨Nat.zero_le _, Nat.zero_le _⟩ (fun u_12 H locs w_13 hP hD hS => ?_)
                    have hP : va_P D vwCl (mW h g cI J (31 * z + ((cto b q pn xr w).toInt64)) G) H := hP
                    have hD : va_D A (mW h g cI J (31 * z + ((cto b q pn xr w).toInt64)) G) := hD
                    refine lv_iinc (v := nI (w + 1)) (lv' := [(1, .int (nI (w + 1))), (0, .ref h)]) hx hb dX7_digest_130 hl (k := 1) rfl (fr_inc1 _) (by decide) rfl (fun ls hl => ?_)
                    refine lv_goto (tgt := 114) hx hb dX7_digest_133 (by decide) ?_
                    exact ih_10 (31 * z + ((cto b q pn xr w).toInt64)) (w + 1) (by omega) (by rw [hz0]; rfl) (by omega) _ _ hP hD hS _ (lv_sub hl [1, 0] rfl)
              exact K_9 (8 - 0 + 1) y 0 (by omega) (by rw [hy0, show j = pn by omega]; rfl) (Nat.lt_succ_self _) _ _ hP hD hS _ (lv_sub hl [1, 0] rfl)
            · refine lv_aload_n hx hb dX7_digest_95 rfl (lv_at hl 0 rfl) ?_
              refine lv_aload_n hx hb dX7_digest_96 rfl (lv_at hl 0 rfl) ?_
              refine va_get (D := D) (ci := 7) (v := .ref (g 0)) (C := RX7) (T := TX7) (N := 22) hx hb hts iX7 hown hK hP 0 rfl rfl 0 (by decide) (hts _ mg_462) (fun _ h9 => h9) rfl dX7_digest_97 ?_
              refine lv_iload_n hx hb dX7_digest_100 rfl (lv_at hl 1 rfl) ?_
              refine n_aldi hx hb hK hP 1 0 rfl rfl (by omega) (by decide) (v := pc j) (congrFun hF.2.2.2.1 j) dX7_digest_101 ?_
              refine lv_i2l (v := (pc j).toInt64) hx hb dX7_digest_102 rfl ?_
              refine rw_vV (X := []) (Y := []) (n := 1) (As := [.long ((pc j).toInt64)]) ⟨hx, hb, hml, hown, hts⟩ (c_X7_say l D h g cI _ J y G ((pc j).toInt64)) (cwV 1 hts (gV mg_733 mg_735 mg_1040 mg_8 mg_736) rfl rfl rfl vd_X7_say ⟨Nat.le_of_ble_eq_true rfl, Nat.le_of_ble_eq_true rfl⟩) (va_recv hK hP (ci := 7) (q0 := 0) rfl rfl) hK hP hD hS hA rfl hl.1 rfl (Nat.le_of_ble_eq_true rfl) dX7_digest_103 ⟨Nat.zero_le _, Nat.zero_le _⟩ (fun u_14 H locs w_15 hP hD hS => ?_)
              have hP : va_P D vwCl (mW h g cI J (31 * y + ((pc j).toInt64)) G) H := hP
              have hD : va_D A (mW h g cI J (31 * y + ((pc j).toInt64)) G) := hD
              refine lv_iinc (v := nI (j + 1)) (lv' := [(1, .int (nI (j + 1))), (0, .ref h)]) hx hb dX7_digest_106 hl (k := 1) rfl (fr_inc1 _) (by decide) rfl (fun ls hl => ?_)
              refine lv_goto (tgt := 87) hx hb dX7_digest_109 (by decide) ?_
              exact ih_7 (31 * y + ((pc j).toInt64)) (j + 1) (by omega) (by rw [hy0]; rfl) (by omega) _ _ hP hD hS _ (lv_sub hl [1, 0] rfl)
        exact K_6 (pn - 0 + 1) x 0 (by omega) (by rw [hx0, show i = q.1 by omega]; rfl) (Nat.lt_succ_self _) _ _ hP hD hS _ (lv_sub hl [1, 0] rfl)
      · refine lv_aload_n hx hb dX7_digest_74 rfl (lv_at hl 0 rfl) ?_
        refine lv_iload_n hx hb dX7_digest_75 rfl (lv_at hl 1 rfl) ?_
        refine rw_vV (X := []) (Y := []) (n := 1) (As := [.int (nI i)]) ⟨hx, hb, hml, hown, hts⟩ (c_X7_sayTap l D h g cI _ J x G b q hM (hokz (by omega)) hT i (by omega)) (cwV 1 hts (gV mg_738 mg_740 mg_1041 mg_8 mg_741) rfl rfl rfl vd_X7_sayTap ⟨Nat.le_of_ble_eq_true rfl, Nat.le_of_ble_eq_true rfl⟩) (va_recv hK hP (ci := 7) (q0 := 0) rfl rfl) hK hP hD hS hA rfl hl.1 rfl (Nat.le_of_ble_eq_true rfl) dX7_digest_76 ⟨Nat.zero_le _, Nat.zero_le _⟩ (fun u_16 H locs w_17 hP hD hS => ?_)
        have hP : va_P D vwCl (mW h g cI J (dtp b q i x) G) H := hP
        have hD : va_D A (mW h g cI J (dtp b q i x) G) := hD
        refine lv_iinc (v := nI (i + 1)) (lv' := [(1, .int (nI (i + 1))), (0, .ref h)]) hx hb dX7_digest_79 hl (k := 1) rfl (fr_inc1 _) (by decide) rfl (fun ls hl => ?_)
        refine lv_goto (tgt := 66) hx hb dX7_digest_82 (by decide) ?_
        exact ih_4 (dtp b q i x) (i + 1) (by omega) (by rw [hx0]; rfl) (by omega) _ _ hP hD hS _ (lv_sub hl [1, 0] rfl)
  exact K_3 (q.1 - 0 + 1) (1061 : Int64) 0 (by omega) (by rw [if_pos h0]; rfl) (Nat.lt_succ_self _) _ _ hP hD hS _ (lv_sub hl [1, 0] rfl)

set_option maxHeartbeats 4000000 in
set_option maxRecDepth 100000 in
theorem c_X7_digest1 (l : Launch) (D : va_G) (h : Nat) (g : Nat → Nat) (cI : ClassId) (sz : Nat) (J : Nat → Int32) (hz : Int64) (G : Nat → Nat → Int32) (b : Nat → Nat → Nat) (pn xr xi : Nat) (pc : Nat → Int32) (q kq : RS) (hF : MF b pn xr xi pc q kq J G) (hokz : ¬ q.1 = 0 → hok b) (hb4 : ∀ v, v < 4 → b v 0 ≤ 4) (hbz : q.1 = 0 → ∀ v, v < 4 → b v 0 = 0) (hT : Tok q) (h30 : pn ≤ 30) (h0 : ¬ q.1 = 0) : WL l yX7_digest (wA yX7_digest cX7_digest 3 (some .long)) ({ frames := 6, cells := 0, slots := 0, locals := 149 }) D (iTys cI) (mW h g cI J hz G) sz [.ref h] (fun (r : Int64) (_ : Int64) => r = sp_digest b q pc pn xr) (fun u : Int64 => mW h g cI J u G) := by
  refine rw_startL (by decide) (Nat.le_of_ble_eq_true rfl) ?_
  intro p e s m args below meth c ls A F hP hK hD hA hS hl
  obtain ⟨hx, hb, hr, hlocks, hml, hown, hts⟩ := F
  have hown : s.vm.findClass RX7 = some m.cls := hown
  have hl : lv_has ls 3 [(0, .ref h)] := hl
  have hM := hF.1
  have ht5 := hT.1
  have ht8 := hT.2.1
  have hok9 := hokz h0
  refine lv_aload_n hx hb dX7_digest_0 rfl (lv_at hl 0 rfl) ?_
  refine lv_ldc2 (v := (1061 : Int64)) hx hb hown (hts _ mg_732) dX7_digest_1 ?_
  refine va_put (D := D) (ci := 7) (v := .long (1061 : Int64)) (ty := .long) (C := RX7) (T := TX7) (N := 22) hx hb hts iX7 tyX7 tyX7_ok nmX7 hown hK hP hD hS 0 rfl rfl 21 (by decide) (hts _ mg_483) (fun _ h9 => h9) rfl (tyX7_ok 21 (by decide)) rfl rfl (Nat.le_of_ble_eq_true rfl) dX7_digest_4 (fun H locs hP hD hS => ?_)
  have hP : va_P D vwCl (mW h g cI J (1061 : Int64) G) H := hP
  have hD : va_D A (mW h g cI J (1061 : Int64) G) := hD
  refine lv_iconst (v := nI 0) hx hb dX7_digest_7 (by decide) ?_
  refine lv_istore_n (lv' := [(1, .int (nI 0)), (0, .ref h)]) hx hb dX7_digest_8 rfl hl (by decide) rfl (fun ls hl => ?_)
  have K_1 : ∀ n9 : Nat, ∀ (s9 : Int64) (v : Nat), v ≤ 4 → s9 = dsy b 1061 v → 4 - v < n9 → ∀ (H : Heap) (locs : List Loc), va_P D vwCl (mW h g cI J s9 G) H → va_D A (mW h g cI J s9 G) → va_S A s.heap H locs → ∀ ls : Array Slot, lv_has ls 3 [(0, .ref h), (1, .int (nI v))] → W p l e (headSpec (wA yX7_digest cX7_digest 3 (some .long)) ({ frames := 6, cells := 0, slots := 0, locals := 149 })).room s m args below meth c H locs 0 0 (MQ below (va_Ql (fun (r : Int64) (_ : Int64) => r = sp_digest b q pc pn xr) (fun u t => wB D (iTys cI) A ((fun u : Int64 => mW h g cI J u G) u) t) A) args s 0 0 A) (F0 m 9 ls []) := by
    intro n9
    induction n9 with
    | zero => intros; omega
    | succ n9 ih_2 =>
      intro s9 v hv hs0 hn9 H locs hP hD hS ls hl
      refine lv_iload_n hx hb dX7_digest_9 rfl (lv_at hl 1 rfl) ?_
      refine lv_iconst (v := nI 4) hx hb dX7_digest_10 (by decide) ?_
      refine j_icmp_ge (tgt := 64) hx hb dX7_digest_11 (by decide) (nI_toInt (by omega)) (nI_toInt (by decide)) (fun c_3 => ?_) (fun c_3 => ?_)
      · refine lv_iconst (v := nI 0) hx hb dX7_digest_64 (by decide) ?_
        refine lv_istore_n (lv' := [(1, .int (nI 0)), (0, .ref h)]) hx hb dX7_digest_65 rfl hl (by decide) rfl (fun ls hl => ?_)
        have K_4 : ∀ n9 : Nat, ∀ (x : Int64) (i : Nat), i ≤ q.1 → x = dtl b q (if q.1 = 0 then 1061 else dsy b 1061 4) i → q.1 - i < n9 → ∀ (H : Heap) (locs : List Loc), va_P D vwCl (mW h g cI J x G) H → va_D A (mW h g cI J x G) → va_S A s.heap H locs → ∀ ls : Array Slot, lv_has ls 3 [(0, .ref h), (1, .int (nI i))] → W p l e (headSpec (wA yX7_digest cX7_digest 3 (some .long)) ({ frames := 6, cells := 0, slots := 0, locals := 149 })).room s m args below meth c H locs 0 0 (MQ below (va_Ql (fun (r : Int64) (_ : Int64) => r = sp_digest b q pc pn xr) (fun u t => wB D (iTys cI) A ((fun u : Int64 => mW h g cI J u G) u) t) A) args s 0 0 A) (F0 m 66 ls []) := by
          intro n9
          induction n9 with
          | zero => intros; omega
          | succ n9 ih_5 =>
            intro x i hi hx0 hn9 H locs hP hD hS ls hl
            refine lv_iload_n hx hb dX7_digest_66 rfl (lv_at hl 1 rfl) ?_
            refine lv_aload_n hx hb dX7_digest_67 rfl (lv_at hl 0 rfl) ?_
            refine va_get (D := D) (ci := 7) (v := .int (nI q.1)) (C := RX7) (T := TX7) (N := 22) hx hb hts iX7 hown hK hP 0 rfl rfl 7 (by decide) (hts _ mg_469) (fun _ h9 => h9) (congrArg (fun z => some (Value.int z)) (MR_7 hM)) dX7_digest_68 ?_
            refine j_icmp_ge (tgt := 85) hx hb dX7_digest_71 (by decide) (nI_toInt (by omega)) (nI_toInt (by omega)) (fun c_6 => ?_) (fun c_6 => ?_)
            · refine lv_iconst (v := nI 0) hx hb dX7_digest_85 (by decide) ?_
              refine lv_istore_n (lv' := [(1, .int (nI 0)), (0, .ref h)]) hx hb dX7_digest_86 rfl hl (by decide) rfl (fun ls hl => ?_)
              have K_7 : ∀ n9 : Nat, ∀ (y : Int64) (j : Nat), j ≤ pn → y = fo (dtl b q (if q.1 = 0 then 1061 else dsy b 1061 4) q.1) (fun k => (pc k).toInt64) j → pn - j < n9 → ∀ (H : Heap) (locs : List Loc), va_P D vwCl (mW h g cI J y G) H → va_D A (mW h g cI J y G) → va_S A s.heap H locs → ∀ ls : Array Slot, lv_has ls 3 [(0, .ref h), (1, .int (nI j))] → W p l e (headSpec (wA yX7_digest cX7_digest 3 (some .long)) ({ frames := 6, cells := 0, slots := 0, locals := 149 })).room s m args below meth c H locs 0 0 (MQ below (va_Ql (fun (r : Int64) (_ : Int64) => r = sp_digest b q pc pn xr) (fun u t => wB D (iTys cI) A ((fun u : Int64 => mW h g cI J u G) u) t) A) args s 0 0 A) (F0 m 87 ls []) := by
                intro n9
                induction n9 with
                | zero => intros; omega
                | succ n9 ih_8 =>
                  intro y j hj hy0 hn9 H locs hP hD hS ls hl
                  refine lv_iload_n hx hb dX7_digest_87 rfl (lv_at hl 1 rfl) ?_
                  refine lv_aload_n hx hb dX7_digest_88 rfl (lv_at hl 0 rfl) ?_
                  refine va_get (D := D) (ci := 7) (v := .int (nI pn)) (C := RX7) (T := TX7) (N := 22) hx hb hts iX7 hown hK hP 0 rfl rfl 1 (by decide) (hts _ mg_463) (fun _ h9 => h9) (congrArg (fun z => some (Value.int z)) hF.2.1) dX7_digest_89 ?_
                  refine j_icmp_ge (tgt := 112) hx hb dX7_digest_92 (by decide) (nI_toInt (by omega)) (nI_toInt (by omega)) (fun c_9 => ?_) (fun c_9 => ?_)
                  · refine lv_iconst (v := nI 0) hx hb dX7_digest_112 (by decide) ?_
                    refine lv_istore_n (lv' := [(1, .int (nI 0)), (0, .ref h)]) hx hb dX7_digest_113 rfl hl (by decide) rfl (fun ls hl => ?_)
                    have K_10 : ∀ n9 : Nat, ∀ (z : Int64) (w : Nat), w ≤ 8 → z = fo (fo (dtl b q (if q.1 = 0 then 1061 else dsy b 1061 4) q.1) (fun k => (pc k).toInt64) pn) (fun w => (cto b q pn xr w).toInt64) w → 8 - w < n9 → ∀ (H : Heap) (locs : List Loc), va_P D vwCl (mW h g cI J z G) H → va_D A (mW h g cI J z G) → va_S A s.heap H locs → ∀ ls : Array Slot, lv_has ls 3 [(0, .ref h), (1, .int (nI w))] → W p l e (headSpec (wA yX7_digest cX7_digest 3 (some .long)) ({ frames := 6, cells := 0, slots := 0, locals := 149 })).room s m args below meth c H locs 0 0 (MQ below (va_Ql (fun (r : Int64) (_ : Int64) => r = sp_digest b q pc pn xr) (fun u t => wB D (iTys cI) A ((fun u : Int64 => mW h g cI J u G) u) t) A) args s 0 0 A) (F0 m 114 ls []) := by
                      intro n9
                      induction n9 with
                      | zero => intros; omega
                      | succ n9 ih_11 =>
                        intro z w hw hz0 hn9 H locs hP hD hS ls hl
                        refine lv_iload_n hx hb dX7_digest_114 rfl (lv_at hl 1 rfl) ?_
                        refine lv_bipush (v := nI 8) hx hb dX7_digest_115 (by decide) ?_
                        refine j_icmp_ge (tgt := 136) hx hb dX7_digest_117 (by decide) (nI_toInt (by omega)) (nI_toInt (by decide)) (fun c_12 => ?_) (fun c_12 => ?_)
                        · refine lv_aload_n hx hb dX7_digest_136 rfl (lv_at hl 0 rfl) ?_
                          refine va_get (D := D) (ci := 7) (v := .long z) (C := RX7) (T := TX7) (N := 22) hx hb hts iX7 hown hK hP 0 rfl rfl 21 (by decide) (hts _ mg_483) (fun _ h9 => h9) rfl dX7_digest_137 ?_
                          exact rw_lret (wp := (fun u : Int64 => mW h g cI J u G)) (post := (fun (r : Int64) (_ : Int64) => r = sp_digest b q pc pn xr)) z hx hb hr hlocks hK hP hD hS (rfl) (by rw [hz0, show w = 8 by omega]; rfl) dX7_digest_140
                        · refine lv_aload_n hx hb dX7_digest_120 rfl (lv_at hl 0 rfl) ?_
                          refine lv_aload_n hx hb dX7_digest_121 rfl (lv_at hl 0 rfl) ?_
                          refine lv_iload_n hx hb dX7_digest_122 rfl (lv_at hl 1 rfl) ?_
                          refine ro_iV (n := 1) (As := [.int (nI w)]) ⟨hx, hb, hml, hown, hts⟩ (c_X7_countOf l D h g cI J z G b q hM hb4 hbz hT.1 pn xr hF.2.1 hF.2.2.1 w (by omega)) (cwV 1 hts (gV mg_716 mg_718 mg_1037 mg_8 mg_719) rfl rfl rfl vd_X7_countOf ⟨Nat.le_of_ble_eq_true rfl, Nat.le_of_ble_eq_true rfl⟩) (va_recv hK hP (ci := 7) (q0 := 0) rfl rfl) hK hP rfl hl.1 rfl (Nat.le_of_ble_eq_true rfl) dX7_digest_123 ⟨Nat.zero_le _, Nat.zero_le _⟩ ?_
                          refine lv_i2l (v := (cto b q pn xr w).toInt64) hx hb dX7_digest_126 rfl ?_
                          refine rw_vV (X := []) (Y := []) (n := 1) (As := [.long ((cto b q pn xr w).toInt64)]) ⟨hx, hb, hml, hown, hts⟩ (c_X7_say l D h g cI _ J z G ((cto b q pn xr w).toInt64)) (cwV 1 hts (gV mg_733 mg_735 mg_1040 mg_8 mg_736) rfl rfl rfl vd_X7_say ⟨Nat.le_of_ble_eq_true rfl, Nat.le_of_ble_eq_true rfl⟩) (va_recv hK hP (ci := 7) (q0 := 0) rfl rfl) hK hP hD hS hA rfl hl.1 rfl (Nat.le_of_ble_eq_true rfl) dX7_digest_127 ⟨Nat.zero_le _, Nat.zero_le _⟩ (fun u_13 H locs w_14 hP hD hS => ?_)
                          have hP : va_P D vwCl (mW h g cI J (31 * z + ((cto b q pn xr w).toInt64)) G) H := hP
                          have hD : va_D A (mW h g cI J (31 * z + ((cto b q pn xr w).toInt64)) G) := hD
                          refine lv_iinc (v := nI (w + 1)) (lv' := [(1, .int (nI (w + 1))), (0, .ref h)]) hx hb dX7_digest_130 hl (k := 1) rfl (fr_inc1 _) (by decide) rfl (fun ls hl => ?_)
                          refine lv_goto (tgt := 114) hx hb dX7_digest_133 (by decide) ?_
                          exact ih_11 (31 * z + ((cto b q pn xr w).toInt64)) (w + 1) (by omega) (by rw [hz0]; rfl) (by omega) _ _ hP hD hS _ (lv_sub hl [1, 0] rfl)
                    exact K_10 (8 - 0 + 1) y 0 (by omega) (by rw [hy0, show j = pn by omega]; rfl) (Nat.lt_succ_self _) _ _ hP hD hS _ (lv_sub hl [1, 0] rfl)
                  · refine lv_aload_n hx hb dX7_digest_95 rfl (lv_at hl 0 rfl) ?_
                    refine lv_aload_n hx hb dX7_digest_96 rfl (lv_at hl 0 rfl) ?_
                    refine va_get (D := D) (ci := 7) (v := .ref (g 0)) (C := RX7) (T := TX7) (N := 22) hx hb hts iX7 hown hK hP 0 rfl rfl 0 (by decide) (hts _ mg_462) (fun _ h9 => h9) rfl dX7_digest_97 ?_
                    refine lv_iload_n hx hb dX7_digest_100 rfl (lv_at hl 1 rfl) ?_
                    refine n_aldi hx hb hK hP 1 0 rfl rfl (by omega) (by decide) (v := pc j) (congrFun hF.2.2.2.1 j) dX7_digest_101 ?_
                    refine lv_i2l (v := (pc j).toInt64) hx hb dX7_digest_102 rfl ?_
                    refine rw_vV (X := []) (Y := []) (n := 1) (As := [.long ((pc j).toInt64)]) ⟨hx, hb, hml, hown, hts⟩ (c_X7_say l D h g cI _ J y G ((pc j).toInt64)) (cwV 1 hts (gV mg_733 mg_735 mg_1040 mg_8 mg_736) rfl rfl rfl vd_X7_say ⟨Nat.le_of_ble_eq_true rfl, Nat.le_of_ble_eq_true rfl⟩) (va_recv hK hP (ci := 7) (q0 := 0) rfl rfl) hK hP hD hS hA rfl hl.1 rfl (Nat.le_of_ble_eq_true rfl) dX7_digest_103 ⟨Nat.zero_le _, Nat.zero_le _⟩ (fun u_15 H locs w_16 hP hD hS => ?_)
                    have hP : va_P D vwCl (mW h g cI J (31 * y + ((pc j).toInt64)) G) H := hP
                    have hD : va_D A (mW h g cI J (31 * y + ((pc j).toInt64)) G) := hD
                    refine lv_iinc (v := nI (j + 1)) (lv' := [(1, .int (nI (j + 1))), (0, .ref h)]) hx hb dX7_digest_106 hl (k := 1) rfl (fr_inc1 _) (by decide) rfl (fun ls hl => ?_)
                    refine lv_goto (tgt := 87) hx hb dX7_digest_109 (by decide) ?_
                    exact ih_8 (31 * y + ((pc j).toInt64)) (j + 1) (by omega) (by rw [hy0]; rfl) (by omega) _ _ hP hD hS _ (lv_sub hl [1, 0] rfl)
              exact K_7 (pn - 0 + 1) x 0 (by omega) (by rw [hx0, show i = q.1 by omega]; rfl) (Nat.lt_succ_self _) _ _ hP hD hS _ (lv_sub hl [1, 0] rfl)
            · refine lv_aload_n hx hb dX7_digest_74 rfl (lv_at hl 0 rfl) ?_
              refine lv_iload_n hx hb dX7_digest_75 rfl (lv_at hl 1 rfl) ?_
              refine rw_vV (X := []) (Y := []) (n := 1) (As := [.int (nI i)]) ⟨hx, hb, hml, hown, hts⟩ (c_X7_sayTap l D h g cI _ J x G b q hM (hokz (by omega)) hT i (by omega)) (cwV 1 hts (gV mg_738 mg_740 mg_1041 mg_8 mg_741) rfl rfl rfl vd_X7_sayTap ⟨Nat.le_of_ble_eq_true rfl, Nat.le_of_ble_eq_true rfl⟩) (va_recv hK hP (ci := 7) (q0 := 0) rfl rfl) hK hP hD hS hA rfl hl.1 rfl (Nat.le_of_ble_eq_true rfl) dX7_digest_76 ⟨Nat.zero_le _, Nat.zero_le _⟩ (fun u_17 H locs w_18 hP hD hS => ?_)
              have hP : va_P D vwCl (mW h g cI J (dtp b q i x) G) H := hP
              have hD : va_D A (mW h g cI J (dtp b q i x) G) := hD
              refine lv_iinc (v := nI (i + 1)) (lv' := [(1, .int (nI (i + 1))), (0, .ref h)]) hx hb dX7_digest_79 hl (k := 1) rfl (fr_inc1 _) (by decide) rfl (fun ls hl => ?_)
              refine lv_goto (tgt := 66) hx hb dX7_digest_82 (by decide) ?_
              exact ih_5 (dtp b q i x) (i + 1) (by omega) (by rw [hx0]; rfl) (by omega) _ _ hP hD hS _ (lv_sub hl [1, 0] rfl)
        exact K_4 (q.1 - 0 + 1) s9 0 (by omega) (by rw [if_neg h0, hs0, show v = 4 by omega]; rfl) (Nat.lt_succ_self _) _ _ hP hD hS _ (lv_sub hl [1, 0] rfl)
      · refine lv_aload_n hx hb dX7_digest_14 rfl (lv_at hl 0 rfl) ?_
        refine ro_iV (n := 0) (As := []) ⟨hx, hb, hml, hown, hts⟩ (c_X7_lacksF l D h g cI J s9 G q b hM hT.1 h0) (cwV 0 hts (gV mg_573 mg_575 mg_1020 mg_8 mg_576) rfl rfl rfl vd_X7_lacks ⟨Nat.le_of_ble_eq_true rfl, Nat.le_of_ble_eq_true rfl⟩) (va_recv hK hP (ci := 7) (q0 := 0) rfl rfl) hK hP rfl hl.1 rfl (Nat.le_of_ble_eq_true rfl) dX7_digest_15 ⟨Nat.zero_le _, Nat.zero_le _⟩ ?_
        refine j_if_ne (tgt := 64) hx hb dX7_digest_18 (by decide) (nI_toInt (by decide)) (fun c_19 => absurd c_19 (by omega)) (fun c_19 => ?_)
        refine lv_aload_n hx hb dX7_digest_21 rfl (lv_at hl 0 rfl) ?_
        refine lv_aload_n hx hb dX7_digest_22 rfl (lv_at hl 0 rfl) ?_
        refine lv_iload_n hx hb dX7_digest_23 rfl (lv_at hl 1 rfl) ?_
        refine lv_iconst (v := nI 0) hx hb dX7_digest_24 (by decide) ?_
        have hb5 := hb4 v (by omega)
        refine ro_iV (n := 2) (As := [.int (nI v), .int (nI 0)]) ⟨hx, hb, hml, hown, hts⟩ (c_X7_tsL l D h g cI J s9 G b q hM hb4 v (by omega)) (cwV 2 hts (gV mg_581 mg_583 mg_1021 mg_8 mg_584) rfl rfl rfl vd_X7_tellSaying ⟨Nat.le_of_ble_eq_true rfl, Nat.le_of_ble_eq_true rfl⟩) (va_recv hK hP (ci := 7) (q0 := 0) rfl rfl) hK hP rfl hl.1 rfl (Nat.le_of_ble_eq_true rfl) dX7_digest_25 ⟨Nat.zero_le _, Nat.zero_le _⟩ ?_
        refine lv_i2l (v := lN (b v 0)) hx hb dX7_digest_28 (nI_l (by omega)) ?_
        refine rw_vV (X := []) (Y := []) (n := 1) (As := [.long (lN (b v 0))]) ⟨hx, hb, hml, hown, hts⟩ (c_X7_say l D h g cI _ J s9 G (lN (b v 0))) (cwV 1 hts (gV mg_733 mg_735 mg_1040 mg_8 mg_736) rfl rfl rfl vd_X7_say ⟨Nat.le_of_ble_eq_true rfl, Nat.le_of_ble_eq_true rfl⟩) (va_recv hK hP (ci := 7) (q0 := 0) rfl rfl) hK hP hD hS hA rfl hl.1 rfl (Nat.le_of_ble_eq_true rfl) dX7_digest_29 ⟨Nat.zero_le _, Nat.zero_le _⟩ (fun u_20 H locs w_21 hP hD hS => ?_)
        have hP : va_P D vwCl (mW h g cI J (31 * s9 + (lN (b v 0))) G) H := hP
        have hD : va_D A (mW h g cI J (31 * s9 + (lN (b v 0))) G) := hD
        refine lv_bipush (v := nI 10) hx hb dX7_digest_32 (by decide) ?_
        refine lv_istore_n (lv' := [(2, .int (nI 10)), (0, .ref h), (1, .int (nI v))]) hx hb dX7_digest_34 rfl hl (by decide) rfl (fun ls hl => ?_)
        have K_22 : ∀ n9 : Nat, ∀ (t9 : Int64) (j : Nat), j ≤ 4 → t9 = fo (31 * dsy b 1061 v + lN (b v 0)) (fun j => (bta b v j).toInt64) j → 4 - j < n9 → ∀ (H : Heap) (locs : List Loc), va_P D vwCl (mW h g cI J t9 G) H → va_D A (mW h g cI J t9 G) → va_S A s.heap H locs → ∀ ls : Array Slot, lv_has ls 3 [(0, .ref h), (1, .int (nI v)), (2, .int (nI (10 + j)))] → W p l e (headSpec (wA yX7_digest cX7_digest 3 (some .long)) ({ frames := 6, cells := 0, slots := 0, locals := 149 })).room s m args below meth c H locs 0 0 (MQ below (va_Ql (fun (r : Int64) (_ : Int64) => r = sp_digest b q pc pn xr) (fun u t => wB D (iTys cI) A ((fun u : Int64 => mW h g cI J u G) u) t) A) args s 0 0 A) (F0 m 35 ls []) := by
          intro n9
          induction n9 with
          | zero => intros; omega
          | succ n9 ih_23 =>
            intro t9 j hj ht0 hn9 H locs hP hD hS ls hl
            refine lv_iload_n hx hb dX7_digest_35 rfl (lv_at hl 2 rfl) ?_
            refine lv_bipush (v := nI 14) hx hb dX7_digest_36 (by decide) ?_
            refine j_icmp_ge (tgt := 58) hx hb dX7_digest_38 (by decide) (nI_toInt (by omega)) (nI_toInt (by decide)) (fun c_24 => ?_) (fun c_24 => ?_)
            · refine lv_iinc (v := nI (v + 1)) (lv' := [(1, .int (nI (v + 1))), (0, .ref h), (2, .int (nI (10 + j)))]) hx hb dX7_digest_58 hl (k := 1) rfl (fr_inc1 _) (by decide) rfl (fun ls hl => ?_)
              refine lv_goto (tgt := 9) hx hb dX7_digest_61 (by decide) ?_
              exact ih_2 t9 (v + 1) (by omega) (by rw [ht0, show j = 4 by omega]; rfl) (by omega) _ _ hP hD hS _ (lv_sub hl [1, 0] rfl)
            · refine lv_aload_n hx hb dX7_digest_41 rfl (lv_at hl 0 rfl) ?_
              refine lv_aload_n hx hb dX7_digest_42 rfl (lv_at hl 0 rfl) ?_
              refine lv_iload_n hx hb dX7_digest_43 rfl (lv_at hl 1 rfl) ?_
              refine lv_iload_n hx hb dX7_digest_44 rfl (lv_at hl 2 rfl) ?_
              refine ro_iV (n := 2) (As := [.int (nI v), .int (nI (10 + j))]) ⟨hx, hb, hml, hown, hts⟩ (c_X7_tsI l D h g cI J t9 G b q hM hb4 v (by omega) j (by omega)) (cwV 2 hts (gV mg_581 mg_583 mg_1021 mg_8 mg_584) rfl rfl rfl vd_X7_tellSaying ⟨Nat.le_of_ble_eq_true rfl, Nat.le_of_ble_eq_true rfl⟩) (va_recv hK hP (ci := 7) (q0 := 0) rfl rfl) hK hP rfl hl.1 rfl (Nat.le_of_ble_eq_true rfl) dX7_digest_45 ⟨Nat.zero_le _, Nat.zero_le _⟩ ?_
              refine lv_i2l (v := (bta b v j).toInt64) hx hb dX7_digest_48 rfl ?_
              refine rw_vV (X := []) (Y := []) (n := 1) (As := [.long ((bta b v j).toInt64)]) ⟨hx, hb, hml, hown, hts⟩ (c_X7_say l D h g cI _ J t9 G ((bta b v j).toInt64)) (cwV 1 hts (gV mg_733 mg_735 mg_1040 mg_8 mg_736) rfl rfl rfl vd_X7_say ⟨Nat.le_of_ble_eq_true rfl, Nat.le_of_ble_eq_true rfl⟩) (va_recv hK hP (ci := 7) (q0 := 0) rfl rfl) hK hP hD hS hA rfl hl.1 rfl (Nat.le_of_ble_eq_true rfl) dX7_digest_49 ⟨Nat.zero_le _, Nat.zero_le _⟩ (fun u_25 H locs w_26 hP hD hS => ?_)
              have hP : va_P D vwCl (mW h g cI J (31 * t9 + ((bta b v j).toInt64)) G) H := hP
              have hD : va_D A (mW h g cI J (31 * t9 + ((bta b v j).toInt64)) G) := hD
              refine lv_iinc (v := nI (10 + j + 1)) (lv' := [(2, .int (nI (10 + j + 1))), (0, .ref h), (1, .int (nI v))]) hx hb dX7_digest_52 hl (k := 2) rfl (fr_inc1 _) (by decide) rfl (fun ls hl => ?_)
              refine lv_goto (tgt := 35) hx hb dX7_digest_55 (by decide) ?_
              exact ih_23 (31 * t9 + ((bta b v j).toInt64)) (j + 1) (by omega) (by rw [ht0]; rfl) (by omega) _ _ hP hD hS _ (lv_sub hl [1, 2, 0] rfl)
        exact K_22 (4 - 0 + 1) (31 * s9 + (lN (b v 0))) 0 (by omega) (by rw [hs0]; rfl) (Nat.lt_succ_self _) _ _ hP hD hS _ (lv_sub hl [1, 2, 0] rfl)
  exact K_1 (4 - 0 + 1) (1061 : Int64) 0 (by omega) (rfl) (Nat.lt_succ_self _) _ _ hP hD hS _ (lv_sub hl [1, 0] rfl)

set_option maxHeartbeats 4000000 in
set_option maxRecDepth 100000 in
theorem c_X7_nights1 (l : Launch) (D : va_G) (h : Nat) (g : Nat → Nat) (cI : ClassId) (sz : Nat) (J : Nat → Int32) (hz : Int64) (G : Nat → Nat → Int32) (b : Nat → Nat → Nat) (pn xr xi : Nat) (pc : Nat → Int32) (q kq : RS) (hF : MF b pn xr xi pc q kq J G) (hokz : ¬ q.1 = 0 → hok b) (hT : Tok q) (x y w : Int32) (ox : ¬ inr x 1 41) : WI l yX7_nights (wA yX7_nights cX7_nights 10 (some .int)) ({ frames := 3, cells := 0, slots := 0, locals := 73 }) D (iTys cI) (mW h g cI J hz G) sz [.ref h, .int x, .int y, .int w] (fun (r : Int32) (u : (Nat → Int32) × (Nat → Nat → Int32)) => r = -102 ∧ MF b pn xr xi pc q kq u.1 u.2) (fun u => mW h g cI u.1 hz u.2) := by
  refine rw_startI (by decide) (Nat.le_of_ble_eq_true rfl) ?_
  intro p e s m args below meth c ls A F hP hK hD hA hS hl
  obtain ⟨hx, hb, hr, hlocks, hml, hown, hts⟩ := F
  have hown : s.vm.findClass RX7 = some m.cls := hown
  have hl : lv_has ls 10 [(0, .ref h), (1, .int x), (2, .int y), (3, .int w)] := hl
  have hM := hF.1
  have ht5 := hT.1
  have ht8 := hT.2.1
  have ox7 := inr_out ox
  refine lv_iload_n hx hb dX7_nights_0 rfl (lv_at hl 1 rfl) ?_
  refine lv_i2l (v := x.toInt64) hx hb dX7_nights_1 rfl ?_
  refine lv_lconst (v := (1 : Int64)) hx hb dX7_nights_2 (by decide) ?_
  refine lv_ldc2 (v := (40 : Int64)) hx hb hown (hts _ mg_694) dX7_nights_3 ?_
  have e1 : (x.toInt64 : Int64).toInt = x.toInt := (Int32.toInt_toInt64 _).trans rfl
  have e2 : ((1) : Int64).toInt = 1 := (by decide)
  have e3 : ((40 : Int64) : Int64).toInt = 40 := (by decide)
  refine ro_iS (n := 3) (As := [.long x.toInt64, .long (1), .long (40 : Int64)]) ⟨hx, hb, hml, hown, hts⟩ (c_X7_inF l D (x.toInt64) ((1)) ((40 : Int64)) (fun z => by omega)) (cwS 3 hts (gS mg_534 mg_535 mg_8 mg_536) rfl rfl rfl vd_X7_in ⟨Nat.le_of_ble_eq_true rfl, Nat.le_of_ble_eq_true rfl⟩)  (hK.sub [] rfl) (fun k q h => by simp at h) rfl hl.1 rfl (Nat.le_of_ble_eq_true rfl) dX7_nights_6 ⟨Nat.zero_le _, Nat.zero_le _⟩ ?_
  refine j_if_eq (tgt := 28) hx hb dX7_nights_9 (by decide) (nI_toInt (by decide)) (fun c_1 => ?_) (fun c_1 => absurd c_1 (by omega))
  refine lv_bipush (v := (-102)) hx hb dX7_nights_28 (by decide) ?_
  exact rw_iret (wp := (fun u => mW h g cI u.1 hz u.2)) (post := (fun (r : Int32) (u : (Nat → Int32) × (Nat → Nat → Int32)) => r = -102 ∧ MF b pn xr xi pc q kq u.1 u.2)) (J, G) hx hb hr hlocks hK hP hD hS (rfl) (⟨rfl, hF⟩) dX7_nights_30

set_option maxHeartbeats 4000000 in
set_option maxRecDepth 100000 in
theorem c_X7_nights2 (l : Launch) (D : va_G) (h : Nat) (g : Nat → Nat) (cI : ClassId) (sz : Nat) (J : Nat → Int32) (hz : Int64) (G : Nat → Nat → Int32) (b : Nat → Nat → Nat) (pn xr xi : Nat) (pc : Nat → Int32) (q kq : RS) (hF : MF b pn xr xi pc q kq J G) (hokz : ¬ q.1 = 0 → hok b) (hT : Tok q) (dd : Nat) (hd1 : 1 ≤ dd) (hd2 : dd < 41) (y w : Int32) (oy : ¬ 0 ≤ y.toInt) : WI l yX7_nights (wA yX7_nights cX7_nights 10 (some .int)) ({ frames := 3, cells := 0, slots := 0, locals := 73 }) D (iTys cI) (mW h g cI J hz G) sz [.ref h, .int (nI dd), .int y, .int w] (fun (r : Int32) (u : (Nat → Int32) × (Nat → Nat → Int32)) => r = -102 ∧ MF b pn xr xi pc q kq u.1 u.2) (fun u => mW h g cI u.1 hz u.2) := by
  refine rw_startI (by decide) (Nat.le_of_ble_eq_true rfl) ?_
  intro p e s m args below meth c ls A F hP hK hD hA hS hl
  obtain ⟨hx, hb, hr, hlocks, hml, hown, hts⟩ := F
  have hown : s.vm.findClass RX7 = some m.cls := hown
  have hl : lv_has ls 10 [(0, .ref h), (1, .int (nI dd)), (2, .int y), (3, .int w)] := hl
  have hM := hF.1
  have ht5 := hT.1
  have ht8 := hT.2.1
  refine lv_iload_n hx hb dX7_nights_0 rfl (lv_at hl 1 rfl) ?_
  refine lv_i2l (v := lN dd) hx hb dX7_nights_1 (nI_l (by omega)) ?_
  refine lv_lconst (v := (1 : Int64)) hx hb dX7_nights_2 (by decide) ?_
  refine lv_ldc2 (v := (40 : Int64)) hx hb hown (hts _ mg_694) dX7_nights_3 ?_
  have e1 : (lN dd : Int64).toInt = ((dd : Nat) : Int) := lN_toInt (by omega)
  have e2 : ((1) : Int64).toInt = 1 := (by decide)
  have e3 : ((40 : Int64) : Int64).toInt = 40 := (by decide)
  refine ro_iS (n := 3) (As := [.long (lN dd), .long (1), .long (40 : Int64)]) ⟨hx, hb, hml, hown, hts⟩ (c_X7_inT l D (lN dd) ((1)) ((40 : Int64)) (by constructor <;> omega)) (cwS 3 hts (gS mg_534 mg_535 mg_8 mg_536) rfl rfl rfl vd_X7_in ⟨Nat.le_of_ble_eq_true rfl, Nat.le_of_ble_eq_true rfl⟩)  (hK.sub [] rfl) (fun k q h => by simp at h) rfl hl.1 rfl (Nat.le_of_ble_eq_true rfl) dX7_nights_6 ⟨Nat.zero_le _, Nat.zero_le _⟩ ?_
  refine j_if_eq (tgt := 28) hx hb dX7_nights_9 (by decide) (nI_toInt (by decide)) (fun c_1 => absurd c_1 (by omega)) (fun c_1 => ?_)
  refine lv_iload_n hx hb dX7_nights_12 rfl (lv_at hl 2 rfl) ?_
  refine j_if_lt (tgt := 28) hx hb dX7_nights_13 (by decide) rfl (fun c_2 => ?_) (fun c_2 => absurd c_2 (by omega))
  refine lv_bipush (v := (-102)) hx hb dX7_nights_28 (by decide) ?_
  exact rw_iret (wp := (fun u => mW h g cI u.1 hz u.2)) (post := (fun (r : Int32) (u : (Nat → Int32) × (Nat → Nat → Int32)) => r = -102 ∧ MF b pn xr xi pc q kq u.1 u.2)) (J, G) hx hb hr hlocks hK hP hD hS (rfl) (⟨rfl, hF⟩) dX7_nights_30

set_option maxHeartbeats 4000000 in
set_option maxRecDepth 100000 in
theorem c_X7_nights3 (l : Launch) (D : va_G) (h : Nat) (g : Nat → Nat) (cI : ClassId) (sz : Nat) (J : Nat → Int32) (hz : Int64) (G : Nat → Nat → Int32) (b : Nat → Nat → Nat) (pn xr xi : Nat) (pc : Nat → Int32) (q kq : RS) (hF : MF b pn xr xi pc q kq J G) (hokz : ¬ q.1 = 0 → hok b) (hT : Tok q) (dd : Nat) (hd1 : 1 ≤ dd) (hd2 : dd < 41) (y : Nat) (hy : y < 2 ^ 31) (w : Int32) (ow : ¬ inr w 0 3) : WI l yX7_nights (wA yX7_nights cX7_nights 10 (some .int)) ({ frames := 3, cells := 0, slots := 0, locals := 73 }) D (iTys cI) (mW h g cI J hz G) sz [.ref h, .int (nI dd), .int (nI y), .int w] (fun (r : Int32) (u : (Nat → Int32) × (Nat → Nat → Int32)) => r = -102 ∧ MF b pn xr xi pc q kq u.1 u.2) (fun u => mW h g cI u.1 hz u.2) := by
  refine rw_startI (by decide) (Nat.le_of_ble_eq_true rfl) ?_
  intro p e s m args below meth c ls A F hP hK hD hA hS hl
  obtain ⟨hx, hb, hr, hlocks, hml, hown, hts⟩ := F
  have hown : s.vm.findClass RX7 = some m.cls := hown
  have hl : lv_has ls 10 [(0, .ref h), (1, .int (nI dd)), (2, .int (nI y)), (3, .int w)] := hl
  have hM := hF.1
  have ht5 := hT.1
  have ht8 := hT.2.1
  have ow7 := inr_out ow
  refine lv_iload_n hx hb dX7_nights_0 rfl (lv_at hl 1 rfl) ?_
  refine lv_i2l (v := lN dd) hx hb dX7_nights_1 (nI_l (by omega)) ?_
  refine lv_lconst (v := (1 : Int64)) hx hb dX7_nights_2 (by decide) ?_
  refine lv_ldc2 (v := (40 : Int64)) hx hb hown (hts _ mg_694) dX7_nights_3 ?_
  have e1 : (lN dd : Int64).toInt = ((dd : Nat) : Int) := lN_toInt (by omega)
  have e2 : ((1) : Int64).toInt = 1 := (by decide)
  have e3 : ((40 : Int64) : Int64).toInt = 40 := (by decide)
  refine ro_iS (n := 3) (As := [.long (lN dd), .long (1), .long (40 : Int64)]) ⟨hx, hb, hml, hown, hts⟩ (c_X7_inT l D (lN dd) ((1)) ((40 : Int64)) (by constructor <;> omega)) (cwS 3 hts (gS mg_534 mg_535 mg_8 mg_536) rfl rfl rfl vd_X7_in ⟨Nat.le_of_ble_eq_true rfl, Nat.le_of_ble_eq_true rfl⟩)  (hK.sub [] rfl) (fun k q h => by simp at h) rfl hl.1 rfl (Nat.le_of_ble_eq_true rfl) dX7_nights_6 ⟨Nat.zero_le _, Nat.zero_le _⟩ ?_
  refine j_if_eq (tgt := 28) hx hb dX7_nights_9 (by decide) (nI_toInt (by decide)) (fun c_1 => absurd c_1 (by omega)) (fun c_1 => ?_)
  refine lv_iload_n hx hb dX7_nights_12 rfl (lv_at hl 2 rfl) ?_
  refine j_if_lt (tgt := 28) hx hb dX7_nights_13 (by decide) (nI_toInt (by omega)) (fun c_2 => absurd c_2 (by omega)) (fun c_2 => ?_)
  refine lv_iload_n hx hb dX7_nights_16 rfl (lv_at hl 3 rfl) ?_
  refine lv_i2l (v := w.toInt64) hx hb dX7_nights_17 rfl ?_
  refine lv_lconst (v := (0 : Int64)) hx hb dX7_nights_18 (by decide) ?_
  refine lv_ldc2 (v := (2 : Int64)) hx hb hown (hts _ mg_695) dX7_nights_19 ?_
  have e1 : (w.toInt64 : Int64).toInt = w.toInt := (Int32.toInt_toInt64 _).trans rfl
  have e2 : ((0) : Int64).toInt = 0 := (by decide)
  have e3 : ((2 : Int64) : Int64).toInt = 2 := (by decide)
  refine ro_iS (n := 3) (As := [.long w.toInt64, .long (0), .long (2 : Int64)]) ⟨hx, hb, hml, hown, hts⟩ (c_X7_inF l D (w.toInt64) ((0)) ((2 : Int64)) (fun z => by omega)) (cwS 3 hts (gS mg_534 mg_535 mg_8 mg_536) rfl rfl rfl vd_X7_in ⟨Nat.le_of_ble_eq_true rfl, Nat.le_of_ble_eq_true rfl⟩)  (hK.sub [] rfl) (fun k q h => by simp at h) rfl hl.1 rfl (Nat.le_of_ble_eq_true rfl) dX7_nights_22 ⟨Nat.zero_le _, Nat.zero_le _⟩ ?_
  refine j_if_ne (tgt := 31) hx hb dX7_nights_25 (by decide) (nI_toInt (by decide)) (fun c_3 => absurd c_3 (by omega)) (fun c_3 => ?_)
  refine lv_bipush (v := (-102)) hx hb dX7_nights_28 (by decide) ?_
  exact rw_iret (wp := (fun u => mW h g cI u.1 hz u.2)) (post := (fun (r : Int32) (u : (Nat → Int32) × (Nat → Nat → Int32)) => r = -102 ∧ MF b pn xr xi pc q kq u.1 u.2)) (J, G) hx hb hr hlocks hK hP hD hS (rfl) (⟨rfl, hF⟩) dX7_nights_30

set_option maxHeartbeats 4000000 in
set_option maxRecDepth 100000 in
theorem c_X7_nights4 (l : Launch) (D : va_G) (h : Nat) (g : Nat → Nat) (cI : ClassId) (sz : Nat) (J : Nat → Int32) (hz : Int64) (G : Nat → Nat → Int32) (b : Nat → Nat → Nat) (pn xr xi : Nat) (pc : Nat → Int32) (q kq : RS) (hF : MF b pn xr xi pc q kq J G) (hokz : ¬ q.1 = 0 → hok b) (hT : Tok q) (h0 : q.1 = 0) (dd : Nat) (hd1 : 1 ≤ dd) (hd2 : dd < 41) (y : Nat) (hy : y < 2 ^ 31) (w : Nat) (hw : w < 3) : WI l yX7_nights (wA yX7_nights cX7_nights 10 (some .int)) ({ frames := 3, cells := 0, slots := 0, locals := 73 }) D (iTys cI) (mW h g cI J hz G) sz [.ref h, .int (nI dd), .int (nI y), .int (nI w)] (fun (r : Int32) (u : (Nat → Int32) × (Nat → Nat → Int32)) => r = -103 ∧ MF b pn xr xi pc q kq u.1 u.2) (fun u => mW h g cI u.1 hz u.2) := by
  refine rw_startI (by decide) (Nat.le_of_ble_eq_true rfl) ?_
  intro p e s m args below meth c ls A F hP hK hD hA hS hl
  obtain ⟨hx, hb, hr, hlocks, hml, hown, hts⟩ := F
  have hown : s.vm.findClass RX7 = some m.cls := hown
  have hl : lv_has ls 10 [(0, .ref h), (1, .int (nI dd)), (2, .int (nI y)), (3, .int (nI w))] := hl
  have hM := hF.1
  have ht5 := hT.1
  have ht8 := hT.2.1
  refine lv_iload_n hx hb dX7_nights_0 rfl (lv_at hl 1 rfl) ?_
  refine lv_i2l (v := lN dd) hx hb dX7_nights_1 (nI_l (by omega)) ?_
  refine lv_lconst (v := (1 : Int64)) hx hb dX7_nights_2 (by decide) ?_
  refine lv_ldc2 (v := (40 : Int64)) hx hb hown (hts _ mg_694) dX7_nights_3 ?_
  have e1 : (lN dd : Int64).toInt = ((dd : Nat) : Int) := lN_toInt (by omega)
  have e2 : ((1) : Int64).toInt = 1 := (by decide)
  have e3 : ((40 : Int64) : Int64).toInt = 40 := (by decide)
  refine ro_iS (n := 3) (As := [.long (lN dd), .long (1), .long (40 : Int64)]) ⟨hx, hb, hml, hown, hts⟩ (c_X7_inT l D (lN dd) ((1)) ((40 : Int64)) (by constructor <;> omega)) (cwS 3 hts (gS mg_534 mg_535 mg_8 mg_536) rfl rfl rfl vd_X7_in ⟨Nat.le_of_ble_eq_true rfl, Nat.le_of_ble_eq_true rfl⟩)  (hK.sub [] rfl) (fun k q h => by simp at h) rfl hl.1 rfl (Nat.le_of_ble_eq_true rfl) dX7_nights_6 ⟨Nat.zero_le _, Nat.zero_le _⟩ ?_
  refine j_if_eq (tgt := 28) hx hb dX7_nights_9 (by decide) (nI_toInt (by decide)) (fun c_1 => absurd c_1 (by omega)) (fun c_1 => ?_)
  refine lv_iload_n hx hb dX7_nights_12 rfl (lv_at hl 2 rfl) ?_
  refine j_if_lt (tgt := 28) hx hb dX7_nights_13 (by decide) (nI_toInt (by omega)) (fun c_2 => absurd c_2 (by omega)) (fun c_2 => ?_)
  refine lv_iload_n hx hb dX7_nights_16 rfl (lv_at hl 3 rfl) ?_
  refine lv_i2l (v := lN w) hx hb dX7_nights_17 (nI_l (by omega)) ?_
  refine lv_lconst (v := (0 : Int64)) hx hb dX7_nights_18 (by decide) ?_
  refine lv_ldc2 (v := (2 : Int64)) hx hb hown (hts _ mg_695) dX7_nights_19 ?_
  have e1 : (lN w : Int64).toInt = ((w : Nat) : Int) := lN_toInt (by omega)
  have e2 : ((0) : Int64).toInt = 0 := (by decide)
  have e3 : ((2 : Int64) : Int64).toInt = 2 := (by decide)
  refine ro_iS (n := 3) (As := [.long (lN w), .long (0), .long (2 : Int64)]) ⟨hx, hb, hml, hown, hts⟩ (c_X7_inT l D (lN w) ((0)) ((2 : Int64)) (by constructor <;> omega)) (cwS 3 hts (gS mg_534 mg_535 mg_8 mg_536) rfl rfl rfl vd_X7_in ⟨Nat.le_of_ble_eq_true rfl, Nat.le_of_ble_eq_true rfl⟩)  (hK.sub [] rfl) (fun k q h => by simp at h) rfl hl.1 rfl (Nat.le_of_ble_eq_true rfl) dX7_nights_22 ⟨Nat.zero_le _, Nat.zero_le _⟩ ?_
  refine j_if_ne (tgt := 31) hx hb dX7_nights_25 (by decide) (nI_toInt (by decide)) (fun c_3 => ?_) (fun c_3 => absurd c_3 (by omega))
  refine lv_aload_n hx hb dX7_nights_31 rfl (lv_at hl 0 rfl) ?_
  refine ro_iV (n := 0) (As := []) ⟨hx, hb, hml, hown, hts⟩ (c_X7_lacksT l D h g cI J hz G q b hM hT.1 h0) (cwV 0 hts (gV mg_573 mg_575 mg_1020 mg_8 mg_576) rfl rfl rfl vd_X7_lacks ⟨Nat.le_of_ble_eq_true rfl, Nat.le_of_ble_eq_true rfl⟩) (va_recv hK hP (ci := 7) (q0 := 0) rfl rfl) hK hP rfl hl.1 rfl (Nat.le_of_ble_eq_true rfl) dX7_nights_32 ⟨Nat.zero_le _, Nat.zero_le _⟩ ?_
  refine j_if_eq (tgt := 41) hx hb dX7_nights_35 (by decide) (nI_toInt (by decide)) (fun c_4 => absurd c_4 (by omega)) (fun c_4 => ?_)
  refine lv_bipush (v := (-103)) hx hb dX7_nights_38 (by decide) ?_
  exact rw_iret (wp := (fun u => mW h g cI u.1 hz u.2)) (post := (fun (r : Int32) (u : (Nat → Int32) × (Nat → Nat → Int32)) => r = -103 ∧ MF b pn xr xi pc q kq u.1 u.2)) (J, G) hx hb hr hlocks hK hP hD hS (rfl) (⟨rfl, hF⟩) dX7_nights_40

set_option maxHeartbeats 4000000 in
set_option maxRecDepth 100000 in
theorem c_X7_nightsI0 (l : Launch) (D : va_G) (h : Nat) (g : Nat → Nat) (cI : ClassId) (sz : Nat) (J : Nat → Int32) (hz : Int64) (G : Nat → Nat → Int32) (b : Nat → Nat → Nat) (pn xr xi : Nat) (pc : Nat → Int32) (q kq : RS) (hF : MF b pn xr xi pc q kq J G) (hokz : ¬ q.1 = 0 → hok b) (hT : Tok q) (h0 : ¬ q.1 = 0) (dd : Nat) (hd1 : 1 ≤ dd) (hd2 : dd < 41) (y : Nat) (hy : y < 2 ^ 31) : WI l yX7_nights (wA yX7_nights cX7_nights 10 (some .int)) ({ frames := 3, cells := 0, slots := 0, locals := 73 }) D (iTys cI) (mW h g cI J hz G) sz [.ref h, .int (nI dd), .int (nI y), .int (nI 0)] (fun (r : Int32) (u : (Nat → Int32) × (Nat → Nat → Int32)) => r = (let z := ngo b q.2.2.2.1 q.1 (0, 0, y) dd; if 0 = 0 then nI z.1 else if 0 = 1 then nI z.2.1 else nI z.2.2) ∧ MF b pn xr xi pc q kq u.1 u.2) (fun u => mW h g cI u.1 hz u.2) := by
  refine rw_startI (by decide) (Nat.le_of_ble_eq_true rfl) ?_
  intro p e s m args below meth c ls A F hP hK hD hA hS hl
  obtain ⟨hx, hb, hr, hlocks, hml, hown, hts⟩ := F
  have hown : s.vm.findClass RX7 = some m.cls := hown
  have hl : lv_has ls 10 [(0, .ref h), (1, .int (nI dd)), (2, .int (nI y)), (3, .int (nI 0))] := hl
  have hM := hF.1
  have ht5 := hT.1
  have ht8 := hT.2.1
  have hok9 := hokz h0
  refine lv_iload_n hx hb dX7_nights_0 rfl (lv_at hl 1 rfl) ?_
  refine lv_i2l (v := lN dd) hx hb dX7_nights_1 (nI_l (by omega)) ?_
  refine lv_lconst (v := (1 : Int64)) hx hb dX7_nights_2 (by decide) ?_
  refine lv_ldc2 (v := (40 : Int64)) hx hb hown (hts _ mg_694) dX7_nights_3 ?_
  have e1 : (lN dd : Int64).toInt = ((dd : Nat) : Int) := lN_toInt (by omega)
  have e2 : ((1) : Int64).toInt = 1 := (by decide)
  have e3 : ((40 : Int64) : Int64).toInt = 40 := (by decide)
  refine ro_iS (n := 3) (As := [.long (lN dd), .long (1), .long (40 : Int64)]) ⟨hx, hb, hml, hown, hts⟩ (c_X7_inT l D (lN dd) ((1)) ((40 : Int64)) (by constructor <;> omega)) (cwS 3 hts (gS mg_534 mg_535 mg_8 mg_536) rfl rfl rfl vd_X7_in ⟨Nat.le_of_ble_eq_true rfl, Nat.le_of_ble_eq_true rfl⟩)  (hK.sub [] rfl) (fun k q h => by simp at h) rfl hl.1 rfl (Nat.le_of_ble_eq_true rfl) dX7_nights_6 ⟨Nat.zero_le _, Nat.zero_le _⟩ ?_
  refine j_if_eq (tgt := 28) hx hb dX7_nights_9 (by decide) (nI_toInt (by decide)) (fun c_1 => absurd c_1 (by omega)) (fun c_1 => ?_)
  refine lv_iload_n hx hb dX7_nights_12 rfl (lv_at hl 2 rfl) ?_
  refine j_if_lt (tgt := 28) hx hb dX7_nights_13 (by decide) (nI_toInt (by omega)) (fun c_2 => absurd c_2 (by omega)) (fun c_2 => ?_)
  refine lv_iload_n hx hb dX7_nights_16 rfl (lv_at hl 3 rfl) ?_
  refine lv_i2l (v := lN 0) hx hb dX7_nights_17 (nI_l (by omega)) ?_
  refine lv_lconst (v := (0 : Int64)) hx hb dX7_nights_18 (by decide) ?_
  refine lv_ldc2 (v := (2 : Int64)) hx hb hown (hts _ mg_695) dX7_nights_19 ?_
  have e1 : (lN 0 : Int64).toInt = ((0 : Nat) : Int) := lN_toInt (by omega)
  have e2 : ((0) : Int64).toInt = 0 := (by decide)
  have e3 : ((2 : Int64) : Int64).toInt = 2 := (by decide)
  refine ro_iS (n := 3) (As := [.long (lN 0), .long (0), .long (2 : Int64)]) ⟨hx, hb, hml, hown, hts⟩ (c_X7_inT l D (lN 0) ((0)) ((2 : Int64)) (by constructor <;> omega)) (cwS 3 hts (gS mg_534 mg_535 mg_8 mg_536) rfl rfl rfl vd_X7_in ⟨Nat.le_of_ble_eq_true rfl, Nat.le_of_ble_eq_true rfl⟩)  (hK.sub [] rfl) (fun k q h => by simp at h) rfl hl.1 rfl (Nat.le_of_ble_eq_true rfl) dX7_nights_22 ⟨Nat.zero_le _, Nat.zero_le _⟩ ?_
  refine j_if_ne (tgt := 31) hx hb dX7_nights_25 (by decide) (nI_toInt (by decide)) (fun c_3 => ?_) (fun c_3 => absurd c_3 (by omega))
  refine lv_aload_n hx hb dX7_nights_31 rfl (lv_at hl 0 rfl) ?_
  refine ro_iV (n := 0) (As := []) ⟨hx, hb, hml, hown, hts⟩ (c_X7_lacksF l D h g cI J hz G q b hM hT.1 h0) (cwV 0 hts (gV mg_573 mg_575 mg_1020 mg_8 mg_576) rfl rfl rfl vd_X7_lacks ⟨Nat.le_of_ble_eq_true rfl, Nat.le_of_ble_eq_true rfl⟩) (va_recv hK hP (ci := 7) (q0 := 0) rfl rfl) hK hP rfl hl.1 rfl (Nat.le_of_ble_eq_true rfl) dX7_nights_32 ⟨Nat.zero_le _, Nat.zero_le _⟩ ?_
  refine j_if_eq (tgt := 41) hx hb dX7_nights_35 (by decide) (nI_toInt (by decide)) (fun c_4 => ?_) (fun c_4 => absurd c_4 (by omega))
  refine lv_aload_n hx hb dX7_nights_41 rfl (lv_at hl 0 rfl) ?_
  refine lv_iload_n hx hb dX7_nights_42 rfl (lv_at hl 2 rfl) ?_
  refine va_put (D := D) (ci := 7) (v := .int (nI y)) (ty := .int) (C := RX7) (T := TX7) (N := 22) hx hb hts iX7 tyX7 tyX7_ok nmX7 hown hK hP hD hS 0 rfl rfl 14 (by decide) (hts _ mg_476) (fun _ h9 => h9) rfl (tyX7_ok 14 (by decide)) rfl rfl (Nat.le_of_ble_eq_true rfl) dX7_nights_43 (fun H locs hP hD hS => ?_)
  have hP : va_P D vwCl (mW h g cI (upd J 14 (nI y)) hz G) H := hP
  have hD : va_D A (mW h g cI (upd J 14 (nI y)) hz G) := hD
  refine lv_iconst (v := nI 0) hx hb dX7_nights_46 (by decide) ?_
  refine lv_istore (lv' := [(4, .int (nI 0)), (0, .ref h), (1, .int (nI dd)), (2, .int (nI y)), (3, .int (nI 0))]) hx hb dX7_nights_47 hl (by decide) rfl (fun ls hl => ?_)
  refine lv_iconst (v := nI 0) hx hb dX7_nights_49 (by decide) ?_
  refine lv_istore (lv' := [(5, .int (nI 0)), (4, .int (nI 0)), (0, .ref h), (1, .int (nI dd)), (2, .int (nI y)), (3, .int (nI 0))]) hx hb dX7_nights_50 hl (by decide) rfl (fun ls hl => ?_)
  refine lv_iconst (v := nI 0) hx hb dX7_nights_52 (by decide) ?_
  refine lv_istore (lv' := [(6, .int (nI 0)), (5, .int (nI 0)), (4, .int (nI 0)), (0, .ref h), (1, .int (nI dd)), (2, .int (nI y)), (3, .int (nI 0))]) hx hb dX7_nights_53 hl (by decide) rfl (fun ls hl => ?_)
  have K_5 : ∀ n9 : Nat, ∀ (x : Nat) (w : Nat) (z : Nat) (n : Nat), n ≤ dd → (x, w, z) = (ngo b q.2.2.2.1 q.1 (0, 0, y) n) → z < 2 ^ 31 → x ≤ 5 * n → w ≤ 5 * n → dd - n < n9 → ∀ (H : Heap) (locs : List Loc), va_P D vwCl (mW h g cI (upd J 14 (nI z)) hz G) H → va_D A (mW h g cI (upd J 14 (nI z)) hz G) → va_S A s.heap H locs → ∀ ls : Array Slot, lv_has ls 10 [(0, .ref h), (1, .int (nI dd)), (3, .int (nI 0)), (4, .int (nI x)), (5, .int (nI w)), (6, .int (nI n))] → W p l e (headSpec (wA yX7_nights cX7_nights 10 (some .int)) ({ frames := 3, cells := 0, slots := 0, locals := 73 })).room s m args below meth c H locs 0 0 (MQ below (va_Qi (fun (r : Int32) (u : (Nat → Int32) × (Nat → Nat → Int32)) => r = (let z := ngo b q.2.2.2.1 q.1 (0, 0, y) dd; if 0 = 0 then nI z.1 else if 0 = 1 then nI z.2.1 else nI z.2.2) ∧ MF b pn xr xi pc q kq u.1 u.2) (fun u t => wB D (iTys cI) A ((fun u => mW h g cI u.1 hz u.2) u) t) A) args s 0 0 A) (F0 m 55 ls []) := by
    intro n9
    induction n9 with
    | zero => intros; omega
    | succ n9 ih_6 =>
      intro x w z n hn hz0 hzl0 hxl0 hwl0 hn9 H locs hP hD hS ls hl
      refine lv_iload hx hb dX7_nights_55 (lv_at hl 5 rfl) ?_
      refine lv_iload_n hx hb dX7_nights_57 rfl (lv_at hl 1 rfl) ?_
      refine j_icmp_ge (tgt := 157) hx hb dX7_nights_58 (by decide) (nI_toInt (by omega)) (nI_toInt (by omega)) (fun c_7 => ?_) (fun c_7 => ?_)
      · refine lv_iload_n hx hb dX7_nights_157 rfl (lv_at hl 2 rfl) ?_
        refine j_if_ne (tgt := 166) hx hb dX7_nights_158 (by decide) (nI_toInt (by decide)) (fun c_8 => absurd c_8 (by omega)) (fun c_8 => ?_)
        refine lv_iload hx hb dX7_nights_161 (lv_at hl 3 rfl) ?_
        refine lv_goto (tgt := 180) hx hb dX7_nights_163 (by decide) ?_
        exact rw_iret (wp := (fun u => mW h g cI u.1 hz u.2)) (post := (fun (r : Int32) (u : (Nat → Int32) × (Nat → Nat → Int32)) => r = (let z := ngo b q.2.2.2.1 q.1 (0, 0, y) dd; if 0 = 0 then nI z.1 else if 0 = 1 then nI z.2.1 else nI z.2.2) ∧ MF b pn xr xi pc q kq u.1 u.2)) (upd J 14 (nI z), G) hx hb hr hlocks hK hP hD hS (rfl) (⟨by dsimp only; rw [show dd = n by omega, ← hz0]; rfl, hF⟩) dX7_nights_180
      · refine lv_iconst (v := nI 0) hx hb dX7_nights_61 (by decide) ?_
        refine lv_istore (lv' := [(7, .int (nI 0)), (0, .ref h), (1, .int (nI dd)), (3, .int (nI 0)), (4, .int (nI x)), (5, .int (nI w)), (6, .int (nI n))]) hx hb dX7_nights_62 hl (by decide) rfl (fun ls hl => ?_)
        have K_9 : ∀ n9 : Nat, ∀ (x : Nat) (w : Nat) (z : Nat) (i : Nat), i ≤ q.1 → (x, w, z) = (ngs b q.2.2.2.1 n (ngo b q.2.2.2.1 q.1 (0, 0, y) n) i) → z < 2 ^ 31 → x ≤ 5 * n + i → w ≤ 5 * n + i → q.1 - i < n9 → ∀ (H : Heap) (locs : List Loc), va_P D vwCl (mW h g cI (upd J 14 (nI z)) hz G) H → va_D A (mW h g cI (upd J 14 (nI z)) hz G) → va_S A s.heap H locs → ∀ ls : Array Slot, lv_has ls 10 [(0, .ref h), (1, .int (nI dd)), (3, .int (nI 0)), (4, .int (nI x)), (5, .int (nI w)), (6, .int (nI n)), (7, .int (nI i))] → W p l e (headSpec (wA yX7_nights cX7_nights 10 (some .int)) ({ frames := 3, cells := 0, slots := 0, locals := 73 })).room s m args below meth c H locs 0 0 (MQ below (va_Qi (fun (r : Int32) (u : (Nat → Int32) × (Nat → Nat → Int32)) => r = (let z := ngo b q.2.2.2.1 q.1 (0, 0, y) dd; if 0 = 0 then nI z.1 else if 0 = 1 then nI z.2.1 else nI z.2.2) ∧ MF b pn xr xi pc q kq u.1 u.2) (fun u t => wB D (iTys cI) A ((fun u => mW h g cI u.1 hz u.2) u) t) A) args s 0 0 A) (F0 m 64 ls []) := by
          intro n9
          induction n9 with
          | zero => intros; omega
          | succ n9 ih_10 =>
            intro x w z i hi hzz hzl hxl hwl hn9 H locs hP hD hS ls hl
            refine lv_iload hx hb dX7_nights_64 (lv_at hl 6 rfl) ?_
            refine lv_aload_n hx hb dX7_nights_66 rfl (lv_at hl 0 rfl) ?_
            refine va_get (D := D) (ci := 7) (v := .int (nI q.1)) (C := RX7) (T := TX7) (N := 22) hx hb hts iX7 hown hK hP 0 rfl rfl 7 (by decide) (hts _ mg_469) (fun _ h9 => h9) (congrArg (fun z => some (Value.int z)) (MR_7 hM)) dX7_nights_67 ?_
            refine j_icmp_ge (tgt := 151) hx hb dX7_nights_70 (by decide) (nI_toInt (by omega)) (nI_toInt (by omega)) (fun c_11 => ?_) (fun c_11 => ?_)
            · refine lv_iinc (v := nI (n + 1)) (lv' := [(6, .int (nI (n + 1))), (0, .ref h), (1, .int (nI dd)), (3, .int (nI 0)), (4, .int (nI x)), (5, .int (nI w)), (7, .int (nI i))]) hx hb dX7_nights_151 hl (k := 5) rfl (fr_inc1 _) (by decide) rfl (fun ls hl => ?_)
              refine lv_goto (tgt := 55) hx hb dX7_nights_154 (by decide) ?_
              exact ih_6 x w z (n + 1) (by omega) (by rw [hzz, show i = q.1 by omega]; rfl) (hzl) (by omega) (by omega) (by omega) _ _ hP hD hS _ (lv_sub hl [1, 2, 3, 4, 5, 0] rfl)
            · obtain ⟨hk0, hv0, hw0, hp0⟩ := hT.2.2.1 i (by omega)
              refine lv_aload_n hx hb dX7_nights_73 rfl (lv_at hl 0 rfl) ?_
              refine lv_iload hx hb dX7_nights_74 (lv_at hl 6 rfl) ?_
              refine lv_aload_n hx hb dX7_nights_76 rfl (lv_at hl 0 rfl) ?_
              refine va_get (D := D) (ci := 7) (v := .ref (g 11)) (C := RX7) (T := TX7) (N := 22) hx hb hts iX7 hown hK hP 0 rfl rfl 11 (by decide) (hts _ mg_473) (fun _ h9 => h9) rfl dX7_nights_77 ?_
              refine lv_iconst (v := nI 4) hx hb dX7_nights_80 (by decide) ?_
              refine lv_iload hx hb dX7_nights_81 (lv_at hl 6 rfl) ?_
              refine n_imul hx hb dX7_nights_83 ?_
              refine lv_iconst (v := nI 3) hx hb dX7_nights_84 (by decide) ?_
              refine n_iadd hx hb dX7_nights_85 ?_
              refine n_aldi hx hb hK hP 5 0 rfl rfl (by omega) (by decide) (v := nI (q.2.2.2.1 i 3)) (MR_row hM (by omega) (by omega)) dX7_nights_86 ?_
              refine lv_iload hx hb dX7_nights_87 (lv_at hl 5 rfl) ?_
              refine n_iadd hx hb dX7_nights_89 ?_
              refine ro_iV (n := 2) (As := [.int (nI i), .int (nI ((q.2.2.2.1 i 3) + n))]) ⟨hx, hb, hml, hown, hts⟩ (c_X7_dripOf l D h g cI (upd J 14 (nI z)) hz G b q hM hok9 hT i (by omega) (q.2.2.2.1 i 3 + n) (by omega)) (cwV 2 hts (gV mg_645 mg_647 mg_1032 mg_8 mg_648) rfl rfl rfl vd_X7_dripOf ⟨Nat.le_of_ble_eq_true rfl, Nat.le_of_ble_eq_true rfl⟩) (va_recv hK hP (ci := 7) (q0 := 0) rfl rfl) hK hP rfl hl.1 rfl (Nat.le_of_ble_eq_true rfl) dX7_nights_90 ⟨Nat.zero_le _, Nat.zero_le _⟩ ?_
              have hd9 := sd_le hok9 (kd := q.2.2.2.1 i 0) (w := q.2.2.2.1 i 2) (n := q.2.2.2.1 i 3 + n) (v := q.2.2.2.1 i 1) (by omega)
              refine lv_istore (lv' := [(8, .int (nI (sd b (q.2.2.2.1 i 0) (q.2.2.2.1 i 2) (q.2.2.2.1 i 1) (q.2.2.2.1 i 3 + n)))), (0, .ref h), (1, .int (nI dd)), (3, .int (nI 0)), (4, .int (nI x)), (5, .int (nI w)), (6, .int (nI n)), (7, .int (nI i))]) hx hb dX7_nights_93 hl (by decide) rfl (fun ls hl => ?_)
              refine lv_aload_n hx hb dX7_nights_95 rfl (lv_at hl 1 rfl) ?_
              refine lv_bipush (v := nI 8) hx hb dX7_nights_96 (by decide) ?_
              refine rw_iV (X := []) (Y := []) (n := 1) (As := [.int (nI 8)]) ⟨hx, hb, hml, hown, hts⟩ (c_X7_draw l D h g cI _ (upd J 14 (nI z)) hz G z hzl rfl) (cwV 1 hts (gV mg_696 mg_698 mg_1036 mg_8 mg_699) rfl rfl rfl vd_X7_draw ⟨Nat.le_of_ble_eq_true rfl, Nat.le_of_ble_eq_true rfl⟩) (va_recv hK hP (ci := 7) (q0 := 0) rfl rfl) hK hP hD hS hA rfl hl.1 rfl (Nat.le_of_ble_eq_true rfl) dX7_nights_98 ⟨Nat.zero_le _, Nat.zero_le _⟩ (fun r_14 u_12 H locs w_13 hP hD hS => ?_)
              have hP : va_P D vwCl (mW h g cI (upd J 14 (nI (nxs z))) hz G) H := hP
              have hD : va_D A (mW h g cI (upd J 14 (nI (nxs z))) hz G) := hD
              refine n_top w_13 ?_
              refine j_if_ne (tgt := 108) hx hb dX7_nights_101 (by decide) (nI_toInt (by omega)) (fun c_15 => ?_) (fun c_15 => ?_)
              · have hg : ngd (nxs z) = 0 := by unfold ngd; rw [if_neg (by omega)]
                refine lv_iconst (v := nI 0) hx hb dX7_nights_108 (by decide) ?_
                refine lv_istore (lv' := [(9, .int (nI 0)), (8, .int (nI (sd b (q.2.2.2.1 i 0) (q.2.2.2.1 i 2) (q.2.2.2.1 i 1) (q.2.2.2.1 i 3 + n)))), (0, .ref h), (1, .int (nI dd)), (3, .int (nI 0)), (4, .int (nI x)), (5, .int (nI w)), (6, .int (nI n)), (7, .int (nI i))]) hx hb dX7_nights_109 hl (by decide) rfl (fun ls hl => ?_)
                refine lv_iload hx hb dX7_nights_111 (lv_at hl 6 rfl) ?_
                refine lv_iload hx hb dX7_nights_113 (lv_at hl 0 rfl) ?_
                refine j_if_eq (tgt := 122) hx hb dX7_nights_115 (by decide) (nI_toInt (by decide)) (fun c_16 => ?_) (fun c_16 => absurd c_16 (by omega))
                refine lv_iconst (v := nI 0) hx hb dX7_nights_122 (by decide) ?_
                refine n_iadd hx hb dX7_nights_123 ?_
                refine lv_istore (lv' := [(5, .int (nI (w + 0))), (9, .int (nI 0)), (8, .int (nI (sd b (q.2.2.2.1 i 0) (q.2.2.2.1 i 2) (q.2.2.2.1 i 1) (q.2.2.2.1 i 3 + n)))), (0, .ref h), (1, .int (nI dd)), (3, .int (nI 0)), (4, .int (nI x)), (6, .int (nI n)), (7, .int (nI i))]) hx hb dX7_nights_124 hl (by decide) rfl (fun ls hl => ?_)
                refine lv_iload hx hb dX7_nights_126 (lv_at hl 6 rfl) ?_
                refine lv_iload hx hb dX7_nights_128 (lv_at hl 1 rfl) ?_
                refine j_if_eq (tgt := 140) hx hb dX7_nights_130 (by decide) (nI_toInt (by decide)) (fun c_17 => ?_) (fun c_17 => absurd c_17 (by omega))
                refine lv_iload hx hb dX7_nights_140 (lv_at hl 2 rfl) ?_
                refine n_iadd hx hb dX7_nights_142 ?_
                refine lv_istore (lv' := [(4, .int (nI (x + (sd b (q.2.2.2.1 i 0) (q.2.2.2.1 i 2) (q.2.2.2.1 i 1) (q.2.2.2.1 i 3 + n))))), (5, .int (nI (w + 0))), (9, .int (nI 0)), (8, .int (nI (sd b (q.2.2.2.1 i 0) (q.2.2.2.1 i 2) (q.2.2.2.1 i 1) (q.2.2.2.1 i 3 + n)))), (0, .ref h), (1, .int (nI dd)), (3, .int (nI 0)), (6, .int (nI n)), (7, .int (nI i))]) hx hb dX7_nights_143 hl (by decide) rfl (fun ls hl => ?_)
                refine lv_iinc (v := nI (i + 1)) (lv' := [(7, .int (nI (i + 1))), (4, .int (nI (x + (sd b (q.2.2.2.1 i 0) (q.2.2.2.1 i 2) (q.2.2.2.1 i 1) (q.2.2.2.1 i 3 + n))))), (5, .int (nI (w + 0))), (9, .int (nI 0)), (8, .int (nI (sd b (q.2.2.2.1 i 0) (q.2.2.2.1 i 2) (q.2.2.2.1 i 1) (q.2.2.2.1 i 3 + n)))), (0, .ref h), (1, .int (nI dd)), (3, .int (nI 0)), (6, .int (nI n))]) hx hb dX7_nights_145 hl (k := 8) rfl (fr_inc1 _) (by decide) rfl (fun ls hl => ?_)
                refine lv_goto (tgt := 64) hx hb dX7_nights_148 (by decide) ?_
                exact ih_10 (x + (sd b (q.2.2.2.1 i 0) (q.2.2.2.1 i 2) (q.2.2.2.1 i 1) (q.2.2.2.1 i 3 + n))) (w + 0) (nxs z) (i + 1) (by omega) (by rw [ngs, ← hzz]; unfold ngt; dsimp only; rw [hg, show dpl b q.2.2.2.1 i (q.2.2.2.1 i 1) n = sd b (q.2.2.2.1 i 0) (q.2.2.2.1 i 2) (q.2.2.2.1 i 1) (q.2.2.2.1 i 3 + n) from rfl, xw hd9 (by decide)]; rfl) (nxs_lt _) (by omega) (by omega) (by omega) _ _ hP hD hS _ (lv_sub hl [5, 6, 7, 1, 2, 8, 0] rfl)
              · have hg : ngd (nxs z) = 1 := by unfold ngd; rw [if_pos (by omega)]
                refine lv_iconst (v := nI 1) hx hb dX7_nights_104 (by decide) ?_
                refine lv_goto (tgt := 109) hx hb dX7_nights_105 (by decide) ?_
                refine lv_istore (lv' := [(9, .int (nI 1)), (8, .int (nI (sd b (q.2.2.2.1 i 0) (q.2.2.2.1 i 2) (q.2.2.2.1 i 1) (q.2.2.2.1 i 3 + n)))), (0, .ref h), (1, .int (nI dd)), (3, .int (nI 0)), (4, .int (nI x)), (5, .int (nI w)), (6, .int (nI n)), (7, .int (nI i))]) hx hb dX7_nights_109 hl (by decide) rfl (fun ls hl => ?_)
                refine lv_iload hx hb dX7_nights_111 (lv_at hl 6 rfl) ?_
                refine lv_iload hx hb dX7_nights_113 (lv_at hl 0 rfl) ?_
                refine j_if_eq (tgt := 122) hx hb dX7_nights_115 (by decide) (nI_toInt (by decide)) (fun c_18 => absurd c_18 (by omega)) (fun c_18 => ?_)
                refine lv_iconst (v := nI 1) hx hb dX7_nights_118 (by decide) ?_
                refine lv_goto (tgt := 123) hx hb dX7_nights_119 (by decide) ?_
                refine n_iadd hx hb dX7_nights_123 ?_
                refine lv_istore (lv' := [(5, .int (nI (w + 1))), (9, .int (nI 1)), (8, .int (nI (sd b (q.2.2.2.1 i 0) (q.2.2.2.1 i 2) (q.2.2.2.1 i 1) (q.2.2.2.1 i 3 + n)))), (0, .ref h), (1, .int (nI dd)), (3, .int (nI 0)), (4, .int (nI x)), (6, .int (nI n)), (7, .int (nI i))]) hx hb dX7_nights_124 hl (by decide) rfl (fun ls hl => ?_)
                refine lv_iload hx hb dX7_nights_126 (lv_at hl 6 rfl) ?_
                refine lv_iload hx hb dX7_nights_128 (lv_at hl 1 rfl) ?_
                refine j_if_eq (tgt := 140) hx hb dX7_nights_130 (by decide) (nI_toInt (by decide)) (fun c_19 => absurd c_19 (by omega)) (fun c_19 => ?_)
                refine lv_iconst (v := nI 1) hx hb dX7_nights_133 (by decide) ?_
                refine lv_iload hx hb dX7_nights_134 (lv_at hl 2 rfl) ?_
                refine n_isub hx hb dX7_nights_136 (by omega) ?_
                refine lv_goto (tgt := 142) hx hb dX7_nights_137 (by decide) ?_
                refine n_iadd hx hb dX7_nights_142 ?_
                refine lv_istore (lv' := [(4, .int (nI (x + (1 - (sd b (q.2.2.2.1 i 0) (q.2.2.2.1 i 2) (q.2.2.2.1 i 1) (q.2.2.2.1 i 3 + n)))))), (5, .int (nI (w + 1))), (9, .int (nI 1)), (8, .int (nI (sd b (q.2.2.2.1 i 0) (q.2.2.2.1 i 2) (q.2.2.2.1 i 1) (q.2.2.2.1 i 3 + n)))), (0, .ref h), (1, .int (nI dd)), (3, .int (nI 0)), (6, .int (nI n)), (7, .int (nI i))]) hx hb dX7_nights_143 hl (by decide) rfl (fun ls hl => ?_)
                refine lv_iinc (v := nI (i + 1)) (lv' := [(7, .int (nI (i + 1))), (4, .int (nI (x + (1 - (sd b (q.2.2.2.1 i 0) (q.2.2.2.1 i 2) (q.2.2.2.1 i 1) (q.2.2.2.1 i 3 + n)))))), (5, .int (nI (w + 1))), (9, .int (nI 1)), (8, .int (nI (sd b (q.2.2.2.1 i 0) (q.2.2.2.1 i 2) (q.2.2.2.1 i 1) (q.2.2.2.1 i 3 + n)))), (0, .ref h), (1, .int (nI dd)), (3, .int (nI 0)), (6, .int (nI n))]) hx hb dX7_nights_145 hl (k := 8) rfl (fr_inc1 _) (by decide) rfl (fun ls hl => ?_)
                refine lv_goto (tgt := 64) hx hb dX7_nights_148 (by decide) ?_
                exact ih_10 (x + (1 - (sd b (q.2.2.2.1 i 0) (q.2.2.2.1 i 2) (q.2.2.2.1 i 1) (q.2.2.2.1 i 3 + n)))) (w + 1) (nxs z) (i + 1) (by omega) (by rw [ngs, ← hzz]; unfold ngt; dsimp only; rw [hg, show dpl b q.2.2.2.1 i (q.2.2.2.1 i 1) n = sd b (q.2.2.2.1 i 0) (q.2.2.2.1 i 2) (q.2.2.2.1 i 1) (q.2.2.2.1 i 3 + n) from rfl, xw hd9 (by decide)]; rfl) (nxs_lt _) (by omega) (by omega) (by omega) _ _ hP hD hS _ (lv_sub hl [5, 6, 7, 1, 2, 8, 0] rfl)
        exact K_9 (q.1 - 0 + 1) x w z 0 (by omega) (by rw [hz0]; rfl) (by omega) (by omega) (by omega) (Nat.lt_succ_self _) _ _ hP hD hS _ (lv_sub hl [1, 2, 3, 4, 5, 6, 0] rfl)
  exact K_5 (dd - 0 + 1) 0 0 y 0 (by omega) (rfl) (by omega) (by omega) (by omega) (Nat.lt_succ_self _) _ _ hP hD hS _ (lv_sub hl [3, 4, 6, 2, 1, 0] rfl)

set_option maxHeartbeats 4000000 in
set_option maxRecDepth 100000 in
theorem c_X7_nightsI1 (l : Launch) (D : va_G) (h : Nat) (g : Nat → Nat) (cI : ClassId) (sz : Nat) (J : Nat → Int32) (hz : Int64) (G : Nat → Nat → Int32) (b : Nat → Nat → Nat) (pn xr xi : Nat) (pc : Nat → Int32) (q kq : RS) (hF : MF b pn xr xi pc q kq J G) (hokz : ¬ q.1 = 0 → hok b) (hT : Tok q) (h0 : ¬ q.1 = 0) (dd : Nat) (hd1 : 1 ≤ dd) (hd2 : dd < 41) (y : Nat) (hy : y < 2 ^ 31) : WI l yX7_nights (wA yX7_nights cX7_nights 10 (some .int)) ({ frames := 3, cells := 0, slots := 0, locals := 73 }) D (iTys cI) (mW h g cI J hz G) sz [.ref h, .int (nI dd), .int (nI y), .int (nI 1)] (fun (r : Int32) (u : (Nat → Int32) × (Nat → Nat → Int32)) => r = (let z := ngo b q.2.2.2.1 q.1 (0, 0, y) dd; if 1 = 0 then nI z.1 else if 1 = 1 then nI z.2.1 else nI z.2.2) ∧ MF b pn xr xi pc q kq u.1 u.2) (fun u => mW h g cI u.1 hz u.2) := by
  refine rw_startI (by decide) (Nat.le_of_ble_eq_true rfl) ?_
  intro p e s m args below meth c ls A F hP hK hD hA hS hl
  obtain ⟨hx, hb, hr, hlocks, hml, hown, hts⟩ := F
  have hown : s.vm.findClass RX7 = some m.cls := hown
  have hl : lv_has ls 10 [(0, .ref h), (1, .int (nI dd)), (2, .int (nI y)), (3, .int (nI 1))] := hl
  have hM := hF.1
  have ht5 := hT.1
  have ht8 := hT.2.1
  have hok9 := hokz h0
  refine lv_iload_n hx hb dX7_nights_0 rfl (lv_at hl 1 rfl) ?_
  refine lv_i2l (v := lN dd) hx hb dX7_nights_1 (nI_l (by omega)) ?_
  refine lv_lconst (v := (1 : Int64)) hx hb dX7_nights_2 (by decide) ?_
  refine lv_ldc2 (v := (40 : Int64)) hx hb hown (hts _ mg_694) dX7_nights_3 ?_
  have e1 : (lN dd : Int64).toInt = ((dd : Nat) : Int) := lN_toInt (by omega)
  have e2 : ((1) : Int64).toInt = 1 := (by decide)
  have e3 : ((40 : Int64) : Int64).toInt = 40 := (by decide)
  refine ro_iS (n := 3) (As := [.long (lN dd), .long (1), .long (40 : Int64)]) ⟨hx, hb, hml, hown, hts⟩ (c_X7_inT l D (lN dd) ((1)) ((40 : Int64)) (by constructor <;> omega)) (cwS 3 hts (gS mg_534 mg_535 mg_8 mg_536) rfl rfl rfl vd_X7_in ⟨Nat.le_of_ble_eq_true rfl, Nat.le_of_ble_eq_true rfl⟩)  (hK.sub [] rfl) (fun k q h => by simp at h) rfl hl.1 rfl (Nat.le_of_ble_eq_true rfl) dX7_nights_6 ⟨Nat.zero_le _, Nat.zero_le _⟩ ?_
  refine j_if_eq (tgt := 28) hx hb dX7_nights_9 (by decide) (nI_toInt (by decide)) (fun c_1 => absurd c_1 (by omega)) (fun c_1 => ?_)
  refine lv_iload_n hx hb dX7_nights_12 rfl (lv_at hl 2 rfl) ?_
  refine j_if_lt (tgt := 28) hx hb dX7_nights_13 (by decide) (nI_toInt (by omega)) (fun c_2 => absurd c_2 (by omega)) (fun c_2 => ?_)
  refine lv_iload_n hx hb dX7_nights_16 rfl (lv_at hl 3 rfl) ?_
  refine lv_i2l (v := lN 1) hx hb dX7_nights_17 (nI_l (by omega)) ?_
  refine lv_lconst (v := (0 : Int64)) hx hb dX7_nights_18 (by decide) ?_
  refine lv_ldc2 (v := (2 : Int64)) hx hb hown (hts _ mg_695) dX7_nights_19 ?_
  have e1 : (lN 1 : Int64).toInt = ((1 : Nat) : Int) := lN_toInt (by omega)
  have e2 : ((0) : Int64).toInt = 0 := (by decide)
  have e3 : ((2 : Int64) : Int64).toInt = 2 := (by decide)
  refine ro_iS (n := 3) (As := [.long (lN 1), .long (0), .long (2 : Int64)]) ⟨hx, hb, hml, hown, hts⟩ (c_X7_inT l D (lN 1) ((0)) ((2 : Int64)) (by constructor <;> omega)) (cwS 3 hts (gS mg_534 mg_535 mg_8 mg_536) rfl rfl rfl vd_X7_in ⟨Nat.le_of_ble_eq_true rfl, Nat.le_of_ble_eq_true rfl⟩)  (hK.sub [] rfl) (fun k q h => by simp at h) rfl hl.1 rfl (Nat.le_of_ble_eq_true rfl) dX7_nights_22 ⟨Nat.zero_le _, Nat.zero_le _⟩ ?_
  refine j_if_ne (tgt := 31) hx hb dX7_nights_25 (by decide) (nI_toInt (by decide)) (fun c_3 => ?_) (fun c_3 => absurd c_3 (by omega))
  refine lv_aload_n hx hb dX7_nights_31 rfl (lv_at hl 0 rfl) ?_
  refine ro_iV (n := 0) (As := []) ⟨hx, hb, hml, hown, hts⟩ (c_X7_lacksF l D h g cI J hz G q b hM hT.1 h0) (cwV 0 hts (gV mg_573 mg_575 mg_1020 mg_8 mg_576) rfl rfl rfl vd_X7_lacks ⟨Nat.le_of_ble_eq_true rfl, Nat.le_of_ble_eq_true rfl⟩) (va_recv hK hP (ci := 7) (q0 := 0) rfl rfl) hK hP rfl hl.1 rfl (Nat.le_of_ble_eq_true rfl) dX7_nights_32 ⟨Nat.zero_le _, Nat.zero_le _⟩ ?_
  refine j_if_eq (tgt := 41) hx hb dX7_nights_35 (by decide) (nI_toInt (by decide)) (fun c_4 => ?_) (fun c_4 => absurd c_4 (by omega))
  refine lv_aload_n hx hb dX7_nights_41 rfl (lv_at hl 0 rfl) ?_
  refine lv_iload_n hx hb dX7_nights_42 rfl (lv_at hl 2 rfl) ?_
  refine va_put (D := D) (ci := 7) (v := .int (nI y)) (ty := .int) (C := RX7) (T := TX7) (N := 22) hx hb hts iX7 tyX7 tyX7_ok nmX7 hown hK hP hD hS 0 rfl rfl 14 (by decide) (hts _ mg_476) (fun _ h9 => h9) rfl (tyX7_ok 14 (by decide)) rfl rfl (Nat.le_of_ble_eq_true rfl) dX7_nights_43 (fun H locs hP hD hS => ?_)
  have hP : va_P D vwCl (mW h g cI (upd J 14 (nI y)) hz G) H := hP
  have hD : va_D A (mW h g cI (upd J 14 (nI y)) hz G) := hD
  refine lv_iconst (v := nI 0) hx hb dX7_nights_46 (by decide) ?_
  refine lv_istore (lv' := [(4, .int (nI 0)), (0, .ref h), (1, .int (nI dd)), (2, .int (nI y)), (3, .int (nI 1))]) hx hb dX7_nights_47 hl (by decide) rfl (fun ls hl => ?_)
  refine lv_iconst (v := nI 0) hx hb dX7_nights_49 (by decide) ?_
  refine lv_istore (lv' := [(5, .int (nI 0)), (4, .int (nI 0)), (0, .ref h), (1, .int (nI dd)), (2, .int (nI y)), (3, .int (nI 1))]) hx hb dX7_nights_50 hl (by decide) rfl (fun ls hl => ?_)
  refine lv_iconst (v := nI 0) hx hb dX7_nights_52 (by decide) ?_
  refine lv_istore (lv' := [(6, .int (nI 0)), (5, .int (nI 0)), (4, .int (nI 0)), (0, .ref h), (1, .int (nI dd)), (2, .int (nI y)), (3, .int (nI 1))]) hx hb dX7_nights_53 hl (by decide) rfl (fun ls hl => ?_)
  have K_5 : ∀ n9 : Nat, ∀ (x : Nat) (w : Nat) (z : Nat) (n : Nat), n ≤ dd → (x, w, z) = (ngo b q.2.2.2.1 q.1 (0, 0, y) n) → z < 2 ^ 31 → x ≤ 5 * n → w ≤ 5 * n → dd - n < n9 → ∀ (H : Heap) (locs : List Loc), va_P D vwCl (mW h g cI (upd J 14 (nI z)) hz G) H → va_D A (mW h g cI (upd J 14 (nI z)) hz G) → va_S A s.heap H locs → ∀ ls : Array Slot, lv_has ls 10 [(0, .ref h), (1, .int (nI dd)), (3, .int (nI 1)), (4, .int (nI x)), (5, .int (nI w)), (6, .int (nI n))] → W p l e (headSpec (wA yX7_nights cX7_nights 10 (some .int)) ({ frames := 3, cells := 0, slots := 0, locals := 73 })).room s m args below meth c H locs 0 0 (MQ below (va_Qi (fun (r : Int32) (u : (Nat → Int32) × (Nat → Nat → Int32)) => r = (let z := ngo b q.2.2.2.1 q.1 (0, 0, y) dd; if 1 = 0 then nI z.1 else if 1 = 1 then nI z.2.1 else nI z.2.2) ∧ MF b pn xr xi pc q kq u.1 u.2) (fun u t => wB D (iTys cI) A ((fun u => mW h g cI u.1 hz u.2) u) t) A) args s 0 0 A) (F0 m 55 ls []) := by
    intro n9
    induction n9 with
    | zero => intros; omega
    | succ n9 ih_6 =>
      intro x w z n hn hz0 hzl0 hxl0 hwl0 hn9 H locs hP hD hS ls hl
      refine lv_iload hx hb dX7_nights_55 (lv_at hl 5 rfl) ?_
      refine lv_iload_n hx hb dX7_nights_57 rfl (lv_at hl 1 rfl) ?_
      refine j_icmp_ge (tgt := 157) hx hb dX7_nights_58 (by decide) (nI_toInt (by omega)) (nI_toInt (by omega)) (fun c_7 => ?_) (fun c_7 => ?_)
      · refine lv_iload_n hx hb dX7_nights_157 rfl (lv_at hl 2 rfl) ?_
        refine j_if_ne (tgt := 166) hx hb dX7_nights_158 (by decide) (nI_toInt (by decide)) (fun c_8 => ?_) (fun c_8 => absurd c_8 (by omega))
        refine lv_iload_n hx hb dX7_nights_166 rfl (lv_at hl 2 rfl) ?_
        refine lv_iconst (v := nI 1) hx hb dX7_nights_167 (by decide) ?_
        refine j_icmp_ne (tgt := 176) hx hb dX7_nights_168 (by decide) (nI_toInt (by decide)) (nI_toInt (by decide)) (fun c_9 => absurd c_9 (by omega)) (fun c_9 => ?_)
        refine lv_iload hx hb dX7_nights_171 (lv_at hl 4 rfl) ?_
        refine lv_goto (tgt := 180) hx hb dX7_nights_173 (by decide) ?_
        exact rw_iret (wp := (fun u => mW h g cI u.1 hz u.2)) (post := (fun (r : Int32) (u : (Nat → Int32) × (Nat → Nat → Int32)) => r = (let z := ngo b q.2.2.2.1 q.1 (0, 0, y) dd; if 1 = 0 then nI z.1 else if 1 = 1 then nI z.2.1 else nI z.2.2) ∧ MF b pn xr xi pc q kq u.1 u.2)) (upd J 14 (nI z), G) hx hb hr hlocks hK hP hD hS (rfl) (⟨by dsimp only; rw [show dd = n by omega, ← hz0]; rfl, hF⟩) dX7_nights_180
      · refine lv_iconst (v := nI 0) hx hb dX7_nights_61 (by decide) ?_
        refine lv_istore (lv' := [(7, .int (nI 0)), (0, .ref h), (1, .int (nI dd)), (3, .int (nI 1)), (4, .int (nI x)), (5, .int (nI w)), (6, .int (nI n))]) hx hb dX7_nights_62 hl (by decide) rfl (fun ls hl => ?_)
        have K_10 : ∀ n9 : Nat, ∀ (x : Nat) (w : Nat) (z : Nat) (i : Nat), i ≤ q.1 → (x, w, z) = (ngs b q.2.2.2.1 n (ngo b q.2.2.2.1 q.1 (0, 0, y) n) i) → z < 2 ^ 31 → x ≤ 5 * n + i → w ≤ 5 * n + i → q.1 - i < n9 → ∀ (H : Heap) (locs : List Loc), va_P D vwCl (mW h g cI (upd J 14 (nI z)) hz G) H → va_D A (mW h g cI (upd J 14 (nI z)) hz G) → va_S A s.heap H locs → ∀ ls : Array Slot, lv_has ls 10 [(0, .ref h), (1, .int (nI dd)), (3, .int (nI 1)), (4, .int (nI x)), (5, .int (nI w)), (6, .int (nI n)), (7, .int (nI i))] → W p l e (headSpec (wA yX7_nights cX7_nights 10 (some .int)) ({ frames := 3, cells := 0, slots := 0, locals := 73 })).room s m args below meth c H locs 0 0 (MQ below (va_Qi (fun (r : Int32) (u : (Nat → Int32) × (Nat → Nat → Int32)) => r = (let z := ngo b q.2.2.2.1 q.1 (0, 0, y) dd; if 1 = 0 then nI z.1 else if 1 = 1 then nI z.2.1 else nI z.2.2) ∧ MF b pn xr xi pc q kq u.1 u.2) (fun u t => wB D (iTys cI) A ((fun u => mW h g cI u.1 hz u.2) u) t) A) args s 0 0 A) (F0 m 64 ls []) := by
          intro n9
          induction n9 with
          | zero => intros; omega
          | succ n9 ih_11 =>
            intro x w z i hi hzz hzl hxl hwl hn9 H locs hP hD hS ls hl
            refine lv_iload hx hb dX7_nights_64 (lv_at hl 6 rfl) ?_
            refine lv_aload_n hx hb dX7_nights_66 rfl (lv_at hl 0 rfl) ?_
            refine va_get (D := D) (ci := 7) (v := .int (nI q.1)) (C := RX7) (T := TX7) (N := 22) hx hb hts iX7 hown hK hP 0 rfl rfl 7 (by decide) (hts _ mg_469) (fun _ h9 => h9) (congrArg (fun z => some (Value.int z)) (MR_7 hM)) dX7_nights_67 ?_
            refine j_icmp_ge (tgt := 151) hx hb dX7_nights_70 (by decide) (nI_toInt (by omega)) (nI_toInt (by omega)) (fun c_12 => ?_) (fun c_12 => ?_)
            · refine lv_iinc (v := nI (n + 1)) (lv' := [(6, .int (nI (n + 1))), (0, .ref h), (1, .int (nI dd)), (3, .int (nI 1)), (4, .int (nI x)), (5, .int (nI w)), (7, .int (nI i))]) hx hb dX7_nights_151 hl (k := 5) rfl (fr_inc1 _) (by decide) rfl (fun ls hl => ?_)
              refine lv_goto (tgt := 55) hx hb dX7_nights_154 (by decide) ?_
              exact ih_6 x w z (n + 1) (by omega) (by rw [hzz, show i = q.1 by omega]; rfl) (hzl) (by omega) (by omega) (by omega) _ _ hP hD hS _ (lv_sub hl [1, 2, 3, 4, 5, 0] rfl)
            · obtain ⟨hk0, hv0, hw0, hp0⟩ := hT.2.2.1 i (by omega)
              refine lv_aload_n hx hb dX7_nights_73 rfl (lv_at hl 0 rfl) ?_
              refine lv_iload hx hb dX7_nights_74 (lv_at hl 6 rfl) ?_
              refine lv_aload_n hx hb dX7_nights_76 rfl (lv_at hl 0 rfl) ?_
              refine va_get (D := D) (ci := 7) (v := .ref (g 11)) (C := RX7) (T := TX7) (N := 22) hx hb hts iX7 hown hK hP 0 rfl rfl 11 (by decide) (hts _ mg_473) (fun _ h9 => h9) rfl dX7_nights_77 ?_
              refine lv_iconst (v := nI 4) hx hb dX7_nights_80 (by decide) ?_
              refine lv_iload hx hb dX7_nights_81 (lv_at hl 6 rfl) ?_
              refine n_imul hx hb dX7_nights_83 ?_
              refine lv_iconst (v := nI 3) hx hb dX7_nights_84 (by decide) ?_
              refine n_iadd hx hb dX7_nights_85 ?_
              refine n_aldi hx hb hK hP 5 0 rfl rfl (by omega) (by decide) (v := nI (q.2.2.2.1 i 3)) (MR_row hM (by omega) (by omega)) dX7_nights_86 ?_
              refine lv_iload hx hb dX7_nights_87 (lv_at hl 5 rfl) ?_
              refine n_iadd hx hb dX7_nights_89 ?_
              refine ro_iV (n := 2) (As := [.int (nI i), .int (nI ((q.2.2.2.1 i 3) + n))]) ⟨hx, hb, hml, hown, hts⟩ (c_X7_dripOf l D h g cI (upd J 14 (nI z)) hz G b q hM hok9 hT i (by omega) (q.2.2.2.1 i 3 + n) (by omega)) (cwV 2 hts (gV mg_645 mg_647 mg_1032 mg_8 mg_648) rfl rfl rfl vd_X7_dripOf ⟨Nat.le_of_ble_eq_true rfl, Nat.le_of_ble_eq_true rfl⟩) (va_recv hK hP (ci := 7) (q0 := 0) rfl rfl) hK hP rfl hl.1 rfl (Nat.le_of_ble_eq_true rfl) dX7_nights_90 ⟨Nat.zero_le _, Nat.zero_le _⟩ ?_
              have hd9 := sd_le hok9 (kd := q.2.2.2.1 i 0) (w := q.2.2.2.1 i 2) (n := q.2.2.2.1 i 3 + n) (v := q.2.2.2.1 i 1) (by omega)
              refine lv_istore (lv' := [(8, .int (nI (sd b (q.2.2.2.1 i 0) (q.2.2.2.1 i 2) (q.2.2.2.1 i 1) (q.2.2.2.1 i 3 + n)))), (0, .ref h), (1, .int (nI dd)), (3, .int (nI 1)), (4, .int (nI x)), (5, .int (nI w)), (6, .int (nI n)), (7, .int (nI i))]) hx hb dX7_nights_93 hl (by decide) rfl (fun ls hl => ?_)
              refine lv_aload_n hx hb dX7_nights_95 rfl (lv_at hl 1 rfl) ?_
              refine lv_bipush (v := nI 8) hx hb dX7_nights_96 (by decide) ?_
              refine rw_iV (X := []) (Y := []) (n := 1) (As := [.int (nI 8)]) ⟨hx, hb, hml, hown, hts⟩ (c_X7_draw l D h g cI _ (upd J 14 (nI z)) hz G z hzl rfl) (cwV 1 hts (gV mg_696 mg_698 mg_1036 mg_8 mg_699) rfl rfl rfl vd_X7_draw ⟨Nat.le_of_ble_eq_true rfl, Nat.le_of_ble_eq_true rfl⟩) (va_recv hK hP (ci := 7) (q0 := 0) rfl rfl) hK hP hD hS hA rfl hl.1 rfl (Nat.le_of_ble_eq_true rfl) dX7_nights_98 ⟨Nat.zero_le _, Nat.zero_le _⟩ (fun r_15 u_13 H locs w_14 hP hD hS => ?_)
              have hP : va_P D vwCl (mW h g cI (upd J 14 (nI (nxs z))) hz G) H := hP
              have hD : va_D A (mW h g cI (upd J 14 (nI (nxs z))) hz G) := hD
              refine n_top w_14 ?_
              refine j_if_ne (tgt := 108) hx hb dX7_nights_101 (by decide) (nI_toInt (by omega)) (fun c_16 => ?_) (fun c_16 => ?_)
              · have hg : ngd (nxs z) = 0 := by unfold ngd; rw [if_neg (by omega)]
                refine lv_iconst (v := nI 0) hx hb dX7_nights_108 (by decide) ?_
                refine lv_istore (lv' := [(9, .int (nI 0)), (8, .int (nI (sd b (q.2.2.2.1 i 0) (q.2.2.2.1 i 2) (q.2.2.2.1 i 1) (q.2.2.2.1 i 3 + n)))), (0, .ref h), (1, .int (nI dd)), (3, .int (nI 1)), (4, .int (nI x)), (5, .int (nI w)), (6, .int (nI n)), (7, .int (nI i))]) hx hb dX7_nights_109 hl (by decide) rfl (fun ls hl => ?_)
                refine lv_iload hx hb dX7_nights_111 (lv_at hl 6 rfl) ?_
                refine lv_iload hx hb dX7_nights_113 (lv_at hl 0 rfl) ?_
                refine j_if_eq (tgt := 122) hx hb dX7_nights_115 (by decide) (nI_toInt (by decide)) (fun c_17 => ?_) (fun c_17 => absurd c_17 (by omega))
                refine lv_iconst (v := nI 0) hx hb dX7_nights_122 (by decide) ?_
                refine n_iadd hx hb dX7_nights_123 ?_
                refine lv_istore (lv' := [(5, .int (nI (w + 0))), (9, .int (nI 0)), (8, .int (nI (sd b (q.2.2.2.1 i 0) (q.2.2.2.1 i 2) (q.2.2.2.1 i 1) (q.2.2.2.1 i 3 + n)))), (0, .ref h), (1, .int (nI dd)), (3, .int (nI 1)), (4, .int (nI x)), (6, .int (nI n)), (7, .int (nI i))]) hx hb dX7_nights_124 hl (by decide) rfl (fun ls hl => ?_)
                refine lv_iload hx hb dX7_nights_126 (lv_at hl 6 rfl) ?_
                refine lv_iload hx hb dX7_nights_128 (lv_at hl 1 rfl) ?_
                refine j_if_eq (tgt := 140) hx hb dX7_nights_130 (by decide) (nI_toInt (by decide)) (fun c_18 => ?_) (fun c_18 => absurd c_18 (by omega))
                refine lv_iload hx hb dX7_nights_140 (lv_at hl 2 rfl) ?_
                refine n_iadd hx hb dX7_nights_142 ?_
                refine lv_istore (lv' := [(4, .int (nI (x + (sd b (q.2.2.2.1 i 0) (q.2.2.2.1 i 2) (q.2.2.2.1 i 1) (q.2.2.2.1 i 3 + n))))), (5, .int (nI (w + 0))), (9, .int (nI 0)), (8, .int (nI (sd b (q.2.2.2.1 i 0) (q.2.2.2.1 i 2) (q.2.2.2.1 i 1) (q.2.2.2.1 i 3 + n)))), (0, .ref h), (1, .int (nI dd)), (3, .int (nI 1)), (6, .int (nI n)), (7, .int (nI i))]) hx hb dX7_nights_143 hl (by decide) rfl (fun ls hl => ?_)
                refine lv_iinc (v := nI (i + 1)) (lv' := [(7, .int (nI (i + 1))), (4, .int (nI (x + (sd b (q.2.2.2.1 i 0) (q.2.2.2.1 i 2) (q.2.2.2.1 i 1) (q.2.2.2.1 i 3 + n))))), (5, .int (nI (w + 0))), (9, .int (nI 0)), (8, .int (nI (sd b (q.2.2.2.1 i 0) (q.2.2.2.1 i 2) (q.2.2.2.1 i 1) (q.2.2.2.1 i 3 + n)))), (0, .ref h), (1, .int (nI dd)), (3, .int (nI 1)), (6, .int (nI n))]) hx hb dX7_nights_145 hl (k := 8) rfl (fr_inc1 _) (by decide) rfl (fun ls hl => ?_)
                refine lv_goto (tgt := 64) hx hb dX7_nights_148 (by decide) ?_
                exact ih_11 (x + (sd b (q.2.2.2.1 i 0) (q.2.2.2.1 i 2) (q.2.2.2.1 i 1) (q.2.2.2.1 i 3 + n))) (w + 0) (nxs z) (i + 1) (by omega) (by rw [ngs, ← hzz]; unfold ngt; dsimp only; rw [hg, show dpl b q.2.2.2.1 i (q.2.2.2.1 i 1) n = sd b (q.2.2.2.1 i 0) (q.2.2.2.1 i 2) (q.2.2.2.1 i 1) (q.2.2.2.1 i 3 + n) from rfl, xw hd9 (by decide)]; rfl) (nxs_lt _) (by omega) (by omega) (by omega) _ _ hP hD hS _ (lv_sub hl [5, 6, 7, 1, 2, 8, 0] rfl)
              · have hg : ngd (nxs z) = 1 := by unfold ngd; rw [if_pos (by omega)]
                refine lv_iconst (v := nI 1) hx hb dX7_nights_104 (by decide) ?_
                refine lv_goto (tgt := 109) hx hb dX7_nights_105 (by decide) ?_
                refine lv_istore (lv' := [(9, .int (nI 1)), (8, .int (nI (sd b (q.2.2.2.1 i 0) (q.2.2.2.1 i 2) (q.2.2.2.1 i 1) (q.2.2.2.1 i 3 + n)))), (0, .ref h), (1, .int (nI dd)), (3, .int (nI 1)), (4, .int (nI x)), (5, .int (nI w)), (6, .int (nI n)), (7, .int (nI i))]) hx hb dX7_nights_109 hl (by decide) rfl (fun ls hl => ?_)
                refine lv_iload hx hb dX7_nights_111 (lv_at hl 6 rfl) ?_
                refine lv_iload hx hb dX7_nights_113 (lv_at hl 0 rfl) ?_
                refine j_if_eq (tgt := 122) hx hb dX7_nights_115 (by decide) (nI_toInt (by decide)) (fun c_19 => absurd c_19 (by omega)) (fun c_19 => ?_)
                refine lv_iconst (v := nI 1) hx hb dX7_nights_118 (by decide) ?_
                refine lv_goto (tgt := 123) hx hb dX7_nights_119 (by decide) ?_
                refine n_iadd hx hb dX7_nights_123 ?_
                refine lv_istore (lv' := [(5, .int (nI (w + 1))), (9, .int (nI 1)), (8, .int (nI (sd b (q.2.2.2.1 i 0) (q.2.2.2.1 i 2) (q.2.2.2.1 i 1) (q.2.2.2.1 i 3 + n)))), (0, .ref h), (1, .int (nI dd)), (3, .int (nI 1)), (4, .int (nI x)), (6, .int (nI n)), (7, .int (nI i))]) hx hb dX7_nights_124 hl (by decide) rfl (fun ls hl => ?_)
                refine lv_iload hx hb dX7_nights_126 (lv_at hl 6 rfl) ?_
                refine lv_iload hx hb dX7_nights_128 (lv_at hl 1 rfl) ?_
                refine j_if_eq (tgt := 140) hx hb dX7_nights_130 (by decide) (nI_toInt (by decide)) (fun c_20 => absurd c_20 (by omega)) (fun c_20 => ?_)
                refine lv_iconst (v := nI 1) hx hb dX7_nights_133 (by decide) ?_
                refine lv_iload hx hb dX7_nights_134 (lv_at hl 2 rfl) ?_
                refine n_isub hx hb dX7_nights_136 (by omega) ?_
                refine lv_goto (tgt := 142) hx hb dX7_nights_137 (by decide) ?_
                refine n_iadd hx hb dX7_nights_142 ?_
                refine lv_istore (lv' := [(4, .int (nI (x + (1 - (sd b (q.2.2.2.1 i 0) (q.2.2.2.1 i 2) (q.2.2.2.1 i 1) (q.2.2.2.1 i 3 + n)))))), (5, .int (nI (w + 1))), (9, .int (nI 1)), (8, .int (nI (sd b (q.2.2.2.1 i 0) (q.2.2.2.1 i 2) (q.2.2.2.1 i 1) (q.2.2.2.1 i 3 + n)))), (0, .ref h), (1, .int (nI dd)), (3, .int (nI 1)), (6, .int (nI n)), (7, .int (nI i))]) hx hb dX7_nights_143 hl (by decide) rfl (fun ls hl => ?_)
                refine lv_iinc (v := nI (i + 1)) (lv' := [(7, .int (nI (i + 1))), (4, .int (nI (x + (1 - (sd b (q.2.2.2.1 i 0) (q.2.2.2.1 i 2) (q.2.2.2.1 i 1) (q.2.2.2.1 i 3 + n)))))), (5, .int (nI (w + 1))), (9, .int (nI 1)), (8, .int (nI (sd b (q.2.2.2.1 i 0) (q.2.2.2.1 i 2) (q.2.2.2.1 i 1) (q.2.2.2.1 i 3 + n)))), (0, .ref h), (1, .int (nI dd)), (3, .int (nI 1)), (6, .int (nI n))]) hx hb dX7_nights_145 hl (k := 8) rfl (fr_inc1 _) (by decide) rfl (fun ls hl => ?_)
                refine lv_goto (tgt := 64) hx hb dX7_nights_148 (by decide) ?_
                exact ih_11 (x + (1 - (sd b (q.2.2.2.1 i 0) (q.2.2.2.1 i 2) (q.2.2.2.1 i 1) (q.2.2.2.1 i 3 + n)))) (w + 1) (nxs z) (i + 1) (by omega) (by rw [ngs, ← hzz]; unfold ngt; dsimp only; rw [hg, show dpl b q.2.2.2.1 i (q.2.2.2.1 i 1) n = sd b (q.2.2.2.1 i 0) (q.2.2.2.1 i 2) (q.2.2.2.1 i 1) (q.2.2.2.1 i 3 + n) from rfl, xw hd9 (by decide)]; rfl) (nxs_lt _) (by omega) (by omega) (by omega) _ _ hP hD hS _ (lv_sub hl [5, 6, 7, 1, 2, 8, 0] rfl)
        exact K_10 (q.1 - 0 + 1) x w z 0 (by omega) (by rw [hz0]; rfl) (by omega) (by omega) (by omega) (Nat.lt_succ_self _) _ _ hP hD hS _ (lv_sub hl [1, 2, 3, 4, 5, 6, 0] rfl)
  exact K_5 (dd - 0 + 1) 0 0 y 0 (by omega) (rfl) (by omega) (by omega) (by omega) (Nat.lt_succ_self _) _ _ hP hD hS _ (lv_sub hl [3, 4, 6, 2, 1, 0] rfl)

set_option maxHeartbeats 4000000 in
set_option maxRecDepth 100000 in
theorem c_X7_nightsI2 (l : Launch) (D : va_G) (h : Nat) (g : Nat → Nat) (cI : ClassId) (sz : Nat) (J : Nat → Int32) (hz : Int64) (G : Nat → Nat → Int32) (b : Nat → Nat → Nat) (pn xr xi : Nat) (pc : Nat → Int32) (q kq : RS) (hF : MF b pn xr xi pc q kq J G) (hokz : ¬ q.1 = 0 → hok b) (hT : Tok q) (h0 : ¬ q.1 = 0) (dd : Nat) (hd1 : 1 ≤ dd) (hd2 : dd < 41) (y : Nat) (hy : y < 2 ^ 31) : WI l yX7_nights (wA yX7_nights cX7_nights 10 (some .int)) ({ frames := 3, cells := 0, slots := 0, locals := 73 }) D (iTys cI) (mW h g cI J hz G) sz [.ref h, .int (nI dd), .int (nI y), .int (nI 2)] (fun (r : Int32) (u : (Nat → Int32) × (Nat → Nat → Int32)) => r = (let z := ngo b q.2.2.2.1 q.1 (0, 0, y) dd; if 2 = 0 then nI z.1 else if 2 = 1 then nI z.2.1 else nI z.2.2) ∧ MF b pn xr xi pc q kq u.1 u.2) (fun u => mW h g cI u.1 hz u.2) := by
  refine rw_startI (by decide) (Nat.le_of_ble_eq_true rfl) ?_
  intro p e s m args below meth c ls A F hP hK hD hA hS hl
  obtain ⟨hx, hb, hr, hlocks, hml, hown, hts⟩ := F
  have hown : s.vm.findClass RX7 = some m.cls := hown
  have hl : lv_has ls 10 [(0, .ref h), (1, .int (nI dd)), (2, .int (nI y)), (3, .int (nI 2))] := hl
  have hM := hF.1
  have ht5 := hT.1
  have ht8 := hT.2.1
  have hok9 := hokz h0
  refine lv_iload_n hx hb dX7_nights_0 rfl (lv_at hl 1 rfl) ?_
  refine lv_i2l (v := lN dd) hx hb dX7_nights_1 (nI_l (by omega)) ?_
  refine lv_lconst (v := (1 : Int64)) hx hb dX7_nights_2 (by decide) ?_
  refine lv_ldc2 (v := (40 : Int64)) hx hb hown (hts _ mg_694) dX7_nights_3 ?_
  have e1 : (lN dd : Int64).toInt = ((dd : Nat) : Int) := lN_toInt (by omega)
  have e2 : ((1) : Int64).toInt = 1 := (by decide)
  have e3 : ((40 : Int64) : Int64).toInt = 40 := (by decide)
  refine ro_iS (n := 3) (As := [.long (lN dd), .long (1), .long (40 : Int64)]) ⟨hx, hb, hml, hown, hts⟩ (c_X7_inT l D (lN dd) ((1)) ((40 : Int64)) (by constructor <;> omega)) (cwS 3 hts (gS mg_534 mg_535 mg_8 mg_536) rfl rfl rfl vd_X7_in ⟨Nat.le_of_ble_eq_true rfl, Nat.le_of_ble_eq_true rfl⟩)  (hK.sub [] rfl) (fun k q h => by simp at h) rfl hl.1 rfl (Nat.le_of_ble_eq_true rfl) dX7_nights_6 ⟨Nat.zero_le _, Nat.zero_le _⟩ ?_
  refine j_if_eq (tgt := 28) hx hb dX7_nights_9 (by decide) (nI_toInt (by decide)) (fun c_1 => absurd c_1 (by omega)) (fun c_1 => ?_)
  refine lv_iload_n hx hb dX7_nights_12 rfl (lv_at hl 2 rfl) ?_
  refine j_if_lt (tgt := 28) hx hb dX7_nights_13 (by decide) (nI_toInt (by omega)) (fun c_2 => absurd c_2 (by omega)) (fun c_2 => ?_)
  refine lv_iload_n hx hb dX7_nights_16 rfl (lv_at hl 3 rfl) ?_
  refine lv_i2l (v := lN 2) hx hb dX7_nights_17 (nI_l (by omega)) ?_
  refine lv_lconst (v := (0 : Int64)) hx hb dX7_nights_18 (by decide) ?_
  refine lv_ldc2 (v := (2 : Int64)) hx hb hown (hts _ mg_695) dX7_nights_19 ?_
  have e1 : (lN 2 : Int64).toInt = ((2 : Nat) : Int) := lN_toInt (by omega)
  have e2 : ((0) : Int64).toInt = 0 := (by decide)
  have e3 : ((2 : Int64) : Int64).toInt = 2 := (by decide)
  refine ro_iS (n := 3) (As := [.long (lN 2), .long (0), .long (2 : Int64)]) ⟨hx, hb, hml, hown, hts⟩ (c_X7_inT l D (lN 2) ((0)) ((2 : Int64)) (by constructor <;> omega)) (cwS 3 hts (gS mg_534 mg_535 mg_8 mg_536) rfl rfl rfl vd_X7_in ⟨Nat.le_of_ble_eq_true rfl, Nat.le_of_ble_eq_true rfl⟩)  (hK.sub [] rfl) (fun k q h => by simp at h) rfl hl.1 rfl (Nat.le_of_ble_eq_true rfl) dX7_nights_22 ⟨Nat.zero_le _, Nat.zero_le _⟩ ?_
  refine j_if_ne (tgt := 31) hx hb dX7_nights_25 (by decide) (nI_toInt (by decide)) (fun c_3 => ?_) (fun c_3 => absurd c_3 (by omega))
  refine lv_aload_n hx hb dX7_nights_31 rfl (lv_at hl 0 rfl) ?_
  refine ro_iV (n := 0) (As := []) ⟨hx, hb, hml, hown, hts⟩ (c_X7_lacksF l D h g cI J hz G q b hM hT.1 h0) (cwV 0 hts (gV mg_573 mg_575 mg_1020 mg_8 mg_576) rfl rfl rfl vd_X7_lacks ⟨Nat.le_of_ble_eq_true rfl, Nat.le_of_ble_eq_true rfl⟩) (va_recv hK hP (ci := 7) (q0 := 0) rfl rfl) hK hP rfl hl.1 rfl (Nat.le_of_ble_eq_true rfl) dX7_nights_32 ⟨Nat.zero_le _, Nat.zero_le _⟩ ?_
  refine j_if_eq (tgt := 41) hx hb dX7_nights_35 (by decide) (nI_toInt (by decide)) (fun c_4 => ?_) (fun c_4 => absurd c_4 (by omega))
  refine lv_aload_n hx hb dX7_nights_41 rfl (lv_at hl 0 rfl) ?_
  refine lv_iload_n hx hb dX7_nights_42 rfl (lv_at hl 2 rfl) ?_
  refine va_put (D := D) (ci := 7) (v := .int (nI y)) (ty := .int) (C := RX7) (T := TX7) (N := 22) hx hb hts iX7 tyX7 tyX7_ok nmX7 hown hK hP hD hS 0 rfl rfl 14 (by decide) (hts _ mg_476) (fun _ h9 => h9) rfl (tyX7_ok 14 (by decide)) rfl rfl (Nat.le_of_ble_eq_true rfl) dX7_nights_43 (fun H locs hP hD hS => ?_)
  have hP : va_P D vwCl (mW h g cI (upd J 14 (nI y)) hz G) H := hP
  have hD : va_D A (mW h g cI (upd J 14 (nI y)) hz G) := hD
  refine lv_iconst (v := nI 0) hx hb dX7_nights_46 (by decide) ?_
  refine lv_istore (lv' := [(4, .int (nI 0)), (0, .ref h), (1, .int (nI dd)), (2, .int (nI y)), (3, .int (nI 2))]) hx hb dX7_nights_47 hl (by decide) rfl (fun ls hl => ?_)
  refine lv_iconst (v := nI 0) hx hb dX7_nights_49 (by decide) ?_
  refine lv_istore (lv' := [(5, .int (nI 0)), (4, .int (nI 0)), (0, .ref h), (1, .int (nI dd)), (2, .int (nI y)), (3, .int (nI 2))]) hx hb dX7_nights_50 hl (by decide) rfl (fun ls hl => ?_)
  refine lv_iconst (v := nI 0) hx hb dX7_nights_52 (by decide) ?_
  refine lv_istore (lv' := [(6, .int (nI 0)), (5, .int (nI 0)), (4, .int (nI 0)), (0, .ref h), (1, .int (nI dd)), (2, .int (nI y)), (3, .int (nI 2))]) hx hb dX7_nights_53 hl (by decide) rfl (fun ls hl => ?_)
  have K_5 : ∀ n9 : Nat, ∀ (x : Nat) (w : Nat) (z : Nat) (n : Nat), n ≤ dd → (x, w, z) = (ngo b q.2.2.2.1 q.1 (0, 0, y) n) → z < 2 ^ 31 → x ≤ 5 * n → w ≤ 5 * n → dd - n < n9 → ∀ (H : Heap) (locs : List Loc), va_P D vwCl (mW h g cI (upd J 14 (nI z)) hz G) H → va_D A (mW h g cI (upd J 14 (nI z)) hz G) → va_S A s.heap H locs → ∀ ls : Array Slot, lv_has ls 10 [(0, .ref h), (1, .int (nI dd)), (3, .int (nI 2)), (4, .int (nI x)), (5, .int (nI w)), (6, .int (nI n))] → W p l e (headSpec (wA yX7_nights cX7_nights 10 (some .int)) ({ frames := 3, cells := 0, slots := 0, locals := 73 })).room s m args below meth c H locs 0 0 (MQ below (va_Qi (fun (r : Int32) (u : (Nat → Int32) × (Nat → Nat → Int32)) => r = (let z := ngo b q.2.2.2.1 q.1 (0, 0, y) dd; if 2 = 0 then nI z.1 else if 2 = 1 then nI z.2.1 else nI z.2.2) ∧ MF b pn xr xi pc q kq u.1 u.2) (fun u t => wB D (iTys cI) A ((fun u => mW h g cI u.1 hz u.2) u) t) A) args s 0 0 A) (F0 m 55 ls []) := by
    intro n9
    induction n9 with
    | zero => intros; omega
    | succ n9 ih_6 =>
      intro x w z n hn hz0 hzl0 hxl0 hwl0 hn9 H locs hP hD hS ls hl
      refine lv_iload hx hb dX7_nights_55 (lv_at hl 5 rfl) ?_
      refine lv_iload_n hx hb dX7_nights_57 rfl (lv_at hl 1 rfl) ?_
      refine j_icmp_ge (tgt := 157) hx hb dX7_nights_58 (by decide) (nI_toInt (by omega)) (nI_toInt (by omega)) (fun c_7 => ?_) (fun c_7 => ?_)
      · refine lv_iload_n hx hb dX7_nights_157 rfl (lv_at hl 2 rfl) ?_
        refine j_if_ne (tgt := 166) hx hb dX7_nights_158 (by decide) (nI_toInt (by decide)) (fun c_8 => ?_) (fun c_8 => absurd c_8 (by omega))
        refine lv_iload_n hx hb dX7_nights_166 rfl (lv_at hl 2 rfl) ?_
        refine lv_iconst (v := nI 1) hx hb dX7_nights_167 (by decide) ?_
        refine j_icmp_ne (tgt := 176) hx hb dX7_nights_168 (by decide) (nI_toInt (by decide)) (nI_toInt (by decide)) (fun c_9 => ?_) (fun c_9 => absurd c_9 (by omega))
        refine lv_aload_n hx hb dX7_nights_176 rfl (lv_at hl 0 rfl) ?_
        refine va_get (D := D) (ci := 7) (v := .int (nI z)) (C := RX7) (T := TX7) (N := 22) hx hb hts iX7 hown hK hP 0 rfl rfl 14 (by decide) (hts _ mg_476) (fun _ h9 => h9) (congrArg (fun z => some (Value.int z)) rfl) dX7_nights_177 ?_
        exact rw_iret (wp := (fun u => mW h g cI u.1 hz u.2)) (post := (fun (r : Int32) (u : (Nat → Int32) × (Nat → Nat → Int32)) => r = (let z := ngo b q.2.2.2.1 q.1 (0, 0, y) dd; if 2 = 0 then nI z.1 else if 2 = 1 then nI z.2.1 else nI z.2.2) ∧ MF b pn xr xi pc q kq u.1 u.2)) (upd J 14 (nI z), G) hx hb hr hlocks hK hP hD hS (rfl) (⟨by dsimp only; rw [show dd = n by omega, ← hz0]; rfl, hF⟩) dX7_nights_180
      · refine lv_iconst (v := nI 0) hx hb dX7_nights_61 (by decide) ?_
        refine lv_istore (lv' := [(7, .int (nI 0)), (0, .ref h), (1, .int (nI dd)), (3, .int (nI 2)), (4, .int (nI x)), (5, .int (nI w)), (6, .int (nI n))]) hx hb dX7_nights_62 hl (by decide) rfl (fun ls hl => ?_)
        have K_10 : ∀ n9 : Nat, ∀ (x : Nat) (w : Nat) (z : Nat) (i : Nat), i ≤ q.1 → (x, w, z) = (ngs b q.2.2.2.1 n (ngo b q.2.2.2.1 q.1 (0, 0, y) n) i) → z < 2 ^ 31 → x ≤ 5 * n + i → w ≤ 5 * n + i → q.1 - i < n9 → ∀ (H : Heap) (locs : List Loc), va_P D vwCl (mW h g cI (upd J 14 (nI z)) hz G) H → va_D A (mW h g cI (upd J 14 (nI z)) hz G) → va_S A s.heap H locs → ∀ ls : Array Slot, lv_has ls 10 [(0, .ref h), (1, .int (nI dd)), (3, .int (nI 2)), (4, .int (nI x)), (5, .int (nI w)), (6, .int (nI n)), (7, .int (nI i))] → W p l e (headSpec (wA yX7_nights cX7_nights 10 (some .int)) ({ frames := 3, cells := 0, slots := 0, locals := 73 })).room s m args below meth c H locs 0 0 (MQ below (va_Qi (fun (r : Int32) (u : (Nat → Int32) × (Nat → Nat → Int32)) => r = (let z := ngo b q.2.2.2.1 q.1 (0, 0, y) dd; if 2 = 0 then nI z.1 else if 2 = 1 then nI z.2.1 else nI z.2.2) ∧ MF b pn xr xi pc q kq u.1 u.2) (fun u t => wB D (iTys cI) A ((fun u => mW h g cI u.1 hz u.2) u) t) A) args s 0 0 A) (F0 m 64 ls []) := by
          intro n9
          induction n9 with
          | zero => intros; omega
          | succ n9 ih_11 =>
            intro x w z i hi hzz hzl hxl hwl hn9 H locs hP hD hS ls hl
            refine lv_iload hx hb dX7_nights_64 (lv_at hl 6 rfl) ?_
            refine lv_aload_n hx hb dX7_nights_66 rfl (lv_at hl 0 rfl) ?_
            refine va_get (D := D) (ci := 7) (v := .int (nI q.1)) (C := RX7) (T := TX7) (N := 22) hx hb hts iX7 hown hK hP 0 rfl rfl 7 (by decide) (hts _ mg_469) (fun _ h9 => h9) (congrArg (fun z => some (Value.int z)) (MR_7 hM)) dX7_nights_67 ?_
            refine j_icmp_ge (tgt := 151) hx hb dX7_nights_70 (by decide) (nI_toInt (by omega)) (nI_toInt (by omega)) (fun c_12 => ?_) (fun c_12 => ?_)
            · refine lv_iinc (v := nI (n + 1)) (lv' := [(6, .int (nI (n + 1))), (0, .ref h), (1, .int (nI dd)), (3, .int (nI 2)), (4, .int (nI x)), (5, .int (nI w)), (7, .int (nI i))]) hx hb dX7_nights_151 hl (k := 5) rfl (fr_inc1 _) (by decide) rfl (fun ls hl => ?_)
              refine lv_goto (tgt := 55) hx hb dX7_nights_154 (by decide) ?_
              exact ih_6 x w z (n + 1) (by omega) (by rw [hzz, show i = q.1 by omega]; rfl) (hzl) (by omega) (by omega) (by omega) _ _ hP hD hS _ (lv_sub hl [1, 2, 3, 4, 5, 0] rfl)
            · obtain ⟨hk0, hv0, hw0, hp0⟩ := hT.2.2.1 i (by omega)
              refine lv_aload_n hx hb dX7_nights_73 rfl (lv_at hl 0 rfl) ?_
              refine lv_iload hx hb dX7_nights_74 (lv_at hl 6 rfl) ?_
              refine lv_aload_n hx hb dX7_nights_76 rfl (lv_at hl 0 rfl) ?_
              refine va_get (D := D) (ci := 7) (v := .ref (g 11)) (C := RX7) (T := TX7) (N := 22) hx hb hts iX7 hown hK hP 0 rfl rfl 11 (by decide) (hts _ mg_473) (fun _ h9 => h9) rfl dX7_nights_77 ?_
              refine lv_iconst (v := nI 4) hx hb dX7_nights_80 (by decide) ?_
              refine lv_iload hx hb dX7_nights_81 (lv_at hl 6 rfl) ?_
              refine n_imul hx hb dX7_nights_83 ?_
              refine lv_iconst (v := nI 3) hx hb dX7_nights_84 (by decide) ?_
              refine n_iadd hx hb dX7_nights_85 ?_
              refine n_aldi hx hb hK hP 5 0 rfl rfl (by omega) (by decide) (v := nI (q.2.2.2.1 i 3)) (MR_row hM (by omega) (by omega)) dX7_nights_86 ?_
              refine lv_iload hx hb dX7_nights_87 (lv_at hl 5 rfl) ?_
              refine n_iadd hx hb dX7_nights_89 ?_
              refine ro_iV (n := 2) (As := [.int (nI i), .int (nI ((q.2.2.2.1 i 3) + n))]) ⟨hx, hb, hml, hown, hts⟩ (c_X7_dripOf l D h g cI (upd J 14 (nI z)) hz G b q hM hok9 hT i (by omega) (q.2.2.2.1 i 3 + n) (by omega)) (cwV 2 hts (gV mg_645 mg_647 mg_1032 mg_8 mg_648) rfl rfl rfl vd_X7_dripOf ⟨Nat.le_of_ble_eq_true rfl, Nat.le_of_ble_eq_true rfl⟩) (va_recv hK hP (ci := 7) (q0 := 0) rfl rfl) hK hP rfl hl.1 rfl (Nat.le_of_ble_eq_true rfl) dX7_nights_90 ⟨Nat.zero_le _, Nat.zero_le _⟩ ?_
              have hd9 := sd_le hok9 (kd := q.2.2.2.1 i 0) (w := q.2.2.2.1 i 2) (n := q.2.2.2.1 i 3 + n) (v := q.2.2.2.1 i 1) (by omega)
              refine lv_istore (lv' := [(8, .int (nI (sd b (q.2.2.2.1 i 0) (q.2.2.2.1 i 2) (q.2.2.2.1 i 1) (q.2.2.2.1 i 3 + n)))), (0, .ref h), (1, .int (nI dd)), (3, .int (nI 2)), (4, .int (nI x)), (5, .int (nI w)), (6, .int (nI n)), (7, .int (nI i))]) hx hb dX7_nights_93 hl (by decide) rfl (fun ls hl => ?_)
              refine lv_aload_n hx hb dX7_nights_95 rfl (lv_at hl 1 rfl) ?_
              refine lv_bipush (v := nI 8) hx hb dX7_nights_96 (by decide) ?_
              refine rw_iV (X := []) (Y := []) (n := 1) (As := [.int (nI 8)]) ⟨hx, hb, hml, hown, hts⟩ (c_X7_draw l D h g cI _ (upd J 14 (nI z)) hz G z hzl rfl) (cwV 1 hts (gV mg_696 mg_698 mg_1036 mg_8 mg_699) rfl rfl rfl vd_X7_draw ⟨Nat.le_of_ble_eq_true rfl, Nat.le_of_ble_eq_true rfl⟩) (va_recv hK hP (ci := 7) (q0 := 0) rfl rfl) hK hP hD hS hA rfl hl.1 rfl (Nat.le_of_ble_eq_true rfl) dX7_nights_98 ⟨Nat.zero_le _, Nat.zero_le _⟩ (fun r_15 u_13 H locs w_14 hP hD hS => ?_)
              have hP : va_P D vwCl (mW h g cI (upd J 14 (nI (nxs z))) hz G) H := hP
              have hD : va_D A (mW h g cI (upd J 14 (nI (nxs z))) hz G) := hD
              refine n_top w_14 ?_
              refine j_if_ne (tgt := 108) hx hb dX7_nights_101 (by decide) (nI_toInt (by omega)) (fun c_16 => ?_) (fun c_16 => ?_)
              · have hg : ngd (nxs z) = 0 := by unfold ngd; rw [if_neg (by omega)]
                refine lv_iconst (v := nI 0) hx hb dX7_nights_108 (by decide) ?_
                refine lv_istore (lv' := [(9, .int (nI 0)), (8, .int (nI (sd b (q.2.2.2.1 i 0) (q.2.2.2.1 i 2) (q.2.2.2.1 i 1) (q.2.2.2.1 i 3 + n)))), (0, .ref h), (1, .int (nI dd)), (3, .int (nI 2)), (4, .int (nI x)), (5, .int (nI w)), (6, .int (nI n)), (7, .int (nI i))]) hx hb dX7_nights_109 hl (by decide) rfl (fun ls hl => ?_)
                refine lv_iload hx hb dX7_nights_111 (lv_at hl 6 rfl) ?_
                refine lv_iload hx hb dX7_nights_113 (lv_at hl 0 rfl) ?_
                refine j_if_eq (tgt := 122) hx hb dX7_nights_115 (by decide) (nI_toInt (by decide)) (fun c_17 => ?_) (fun c_17 => absurd c_17 (by omega))
                refine lv_iconst (v := nI 0) hx hb dX7_nights_122 (by decide) ?_
                refine n_iadd hx hb dX7_nights_123 ?_
                refine lv_istore (lv' := [(5, .int (nI (w + 0))), (9, .int (nI 0)), (8, .int (nI (sd b (q.2.2.2.1 i 0) (q.2.2.2.1 i 2) (q.2.2.2.1 i 1) (q.2.2.2.1 i 3 + n)))), (0, .ref h), (1, .int (nI dd)), (3, .int (nI 2)), (4, .int (nI x)), (6, .int (nI n)), (7, .int (nI i))]) hx hb dX7_nights_124 hl (by decide) rfl (fun ls hl => ?_)
                refine lv_iload hx hb dX7_nights_126 (lv_at hl 6 rfl) ?_
                refine lv_iload hx hb dX7_nights_128 (lv_at hl 1 rfl) ?_
                refine j_if_eq (tgt := 140) hx hb dX7_nights_130 (by decide) (nI_toInt (by decide)) (fun c_18 => ?_) (fun c_18 => absurd c_18 (by omega))
                refine lv_iload hx hb dX7_nights_140 (lv_at hl 2 rfl) ?_
                refine n_iadd hx hb dX7_nights_142 ?_
                refine lv_istore (lv' := [(4, .int (nI (x + (sd b (q.2.2.2.1 i 0) (q.2.2.2.1 i 2) (q.2.2.2.1 i 1) (q.2.2.2.1 i 3 + n))))), (5, .int (nI (w + 0))), (9, .int (nI 0)), (8, .int (nI (sd b (q.2.2.2.1 i 0) (q.2.2.2.1 i 2) (q.2.2.2.1 i 1) (q.2.2.2.1 i 3 + n)))), (0, .ref h), (1, .int (nI dd)), (3, .int (nI 2)), (6, .int (nI n)), (7, .int (nI i))]) hx hb dX7_nights_143 hl (by decide) rfl (fun ls hl => ?_)
                refine lv_iinc (v := nI (i + 1)) (lv' := [(7, .int (nI (i + 1))), (4, .int (nI (x + (sd b (q.2.2.2.1 i 0) (q.2.2.2.1 i 2) (q.2.2.2.1 i 1) (q.2.2.2.1 i 3 + n))))), (5, .int (nI (w + 0))), (9, .int (nI 0)), (8, .int (nI (sd b (q.2.2.2.1 i 0) (q.2.2.2.1 i 2) (q.2.2.2.1 i 1) (q.2.2.2.1 i 3 + n)))), (0, .ref h), (1, .int (nI dd)), (3, .int (nI 2)), (6, .int (nI n))]) hx hb dX7_nights_145 hl (k := 8) rfl (fr_inc1 _) (by decide) rfl (fun ls hl => ?_)
                refine lv_goto (tgt := 64) hx hb dX7_nights_148 (by decide) ?_
                exact ih_11 (x + (sd b (q.2.2.2.1 i 0) (q.2.2.2.1 i 2) (q.2.2.2.1 i 1) (q.2.2.2.1 i 3 + n))) (w + 0) (nxs z) (i + 1) (by omega) (by rw [ngs, ← hzz]; unfold ngt; dsimp only; rw [hg, show dpl b q.2.2.2.1 i (q.2.2.2.1 i 1) n = sd b (q.2.2.2.1 i 0) (q.2.2.2.1 i 2) (q.2.2.2.1 i 1) (q.2.2.2.1 i 3 + n) from rfl, xw hd9 (by decide)]; rfl) (nxs_lt _) (by omega) (by omega) (by omega) _ _ hP hD hS _ (lv_sub hl [5, 6, 7, 1, 2, 8, 0] rfl)
              · have hg : ngd (nxs z) = 1 := by unfold ngd; rw [if_pos (by omega)]
                refine lv_iconst (v := nI 1) hx hb dX7_nights_104 (by decide) ?_
                refine lv_goto (tgt := 109) hx hb dX7_nights_105 (by decide) ?_
                refine lv_istore (lv' := [(9, .int (nI 1)), (8, .int (nI (sd b (q.2.2.2.1 i 0) (q.2.2.2.1 i 2) (q.2.2.2.1 i 1) (q.2.2.2.1 i 3 + n)))), (0, .ref h), (1, .int (nI dd)), (3, .int (nI 2)), (4, .int (nI x)), (5, .int (nI w)), (6, .int (nI n)), (7, .int (nI i))]) hx hb dX7_nights_109 hl (by decide) rfl (fun ls hl => ?_)
                refine lv_iload hx hb dX7_nights_111 (lv_at hl 6 rfl) ?_
                refine lv_iload hx hb dX7_nights_113 (lv_at hl 0 rfl) ?_
                refine j_if_eq (tgt := 122) hx hb dX7_nights_115 (by decide) (nI_toInt (by decide)) (fun c_19 => absurd c_19 (by omega)) (fun c_19 => ?_)
                refine lv_iconst (v := nI 1) hx hb dX7_nights_118 (by decide) ?_
                refine lv_goto (tgt := 123) hx hb dX7_nights_119 (by decide) ?_
                refine n_iadd hx hb dX7_nights_123 ?_
                refine lv_istore (lv' := [(5, .int (nI (w + 1))), (9, .int (nI 1)), (8, .int (nI (sd b (q.2.2.2.1 i 0) (q.2.2.2.1 i 2) (q.2.2.2.1 i 1) (q.2.2.2.1 i 3 + n)))), (0, .ref h), (1, .int (nI dd)), (3, .int (nI 2)), (4, .int (nI x)), (6, .int (nI n)), (7, .int (nI i))]) hx hb dX7_nights_124 hl (by decide) rfl (fun ls hl => ?_)
                refine lv_iload hx hb dX7_nights_126 (lv_at hl 6 rfl) ?_
                refine lv_iload hx hb dX7_nights_128 (lv_at hl 1 rfl) ?_
                refine j_if_eq (tgt := 140) hx hb dX7_nights_130 (by decide) (nI_toInt (by decide)) (fun c_20 => absurd c_20 (by omega)) (fun c_20 => ?_)
                refine lv_iconst (v := nI 1) hx hb dX7_nights_133 (by decide) ?_
                refine lv_iload hx hb dX7_nights_134 (lv_at hl 2 rfl) ?_
                refine n_isub hx hb dX7_nights_136 (by omega) ?_
                refine lv_goto (tgt := 142) hx hb dX7_nights_137 (by decide) ?_
                refine n_iadd hx hb dX7_nights_142 ?_
                refine lv_istore (lv' := [(4, .int (nI (x + (1 - (sd b (q.2.2.2.1 i 0) (q.2.2.2.1 i 2) (q.2.2.2.1 i 1) (q.2.2.2.1 i 3 + n)))))), (5, .int (nI (w + 1))), (9, .int (nI 1)), (8, .int (nI (sd b (q.2.2.2.1 i 0) (q.2.2.2.1 i 2) (q.2.2.2.1 i 1) (q.2.2.2.1 i 3 + n)))), (0, .ref h), (1, .int (nI dd)), (3, .int (nI 2)), (6, .int (nI n)), (7, .int (nI i))]) hx hb dX7_nights_143 hl (by decide) rfl (fun ls hl => ?_)
                refine lv_iinc (v := nI (i + 1)) (lv' := [(7, .int (nI (i + 1))), (4, .int (nI (x + (1 - (sd b (q.2.2.2.1 i 0) (q.2.2.2.1 i 2) (q.2.2.2.1 i 1) (q.2.2.2.1 i 3 + n)))))), (5, .int (nI (w + 1))), (9, .int (nI 1)), (8, .int (nI (sd b (q.2.2.2.1 i 0) (q.2.2.2.1 i 2) (q.2.2.2.1 i 1) (q.2.2.2.1 i 3 + n)))), (0, .ref h), (1, .int (nI dd)), (3, .int (nI 2)), (6, .int (nI n))]) hx hb dX7_nights_145 hl (k := 8) rfl (fr_inc1 _) (by decide) rfl (fun ls hl => ?_)
                refine lv_goto (tgt := 64) hx hb dX7_nights_148 (by decide) ?_
                exact ih_11 (x + (1 - (sd b (q.2.2.2.1 i 0) (q.2.2.2.1 i 2) (q.2.2.2.1 i 1) (q.2.2.2.1 i 3 + n)))) (w + 1) (nxs z) (i + 1) (by omega) (by rw [ngs, ← hzz]; unfold ngt; dsimp only; rw [hg, show dpl b q.2.2.2.1 i (q.2.2.2.1 i 1) n = sd b (q.2.2.2.1 i 0) (q.2.2.2.1 i 2) (q.2.2.2.1 i 1) (q.2.2.2.1 i 3 + n) from rfl, xw hd9 (by decide)]; rfl) (nxs_lt _) (by omega) (by omega) (by omega) _ _ hP hD hS _ (lv_sub hl [5, 6, 7, 1, 2, 8, 0] rfl)
        exact K_10 (q.1 - 0 + 1) x w z 0 (by omega) (by rw [hz0]; rfl) (by omega) (by omega) (by omega) (Nat.lt_succ_self _) _ _ hP hD hS _ (lv_sub hl [1, 2, 3, 4, 5, 6, 0] rfl)
  exact K_5 (dd - 0 + 1) 0 0 y 0 (by omega) (rfl) (by omega) (by omega) (by omega) (Nat.lt_succ_self _) _ _ hP hD hS _ (lv_sub hl [3, 4, 6, 2, 1, 0] rfl)
