set_option maxHeartbeats 4000000 in
set_option maxRecDepth 100000 in
theorem c_X6_house0 (l : Launch) (D : va_G) (a r k : Nat → Nat) (cI cT cN : ClassId) (sz : Nat) (xh xi xr pn : Nat) (pc : Nat → Int32) (rd : Nat × Nat × Nat) (B L : Nat → Int32) (q kq : RS) (h30 : pn ≤ 30) (hpg : ∀ k, k < pn → inr (pc k) 1 127) (hH : ¬ isH (pf pc) pn) : WI l yX6_house (wAN yX6_house cX6_house 1 (some .int)) ({ frames := 5, cells := 0, slots := 0, locals := 103 }) D (cTys cI cT cN) (cW a r k cI cT cN xh xi xr pn pc rd B L q kq) sz [.ref (a 0)] (fun (r : Int32) (_ : Nat × Nat × Nat) => r = -103) (fun u => (cW a r k cI cT cN xh xi xr pn pc u B L q kq)) := by
  refine rw_startIB (by decide) (Nat.le_of_ble_eq_true rfl) ?_
  intro p e s m args below meth c ls A F hnst hP hK hD hA hS hl
  obtain ⟨hx, hb, hr, hlocks, hml, hown, hts⟩ := F
  have hown : s.vm.findClass RX6 = some m.cls := hown
  have hl : lv_has ls 1 [(0, .ref (a 0))] := hl
  refine lv_aload_n hx hb dX6_house_0 rfl (lv_at hl 0 rfl) ?_
  refine va_get (D := D) (ci := 6) (v := .ref (a 1)) (C := RX6) (T := TX6) (N := 7) hx hb hts iX6 hown hK hP 0 rfl rfl 0 (by decide) (hts _ mg_151) (fun _ h9 => h9) rfl dX6_house_1 ?_
  refine rw_iV (X := ([mainC a r k xh xi xr])) (Y := (sW a cI B L ++ (rW r cT cN q ++ rW k cT cN kq))) (n := 0) (As := []) ⟨hx, hb, hml, hown, hts⟩ (c_X1_isHouse l D a cI cT cN _ pn pc rd h30 hpg) (cwVB 0 hts hnst mg_227 mg_228 mg_229 mg_2 mg_230 rfl rfl vd_X1_isHouse ⟨Nat.le_of_ble_eq_true rfl, Nat.le_of_ble_eq_true rfl⟩) (va_recv hK hP (ci := 1) (q0 := 1) rfl rfl) hK hP hD hS hA rfl hl.1 rfl (Nat.le_of_ble_eq_true rfl) dX6_house_4 ⟨Nat.zero_le _, Nat.zero_le _⟩ (fun r_3 u_1 H locs w_2 hP hD hS => ?_)
  have e9 : r_3 = nI 0 := by rw [w_2, if_neg hH]
  subst e9
  have hP : va_P D vwCl (cW a r k cI cT cN xh xi xr pn pc u_1 B L q kq) H := hP
  have hD : va_D A (cW a r k cI cT cN xh xi xr pn pc u_1 B L q kq) := hD
  refine j_if_ne (tgt := 13) hx hb dX6_house_7 (by decide) (nI_toInt (by decide)) (fun c_4 => absurd c_4 (by omega)) (fun c_4 => ?_)
  refine lv_bipush (v := (-103)) hx hb dX6_house_10 (by decide) ?_
  exact rw_iret (wp := (fun u => (cW a r k cI cT cN xh xi xr pn pc u B L q kq))) (post := (fun (r : Int32) (_ : Nat × Nat × Nat) => r = -103)) u_1 hx hb hr hlocks hK hP hD hS (rfl) (rfl) dX6_house_12

set_option maxHeartbeats 4000000 in
set_option maxRecDepth 100000 in
theorem c_X6_house1 (l : Launch) (D : va_G) (a r k : Nat → Nat) (cI cT cN : ClassId) (sz : Nat) (xh xi xr pn : Nat) (pc : Nat → Int32) (rd : Nat × Nat × Nat) (B L : Nat → Int32) (q kq : RS) (h30 : pn ≤ 30) (hpg : ∀ k, k < pn → inr (pc k) 1 127) (hH : isH (pf pc) pn) : WI l yX6_house (wAN yX6_house cX6_house 1 (some .int)) ({ frames := 5, cells := 0, slots := 0, locals := 103 }) D (cTys cI cT cN) (cW a r k cI cT cN xh xi xr pn pc rd B L q kq) sz [.ref (a 0)] (fun (r : Int32) (u : (Nat × Nat × Nat) × (Nat → Int32) × (Nat → Int32)) => r = nI (rdZ (pf pc) pn).2.1 ∧ SR (pb (pf pc) pn) u.2.1 u.2.2) (fun u : (Nat × Nat × Nat) × (Nat → Int32) × (Nat → Int32) => (cW a r k cI cT cN 1 0 (xr + 1) 0 pc u.1 u.2.1 u.2.2 ((rdZ (pf pc) pn).2.1, 0, nI 0, pt (pf pc) q.2.2.2.1 pn, q.2.2.2.2) kq)) := by
  refine rw_startIB (by decide) (Nat.le_of_ble_eq_true rfl) ?_
  intro p e s m args below meth c ls A F hnst hP hK hD hA hS hl
  obtain ⟨hx, hb, hr, hlocks, hml, hown, hts⟩ := F
  have hown : s.vm.findClass RX6 = some m.cls := hown
  have hl : lv_has ls 1 [(0, .ref (a 0))] := hl
  refine lv_aload_n hx hb dX6_house_0 rfl (lv_at hl 0 rfl) ?_
  refine va_get (D := D) (ci := 6) (v := .ref (a 1)) (C := RX6) (T := TX6) (N := 7) hx hb hts iX6 hown hK hP 0 rfl rfl 0 (by decide) (hts _ mg_151) (fun _ h9 => h9) rfl dX6_house_1 ?_
  refine rw_iV (X := ([mainC a r k xh xi xr])) (Y := (sW a cI B L ++ (rW r cT cN q ++ rW k cT cN kq))) (n := 0) (As := []) ⟨hx, hb, hml, hown, hts⟩ (c_X1_isHouse l D a cI cT cN _ pn pc rd h30 hpg) (cwVB 0 hts hnst mg_227 mg_228 mg_229 mg_2 mg_230 rfl rfl vd_X1_isHouse ⟨Nat.le_of_ble_eq_true rfl, Nat.le_of_ble_eq_true rfl⟩) (va_recv hK hP (ci := 1) (q0 := 1) rfl rfl) hK hP hD hS hA rfl hl.1 rfl (Nat.le_of_ble_eq_true rfl) dX6_house_4 ⟨Nat.zero_le _, Nat.zero_le _⟩ (fun r_3 u_1 H locs w_2 hP hD hS => ?_)
  have e9 : r_3 = nI 1 := by rw [w_2, if_pos hH]
  subst e9
  have hP : va_P D vwCl (cW a r k cI cT cN xh xi xr pn pc u_1 B L q kq) H := hP
  have hD : va_D A (cW a r k cI cT cN xh xi xr pn pc u_1 B L q kq) := hD
  refine j_if_ne (tgt := 13) hx hb dX6_house_7 (by decide) (nI_toInt (by decide)) (fun c_4 => ?_) (fun c_4 => absurd c_4 (by omega))
  refine lv_aload_n hx hb dX6_house_13 rfl (lv_at hl 0 rfl) ?_
  refine va_get (D := D) (ci := 6) (v := .ref (a 4)) (C := RX6) (T := TX6) (N := 7) hx hb hts iX6 hown hK hP 0 rfl rfl 1 (by decide) (hts _ mg_152) (fun _ h9 => h9) rfl dX6_house_14 ?_
  refine rw_vV (X := ([mainC a r k xh xi xr] ++ pW a cI pn pc u_1)) (Y := (rW r cT cN q ++ rW k cT cN kq)) (n := 0) (As := []) ⟨hx, hb, hml, hown, hts⟩ (c_X4_clear l D a cI cT cN _ B L) (cwV 0 hts (gV mg_236 mg_237 mg_238 mg_4 mg_239) rfl rfl rfl vd_X4_clear ⟨Nat.le_of_ble_eq_true rfl, Nat.le_of_ble_eq_true rfl⟩) (va_recv hK hP (ci := 4) (q0 := 4) rfl rfl) hK hP hD hS hA rfl hl.1 rfl (Nat.le_of_ble_eq_true rfl) dX6_house_17 ⟨Nat.zero_le _, Nat.zero_le _⟩ (fun u_5 H locs w_6 hP hD hS => ?_)
  have hP : va_P D vwCl (cW a r k cI cT cN xh xi xr pn pc u_1 (fillF B 16 (-1)) (fillF L 4 (nI 0)) q kq) H := hP
  have hD : va_D A (cW a r k cI cT cN xh xi xr pn pc u_1 (fillF B 16 (-1)) (fillF L 4 (nI 0)) q kq) := hD
  refine lv_aload_n hx hb dX6_house_20 rfl (lv_at hl 0 rfl) ?_
  refine va_get (D := D) (ci := 6) (v := .ref (r 0)) (C := RX6) (T := TX6) (N := 7) hx hb hts iX6 hown hK hP 0 rfl rfl 2 (by decide) (hts _ mg_153) (fun _ h9 => h9) rfl dX6_house_21 ?_
  refine rw_vV (X := ([mainC a r k xh xi xr] ++ (pW a cI pn pc u_1 ++ sW a cI (fillF B 16 (-1)) (fillF L 4 (nI 0))))) (Y := (rW k cT cN kq)) (n := 0) (As := []) ⟨hx, hb, hml, hown, hts⟩ (c_X3_clear l D r cI cT cN _ q) (cwV 0 hts (gV mg_240 mg_241 mg_242 mg_5 mg_243) rfl rfl rfl vd_X3_clear ⟨Nat.le_of_ble_eq_true rfl, Nat.le_of_ble_eq_true rfl⟩) (va_recv hK hP (ci := 3) (q0 := 7) rfl rfl) hK hP hD hS hA rfl hl.1 rfl (Nat.le_of_ble_eq_true rfl) dX6_house_24 ⟨Nat.zero_le _, Nat.zero_le _⟩ (fun u_7 H locs w_8 hP hD hS => ?_)
  have hP : va_P D vwCl (cW a r k cI cT cN xh xi xr pn pc u_1 (fillF B 16 (-1)) (fillF L 4 (nI 0)) (0, 0, nI 0, q.2.2.2.1, q.2.2.2.2) kq) H := hP
  have hD : va_D A (cW a r k cI cT cN xh xi xr pn pc u_1 (fillF B 16 (-1)) (fillF L 4 (nI 0)) (0, 0, nI 0, q.2.2.2.1, q.2.2.2.2) kq) := hD
  refine lv_aload_n hx hb dX6_house_27 rfl (lv_at hl 0 rfl) ?_
  refine rw_vV (X := []) (Y := []) (n := 0) (As := []) ⟨hx, hb, hml, hown, hts⟩ (c_X6_readPage l D a r k cI cT cN _ xh xi xr pn pc u_1 (fillF B 16 (-1)) (fillF L 4 (nI 0)) q kq h30 hpg hH.1 SR_0) (cwV 0 hts (gV mg_244 mg_246 mg_1002 mg_1 mg_247) rfl rfl rfl vd_X6_readPage ⟨Nat.le_of_ble_eq_true rfl, Nat.le_of_ble_eq_true rfl⟩) (va_recv hK hP (ci := 6) (q0 := 0) rfl rfl) hK hP hD hS hA rfl hl.1 rfl (Nat.le_of_ble_eq_true rfl) dX6_house_28 ⟨Nat.zero_le _, Nat.zero_le _⟩ (fun u_9 H locs w_10 hP hD hS => ?_)
  have hP : va_P D vwCl (cW a r k cI cT cN xh xi xr pn pc u_1 u_9.1 u_9.2 ((rdZ (pf pc) pn).2.1, 0, nI 0, pt (pf pc) q.2.2.2.1 pn, q.2.2.2.2) kq) H := hP
  have hD : va_D A (cW a r k cI cT cN xh xi xr pn pc u_1 u_9.1 u_9.2 ((rdZ (pf pc) pn).2.1, 0, nI 0, pt (pf pc) q.2.2.2.1 pn, q.2.2.2.2) kq) := hD
  refine lv_aload_n hx hb dX6_house_31 rfl (lv_at hl 0 rfl) ?_
  refine va_get (D := D) (ci := 6) (v := .ref (a 1)) (C := RX6) (T := TX6) (N := 7) hx hb hts iX6 hown hK hP 0 rfl rfl 0 (by decide) (hts _ mg_151) (fun _ h9 => h9) rfl dX6_house_32 ?_
  refine rw_vV (X := ([mainC a r k xh xi xr])) (Y := (sW a cI u_9.1 u_9.2 ++ (rW r cT cN ((rdZ (pf pc) pn).2.1, 0, nI 0, pt (pf pc) q.2.2.2.1 pn, q.2.2.2.2) ++ rW k cT cN kq))) (n := 0) (As := []) ⟨hx, hb, hml, hown, hts⟩ (c_X1_clear l D a cI cT cN _ pn pc u_1) (cwV 0 hts (gV mg_185 mg_186 mg_187 mg_2 mg_188) rfl rfl rfl vd_X1_clear ⟨Nat.le_of_ble_eq_true rfl, Nat.le_of_ble_eq_true rfl⟩) (va_recv hK hP (ci := 1) (q0 := 1) rfl rfl) hK hP hD hS hA rfl hl.1 rfl (Nat.le_of_ble_eq_true rfl) dX6_house_35 ⟨Nat.zero_le _, Nat.zero_le _⟩ (fun u_11 H locs w_12 hP hD hS => ?_)
  have hP : va_P D vwCl (cW a r k cI cT cN xh xi xr 0 pc u_1 u_9.1 u_9.2 ((rdZ (pf pc) pn).2.1, 0, nI 0, pt (pf pc) q.2.2.2.1 pn, q.2.2.2.2) kq) H := hP
  have hD : va_D A (cW a r k cI cT cN xh xi xr 0 pc u_1 u_9.1 u_9.2 ((rdZ (pf pc) pn).2.1, 0, nI 0, pt (pf pc) q.2.2.2.1 pn, q.2.2.2.2) kq) := hD
  refine lv_aload_n hx hb dX6_house_38 rfl (lv_at hl 0 rfl) ?_
  refine lv_iconst (v := nI 1) hx hb dX6_house_39 (by decide) ?_
  refine va_put (D := D) (ci := 6) (v := .int (nI 1)) (ty := .boolean) (C := RX6) (T := TX6) (N := 7) hx hb hts iX6 tyX6 tyX6_ok nmX6 hown hK hP hD hS 0 rfl rfl 4 (by decide) (hts _ mg_155) (fun _ h9 => h9) rfl (tyX6_ok 4 (by decide)) rfl rfl (Nat.le_of_ble_eq_true rfl) dX6_house_40 (fun H locs hP hD hS => ?_)
  have hP : va_P D vwCl (cW a r k cI cT cN 1 xi xr 0 pc u_1 u_9.1 u_9.2 ((rdZ (pf pc) pn).2.1, 0, nI 0, pt (pf pc) q.2.2.2.1 pn, q.2.2.2.2) kq) H := hP
  have hD : va_D A (cW a r k cI cT cN 1 xi xr 0 pc u_1 u_9.1 u_9.2 ((rdZ (pf pc) pn).2.1, 0, nI 0, pt (pf pc) q.2.2.2.1 pn, q.2.2.2.2) kq) := hD
  refine lv_aload_n hx hb dX6_house_43 rfl (lv_at hl 0 rfl) ?_
  refine lv_iconst (v := nI 0) hx hb dX6_house_44 (by decide) ?_
  refine va_put (D := D) (ci := 6) (v := .int (nI 0)) (ty := .boolean) (C := RX6) (T := TX6) (N := 7) hx hb hts iX6 tyX6 tyX6_ok nmX6 hown hK hP hD hS 0 rfl rfl 5 (by decide) (hts _ mg_156) (fun _ h9 => h9) rfl (tyX6_ok 5 (by decide)) rfl rfl (Nat.le_of_ble_eq_true rfl) dX6_house_45 (fun H locs hP hD hS => ?_)
  have hP : va_P D vwCl (cW a r k cI cT cN 1 0 xr 0 pc u_1 u_9.1 u_9.2 ((rdZ (pf pc) pn).2.1, 0, nI 0, pt (pf pc) q.2.2.2.1 pn, q.2.2.2.2) kq) H := hP
  have hD : va_D A (cW a r k cI cT cN 1 0 xr 0 pc u_1 u_9.1 u_9.2 ((rdZ (pf pc) pn).2.1, 0, nI 0, pt (pf pc) q.2.2.2.1 pn, q.2.2.2.2) kq) := hD
  refine lv_aload_n hx hb dX6_house_48 rfl (lv_at hl 0 rfl) ?_
  refine lv_dup hx hb dX6_house_49 rfl ?_
  refine va_get (D := D) (ci := 6) (v := .int (nI xr)) (C := RX6) (T := TX6) (N := 7) hx hb hts iX6 hown hK hP 0 rfl rfl 6 (by decide) (hts _ mg_157) (fun _ h9 => h9) rfl dX6_house_50 ?_
  refine lv_iconst (v := nI 1) hx hb dX6_house_53 (by decide) ?_
  refine n_iadd hx hb dX6_house_54 ?_
  refine va_put (D := D) (ci := 6) (v := .int (nI (xr + 1))) (ty := .int) (C := RX6) (T := TX6) (N := 7) hx hb hts iX6 tyX6 tyX6_ok nmX6 hown hK hP hD hS 0 rfl rfl 6 (by decide) (hts _ mg_157) (fun _ h9 => h9) rfl (tyX6_ok 6 (by decide)) rfl rfl (Nat.le_of_ble_eq_true rfl) dX6_house_55 (fun H locs hP hD hS => ?_)
  have hP : va_P D vwCl (cW a r k cI cT cN 1 0 (xr + 1) 0 pc u_1 u_9.1 u_9.2 ((rdZ (pf pc) pn).2.1, 0, nI 0, pt (pf pc) q.2.2.2.1 pn, q.2.2.2.2) kq) H := hP
  have hD : va_D A (cW a r k cI cT cN 1 0 (xr + 1) 0 pc u_1 u_9.1 u_9.2 ((rdZ (pf pc) pn).2.1, 0, nI 0, pt (pf pc) q.2.2.2.1 pn, q.2.2.2.2) kq) := hD
  refine lv_aload_n hx hb dX6_house_58 rfl (lv_at hl 0 rfl) ?_
  refine va_get (D := D) (ci := 6) (v := .ref (r 0)) (C := RX6) (T := TX6) (N := 7) hx hb hts iX6 hown hK hP 0 rfl rfl 2 (by decide) (hts _ mg_153) (fun _ h9 => h9) rfl dX6_house_59 ?_
  refine va_get (D := D) (ci := 3) (v := .int (nI ((rdZ (pf pc) pn).2.1))) (C := RX3) (T := TX3) (N := 5) hx hb hts iX3 hown hK hP 7 rfl rfl 2 (by decide) (hts _ mg_135) (fun _ h9 => h9) rfl dX6_house_62 ?_
  exact rw_iret (wp := (fun u : (Nat × Nat × Nat) × (Nat → Int32) × (Nat → Int32) => (cW a r k cI cT cN 1 0 (xr + 1) 0 pc u.1 u.2.1 u.2.2 ((rdZ (pf pc) pn).2.1, 0, nI 0, pt (pf pc) q.2.2.2.1 pn, q.2.2.2.2) kq))) (post := (fun (r : Int32) (u : (Nat × Nat × Nat) × (Nat → Int32) × (Nat → Int32)) => r = nI (rdZ (pf pc) pn).2.1 ∧ SR (pb (pf pc) pn) u.2.1 u.2.2)) (u_1, u_9) hx hb hr hlocks hK hP hD hS (rfl) (⟨rfl, SRs_w w_10⟩) dX6_house_65
