set_option maxHeartbeats 4000000 in
set_option maxRecDepth 100000 in
theorem c_X1_firstFault (l : Launch) (D : va_G) (a : Nat → Nat) (cI cT cN : ClassId) (sz pn : Nat) (pc : Nat → Int32) (rd : Nat × Nat × Nat) (h30 : pn ≤ 30) (hpg : ∀ k, k < pn → inr (pc k) 1 127) : WI l yX1_firstFault (wAN yX1_firstFault cX1_firstFault 2 (some .int)) ({ frames := 3, cells := 0, slots := 0, locals := 62 }) D (cTys cI cT cN) (pW a cI pn pc rd) sz [.ref (a 1)] (fun (r : Int32) (u : Nat × Nat × Nat) => r = nI (flt (pf pc) pn) ∧ (flt (pf pc) pn = pn → u = rdZ (pf pc) pn)) (fun u => pW a cI pn pc u) := by
  refine rw_startIB (by decide) (Nat.le_of_ble_eq_true rfl) ?_
  intro p e s m args below meth c ls A F hnst hP hK hD hA hS hl
  obtain ⟨hx, hb, hr, hlocks, hml, hown, hts⟩ := F
  have hown : s.vm.findClass RX1 = some m.cls := hown
  have hl : lv_has ls 2 [(0, .ref (a 1))] := hl
  refine lv_aload_n hx hb dX1_firstFault_0 rfl (lv_at hl 0 rfl) ?_
  refine va_get (D := D) (ci := 1) (v := .ref (a 3)) (C := RX1) (T := TX1) (N := 3) hx hb hts iX1 hown hK hP 0 rfl rfl 1 (by decide) (hts _ mg_42) (fun _ h9 => h9) rfl dX1_firstFault_1 ?_
  refine rw_vV (X := [((a 1 : Nat), (.inr (1, [.ref (a 2), .ref (a 3), .int (nI pn)]) : va_E)), (a 2, .inl (cI, 30, .inl pc))]) (Y := []) (n := 0) (As := []) ⟨hx, hb, hml, hown, hts⟩ (c_X2_begin l D cI cT cN _ (a 3) rd) (cwV 0 hts (gV mg_197 mg_198 mg_199 mg_3 mg_200) rfl rfl rfl vd_X2_begin ⟨Nat.le_of_ble_eq_true rfl, Nat.le_of_ble_eq_true rfl⟩) (va_recv hK hP (ci := 2) (q0 := 2) rfl rfl) hK hP hD hS hA rfl hl.1 rfl (Nat.le_of_ble_eq_true rfl) dX1_firstFault_4 ⟨Nat.zero_le _, Nat.zero_le _⟩ (fun u_1 H locs w_2 hP hD hS => ?_)
  have hP : va_P D vwCl (pW a cI pn pc (0, 0, 0)) H := hP
  have hD : va_D A (pW a cI pn pc (0, 0, 0)) := hD
  refine lv_iconst (v := nI 0) hx hb dX1_firstFault_7 (by decide) ?_
  refine lv_istore_n (lv' := [(1, .int (nI 0)), (0, .ref (a 1))]) hx hb dX1_firstFault_8 rfl hl (by decide) rfl (fun ls hl => ?_)
  have K_3 : ∀ n9 : Nat, ∀ (i : Nat), i ≤ pn → flt (pf pc) i = i → pn - i < n9 → ∀ (H : Heap) (locs : List Loc), va_P D vwCl (pW a cI pn pc (rdZ (pf pc) i)) H → va_D A (pW a cI pn pc (rdZ (pf pc) i)) → va_S A s.heap H locs → ∀ ls : Array Slot, lv_has ls 2 [(0, .ref (a 1)), (1, .int (nI i))] → W p l e (headSpec (wAN yX1_firstFault cX1_firstFault 2 (some .int)) ({ frames := 3, cells := 0, slots := 0, locals := 62 })).room s m args below meth c H locs 0 0 (MQ below (va_Qi (fun (r : Int32) (u : Nat × Nat × Nat) => r = nI (flt (pf pc) pn) ∧ (flt (pf pc) pn = pn → u = rdZ (pf pc) pn)) (fun u t => wB D (cTys cI cT cN) A ((fun u => pW a cI pn pc u) u) t) A) args s 0 0 A) (F0 m 9 ls []) := by
    intro n9
    induction n9 with
    | zero => intros; omega
    | succ n9 ih_4 =>
      intro i hi hf hn9 H locs hP hD hS ls hl
      refine lv_iload_n hx hb dX1_firstFault_9 rfl (lv_at hl 1 rfl) ?_
      refine lv_aload_n hx hb dX1_firstFault_10 rfl (lv_at hl 0 rfl) ?_
      refine va_get (D := D) (ci := 1) (v := .int (nI pn)) (C := RX1) (T := TX1) (N := 3) hx hb hts iX1 hown hK hP 0 rfl rfl 2 (by decide) (hts _ mg_43) (fun _ h9 => h9) rfl dX1_firstFault_11 ?_
      refine j_icmp_ge (tgt := 40) hx hb dX1_firstFault_14 (by decide) (nI_toInt (by omega)) (nI_toInt (by omega)) (fun c_5 => ?_) (fun c_5 => ?_)
      · refine lv_aload_n hx hb dX1_firstFault_40 rfl (lv_at hl 0 rfl) ?_
        refine va_get (D := D) (ci := 1) (v := .int (nI pn)) (C := RX1) (T := TX1) (N := 3) hx hb hts iX1 hown hK hP 0 rfl rfl 2 (by decide) (hts _ mg_43) (fun _ h9 => h9) rfl dX1_firstFault_41 ?_
        exact rw_iret (wp := (fun u => pW a cI pn pc u)) (post := (fun (r : Int32) (u : Nat × Nat × Nat) => r = nI (flt (pf pc) pn) ∧ (flt (pf pc) pn = pn → u = rdZ (pf pc) pn))) (rdZ (pf pc) pn) hx hb hr hlocks hK hP hD hS (by rw [show i = pn by omega]) (⟨by rw [show i = pn by omega] at hf; rw [hf], fun _ => rfl⟩) dX1_firstFault_44
      · refine lv_aload_n hx hb dX1_firstFault_17 rfl (lv_at hl 0 rfl) ?_
        refine va_get (D := D) (ci := 1) (v := .ref (a 3)) (C := RX1) (T := TX1) (N := 3) hx hb hts iX1 hown hK hP 0 rfl rfl 1 (by decide) (hts _ mg_42) (fun _ h9 => h9) rfl dX1_firstFault_18 ?_
        refine lv_aload_n hx hb dX1_firstFault_21 rfl (lv_at hl 0 rfl) ?_
        refine lv_iload_n hx hb dX1_firstFault_22 rfl (lv_at hl 1 rfl) ?_
        refine ro_iV (n := 1) (As := [.int (nI i)]) ⟨hx, hb, hml, hown, hts⟩ (c_X1_codeAt l D a cI cT cN pn pc (rdZ (pf pc) i) i (by omega) h30) (cwV 1 hts (gV mg_201 mg_202 mg_203 mg_2 mg_204) rfl rfl rfl vd_X1_codeAt ⟨Nat.le_of_ble_eq_true rfl, Nat.le_of_ble_eq_true rfl⟩) (va_recv hK hP (ci := 1) (q0 := 0) rfl rfl) hK hP rfl hl.1 rfl (Nat.le_of_ble_eq_true rfl) dX1_firstFault_23 ⟨Nat.zero_le _, Nat.zero_le _⟩ ?_
        obtain ⟨hj8, hj9⟩ := pg_nat (hpg i (by omega))
        obtain ⟨hq1, hq2, hq3⟩ := rdZ_le (pf pc) i
        refine n_top hj8 ?_
        rcases Decidable.em (rdO (rdZ (pf pc) i) (pf pc i) = true) with hk_6 | hk_6
        · refine rw_iV (X := [((a 1 : Nat), (.inr (1, [.ref (a 2), .ref (a 3), .int (nI pn)]) : va_E)), (a 2, .inl (cI, 30, .inl pc))]) (Y := []) (n := 1) (As := [.int (nI (pf pc i))]) ⟨hx, hb, hml, hown, hts⟩ (c_X2_takes l D cI cT cN _ (a 3) (rdZ (pf pc) i) (pf pc i) hj9 (by omega) (by omega) (by omega)) (cwVB 1 hts hnst mg_205 mg_206 mg_207 mg_3 mg_208 rfl rfl vd_X2_takes ⟨Nat.le_of_ble_eq_true rfl, Nat.le_of_ble_eq_true rfl⟩) (va_recv hK hP (ci := 2) (q0 := 2) rfl rfl) hK hP hD hS hA rfl hl.1 rfl (Nat.le_of_ble_eq_true rfl) dX1_firstFault_26 ⟨Nat.zero_le _, Nat.zero_le _⟩ (fun r_9 u_7 H locs w_8 hP hD hS => ?_)
          have e9 : r_9 = nI 1 := by rw [w_8, if_pos hk_6]
          subst e9
          have hP : va_P D vwCl (pW a cI pn pc (rdZ (pf pc) (i + 1))) H := hP
          have hD : va_D A (pW a cI pn pc (rdZ (pf pc) (i + 1))) := hD
          refine j_if_ne (tgt := 34) hx hb dX1_firstFault_29 (by decide) (nI_toInt (by decide)) (fun c_10 => ?_) (fun c_10 => absurd c_10 (by omega))
          have hf := flt_s hf hk_6
          refine lv_iinc (v := nI (i + 1)) (lv' := [(1, .int (nI (i + 1))), (0, .ref (a 1))]) hx hb dX1_firstFault_34 hl (k := 1) rfl (fr_inc1 _) (by decide) rfl (fun ls hl => ?_)
          refine lv_goto (tgt := 9) hx hb dX1_firstFault_37 (by decide) ?_
          exact ih_4 (i + 1) (by omega) (hf) (by omega) _ _ hP hD hS _ (lv_sub hl [1, 0] rfl)
        · refine rw_iV (X := [((a 1 : Nat), (.inr (1, [.ref (a 2), .ref (a 3), .int (nI pn)]) : va_E)), (a 2, .inl (cI, 30, .inl pc))]) (Y := []) (n := 1) (As := [.int (nI (pf pc i))]) ⟨hx, hb, hml, hown, hts⟩ (c_X2_takes l D cI cT cN _ (a 3) (rdZ (pf pc) i) (pf pc i) hj9 (by omega) (by omega) (by omega)) (cwVB 1 hts hnst mg_205 mg_206 mg_207 mg_3 mg_208 rfl rfl vd_X2_takes ⟨Nat.le_of_ble_eq_true rfl, Nat.le_of_ble_eq_true rfl⟩) (va_recv hK hP (ci := 2) (q0 := 2) rfl rfl) hK hP hD hS hA rfl hl.1 rfl (Nat.le_of_ble_eq_true rfl) dX1_firstFault_26 ⟨Nat.zero_le _, Nat.zero_le _⟩ (fun r_13 u_11 H locs w_12 hP hD hS => ?_)
          have e9 : r_13 = nI 0 := by rw [w_12, if_neg hk_6]
          subst e9
          have hP : va_P D vwCl (pW a cI pn pc (rdZ (pf pc) (i + 1))) H := hP
          have hD : va_D A (pW a cI pn pc (rdZ (pf pc) (i + 1))) := hD
          refine j_if_ne (tgt := 34) hx hb dX1_firstFault_29 (by decide) (nI_toInt (by decide)) (fun c_14 => absurd c_14 (by omega)) (fun c_14 => ?_)
          refine lv_iload_n hx hb dX1_firstFault_32 rfl (lv_at hl 1 rfl) ?_
          exact rw_iret (wp := (fun u => pW a cI pn pc u)) (post := (fun (r : Int32) (u : Nat × Nat × Nat) => r = nI (flt (pf pc) pn) ∧ (flt (pf pc) pn = pn → u = rdZ (pf pc) pn))) (rdZ (pf pc) (i + 1)) hx hb hr hlocks hK hP hD hS (rfl) (⟨congrArg nI (flt_at hf (by assumption) (by omega)).symm, fun z => absurd ((flt_at hf (by assumption) (by omega)).symm.trans z) (by omega)⟩) dX1_firstFault_33
  exact K_3 (pn - 0 + 1) 0 (by omega) (rfl) (Nat.lt_succ_self _) _ _ hP hD hS _ (lv_sub hl [1, 0] rfl)

set_option maxHeartbeats 4000000 in
set_option maxRecDepth 100000 in
theorem c_X1_isHouse (l : Launch) (D : va_G) (a : Nat → Nat) (cI cT cN : ClassId) (sz pn : Nat) (pc : Nat → Int32) (rd : Nat × Nat × Nat) (h30 : pn ≤ 30) (hpg : ∀ k, k < pn → inr (pc k) 1 127) : WI l yX1_isHouse (wAN yX1_isHouse cX1_isHouse 1 (some .boolean)) ({ frames := 4, cells := 0, slots := 0, locals := 83 }) D (cTys cI cT cN) (pW a cI pn pc rd) sz [.ref (a 1)] (fun (r : Int32) (_ : Nat × Nat × Nat) => r = nI (if isH (pf pc) pn then 1 else 0)) (fun u => pW a cI pn pc u) := by
  refine rw_startIB (by decide) (Nat.le_of_ble_eq_true rfl) ?_
  intro p e s m args below meth c ls A F hnst hP hK hD hA hS hl
  obtain ⟨hx, hb, hr, hlocks, hml, hown, hts⟩ := F
  have hown : s.vm.findClass RX1 = some m.cls := hown
  have hl : lv_has ls 1 [(0, .ref (a 1))] := hl
  have hfl := flt_le (pf pc) pn
  refine lv_aload_n hx hb dX1_isHouse_0 rfl (lv_at hl 0 rfl) ?_
  refine rw_iV (X := []) (Y := []) (n := 0) (As := []) ⟨hx, hb, hml, hown, hts⟩ (c_X1_firstFault l D a cI cT cN _ pn pc rd h30 hpg) (cwVB 0 hts hnst mg_231 mg_194 mg_195 mg_2 mg_196 rfl rfl vd_X1_firstFault ⟨Nat.le_of_ble_eq_true rfl, Nat.le_of_ble_eq_true rfl⟩) (va_recv hK hP (ci := 1) (q0 := 0) rfl rfl) hK hP hD hS hA rfl hl.1 rfl (Nat.le_of_ble_eq_true rfl) dX1_isHouse_1 ⟨Nat.zero_le _, Nat.zero_le _⟩ (fun r_3 u_1 H locs w_2 hP hD hS => ?_)
  obtain ⟨e9, hu9⟩ := w_2
  subst e9
  have hP : va_P D vwCl (pW a cI pn pc u_1) H := hP
  have hD : va_D A (pW a cI pn pc u_1) := hD
  refine lv_aload_n hx hb dX1_isHouse_4 rfl (lv_at hl 0 rfl) ?_
  refine va_get (D := D) (ci := 1) (v := .int (nI pn)) (C := RX1) (T := TX1) (N := 3) hx hb hts iX1 hown hK hP 0 rfl rfl 2 (by decide) (hts _ mg_43) (fun _ h9 => h9) rfl dX1_isHouse_5 ?_
  refine j_icmp_ne (tgt := 25) hx hb dX1_isHouse_8 (by decide) (nI_toInt (by omega)) (nI_toInt (by omega)) (fun c_4 => ?_) (fun c_4 => ?_)
  · refine lv_iconst (v := nI 0) hx hb dX1_isHouse_25 (by decide) ?_
    exact rw_zret (wp := (fun u => pW a cI pn pc u)) (post := (fun (r : Int32) (_ : Nat × Nat × Nat) => r = nI (if isH (pf pc) pn then 1 else 0))) u_1 hx hb hr rfl hlocks hK hP hD hS (rfl) (by rw [if_neg]; intro z; first | exact absurd z.1 (by omega) | exact absurd z.2 (by assumption)) dX1_isHouse_26
  · obtain rfl := hu9 (by omega)
    obtain ⟨hq1, hq2, hq3⟩ := rdZ_le (pf pc) pn
    refine lv_aload_n hx hb dX1_isHouse_11 rfl (lv_at hl 0 rfl) ?_
    refine va_get (D := D) (ci := 1) (v := .ref (a 3)) (C := RX1) (T := TX1) (N := 3) hx hb hts iX1 hown hK hP 0 rfl rfl 1 (by decide) (hts _ mg_42) (fun _ h9 => h9) rfl dX1_isHouse_12 ?_
    rcases Decidable.em ((rdZ (pf pc) pn).1 = 4 ∧ (rdZ (pf pc) pn).2.2 = 2) with hk_5 | hk_5
    · refine ro_iV (n := 0) (As := []) ⟨hx, hb, hml, hown, hts⟩ (c_X2_isAtEndT l D cI cT cN (a 3) (rdZ (pf pc) pn) (by omega) (by omega) hk_5) (cwV 0 hts (gV mg_232 mg_233 mg_234 mg_3 mg_235) rfl rfl rfl vd_X2_isAtEnd ⟨Nat.le_of_ble_eq_true rfl, Nat.le_of_ble_eq_true rfl⟩) (va_recv hK hP (ci := 2) (q0 := 2) rfl rfl) hK (vaP_r (a := [((a 1 : Nat), (.inr (1, [.ref (a 2), .ref (a 3), .int (nI pn)]) : va_E)), (a 2, .inl (cI, 30, .inl pc))]) hP) rfl hl.1 rfl (Nat.le_of_ble_eq_true rfl) dX1_isHouse_15 ⟨Nat.zero_le _, Nat.zero_le _⟩ ?_
      refine j_if_eq (tgt := 25) hx hb dX1_isHouse_18 (by decide) (nI_toInt (by decide)) (fun c_6 => absurd c_6 (by omega)) (fun c_6 => ?_)
      refine lv_iconst (v := nI 1) hx hb dX1_isHouse_21 (by decide) ?_
      refine lv_goto (tgt := 26) hx hb dX1_isHouse_22 (by decide) ?_
      exact rw_zret (wp := (fun u => pW a cI pn pc u)) (post := (fun (r : Int32) (_ : Nat × Nat × Nat) => r = nI (if isH (pf pc) pn then 1 else 0))) (rdZ (pf pc) pn) hx hb hr rfl hlocks hK hP hD hS (rfl) (by rw [if_pos]; exact ⟨by omega, by assumption⟩) dX1_isHouse_26
    · refine ro_iV (n := 0) (As := []) ⟨hx, hb, hml, hown, hts⟩ (c_X2_isAtEndF l D cI cT cN (a 3) (rdZ (pf pc) pn) (by omega) (by omega) hk_5) (cwV 0 hts (gV mg_232 mg_233 mg_234 mg_3 mg_235) rfl rfl rfl vd_X2_isAtEnd ⟨Nat.le_of_ble_eq_true rfl, Nat.le_of_ble_eq_true rfl⟩) (va_recv hK hP (ci := 2) (q0 := 2) rfl rfl) hK (vaP_r (a := [((a 1 : Nat), (.inr (1, [.ref (a 2), .ref (a 3), .int (nI pn)]) : va_E)), (a 2, .inl (cI, 30, .inl pc))]) hP) rfl hl.1 rfl (Nat.le_of_ble_eq_true rfl) dX1_isHouse_15 ⟨Nat.zero_le _, Nat.zero_le _⟩ ?_
      refine j_if_eq (tgt := 25) hx hb dX1_isHouse_18 (by decide) (nI_toInt (by decide)) (fun c_7 => ?_) (fun c_7 => absurd c_7 (by omega))
      refine lv_iconst (v := nI 0) hx hb dX1_isHouse_25 (by decide) ?_
      exact rw_zret (wp := (fun u => pW a cI pn pc u)) (post := (fun (r : Int32) (_ : Nat × Nat × Nat) => r = nI (if isH (pf pc) pn then 1 else 0))) (rdZ (pf pc) pn) hx hb hr rfl hlocks hK hP hD hS (rfl) (by rw [if_neg]; intro z; first | exact absurd z.1 (by omega) | exact absurd z.2 (by assumption)) dX1_isHouse_26

set_option maxHeartbeats 4000000 in
set_option maxRecDepth 100000 in
theorem c_X6_fault (l : Launch) (D : va_G) (a r k : Nat → Nat) (cI cT cN : ClassId) (sz : Nat) (xh xi xr pn : Nat) (pc : Nat → Int32) (rd : Nat × Nat × Nat) (B L : Nat → Int32) (q kq : RS) (h30 : pn ≤ 30) (hpg : ∀ k, k < pn → inr (pc k) 1 127) : WI l yX6_fault (wAN yX6_fault cX6_fault 1 (some .int)) ({ frames := 4, cells := 0, slots := 0, locals := 83 }) D (cTys cI cT cN) (cW a r k cI cT cN xh xi xr pn pc rd B L q kq) sz [.ref (a 0)] (fun (r : Int32) (_ : Nat × Nat × Nat) => r = nI (flt (pf pc) pn)) (fun u => (cW a r k cI cT cN xh xi xr pn pc u B L q kq)) := by
  refine rw_startIB (by decide) (Nat.le_of_ble_eq_true rfl) ?_
  intro p e s m args below meth c ls A F hnst hP hK hD hA hS hl
  obtain ⟨hx, hb, hr, hlocks, hml, hown, hts⟩ := F
  have hown : s.vm.findClass RX6 = some m.cls := hown
  have hl : lv_has ls 1 [(0, .ref (a 0))] := hl
  have hfl := flt_le (pf pc) pn
  refine lv_aload_n hx hb dX6_fault_0 rfl (lv_at hl 0 rfl) ?_
  refine va_get (D := D) (ci := 6) (v := .ref (a 1)) (C := RX6) (T := TX6) (N := 7) hx hb hts iX6 hown hK hP 0 rfl rfl 0 (by decide) (hts _ mg_151) (fun _ h9 => h9) rfl dX6_fault_1 ?_
  refine rw_iV (X := ([mainC a r k xh xi xr])) (Y := (sW a cI B L ++ (rW r cT cN q ++ rW k cT cN kq))) (n := 0) (As := []) ⟨hx, hb, hml, hown, hts⟩ (c_X1_firstFault l D a cI cT cN _ pn pc rd h30 hpg) (cwVB 0 hts hnst mg_193 mg_194 mg_195 mg_2 mg_196 rfl rfl vd_X1_firstFault ⟨Nat.le_of_ble_eq_true rfl, Nat.le_of_ble_eq_true rfl⟩) (va_recv hK hP (ci := 1) (q0 := 1) rfl rfl) hK hP hD hS hA rfl hl.1 rfl (Nat.le_of_ble_eq_true rfl) dX6_fault_4 ⟨Nat.zero_le _, Nat.zero_le _⟩ (fun r_3 u_1 H locs w_2 hP hD hS => ?_)
  obtain ⟨e9, hu9⟩ := w_2
  subst e9
  have hP : va_P D vwCl (cW a r k cI cT cN xh xi xr pn pc u_1 B L q kq) H := hP
  have hD : va_D A (cW a r k cI cT cN xh xi xr pn pc u_1 B L q kq) := hD
  exact rw_iret (wp := (fun u => (cW a r k cI cT cN xh xi xr pn pc u B L q kq))) (post := (fun (r : Int32) (_ : Nat × Nat × Nat) => r = nI (flt (pf pc) pn))) u_1 hx hb hr hlocks hK hP hD hS (rfl) (rfl) dX6_fault_7
