set_option maxHeartbeats 4000000 in
set_option maxRecDepth 100000 in
theorem c_X7_faultOf (l : Launch) (D : va_G) (h : Nat) (g : Nat → Nat) (cI : ClassId) (sz : Nat) (J : Nat → Int32) (hz : Int64) (G : Nat → Nat → Int32) (b : Nat → Nat → Nat) (pn xr xi : Nat) (pc : Nat → Int32) (q kq : RS) (hF : MF b pn xr xi pc q kq J G) (h30 : pn ≤ 30) (hpg : ∀ k, k < pn → inr (pc k) 1 127) : WI l yX7_faultOf (wA yX7_faultOf cX7_faultOf 2 (some .int)) ({ frames := 2, cells := 0, slots := 0, locals := 47 }) D (iTys cI) (mW h g cI J hz G) sz [.ref h] (fun (r : Int32) (u : (Nat → Int32) × (Nat → Nat → Int32)) => r = nI (flt (pf pc) pn) ∧ MF b pn xr xi pc q kq u.1 u.2 ∧ (flt (pf pc) pn = pn → PR (pf pc) q.2.2.2.1 pn u.1 u.2)) (fun u => mW h g cI u.1 hz u.2) := by
  refine rw_startI (by decide) (Nat.le_of_ble_eq_true rfl) ?_
  intro p e s m args below meth c ls A F hP hK hD hA hS hl
  obtain ⟨hx, hb, hr, hlocks, hml, hown, hts⟩ := F
  have hown : s.vm.findClass RX7 = some m.cls := hown
  have hl : lv_has ls 2 [(0, .ref h)] := hl
  refine lv_aload_n hx hb dX7_faultOf_0 rfl (lv_at hl 0 rfl) ?_
  refine lv_iconst (v := nI 0) hx hb dX7_faultOf_1 (by decide) ?_
  refine va_put (D := D) (ci := 7) (v := .int (nI 0)) (ty := .int) (C := RX7) (T := TX7) (N := 22) hx hb hts iX7 tyX7 tyX7_ok nmX7 hown hK hP hD hS 0 rfl rfl 2 (by decide) (hts _ mg_464) (fun _ h9 => h9) rfl (tyX7_ok 2 (by decide)) rfl rfl (Nat.le_of_ble_eq_true rfl) dX7_faultOf_2 (fun H locs hP hD hS => ?_)
  have hP : va_P D vwCl (mW h g cI (upd J 2 (nI 0)) hz G) H := hP
  have hD : va_D A (mW h g cI (upd J 2 (nI 0)) hz G) := hD
  refine lv_aload_n hx hb dX7_faultOf_5 rfl (lv_at hl 0 rfl) ?_
  refine va_get (D := D) (ci := 7) (v := .ref (g 3)) (C := RX7) (T := TX7) (N := 22) hx hb hts iX7 hown hK hP 0 rfl rfl 3 (by decide) (hts _ mg_465) (fun _ h9 => h9) rfl dX7_faultOf_6 ?_
  refine lv_iconst (v := nI 0) hx hb dX7_faultOf_9 (by decide) ?_
  refine lv_iconst (v := nI 0) hx hb dX7_faultOf_10 (by decide) ?_
  refine n_asti hx hb hK hP hD hS 2 0 rfl rfl (by omega) (by decide) dX7_faultOf_11 (fun H locs hP hD hS => ?_)
  have hP : va_P D vwCl (mW h g cI (upd J 2 (nI 0)) hz (updF G 3 (upd (G 3) 0 (nI 0)))) H := hP
  have hD : va_D A (mW h g cI (upd J 2 (nI 0)) hz (updF G 3 (upd (G 3) 0 (nI 0)))) := hD
  refine lv_aload_n hx hb dX7_faultOf_12 rfl (lv_at hl 0 rfl) ?_
  refine lv_iconst (v := nI 0) hx hb dX7_faultOf_13 (by decide) ?_
  refine va_put (D := D) (ci := 7) (v := .int (nI 0)) (ty := .int) (C := RX7) (T := TX7) (N := 22) hx hb hts iX7 tyX7 tyX7_ok nmX7 hown hK hP hD hS 0 rfl rfl 5 (by decide) (hts _ mg_467) (fun _ h9 => h9) rfl (tyX7_ok 5 (by decide)) rfl rfl (Nat.le_of_ble_eq_true rfl) dX7_faultOf_14 (fun H locs hP hD hS => ?_)
  have hP : va_P D vwCl (mW h g cI (upd (upd J 2 (nI 0)) 5 (nI 0)) hz (updF G 3 (upd (G 3) 0 (nI 0)))) H := hP
  have hD : va_D A (mW h g cI (upd (upd J 2 (nI 0)) 5 (nI 0)) hz (updF G 3 (upd (G 3) 0 (nI 0)))) := hD
  refine lv_aload_n hx hb dX7_faultOf_17 rfl (lv_at hl 0 rfl) ?_
  refine lv_iconst (v := nI 0) hx hb dX7_faultOf_18 (by decide) ?_
  refine va_put (D := D) (ci := 7) (v := .int (nI 0)) (ty := .int) (C := RX7) (T := TX7) (N := 22) hx hb hts iX7 tyX7 tyX7_ok nmX7 hown hK hP hD hS 0 rfl rfl 6 (by decide) (hts _ mg_468) (fun _ h9 => h9) rfl (tyX7_ok 6 (by decide)) rfl rfl (Nat.le_of_ble_eq_true rfl) dX7_faultOf_19 (fun H locs hP hD hS => ?_)
  have hP : va_P D vwCl (mW h g cI (upd (upd (upd J 2 (nI 0)) 5 (nI 0)) 6 (nI 0)) hz (updF G 3 (upd (G 3) 0 (nI 0)))) H := hP
  have hD : va_D A (mW h g cI (upd (upd (upd J 2 (nI 0)) 5 (nI 0)) 6 (nI 0)) hz (updF G 3 (upd (G 3) 0 (nI 0)))) := hD
  refine lv_iconst (v := nI 0) hx hb dX7_faultOf_22 (by decide) ?_
  refine lv_istore_n (lv' := [(1, .int (nI 0)), (0, .ref h)]) hx hb dX7_faultOf_23 rfl hl (by decide) rfl (fun ls hl => ?_)
  have K_1 : ∀ n9 : Nat, ∀ (i : Nat) (J9 : Nat → Int32) (G9 : Nat → Nat → Int32), i ≤ pn → flt (pf pc) i = i → MF b pn xr xi pc q kq J9 G9 → PR (pf pc) q.2.2.2.1 i J9 G9 → pn - i < n9 → ∀ (H : Heap) (locs : List Loc), va_P D vwCl (mW h g cI J9 hz G9) H → va_D A (mW h g cI J9 hz G9) → va_S A s.heap H locs → ∀ ls : Array Slot, lv_has ls 2 [(0, .ref h), (1, .int (nI i))] → W p l e (headSpec (wA yX7_faultOf cX7_faultOf 2 (some .int)) ({ frames := 2, cells := 0, slots := 0, locals := 47 })).room s m args below meth c H locs 0 0 (MQ below (va_Qi (fun (r : Int32) (u : (Nat → Int32) × (Nat → Nat → Int32)) => r = nI (flt (pf pc) pn) ∧ MF b pn xr xi pc q kq u.1 u.2 ∧ (flt (pf pc) pn = pn → PR (pf pc) q.2.2.2.1 pn u.1 u.2)) (fun u t => wB D (iTys cI) A ((fun u => mW h g cI u.1 hz u.2) u) t) A) args s 0 0 A) (F0 m 24 ls []) := by
    intro n9
    induction n9 with
    | zero => intros; omega
    | succ n9 ih_2 =>
      intro i J9 G9 hi hf hF9 hP9 hn9 H locs hP hD hS ls hl
      obtain ⟨i1, _⟩ := pInv_at (pf pc) q.2.2.2.1 i hf
      refine lv_iload_n hx hb dX7_faultOf_24 rfl (lv_at hl 1 rfl) ?_
      refine lv_aload_n hx hb dX7_faultOf_25 rfl (lv_at hl 0 rfl) ?_
      refine va_get (D := D) (ci := 7) (v := .int (nI pn)) (C := RX7) (T := TX7) (N := 22) hx hb hts iX7 hown hK hP 0 rfl rfl 1 (by decide) (hts _ mg_463) (fun _ h9 => h9) (congrArg (fun z => some (Value.int z)) hF9.2.1) dX7_faultOf_26 ?_
      refine j_icmp_ge (tgt := 75) hx hb dX7_faultOf_29 (by decide) (nI_toInt (by omega)) (nI_toInt (by omega)) (fun c_3 => ?_) (fun c_3 => ?_)
      · refine lv_iload_n hx hb dX7_faultOf_75 rfl (lv_at hl 1 rfl) ?_
        exact rw_iret (wp := (fun u => mW h g cI u.1 hz u.2)) (post := (fun (r : Int32) (u : (Nat → Int32) × (Nat → Nat → Int32)) => r = nI (flt (pf pc) pn) ∧ MF b pn xr xi pc q kq u.1 u.2 ∧ (flt (pf pc) pn = pn → PR (pf pc) q.2.2.2.1 pn u.1 u.2))) (J9, G9) hx hb hr hlocks hK hP hD hS (rfl) (⟨by rw [show i = pn by omega] at hf ⊢; rw [hf], hF9, fun _ => by rw [← show i = pn by omega]; exact hP9⟩) dX7_faultOf_76
      · refine lv_aload_n hx hb dX7_faultOf_32 rfl (lv_at hl 0 rfl) ?_
        refine va_get (D := D) (ci := 7) (v := .int (nI ((rdZ (pf pc) i).1))) (C := RX7) (T := TX7) (N := 22) hx hb hts iX7 hown hK hP 0 rfl rfl 2 (by decide) (hts _ mg_464) (fun _ h9 => h9) (congrArg (fun z => some (Value.int z)) hP9.1) dX7_faultOf_33 ?_
        refine lv_iconst (v := nI 4) hx hb dX7_faultOf_36 (by decide) ?_
        refine j_icmp_ge (tgt := 56) hx hb dX7_faultOf_37 (by decide) (nI_toInt (by omega)) (nI_toInt (by decide)) (fun c_4 => ?_) (fun c_4 => ?_)
        · refine lv_aload_n hx hb dX7_faultOf_56 rfl (lv_at hl 0 rfl) ?_
          refine lv_aload_n hx hb dX7_faultOf_57 rfl (lv_at hl 0 rfl) ?_
          refine va_get (D := D) (ci := 7) (v := .ref (g 0)) (C := RX7) (T := TX7) (N := 22) hx hb hts iX7 hown hK hP 0 rfl rfl 0 (by decide) (hts _ mg_462) (fun _ h9 => h9) rfl dX7_faultOf_58 ?_
          refine lv_iload_n hx hb dX7_faultOf_61 rfl (lv_at hl 1 rfl) ?_
          refine n_aldi hx hb hK hP 1 0 rfl rfl (by omega) (by decide) (v := pc i) (congrFun hF9.2.2.2.1 i) dX7_faultOf_62 ?_
          obtain ⟨hj8, hj9⟩ := pg_nat (hpg i (by omega))
          refine n_top hj8 ?_
          rcases goT (rdZ (pf pc) i) ((pf pc) i) (by omega) with ⟨a2, a3, a9⟩ | ⟨a2, a3, a9⟩ | ⟨a2, a4, a3, a9⟩ | a9
          · refine rw_iV (X := []) (Y := []) (n := 1) (As := [.int (nI (pf pc i))]) ⟨hx, hb, hml, hown, hts⟩ (c_X7_goTapD l D h g cI _ J9 hz G9 b pn xr xi pc q kq hF9 (pf pc) q.2.2.2.1 i hf hP9 hj9 (by omega) a2 a3) (cwV 1 hts (gV mg_553 mg_555 mg_1019 mg_8 mg_556) rfl rfl rfl vd_X7_goTap ⟨Nat.le_of_ble_eq_true rfl, Nat.le_of_ble_eq_true rfl⟩) (va_recv hK hP (ci := 7) (q0 := 0) rfl rfl) hK hP hD hS hA rfl hl.1 rfl (Nat.le_of_ble_eq_true rfl) dX7_faultOf_63 ⟨Nat.zero_le _, Nat.zero_le _⟩ (fun r_7 u_5 H locs w_6 hP hD hS => ?_)
            obtain ⟨e9, hF8, hP8⟩ := w_6
            subst e9
            have hP : va_P D vwCl (mW h g cI u_5.1 hz u_5.2) H := hP
            have hD : va_D A (mW h g cI u_5.1 hz u_5.2) := hD
            refine j_if_eq (tgt := 75) hx hb dX7_faultOf_66 (by decide) (nI_toInt (by decide)) (fun c_8 => absurd c_8 (by omega)) (fun c_8 => ?_)
            refine lv_iinc (v := nI (i + 1)) (lv' := [(1, .int (nI (i + 1))), (0, .ref h)]) hx hb dX7_faultOf_69 hl (k := 1) rfl (fr_inc1 _) (by decide) rfl (fun ls hl => ?_)
            refine lv_goto (tgt := 24) hx hb dX7_faultOf_72 (by decide) ?_
            exact ih_2 (i + 1) u_5.1 u_5.2 (by omega) (flt_s hf a9) (hF8) (hP8) (by omega) _ _ hP hD hS _ (lv_sub hl [1, 0] rfl)
          · refine rw_iV (X := []) (Y := []) (n := 1) (As := [.int (nI (pf pc i))]) ⟨hx, hb, hml, hown, hts⟩ (c_X7_goTapE l D h g cI _ J9 hz G9 b pn xr xi pc q kq hF9 (pf pc) q.2.2.2.1 i hf hP9 hj9 (by omega) a2 a3) (cwV 1 hts (gV mg_553 mg_555 mg_1019 mg_8 mg_556) rfl rfl rfl vd_X7_goTap ⟨Nat.le_of_ble_eq_true rfl, Nat.le_of_ble_eq_true rfl⟩) (va_recv hK hP (ci := 7) (q0 := 0) rfl rfl) hK hP hD hS hA rfl hl.1 rfl (Nat.le_of_ble_eq_true rfl) dX7_faultOf_63 ⟨Nat.zero_le _, Nat.zero_le _⟩ (fun r_11 u_9 H locs w_10 hP hD hS => ?_)
            obtain ⟨e9, hF8, hP8⟩ := w_10
            subst e9
            have hP : va_P D vwCl (mW h g cI u_9.1 hz u_9.2) H := hP
            have hD : va_D A (mW h g cI u_9.1 hz u_9.2) := hD
            refine j_if_eq (tgt := 75) hx hb dX7_faultOf_66 (by decide) (nI_toInt (by decide)) (fun c_12 => absurd c_12 (by omega)) (fun c_12 => ?_)
            refine lv_iinc (v := nI (i + 1)) (lv' := [(1, .int (nI (i + 1))), (0, .ref h)]) hx hb dX7_faultOf_69 hl (k := 1) rfl (fr_inc1 _) (by decide) rfl (fun ls hl => ?_)
            refine lv_goto (tgt := 24) hx hb dX7_faultOf_72 (by decide) ?_
            exact ih_2 (i + 1) u_9.1 u_9.2 (by omega) (flt_s hf a9) (hF8) (hP8) (by omega) _ _ hP hD hS _ (lv_sub hl [1, 0] rfl)
          · refine rw_iV (X := []) (Y := []) (n := 1) (As := [.int (nI (pf pc i))]) ⟨hx, hb, hml, hown, hts⟩ (c_X7_goTapF l D h g cI _ J9 hz G9 b pn xr xi pc q kq hF9 (pf pc) q.2.2.2.1 i hf hP9 hj9 (by omega) a2 a4 a3) (cwV 1 hts (gV mg_553 mg_555 mg_1019 mg_8 mg_556) rfl rfl rfl vd_X7_goTap ⟨Nat.le_of_ble_eq_true rfl, Nat.le_of_ble_eq_true rfl⟩) (va_recv hK hP (ci := 7) (q0 := 0) rfl rfl) hK hP hD hS hA rfl hl.1 rfl (Nat.le_of_ble_eq_true rfl) dX7_faultOf_63 ⟨Nat.zero_le _, Nat.zero_le _⟩ (fun r_15 u_13 H locs w_14 hP hD hS => ?_)
            obtain ⟨e9, hF8, hP8⟩ := w_14
            subst e9
            have hP : va_P D vwCl (mW h g cI u_13.1 hz u_13.2) H := hP
            have hD : va_D A (mW h g cI u_13.1 hz u_13.2) := hD
            refine j_if_eq (tgt := 75) hx hb dX7_faultOf_66 (by decide) (nI_toInt (by decide)) (fun c_16 => absurd c_16 (by omega)) (fun c_16 => ?_)
            refine lv_iinc (v := nI (i + 1)) (lv' := [(1, .int (nI (i + 1))), (0, .ref h)]) hx hb dX7_faultOf_69 hl (k := 1) rfl (fr_inc1 _) (by decide) rfl (fun ls hl => ?_)
            refine lv_goto (tgt := 24) hx hb dX7_faultOf_72 (by decide) ?_
            exact ih_2 (i + 1) u_13.1 u_13.2 (by omega) (flt_s hf a9) (hF8) (hP8) (by omega) _ _ hP hD hS _ (lv_sub hl [1, 0] rfl)
          · refine rw_iV (X := []) (Y := []) (n := 1) (As := [.int (nI (pf pc i))]) ⟨hx, hb, hml, hown, hts⟩ (c_X7_goTapR l D h g cI _ J9 hz G9 b pn xr xi pc q kq hF9 (pf pc) q.2.2.2.1 i hf hP9 hj9 (by omega) a9) (cwV 1 hts (gV mg_553 mg_555 mg_1019 mg_8 mg_556) rfl rfl rfl vd_X7_goTap ⟨Nat.le_of_ble_eq_true rfl, Nat.le_of_ble_eq_true rfl⟩) (va_recv hK hP (ci := 7) (q0 := 0) rfl rfl) hK hP hD hS hA rfl hl.1 rfl (Nat.le_of_ble_eq_true rfl) dX7_faultOf_63 ⟨Nat.zero_le _, Nat.zero_le _⟩ (fun r_19 u_17 H locs w_18 hP hD hS => ?_)
            obtain ⟨e9, hF8⟩ := w_18
            subst e9
            have hP : va_P D vwCl (mW h g cI u_17.1 hz u_17.2) H := hP
            have hD : va_D A (mW h g cI u_17.1 hz u_17.2) := hD
            refine j_if_eq (tgt := 75) hx hb dX7_faultOf_66 (by decide) (nI_toInt (by decide)) (fun c_20 => ?_) (fun c_20 => absurd c_20 (by omega))
            refine lv_iload_n hx hb dX7_faultOf_75 rfl (lv_at hl 1 rfl) ?_
            exact rw_iret (wp := (fun u => mW h g cI u.1 hz u.2)) (post := (fun (r : Int32) (u : (Nat → Int32) × (Nat → Nat → Int32)) => r = nI (flt (pf pc) pn) ∧ MF b pn xr xi pc q kq u.1 u.2 ∧ (flt (pf pc) pn = pn → PR (pf pc) q.2.2.2.1 pn u.1 u.2))) (u_17.1, u_17.2) hx hb hr hlocks hK hP hD hS (rfl) (⟨congrArg nI (flt_at hf a9 (by omega)).symm, hF8, fun y => absurd ((flt_at hf a9 (by omega)).symm.trans y) (by omega)⟩) dX7_faultOf_76
        · refine lv_aload_n hx hb dX7_faultOf_40 rfl (lv_at hl 0 rfl) ?_
          refine lv_aload_n hx hb dX7_faultOf_41 rfl (lv_at hl 0 rfl) ?_
          refine va_get (D := D) (ci := 7) (v := .ref (g 0)) (C := RX7) (T := TX7) (N := 22) hx hb hts iX7 hown hK hP 0 rfl rfl 0 (by decide) (hts _ mg_462) (fun _ h9 => h9) rfl dX7_faultOf_42 ?_
          refine lv_iload_n hx hb dX7_faultOf_45 rfl (lv_at hl 1 rfl) ?_
          refine n_aldi hx hb hK hP 1 0 rfl rfl (by omega) (by decide) (v := pc i) (congrFun hF9.2.2.2.1 i) dX7_faultOf_46 ?_
          obtain ⟨hj8, hj9⟩ := pg_nat (hpg i (by omega))
          refine n_top hj8 ?_
          rcases goS (rdZ (pf pc) i) ((pf pc) i) (by omega) with ⟨a2, a3, a9⟩ | ⟨a3, a2, a9⟩ | a9
          · refine rw_iV (X := []) (Y := []) (n := 1) (As := [.int (nI (pf pc i))]) ⟨hx, hb, hml, hown, hts⟩ (c_X7_goSayA l D h g cI _ J9 hz G9 b pn xr xi pc q kq hF9 (pf pc) q.2.2.2.1 i hf hP9 hj9 (by omega) a2 a3) (cwV 1 hts (gV mg_549 mg_551 mg_1018 mg_8 mg_552) rfl rfl rfl vd_X7_goSaying ⟨Nat.le_of_ble_eq_true rfl, Nat.le_of_ble_eq_true rfl⟩) (va_recv hK hP (ci := 7) (q0 := 0) rfl rfl) hK hP hD hS hA rfl hl.1 rfl (Nat.le_of_ble_eq_true rfl) dX7_faultOf_47 ⟨Nat.zero_le _, Nat.zero_le _⟩ (fun r_23 u_21 H locs w_22 hP hD hS => ?_)
            obtain ⟨e9, hF8, hP8⟩ := w_22
            subst e9
            have hP : va_P D vwCl (mW h g cI u_21.1 hz u_21.2) H := hP
            have hD : va_D A (mW h g cI u_21.1 hz u_21.2) := hD
            refine j_if_eq (tgt := 75) hx hb dX7_faultOf_50 (by decide) (nI_toInt (by decide)) (fun c_24 => absurd c_24 (by omega)) (fun c_24 => ?_)
            refine lv_goto (tgt := 69) hx hb dX7_faultOf_53 (by decide) ?_
            refine lv_iinc (v := nI (i + 1)) (lv' := [(1, .int (nI (i + 1))), (0, .ref h)]) hx hb dX7_faultOf_69 hl (k := 1) rfl (fr_inc1 _) (by decide) rfl (fun ls hl => ?_)
            refine lv_goto (tgt := 24) hx hb dX7_faultOf_72 (by decide) ?_
            exact ih_2 (i + 1) u_21.1 u_21.2 (by omega) (flt_s hf a9) (hF8) (hP8) (by omega) _ _ hP hD hS _ (lv_sub hl [1, 0] rfl)
          · refine rw_iV (X := []) (Y := []) (n := 1) (As := [.int (nI (pf pc i))]) ⟨hx, hb, hml, hown, hts⟩ (c_X7_goSayB l D h g cI _ J9 hz G9 b pn xr xi pc q kq hF9 (pf pc) q.2.2.2.1 i hf hP9 hj9 (by omega) a3 a2) (cwV 1 hts (gV mg_549 mg_551 mg_1018 mg_8 mg_552) rfl rfl rfl vd_X7_goSaying ⟨Nat.le_of_ble_eq_true rfl, Nat.le_of_ble_eq_true rfl⟩) (va_recv hK hP (ci := 7) (q0 := 0) rfl rfl) hK hP hD hS hA rfl hl.1 rfl (Nat.le_of_ble_eq_true rfl) dX7_faultOf_47 ⟨Nat.zero_le _, Nat.zero_le _⟩ (fun r_27 u_25 H locs w_26 hP hD hS => ?_)
            obtain ⟨e9, hF8, hP8⟩ := w_26
            subst e9
            have hP : va_P D vwCl (mW h g cI u_25.1 hz u_25.2) H := hP
            have hD : va_D A (mW h g cI u_25.1 hz u_25.2) := hD
            refine j_if_eq (tgt := 75) hx hb dX7_faultOf_50 (by decide) (nI_toInt (by decide)) (fun c_28 => absurd c_28 (by omega)) (fun c_28 => ?_)
            refine lv_goto (tgt := 69) hx hb dX7_faultOf_53 (by decide) ?_
            refine lv_iinc (v := nI (i + 1)) (lv' := [(1, .int (nI (i + 1))), (0, .ref h)]) hx hb dX7_faultOf_69 hl (k := 1) rfl (fr_inc1 _) (by decide) rfl (fun ls hl => ?_)
            refine lv_goto (tgt := 24) hx hb dX7_faultOf_72 (by decide) ?_
            exact ih_2 (i + 1) u_25.1 u_25.2 (by omega) (flt_s hf a9) (hF8) (hP8) (by omega) _ _ hP hD hS _ (lv_sub hl [1, 0] rfl)
          · refine rw_iV (X := []) (Y := []) (n := 1) (As := [.int (nI (pf pc i))]) ⟨hx, hb, hml, hown, hts⟩ (c_X7_goSayC l D h g cI _ J9 hz G9 b pn xr xi pc q kq hF9 (pf pc) q.2.2.2.1 i hf hP9 hj9 (by omega) a9) (cwV 1 hts (gV mg_549 mg_551 mg_1018 mg_8 mg_552) rfl rfl rfl vd_X7_goSaying ⟨Nat.le_of_ble_eq_true rfl, Nat.le_of_ble_eq_true rfl⟩) (va_recv hK hP (ci := 7) (q0 := 0) rfl rfl) hK hP hD hS hA rfl hl.1 rfl (Nat.le_of_ble_eq_true rfl) dX7_faultOf_47 ⟨Nat.zero_le _, Nat.zero_le _⟩ (fun r_31 u_29 H locs w_30 hP hD hS => ?_)
            obtain ⟨e9, hF8⟩ := w_30
            subst e9
            have hP : va_P D vwCl (mW h g cI u_29.1 hz u_29.2) H := hP
            have hD : va_D A (mW h g cI u_29.1 hz u_29.2) := hD
            refine j_if_eq (tgt := 75) hx hb dX7_faultOf_50 (by decide) (nI_toInt (by decide)) (fun c_32 => ?_) (fun c_32 => absurd c_32 (by omega))
            refine lv_iload_n hx hb dX7_faultOf_75 rfl (lv_at hl 1 rfl) ?_
            exact rw_iret (wp := (fun u => mW h g cI u.1 hz u.2)) (post := (fun (r : Int32) (u : (Nat → Int32) × (Nat → Nat → Int32)) => r = nI (flt (pf pc) pn) ∧ MF b pn xr xi pc q kq u.1 u.2 ∧ (flt (pf pc) pn = pn → PR (pf pc) q.2.2.2.1 pn u.1 u.2))) (u_29.1, u_29.2) hx hb hr hlocks hK hP hD hS (rfl) (⟨congrArg nI (flt_at hf a9 (by omega)).symm, hF8, fun y => absurd ((flt_at hf a9 (by omega)).symm.trans y) (by omega)⟩) dX7_faultOf_76
  exact K_1 (pn - 0 + 1) 0 (upd (upd (upd J 2 (nI 0)) 5 (nI 0)) 6 (nI 0)) (updF G 3 (upd (G 3) 0 (nI 0))) (by omega) (rfl) (hF) (PR_0) (Nat.lt_succ_self _) _ _ hP hD hS _ (lv_sub hl [1, 0] rfl)

set_option maxHeartbeats 4000000 in
set_option maxRecDepth 100000 in
theorem c_X7_fault (l : Launch) (D : va_G) (h : Nat) (g : Nat → Nat) (cI : ClassId) (sz : Nat) (J : Nat → Int32) (hz : Int64) (G : Nat → Nat → Int32) (b : Nat → Nat → Nat) (pn xr xi : Nat) (pc : Nat → Int32) (q kq : RS) (hF : MF b pn xr xi pc q kq J G) (h30 : pn ≤ 30) (hpg : ∀ k, k < pn → inr (pc k) 1 127) : WI l yX7_fault (wA yX7_fault cX7_fault 1 (some .int)) ({ frames := 3, cells := 0, slots := 0, locals := 68 }) D (iTys cI) (mW h g cI J hz G) sz [.ref h] (fun (r : Int32) (u : (Nat → Int32) × (Nat → Nat → Int32)) => r = nI (flt (pf pc) pn) ∧ MF b pn xr xi pc q kq u.1 u.2) (fun u => mW h g cI u.1 hz u.2) := by
  refine rw_startI (by decide) (Nat.le_of_ble_eq_true rfl) ?_
  intro p e s m args below meth c ls A F hP hK hD hA hS hl
  obtain ⟨hx, hb, hr, hlocks, hml, hown, hts⟩ := F
  have hown : s.vm.findClass RX7 = some m.cls := hown
  have hl : lv_has ls 1 [(0, .ref h)] := hl
  have hfl := flt_le (pf pc) pn
  refine lv_aload_n hx hb dX7_fault_0 rfl (lv_at hl 0 rfl) ?_
  refine rw_iV (X := []) (Y := []) (n := 0) (As := []) ⟨hx, hb, hml, hown, hts⟩ (c_X7_faultOf l D h g cI _ J hz G b pn xr xi pc q kq hF h30 hpg) (cwV 0 hts (gV mg_545 mg_547 mg_1017 mg_8 mg_548) rfl rfl rfl vd_X7_faultOf ⟨Nat.le_of_ble_eq_true rfl, Nat.le_of_ble_eq_true rfl⟩) (va_recv hK hP (ci := 7) (q0 := 0) rfl rfl) hK hP hD hS hA rfl hl.1 rfl (Nat.le_of_ble_eq_true rfl) dX7_fault_1 ⟨Nat.zero_le _, Nat.zero_le _⟩ (fun r_3 u_1 H locs w_2 hP hD hS => ?_)
  obtain ⟨e9, hF8, hP8⟩ := w_2
  subst e9
  have hP : va_P D vwCl (mW h g cI u_1.1 hz u_1.2) H := hP
  have hD : va_D A (mW h g cI u_1.1 hz u_1.2) := hD
  exact rw_iret (wp := (fun u => mW h g cI u.1 hz u.2)) (post := (fun (r : Int32) (u : (Nat → Int32) × (Nat → Nat → Int32)) => r = nI (flt (pf pc) pn) ∧ MF b pn xr xi pc q kq u.1 u.2)) (u_1.1, u_1.2) hx hb hr hlocks hK hP hD hS (rfl) (⟨rfl, hF8⟩) dX7_fault_4

set_option maxHeartbeats 4000000 in
set_option maxRecDepth 100000 in
theorem c_X7_house0 (l : Launch) (D : va_G) (h : Nat) (g : Nat → Nat) (cI : ClassId) (sz : Nat) (J : Nat → Int32) (hz : Int64) (G : Nat → Nat → Int32) (b : Nat → Nat → Nat) (pn xr xi : Nat) (pc : Nat → Int32) (q kq : RS) (hF : MF b pn xr xi pc q kq J G) (h30 : pn ≤ 30) (hpg : ∀ k, k < pn → inr (pc k) 1 127) (hH : ¬ isH (pf pc) pn) : WI l yX7_house (wA yX7_house cX7_house 2 (some .int)) ({ frames := 3, cells := 0, slots := 0, locals := 68 }) D (iTys cI) (mW h g cI J hz G) sz [.ref h] (fun (r : Int32) (u : (Nat → Int32) × (Nat → Nat → Int32)) => r = -103 ∧ MF b pn xr xi pc q kq u.1 u.2) (fun u => mW h g cI u.1 hz u.2) := by
  refine rw_startI (by decide) (Nat.le_of_ble_eq_true rfl) ?_
  intro p e s m args below meth c ls A F hP hK hD hA hS hl
  obtain ⟨hx, hb, hr, hlocks, hml, hown, hts⟩ := F
  have hown : s.vm.findClass RX7 = some m.cls := hown
  have hl : lv_has ls 2 [(0, .ref h)] := hl
  have hfl := flt_le (pf pc) pn
  have hH7 : ¬ (flt (pf pc) pn = pn ∧ (rdZ (pf pc) pn).1 = 4 ∧ (rdZ (pf pc) pn).2.2 = 2) := hH
  refine lv_aload_n hx hb dX7_house_0 rfl (lv_at hl 0 rfl) ?_
  refine rw_iV (X := []) (Y := []) (n := 0) (As := []) ⟨hx, hb, hml, hown, hts⟩ (c_X7_faultOf l D h g cI _ J hz G b pn xr xi pc q kq hF h30 hpg) (cwV 0 hts (gV mg_545 mg_547 mg_1017 mg_8 mg_548) rfl rfl rfl vd_X7_faultOf ⟨Nat.le_of_ble_eq_true rfl, Nat.le_of_ble_eq_true rfl⟩) (va_recv hK hP (ci := 7) (q0 := 0) rfl rfl) hK hP hD hS hA rfl hl.1 rfl (Nat.le_of_ble_eq_true rfl) dX7_house_1 ⟨Nat.zero_le _, Nat.zero_le _⟩ (fun r_3 u_1 H locs w_2 hP hD hS => ?_)
  obtain ⟨e9, hF8, hP8⟩ := w_2
  subst e9
  have hP : va_P D vwCl (mW h g cI u_1.1 hz u_1.2) H := hP
  have hD : va_D A (mW h g cI u_1.1 hz u_1.2) := hD
  refine lv_aload_n hx hb dX7_house_4 rfl (lv_at hl 0 rfl) ?_
  refine va_get (D := D) (ci := 7) (v := .int (nI pn)) (C := RX7) (T := TX7) (N := 22) hx hb hts iX7 hown hK hP 0 rfl rfl 1 (by decide) (hts _ mg_463) (fun _ h9 => h9) (congrArg (fun z => some (Value.int z)) hF8.2.1) dX7_house_5 ?_
  refine j_icmp_lt (tgt := 27) hx hb dX7_house_8 (by decide) (nI_toInt (by omega)) (nI_toInt (by omega)) (fun c_4 => ?_) (fun c_4 => ?_)
  · refine lv_bipush (v := (-103)) hx hb dX7_house_27 (by decide) ?_
    exact rw_iret (wp := (fun u => mW h g cI u.1 hz u.2)) (post := (fun (r : Int32) (u : (Nat → Int32) × (Nat → Nat → Int32)) => r = -103 ∧ MF b pn xr xi pc q kq u.1 u.2)) (u_1.1, u_1.2) hx hb hr hlocks hK hP hD hS (rfl) (⟨rfl, hF8⟩) dX7_house_29
  · have hE : flt (pf pc) pn = pn := by omega
    have hP7 := hP8 hE
    obtain ⟨i1, _⟩ := pInv_at (pf pc) q.2.2.2.1 pn hE
    refine lv_aload_n hx hb dX7_house_11 rfl (lv_at hl 0 rfl) ?_
    refine va_get (D := D) (ci := 7) (v := .int (nI ((rdZ (pf pc) pn).1))) (C := RX7) (T := TX7) (N := 22) hx hb hts iX7 hown hK hP 0 rfl rfl 2 (by decide) (hts _ mg_464) (fun _ h9 => h9) (congrArg (fun z => some (Value.int z)) hP7.1) dX7_house_12 ?_
    refine lv_iconst (v := nI 4) hx hb dX7_house_15 (by decide) ?_
    refine j_icmp_lt (tgt := 27) hx hb dX7_house_16 (by decide) (nI_toInt (by omega)) (nI_toInt (by decide)) (fun c_5 => ?_) (fun c_5 => ?_)
    · refine lv_bipush (v := (-103)) hx hb dX7_house_27 (by decide) ?_
      exact rw_iret (wp := (fun u => mW h g cI u.1 hz u.2)) (post := (fun (r : Int32) (u : (Nat → Int32) × (Nat → Nat → Int32)) => r = -103 ∧ MF b pn xr xi pc q kq u.1 u.2)) (u_1.1, u_1.2) hx hb hr hlocks hK hP hD hS (rfl) (⟨rfl, hF8⟩) dX7_house_29
    · have h6 : u_1.1 6 = nI (rdZ (pf pc) pn).2.2 := by rw [hP7.2.2.1, if_neg (by omega)]
      obtain ⟨_, _, _, _, k9, _⟩ := pInv_at (pf pc) q.2.2.2.1 pn hE
      obtain ⟨k1, k2, _⟩ := k9 (by omega)
      refine lv_aload_n hx hb dX7_house_19 rfl (lv_at hl 0 rfl) ?_
      refine va_get (D := D) (ci := 7) (v := .int (nI ((rdZ (pf pc) pn).2.2))) (C := RX7) (T := TX7) (N := 22) hx hb hts iX7 hown hK hP 0 rfl rfl 6 (by decide) (hts _ mg_468) (fun _ h9 => h9) (congrArg (fun z => some (Value.int z)) h6) dX7_house_20 ?_
      refine lv_iconst (v := nI 2) hx hb dX7_house_23 (by decide) ?_
      refine j_icmp_eq (tgt := 30) hx hb dX7_house_24 (by decide) (nI_toInt (by omega)) (nI_toInt (by decide)) (fun c_6 => absurd c_6 (by omega)) (fun c_6 => ?_)
      refine lv_bipush (v := (-103)) hx hb dX7_house_27 (by decide) ?_
      exact rw_iret (wp := (fun u => mW h g cI u.1 hz u.2)) (post := (fun (r : Int32) (u : (Nat → Int32) × (Nat → Nat → Int32)) => r = -103 ∧ MF b pn xr xi pc q kq u.1 u.2)) (u_1.1, u_1.2) hx hb hr hlocks hK hP hD hS (rfl) (⟨rfl, hF8⟩) dX7_house_29

set_option maxHeartbeats 4000000 in
set_option maxRecDepth 100000 in
theorem c_X7_house1 (l : Launch) (D : va_G) (h : Nat) (g : Nat → Nat) (cI : ClassId) (sz : Nat) (J : Nat → Int32) (hz : Int64) (G : Nat → Nat → Int32) (b : Nat → Nat → Nat) (pn xr xi : Nat) (pc : Nat → Int32) (q kq : RS) (hF : MF b pn xr xi pc q kq J G) (h30 : pn ≤ 30) (hpg : ∀ k, k < pn → inr (pc k) 1 127) (hxi : xi = 0 ∨ xi = 1) (hxr : xr < 1000) (hH : isH (pf pc) pn) : WI l yX7_house (wA yX7_house cX7_house 2 (some .int)) ({ frames := 3, cells := 0, slots := 0, locals := 68 }) D (iTys cI) (mW h g cI J hz G) sz [.ref h] (fun (r : Int32) (u : (Nat → Int32) × (Nat → Nat → Int32)) => r = nI (rdZ (pf pc) pn).2.1 ∧ MF (pb (pf pc) pn) 0 (xr + 1) 0 pc ((rdZ (pf pc) pn).2.1, 0, nI 0, pt (pf pc) q.2.2.2.1 pn, q.2.2.2.2) kq u.1 u.2) (fun u => mW h g cI u.1 hz u.2) := by
  refine rw_startI (by decide) (Nat.le_of_ble_eq_true rfl) ?_
  intro p e s m args below meth c ls A F hP hK hD hA hS hl
  obtain ⟨hx, hb, hr, hlocks, hml, hown, hts⟩ := F
  have hown : s.vm.findClass RX7 = some m.cls := hown
  have hl : lv_has ls 2 [(0, .ref h)] := hl
  have hfl := flt_le (pf pc) pn
  obtain ⟨hH1, hH2, hH3⟩ := hH
  have hH : isH (pf pc) pn := ⟨hH1, hH2, hH3⟩
  refine lv_aload_n hx hb dX7_house_0 rfl (lv_at hl 0 rfl) ?_
  refine rw_iV (X := []) (Y := []) (n := 0) (As := []) ⟨hx, hb, hml, hown, hts⟩ (c_X7_faultOf l D h g cI _ J hz G b pn xr xi pc q kq hF h30 hpg) (cwV 0 hts (gV mg_545 mg_547 mg_1017 mg_8 mg_548) rfl rfl rfl vd_X7_faultOf ⟨Nat.le_of_ble_eq_true rfl, Nat.le_of_ble_eq_true rfl⟩) (va_recv hK hP (ci := 7) (q0 := 0) rfl rfl) hK hP hD hS hA rfl hl.1 rfl (Nat.le_of_ble_eq_true rfl) dX7_house_1 ⟨Nat.zero_le _, Nat.zero_le _⟩ (fun r_3 u_1 H locs w_2 hP hD hS => ?_)
  obtain ⟨e9, hF8, hP8⟩ := w_2
  subst e9
  have hP : va_P D vwCl (mW h g cI u_1.1 hz u_1.2) H := hP
  have hD : va_D A (mW h g cI u_1.1 hz u_1.2) := hD
  refine lv_aload_n hx hb dX7_house_4 rfl (lv_at hl 0 rfl) ?_
  refine va_get (D := D) (ci := 7) (v := .int (nI pn)) (C := RX7) (T := TX7) (N := 22) hx hb hts iX7 hown hK hP 0 rfl rfl 1 (by decide) (hts _ mg_463) (fun _ h9 => h9) (congrArg (fun z => some (Value.int z)) hF8.2.1) dX7_house_5 ?_
  refine j_icmp_lt (tgt := 27) hx hb dX7_house_8 (by decide) (nI_toInt (by omega)) (nI_toInt (by omega)) (fun c_4 => absurd c_4 (by omega)) (fun c_4 => ?_)
  have hE : flt (pf pc) pn = pn := by omega
  have hP7 := hP8 hE
  obtain ⟨i1, _⟩ := pInv_at (pf pc) q.2.2.2.1 pn hE
  refine lv_aload_n hx hb dX7_house_11 rfl (lv_at hl 0 rfl) ?_
  refine va_get (D := D) (ci := 7) (v := .int (nI ((rdZ (pf pc) pn).1))) (C := RX7) (T := TX7) (N := 22) hx hb hts iX7 hown hK hP 0 rfl rfl 2 (by decide) (hts _ mg_464) (fun _ h9 => h9) (congrArg (fun z => some (Value.int z)) hP7.1) dX7_house_12 ?_
  refine lv_iconst (v := nI 4) hx hb dX7_house_15 (by decide) ?_
  refine j_icmp_lt (tgt := 27) hx hb dX7_house_16 (by decide) (nI_toInt (by omega)) (nI_toInt (by decide)) (fun c_5 => absurd c_5 (by omega)) (fun c_5 => ?_)
  have h6 : u_1.1 6 = nI (rdZ (pf pc) pn).2.2 := by rw [hP7.2.2.1, if_neg (by omega)]
  obtain ⟨_, _, _, _, k9, _⟩ := pInv_at (pf pc) q.2.2.2.1 pn hE
  obtain ⟨k1, k2, _⟩ := k9 (by omega)
  refine lv_aload_n hx hb dX7_house_19 rfl (lv_at hl 0 rfl) ?_
  refine va_get (D := D) (ci := 7) (v := .int (nI ((rdZ (pf pc) pn).2.2))) (C := RX7) (T := TX7) (N := 22) hx hb hts iX7 hown hK hP 0 rfl rfl 6 (by decide) (hts _ mg_468) (fun _ h9 => h9) (congrArg (fun z => some (Value.int z)) h6) dX7_house_20 ?_
  refine lv_iconst (v := nI 2) hx hb dX7_house_23 (by decide) ?_
  refine j_icmp_eq (tgt := 30) hx hb dX7_house_24 (by decide) (nI_toInt (by omega)) (nI_toInt (by decide)) (fun c_6 => ?_) (fun c_6 => absurd c_6 (by omega))
  obtain ⟨hk, ht1, ht3, htx⟩ := isH_hok (t := q.2.2.2.1) hH
  refine lv_aload_n hx hb dX7_house_30 rfl (lv_at hl 0 rfl) ?_
  refine lv_aload_n hx hb dX7_house_31 rfl (lv_at hl 0 rfl) ?_
  refine va_get (D := D) (ci := 7) (v := .int (nI ((rdZ (pf pc) pn).2.1))) (C := RX7) (T := TX7) (N := 22) hx hb hts iX7 hown hK hP 0 rfl rfl 5 (by decide) (hts _ mg_467) (fun _ h9 => h9) (congrArg (fun z => some (Value.int z)) hP7.2.1) dX7_house_32 ?_
  refine va_put (D := D) (ci := 7) (v := .int (nI ((rdZ (pf pc) pn).2.1))) (ty := .int) (C := RX7) (T := TX7) (N := 22) hx hb hts iX7 tyX7 tyX7_ok nmX7 hown hK hP hD hS 0 rfl rfl 7 (by decide) (hts _ mg_469) (fun _ h9 => h9) rfl (tyX7_ok 7 (by decide)) rfl rfl (Nat.le_of_ble_eq_true rfl) dX7_house_35 (fun H locs hP hD hS => ?_)
  have hP : va_P D vwCl (mW h g cI (upd u_1.1 7 (nI ((rdZ (pf pc) pn).2.1))) hz u_1.2) H := hP
  have hD : va_D A (mW h g cI (upd u_1.1 7 (nI ((rdZ (pf pc) pn).2.1))) hz u_1.2) := hD
  refine lv_aload_n hx hb dX7_house_38 rfl (lv_at hl 0 rfl) ?_
  refine va_get (D := D) (ci := 7) (v := .ref (g 3)) (C := RX7) (T := TX7) (N := 22) hx hb hts iX7 hown hK hP 0 rfl rfl 3 (by decide) (hts _ mg_465) (fun _ h9 => h9) rfl dX7_house_39 ?_
  refine lv_aload_n hx hb dX7_house_42 rfl (lv_at hl 0 rfl) ?_
  refine va_get (D := D) (ci := 7) (v := .ref (g 10)) (C := RX7) (T := TX7) (N := 22) hx hb hts iX7 hown hK hP 0 rfl rfl 10 (by decide) (hts _ mg_472) (fun _ h9 => h9) rfl dX7_house_43 ?_
  refine rw_vS (X := []) (Y := []) (n := 2) (As := [.ref (g 3), .ref (g 10)]) ⟨hx, hb, hml, hown, hts⟩ (c_X7_copy l D cI _ (mW h g cI (upd u_1.1 7 (nI ((rdZ (pf pc) pn).2.1))) hz u_1.2) (g 3) (g 10) 2 4 25 (u_1.2 3) (u_1.2 10) (by decide) rfl rfl (by decide)) (cwS 2 hts (gS mg_566 mg_567 mg_8 mg_568) rfl rfl rfl vd_X7_copy ⟨Nat.le_of_ble_eq_true rfl, Nat.le_of_ble_eq_true rfl⟩)  hK hP hD hS hA rfl hl.1 rfl (Nat.le_of_ble_eq_true rfl) dX7_house_46 ⟨Nat.zero_le _, Nat.zero_le _⟩ (fun u_7 H locs w_8 hP hD hS => ?_)
  have hP : va_P D vwCl (mW h g cI (upd u_1.1 7 (nI ((rdZ (pf pc) pn).2.1))) hz (updF u_1.2 10 (cpyF (u_1.2 3) (u_1.2 10) 25))) H := hP
  have hD : va_D A (mW h g cI (upd u_1.1 7 (nI ((rdZ (pf pc) pn).2.1))) hz (updF u_1.2 10 (cpyF (u_1.2 3) (u_1.2 10) 25))) := hD
  refine lv_iconst (v := nI 0) hx hb dX7_house_49 (by decide) ?_
  refine lv_istore_n (lv' := [(1, .int (nI 0)), (0, .ref h)]) hx hb dX7_house_50 rfl hl (by decide) rfl (fun ls hl => ?_)
  have K_9 : ∀ n9 : Nat, ∀ (i : Nat) (G9 : Nat → Nat → Int32), i ≤ (rdZ (pf pc) pn).2.1 → (∀ k, k ≠ 11 → G9 k = (updF u_1.2 10 (cpyF (u_1.2 3) (u_1.2 10) 25)) k) → (∀ x, x < i → ∀ k, k < 4 → G9 11 (4 * x + k) = nI (pt (pf pc) q.2.2.2.1 pn x k)) → (rdZ (pf pc) pn).2.1 - i < n9 → ∀ (H : Heap) (locs : List Loc), va_P D vwCl (mW h g cI (upd u_1.1 7 (nI ((rdZ (pf pc) pn).2.1))) hz G9) H → va_D A (mW h g cI (upd u_1.1 7 (nI ((rdZ (pf pc) pn).2.1))) hz G9) → va_S A s.heap H locs → ∀ ls : Array Slot, lv_has ls 2 [(0, .ref h), (1, .int (nI i))] → W p l e (headSpec (wA yX7_house cX7_house 2 (some .int)) ({ frames := 3, cells := 0, slots := 0, locals := 68 })).room s m args below meth c H locs 0 0 (MQ below (va_Qi (fun (r : Int32) (u : (Nat → Int32) × (Nat → Nat → Int32)) => r = nI (rdZ (pf pc) pn).2.1 ∧ MF (pb (pf pc) pn) 0 (xr + 1) 0 pc ((rdZ (pf pc) pn).2.1, 0, nI 0, pt (pf pc) q.2.2.2.1 pn, q.2.2.2.2) kq u.1 u.2) (fun u t => wB D (iTys cI) A ((fun u => mW h g cI u.1 hz u.2) u) t) A) args s 0 0 A) (F0 m 51 ls []) := by
    intro n9
    induction n9 with
    | zero => intros; omega
    | succ n9 ih_10 =>
      intro i G9 hi hG9 hR9 hn9 H locs hP hD hS ls hl
      refine lv_iload_n hx hb dX7_house_51 rfl (lv_at hl 1 rfl) ?_
      refine lv_aload_n hx hb dX7_house_52 rfl (lv_at hl 0 rfl) ?_
      refine va_get (D := D) (ci := 7) (v := .int (nI ((rdZ (pf pc) pn).2.1))) (C := RX7) (T := TX7) (N := 22) hx hb hts iX7 hown hK hP 0 rfl rfl 7 (by decide) (hts _ mg_469) (fun _ h9 => h9) (congrArg (fun z => some (Value.int z)) rfl) dX7_house_53 ?_
      refine j_icmp_ge (tgt := 123) hx hb dX7_house_56 (by decide) (nI_toInt (by omega)) (nI_toInt (by omega)) (fun c_11 => ?_) (fun c_11 => ?_)
      · refine lv_aload_n hx hb dX7_house_123 rfl (lv_at hl 0 rfl) ?_
        refine lv_iconst (v := nI 0) hx hb dX7_house_124 (by decide) ?_
        refine va_put (D := D) (ci := 7) (v := .int (nI 0)) (ty := .int) (C := RX7) (T := TX7) (N := 22) hx hb hts iX7 tyX7 tyX7_ok nmX7 hown hK hP hD hS 0 rfl rfl 8 (by decide) (hts _ mg_470) (fun _ h9 => h9) rfl (tyX7_ok 8 (by decide)) rfl rfl (Nat.le_of_ble_eq_true rfl) dX7_house_125 (fun H locs hP hD hS => ?_)
        have hP : va_P D vwCl (mW h g cI (upd (upd u_1.1 7 (nI ((rdZ (pf pc) pn).2.1))) 8 (nI 0)) hz G9) H := hP
        have hD : va_D A (mW h g cI (upd (upd u_1.1 7 (nI ((rdZ (pf pc) pn).2.1))) 8 (nI 0)) hz G9) := hD
        refine lv_aload_n hx hb dX7_house_128 rfl (lv_at hl 0 rfl) ?_
        refine lv_iconst (v := nI 0) hx hb dX7_house_129 (by decide) ?_
        refine va_put (D := D) (ci := 7) (v := .int (nI 0)) (ty := .int) (C := RX7) (T := TX7) (N := 22) hx hb hts iX7 tyX7 tyX7_ok nmX7 hown hK hP hD hS 0 rfl rfl 12 (by decide) (hts _ mg_474) (fun _ h9 => h9) rfl (tyX7_ok 12 (by decide)) rfl rfl (Nat.le_of_ble_eq_true rfl) dX7_house_130 (fun H locs hP hD hS => ?_)
        have hP : va_P D vwCl (mW h g cI (upd (upd (upd u_1.1 7 (nI ((rdZ (pf pc) pn).2.1))) 8 (nI 0)) 12 (nI 0)) hz G9) H := hP
        have hD : va_D A (mW h g cI (upd (upd (upd u_1.1 7 (nI ((rdZ (pf pc) pn).2.1))) 8 (nI 0)) 12 (nI 0)) hz G9) := hD
        refine lv_aload_n hx hb dX7_house_133 rfl (lv_at hl 0 rfl) ?_
        refine lv_dup hx hb dX7_house_134 rfl ?_
        refine va_get (D := D) (ci := 7) (v := .int (nI xr)) (C := RX7) (T := TX7) (N := 22) hx hb hts iX7 hown hK hP 0 rfl rfl 9 (by decide) (hts _ mg_471) (fun _ h9 => h9) (congrArg (fun z => some (Value.int z)) hF8.2.2.1) dX7_house_135 ?_
        refine lv_iconst (v := nI 1) hx hb dX7_house_138 (by decide) ?_
        refine n_iadd hx hb dX7_house_139 ?_
        refine va_put (D := D) (ci := 7) (v := .int (nI (xr + 1))) (ty := .int) (C := RX7) (T := TX7) (N := 22) hx hb hts iX7 tyX7 tyX7_ok nmX7 hown hK hP hD hS 0 rfl rfl 9 (by decide) (hts _ mg_471) (fun _ h9 => h9) rfl (tyX7_ok 9 (by decide)) rfl rfl (Nat.le_of_ble_eq_true rfl) dX7_house_140 (fun H locs hP hD hS => ?_)
        have hP : va_P D vwCl (mW h g cI (upd (upd (upd (upd u_1.1 7 (nI ((rdZ (pf pc) pn).2.1))) 8 (nI 0)) 12 (nI 0)) 9 (nI (xr + 1))) hz G9) H := hP
        have hD : va_D A (mW h g cI (upd (upd (upd (upd u_1.1 7 (nI ((rdZ (pf pc) pn).2.1))) 8 (nI 0)) 12 (nI 0)) 9 (nI (xr + 1))) hz G9) := hD
        refine lv_aload_n hx hb dX7_house_143 rfl (lv_at hl 0 rfl) ?_
        refine lv_iconst (v := nI 0) hx hb dX7_house_144 (by decide) ?_
        refine va_put (D := D) (ci := 7) (v := .int (nI 0)) (ty := .int) (C := RX7) (T := TX7) (N := 22) hx hb hts iX7 tyX7 tyX7_ok nmX7 hown hK hP hD hS 0 rfl rfl 1 (by decide) (hts _ mg_463) (fun _ h9 => h9) rfl (tyX7_ok 1 (by decide)) rfl rfl (Nat.le_of_ble_eq_true rfl) dX7_house_145 (fun H locs hP hD hS => ?_)
        have hP : va_P D vwCl (mW h g cI (upd (upd (upd (upd (upd u_1.1 7 (nI ((rdZ (pf pc) pn).2.1))) 8 (nI 0)) 12 (nI 0)) 9 (nI (xr + 1))) 1 (nI 0)) hz G9) H := hP
        have hD : va_D A (mW h g cI (upd (upd (upd (upd (upd u_1.1 7 (nI ((rdZ (pf pc) pn).2.1))) 8 (nI 0)) 12 (nI 0)) 9 (nI (xr + 1))) 1 (nI 0)) hz G9) := hD
        refine lv_aload_n hx hb dX7_house_148 rfl (lv_at hl 0 rfl) ?_
        refine va_get (D := D) (ci := 7) (v := .int (nI ((rdZ (pf pc) pn).2.1))) (C := RX7) (T := TX7) (N := 22) hx hb hts iX7 hown hK hP 0 rfl rfl 7 (by decide) (hts _ mg_469) (fun _ h9 => h9) (congrArg (fun z => some (Value.int z)) rfl) dX7_house_149 ?_
        exact rw_iret (wp := (fun u => mW h g cI u.1 hz u.2)) (post := (fun (r : Int32) (u : (Nat → Int32) × (Nat → Nat → Int32)) => r = nI (rdZ (pf pc) pn).2.1 ∧ MF (pb (pf pc) pn) 0 (xr + 1) 0 pc ((rdZ (pf pc) pn).2.1, 0, nI 0, pt (pf pc) q.2.2.2.1 pn, q.2.2.2.2) kq u.1 u.2)) (upd (upd (upd (upd (upd u_1.1 7 (nI ((rdZ (pf pc) pn).2.1))) 8 (nI 0)) 12 (nI 0)) 9 (nI (xr + 1))) 1 (nI 0), G9) hx hb hr hlocks hK hP hD hS (rfl) (⟨rfl, ⟨rfl, rfl, rfl, fun v hv j hj => by show G9 10 (5 * v + j) = _; rw [hG9 10 (by decide)]; show (if 5 * v + j < 25 then u_1.2 3 (5 * v + j) else _) = _; rw [if_pos (by have := (hk v hv).2.1; omega)]; exact hP7.2.2.2.1 v hv (by omega) j hj, fun x hx => hR9 x (by rw [show i = (rdZ (pf pc) pn).2.1 by omega]; exact hx), fun x hx => absurd hx (Nat.not_lt_zero x)⟩, rfl, rfl, by show G9 0 = pc; rw [hG9 0 (by decide)]; exact hF8.2.2.2.1, fun y => absurd y (by decide), fun _ => by rcases hxi with h9 | h9 <;> first | (have := hF8.2.2.2.2.2 h9; show (u_1.1 15).toInt < ((xr + 1 : Nat) : Int); omega) | (have := (hF8.2.2.2.2.1 h9).1; show (u_1.1 15).toInt < ((xr + 1 : Nat) : Int); rw [this, nI_toInt (by omega)]; omega)⟩) dX7_house_152
      · refine lv_aload_n hx hb dX7_house_59 rfl (lv_at hl 0 rfl) ?_
        refine va_get (D := D) (ci := 7) (v := .ref (g 11)) (C := RX7) (T := TX7) (N := 22) hx hb hts iX7 hown hK hP 0 rfl rfl 11 (by decide) (hts _ mg_473) (fun _ h9 => h9) rfl dX7_house_60 ?_
        refine lv_iconst (v := nI 4) hx hb dX7_house_63 (by decide) ?_
        refine lv_iload_n hx hb dX7_house_64 rfl (lv_at hl 1 rfl) ?_
        refine n_imul hx hb dX7_house_65 ?_
        refine lv_aload_n hx hb dX7_house_66 rfl (lv_at hl 0 rfl) ?_
        refine va_get (D := D) (ci := 7) (v := .ref (g 4)) (C := RX7) (T := TX7) (N := 22) hx hb hts iX7 hown hK hP 0 rfl rfl 4 (by decide) (hts _ mg_466) (fun _ h9 => h9) rfl dX7_house_67 ?_
        refine lv_iconst (v := nI 4) hx hb dX7_house_70 (by decide) ?_
        refine lv_iload_n hx hb dX7_house_71 rfl (lv_at hl 1 rfl) ?_
        refine n_imul hx hb dX7_house_72 ?_
        refine n_aldi hx hb hK hP 3 0 rfl rfl (by omega) (by decide) (v := nI ((pt (pf pc) q.2.2.2.1 pn) i 0)) ((by show G9 4 _ = _; rw [hG9 4 (by decide)]; exact (hP7.2.2.2.2.1 i (by omega)).1)) dX7_house_73 ?_
        refine n_asti hx hb hK hP hD hS 5 0 rfl rfl (by omega) (by decide) dX7_house_74 (fun H locs hP hD hS => ?_)
        have hP : va_P D vwCl (mW h g cI (upd u_1.1 7 (nI ((rdZ (pf pc) pn).2.1))) hz (updF G9 11 (upd (G9 11) (4 * i) (nI ((pt (pf pc) q.2.2.2.1 pn) i 0))))) H := hP
        have hD : va_D A (mW h g cI (upd u_1.1 7 (nI ((rdZ (pf pc) pn).2.1))) hz (updF G9 11 (upd (G9 11) (4 * i) (nI ((pt (pf pc) q.2.2.2.1 pn) i 0))))) := hD
        refine lv_aload_n hx hb dX7_house_75 rfl (lv_at hl 0 rfl) ?_
        refine va_get (D := D) (ci := 7) (v := .ref (g 11)) (C := RX7) (T := TX7) (N := 22) hx hb hts iX7 hown hK hP 0 rfl rfl 11 (by decide) (hts _ mg_473) (fun _ h9 => h9) rfl dX7_house_76 ?_
        refine lv_iconst (v := nI 4) hx hb dX7_house_79 (by decide) ?_
        refine lv_iload_n hx hb dX7_house_80 rfl (lv_at hl 1 rfl) ?_
        refine n_imul hx hb dX7_house_81 ?_
        refine lv_iconst (v := nI 1) hx hb dX7_house_82 (by decide) ?_
        refine n_iadd hx hb dX7_house_83 ?_
        refine lv_aload_n hx hb dX7_house_84 rfl (lv_at hl 0 rfl) ?_
        refine va_get (D := D) (ci := 7) (v := .ref (g 4)) (C := RX7) (T := TX7) (N := 22) hx hb hts iX7 hown hK hP 0 rfl rfl 4 (by decide) (hts _ mg_466) (fun _ h9 => h9) rfl dX7_house_85 ?_
        refine lv_iconst (v := nI 4) hx hb dX7_house_88 (by decide) ?_
        refine lv_iload_n hx hb dX7_house_89 rfl (lv_at hl 1 rfl) ?_
        refine n_imul hx hb dX7_house_90 ?_
        refine lv_iconst (v := nI 1) hx hb dX7_house_91 (by decide) ?_
        refine n_iadd hx hb dX7_house_92 ?_
        refine n_aldi hx hb hK hP 3 0 rfl rfl (by omega) (by decide) (v := nI ((pt (pf pc) q.2.2.2.1 pn) i 1)) ((by show G9 4 _ = _; rw [hG9 4 (by decide)]; exact (hP7.2.2.2.2.1 i (by omega)).2)) dX7_house_93 ?_
        refine n_asti hx hb hK hP hD hS 5 0 rfl rfl (by omega) (by decide) dX7_house_94 (fun H locs hP hD hS => ?_)
        have hP : va_P D vwCl (mW h g cI (upd u_1.1 7 (nI ((rdZ (pf pc) pn).2.1))) hz (updF (updF G9 11 (upd (G9 11) (4 * i) (nI ((pt (pf pc) q.2.2.2.1 pn) i 0)))) 11 (upd ((updF G9 11 (upd (G9 11) (4 * i) (nI ((pt (pf pc) q.2.2.2.1 pn) i 0)))) 11) ((4 * i) + 1) (nI ((pt (pf pc) q.2.2.2.1 pn) i 1))))) H := hP
        have hD : va_D A (mW h g cI (upd u_1.1 7 (nI ((rdZ (pf pc) pn).2.1))) hz (updF (updF G9 11 (upd (G9 11) (4 * i) (nI ((pt (pf pc) q.2.2.2.1 pn) i 0)))) 11 (upd ((updF G9 11 (upd (G9 11) (4 * i) (nI ((pt (pf pc) q.2.2.2.1 pn) i 0)))) 11) ((4 * i) + 1) (nI ((pt (pf pc) q.2.2.2.1 pn) i 1))))) := hD
        refine lv_aload_n hx hb dX7_house_95 rfl (lv_at hl 0 rfl) ?_
        refine va_get (D := D) (ci := 7) (v := .ref (g 11)) (C := RX7) (T := TX7) (N := 22) hx hb hts iX7 hown hK hP 0 rfl rfl 11 (by decide) (hts _ mg_473) (fun _ h9 => h9) rfl dX7_house_96 ?_
        refine lv_iconst (v := nI 4) hx hb dX7_house_99 (by decide) ?_
        refine lv_iload_n hx hb dX7_house_100 rfl (lv_at hl 1 rfl) ?_
        refine n_imul hx hb dX7_house_101 ?_
        refine lv_iconst (v := nI 2) hx hb dX7_house_102 (by decide) ?_
        refine n_iadd hx hb dX7_house_103 ?_
        refine lv_iconst (v := nI 0) hx hb dX7_house_104 (by decide) ?_
        refine n_asti hx hb hK hP hD hS 5 0 rfl rfl (by omega) (by decide) dX7_house_105 (fun H locs hP hD hS => ?_)
        have hP : va_P D vwCl (mW h g cI (upd u_1.1 7 (nI ((rdZ (pf pc) pn).2.1))) hz (updF (updF (updF G9 11 (upd (G9 11) (4 * i) (nI ((pt (pf pc) q.2.2.2.1 pn) i 0)))) 11 (upd ((updF G9 11 (upd (G9 11) (4 * i) (nI ((pt (pf pc) q.2.2.2.1 pn) i 0)))) 11) ((4 * i) + 1) (nI ((pt (pf pc) q.2.2.2.1 pn) i 1)))) 11 (upd ((updF (updF G9 11 (upd (G9 11) (4 * i) (nI ((pt (pf pc) q.2.2.2.1 pn) i 0)))) 11 (upd ((updF G9 11 (upd (G9 11) (4 * i) (nI ((pt (pf pc) q.2.2.2.1 pn) i 0)))) 11) ((4 * i) + 1) (nI ((pt (pf pc) q.2.2.2.1 pn) i 1)))) 11) ((4 * i) + 2) (nI 0)))) H := hP
        have hD : va_D A (mW h g cI (upd u_1.1 7 (nI ((rdZ (pf pc) pn).2.1))) hz (updF (updF (updF G9 11 (upd (G9 11) (4 * i) (nI ((pt (pf pc) q.2.2.2.1 pn) i 0)))) 11 (upd ((updF G9 11 (upd (G9 11) (4 * i) (nI ((pt (pf pc) q.2.2.2.1 pn) i 0)))) 11) ((4 * i) + 1) (nI ((pt (pf pc) q.2.2.2.1 pn) i 1)))) 11 (upd ((updF (updF G9 11 (upd (G9 11) (4 * i) (nI ((pt (pf pc) q.2.2.2.1 pn) i 0)))) 11 (upd ((updF G9 11 (upd (G9 11) (4 * i) (nI ((pt (pf pc) q.2.2.2.1 pn) i 0)))) 11) ((4 * i) + 1) (nI ((pt (pf pc) q.2.2.2.1 pn) i 1)))) 11) ((4 * i) + 2) (nI 0)))) := hD
        refine lv_aload_n hx hb dX7_house_106 rfl (lv_at hl 0 rfl) ?_
        refine va_get (D := D) (ci := 7) (v := .ref (g 11)) (C := RX7) (T := TX7) (N := 22) hx hb hts iX7 hown hK hP 0 rfl rfl 11 (by decide) (hts _ mg_473) (fun _ h9 => h9) rfl dX7_house_107 ?_
        refine lv_iconst (v := nI 4) hx hb dX7_house_110 (by decide) ?_
        refine lv_iload_n hx hb dX7_house_111 rfl (lv_at hl 1 rfl) ?_
        refine n_imul hx hb dX7_house_112 ?_
        refine lv_iconst (v := nI 3) hx hb dX7_house_113 (by decide) ?_
        refine n_iadd hx hb dX7_house_114 ?_
        refine lv_iconst (v := nI 0) hx hb dX7_house_115 (by decide) ?_
        refine n_asti hx hb hK hP hD hS 5 0 rfl rfl (by omega) (by decide) dX7_house_116 (fun H locs hP hD hS => ?_)
        have hP : va_P D vwCl (mW h g cI (upd u_1.1 7 (nI ((rdZ (pf pc) pn).2.1))) hz (updF (updF (updF (updF G9 11 (upd (G9 11) (4 * i) (nI ((pt (pf pc) q.2.2.2.1 pn) i 0)))) 11 (upd ((updF G9 11 (upd (G9 11) (4 * i) (nI ((pt (pf pc) q.2.2.2.1 pn) i 0)))) 11) ((4 * i) + 1) (nI ((pt (pf pc) q.2.2.2.1 pn) i 1)))) 11 (upd ((updF (updF G9 11 (upd (G9 11) (4 * i) (nI ((pt (pf pc) q.2.2.2.1 pn) i 0)))) 11 (upd ((updF G9 11 (upd (G9 11) (4 * i) (nI ((pt (pf pc) q.2.2.2.1 pn) i 0)))) 11) ((4 * i) + 1) (nI ((pt (pf pc) q.2.2.2.1 pn) i 1)))) 11) ((4 * i) + 2) (nI 0))) 11 (upd ((updF (updF (updF G9 11 (upd (G9 11) (4 * i) (nI ((pt (pf pc) q.2.2.2.1 pn) i 0)))) 11 (upd ((updF G9 11 (upd (G9 11) (4 * i) (nI ((pt (pf pc) q.2.2.2.1 pn) i 0)))) 11) ((4 * i) + 1) (nI ((pt (pf pc) q.2.2.2.1 pn) i 1)))) 11 (upd ((updF (updF G9 11 (upd (G9 11) (4 * i) (nI ((pt (pf pc) q.2.2.2.1 pn) i 0)))) 11 (upd ((updF G9 11 (upd (G9 11) (4 * i) (nI ((pt (pf pc) q.2.2.2.1 pn) i 0)))) 11) ((4 * i) + 1) (nI ((pt (pf pc) q.2.2.2.1 pn) i 1)))) 11) ((4 * i) + 2) (nI 0))) 11) ((4 * i) + 3) (nI 0)))) H := hP
        have hD : va_D A (mW h g cI (upd u_1.1 7 (nI ((rdZ (pf pc) pn).2.1))) hz (updF (updF (updF (updF G9 11 (upd (G9 11) (4 * i) (nI ((pt (pf pc) q.2.2.2.1 pn) i 0)))) 11 (upd ((updF G9 11 (upd (G9 11) (4 * i) (nI ((pt (pf pc) q.2.2.2.1 pn) i 0)))) 11) ((4 * i) + 1) (nI ((pt (pf pc) q.2.2.2.1 pn) i 1)))) 11 (upd ((updF (updF G9 11 (upd (G9 11) (4 * i) (nI ((pt (pf pc) q.2.2.2.1 pn) i 0)))) 11 (upd ((updF G9 11 (upd (G9 11) (4 * i) (nI ((pt (pf pc) q.2.2.2.1 pn) i 0)))) 11) ((4 * i) + 1) (nI ((pt (pf pc) q.2.2.2.1 pn) i 1)))) 11) ((4 * i) + 2) (nI 0))) 11 (upd ((updF (updF (updF G9 11 (upd (G9 11) (4 * i) (nI ((pt (pf pc) q.2.2.2.1 pn) i 0)))) 11 (upd ((updF G9 11 (upd (G9 11) (4 * i) (nI ((pt (pf pc) q.2.2.2.1 pn) i 0)))) 11) ((4 * i) + 1) (nI ((pt (pf pc) q.2.2.2.1 pn) i 1)))) 11 (upd ((updF (updF G9 11 (upd (G9 11) (4 * i) (nI ((pt (pf pc) q.2.2.2.1 pn) i 0)))) 11 (upd ((updF G9 11 (upd (G9 11) (4 * i) (nI ((pt (pf pc) q.2.2.2.1 pn) i 0)))) 11) ((4 * i) + 1) (nI ((pt (pf pc) q.2.2.2.1 pn) i 1)))) 11) ((4 * i) + 2) (nI 0))) 11) ((4 * i) + 3) (nI 0)))) := hD
        refine lv_iinc (v := nI (i + 1)) (lv' := [(1, .int (nI (i + 1))), (0, .ref h)]) hx hb dX7_house_117 hl (k := 1) rfl (fr_inc1 _) (by decide) rfl (fun ls hl => ?_)
        refine lv_goto (tgt := 51) hx hb dX7_house_120 (by decide) ?_
        exact ih_10 (i + 1) (updF (updF (updF (updF G9 11 (upd (G9 11) (4 * i) (nI ((pt (pf pc) q.2.2.2.1 pn) i 0)))) 11 (upd ((updF G9 11 (upd (G9 11) (4 * i) (nI ((pt (pf pc) q.2.2.2.1 pn) i 0)))) 11) ((4 * i) + 1) (nI ((pt (pf pc) q.2.2.2.1 pn) i 1)))) 11 (upd ((updF (updF G9 11 (upd (G9 11) (4 * i) (nI ((pt (pf pc) q.2.2.2.1 pn) i 0)))) 11 (upd ((updF G9 11 (upd (G9 11) (4 * i) (nI ((pt (pf pc) q.2.2.2.1 pn) i 0)))) 11) ((4 * i) + 1) (nI ((pt (pf pc) q.2.2.2.1 pn) i 1)))) 11) ((4 * i) + 2) (nI 0))) 11 (upd ((updF (updF (updF G9 11 (upd (G9 11) (4 * i) (nI ((pt (pf pc) q.2.2.2.1 pn) i 0)))) 11 (upd ((updF G9 11 (upd (G9 11) (4 * i) (nI ((pt (pf pc) q.2.2.2.1 pn) i 0)))) 11) ((4 * i) + 1) (nI ((pt (pf pc) q.2.2.2.1 pn) i 1)))) 11 (upd ((updF (updF G9 11 (upd (G9 11) (4 * i) (nI ((pt (pf pc) q.2.2.2.1 pn) i 0)))) 11 (upd ((updF G9 11 (upd (G9 11) (4 * i) (nI ((pt (pf pc) q.2.2.2.1 pn) i 0)))) 11) ((4 * i) + 1) (nI ((pt (pf pc) q.2.2.2.1 pn) i 1)))) 11) ((4 * i) + 2) (nI 0))) 11) ((4 * i) + 3) (nI 0))) (by omega) (fun k hk => by simp only [updF, if_neg hk]; exact hG9 k hk) (row_read (R := G9 11) hR9 (htx i (by omega)).2.2.1 (htx i (by omega)).2.2.2) (by omega) _ _ hP hD hS _ (lv_sub hl [1, 0] rfl)
  exact K_9 ((rdZ (pf pc) pn).2.1 - 0 + 1) 0 (updF u_1.2 10 (cpyF (u_1.2 3) (u_1.2 10) 25)) (by omega) (fun _ _ => rfl) (fun x hx => absurd hx (Nat.not_lt_zero x)) (Nat.lt_succ_self _) _ _ hP hD hS _ (lv_sub hl [1, 0] rfl)
