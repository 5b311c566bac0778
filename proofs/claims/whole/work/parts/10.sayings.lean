set_option maxHeartbeats 4000000 in
set_option maxRecDepth 100000 in
theorem c_X4_lengthOf (l : Launch) (D : va_G) (a : Nat → Nat) (cI cT cN : ClassId) (B L : Nat → Int32) (b : Nat → Nat → Nat) (hS : SR b B L) (v : Nat) (hv : v < 4) : ROi l yX4_lengthOf (wA yX4_lengthOf cX4_lengthOf 2 (some .int)) ({ frames := 0, cells := 0, slots := 0, locals := 0 }) D (cTys cI cT cN) (sW a cI B L) [.ref (a 4), .int (nI v)] (nI (b v 0)) := by
  refine go_start (by decide) (Nat.le_of_ble_eq_true rfl) ?_
  intro p e s m args below meth c ls F _ hB hl
  obtain ⟨hx, hb, hr, hlocks, hml, hown, hts⟩ := F
  obtain ⟨hP, hK⟩ := hB
  have hown : s.vm.findClass RX4 = some m.cls := hown
  have hl : lv_has ls 2 [(0, .ref (a 4)), (1, .int (nI v))] := hl
  refine lv_iload_n hx hb dX4_lengthOf_0 rfl (lv_at hl 1 rfl) ?_
  refine j_if_lt (tgt := 22) hx hb dX4_lengthOf_1 (by decide) (nI_toInt (by omega)) (fun c_1 => absurd c_1 (by omega)) (fun c_1 => ?_)
  refine lv_iload_n hx hb dX4_lengthOf_4 rfl (lv_at hl 1 rfl) ?_
  refine lv_aload_n hx hb dX4_lengthOf_5 rfl (lv_at hl 0 rfl) ?_
  refine va_get (D := D) (ci := 4) (v := .ref (a 6)) (C := RX4) (T := TX4) (N := 2) hx hb hts iX4 hown hK hP 0 rfl rfl 1 (by decide) (hts _ mg_59) (fun _ h9 => h9) rfl dX4_lengthOf_6 ?_
  refine va_alen (v := nI 4) hx hb hK hP 2 0 rfl rfl rfl dX4_lengthOf_9 ?_
  refine j_icmp_ge (tgt := 22) hx hb dX4_lengthOf_10 (by decide) (nI_toInt (by omega)) (nI_toInt (by decide)) (fun c_2 => absurd c_2 (by omega)) (fun c_2 => ?_)
  refine lv_aload_n hx hb dX4_lengthOf_13 rfl (lv_at hl 0 rfl) ?_
  refine va_get (D := D) (ci := 4) (v := .ref (a 6)) (C := RX4) (T := TX4) (N := 2) hx hb hts iX4 hown hK hP 0 rfl rfl 1 (by decide) (hts _ mg_59) (fun _ h9 => h9) rfl dX4_lengthOf_14 ?_
  refine lv_iload_n hx hb dX4_lengthOf_17 rfl (lv_at hl 1 rfl) ?_
  refine n_aldi hx hb hK hP 2 0 rfl rfl (by omega) (by decide) (v := nI (b v 0)) (SR_len hS hv) dX4_lengthOf_18 ?_
  refine lv_goto (tgt := 23) hx hb dX4_lengthOf_19 (by decide) ?_
  exact ro_iret hx hb hr hlocks (rfl) dX4_lengthOf_23

set_option maxHeartbeats 4000000 in
set_option maxRecDepth 100000 in
theorem c_X4_beatOf (l : Launch) (D : va_G) (a : Nat → Nat) (cI cT cN : ClassId) (B L : Nat → Int32) (v j : Nat) (hv : v < 4) (hj : j < 4) : ROi l yX4_beatOf (wA yX4_beatOf cX4_beatOf 4 (some .int)) ({ frames := 0, cells := 0, slots := 0, locals := 0 }) D (cTys cI cT cN) (sW a cI B L) [.ref (a 4), .int (nI v), .int (nI j)] (B (v * 4 + j)) := by
  refine go_start (by decide) (Nat.le_of_ble_eq_true rfl) ?_
  intro p e s m args below meth c ls F _ hB hl
  obtain ⟨hx, hb, hr, hlocks, hml, hown, hts⟩ := F
  obtain ⟨hP, hK⟩ := hB
  have hown : s.vm.findClass RX4 = some m.cls := hown
  have hl : lv_has ls 4 [(0, .ref (a 4)), (1, .int (nI v)), (2, .int (nI j))] := hl
  refine lv_iload_n hx hb dX4_beatOf_0 rfl (lv_at hl 1 rfl) ?_
  refine j_if_lt (tgt := 18) hx hb dX4_beatOf_1 (by decide) (nI_toInt (by omega)) (fun c_1 => absurd c_1 (by omega)) (fun c_1 => ?_)
  refine lv_iload_n hx hb dX4_beatOf_4 rfl (lv_at hl 1 rfl) ?_
  refine lv_iconst (v := nI 4) hx hb dX4_beatOf_5 (by decide) ?_
  refine j_icmp_ge (tgt := 18) hx hb dX4_beatOf_6 (by decide) (nI_toInt (by omega)) (nI_toInt (by decide)) (fun c_2 => absurd c_2 (by omega)) (fun c_2 => ?_)
  refine lv_iload_n hx hb dX4_beatOf_9 rfl (lv_at hl 2 rfl) ?_
  refine j_if_lt (tgt := 18) hx hb dX4_beatOf_10 (by decide) (nI_toInt (by omega)) (fun c_3 => absurd c_3 (by omega)) (fun c_3 => ?_)
  refine lv_iload_n hx hb dX4_beatOf_13 rfl (lv_at hl 2 rfl) ?_
  refine lv_iconst (v := nI 4) hx hb dX4_beatOf_14 (by decide) ?_
  refine j_icmp_lt (tgt := 20) hx hb dX4_beatOf_15 (by decide) (nI_toInt (by omega)) (nI_toInt (by decide)) (fun c_4 => ?_) (fun c_4 => absurd c_4 (by omega))
  refine lv_iload_n hx hb dX4_beatOf_20 rfl (lv_at hl 1 rfl) ?_
  refine lv_iconst (v := nI 4) hx hb dX4_beatOf_21 (by decide) ?_
  refine n_imul hx hb dX4_beatOf_22 ?_
  refine lv_iload_n hx hb dX4_beatOf_23 rfl (lv_at hl 2 rfl) ?_
  refine n_iadd hx hb dX4_beatOf_24 ?_
  refine lv_istore_n (lv' := [(3, .int (nI ((v * 4) + j))), (0, .ref (a 4)), (1, .int (nI v)), (2, .int (nI j))]) hx hb dX4_beatOf_25 rfl hl (by decide) rfl (fun ls hl => ?_)
  refine lv_iload_n hx hb dX4_beatOf_26 rfl (lv_at hl 0 rfl) ?_
  refine lv_aload_n hx hb dX4_beatOf_27 rfl (lv_at hl 1 rfl) ?_
  refine va_get (D := D) (ci := 4) (v := .ref (a 5)) (C := RX4) (T := TX4) (N := 2) hx hb hts iX4 hown hK hP 0 rfl rfl 0 (by decide) (hts _ mg_58) (fun _ h9 => h9) rfl dX4_beatOf_28 ?_
  refine va_alen (v := nI 16) hx hb hK hP 1 0 rfl rfl rfl dX4_beatOf_31 ?_
  refine j_icmp_ge (tgt := 44) hx hb dX4_beatOf_32 (by decide) (nI_toInt (by omega)) (nI_toInt (by decide)) (fun c_5 => absurd c_5 (by omega)) (fun c_5 => ?_)
  refine lv_aload_n hx hb dX4_beatOf_35 rfl (lv_at hl 1 rfl) ?_
  refine va_get (D := D) (ci := 4) (v := .ref (a 5)) (C := RX4) (T := TX4) (N := 2) hx hb hts iX4 hown hK hP 0 rfl rfl 0 (by decide) (hts _ mg_58) (fun _ h9 => h9) rfl dX4_beatOf_36 ?_
  refine lv_iload_n hx hb dX4_beatOf_39 rfl (lv_at hl 0 rfl) ?_
  refine n_aldi hx hb hK hP 1 0 rfl rfl (by omega) (by decide) (v := B ((v * 4) + j)) (rfl) dX4_beatOf_40 ?_
  refine lv_goto (tgt := 45) hx hb dX4_beatOf_41 (by decide) ?_
  exact ro_iret hx hb hr hlocks (rfl) dX4_beatOf_45

set_option maxHeartbeats 4000000 in
set_option maxRecDepth 100000 in
theorem c_X4_beatCount (l : Launch) (D : va_G) (a : Nat → Nat) (cI cT cN : ClassId) (B L : Nat → Int32) (b : Nat → Nat → Nat) (hS : SR b B L) (h4 : ∀ v, v < 4 → b v 0 ≤ 4) : ROi l yX4_beatCount (wA yX4_beatCount cX4_beatCount 3 (some .int)) ({ frames := 0, cells := 0, slots := 0, locals := 0 }) D (cTys cI cT cN) (sW a cI B L) [.ref (a 4)] (nI (smu (fun v => b v 0) 4)) := by
  refine go_start (by decide) (Nat.le_of_ble_eq_true rfl) ?_
  intro p e s m args below meth c ls F _ hB hl
  obtain ⟨hx, hb, hr, hlocks, hml, hown, hts⟩ := F
  obtain ⟨hP, hK⟩ := hB
  have hown : s.vm.findClass RX4 = some m.cls := hown
  have hl : lv_has ls 3 [(0, .ref (a 4))] := hl
  refine lv_iconst (v := nI 0) hx hb dX4_beatCount_0 (by decide) ?_
  refine lv_istore_n (lv' := [(1, .int (nI 0)), (0, .ref (a 4))]) hx hb dX4_beatCount_1 rfl hl (by decide) rfl (fun ls hl => ?_)
  refine lv_iconst (v := nI 0) hx hb dX4_beatCount_2 (by decide) ?_
  refine lv_istore_n (lv' := [(2, .int (nI 0)), (1, .int (nI 0)), (0, .ref (a 4))]) hx hb dX4_beatCount_3 rfl hl (by decide) rfl (fun ls hl => ?_)
  have K_1 : ∀ n9 : Nat, ∀ (t : Nat) (i : Nat), i ≤ 4 → t = smu (fun v => b v 0) i → 4 - i < n9 → ∀ ls : Array Slot, lv_has ls 3 [(0, .ref (a 4)), (1, .int (nI t)), (2, .int (nI i))] → W p l e (headSpec (wA yX4_beatCount cX4_beatCount 3 (some .int)) ({ frames := 0, cells := 0, slots := 0, locals := 0 })).room s m args below meth c s.heap [] 0 0 (MQ below (vp_Si (fun x => x = nI (smu (fun v => b v 0) 4))) args s 0 0 (fun _ => False)) (F0 m 4 ls []) := by
    intro n9
    induction n9 with
    | zero => intros; omega
    | succ n9 ih_2 =>
      intro t i hi ht hn9 ls hl
      refine lv_iload_n hx hb dX4_beatCount_4 rfl (lv_at hl 2 rfl) ?_
      refine lv_aload_n hx hb dX4_beatCount_5 rfl (lv_at hl 0 rfl) ?_
      refine va_get (D := D) (ci := 4) (v := .ref (a 6)) (C := RX4) (T := TX4) (N := 2) hx hb hts iX4 hown hK hP 0 rfl rfl 1 (by decide) (hts _ mg_59) (fun _ h9 => h9) rfl dX4_beatCount_6 ?_
      refine va_alen (v := nI 4) hx hb hK hP 2 0 rfl rfl rfl dX4_beatCount_9 ?_
      refine j_icmp_ge (tgt := 28) hx hb dX4_beatCount_10 (by decide) (nI_toInt (by omega)) (nI_toInt (by decide)) (fun c_3 => ?_) (fun c_3 => ?_)
      · refine lv_iload_n hx hb dX4_beatCount_28 rfl (lv_at hl 1 rfl) ?_
        exact ro_iret hx hb hr hlocks (by rw [ht, show i = 4 by omega]) dX4_beatCount_29
      · refine lv_iload_n hx hb dX4_beatCount_13 rfl (lv_at hl 1 rfl) ?_
        refine lv_aload_n hx hb dX4_beatCount_14 rfl (lv_at hl 0 rfl) ?_
        refine va_get (D := D) (ci := 4) (v := .ref (a 6)) (C := RX4) (T := TX4) (N := 2) hx hb hts iX4 hown hK hP 0 rfl rfl 1 (by decide) (hts _ mg_59) (fun _ h9 => h9) rfl dX4_beatCount_15 ?_
        refine lv_iload_n hx hb dX4_beatCount_18 rfl (lv_at hl 2 rfl) ?_
        refine n_aldi hx hb hK hP 2 0 rfl rfl (by omega) (by decide) (v := nI (b i 0)) (SR_len hS (by omega)) dX4_beatCount_19 ?_
        refine n_iadd hx hb dX4_beatCount_20 ?_
        refine lv_istore_n (lv' := [(1, .int (nI (t + (b i 0)))), (0, .ref (a 4)), (2, .int (nI i))]) hx hb dX4_beatCount_21 rfl hl (by decide) rfl (fun ls hl => ?_)
        refine lv_iinc (v := nI (i + 1)) (lv' := [(2, .int (nI (i + 1))), (1, .int (nI (t + (b i 0)))), (0, .ref (a 4))]) hx hb dX4_beatCount_22 hl (k := 2) rfl (fr_inc1 _) (by decide) rfl (fun ls hl => ?_)
        refine lv_goto (tgt := 4) hx hb dX4_beatCount_25 (by decide) ?_
        exact ih_2 (t + (b i 0)) (i + 1) (by omega) (by rw [ht]; rfl) (by omega) _ (lv_sub hl [2, 1, 0] rfl)
  exact K_1 (4 - 0 + 1) 0 0 (by omega) (rfl) (Nat.lt_succ_self _) _ (lv_sub hl [2, 1, 0] rfl)

set_option maxHeartbeats 4000000 in
set_option maxRecDepth 100000 in
theorem c_X4_dripBy0 (l : Launch) (D : va_G) (a : Nat → Nat) (cI cT cN : ClassId) (B L : Nat → Int32) (b : Nat → Nat → Nat) (hS : SR b B L) (hok9 : hok b) (v w n : Nat) (hv : v < 4) (hw : w ≤ 1) (hn : n < 2 ^ 31) : ROi l yX4_dripBy (wA yX4_dripBy cX4_dripBy 8 (some .int)) ({ frames := 1, cells := 0, slots := 0, locals := 23 }) D (cTys cI cT cN) (sW a cI B L) [.ref (a 4), .int (nI 0), .int (nI v), .int (nI w), .int (nI n)] (nI (sd b 0 w v n)) := by
  refine go_start (by decide) (Nat.le_of_ble_eq_true rfl) ?_
  intro p e s m args below meth c ls F _ hB hl
  obtain ⟨hx, hb, hr, hlocks, hml, hown, hts⟩ := F
  obtain ⟨hP, hK⟩ := hB
  have hown : s.vm.findClass RX4 = some m.cls := hown
  have hl : lv_has ls 8 [(0, .ref (a 4)), (1, .int (nI 0)), (2, .int (nI v)), (3, .int (nI w)), (4, .int (nI n))] := hl
  have hm1 := (hok9 v hv).1
  have hm4 := (hok9 v hv).2.1
  have hmod : n % b v 0 < b v 0 := Nat.mod_lt _ hm1
  refine lv_aload_n hx hb dX4_dripBy_0 rfl (lv_at hl 0 rfl) ?_
  refine lv_iload_n hx hb dX4_dripBy_1 rfl (lv_at hl 2 rfl) ?_
  refine ro_iV (n := 1) (As := [.int (nI v)]) ⟨hx, hb, hml, hown, hts⟩ (c_X4_lengthOf l D a cI cT cN B L b hS v hv) (cwV 1 hts (gV mg_307 mg_272 mg_273 mg_4 mg_274) rfl rfl rfl vd_X4_lengthOf ⟨Nat.le_of_ble_eq_true rfl, Nat.le_of_ble_eq_true rfl⟩) (va_recv hK hP (ci := 4) (q0 := 0) rfl rfl) hK hP rfl hl.1 rfl (Nat.le_of_ble_eq_true rfl) dX4_dripBy_2 ⟨Nat.zero_le _, Nat.zero_le _⟩ ?_
  refine lv_istore (lv' := [(5, .int (nI (b v 0))), (0, .ref (a 4)), (1, .int (nI 0)), (2, .int (nI v)), (3, .int (nI w)), (4, .int (nI n))]) hx hb dX4_dripBy_5 hl (by decide) rfl (fun ls hl => ?_)
  refine lv_iload hx hb dX4_dripBy_7 (lv_at hl 0 rfl) ?_
  refine lv_iconst (v := nI 1) hx hb dX4_dripBy_9 (by decide) ?_
  refine j_icmp_lt (tgt := 18) hx hb dX4_dripBy_10 (by decide) (nI_toInt (by omega)) (nI_toInt (by decide)) (fun c_1 => absurd c_1 (by omega)) (fun c_1 => ?_)
  refine lv_iload hx hb dX4_dripBy_13 (lv_at hl 5 rfl) ?_
  refine j_if_ge (tgt := 20) hx hb dX4_dripBy_15 (by decide) (nI_toInt (by omega)) (fun c_2 => ?_) (fun c_2 => absurd c_2 (by omega))
  refine lv_iload hx hb dX4_dripBy_20 (lv_at hl 5 rfl) ?_
  refine lv_iload hx hb dX4_dripBy_22 (lv_at hl 0 rfl) ?_
  refine n_irem hx hb dX4_dripBy_24 (by omega) (by omega) (by omega) ?_
  refine lv_istore (lv' := [(6, .int (nI (n % (b v 0)))), (5, .int (nI (b v 0))), (0, .ref (a 4)), (1, .int (nI 0)), (2, .int (nI v)), (3, .int (nI w)), (4, .int (nI n))]) hx hb dX4_dripBy_25 hl (by decide) rfl (fun ls hl => ?_)
  refine lv_iload hx hb dX4_dripBy_27 (lv_at hl 1 rfl) ?_
  refine lv_iconst (v := nI 1) hx hb dX4_dripBy_29 (by decide) ?_
  refine n_isub hx hb dX4_dripBy_30 (by omega) ?_
  refine lv_iload hx hb dX4_dripBy_31 (lv_at hl 0 rfl) ?_
  refine n_isub hx hb dX4_dripBy_33 (by omega) ?_
  refine lv_istore (lv' := [(7, .int (nI (((b v 0) - 1) - (n % (b v 0))))), (6, .int (nI (n % (b v 0)))), (5, .int (nI (b v 0))), (0, .ref (a 4)), (1, .int (nI 0)), (2, .int (nI v)), (3, .int (nI w)), (4, .int (nI n))]) hx hb dX4_dripBy_34 hl (by decide) rfl (fun ls hl => ?_)
  refine lv_iload_n hx hb dX4_dripBy_36 rfl (lv_at hl 4 rfl) ?_
  refine lv_tableOut (tgt := 131) hx hb dX4_dripBy_37 (by decide) (by decide) ?_
  refine lv_aload_n hx hb dX4_dripBy_131 rfl (lv_at hl 3 rfl) ?_
  refine lv_iload_n hx hb dX4_dripBy_132 rfl (lv_at hl 5 rfl) ?_
  refine lv_iload hx hb dX4_dripBy_133 (lv_at hl 1 rfl) ?_
  refine ro_iV (n := 2) (As := [.int (nI v), .int (nI (n % (b v 0)))]) ⟨hx, hb, hml, hown, hts⟩ (c_X4_beatOf l D a cI cT cN B L v (n % (b v 0)) hv (by omega)) (cwV 2 hts (gV mg_308 mg_276 mg_277 mg_4 mg_278) rfl rfl rfl vd_X4_beatOf ⟨Nat.le_of_ble_eq_true rfl, Nat.le_of_ble_eq_true rfl⟩) (va_recv hK hP (ci := 4) (q0 := 0) rfl rfl) hK hP rfl hl.1 rfl (Nat.le_of_ble_eq_true rfl) dX4_dripBy_135 ⟨Nat.zero_le _, Nat.zero_le _⟩ ?_
  refine n_top (SR_beat hS hok9 hv (by omega)) ?_
  refine lv_iload_n hx hb dX4_dripBy_138 rfl (lv_at hl 6 rfl) ?_
  refine n_ixor hx hb dX4_dripBy_139 ?_
  exact ro_iret hx hb hr hlocks (congrArg nI (sd_k0 hok9 hv hw)) dX4_dripBy_140

set_option maxHeartbeats 4000000 in
set_option maxRecDepth 100000 in
theorem c_X4_dripBy1 (l : Launch) (D : va_G) (a : Nat → Nat) (cI cT cN : ClassId) (B L : Nat → Int32) (b : Nat → Nat → Nat) (hS : SR b B L) (hok9 : hok b) (v w n : Nat) (hv : v < 4) (hw : w ≤ 1) (hn : n < 2 ^ 31) : ROi l yX4_dripBy (wA yX4_dripBy cX4_dripBy 8 (some .int)) ({ frames := 1, cells := 0, slots := 0, locals := 23 }) D (cTys cI cT cN) (sW a cI B L) [.ref (a 4), .int (nI 1), .int (nI v), .int (nI w), .int (nI n)] (nI (sd b 1 w v n)) := by
  refine go_start (by decide) (Nat.le_of_ble_eq_true rfl) ?_
  intro p e s m args below meth c ls F _ hB hl
  obtain ⟨hx, hb, hr, hlocks, hml, hown, hts⟩ := F
  obtain ⟨hP, hK⟩ := hB
  have hown : s.vm.findClass RX4 = some m.cls := hown
  have hl : lv_has ls 8 [(0, .ref (a 4)), (1, .int (nI 1)), (2, .int (nI v)), (3, .int (nI w)), (4, .int (nI n))] := hl
  have hm1 := (hok9 v hv).1
  have hm4 := (hok9 v hv).2.1
  have hmod : n % b v 0 < b v 0 := Nat.mod_lt _ hm1
  refine lv_aload_n hx hb dX4_dripBy_0 rfl (lv_at hl 0 rfl) ?_
  refine lv_iload_n hx hb dX4_dripBy_1 rfl (lv_at hl 2 rfl) ?_
  refine ro_iV (n := 1) (As := [.int (nI v)]) ⟨hx, hb, hml, hown, hts⟩ (c_X4_lengthOf l D a cI cT cN B L b hS v hv) (cwV 1 hts (gV mg_307 mg_272 mg_273 mg_4 mg_274) rfl rfl rfl vd_X4_lengthOf ⟨Nat.le_of_ble_eq_true rfl, Nat.le_of_ble_eq_true rfl⟩) (va_recv hK hP (ci := 4) (q0 := 0) rfl rfl) hK hP rfl hl.1 rfl (Nat.le_of_ble_eq_true rfl) dX4_dripBy_2 ⟨Nat.zero_le _, Nat.zero_le _⟩ ?_
  refine lv_istore (lv' := [(5, .int (nI (b v 0))), (0, .ref (a 4)), (1, .int (nI 1)), (2, .int (nI v)), (3, .int (nI w)), (4, .int (nI n))]) hx hb dX4_dripBy_5 hl (by decide) rfl (fun ls hl => ?_)
  refine lv_iload hx hb dX4_dripBy_7 (lv_at hl 0 rfl) ?_
  refine lv_iconst (v := nI 1) hx hb dX4_dripBy_9 (by decide) ?_
  refine j_icmp_lt (tgt := 18) hx hb dX4_dripBy_10 (by decide) (nI_toInt (by omega)) (nI_toInt (by decide)) (fun c_1 => absurd c_1 (by omega)) (fun c_1 => ?_)
  refine lv_iload hx hb dX4_dripBy_13 (lv_at hl 5 rfl) ?_
  refine j_if_ge (tgt := 20) hx hb dX4_dripBy_15 (by decide) (nI_toInt (by omega)) (fun c_2 => ?_) (fun c_2 => absurd c_2 (by omega))
  refine lv_iload hx hb dX4_dripBy_20 (lv_at hl 5 rfl) ?_
  refine lv_iload hx hb dX4_dripBy_22 (lv_at hl 0 rfl) ?_
  refine n_irem hx hb dX4_dripBy_24 (by omega) (by omega) (by omega) ?_
  refine lv_istore (lv' := [(6, .int (nI (n % (b v 0)))), (5, .int (nI (b v 0))), (0, .ref (a 4)), (1, .int (nI 1)), (2, .int (nI v)), (3, .int (nI w)), (4, .int (nI n))]) hx hb dX4_dripBy_25 hl (by decide) rfl (fun ls hl => ?_)
  refine lv_iload hx hb dX4_dripBy_27 (lv_at hl 1 rfl) ?_
  refine lv_iconst (v := nI 1) hx hb dX4_dripBy_29 (by decide) ?_
  refine n_isub hx hb dX4_dripBy_30 (by omega) ?_
  refine lv_iload hx hb dX4_dripBy_31 (lv_at hl 0 rfl) ?_
  refine n_isub hx hb dX4_dripBy_33 (by omega) ?_
  refine lv_istore (lv' := [(7, .int (nI (((b v 0) - 1) - (n % (b v 0))))), (6, .int (nI (n % (b v 0)))), (5, .int (nI (b v 0))), (0, .ref (a 4)), (1, .int (nI 1)), (2, .int (nI v)), (3, .int (nI w)), (4, .int (nI n))]) hx hb dX4_dripBy_34 hl (by decide) rfl (fun ls hl => ?_)
  refine lv_iload_n hx hb dX4_dripBy_36 rfl (lv_at hl 4 rfl) ?_
  refine lv_tableIn (off := 31) (tgt := 68) hx hb dX4_dripBy_37 (by rw [show (nI 1).toInt = 1 from by first | decide | (rw [nI_toInt (by decide)]; omega)]; decide) (by rw [show (nI 1).toInt = 1 from by first | decide | (rw [nI_toInt (by decide)]; omega)]; decide) (by rw [show (nI 1).toInt = 1 from by first | decide | (rw [nI_toInt (by decide)]; omega)]; rfl) (by decide) ?_
  refine lv_aload_n hx hb dX4_dripBy_68 rfl (lv_at hl 3 rfl) ?_
  refine lv_iload_n hx hb dX4_dripBy_69 rfl (lv_at hl 5 rfl) ?_
  refine lv_iload hx hb dX4_dripBy_70 (lv_at hl 0 rfl) ?_
  refine ro_iV (n := 2) (As := [.int (nI v), .int (nI (((b v 0) - 1) - (n % (b v 0))))]) ⟨hx, hb, hml, hown, hts⟩ (c_X4_beatOf l D a cI cT cN B L v (((b v 0) - 1) - (n % (b v 0))) hv (by omega)) (cwV 2 hts (gV mg_308 mg_276 mg_277 mg_4 mg_278) rfl rfl rfl vd_X4_beatOf ⟨Nat.le_of_ble_eq_true rfl, Nat.le_of_ble_eq_true rfl⟩) (va_recv hK hP (ci := 4) (q0 := 0) rfl rfl) hK hP rfl hl.1 rfl (Nat.le_of_ble_eq_true rfl) dX4_dripBy_72 ⟨Nat.zero_le _, Nat.zero_le _⟩ ?_
  refine n_top (SR_beat hS hok9 hv (by omega)) ?_
  refine lv_iload_n hx hb dX4_dripBy_75 rfl (lv_at hl 6 rfl) ?_
  refine n_ixor hx hb dX4_dripBy_76 ?_
  exact ro_iret hx hb hr hlocks (congrArg nI (sd_k1 hok9 hv hw)) dX4_dripBy_77

set_option maxHeartbeats 4000000 in
set_option maxRecDepth 100000 in
theorem c_X4_dripBy2 (l : Launch) (D : va_G) (a : Nat → Nat) (cI cT cN : ClassId) (B L : Nat → Int32) (b : Nat → Nat → Nat) (hS : SR b B L) (hok9 : hok b) (v w n : Nat) (hv : v < 4) (hw : w ≤ 1) (hn : n < 2 ^ 31) : ROi l yX4_dripBy (wA yX4_dripBy cX4_dripBy 8 (some .int)) ({ frames := 1, cells := 0, slots := 0, locals := 23 }) D (cTys cI cT cN) (sW a cI B L) [.ref (a 4), .int (nI 2), .int (nI v), .int (nI w), .int (nI n)] (nI (sd b 2 w v n)) := by
  refine go_start (by decide) (Nat.le_of_ble_eq_true rfl) ?_
  intro p e s m args below meth c ls F _ hB hl
  obtain ⟨hx, hb, hr, hlocks, hml, hown, hts⟩ := F
  obtain ⟨hP, hK⟩ := hB
  have hown : s.vm.findClass RX4 = some m.cls := hown
  have hl : lv_has ls 8 [(0, .ref (a 4)), (1, .int (nI 2)), (2, .int (nI v)), (3, .int (nI w)), (4, .int (nI n))] := hl
  have hm1 := (hok9 v hv).1
  have hm4 := (hok9 v hv).2.1
  have hmod : n % b v 0 < b v 0 := Nat.mod_lt _ hm1
  refine lv_aload_n hx hb dX4_dripBy_0 rfl (lv_at hl 0 rfl) ?_
  refine lv_iload_n hx hb dX4_dripBy_1 rfl (lv_at hl 2 rfl) ?_
  refine ro_iV (n := 1) (As := [.int (nI v)]) ⟨hx, hb, hml, hown, hts⟩ (c_X4_lengthOf l D a cI cT cN B L b hS v hv) (cwV 1 hts (gV mg_307 mg_272 mg_273 mg_4 mg_274) rfl rfl rfl vd_X4_lengthOf ⟨Nat.le_of_ble_eq_true rfl, Nat.le_of_ble_eq_true rfl⟩) (va_recv hK hP (ci := 4) (q0 := 0) rfl rfl) hK hP rfl hl.1 rfl (Nat.le_of_ble_eq_true rfl) dX4_dripBy_2 ⟨Nat.zero_le _, Nat.zero_le _⟩ ?_
  refine lv_istore (lv' := [(5, .int (nI (b v 0))), (0, .ref (a 4)), (1, .int (nI 2)), (2, .int (nI v)), (3, .int (nI w)), (4, .int (nI n))]) hx hb dX4_dripBy_5 hl (by decide) rfl (fun ls hl => ?_)
  refine lv_iload hx hb dX4_dripBy_7 (lv_at hl 0 rfl) ?_
  refine lv_iconst (v := nI 1) hx hb dX4_dripBy_9 (by decide) ?_
  refine j_icmp_lt (tgt := 18) hx hb dX4_dripBy_10 (by decide) (nI_toInt (by omega)) (nI_toInt (by decide)) (fun c_1 => absurd c_1 (by omega)) (fun c_1 => ?_)
  refine lv_iload hx hb dX4_dripBy_13 (lv_at hl 5 rfl) ?_
  refine j_if_ge (tgt := 20) hx hb dX4_dripBy_15 (by decide) (nI_toInt (by omega)) (fun c_2 => ?_) (fun c_2 => absurd c_2 (by omega))
  refine lv_iload hx hb dX4_dripBy_20 (lv_at hl 5 rfl) ?_
  refine lv_iload hx hb dX4_dripBy_22 (lv_at hl 0 rfl) ?_
  refine n_irem hx hb dX4_dripBy_24 (by omega) (by omega) (by omega) ?_
  refine lv_istore (lv' := [(6, .int (nI (n % (b v 0)))), (5, .int (nI (b v 0))), (0, .ref (a 4)), (1, .int (nI 2)), (2, .int (nI v)), (3, .int (nI w)), (4, .int (nI n))]) hx hb dX4_dripBy_25 hl (by decide) rfl (fun ls hl => ?_)
  refine lv_iload hx hb dX4_dripBy_27 (lv_at hl 1 rfl) ?_
  refine lv_iconst (v := nI 1) hx hb dX4_dripBy_29 (by decide) ?_
  refine n_isub hx hb dX4_dripBy_30 (by omega) ?_
  refine lv_iload hx hb dX4_dripBy_31 (lv_at hl 0 rfl) ?_
  refine n_isub hx hb dX4_dripBy_33 (by omega) ?_
  refine lv_istore (lv' := [(7, .int (nI (((b v 0) - 1) - (n % (b v 0))))), (6, .int (nI (n % (b v 0)))), (5, .int (nI (b v 0))), (0, .ref (a 4)), (1, .int (nI 2)), (2, .int (nI v)), (3, .int (nI w)), (4, .int (nI n))]) hx hb dX4_dripBy_34 hl (by decide) rfl (fun ls hl => ?_)
  refine lv_iload_n hx hb dX4_dripBy_36 rfl (lv_at hl 4 rfl) ?_
  refine lv_tableIn (off := 41) (tgt := 78) hx hb dX4_dripBy_37 (by rw [show (nI 2).toInt = 2 from by first | decide | (rw [nI_toInt (by decide)]; omega)]; decide) (by rw [show (nI 2).toInt = 2 from by first | decide | (rw [nI_toInt (by decide)]; omega)]; decide) (by rw [show (nI 2).toInt = 2 from by first | decide | (rw [nI_toInt (by decide)]; omega)]; rfl) (by decide) ?_
  refine lv_iload hx hb dX4_dripBy_78 (lv_at hl 7 rfl) ?_
  refine lv_iconst (v := nI 2) hx hb dX4_dripBy_80 (by decide) ?_
  refine n_irem hx hb dX4_dripBy_81 (by omega) (by omega) (by omega) ?_
  refine lv_iconst (v := nI 1) hx hb dX4_dripBy_82 (by decide) ?_
  refine j_icmp_ne (tgt := 90) hx hb dX4_dripBy_83 (by decide) (nI_toInt (by omega)) (nI_toInt (by decide)) (fun c_3 => ?_) (fun c_3 => ?_)
  · refine lv_aload_n hx hb dX4_dripBy_90 rfl (lv_at hl 3 rfl) ?_
    refine lv_iload_n hx hb dX4_dripBy_91 rfl (lv_at hl 5 rfl) ?_
    refine lv_iload hx hb dX4_dripBy_92 (lv_at hl 1 rfl) ?_
    refine ro_iV (n := 2) (As := [.int (nI v), .int (nI (n % (b v 0)))]) ⟨hx, hb, hml, hown, hts⟩ (c_X4_beatOf l D a cI cT cN B L v (n % (b v 0)) hv (by omega)) (cwV 2 hts (gV mg_308 mg_276 mg_277 mg_4 mg_278) rfl rfl rfl vd_X4_beatOf ⟨Nat.le_of_ble_eq_true rfl, Nat.le_of_ble_eq_true rfl⟩) (va_recv hK hP (ci := 4) (q0 := 0) rfl rfl) hK hP rfl hl.1 rfl (Nat.le_of_ble_eq_true rfl) dX4_dripBy_94 ⟨Nat.zero_le _, Nat.zero_le _⟩ ?_
    refine n_top (SR_beat hS hok9 hv (by omega)) ?_
    refine lv_iload_n hx hb dX4_dripBy_97 rfl (lv_at hl 6 rfl) ?_
    refine n_ixor hx hb dX4_dripBy_98 ?_
    exact ro_iret hx hb hr hlocks (congrArg nI (sd_k2b hok9 hv hw (by omega))) dX4_dripBy_99
  · refine lv_iconst (v := nI 0) hx hb dX4_dripBy_86 (by decide) ?_
    refine lv_goto (tgt := 97) hx hb dX4_dripBy_87 (by decide) ?_
    refine lv_iload_n hx hb dX4_dripBy_97 rfl (lv_at hl 6 rfl) ?_
    refine n_ixor hx hb dX4_dripBy_98 ?_
    exact ro_iret hx hb hr hlocks (congrArg nI (sd_k2a hw (by omega))) dX4_dripBy_99

set_option maxHeartbeats 4000000 in
set_option maxRecDepth 100000 in
theorem c_X4_dripBy3 (l : Launch) (D : va_G) (a : Nat → Nat) (cI cT cN : ClassId) (B L : Nat → Int32) (b : Nat → Nat → Nat) (hS : SR b B L) (hok9 : hok b) (v w n : Nat) (hv : v < 4) (hw : w ≤ 1) (hn : n < 2 ^ 31) : ROi l yX4_dripBy (wA yX4_dripBy cX4_dripBy 8 (some .int)) ({ frames := 1, cells := 0, slots := 0, locals := 23 }) D (cTys cI cT cN) (sW a cI B L) [.ref (a 4), .int (nI 3), .int (nI v), .int (nI w), .int (nI n)] (nI (sd b 3 w v n)) := by
  refine go_start (by decide) (Nat.le_of_ble_eq_true rfl) ?_
  intro p e s m args below meth c ls F _ hB hl
  obtain ⟨hx, hb, hr, hlocks, hml, hown, hts⟩ := F
  obtain ⟨hP, hK⟩ := hB
  have hown : s.vm.findClass RX4 = some m.cls := hown
  have hl : lv_has ls 8 [(0, .ref (a 4)), (1, .int (nI 3)), (2, .int (nI v)), (3, .int (nI w)), (4, .int (nI n))] := hl
  have hm1 := (hok9 v hv).1
  have hm4 := (hok9 v hv).2.1
  have hmod : n % b v 0 < b v 0 := Nat.mod_lt _ hm1
  refine lv_aload_n hx hb dX4_dripBy_0 rfl (lv_at hl 0 rfl) ?_
  refine lv_iload_n hx hb dX4_dripBy_1 rfl (lv_at hl 2 rfl) ?_
  refine ro_iV (n := 1) (As := [.int (nI v)]) ⟨hx, hb, hml, hown, hts⟩ (c_X4_lengthOf l D a cI cT cN B L b hS v hv) (cwV 1 hts (gV mg_307 mg_272 mg_273 mg_4 mg_274) rfl rfl rfl vd_X4_lengthOf ⟨Nat.le_of_ble_eq_true rfl, Nat.le_of_ble_eq_true rfl⟩) (va_recv hK hP (ci := 4) (q0 := 0) rfl rfl) hK hP rfl hl.1 rfl (Nat.le_of_ble_eq_true rfl) dX4_dripBy_2 ⟨Nat.zero_le _, Nat.zero_le _⟩ ?_
  refine lv_istore (lv' := [(5, .int (nI (b v 0))), (0, .ref (a 4)), (1, .int (nI 3)), (2, .int (nI v)), (3, .int (nI w)), (4, .int (nI n))]) hx hb dX4_dripBy_5 hl (by decide) rfl (fun ls hl => ?_)
  refine lv_iload hx hb dX4_dripBy_7 (lv_at hl 0 rfl) ?_
  refine lv_iconst (v := nI 1) hx hb dX4_dripBy_9 (by decide) ?_
  refine j_icmp_lt (tgt := 18) hx hb dX4_dripBy_10 (by decide) (nI_toInt (by omega)) (nI_toInt (by decide)) (fun c_1 => absurd c_1 (by omega)) (fun c_1 => ?_)
  refine lv_iload hx hb dX4_dripBy_13 (lv_at hl 5 rfl) ?_
  refine j_if_ge (tgt := 20) hx hb dX4_dripBy_15 (by decide) (nI_toInt (by omega)) (fun c_2 => ?_) (fun c_2 => absurd c_2 (by omega))
  refine lv_iload hx hb dX4_dripBy_20 (lv_at hl 5 rfl) ?_
  refine lv_iload hx hb dX4_dripBy_22 (lv_at hl 0 rfl) ?_
  refine n_irem hx hb dX4_dripBy_24 (by omega) (by omega) (by omega) ?_
  refine lv_istore (lv' := [(6, .int (nI (n % (b v 0)))), (5, .int (nI (b v 0))), (0, .ref (a 4)), (1, .int (nI 3)), (2, .int (nI v)), (3, .int (nI w)), (4, .int (nI n))]) hx hb dX4_dripBy_25 hl (by decide) rfl (fun ls hl => ?_)
  refine lv_iload hx hb dX4_dripBy_27 (lv_at hl 1 rfl) ?_
  refine lv_iconst (v := nI 1) hx hb dX4_dripBy_29 (by decide) ?_
  refine n_isub hx hb dX4_dripBy_30 (by omega) ?_
  refine lv_iload hx hb dX4_dripBy_31 (lv_at hl 0 rfl) ?_
  refine n_isub hx hb dX4_dripBy_33 (by omega) ?_
  refine lv_istore (lv' := [(7, .int (nI (((b v 0) - 1) - (n % (b v 0))))), (6, .int (nI (n % (b v 0)))), (5, .int (nI (b v 0))), (0, .ref (a 4)), (1, .int (nI 3)), (2, .int (nI v)), (3, .int (nI w)), (4, .int (nI n))]) hx hb dX4_dripBy_34 hl (by decide) rfl (fun ls hl => ?_)
  refine lv_iload_n hx hb dX4_dripBy_36 rfl (lv_at hl 4 rfl) ?_
  refine lv_tableIn (off := 63) (tgt := 100) hx hb dX4_dripBy_37 (by rw [show (nI 3).toInt = 3 from by first | decide | (rw [nI_toInt (by decide)]; omega)]; decide) (by rw [show (nI 3).toInt = 3 from by first | decide | (rw [nI_toInt (by decide)]; omega)]; decide) (by rw [show (nI 3).toInt = 3 from by first | decide | (rw [nI_toInt (by decide)]; omega)]; rfl) (by decide) ?_
  refine lv_iload hx hb dX4_dripBy_100 (lv_at hl 1 rfl) ?_
  refine j_if_ne (tgt := 109) hx hb dX4_dripBy_102 (by decide) (nI_toInt (by omega)) (fun c_3 => ?_) (fun c_3 => ?_)
  · refine lv_aload_n hx hb dX4_dripBy_109 rfl (lv_at hl 3 rfl) ?_
    refine lv_iload_n hx hb dX4_dripBy_110 rfl (lv_at hl 5 rfl) ?_
    refine lv_iload hx hb dX4_dripBy_111 (lv_at hl 1 rfl) ?_
    refine ro_iV (n := 2) (As := [.int (nI v), .int (nI (n % (b v 0)))]) ⟨hx, hb, hml, hown, hts⟩ (c_X4_beatOf l D a cI cT cN B L v (n % (b v 0)) hv (by omega)) (cwV 2 hts (gV mg_308 mg_276 mg_277 mg_4 mg_278) rfl rfl rfl vd_X4_beatOf ⟨Nat.le_of_ble_eq_true rfl, Nat.le_of_ble_eq_true rfl⟩) (va_recv hK hP (ci := 4) (q0 := 0) rfl rfl) hK hP rfl hl.1 rfl (Nat.le_of_ble_eq_true rfl) dX4_dripBy_113 ⟨Nat.zero_le _, Nat.zero_le _⟩ ?_
    refine n_top (SR_beat hS hok9 hv (by omega)) ?_
    refine lv_iload_n hx hb dX4_dripBy_116 rfl (lv_at hl 6 rfl) ?_
    refine n_ixor hx hb dX4_dripBy_117 ?_
    exact ro_iret hx hb hr hlocks (congrArg nI (sd_k3b hok9 hv hw (by omega))) dX4_dripBy_118
  · refine lv_iconst (v := nI 1) hx hb dX4_dripBy_105 (by decide) ?_
    refine lv_goto (tgt := 116) hx hb dX4_dripBy_106 (by decide) ?_
    refine lv_iload_n hx hb dX4_dripBy_116 rfl (lv_at hl 6 rfl) ?_
    refine n_ixor hx hb dX4_dripBy_117 ?_
    exact ro_iret hx hb hr hlocks (congrArg nI (sd_k3a hw (by omega))) dX4_dripBy_118

set_option maxHeartbeats 4000000 in
set_option maxRecDepth 100000 in
theorem c_X4_dripBy4 (l : Launch) (D : va_G) (a : Nat → Nat) (cI cT cN : ClassId) (B L : Nat → Int32) (b : Nat → Nat → Nat) (hS : SR b B L) (hok9 : hok b) (v w n : Nat) (hv : v < 4) (hw : w ≤ 1) (hn : n < 2 ^ 31) : ROi l yX4_dripBy (wA yX4_dripBy cX4_dripBy 8 (some .int)) ({ frames := 1, cells := 0, slots := 0, locals := 23 }) D (cTys cI cT cN) (sW a cI B L) [.ref (a 4), .int (nI 4), .int (nI v), .int (nI w), .int (nI n)] (nI (sd b 4 w v n)) := by
  refine go_start (by decide) (Nat.le_of_ble_eq_true rfl) ?_
  intro p e s m args below meth c ls F _ hB hl
  obtain ⟨hx, hb, hr, hlocks, hml, hown, hts⟩ := F
  obtain ⟨hP, hK⟩ := hB
  have hown : s.vm.findClass RX4 = some m.cls := hown
  have hl : lv_has ls 8 [(0, .ref (a 4)), (1, .int (nI 4)), (2, .int (nI v)), (3, .int (nI w)), (4, .int (nI n))] := hl
  have hm1 := (hok9 v hv).1
  have hm4 := (hok9 v hv).2.1
  have hmod : n % b v 0 < b v 0 := Nat.mod_lt _ hm1
  refine lv_aload_n hx hb dX4_dripBy_0 rfl (lv_at hl 0 rfl) ?_
  refine lv_iload_n hx hb dX4_dripBy_1 rfl (lv_at hl 2 rfl) ?_
  refine ro_iV (n := 1) (As := [.int (nI v)]) ⟨hx, hb, hml, hown, hts⟩ (c_X4_lengthOf l D a cI cT cN B L b hS v hv) (cwV 1 hts (gV mg_307 mg_272 mg_273 mg_4 mg_274) rfl rfl rfl vd_X4_lengthOf ⟨Nat.le_of_ble_eq_true rfl, Nat.le_of_ble_eq_true rfl⟩) (va_recv hK hP (ci := 4) (q0 := 0) rfl rfl) hK hP rfl hl.1 rfl (Nat.le_of_ble_eq_true rfl) dX4_dripBy_2 ⟨Nat.zero_le _, Nat.zero_le _⟩ ?_
  refine lv_istore (lv' := [(5, .int (nI (b v 0))), (0, .ref (a 4)), (1, .int (nI 4)), (2, .int (nI v)), (3, .int (nI w)), (4, .int (nI n))]) hx hb dX4_dripBy_5 hl (by decide) rfl (fun ls hl => ?_)
  refine lv_iload hx hb dX4_dripBy_7 (lv_at hl 0 rfl) ?_
  refine lv_iconst (v := nI 1) hx hb dX4_dripBy_9 (by decide) ?_
  refine j_icmp_lt (tgt := 18) hx hb dX4_dripBy_10 (by decide) (nI_toInt (by omega)) (nI_toInt (by decide)) (fun c_1 => absurd c_1 (by omega)) (fun c_1 => ?_)
  refine lv_iload hx hb dX4_dripBy_13 (lv_at hl 5 rfl) ?_
  refine j_if_ge (tgt := 20) hx hb dX4_dripBy_15 (by decide) (nI_toInt (by omega)) (fun c_2 => ?_) (fun c_2 => absurd c_2 (by omega))
  refine lv_iload hx hb dX4_dripBy_20 (lv_at hl 5 rfl) ?_
  refine lv_iload hx hb dX4_dripBy_22 (lv_at hl 0 rfl) ?_
  refine n_irem hx hb dX4_dripBy_24 (by omega) (by omega) (by omega) ?_
  refine lv_istore (lv' := [(6, .int (nI (n % (b v 0)))), (5, .int (nI (b v 0))), (0, .ref (a 4)), (1, .int (nI 4)), (2, .int (nI v)), (3, .int (nI w)), (4, .int (nI n))]) hx hb dX4_dripBy_25 hl (by decide) rfl (fun ls hl => ?_)
  refine lv_iload hx hb dX4_dripBy_27 (lv_at hl 1 rfl) ?_
  refine lv_iconst (v := nI 1) hx hb dX4_dripBy_29 (by decide) ?_
  refine n_isub hx hb dX4_dripBy_30 (by omega) ?_
  refine lv_iload hx hb dX4_dripBy_31 (lv_at hl 0 rfl) ?_
  refine n_isub hx hb dX4_dripBy_33 (by omega) ?_
  refine lv_istore (lv' := [(7, .int (nI (((b v 0) - 1) - (n % (b v 0))))), (6, .int (nI (n % (b v 0)))), (5, .int (nI (b v 0))), (0, .ref (a 4)), (1, .int (nI 4)), (2, .int (nI v)), (3, .int (nI w)), (4, .int (nI n))]) hx hb dX4_dripBy_34 hl (by decide) rfl (fun ls hl => ?_)
  refine lv_iload_n hx hb dX4_dripBy_36 rfl (lv_at hl 4 rfl) ?_
  refine lv_tableIn (off := 82) (tgt := 119) hx hb dX4_dripBy_37 (by rw [show (nI 4).toInt = 4 from by first | decide | (rw [nI_toInt (by decide)]; omega)]; decide) (by rw [show (nI 4).toInt = 4 from by first | decide | (rw [nI_toInt (by decide)]; omega)]; decide) (by rw [show (nI 4).toInt = 4 from by first | decide | (rw [nI_toInt (by decide)]; omega)]; rfl) (by decide) ?_
  refine lv_aload_n hx hb dX4_dripBy_119 rfl (lv_at hl 3 rfl) ?_
  refine lv_iload_n hx hb dX4_dripBy_120 rfl (lv_at hl 5 rfl) ?_
  refine lv_iload hx hb dX4_dripBy_121 (lv_at hl 0 rfl) ?_
  refine ro_iV (n := 2) (As := [.int (nI v), .int (nI (((b v 0) - 1) - (n % (b v 0))))]) ⟨hx, hb, hml, hown, hts⟩ (c_X4_beatOf l D a cI cT cN B L v (((b v 0) - 1) - (n % (b v 0))) hv (by omega)) (cwV 2 hts (gV mg_308 mg_276 mg_277 mg_4 mg_278) rfl rfl rfl vd_X4_beatOf ⟨Nat.le_of_ble_eq_true rfl, Nat.le_of_ble_eq_true rfl⟩) (va_recv hK hP (ci := 4) (q0 := 0) rfl rfl) hK hP rfl hl.1 rfl (Nat.le_of_ble_eq_true rfl) dX4_dripBy_123 ⟨Nat.zero_le _, Nat.zero_le _⟩ ?_
  refine n_top (SR_beat hS hok9 hv (by omega)) ?_
  refine lv_iconst (v := nI 1) hx hb dX4_dripBy_126 (by decide) ?_
  refine n_ixor hx hb dX4_dripBy_127 ?_
  refine lv_iload_n hx hb dX4_dripBy_128 rfl (lv_at hl 6 rfl) ?_
  refine n_ixor hx hb dX4_dripBy_129 ?_
  exact ro_iret hx hb hr hlocks (congrArg nI (sd_k4 hok9 hv hw)) dX4_dripBy_130

theorem c_X4_dripBy (l : Launch) (D : va_G) (a : Nat → Nat) (cI cT cN : ClassId) (B L : Nat → Int32) (b : Nat → Nat → Nat) (hS : SR b B L) (hok9 : hok b) (kd v w n : Nat) (hk : kd < 5) (hv : v < 4) (hw : w ≤ 1) (hn : n < 2 ^ 31) : ROi l yX4_dripBy (wA yX4_dripBy cX4_dripBy 8 (some .int)) ({ frames := 1, cells := 0, slots := 0, locals := 23 }) D (cTys cI cT cN) (sW a cI B L) [.ref (a 4), .int (nI kd), .int (nI v), .int (nI w), .int (nI n)] (nI (sd b kd w v n)) := by
  match kd, hk with
  | 0, _ => exact c_X4_dripBy0 l D a cI cT cN B L b hS hok9 v w n hv hw hn
  | 1, _ => exact c_X4_dripBy1 l D a cI cT cN B L b hS hok9 v w n hv hw hn
  | 2, _ => exact c_X4_dripBy2 l D a cI cT cN B L b hS hok9 v w n hv hw hn
  | 3, _ => exact c_X4_dripBy3 l D a cI cT cN B L b hS hok9 v w n hv hw hn
  | 4, _ => exact c_X4_dripBy4 l D a cI cT cN B L b hS hok9 v w n hv hw hn
