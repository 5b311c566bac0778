theorem c_X6_kolA (l : Launch) (D : va_G) (j : Nat) (hj : j < 127) (h5 : knN j < 5) : ROi l yX6_kindOfLetter (wA yX6_kindOfLetter cX6_kindOfLetter 1 (some .int)) ({ frames := 0, cells := 0, slots := 0, locals := 0 }) D [] ([] : va_W) [.int (nI j)] (nI (knN j)) := by
  unfold knN at h5 ⊢
  by_cases h1 : j = 116
  · subst h1; exact c_X6_kol0 l D
  · rw [if_neg h1] at h5 ⊢
    by_cases h2 : j = 98
    · subst h2; exact c_X6_kol1 l D
    · rw [if_neg h2] at h5 ⊢
      by_cases h3 : j = 119
      · subst h3; exact c_X6_kol2 l D
      · rw [if_neg h3] at h5 ⊢
        by_cases h4 : j = 111
        · subst h4; exact c_X6_kol3 l D
        · rw [if_neg h4] at h5 ⊢
          by_cases h6 : j = 101
          · subst h6; exact c_X6_kol4 l D
          · rw [if_neg h6] at h5
            exact absurd h5 (by decide)
theorem c_X6_kolB (l : Launch) (D : va_G) (j : Nat) (hj : j < 127) (h5 : ¬ knN j < 5) : ROi l yX6_kindOfLetter (wA yX6_kindOfLetter cX6_kindOfLetter 1 (some .int)) ({ frames := 0, cells := 0, slots := 0, locals := 0 }) D [] ([] : va_W) [.int (nI j)] (-1) := by
  unfold knN at h5
  have h1 : ¬ j = 116 := fun q => h5 (by rw [if_pos q]; decide)
  have h2 : ¬ j = 98 := fun q => h5 (by rw [if_neg h1, if_pos q]; decide)
  have h3 : ¬ j = 119 := fun q => h5 (by rw [if_neg h1, if_neg h2, if_pos q]; decide)
  have h4 : ¬ j = 111 := fun q => h5 (by rw [if_neg h1, if_neg h2, if_neg h3, if_pos q]; decide)
  have h6 : ¬ j = 101 := fun q => h5 (by rw [if_neg h1, if_neg h2, if_neg h3, if_neg h4, if_pos q]; decide)
  exact c_X6_kolN l D (nI j) (by rw [nI_toInt (by omega)]; omega) (by rw [nI_toInt (by omega)]; omega) (by rw [nI_toInt (by omega)]; omega) (by rw [nI_toInt (by omega)]; omega) (by rw [nI_toInt (by omega)]; omega)

set_option maxHeartbeats 4000000 in
set_option maxRecDepth 100000 in
theorem c_X2_begin (l : Launch) (D : va_G) (cI cT cN : ClassId) (sz h : Nat) (z : Nat × Nat × Nat) : WV l yX2_begin (wA yX2_begin cX2_begin 1 none) ({ frames := 0, cells := 0, slots := 0, locals := 0 }) D (cTys cI cT cN) [((h : Nat), (.inr (2, [.int (nI z.1), .int (nI z.2.1), .int (nI z.2.2)]) : va_E))] sz [.ref h] (fun _ : Unit => True) (fun _ : Unit => [((h : Nat), (.inr (2, [.int (nI 0), .int (nI 0), .int (nI 0)]) : va_E))]) := by
  refine rw_startV (by decide) (Nat.le_of_ble_eq_true rfl) ?_
  intro p e s m args below meth c ls A F hP hK hD hA hS hl
  obtain ⟨hx, hb, hr, hlocks, hml, hown, hts⟩ := F
  have hown : s.vm.findClass RX2 = some m.cls := hown
  have hl : lv_has ls 1 [(0, .ref h)] := hl
  refine lv_aload_n hx hb dX2_begin_0 rfl (lv_at hl 0 rfl) ?_
  refine lv_iconst (v := nI 0) hx hb dX2_begin_1 (by decide) ?_
  refine va_put (D := D) (ci := 2) (v := .int (nI 0)) (ty := .int) (C := RX2) (T := TX2) (N := 3) hx hb hts iX2 tyX2 tyX2_ok nmX2 hown hK hP hD hS 0 rfl rfl 0 (by decide) (hts _ mg_30) (fun _ h9 => h9) rfl (tyX2_ok 0 (by decide)) rfl rfl (Nat.le_of_ble_eq_true rfl) dX2_begin_2 (fun H locs hP hD hS => ?_)
  have hP : va_P D vwCl ([((h : Nat), (.inr (2, [.int (nI 0), .int (nI z.2.1), .int (nI z.2.2)]) : va_E))]) H := hP
  have hD : va_D A ([((h : Nat), (.inr (2, [.int (nI 0), .int (nI z.2.1), .int (nI z.2.2)]) : va_E))]) := hD
  refine lv_aload_n hx hb dX2_begin_5 rfl (lv_at hl 0 rfl) ?_
  refine lv_iconst (v := nI 0) hx hb dX2_begin_6 (by decide) ?_
  refine va_put (D := D) (ci := 2) (v := .int (nI 0)) (ty := .int) (C := RX2) (T := TX2) (N := 3) hx hb hts iX2 tyX2 tyX2_ok nmX2 hown hK hP hD hS 0 rfl rfl 1 (by decide) (hts _ mg_31) (fun _ h9 => h9) rfl (tyX2_ok 1 (by decide)) rfl rfl (Nat.le_of_ble_eq_true rfl) dX2_begin_7 (fun H locs hP hD hS => ?_)
  have hP : va_P D vwCl ([((h : Nat), (.inr (2, [.int (nI 0), .int (nI 0), .int (nI z.2.2)]) : va_E))]) H := hP
  have hD : va_D A ([((h : Nat), (.inr (2, [.int (nI 0), .int (nI 0), .int (nI z.2.2)]) : va_E))]) := hD
  refine lv_aload_n hx hb dX2_begin_10 rfl (lv_at hl 0 rfl) ?_
  refine lv_iconst (v := nI 0) hx hb dX2_begin_11 (by decide) ?_
  refine va_put (D := D) (ci := 2) (v := .int (nI 0)) (ty := .int) (C := RX2) (T := TX2) (N := 3) hx hb hts iX2 tyX2 tyX2_ok nmX2 hown hK hP hD hS 0 rfl rfl 2 (by decide) (hts _ mg_32) (fun _ h9 => h9) rfl (tyX2_ok 2 (by decide)) rfl rfl (Nat.le_of_ble_eq_true rfl) dX2_begin_12 (fun H locs hP hD hS => ?_)
  have hP : va_P D vwCl ([((h : Nat), (.inr (2, [.int (nI 0), .int (nI 0), .int (nI 0)]) : va_E))]) H := hP
  have hD : va_D A ([((h : Nat), (.inr (2, [.int (nI 0), .int (nI 0), .int (nI 0)]) : va_E))]) := hD
  exact rw_vret (wp := (fun _ : Unit => [((h : Nat), (.inr (2, [.int (nI 0), .int (nI 0), .int (nI 0)]) : va_E))])) (post := (fun _ : Unit => True)) () hx hb hr hlocks hK hP hD hS (rfl) (trivial) dX2_begin_15

set_option maxHeartbeats 4000000 in
set_option maxRecDepth 100000 in
theorem c_X2_isAtEndT (l : Launch) (D : va_G) (cI cT cN : ClassId) (h : Nat) (z : Nat × Nat × Nat) (hz1 : z.1 < 1000) (hz2 : z.2.2 < 1000) (hE : z.1 = 4 ∧ z.2.2 = 2) : ROi l yX2_isAtEnd (wA yX2_isAtEnd cX2_isAtEnd 1 (some .boolean)) ({ frames := 0, cells := 0, slots := 0, locals := 0 }) D (cTys cI cT cN) [((h : Nat), (.inr (2, [.int (nI z.1), .int (nI z.2.1), .int (nI z.2.2)]) : va_E))] [.ref h] (nI 1) := by
  refine go_start (by decide) (Nat.le_of_ble_eq_true rfl) ?_
  intro p e s m args below meth c ls F _ hB hl
  obtain ⟨hx, hb, hr, hlocks, hml, hown, hts⟩ := F
  obtain ⟨hP, hK⟩ := hB
  have hown : s.vm.findClass RX2 = some m.cls := hown
  have hl : lv_has ls 1 [(0, .ref h)] := hl
  refine lv_aload_n hx hb dX2_isAtEnd_0 rfl (lv_at hl 0 rfl) ?_
  refine va_get (D := D) (ci := 2) (v := .int (nI z.1)) (C := RX2) (T := TX2) (N := 3) hx hb hts iX2 hown hK hP 0 rfl rfl 0 (by decide) (hts _ mg_30) (fun _ h9 => h9) rfl dX2_isAtEnd_1 ?_
  refine lv_iconst (v := nI 4) hx hb dX2_isAtEnd_4 (by decide) ?_
  refine j_icmp_ne (tgt := 20) hx hb dX2_isAtEnd_5 (by decide) (nI_toInt (by omega)) (nI_toInt (by decide)) (fun c_1 => absurd c_1 (by omega)) (fun c_1 => ?_)
  refine lv_aload_n hx hb dX2_isAtEnd_8 rfl (lv_at hl 0 rfl) ?_
  refine va_get (D := D) (ci := 2) (v := .int (nI z.2.2)) (C := RX2) (T := TX2) (N := 3) hx hb hts iX2 hown hK hP 0 rfl rfl 2 (by decide) (hts _ mg_32) (fun _ h9 => h9) rfl dX2_isAtEnd_9 ?_
  refine lv_iconst (v := nI 2) hx hb dX2_isAtEnd_12 (by decide) ?_
  refine j_icmp_ne (tgt := 20) hx hb dX2_isAtEnd_13 (by decide) (nI_toInt (by omega)) (nI_toInt (by decide)) (fun c_2 => absurd c_2 (by omega)) (fun c_2 => ?_)
  refine lv_iconst (v := nI 1) hx hb dX2_isAtEnd_16 (by decide) ?_
  refine lv_goto (tgt := 21) hx hb dX2_isAtEnd_17 (by decide) ?_
  exact ro_zret hx hb hr rfl hlocks (rfl) dX2_isAtEnd_21

set_option maxHeartbeats 4000000 in
set_option maxRecDepth 100000 in
theorem c_X2_isAtEndF (l : Launch) (D : va_G) (cI cT cN : ClassId) (h : Nat) (z : Nat × Nat × Nat) (hz1 : z.1 < 1000) (hz2 : z.2.2 < 1000) (hE : ¬ (z.1 = 4 ∧ z.2.2 = 2)) : ROi l yX2_isAtEnd (wA yX2_isAtEnd cX2_isAtEnd 1 (some .boolean)) ({ frames := 0, cells := 0, slots := 0, locals := 0 }) D (cTys cI cT cN) [((h : Nat), (.inr (2, [.int (nI z.1), .int (nI z.2.1), .int (nI z.2.2)]) : va_E))] [.ref h] (nI 0) := by
  refine go_start (by decide) (Nat.le_of_ble_eq_true rfl) ?_
  intro p e s m args below meth c ls F _ hB hl
  obtain ⟨hx, hb, hr, hlocks, hml, hown, hts⟩ := F
  obtain ⟨hP, hK⟩ := hB
  have hown : s.vm.findClass RX2 = some m.cls := hown
  have hl : lv_has ls 1 [(0, .ref h)] := hl
  refine lv_aload_n hx hb dX2_isAtEnd_0 rfl (lv_at hl 0 rfl) ?_
  refine va_get (D := D) (ci := 2) (v := .int (nI z.1)) (C := RX2) (T := TX2) (N := 3) hx hb hts iX2 hown hK hP 0 rfl rfl 0 (by decide) (hts _ mg_30) (fun _ h9 => h9) rfl dX2_isAtEnd_1 ?_
  refine lv_iconst (v := nI 4) hx hb dX2_isAtEnd_4 (by decide) ?_
  refine j_icmp_ne (tgt := 20) hx hb dX2_isAtEnd_5 (by decide) (nI_toInt (by omega)) (nI_toInt (by decide)) (fun c_1 => ?_) (fun c_1 => ?_)
  · refine lv_iconst (v := nI 0) hx hb dX2_isAtEnd_20 (by decide) ?_
    exact ro_zret hx hb hr rfl hlocks (rfl) dX2_isAtEnd_21
  · refine lv_aload_n hx hb dX2_isAtEnd_8 rfl (lv_at hl 0 rfl) ?_
    refine va_get (D := D) (ci := 2) (v := .int (nI z.2.2)) (C := RX2) (T := TX2) (N := 3) hx hb hts iX2 hown hK hP 0 rfl rfl 2 (by decide) (hts _ mg_32) (fun _ h9 => h9) rfl dX2_isAtEnd_9 ?_
    refine lv_iconst (v := nI 2) hx hb dX2_isAtEnd_12 (by decide) ?_
    refine j_icmp_ne (tgt := 20) hx hb dX2_isAtEnd_13 (by decide) (nI_toInt (by omega)) (nI_toInt (by decide)) (fun c_2 => ?_) (fun c_2 => absurd c_2 (by omega))
    refine lv_iconst (v := nI 0) hx hb dX2_isAtEnd_20 (by decide) ?_
    exact ro_zret hx hb hr rfl hlocks (rfl) dX2_isAtEnd_21

set_option maxHeartbeats 4000000 in
set_option maxRecDepth 100000 in
theorem c_X2_takesInSaying (l : Launch) (D : va_G) (cI cT cN : ClassId) (sz h : Nat) (z : Nat × Nat × Nat) (j : Nat) (hj : j < 127) (hz1 : z.1 < 1000) (hz2 : z.2.1 < 1000) (hz3 : z.2.2 < 1000) (hs : z.1 < 4) : WI l yX2_takesInSaying (wA yX2_takesInSaying cX2_takesInSaying 3 (some .boolean)) ({ frames := 0, cells := 0, slots := 0, locals := 0 }) D (cTys cI cT cN) [((h : Nat), (.inr (2, [.int (nI z.1), .int (nI z.2.1), .int (nI z.2.2)]) : va_E))] sz [.ref h, .int (nI j)] (fun (r : Int32) (_ : Unit) => r = nI (if rdO z j = true then 1 else 0)) (fun _ : Unit => [((h : Nat), (.inr (2, [.int (nI ((rdS z j).1)), .int (nI ((rdS z j).2.1)), .int (nI ((rdS z j).2.2))]) : va_E))]) := by
  refine rw_startI (by decide) (Nat.le_of_ble_eq_true rfl) ?_
  intro p e s m args below meth c ls A F hP hK hD hA hS hl
  obtain ⟨hx, hb, hr, hlocks, hml, hown, hts⟩ := F
  have hown : s.vm.findClass RX2 = some m.cls := hown
  have hl : lv_has ls 3 [(0, .ref h), (1, .int (nI j))] := hl
  refine lv_iload_n hx hb dX2_takesInSaying_0 rfl (lv_at hl 1 rfl) ?_
  refine lv_bipush (v := nI 115) hx hb dX2_takesInSaying_1 (by decide) ?_
  refine j_icmp_eq (tgt := 12) hx hb dX2_takesInSaying_3 (by decide) (nI_toInt (by omega)) (nI_toInt (by decide)) (fun c_1 => ?_) (fun c_1 => ?_)
  · refine lv_aload_n hx hb dX2_takesInSaying_12 rfl (lv_at hl 0 rfl) ?_
    refine lv_dup hx hb dX2_takesInSaying_13 rfl ?_
    refine va_get (D := D) (ci := 2) (v := .int (nI z.2.2)) (C := RX2) (T := TX2) (N := 3) hx hb hts iX2 hown hK hP 0 rfl rfl 2 (by decide) (hts _ mg_32) (fun _ h9 => h9) rfl dX2_takesInSaying_14 ?_
    refine lv_iconst (v := nI 1) hx hb dX2_takesInSaying_17 (by decide) ?_
    refine n_iadd hx hb dX2_takesInSaying_18 ?_
    refine va_put (D := D) (ci := 2) (v := .int (nI (z.2.2 + 1))) (ty := .int) (C := RX2) (T := TX2) (N := 3) hx hb hts iX2 tyX2 tyX2_ok nmX2 hown hK hP hD hS 0 rfl rfl 2 (by decide) (hts _ mg_32) (fun _ h9 => h9) rfl (tyX2_ok 2 (by decide)) rfl rfl (Nat.le_of_ble_eq_true rfl) dX2_takesInSaying_19 (fun H locs hP hD hS => ?_)
    have hP : va_P D vwCl ([((h : Nat), (.inr (2, [.int (nI z.1), .int (nI z.2.1), .int (nI (z.2.2 + 1))]) : va_E))]) H := hP
    have hD : va_D A ([((h : Nat), (.inr (2, [.int (nI z.1), .int (nI z.2.1), .int (nI (z.2.2 + 1))]) : va_E))]) := hD
    refine lv_aload_n hx hb dX2_takesInSaying_22 rfl (lv_at hl 0 rfl) ?_
    refine va_get (D := D) (ci := 2) (v := .int (nI (z.2.2 + 1))) (C := RX2) (T := TX2) (N := 3) hx hb hts iX2 hown hK hP 0 rfl rfl 2 (by decide) (hts _ mg_32) (fun _ h9 => h9) rfl dX2_takesInSaying_23 ?_
    refine lv_iconst (v := nI 4) hx hb dX2_takesInSaying_26 (by decide) ?_
    refine j_icmp_gt (tgt := 34) hx hb dX2_takesInSaying_27 (by decide) (nI_toInt (by omega)) (nI_toInt (by decide)) (fun c_2 => ?_) (fun c_2 => ?_)
    · refine lv_iconst (v := nI 0) hx hb dX2_takesInSaying_34 (by decide) ?_
      have hO9 : rdO z j = false := by unfold rdO; rw [if_pos hs, if_pos (by omega)]; exact decide_eq_false (by omega)
      have hS9 : rdS z j = (z.1, z.2.1, z.2.2 + 1) := by unfold rdS; rw [if_pos hs, if_pos (by omega)]
      exact rw_zret (wp := (fun _ : Unit => [((h : Nat), (.inr (2, [.int (nI ((rdS z j).1)), .int (nI ((rdS z j).2.1)), .int (nI ((rdS z j).2.2))]) : va_E))])) (post := (fun (r : Int32) (_ : Unit) => r = nI (if rdO z j = true then 1 else 0))) () hx hb hr rfl hlocks hK hP hD hS (by rw [hS9]) (by rw [hO9]; rfl) dX2_takesInSaying_35
    · refine lv_iconst (v := nI 1) hx hb dX2_takesInSaying_30 (by decide) ?_
      refine lv_goto (tgt := 35) hx hb dX2_takesInSaying_31 (by decide) ?_
      have hO9 : rdO z j = true := by unfold rdO; rw [if_pos hs, if_pos (by omega)]; exact decide_eq_true (by omega)
      have hS9 : rdS z j = (z.1, z.2.1, z.2.2 + 1) := by unfold rdS; rw [if_pos hs, if_pos (by omega)]
      exact rw_zret (wp := (fun _ : Unit => [((h : Nat), (.inr (2, [.int (nI ((rdS z j).1)), .int (nI ((rdS z j).2.1)), .int (nI ((rdS z j).2.2))]) : va_E))])) (post := (fun (r : Int32) (_ : Unit) => r = nI (if rdO z j = true then 1 else 0))) () hx hb hr rfl hlocks hK hP hD hS (by rw [hS9]) (by rw [hO9]; rfl) dX2_takesInSaying_35
  · refine lv_iload_n hx hb dX2_takesInSaying_6 rfl (lv_at hl 1 rfl) ?_
    refine lv_bipush (v := nI 108) hx hb dX2_takesInSaying_7 (by decide) ?_
    refine j_icmp_ne (tgt := 36) hx hb dX2_takesInSaying_9 (by decide) (nI_toInt (by omega)) (nI_toInt (by decide)) (fun c_3 => ?_) (fun c_3 => ?_)
    · refine lv_aload_n hx hb dX2_takesInSaying_36 rfl (lv_at hl 0 rfl) ?_
      refine va_get (D := D) (ci := 2) (v := .int (nI z.1)) (C := RX2) (T := TX2) (N := 3) hx hb hts iX2 hown hK hP 0 rfl rfl 0 (by decide) (hts _ mg_30) (fun _ h9 => h9) rfl dX2_takesInSaying_37 ?_
      refine lv_iconst (v := nI 3) hx hb dX2_takesInSaying_40 (by decide) ?_
      refine j_icmp_ne (tgt := 49) hx hb dX2_takesInSaying_41 (by decide) (nI_toInt (by omega)) (nI_toInt (by decide)) (fun c_4 => ?_) (fun c_4 => ?_)
      · have hclo : clo z.1 = 44 := if_neg (by omega)
        refine lv_bipush (v := nI 44) hx hb dX2_takesInSaying_49 (by decide) ?_
        refine lv_istore_n (lv' := [(2, .int (nI 44)), (0, .ref h), (1, .int (nI j))]) hx hb dX2_takesInSaying_51 rfl hl (by decide) rfl (fun ls hl => ?_)
        refine lv_aload_n hx hb dX2_takesInSaying_52 rfl (lv_at hl 1 rfl) ?_
        refine va_get (D := D) (ci := 2) (v := .int (nI z.2.2)) (C := RX2) (T := TX2) (N := 3) hx hb hts iX2 hown hK hP 0 rfl rfl 2 (by decide) (hts _ mg_32) (fun _ h9 => h9) rfl dX2_takesInSaying_53 ?_
        refine j_if_eq (tgt := 64) hx hb dX2_takesInSaying_56 (by decide) (nI_toInt (by omega)) (fun c_5 => ?_) (fun c_5 => ?_)
        · refine lv_iconst (v := nI 0) hx hb dX2_takesInSaying_64 (by decide) ?_
          have hO9 : rdO z j = false := by unfold rdO; rw [if_pos hs, if_neg (by omega), hclo]; exact decide_eq_false (by omega)
          have hS9 : rdS z j = z := by unfold rdS; rw [if_pos hs, if_neg (by omega), hclo, if_neg (by omega)]
          exact rw_zret (wp := (fun _ : Unit => [((h : Nat), (.inr (2, [.int (nI ((rdS z j).1)), .int (nI ((rdS z j).2.1)), .int (nI ((rdS z j).2.2))]) : va_E))])) (post := (fun (r : Int32) (_ : Unit) => r = nI (if rdO z j = true then 1 else 0))) () hx hb hr rfl hlocks hK hP hD hS (by rw [hS9]) (by rw [hO9]; rfl) dX2_takesInSaying_65
        · refine lv_iload_n hx hb dX2_takesInSaying_59 rfl (lv_at hl 2 rfl) ?_
          refine lv_iload_n hx hb dX2_takesInSaying_60 rfl (lv_at hl 0 rfl) ?_
          refine j_icmp_eq (tgt := 66) hx hb dX2_takesInSaying_61 (by decide) (nI_toInt (by omega)) (nI_toInt (by decide)) (fun c_6 => ?_) (fun c_6 => ?_)
          · refine lv_aload_n hx hb dX2_takesInSaying_66 rfl (lv_at hl 1 rfl) ?_
            refine lv_dup hx hb dX2_takesInSaying_67 rfl ?_
            refine va_get (D := D) (ci := 2) (v := .int (nI z.1)) (C := RX2) (T := TX2) (N := 3) hx hb hts iX2 hown hK hP 0 rfl rfl 0 (by decide) (hts _ mg_30) (fun _ h9 => h9) rfl dX2_takesInSaying_68 ?_
            refine lv_iconst (v := nI 1) hx hb dX2_takesInSaying_71 (by decide) ?_
            refine n_iadd hx hb dX2_takesInSaying_72 ?_
            refine va_put (D := D) (ci := 2) (v := .int (nI (z.1 + 1))) (ty := .int) (C := RX2) (T := TX2) (N := 3) hx hb hts iX2 tyX2 tyX2_ok nmX2 hown hK hP hD hS 0 rfl rfl 0 (by decide) (hts _ mg_30) (fun _ h9 => h9) rfl (tyX2_ok 0 (by decide)) rfl rfl (Nat.le_of_ble_eq_true rfl) dX2_takesInSaying_73 (fun H locs hP hD hS => ?_)
            have hP : va_P D vwCl ([((h : Nat), (.inr (2, [.int (nI (z.1 + 1)), .int (nI z.2.1), .int (nI z.2.2)]) : va_E))]) H := hP
            have hD : va_D A ([((h : Nat), (.inr (2, [.int (nI (z.1 + 1)), .int (nI z.2.1), .int (nI z.2.2)]) : va_E))]) := hD
            refine lv_aload_n hx hb dX2_takesInSaying_76 rfl (lv_at hl 1 rfl) ?_
            refine lv_iconst (v := nI 0) hx hb dX2_takesInSaying_77 (by decide) ?_
            refine va_put (D := D) (ci := 2) (v := .int (nI 0)) (ty := .int) (C := RX2) (T := TX2) (N := 3) hx hb hts iX2 tyX2 tyX2_ok nmX2 hown hK hP hD hS 0 rfl rfl 2 (by decide) (hts _ mg_32) (fun _ h9 => h9) rfl (tyX2_ok 2 (by decide)) rfl rfl (Nat.le_of_ble_eq_true rfl) dX2_takesInSaying_78 (fun H locs hP hD hS => ?_)
            have hP : va_P D vwCl ([((h : Nat), (.inr (2, [.int (nI (z.1 + 1)), .int (nI z.2.1), .int (nI 0)]) : va_E))]) H := hP
            have hD : va_D A ([((h : Nat), (.inr (2, [.int (nI (z.1 + 1)), .int (nI z.2.1), .int (nI 0)]) : va_E))]) := hD
            refine lv_iconst (v := nI 1) hx hb dX2_takesInSaying_81 (by decide) ?_
            have hO9 : rdO z j = true := by unfold rdO; rw [if_pos hs, if_neg (by omega), hclo]; exact decide_eq_true (by omega)
            have hS9 : rdS z j = (z.1 + 1, z.2.1, 0) := by unfold rdS; rw [if_pos hs, if_neg (by omega), hclo, if_pos (by omega)]
            exact rw_zret (wp := (fun _ : Unit => [((h : Nat), (.inr (2, [.int (nI ((rdS z j).1)), .int (nI ((rdS z j).2.1)), .int (nI ((rdS z j).2.2))]) : va_E))])) (post := (fun (r : Int32) (_ : Unit) => r = nI (if rdO z j = true then 1 else 0))) () hx hb hr rfl hlocks hK hP hD hS (by rw [hS9]) (by rw [hO9]; rfl) dX2_takesInSaying_82
          · refine lv_iconst (v := nI 0) hx hb dX2_takesInSaying_64 (by decide) ?_
            have hO9 : rdO z j = false := by unfold rdO; rw [if_pos hs, if_neg (by omega), hclo]; exact decide_eq_false (by omega)
            have hS9 : rdS z j = z := by unfold rdS; rw [if_pos hs, if_neg (by omega), hclo, if_neg (by omega)]
            exact rw_zret (wp := (fun _ : Unit => [((h : Nat), (.inr (2, [.int (nI ((rdS z j).1)), .int (nI ((rdS z j).2.1)), .int (nI ((rdS z j).2.2))]) : va_E))])) (post := (fun (r : Int32) (_ : Unit) => r = nI (if rdO z j = true then 1 else 0))) () hx hb hr rfl hlocks hK hP hD hS (by rw [hS9]) (by rw [hO9]; rfl) dX2_takesInSaying_65
      · have hclo : clo z.1 = 59 := if_pos (by omega)
        refine lv_bipush (v := nI 59) hx hb dX2_takesInSaying_44 (by decide) ?_
        refine lv_goto (tgt := 51) hx hb dX2_takesInSaying_46 (by decide) ?_
        refine lv_istore_n (lv' := [(2, .int (nI 59)), (0, .ref h), (1, .int (nI j))]) hx hb dX2_takesInSaying_51 rfl hl (by decide) rfl (fun ls hl => ?_)
        refine lv_aload_n hx hb dX2_takesInSaying_52 rfl (lv_at hl 1 rfl) ?_
        refine va_get (D := D) (ci := 2) (v := .int (nI z.2.2)) (C := RX2) (T := TX2) (N := 3) hx hb hts iX2 hown hK hP 0 rfl rfl 2 (by decide) (hts _ mg_32) (fun _ h9 => h9) rfl dX2_takesInSaying_53 ?_
        refine j_if_eq (tgt := 64) hx hb dX2_takesInSaying_56 (by decide) (nI_toInt (by omega)) (fun c_7 => ?_) (fun c_7 => ?_)
        · refine lv_iconst (v := nI 0) hx hb dX2_takesInSaying_64 (by decide) ?_
          have hO9 : rdO z j = false := by unfold rdO; rw [if_pos hs, if_neg (by omega), hclo]; exact decide_eq_false (by omega)
          have hS9 : rdS z j = z := by unfold rdS; rw [if_pos hs, if_neg (by omega), hclo, if_neg (by omega)]
          exact rw_zret (wp := (fun _ : Unit => [((h : Nat), (.inr (2, [.int (nI ((rdS z j).1)), .int (nI ((rdS z j).2.1)), .int (nI ((rdS z j).2.2))]) : va_E))])) (post := (fun (r : Int32) (_ : Unit) => r = nI (if rdO z j = true then 1 else 0))) () hx hb hr rfl hlocks hK hP hD hS (by rw [hS9]) (by rw [hO9]; rfl) dX2_takesInSaying_65
        · refine lv_iload_n hx hb dX2_takesInSaying_59 rfl (lv_at hl 2 rfl) ?_
          refine lv_iload_n hx hb dX2_takesInSaying_60 rfl (lv_at hl 0 rfl) ?_
          refine j_icmp_eq (tgt := 66) hx hb dX2_takesInSaying_61 (by decide) (nI_toInt (by omega)) (nI_toInt (by decide)) (fun c_8 => ?_) (fun c_8 => ?_)
          · refine lv_aload_n hx hb dX2_takesInSaying_66 rfl (lv_at hl 1 rfl) ?_
            refine lv_dup hx hb dX2_takesInSaying_67 rfl ?_
            refine va_get (D := D) (ci := 2) (v := .int (nI z.1)) (C := RX2) (T := TX2) (N := 3) hx hb hts iX2 hown hK hP 0 rfl rfl 0 (by decide) (hts _ mg_30) (fun _ h9 => h9) rfl dX2_takesInSaying_68 ?_
            refine lv_iconst (v := nI 1) hx hb dX2_takesInSaying_71 (by decide) ?_
            refine n_iadd hx hb dX2_takesInSaying_72 ?_
            refine va_put (D := D) (ci := 2) (v := .int (nI (z.1 + 1))) (ty := .int) (C := RX2) (T := TX2) (N := 3) hx hb hts iX2 tyX2 tyX2_ok nmX2 hown hK hP hD hS 0 rfl rfl 0 (by decide) (hts _ mg_30) (fun _ h9 => h9) rfl (tyX2_ok 0 (by decide)) rfl rfl (Nat.le_of_ble_eq_true rfl) dX2_takesInSaying_73 (fun H locs hP hD hS => ?_)
            have hP : va_P D vwCl ([((h : Nat), (.inr (2, [.int (nI (z.1 + 1)), .int (nI z.2.1), .int (nI z.2.2)]) : va_E))]) H := hP
            have hD : va_D A ([((h : Nat), (.inr (2, [.int (nI (z.1 + 1)), .int (nI z.2.1), .int (nI z.2.2)]) : va_E))]) := hD
            refine lv_aload_n hx hb dX2_takesInSaying_76 rfl (lv_at hl 1 rfl) ?_
            refine lv_iconst (v := nI 0) hx hb dX2_takesInSaying_77 (by decide) ?_
            refine va_put (D := D) (ci := 2) (v := .int (nI 0)) (ty := .int) (C := RX2) (T := TX2) (N := 3) hx hb hts iX2 tyX2 tyX2_ok nmX2 hown hK hP hD hS 0 rfl rfl 2 (by decide) (hts _ mg_32) (fun _ h9 => h9) rfl (tyX2_ok 2 (by decide)) rfl rfl (Nat.le_of_ble_eq_true rfl) dX2_takesInSaying_78 (fun H locs hP hD hS => ?_)
            have hP : va_P D vwCl ([((h : Nat), (.inr (2, [.int (nI (z.1 + 1)), .int (nI z.2.1), .int (nI 0)]) : va_E))]) H := hP
            have hD : va_D A ([((h : Nat), (.inr (2, [.int (nI (z.1 + 1)), .int (nI z.2.1), .int (nI 0)]) : va_E))]) := hD
            refine lv_iconst (v := nI 1) hx hb dX2_takesInSaying_81 (by decide) ?_
            have hO9 : rdO z j = true := by unfold rdO; rw [if_pos hs, if_neg (by omega), hclo]; exact decide_eq_true (by omega)
            have hS9 : rdS z j = (z.1 + 1, z.2.1, 0) := by unfold rdS; rw [if_pos hs, if_neg (by omega), hclo, if_pos (by omega)]
            exact rw_zret (wp := (fun _ : Unit => [((h : Nat), (.inr (2, [.int (nI ((rdS z j).1)), .int (nI ((rdS z j).2.1)), .int (nI ((rdS z j).2.2))]) : va_E))])) (post := (fun (r : Int32) (_ : Unit) => r = nI (if rdO z j = true then 1 else 0))) () hx hb hr rfl hlocks hK hP hD hS (by rw [hS9]) (by rw [hO9]; rfl) dX2_takesInSaying_82
          · refine lv_iconst (v := nI 0) hx hb dX2_takesInSaying_64 (by decide) ?_
            have hO9 : rdO z j = false := by unfold rdO; rw [if_pos hs, if_neg (by omega), hclo]; exact decide_eq_false (by omega)
            have hS9 : rdS z j = z := by unfold rdS; rw [if_pos hs, if_neg (by omega), hclo, if_neg (by omega)]
            exact rw_zret (wp := (fun _ : Unit => [((h : Nat), (.inr (2, [.int (nI ((rdS z j).1)), .int (nI ((rdS z j).2.1)), .int (nI ((rdS z j).2.2))]) : va_E))])) (post := (fun (r : Int32) (_ : Unit) => r = nI (if rdO z j = true then 1 else 0))) () hx hb hr rfl hlocks hK hP hD hS (by rw [hS9]) (by rw [hO9]; rfl) dX2_takesInSaying_65
    · refine lv_aload_n hx hb dX2_takesInSaying_12 rfl (lv_at hl 0 rfl) ?_
      refine lv_dup hx hb dX2_takesInSaying_13 rfl ?_
      refine va_get (D := D) (ci := 2) (v := .int (nI z.2.2)) (C := RX2) (T := TX2) (N := 3) hx hb hts iX2 hown hK hP 0 rfl rfl 2 (by decide) (hts _ mg_32) (fun _ h9 => h9) rfl dX2_takesInSaying_14 ?_
      refine lv_iconst (v := nI 1) hx hb dX2_takesInSaying_17 (by decide) ?_
      refine n_iadd hx hb dX2_takesInSaying_18 ?_
      refine va_put (D := D) (ci := 2) (v := .int (nI (z.2.2 + 1))) (ty := .int) (C := RX2) (T := TX2) (N := 3) hx hb hts iX2 tyX2 tyX2_ok nmX2 hown hK hP hD hS 0 rfl rfl 2 (by decide) (hts _ mg_32) (fun _ h9 => h9) rfl (tyX2_ok 2 (by decide)) rfl rfl (Nat.le_of_ble_eq_true rfl) dX2_takesInSaying_19 (fun H locs hP hD hS => ?_)
      have hP : va_P D vwCl ([((h : Nat), (.inr (2, [.int (nI z.1), .int (nI z.2.1), .int (nI (z.2.2 + 1))]) : va_E))]) H := hP
      have hD : va_D A ([((h : Nat), (.inr (2, [.int (nI z.1), .int (nI z.2.1), .int (nI (z.2.2 + 1))]) : va_E))]) := hD
      refine lv_aload_n hx hb dX2_takesInSaying_22 rfl (lv_at hl 0 rfl) ?_
      refine va_get (D := D) (ci := 2) (v := .int (nI (z.2.2 + 1))) (C := RX2) (T := TX2) (N := 3) hx hb hts iX2 hown hK hP 0 rfl rfl 2 (by decide) (hts _ mg_32) (fun _ h9 => h9) rfl dX2_takesInSaying_23 ?_
      refine lv_iconst (v := nI 4) hx hb dX2_takesInSaying_26 (by decide) ?_
      refine j_icmp_gt (tgt := 34) hx hb dX2_takesInSaying_27 (by decide) (nI_toInt (by omega)) (nI_toInt (by decide)) (fun c_9 => ?_) (fun c_9 => ?_)
      · refine lv_iconst (v := nI 0) hx hb dX2_takesInSaying_34 (by decide) ?_
        have hO9 : rdO z j = false := by unfold rdO; rw [if_pos hs, if_pos (by omega)]; exact decide_eq_false (by omega)
        have hS9 : rdS z j = (z.1, z.2.1, z.2.2 + 1) := by unfold rdS; rw [if_pos hs, if_pos (by omega)]
        exact rw_zret (wp := (fun _ : Unit => [((h : Nat), (.inr (2, [.int (nI ((rdS z j).1)), .int (nI ((rdS z j).2.1)), .int (nI ((rdS z j).2.2))]) : va_E))])) (post := (fun (r : Int32) (_ : Unit) => r = nI (if rdO z j = true then 1 else 0))) () hx hb hr rfl hlocks hK hP hD hS (by rw [hS9]) (by rw [hO9]; rfl) dX2_takesInSaying_35
      · refine lv_iconst (v := nI 1) hx hb dX2_takesInSaying_30 (by decide) ?_
        refine lv_goto (tgt := 35) hx hb dX2_takesInSaying_31 (by decide) ?_
        have hO9 : rdO z j = true := by unfold rdO; rw [if_pos hs, if_pos (by omega)]; exact decide_eq_true (by omega)
        have hS9 : rdS z j = (z.1, z.2.1, z.2.2 + 1) := by unfold rdS; rw [if_pos hs, if_pos (by omega)]
        exact rw_zret (wp := (fun _ : Unit => [((h : Nat), (.inr (2, [.int (nI ((rdS z j).1)), .int (nI ((rdS z j).2.1)), .int (nI ((rdS z j).2.2))]) : va_E))])) (post := (fun (r : Int32) (_ : Unit) => r = nI (if rdO z j = true then 1 else 0))) () hx hb hr rfl hlocks hK hP hD hS (by rw [hS9]) (by rw [hO9]; rfl) dX2_takesInSaying_35

set_option maxHeartbeats 4000000 in
set_option maxRecDepth 100000 in
theorem c_X2_takesInTap (l : Launch) (D : va_G) (cI cT cN : ClassId) (sz h : Nat) (z : Nat × Nat × Nat) (j : Nat) (hj : j < 127) (hz1 : z.1 < 1000) (hz2 : z.2.1 < 1000) (hz3 : z.2.2 < 1000) (hs : ¬ z.1 < 4) : WI l yX2_takesInTap (wAN yX2_takesInTap cX2_takesInTap 2 (some .boolean)) ({ frames := 1, cells := 0, slots := 0, locals := 20 }) D (cTys cI cT cN) [((h : Nat), (.inr (2, [.int (nI z.1), .int (nI z.2.1), .int (nI z.2.2)]) : va_E))] sz [.ref h, .int (nI j)] (fun (r : Int32) (_ : Unit) => r = nI (if rdO z j = true then 1 else 0)) (fun _ : Unit => [((h : Nat), (.inr (2, [.int (nI ((rdS z j).1)), .int (nI ((rdS z j).2.1)), .int (nI ((rdS z j).2.2))]) : va_E))]) := by
  refine rw_startIB (by decide) (Nat.le_of_ble_eq_true rfl) ?_
  intro p e s m args below meth c ls A F hnst hP hK hD hA hS hl
  obtain ⟨hx, hb, hr, hlocks, hml, hown, hts⟩ := F
  have hown : s.vm.findClass RX2 = some m.cls := hown
  have hl : lv_has ls 2 [(0, .ref h), (1, .int (nI j))] := hl
  refine lv_aload_n hx hb dX2_takesInTap_0 rfl (lv_at hl 0 rfl) ?_
  refine va_get (D := D) (ci := 2) (v := .int (nI z.2.2)) (C := RX2) (T := TX2) (N := 3) hx hb hts iX2 hown hK hP 0 rfl rfl 2 (by decide) (hts _ mg_32) (fun _ h9 => h9) rfl dX2_takesInTap_1 ?_
  refine j_if_ne (tgt := 26) hx hb dX2_takesInTap_4 (by decide) (nI_toInt (by omega)) (fun c_1 => ?_) (fun c_1 => ?_)
  · refine lv_aload_n hx hb dX2_takesInTap_26 rfl (lv_at hl 0 rfl) ?_
    refine va_get (D := D) (ci := 2) (v := .int (nI z.2.2)) (C := RX2) (T := TX2) (N := 3) hx hb hts iX2 hown hK hP 0 rfl rfl 2 (by decide) (hts _ mg_32) (fun _ h9 => h9) rfl dX2_takesInTap_27 ?_
    refine lv_iconst (v := nI 1) hx hb dX2_takesInTap_30 (by decide) ?_
    refine j_icmp_ne (tgt := 57) hx hb dX2_takesInTap_31 (by decide) (nI_toInt (by omega)) (nI_toInt (by decide)) (fun c_2 => ?_) (fun c_2 => ?_)
    · refine lv_aload_n hx hb dX2_takesInTap_57 rfl (lv_at hl 0 rfl) ?_
      refine lv_iconst (v := nI 0) hx hb dX2_takesInTap_58 (by decide) ?_
      refine va_put (D := D) (ci := 2) (v := .int (nI 0)) (ty := .int) (C := RX2) (T := TX2) (N := 3) hx hb hts iX2 tyX2 tyX2_ok nmX2 hown hK hP hD hS 0 rfl rfl 2 (by decide) (hts _ mg_32) (fun _ h9 => h9) rfl (tyX2_ok 2 (by decide)) rfl rfl (Nat.le_of_ble_eq_true rfl) dX2_takesInTap_59 (fun H locs hP hD hS => ?_)
      have hP : va_P D vwCl ([((h : Nat), (.inr (2, [.int (nI z.1), .int (nI z.2.1), .int (nI 0)]) : va_E))]) H := hP
      have hD : va_D A ([((h : Nat), (.inr (2, [.int (nI z.1), .int (nI z.2.1), .int (nI 0)]) : va_E))]) := hD
      refine lv_iload_n hx hb dX2_takesInTap_62 rfl (lv_at hl 1 rfl) ?_
      refine lv_bipush (v := nI 44) hx hb dX2_takesInTap_63 (by decide) ?_
      refine j_icmp_ne (tgt := 80) hx hb dX2_takesInTap_65 (by decide) (nI_toInt (by omega)) (nI_toInt (by decide)) (fun c_3 => ?_) (fun c_3 => ?_)
      · refine lv_iconst (v := nI 0) hx hb dX2_takesInTap_80 (by decide) ?_
        have hO9 : rdO z j = false := by unfold rdO; rw [if_neg (by omega), if_neg (by omega), if_neg (by omega)]; exact decide_eq_false (by omega)
        have hS9 : rdS z j = (z.1, z.2.1, 0) := by unfold rdS; rw [if_neg (by omega), if_neg (by omega), if_neg (by omega)]
        exact rw_zret (wp := (fun _ : Unit => [((h : Nat), (.inr (2, [.int (nI ((rdS z j).1)), .int (nI ((rdS z j).2.1)), .int (nI ((rdS z j).2.2))]) : va_E))])) (post := (fun (r : Int32) (_ : Unit) => r = nI (if rdO z j = true then 1 else 0))) () hx hb hr rfl hlocks hK hP hD hS (by rw [hS9]) (by rw [hO9]; rfl) dX2_takesInTap_81
      · refine lv_aload_n hx hb dX2_takesInTap_68 rfl (lv_at hl 0 rfl) ?_
        refine va_get (D := D) (ci := 2) (v := .int (nI z.2.1)) (C := RX2) (T := TX2) (N := 3) hx hb hts iX2 hown hK hP 0 rfl rfl 1 (by decide) (hts _ mg_31) (fun _ h9 => h9) rfl dX2_takesInTap_69 ?_
        refine lv_iconst (v := nI 3) hx hb dX2_takesInTap_72 (by decide) ?_
        refine j_icmp_ge (tgt := 80) hx hb dX2_takesInTap_73 (by decide) (nI_toInt (by omega)) (nI_toInt (by decide)) (fun c_4 => ?_) (fun c_4 => ?_)
        · refine lv_iconst (v := nI 0) hx hb dX2_takesInTap_80 (by decide) ?_
          have hO9 : rdO z j = false := by unfold rdO; rw [if_neg (by omega), if_neg (by omega), if_neg (by omega)]; exact decide_eq_false (by omega)
          have hS9 : rdS z j = (z.1, z.2.1, 0) := by unfold rdS; rw [if_neg (by omega), if_neg (by omega), if_neg (by omega)]
          exact rw_zret (wp := (fun _ : Unit => [((h : Nat), (.inr (2, [.int (nI ((rdS z j).1)), .int (nI ((rdS z j).2.1)), .int (nI ((rdS z j).2.2))]) : va_E))])) (post := (fun (r : Int32) (_ : Unit) => r = nI (if rdO z j = true then 1 else 0))) () hx hb hr rfl hlocks hK hP hD hS (by rw [hS9]) (by rw [hO9]; rfl) dX2_takesInTap_81
        · refine lv_iconst (v := nI 1) hx hb dX2_takesInTap_76 (by decide) ?_
          refine lv_goto (tgt := 81) hx hb dX2_takesInTap_77 (by decide) ?_
          have hO9 : rdO z j = true := by unfold rdO; rw [if_neg (by omega), if_neg (by omega), if_neg (by omega)]; exact decide_eq_true (by omega)
          have hS9 : rdS z j = (z.1, z.2.1, 0) := by unfold rdS; rw [if_neg (by omega), if_neg (by omega), if_neg (by omega)]
          exact rw_zret (wp := (fun _ : Unit => [((h : Nat), (.inr (2, [.int (nI ((rdS z j).1)), .int (nI ((rdS z j).2.1)), .int (nI ((rdS z j).2.2))]) : va_E))])) (post := (fun (r : Int32) (_ : Unit) => r = nI (if rdO z j = true then 1 else 0))) () hx hb hr rfl hlocks hK hP hD hS (by rw [hS9]) (by rw [hO9]; rfl) dX2_takesInTap_81
    · refine lv_aload_n hx hb dX2_takesInTap_34 rfl (lv_at hl 0 rfl) ?_
      refine lv_iconst (v := nI 2) hx hb dX2_takesInTap_35 (by decide) ?_
      refine va_put (D := D) (ci := 2) (v := .int (nI 2)) (ty := .int) (C := RX2) (T := TX2) (N := 3) hx hb hts iX2 tyX2 tyX2_ok nmX2 hown hK hP hD hS 0 rfl rfl 2 (by decide) (hts _ mg_32) (fun _ h9 => h9) rfl (tyX2_ok 2 (by decide)) rfl rfl (Nat.le_of_ble_eq_true rfl) dX2_takesInTap_36 (fun H locs hP hD hS => ?_)
      have hP : va_P D vwCl ([((h : Nat), (.inr (2, [.int (nI z.1), .int (nI z.2.1), .int (nI 2)]) : va_E))]) H := hP
      have hD : va_D A ([((h : Nat), (.inr (2, [.int (nI z.1), .int (nI z.2.1), .int (nI 2)]) : va_E))]) := hD
      refine lv_aload_n hx hb dX2_takesInTap_39 rfl (lv_at hl 0 rfl) ?_
      refine lv_dup hx hb dX2_takesInTap_40 rfl ?_
      refine va_get (D := D) (ci := 2) (v := .int (nI z.2.1)) (C := RX2) (T := TX2) (N := 3) hx hb hts iX2 hown hK hP 0 rfl rfl 1 (by decide) (hts _ mg_31) (fun _ h9 => h9) rfl dX2_takesInTap_41 ?_
      refine lv_iconst (v := nI 1) hx hb dX2_takesInTap_44 (by decide) ?_
      refine n_iadd hx hb dX2_takesInTap_45 ?_
      refine va_put (D := D) (ci := 2) (v := .int (nI (z.2.1 + 1))) (ty := .int) (C := RX2) (T := TX2) (N := 3) hx hb hts iX2 tyX2 tyX2_ok nmX2 hown hK hP hD hS 0 rfl rfl 1 (by decide) (hts _ mg_31) (fun _ h9 => h9) rfl (tyX2_ok 1 (by decide)) rfl rfl (Nat.le_of_ble_eq_true rfl) dX2_takesInTap_46 (fun H locs hP hD hS => ?_)
      have hP : va_P D vwCl ([((h : Nat), (.inr (2, [.int (nI z.1), .int (nI (z.2.1 + 1)), .int (nI 2)]) : va_E))]) H := hP
      have hD : va_D A ([((h : Nat), (.inr (2, [.int (nI z.1), .int (nI (z.2.1 + 1)), .int (nI 2)]) : va_E))]) := hD
      refine lv_iload_n hx hb dX2_takesInTap_49 rfl (lv_at hl 1 rfl) ?_
      refine lv_bipush (v := nI 48) hx hb dX2_takesInTap_50 (by decide) ?_
      refine lv_isub hx hb dX2_takesInTap_52 ?_
      rcases Decidable.em (48 ≤ j ∧ j < 52) with hk_5 | hk_5
      · refine ro_iSN (n := 1) (As := [.int (nI j - nI 48)]) ⟨hx, hb, hml, hown, hts⟩ (c_X6_isSayingT l D (nI j - nI 48) (by rw [pk_sub_toInt (by omega) (by omega)]; omega)) ⟨va_cnB 1 hts (gA mg_222) rfl rfl rfl (va_Nw.of rfl (hnst _ (List.mem_of_getElem? (i := 3) rfl))) (hts _ mg_1) vd_X6_isSaying.2 ⟨Nat.le_of_ble_eq_true rfl, Nat.le_of_ble_eq_true rfl⟩, hts _ mg_221, trivial⟩ (hK.sub [] rfl) (fun k q h => by simp at h) rfl hl.1 rfl (Nat.le_of_ble_eq_true rfl) dX2_takesInTap_53 ⟨Nat.zero_le _, Nat.zero_le _⟩ ?_
        have hO9 : rdO z j = true := by unfold rdO; rw [if_neg (by omega), if_neg (by omega), if_pos (by omega)]; exact decide_eq_true (by omega)
        have hS9 : rdS z j = (z.1, z.2.1 + 1, 2) := by unfold rdS; rw [if_neg (by omega), if_neg (by omega), if_pos (by omega)]
        exact rw_zret (wp := (fun _ : Unit => [((h : Nat), (.inr (2, [.int (nI ((rdS z j).1)), .int (nI ((rdS z j).2.1)), .int (nI ((rdS z j).2.2))]) : va_E))])) (post := (fun (r : Int32) (_ : Unit) => r = nI (if rdO z j = true then 1 else 0))) () hx hb hr rfl hlocks hK hP hD hS (by rw [hS9]) (by rw [hO9]; rfl) dX2_takesInTap_56
      · refine ro_iSN (n := 1) (As := [.int (nI j - nI 48)]) ⟨hx, hb, hml, hown, hts⟩ (c_X6_isSayingF l D (nI j - nI 48) (by rw [pk_sub_toInt (by omega) (by omega)]; omega)) ⟨va_cnB 1 hts (gA mg_222) rfl rfl rfl (va_Nw.of rfl (hnst _ (List.mem_of_getElem? (i := 3) rfl))) (hts _ mg_1) vd_X6_isSaying.2 ⟨Nat.le_of_ble_eq_true rfl, Nat.le_of_ble_eq_true rfl⟩, hts _ mg_221, trivial⟩ (hK.sub [] rfl) (fun k q h => by simp at h) rfl hl.1 rfl (Nat.le_of_ble_eq_true rfl) dX2_takesInTap_53 ⟨Nat.zero_le _, Nat.zero_le _⟩ ?_
        have hO9 : rdO z j = false := by unfold rdO; rw [if_neg (by omega), if_neg (by omega), if_pos (by omega)]; exact decide_eq_false (by omega)
        have hS9 : rdS z j = (z.1, z.2.1 + 1, 2) := by unfold rdS; rw [if_neg (by omega), if_neg (by omega), if_pos (by omega)]
        exact rw_zret (wp := (fun _ : Unit => [((h : Nat), (.inr (2, [.int (nI ((rdS z j).1)), .int (nI ((rdS z j).2.1)), .int (nI ((rdS z j).2.2))]) : va_E))])) (post := (fun (r : Int32) (_ : Unit) => r = nI (if rdO z j = true then 1 else 0))) () hx hb hr rfl hlocks hK hP hD hS (by rw [hS9]) (by rw [hO9]; rfl) dX2_takesInTap_56
  · refine lv_aload_n hx hb dX2_takesInTap_7 rfl (lv_at hl 0 rfl) ?_
    refine lv_iconst (v := nI 1) hx hb dX2_takesInTap_8 (by decide) ?_
    refine va_put (D := D) (ci := 2) (v := .int (nI 1)) (ty := .int) (C := RX2) (T := TX2) (N := 3) hx hb hts iX2 tyX2 tyX2_ok nmX2 hown hK hP hD hS 0 rfl rfl 2 (by decide) (hts _ mg_32) (fun _ h9 => h9) rfl (tyX2_ok 2 (by decide)) rfl rfl (Nat.le_of_ble_eq_true rfl) dX2_takesInTap_9 (fun H locs hP hD hS => ?_)
    have hP : va_P D vwCl ([((h : Nat), (.inr (2, [.int (nI z.1), .int (nI z.2.1), .int (nI 1)]) : va_E))]) H := hP
    have hD : va_D A ([((h : Nat), (.inr (2, [.int (nI z.1), .int (nI z.2.1), .int (nI 1)]) : va_E))]) := hD
    refine lv_iload_n hx hb dX2_takesInTap_12 rfl (lv_at hl 1 rfl) ?_
    rcases Decidable.em (knN j < 5) with hk_6 | hk_6
    · refine ro_iSN (n := 1) (As := [.int (nI j)]) ⟨hx, hb, hml, hown, hts⟩ (c_X6_kolA l D j hj hk_6) ⟨va_cnB 1 hts (gA mg_219) rfl rfl rfl (va_Nw.of rfl (hnst _ (List.mem_of_getElem? (i := 2) rfl))) (hts _ mg_1) vd_X6_kindOfLetter.2 ⟨Nat.le_of_ble_eq_true rfl, Nat.le_of_ble_eq_true rfl⟩, hts _ mg_218, trivial⟩ (hK.sub [] rfl) (fun k q h => by simp at h) rfl hl.1 rfl (Nat.le_of_ble_eq_true rfl) dX2_takesInTap_13 ⟨Nat.zero_le _, Nat.zero_le _⟩ ?_
      refine lv_iconst (v := (-1)) hx hb dX2_takesInTap_16 (by decide) ?_
      refine j_icmp_eq (tgt := 24) hx hb dX2_takesInTap_17 (by decide) (nI_toInt (by omega)) (show ((-1) : Int32).toInt = -1 from by decide) (fun c_7 => absurd c_7 (by omega)) (fun c_7 => ?_)
      refine lv_iconst (v := nI 1) hx hb dX2_takesInTap_20 (by decide) ?_
      refine lv_goto (tgt := 25) hx hb dX2_takesInTap_21 (by decide) ?_
      have hO9 : rdO z j = true := by unfold rdO; rw [if_neg (by omega), if_pos (by omega)]; exact decide_eq_true (by assumption)
      have hS9 : rdS z j = (z.1, z.2.1, 1) := by unfold rdS; rw [if_neg (by omega), if_pos (by omega)]
      exact rw_zret (wp := (fun _ : Unit => [((h : Nat), (.inr (2, [.int (nI ((rdS z j).1)), .int (nI ((rdS z j).2.1)), .int (nI ((rdS z j).2.2))]) : va_E))])) (post := (fun (r : Int32) (_ : Unit) => r = nI (if rdO z j = true then 1 else 0))) () hx hb hr rfl hlocks hK hP hD hS (by rw [hS9]) (by rw [hO9]; rfl) dX2_takesInTap_25
    · refine ro_iSN (n := 1) (As := [.int (nI j)]) ⟨hx, hb, hml, hown, hts⟩ (c_X6_kolB l D j hj hk_6) ⟨va_cnB 1 hts (gA mg_219) rfl rfl rfl (va_Nw.of rfl (hnst _ (List.mem_of_getElem? (i := 2) rfl))) (hts _ mg_1) vd_X6_kindOfLetter.2 ⟨Nat.le_of_ble_eq_true rfl, Nat.le_of_ble_eq_true rfl⟩, hts _ mg_218, trivial⟩ (hK.sub [] rfl) (fun k q h => by simp at h) rfl hl.1 rfl (Nat.le_of_ble_eq_true rfl) dX2_takesInTap_13 ⟨Nat.zero_le _, Nat.zero_le _⟩ ?_
      refine lv_iconst (v := (-1)) hx hb dX2_takesInTap_16 (by decide) ?_
      refine j_icmp_eq (tgt := 24) hx hb dX2_takesInTap_17 (by decide) (show ((-1) : Int32).toInt = -1 from by decide) (show ((-1) : Int32).toInt = -1 from by decide) (fun c_8 => ?_) (fun c_8 => absurd c_8 (by omega))
      refine lv_iconst (v := nI 0) hx hb dX2_takesInTap_24 (by decide) ?_
      have hO9 : rdO z j = false := by unfold rdO; rw [if_neg (by omega), if_pos (by omega)]; exact decide_eq_false (by assumption)
      have hS9 : rdS z j = (z.1, z.2.1, 1) := by unfold rdS; rw [if_neg (by omega), if_pos (by omega)]
      exact rw_zret (wp := (fun _ : Unit => [((h : Nat), (.inr (2, [.int (nI ((rdS z j).1)), .int (nI ((rdS z j).2.1)), .int (nI ((rdS z j).2.2))]) : va_E))])) (post := (fun (r : Int32) (_ : Unit) => r = nI (if rdO z j = true then 1 else 0))) () hx hb hr rfl hlocks hK hP hD hS (by rw [hS9]) (by rw [hO9]; rfl) dX2_takesInTap_25

set_option maxHeartbeats 4000000 in
set_option maxRecDepth 100000 in
theorem c_X2_takes (l : Launch) (D : va_G) (cI cT cN : ClassId) (sz h : Nat) (z : Nat × Nat × Nat) (j : Nat) (hj : j < 127) (hz1 : z.1 < 1000) (hz2 : z.2.1 < 1000) (hz3 : z.2.2 < 1000) : WI l yX2_takes (wAN yX2_takes cX2_takes 2 (some .boolean)) ({ frames := 2, cells := 0, slots := 0, locals := 41 }) D (cTys cI cT cN) [((h : Nat), (.inr (2, [.int (nI z.1), .int (nI z.2.1), .int (nI z.2.2)]) : va_E))] sz [.ref h, .int (nI j)] (fun (r : Int32) (_ : Unit) => r = nI (if rdO z j = true then 1 else 0)) (fun _ : Unit => [((h : Nat), (.inr (2, [.int (nI ((rdS z j).1)), .int (nI ((rdS z j).2.1)), .int (nI ((rdS z j).2.2))]) : va_E))]) := by
  refine rw_startIB (by decide) (Nat.le_of_ble_eq_true rfl) ?_
  intro p e s m args below meth c ls A F hnst hP hK hD hA hS hl
  obtain ⟨hx, hb, hr, hlocks, hml, hown, hts⟩ := F
  have hown : s.vm.findClass RX2 = some m.cls := hown
  have hl : lv_has ls 2 [(0, .ref h), (1, .int (nI j))] := hl
  refine lv_aload_n hx hb dX2_takes_0 rfl (lv_at hl 0 rfl) ?_
  refine va_get (D := D) (ci := 2) (v := .int (nI z.1)) (C := RX2) (T := TX2) (N := 3) hx hb hts iX2 hown hK hP 0 rfl rfl 0 (by decide) (hts _ mg_30) (fun _ h9 => h9) rfl dX2_takes_1 ?_
  refine lv_iconst (v := nI 4) hx hb dX2_takes_4 (by decide) ?_
  refine j_icmp_ge (tgt := 16) hx hb dX2_takes_5 (by decide) (nI_toInt (by omega)) (nI_toInt (by decide)) (fun c_1 => ?_) (fun c_1 => ?_)
  · refine lv_aload_n hx hb dX2_takes_16 rfl (lv_at hl 0 rfl) ?_
    refine lv_iload_n hx hb dX2_takes_17 rfl (lv_at hl 1 rfl) ?_
    refine rw_iV (X := []) (Y := []) (n := 1) (As := [.int (nI j)]) ⟨hx, hb, hml, hown, hts⟩ (c_X2_takesInTap l D cI cT cN _ h z j hj hz1 hz2 hz3 (by omega)) (cwVB 1 hts hnst mg_213 mg_215 mg_1001 mg_3 mg_216 rfl rfl vd_X2_takesInTap ⟨Nat.le_of_ble_eq_true rfl, Nat.le_of_ble_eq_true rfl⟩) (va_recv hK hP (ci := 2) (q0 := 0) rfl rfl) hK hP hD hS hA rfl hl.1 rfl (Nat.le_of_ble_eq_true rfl) dX2_takes_18 ⟨Nat.zero_le _, Nat.zero_le _⟩ (fun r_4 u_2 H locs w_3 hP hD hS => ?_)
    have hP : va_P D vwCl ([((h : Nat), (.inr (2, [.int (nI ((rdS z j).1)), .int (nI ((rdS z j).2.1)), .int (nI ((rdS z j).2.2))]) : va_E))]) H := hP
    have hD : va_D A ([((h : Nat), (.inr (2, [.int (nI ((rdS z j).1)), .int (nI ((rdS z j).2.1)), .int (nI ((rdS z j).2.2))]) : va_E))]) := hD
    have hw9 := w_3
    have nar9 : narrow .boolean (.int r_4) = .int r_4 := by rw [hw9]; split <;> rfl
    exact rw_zret (wp := (fun _ : Unit => [((h : Nat), (.inr (2, [.int (nI ((rdS z j).1)), .int (nI ((rdS z j).2.1)), .int (nI ((rdS z j).2.2))]) : va_E))])) (post := (fun (r : Int32) (_ : Unit) => r = nI (if rdO z j = true then 1 else 0))) () hx hb hr nar9 hlocks hK hP hD hS (rfl) (hw9) dX2_takes_21
  · refine lv_aload_n hx hb dX2_takes_8 rfl (lv_at hl 0 rfl) ?_
    refine lv_iload_n hx hb dX2_takes_9 rfl (lv_at hl 1 rfl) ?_
    refine rw_iV (X := []) (Y := []) (n := 1) (As := [.int (nI j)]) ⟨hx, hb, hml, hown, hts⟩ (c_X2_takesInSaying l D cI cT cN _ h z j hj hz1 hz2 hz3 (by omega)) (cwV 1 hts (gV mg_209 mg_211 mg_1000 mg_3 mg_212) rfl rfl rfl vd_X2_takesInSaying ⟨Nat.le_of_ble_eq_true rfl, Nat.le_of_ble_eq_true rfl⟩) (va_recv hK hP (ci := 2) (q0 := 0) rfl rfl) hK hP hD hS hA rfl hl.1 rfl (Nat.le_of_ble_eq_true rfl) dX2_takes_10 ⟨Nat.zero_le _, Nat.zero_le _⟩ (fun r_7 u_5 H locs w_6 hP hD hS => ?_)
    have hP : va_P D vwCl ([((h : Nat), (.inr (2, [.int (nI ((rdS z j).1)), .int (nI ((rdS z j).2.1)), .int (nI ((rdS z j).2.2))]) : va_E))]) H := hP
    have hD : va_D A ([((h : Nat), (.inr (2, [.int (nI ((rdS z j).1)), .int (nI ((rdS z j).2.1)), .int (nI ((rdS z j).2.2))]) : va_E))]) := hD
    refine lv_goto (tgt := 21) hx hb dX2_takes_13 (by decide) ?_
    have hw9 := w_6
    have nar9 : narrow .boolean (.int r_7) = .int r_7 := by rw [hw9]; split <;> rfl
    exact rw_zret (wp := (fun _ : Unit => [((h : Nat), (.inr (2, [.int (nI ((rdS z j).1)), .int (nI ((rdS z j).2.1)), .int (nI ((rdS z j).2.2))]) : va_E))])) (post := (fun (r : Int32) (_ : Unit) => r = nI (if rdO z j = true then 1 else 0))) () hx hb hr nar9 hlocks hK hP hD hS (rfl) (hw9) dX2_takes_21
