theorem c_X7_kbyA (l : Launch) (D : va_G) (j : Nat) (h5 : knN j < 5) : ROi l yX7_kindBy (wA yX7_kindBy cX7_kindBy 1 (some .int)) ({ frames := 0, cells := 0, slots := 0, locals := 0 }) D [] ([] : va_W) [.int (nI j)] (nI (knN j)) := by
  rcases kn_cases h5 with rfl | rfl | rfl | rfl | rfl
  · exact c_X7_kby0 l D
  · exact c_X7_kby1 l D
  · exact c_X7_kby2 l D
  · exact c_X7_kby3 l D
  · exact c_X7_kby4 l D
theorem c_X7_kbyB (l : Launch) (D : va_G) (j : Nat) (hj : j < 127) (h5 : ¬ knN j < 5) : ROi l yX7_kindBy (wA yX7_kindBy cX7_kindBy 1 (some .int)) ({ frames := 0, cells := 0, slots := 0, locals := 0 }) D [] ([] : va_W) [.int (nI j)] (-1) := by
  obtain ⟨h1, h2, h3, h4, h6⟩ := kn_not h5
  exact c_X7_kbyN l D (nI j) (by rw [nI_toInt (by omega)]; omega) (by rw [nI_toInt (by omega)]; omega) (by rw [nI_toInt (by omega)]; omega) (by rw [nI_toInt (by omega)]; omega) (by rw [nI_toInt (by omega)]; omega)

set_option maxHeartbeats 4000000 in
set_option maxRecDepth 100000 in
theorem c_X7_goSayA (l : Launch) (D : va_G) (h : Nat) (g : Nat → Nat) (cI : ClassId) (sz : Nat) (J : Nat → Int32) (hz : Int64) (G : Nat → Nat → Int32) (b : Nat → Nat → Nat) (pn xr xi : Nat) (pc : Nat → Int32) (q kq : RS) (hF : MF b pn xr xi pc q kq J G) (f : Nat → Nat) (t : Nat → Nat → Nat) (i : Nat) (hf : flt f i = i) (hR : PR f t i J G) (hj9 : f i < 127) (hs : (rdZ f i).1 < 4) (a2 : f i = 115 ∨ f i = 108) (a3 : (rdZ f i).2.2 < 4) : WI l yX7_goSaying (wA yX7_goSaying cX7_goSaying 4 (some .boolean)) ({ frames := 0, cells := 0, slots := 0, locals := 0 }) D (iTys cI) (mW h g cI J hz G) sz [.ref h, .int (nI (f i))] (fun (r : Int32) (u : (Nat → Int32) × (Nat → Nat → Int32)) => r = nI 1 ∧ MF b pn xr xi pc q kq u.1 u.2 ∧ PR f t (i + 1) u.1 u.2) (fun u => mW h g cI u.1 hz u.2) := by
  refine rw_startI (by decide) (Nat.le_of_ble_eq_true rfl) ?_
  intro p e s m args below meth c ls A F hP hK hD hA hS hl
  obtain ⟨hx, hb, hr, hlocks, hml, hown, hts⟩ := F
  have hown : s.vm.findClass RX7 = some m.cls := hown
  have hl : lv_has ls 4 [(0, .ref h), (1, .int (nI (f i)))] := hl
  have hlen := PR_len hR hf hs
  obtain ⟨i1, i2, i3, i4, i5, i6⟩ := pInv_at f t i hf
  obtain ⟨j1, j2, j3, j4⟩ := i2 hs
  refine lv_iconst (v := nI 5) hx hb dX7_goSaying_0 (by decide) ?_
  refine lv_aload_n hx hb dX7_goSaying_1 rfl (lv_at hl 0 rfl) ?_
  refine va_get (D := D) (ci := 7) (v := .int (nI ((rdZ f i).1))) (C := RX7) (T := TX7) (N := 22) hx hb hts iX7 hown hK hP 0 rfl rfl 2 (by decide) (hts _ mg_464) (fun _ h9 => h9) (congrArg (fun z => some (Value.int z)) hR.1) dX7_goSaying_2 ?_
  refine n_imul hx hb dX7_goSaying_5 ?_
  refine lv_istore_n (lv' := [(2, .int (nI (5 * ((rdZ f i).1)))), (0, .ref h), (1, .int (nI (f i)))]) hx hb dX7_goSaying_6 rfl hl (by decide) rfl (fun ls hl => ?_)
  refine lv_iload_n hx hb dX7_goSaying_7 rfl (lv_at hl 2 rfl) ?_
  refine lv_bipush (v := nI 44) hx hb dX7_goSaying_8 (by decide) ?_
  refine j_icmp_eq (tgt := 19) hx hb dX7_goSaying_10 (by decide) (nI_toInt (by omega)) (nI_toInt (by decide)) (fun c_1 => absurd c_1 (by omega)) (fun c_1 => ?_)
  refine lv_iload_n hx hb dX7_goSaying_13 rfl (lv_at hl 2 rfl) ?_
  refine lv_bipush (v := nI 59) hx hb dX7_goSaying_14 (by decide) ?_
  refine j_icmp_ne (tgt := 85) hx hb dX7_goSaying_16 (by decide) (nI_toInt (by omega)) (nI_toInt (by decide)) (fun c_2 => ?_) (fun c_2 => absurd c_2 (by omega))
  rcases (id a2) with a8 | a8
  · refine lv_iload_n hx hb dX7_goSaying_85 rfl (lv_at hl 2 rfl) ?_
    refine lv_bipush (v := nI 115) hx hb dX7_goSaying_86 (by decide) ?_
    refine j_icmp_eq (tgt := 97) hx hb dX7_goSaying_88 (by decide) (nI_toInt (by omega)) (nI_toInt (by decide)) (fun c_3 => ?_) (fun c_3 => absurd c_3 (by omega))
    refine lv_aload_n hx hb dX7_goSaying_97 rfl (lv_at hl 1 rfl) ?_
    refine va_get (D := D) (ci := 7) (v := .ref (g 3)) (C := RX7) (T := TX7) (N := 22) hx hb hts iX7 hown hK hP 0 rfl rfl 3 (by decide) (hts _ mg_465) (fun _ h9 => h9) rfl dX7_goSaying_98 ?_
    refine lv_iload_n hx hb dX7_goSaying_101 rfl (lv_at hl 0 rfl) ?_
    refine n_aldi hx hb hK hP 2 0 rfl rfl (by omega) (by decide) (v := nI ((rdZ f i).2.2)) (hlen) dX7_goSaying_102 ?_
    refine lv_iconst (v := nI 4) hx hb dX7_goSaying_103 (by decide) ?_
    refine j_icmp_ne (tgt := 109) hx hb dX7_goSaying_104 (by decide) (nI_toInt (by omega)) (nI_toInt (by decide)) (fun c_4 => ?_) (fun c_4 => absurd c_4 (by omega))
    refine lv_aload_n hx hb dX7_goSaying_109 rfl (lv_at hl 1 rfl) ?_
    refine va_get (D := D) (ci := 7) (v := .ref (g 3)) (C := RX7) (T := TX7) (N := 22) hx hb hts iX7 hown hK hP 0 rfl rfl 3 (by decide) (hts _ mg_465) (fun _ h9 => h9) rfl dX7_goSaying_110 ?_
    refine lv_iload_n hx hb dX7_goSaying_113 rfl (lv_at hl 0 rfl) ?_
    refine lv_dup2_11 hx hb dX7_goSaying_114 rfl rfl ?_
    refine n_aldi hx hb hK hP 2 0 rfl rfl (by omega) (by decide) (v := nI ((rdZ f i).2.2)) (hlen) dX7_goSaying_115 ?_
    refine lv_iconst (v := nI 1) hx hb dX7_goSaying_116 (by decide) ?_
    refine n_iadd hx hb dX7_goSaying_117 ?_
    refine n_asti hx hb hK hP hD hS 2 0 rfl rfl (by omega) (by decide) dX7_goSaying_118 (fun H locs hP hD hS => ?_)
    have hP : va_P D vwCl (mW h g cI J hz (updF G 3 (upd (G 3) (5 * ((rdZ f i).1)) (nI (((rdZ f i).2.2) + 1))))) H := hP
    have hD : va_D A (mW h g cI J hz (updF G 3 (upd (G 3) (5 * ((rdZ f i).1)) (nI (((rdZ f i).2.2) + 1))))) := hD
    refine lv_aload_n hx hb dX7_goSaying_119 rfl (lv_at hl 1 rfl) ?_
    refine va_get (D := D) (ci := 7) (v := .ref (g 3)) (C := RX7) (T := TX7) (N := 22) hx hb hts iX7 hown hK hP 0 rfl rfl 3 (by decide) (hts _ mg_465) (fun _ h9 => h9) rfl dX7_goSaying_120 ?_
    refine lv_iload_n hx hb dX7_goSaying_123 rfl (lv_at hl 0 rfl) ?_
    refine lv_aload_n hx hb dX7_goSaying_124 rfl (lv_at hl 1 rfl) ?_
    refine va_get (D := D) (ci := 7) (v := .ref (g 3)) (C := RX7) (T := TX7) (N := 22) hx hb hts iX7 hown hK hP 0 rfl rfl 3 (by decide) (hts _ mg_465) (fun _ h9 => h9) rfl dX7_goSaying_125 ?_
    refine lv_iload_n hx hb dX7_goSaying_128 rfl (lv_at hl 0 rfl) ?_
    refine n_aldi hx hb hK hP 2 0 rfl rfl (by omega) (by decide) (v := nI ((rdZ f i).2.2 + 1)) (show upd (G 3) (5 * (rdZ f i).1) (nI ((rdZ f i).2.2 + 1)) (5 * (rdZ f i).1) = _ from fr_upd) dX7_goSaying_129 ?_
    refine n_iadd hx hb dX7_goSaying_130 ?_
    refine lv_iload_n hx hb dX7_goSaying_131 rfl (lv_at hl 2 rfl) ?_
    refine lv_bipush (v := nI 108) hx hb dX7_goSaying_132 (by decide) ?_
    refine j_icmp_ne (tgt := 141) hx hb dX7_goSaying_134 (by decide) (nI_toInt (by omega)) (nI_toInt (by decide)) (fun c_5 => ?_) (fun c_5 => absurd c_5 (by omega))
    refine lv_iconst (v := nI 0) hx hb dX7_goSaying_141 (by decide) ?_
    refine n_asti hx hb hK hP hD hS 2 0 rfl rfl (by omega) (by decide) dX7_goSaying_142 (fun H locs hP hD hS => ?_)
    have hP : va_P D vwCl (mW h g cI J hz (updF (updF G 3 (upd (G 3) (5 * ((rdZ f i).1)) (nI (((rdZ f i).2.2) + 1)))) 3 (upd ((updF G 3 (upd (G 3) (5 * ((rdZ f i).1)) (nI (((rdZ f i).2.2) + 1)))) 3) ((5 * ((rdZ f i).1)) + ((rdZ f i).2.2 + 1)) (nI 0)))) H := hP
    have hD : va_D A (mW h g cI J hz (updF (updF G 3 (upd (G 3) (5 * ((rdZ f i).1)) (nI (((rdZ f i).2.2) + 1)))) 3 (upd ((updF G 3 (upd (G 3) (5 * ((rdZ f i).1)) (nI (((rdZ f i).2.2) + 1)))) 3) ((5 * ((rdZ f i).1)) + ((rdZ f i).2.2 + 1)) (nI 0)))) := hD
    refine lv_iconst (v := nI 1) hx hb dX7_goSaying_143 (by decide) ?_
    exact rw_zret (wp := (fun u => mW h g cI u.1 hz u.2)) (post := (fun (r : Int32) (u : (Nat → Int32) × (Nat → Nat → Int32)) => r = nI 1 ∧ MF b pn xr xi pc q kq u.1 u.2 ∧ PR f t (i + 1) u.1 u.2)) (J, updF (updF G 3 (upd (G 3) (5 * ((rdZ f i).1)) (nI (((rdZ f i).2.2) + 1)))) 3 (upd ((updF G 3 (upd (G 3) (5 * ((rdZ f i).1)) (nI (((rdZ f i).2.2) + 1)))) 3) ((5 * ((rdZ f i).1)) + ((rdZ f i).2.2 + 1)) (nI 0))) hx hb hr rfl hlocks hK hP hD hS (rfl) (⟨rfl, hF, by have hx9 := PR_beat hR hf hs a2; rw [if_neg (by omega)] at hx9; exact hx9⟩) dX7_goSaying_144
  · refine lv_iload_n hx hb dX7_goSaying_85 rfl (lv_at hl 2 rfl) ?_
    refine lv_bipush (v := nI 115) hx hb dX7_goSaying_86 (by decide) ?_
    refine j_icmp_eq (tgt := 97) hx hb dX7_goSaying_88 (by decide) (nI_toInt (by omega)) (nI_toInt (by decide)) (fun c_6 => absurd c_6 (by omega)) (fun c_6 => ?_)
    refine lv_iload_n hx hb dX7_goSaying_91 rfl (lv_at hl 2 rfl) ?_
    refine lv_bipush (v := nI 108) hx hb dX7_goSaying_92 (by decide) ?_
    refine j_icmp_ne (tgt := 107) hx hb dX7_goSaying_94 (by decide) (nI_toInt (by omega)) (nI_toInt (by decide)) (fun c_7 => absurd c_7 (by omega)) (fun c_7 => ?_)
    refine lv_aload_n hx hb dX7_goSaying_97 rfl (lv_at hl 1 rfl) ?_
    refine va_get (D := D) (ci := 7) (v := .ref (g 3)) (C := RX7) (T := TX7) (N := 22) hx hb hts iX7 hown hK hP 0 rfl rfl 3 (by decide) (hts _ mg_465) (fun _ h9 => h9) rfl dX7_goSaying_98 ?_
    refine lv_iload_n hx hb dX7_goSaying_101 rfl (lv_at hl 0 rfl) ?_
    refine n_aldi hx hb hK hP 2 0 rfl rfl (by omega) (by decide) (v := nI ((rdZ f i).2.2)) (hlen) dX7_goSaying_102 ?_
    refine lv_iconst (v := nI 4) hx hb dX7_goSaying_103 (by decide) ?_
    refine j_icmp_ne (tgt := 109) hx hb dX7_goSaying_104 (by decide) (nI_toInt (by omega)) (nI_toInt (by decide)) (fun c_8 => ?_) (fun c_8 => absurd c_8 (by omega))
    refine lv_aload_n hx hb dX7_goSaying_109 rfl (lv_at hl 1 rfl) ?_
    refine va_get (D := D) (ci := 7) (v := .ref (g 3)) (C := RX7) (T := TX7) (N := 22) hx hb hts iX7 hown hK hP 0 rfl rfl 3 (by decide) (hts _ mg_465) (fun _ h9 => h9) rfl dX7_goSaying_110 ?_
    refine lv_iload_n hx hb dX7_goSaying_113 rfl (lv_at hl 0 rfl) ?_
    refine lv_dup2_11 hx hb dX7_goSaying_114 rfl rfl ?_
    refine n_aldi hx hb hK hP 2 0 rfl rfl (by omega) (by decide) (v := nI ((rdZ f i).2.2)) (hlen) dX7_goSaying_115 ?_
    refine lv_iconst (v := nI 1) hx hb dX7_goSaying_116 (by decide) ?_
    refine n_iadd hx hb dX7_goSaying_117 ?_
    refine n_asti hx hb hK hP hD hS 2 0 rfl rfl (by omega) (by decide) dX7_goSaying_118 (fun H locs hP hD hS => ?_)
    have hP : va_P D vwCl (mW h g cI J hz (updF G 3 (upd (G 3) (5 * ((rdZ f i).1)) (nI (((rdZ f i).2.2) + 1))))) H := hP
    have hD : va_D A (mW h g cI J hz (updF G 3 (upd (G 3) (5 * ((rdZ f i).1)) (nI (((rdZ f i).2.2) + 1))))) := hD
    refine lv_aload_n hx hb dX7_goSaying_119 rfl (lv_at hl 1 rfl) ?_
    refine va_get (D := D) (ci := 7) (v := .ref (g 3)) (C := RX7) (T := TX7) (N := 22) hx hb hts iX7 hown hK hP 0 rfl rfl 3 (by decide) (hts _ mg_465) (fun _ h9 => h9) rfl dX7_goSaying_120 ?_
    refine lv_iload_n hx hb dX7_goSaying_123 rfl (lv_at hl 0 rfl) ?_
    refine lv_aload_n hx hb dX7_goSaying_124 rfl (lv_at hl 1 rfl) ?_
    refine va_get (D := D) (ci := 7) (v := .ref (g 3)) (C := RX7) (T := TX7) (N := 22) hx hb hts iX7 hown hK hP 0 rfl rfl 3 (by decide) (hts _ mg_465) (fun _ h9 => h9) rfl dX7_goSaying_125 ?_
    refine lv_iload_n hx hb dX7_goSaying_128 rfl (lv_at hl 0 rfl) ?_
    refine n_aldi hx hb hK hP 2 0 rfl rfl (by omega) (by decide) (v := nI ((rdZ f i).2.2 + 1)) (show upd (G 3) (5 * (rdZ f i).1) (nI ((rdZ f i).2.2 + 1)) (5 * (rdZ f i).1) = _ from fr_upd) dX7_goSaying_129 ?_
    refine n_iadd hx hb dX7_goSaying_130 ?_
    refine lv_iload_n hx hb dX7_goSaying_131 rfl (lv_at hl 2 rfl) ?_
    refine lv_bipush (v := nI 108) hx hb dX7_goSaying_132 (by decide) ?_
    refine j_icmp_ne (tgt := 141) hx hb dX7_goSaying_134 (by decide) (nI_toInt (by omega)) (nI_toInt (by decide)) (fun c_9 => absurd c_9 (by omega)) (fun c_9 => ?_)
    refine lv_iconst (v := nI 1) hx hb dX7_goSaying_137 (by decide) ?_
    refine lv_goto (tgt := 142) hx hb dX7_goSaying_138 (by decide) ?_
    refine n_asti hx hb hK hP hD hS 2 0 rfl rfl (by omega) (by decide) dX7_goSaying_142 (fun H locs hP hD hS => ?_)
    have hP : va_P D vwCl (mW h g cI J hz (updF (updF G 3 (upd (G 3) (5 * ((rdZ f i).1)) (nI (((rdZ f i).2.2) + 1)))) 3 (upd ((updF G 3 (upd (G 3) (5 * ((rdZ f i).1)) (nI (((rdZ f i).2.2) + 1)))) 3) ((5 * ((rdZ f i).1)) + ((rdZ f i).2.2 + 1)) (nI 1)))) H := hP
    have hD : va_D A (mW h g cI J hz (updF (updF G 3 (upd (G 3) (5 * ((rdZ f i).1)) (nI (((rdZ f i).2.2) + 1)))) 3 (upd ((updF G 3 (upd (G 3) (5 * ((rdZ f i).1)) (nI (((rdZ f i).2.2) + 1)))) 3) ((5 * ((rdZ f i).1)) + ((rdZ f i).2.2 + 1)) (nI 1)))) := hD
    refine lv_iconst (v := nI 1) hx hb dX7_goSaying_143 (by decide) ?_
    exact rw_zret (wp := (fun u => mW h g cI u.1 hz u.2)) (post := (fun (r : Int32) (u : (Nat → Int32) × (Nat → Nat → Int32)) => r = nI 1 ∧ MF b pn xr xi pc q kq u.1 u.2 ∧ PR f t (i + 1) u.1 u.2)) (J, updF (updF G 3 (upd (G 3) (5 * ((rdZ f i).1)) (nI (((rdZ f i).2.2) + 1)))) 3 (upd ((updF G 3 (upd (G 3) (5 * ((rdZ f i).1)) (nI (((rdZ f i).2.2) + 1)))) 3) ((5 * ((rdZ f i).1)) + ((rdZ f i).2.2 + 1)) (nI 1))) hx hb hr rfl hlocks hK hP hD hS (rfl) (⟨rfl, hF, by have hx9 := PR_beat hR hf hs a2; rw [if_pos (by omega)] at hx9; exact hx9⟩) dX7_goSaying_144

set_option maxHeartbeats 4000000 in
set_option maxRecDepth 100000 in
theorem c_X7_goSayB (l : Launch) (D : va_G) (h : Nat) (g : Nat → Nat) (cI : ClassId) (sz : Nat) (J : Nat → Int32) (hz : Int64) (G : Nat → Nat → Int32) (b : Nat → Nat → Nat) (pn xr xi : Nat) (pc : Nat → Int32) (q kq : RS) (hF : MF b pn xr xi pc q kq J G) (f : Nat → Nat) (t : Nat → Nat → Nat) (i : Nat) (hf : flt f i = i) (hR : PR f t i J G) (hj9 : f i < 127) (hs : (rdZ f i).1 < 4) (a3 : ¬ (rdZ f i).2.2 = 0) (a2 : f i = clo (rdZ f i).1) : WI l yX7_goSaying (wA yX7_goSaying cX7_goSaying 4 (some .boolean)) ({ frames := 0, cells := 0, slots := 0, locals := 0 }) D (iTys cI) (mW h g cI J hz G) sz [.ref h, .int (nI (f i))] (fun (r : Int32) (u : (Nat → Int32) × (Nat → Nat → Int32)) => r = nI 1 ∧ MF b pn xr xi pc q kq u.1 u.2 ∧ PR f t (i + 1) u.1 u.2) (fun u => mW h g cI u.1 hz u.2) := by
  refine rw_startI (by decide) (Nat.le_of_ble_eq_true rfl) ?_
  intro p e s m args below meth c ls A F hP hK hD hA hS hl
  obtain ⟨hx, hb, hr, hlocks, hml, hown, hts⟩ := F
  have hown : s.vm.findClass RX7 = some m.cls := hown
  have hl : lv_has ls 4 [(0, .ref h), (1, .int (nI (f i)))] := hl
  have hlen := PR_len hR hf hs
  obtain ⟨i1, i2, i3, i4, i5, i6⟩ := pInv_at f t i hf
  obtain ⟨j1, j2, j3, j4⟩ := i2 hs
  refine lv_iconst (v := nI 5) hx hb dX7_goSaying_0 (by decide) ?_
  refine lv_aload_n hx hb dX7_goSaying_1 rfl (lv_at hl 0 rfl) ?_
  refine va_get (D := D) (ci := 7) (v := .int (nI ((rdZ f i).1))) (C := RX7) (T := TX7) (N := 22) hx hb hts iX7 hown hK hP 0 rfl rfl 2 (by decide) (hts _ mg_464) (fun _ h9 => h9) (congrArg (fun z => some (Value.int z)) hR.1) dX7_goSaying_2 ?_
  refine n_imul hx hb dX7_goSaying_5 ?_
  refine lv_istore_n (lv' := [(2, .int (nI (5 * ((rdZ f i).1)))), (0, .ref h), (1, .int (nI (f i)))]) hx hb dX7_goSaying_6 rfl hl (by decide) rfl (fun ls hl => ?_)
  rcases (clo_or a2 hs) with ⟨a7, a8⟩ | ⟨a7, a8⟩
  · refine lv_iload_n hx hb dX7_goSaying_7 rfl (lv_at hl 2 rfl) ?_
    refine lv_bipush (v := nI 44) hx hb dX7_goSaying_8 (by decide) ?_
    refine j_icmp_eq (tgt := 19) hx hb dX7_goSaying_10 (by decide) (nI_toInt (by omega)) (nI_toInt (by decide)) (fun c_1 => absurd c_1 (by omega)) (fun c_1 => ?_)
    refine lv_iload_n hx hb dX7_goSaying_13 rfl (lv_at hl 2 rfl) ?_
    refine lv_bipush (v := nI 59) hx hb dX7_goSaying_14 (by decide) ?_
    refine j_icmp_ne (tgt := 85) hx hb dX7_goSaying_16 (by decide) (nI_toInt (by omega)) (nI_toInt (by decide)) (fun c_2 => absurd c_2 (by omega)) (fun c_2 => ?_)
    refine lv_aload_n hx hb dX7_goSaying_19 rfl (lv_at hl 1 rfl) ?_
    refine va_get (D := D) (ci := 7) (v := .ref (g 3)) (C := RX7) (T := TX7) (N := 22) hx hb hts iX7 hown hK hP 0 rfl rfl 3 (by decide) (hts _ mg_465) (fun _ h9 => h9) rfl dX7_goSaying_20 ?_
    refine lv_iload_n hx hb dX7_goSaying_23 rfl (lv_at hl 0 rfl) ?_
    refine n_aldi hx hb hK hP 2 0 rfl rfl (by omega) (by decide) (v := nI ((rdZ f i).2.2)) (hlen) dX7_goSaying_24 ?_
    refine j_if_le (tgt := 59) hx hb dX7_goSaying_25 (by decide) (nI_toInt (by omega)) (fun c_3 => absurd c_3 (by omega)) (fun c_3 => ?_)
    refine lv_iload_n hx hb dX7_goSaying_28 rfl (lv_at hl 2 rfl) ?_
    refine lv_bipush (v := nI 59) hx hb dX7_goSaying_29 (by decide) ?_
    refine j_icmp_ne (tgt := 38) hx hb dX7_goSaying_31 (by decide) (nI_toInt (by omega)) (nI_toInt (by decide)) (fun c_4 => absurd c_4 (by omega)) (fun c_4 => ?_)
    refine lv_iconst (v := nI 1) hx hb dX7_goSaying_34 (by decide) ?_
    refine lv_goto (tgt := 39) hx hb dX7_goSaying_35 (by decide) ?_
    refine lv_aload_n hx hb dX7_goSaying_39 rfl (lv_at hl 1 rfl) ?_
    refine va_get (D := D) (ci := 7) (v := .int (nI ((rdZ f i).1))) (C := RX7) (T := TX7) (N := 22) hx hb hts iX7 hown hK hP 0 rfl rfl 2 (by decide) (hts _ mg_464) (fun _ h9 => h9) (congrArg (fun z => some (Value.int z)) hR.1) dX7_goSaying_40 ?_
    refine lv_iconst (v := nI 3) hx hb dX7_goSaying_43 (by decide) ?_
    refine j_icmp_ne (tgt := 51) hx hb dX7_goSaying_44 (by decide) (nI_toInt (by omega)) (nI_toInt (by decide)) (fun c_5 => absurd c_5 (by omega)) (fun c_5 => ?_)
    refine lv_iconst (v := nI 1) hx hb dX7_goSaying_47 (by decide) ?_
    refine lv_goto (tgt := 52) hx hb dX7_goSaying_48 (by decide) ?_
    refine j_icmp_ne (tgt := 59) hx hb dX7_goSaying_52 (by decide) (nI_toInt (by decide)) (nI_toInt (by decide)) (fun c_6 => absurd c_6 (by omega)) (fun c_6 => ?_)
    refine lv_iconst (v := nI 1) hx hb dX7_goSaying_55 (by decide) ?_
    refine lv_goto (tgt := 60) hx hb dX7_goSaying_56 (by decide) ?_
    refine lv_istore_n (lv' := [(3, .int (nI 1)), (2, .int (nI (5 * ((rdZ f i).1)))), (0, .ref h), (1, .int (nI (f i)))]) hx hb dX7_goSaying_60 rfl hl (by decide) rfl (fun ls hl => ?_)
    refine lv_aload_n hx hb dX7_goSaying_61 rfl (lv_at hl 2 rfl) ?_
    refine lv_dup hx hb dX7_goSaying_62 rfl ?_
    refine va_get (D := D) (ci := 7) (v := .int (nI ((rdZ f i).1))) (C := RX7) (T := TX7) (N := 22) hx hb hts iX7 hown hK hP 0 rfl rfl 2 (by decide) (hts _ mg_464) (fun _ h9 => h9) (congrArg (fun z => some (Value.int z)) hR.1) dX7_goSaying_63 ?_
    refine lv_iconst (v := nI 1) hx hb dX7_goSaying_66 (by decide) ?_
    refine n_iadd hx hb dX7_goSaying_67 ?_
    refine va_put (D := D) (ci := 7) (v := .int (nI (((rdZ f i).1) + 1))) (ty := .int) (C := RX7) (T := TX7) (N := 22) hx hb hts iX7 tyX7 tyX7_ok nmX7 hown hK hP hD hS 0 rfl rfl 2 (by decide) (hts _ mg_464) (fun _ h9 => h9) rfl (tyX7_ok 2 (by decide)) rfl rfl (Nat.le_of_ble_eq_true rfl) dX7_goSaying_68 (fun H locs hP hD hS => ?_)
    have hP : va_P D vwCl (mW h g cI (upd J 2 (nI (((rdZ f i).1) + 1))) hz G) H := hP
    have hD : va_D A (mW h g cI (upd J 2 (nI (((rdZ f i).1) + 1))) hz G) := hD
    refine lv_aload_n hx hb dX7_goSaying_71 rfl (lv_at hl 2 rfl) ?_
    refine va_get (D := D) (ci := 7) (v := .ref (g 3)) (C := RX7) (T := TX7) (N := 22) hx hb hts iX7 hown hK hP 0 rfl rfl 3 (by decide) (hts _ mg_465) (fun _ h9 => h9) rfl dX7_goSaying_72 ?_
    refine lv_iconst (v := nI 5) hx hb dX7_goSaying_75 (by decide) ?_
    refine lv_aload_n hx hb dX7_goSaying_76 rfl (lv_at hl 2 rfl) ?_
    refine va_get (D := D) (ci := 7) (v := .int (nI (((rdZ f i).1) + 1))) (C := RX7) (T := TX7) (N := 22) hx hb hts iX7 hown hK hP 0 rfl rfl 2 (by decide) (hts _ mg_464) (fun _ h9 => h9) (congrArg (fun z => some (Value.int z)) rfl) dX7_goSaying_77 ?_
    refine n_imul hx hb dX7_goSaying_80 ?_
    refine lv_iconst (v := nI 0) hx hb dX7_goSaying_81 (by decide) ?_
    refine n_asti hx hb hK hP hD hS 2 0 rfl rfl (by omega) (by decide) dX7_goSaying_82 (fun H locs hP hD hS => ?_)
    have hP : va_P D vwCl (mW h g cI (upd J 2 (nI (((rdZ f i).1) + 1))) hz (updF G 3 (upd (G 3) (5 * (((rdZ f i).1) + 1)) (nI 0)))) H := hP
    have hD : va_D A (mW h g cI (upd J 2 (nI (((rdZ f i).1) + 1))) hz (updF G 3 (upd (G 3) (5 * (((rdZ f i).1) + 1)) (nI 0)))) := hD
    refine lv_iload_n hx hb dX7_goSaying_83 rfl (lv_at hl 0 rfl) ?_
    exact rw_zret (wp := (fun u => mW h g cI u.1 hz u.2)) (post := (fun (r : Int32) (u : (Nat → Int32) × (Nat → Nat → Int32)) => r = nI 1 ∧ MF b pn xr xi pc q kq u.1 u.2 ∧ PR f t (i + 1) u.1 u.2)) (upd J 2 (nI (((rdZ f i).1) + 1)), updF G 3 (upd (G 3) (5 * (((rdZ f i).1) + 1)) (nI 0))) hx hb hr rfl hlocks hK hP hD hS (rfl) (⟨rfl, hF, PR_sep hR hf hs a2 a3⟩) dX7_goSaying_84
  · refine lv_iload_n hx hb dX7_goSaying_7 rfl (lv_at hl 2 rfl) ?_
    refine lv_bipush (v := nI 44) hx hb dX7_goSaying_8 (by decide) ?_
    refine j_icmp_eq (tgt := 19) hx hb dX7_goSaying_10 (by decide) (nI_toInt (by omega)) (nI_toInt (by decide)) (fun c_7 => ?_) (fun c_7 => absurd c_7 (by omega))
    refine lv_aload_n hx hb dX7_goSaying_19 rfl (lv_at hl 1 rfl) ?_
    refine va_get (D := D) (ci := 7) (v := .ref (g 3)) (C := RX7) (T := TX7) (N := 22) hx hb hts iX7 hown hK hP 0 rfl rfl 3 (by decide) (hts _ mg_465) (fun _ h9 => h9) rfl dX7_goSaying_20 ?_
    refine lv_iload_n hx hb dX7_goSaying_23 rfl (lv_at hl 0 rfl) ?_
    refine n_aldi hx hb hK hP 2 0 rfl rfl (by omega) (by decide) (v := nI ((rdZ f i).2.2)) (hlen) dX7_goSaying_24 ?_
    refine j_if_le (tgt := 59) hx hb dX7_goSaying_25 (by decide) (nI_toInt (by omega)) (fun c_8 => absurd c_8 (by omega)) (fun c_8 => ?_)
    refine lv_iload_n hx hb dX7_goSaying_28 rfl (lv_at hl 2 rfl) ?_
    refine lv_bipush (v := nI 59) hx hb dX7_goSaying_29 (by decide) ?_
    refine j_icmp_ne (tgt := 38) hx hb dX7_goSaying_31 (by decide) (nI_toInt (by omega)) (nI_toInt (by decide)) (fun c_9 => ?_) (fun c_9 => absurd c_9 (by omega))
    refine lv_iconst (v := nI 0) hx hb dX7_goSaying_38 (by decide) ?_
    refine lv_aload_n hx hb dX7_goSaying_39 rfl (lv_at hl 1 rfl) ?_
    refine va_get (D := D) (ci := 7) (v := .int (nI ((rdZ f i).1))) (C := RX7) (T := TX7) (N := 22) hx hb hts iX7 hown hK hP 0 rfl rfl 2 (by decide) (hts _ mg_464) (fun _ h9 => h9) (congrArg (fun z => some (Value.int z)) hR.1) dX7_goSaying_40 ?_
    refine lv_iconst (v := nI 3) hx hb dX7_goSaying_43 (by decide) ?_
    refine j_icmp_ne (tgt := 51) hx hb dX7_goSaying_44 (by decide) (nI_toInt (by omega)) (nI_toInt (by decide)) (fun c_10 => ?_) (fun c_10 => absurd c_10 (by omega))
    refine lv_iconst (v := nI 0) hx hb dX7_goSaying_51 (by decide) ?_
    refine j_icmp_ne (tgt := 59) hx hb dX7_goSaying_52 (by decide) (nI_toInt (by decide)) (nI_toInt (by decide)) (fun c_11 => absurd c_11 (by omega)) (fun c_11 => ?_)
    refine lv_iconst (v := nI 1) hx hb dX7_goSaying_55 (by decide) ?_
    refine lv_goto (tgt := 60) hx hb dX7_goSaying_56 (by decide) ?_
    refine lv_istore_n (lv' := [(3, .int (nI 1)), (2, .int (nI (5 * ((rdZ f i).1)))), (0, .ref h), (1, .int (nI (f i)))]) hx hb dX7_goSaying_60 rfl hl (by decide) rfl (fun ls hl => ?_)
    refine lv_aload_n hx hb dX7_goSaying_61 rfl (lv_at hl 2 rfl) ?_
    refine lv_dup hx hb dX7_goSaying_62 rfl ?_
    refine va_get (D := D) (ci := 7) (v := .int (nI ((rdZ f i).1))) (C := RX7) (T := TX7) (N := 22) hx hb hts iX7 hown hK hP 0 rfl rfl 2 (by decide) (hts _ mg_464) (fun _ h9 => h9) (congrArg (fun z => some (Value.int z)) hR.1) dX7_goSaying_63 ?_
    refine lv_iconst (v := nI 1) hx hb dX7_goSaying_66 (by decide) ?_
    refine n_iadd hx hb dX7_goSaying_67 ?_
    refine va_put (D := D) (ci := 7) (v := .int (nI (((rdZ f i).1) + 1))) (ty := .int) (C := RX7) (T := TX7) (N := 22) hx hb hts iX7 tyX7 tyX7_ok nmX7 hown hK hP hD hS 0 rfl rfl 2 (by decide) (hts _ mg_464) (fun _ h9 => h9) rfl (tyX7_ok 2 (by decide)) rfl rfl (Nat.le_of_ble_eq_true rfl) dX7_goSaying_68 (fun H locs hP hD hS => ?_)
    have hP : va_P D vwCl (mW h g cI (upd J 2 (nI (((rdZ f i).1) + 1))) hz G) H := hP
    have hD : va_D A (mW h g cI (upd J 2 (nI (((rdZ f i).1) + 1))) hz G) := hD
    refine lv_aload_n hx hb dX7_goSaying_71 rfl (lv_at hl 2 rfl) ?_
    refine va_get (D := D) (ci := 7) (v := .ref (g 3)) (C := RX7) (T := TX7) (N := 22) hx hb hts iX7 hown hK hP 0 rfl rfl 3 (by decide) (hts _ mg_465) (fun _ h9 => h9) rfl dX7_goSaying_72 ?_
    refine lv_iconst (v := nI 5) hx hb dX7_goSaying_75 (by decide) ?_
    refine lv_aload_n hx hb dX7_goSaying_76 rfl (lv_at hl 2 rfl) ?_
    refine va_get (D := D) (ci := 7) (v := .int (nI (((rdZ f i).1) + 1))) (C := RX7) (T := TX7) (N := 22) hx hb hts iX7 hown hK hP 0 rfl rfl 2 (by decide) (hts _ mg_464) (fun _ h9 => h9) (congrArg (fun z => some (Value.int z)) rfl) dX7_goSaying_77 ?_
    refine n_imul hx hb dX7_goSaying_80 ?_
    refine lv_iconst (v := nI 0) hx hb dX7_goSaying_81 (by decide) ?_
    refine n_asti hx hb hK hP hD hS 2 0 rfl rfl (by omega) (by decide) dX7_goSaying_82 (fun H locs hP hD hS => ?_)
    have hP : va_P D vwCl (mW h g cI (upd J 2 (nI (((rdZ f i).1) + 1))) hz (updF G 3 (upd (G 3) (5 * (((rdZ f i).1) + 1)) (nI 0)))) H := hP
    have hD : va_D A (mW h g cI (upd J 2 (nI (((rdZ f i).1) + 1))) hz (updF G 3 (upd (G 3) (5 * (((rdZ f i).1) + 1)) (nI 0)))) := hD
    refine lv_iload_n hx hb dX7_goSaying_83 rfl (lv_at hl 0 rfl) ?_
    exact rw_zret (wp := (fun u => mW h g cI u.1 hz u.2)) (post := (fun (r : Int32) (u : (Nat → Int32) × (Nat → Nat → Int32)) => r = nI 1 ∧ MF b pn xr xi pc q kq u.1 u.2 ∧ PR f t (i + 1) u.1 u.2)) (upd J 2 (nI (((rdZ f i).1) + 1)), updF G 3 (upd (G 3) (5 * (((rdZ f i).1) + 1)) (nI 0))) hx hb hr rfl hlocks hK hP hD hS (rfl) (⟨rfl, hF, PR_sep hR hf hs a2 a3⟩) dX7_goSaying_84

set_option maxHeartbeats 4000000 in
set_option maxRecDepth 100000 in
theorem c_X7_goSayC (l : Launch) (D : va_G) (h : Nat) (g : Nat → Nat) (cI : ClassId) (sz : Nat) (J : Nat → Int32) (hz : Int64) (G : Nat → Nat → Int32) (b : Nat → Nat → Nat) (pn xr xi : Nat) (pc : Nat → Int32) (q kq : RS) (hF : MF b pn xr xi pc q kq J G) (f : Nat → Nat) (t : Nat → Nat → Nat) (i : Nat) (hf : flt f i = i) (hR : PR f t i J G) (hj9 : f i < 127) (hs : (rdZ f i).1 < 4) (hN : ¬ rdO (rdZ f i) (f i) = true) : WI l yX7_goSaying (wA yX7_goSaying cX7_goSaying 4 (some .boolean)) ({ frames := 0, cells := 0, slots := 0, locals := 0 }) D (iTys cI) (mW h g cI J hz G) sz [.ref h, .int (nI (f i))] (fun (r : Int32) (u : (Nat → Int32) × (Nat → Nat → Int32)) => r = nI 0 ∧ MF b pn xr xi pc q kq u.1 u.2) (fun u => mW h g cI u.1 hz u.2) := by
  refine rw_startI (by decide) (Nat.le_of_ble_eq_true rfl) ?_
  intro p e s m args below meth c ls A F hP hK hD hA hS hl
  obtain ⟨hx, hb, hr, hlocks, hml, hown, hts⟩ := F
  have hown : s.vm.findClass RX7 = some m.cls := hown
  have hl : lv_has ls 4 [(0, .ref h), (1, .int (nI (f i)))] := hl
  have hlen := PR_len hR hf hs
  obtain ⟨i1, i2, i3, i4, i5, i6⟩ := pInv_at f t i hf
  obtain ⟨j1, j2, j3, j4⟩ := i2 hs
  obtain ⟨r1, r2⟩ := (rej hN).1 hs
  have r3 : ¬ (f i = 115 ∨ f i = 108) → (rdZ f i).2.2 = 0 ∨ ((rdZ f i).1 = 3 ∧ ¬ f i = 59) ∨ (¬ (rdZ f i).1 = 3 ∧ ¬ f i = 44) := fun y => (r2 y).elim Or.inl (fun y => Or.inr (clo_no y))
  refine lv_iconst (v := nI 5) hx hb dX7_goSaying_0 (by decide) ?_
  refine lv_aload_n hx hb dX7_goSaying_1 rfl (lv_at hl 0 rfl) ?_
  refine va_get (D := D) (ci := 7) (v := .int (nI ((rdZ f i).1))) (C := RX7) (T := TX7) (N := 22) hx hb hts iX7 hown hK hP 0 rfl rfl 2 (by decide) (hts _ mg_464) (fun _ h9 => h9) (congrArg (fun z => some (Value.int z)) hR.1) dX7_goSaying_2 ?_
  refine n_imul hx hb dX7_goSaying_5 ?_
  refine lv_istore_n (lv' := [(2, .int (nI (5 * ((rdZ f i).1)))), (0, .ref h), (1, .int (nI (f i)))]) hx hb dX7_goSaying_6 rfl hl (by decide) rfl (fun ls hl => ?_)
  refine lv_iload_n hx hb dX7_goSaying_7 rfl (lv_at hl 2 rfl) ?_
  refine lv_bipush (v := nI 44) hx hb dX7_goSaying_8 (by decide) ?_
  refine j_icmp_eq (tgt := 19) hx hb dX7_goSaying_10 (by decide) (nI_toInt (by omega)) (nI_toInt (by decide)) (fun c_1 => ?_) (fun c_1 => ?_)
  · refine lv_aload_n hx hb dX7_goSaying_19 rfl (lv_at hl 1 rfl) ?_
    refine va_get (D := D) (ci := 7) (v := .ref (g 3)) (C := RX7) (T := TX7) (N := 22) hx hb hts iX7 hown hK hP 0 rfl rfl 3 (by decide) (hts _ mg_465) (fun _ h9 => h9) rfl dX7_goSaying_20 ?_
    refine lv_iload_n hx hb dX7_goSaying_23 rfl (lv_at hl 0 rfl) ?_
    refine n_aldi hx hb hK hP 2 0 rfl rfl (by omega) (by decide) (v := nI ((rdZ f i).2.2)) (hlen) dX7_goSaying_24 ?_
    refine j_if_le (tgt := 59) hx hb dX7_goSaying_25 (by decide) (nI_toInt (by omega)) (fun c_2 => ?_) (fun c_2 => ?_)
    · refine lv_iconst (v := nI 0) hx hb dX7_goSaying_59 (by decide) ?_
      refine lv_istore_n (lv' := [(3, .int (nI 0)), (2, .int (nI (5 * ((rdZ f i).1)))), (0, .ref h), (1, .int (nI (f i)))]) hx hb dX7_goSaying_60 rfl hl (by decide) rfl (fun ls hl => ?_)
      refine lv_aload_n hx hb dX7_goSaying_61 rfl (lv_at hl 2 rfl) ?_
      refine lv_dup hx hb dX7_goSaying_62 rfl ?_
      refine va_get (D := D) (ci := 7) (v := .int (nI ((rdZ f i).1))) (C := RX7) (T := TX7) (N := 22) hx hb hts iX7 hown hK hP 0 rfl rfl 2 (by decide) (hts _ mg_464) (fun _ h9 => h9) (congrArg (fun z => some (Value.int z)) hR.1) dX7_goSaying_63 ?_
      refine lv_iconst (v := nI 1) hx hb dX7_goSaying_66 (by decide) ?_
      refine n_iadd hx hb dX7_goSaying_67 ?_
      refine va_put (D := D) (ci := 7) (v := .int (nI (((rdZ f i).1) + 1))) (ty := .int) (C := RX7) (T := TX7) (N := 22) hx hb hts iX7 tyX7 tyX7_ok nmX7 hown hK hP hD hS 0 rfl rfl 2 (by decide) (hts _ mg_464) (fun _ h9 => h9) rfl (tyX7_ok 2 (by decide)) rfl rfl (Nat.le_of_ble_eq_true rfl) dX7_goSaying_68 (fun H locs hP hD hS => ?_)
      have hP : va_P D vwCl (mW h g cI (upd J 2 (nI (((rdZ f i).1) + 1))) hz G) H := hP
      have hD : va_D A (mW h g cI (upd J 2 (nI (((rdZ f i).1) + 1))) hz G) := hD
      refine lv_aload_n hx hb dX7_goSaying_71 rfl (lv_at hl 2 rfl) ?_
      refine va_get (D := D) (ci := 7) (v := .ref (g 3)) (C := RX7) (T := TX7) (N := 22) hx hb hts iX7 hown hK hP 0 rfl rfl 3 (by decide) (hts _ mg_465) (fun _ h9 => h9) rfl dX7_goSaying_72 ?_
      refine lv_iconst (v := nI 5) hx hb dX7_goSaying_75 (by decide) ?_
      refine lv_aload_n hx hb dX7_goSaying_76 rfl (lv_at hl 2 rfl) ?_
      refine va_get (D := D) (ci := 7) (v := .int (nI (((rdZ f i).1) + 1))) (C := RX7) (T := TX7) (N := 22) hx hb hts iX7 hown hK hP 0 rfl rfl 2 (by decide) (hts _ mg_464) (fun _ h9 => h9) (congrArg (fun z => some (Value.int z)) rfl) dX7_goSaying_77 ?_
      refine n_imul hx hb dX7_goSaying_80 ?_
      refine lv_iconst (v := nI 0) hx hb dX7_goSaying_81 (by decide) ?_
      refine n_asti hx hb hK hP hD hS 2 0 rfl rfl (by omega) (by decide) dX7_goSaying_82 (fun H locs hP hD hS => ?_)
      have hP : va_P D vwCl (mW h g cI (upd J 2 (nI (((rdZ f i).1) + 1))) hz (updF G 3 (upd (G 3) (5 * (((rdZ f i).1) + 1)) (nI 0)))) H := hP
      have hD : va_D A (mW h g cI (upd J 2 (nI (((rdZ f i).1) + 1))) hz (updF G 3 (upd (G 3) (5 * (((rdZ f i).1) + 1)) (nI 0)))) := hD
      refine lv_iload_n hx hb dX7_goSaying_83 rfl (lv_at hl 0 rfl) ?_
      exact rw_zret (wp := (fun u => mW h g cI u.1 hz u.2)) (post := (fun (r : Int32) (u : (Nat → Int32) × (Nat → Nat → Int32)) => r = nI 0 ∧ MF b pn xr xi pc q kq u.1 u.2)) (upd J 2 (nI (((rdZ f i).1) + 1)), updF G 3 (upd (G 3) (5 * (((rdZ f i).1) + 1)) (nI 0))) hx hb hr rfl hlocks hK hP hD hS (rfl) (⟨rfl, hF⟩) dX7_goSaying_84
    · refine lv_iload_n hx hb dX7_goSaying_28 rfl (lv_at hl 2 rfl) ?_
      refine lv_bipush (v := nI 59) hx hb dX7_goSaying_29 (by decide) ?_
      refine j_icmp_ne (tgt := 38) hx hb dX7_goSaying_31 (by decide) (nI_toInt (by omega)) (nI_toInt (by decide)) (fun c_3 => ?_) (fun c_3 => ?_)
      · refine lv_iconst (v := nI 0) hx hb dX7_goSaying_38 (by decide) ?_
        refine lv_aload_n hx hb dX7_goSaying_39 rfl (lv_at hl 1 rfl) ?_
        refine va_get (D := D) (ci := 7) (v := .int (nI ((rdZ f i).1))) (C := RX7) (T := TX7) (N := 22) hx hb hts iX7 hown hK hP 0 rfl rfl 2 (by decide) (hts _ mg_464) (fun _ h9 => h9) (congrArg (fun z => some (Value.int z)) hR.1) dX7_goSaying_40 ?_
        refine lv_iconst (v := nI 3) hx hb dX7_goSaying_43 (by decide) ?_
        refine j_icmp_ne (tgt := 51) hx hb dX7_goSaying_44 (by decide) (nI_toInt (by omega)) (nI_toInt (by decide)) (fun c_4 => absurd c_4 (by omega)) (fun c_4 => ?_)
        refine lv_iconst (v := nI 1) hx hb dX7_goSaying_47 (by decide) ?_
        refine lv_goto (tgt := 52) hx hb dX7_goSaying_48 (by decide) ?_
        refine j_icmp_ne (tgt := 59) hx hb dX7_goSaying_52 (by decide) (nI_toInt (by decide)) (nI_toInt (by decide)) (fun c_5 => ?_) (fun c_5 => absurd c_5 (by omega))
        refine lv_iconst (v := nI 0) hx hb dX7_goSaying_59 (by decide) ?_
        refine lv_istore_n (lv' := [(3, .int (nI 0)), (2, .int (nI (5 * ((rdZ f i).1)))), (0, .ref h), (1, .int (nI (f i)))]) hx hb dX7_goSaying_60 rfl hl (by decide) rfl (fun ls hl => ?_)
        refine lv_aload_n hx hb dX7_goSaying_61 rfl (lv_at hl 2 rfl) ?_
        refine lv_dup hx hb dX7_goSaying_62 rfl ?_
        refine va_get (D := D) (ci := 7) (v := .int (nI ((rdZ f i).1))) (C := RX7) (T := TX7) (N := 22) hx hb hts iX7 hown hK hP 0 rfl rfl 2 (by decide) (hts _ mg_464) (fun _ h9 => h9) (congrArg (fun z => some (Value.int z)) hR.1) dX7_goSaying_63 ?_
        refine lv_iconst (v := nI 1) hx hb dX7_goSaying_66 (by decide) ?_
        refine n_iadd hx hb dX7_goSaying_67 ?_
        refine va_put (D := D) (ci := 7) (v := .int (nI (((rdZ f i).1) + 1))) (ty := .int) (C := RX7) (T := TX7) (N := 22) hx hb hts iX7 tyX7 tyX7_ok nmX7 hown hK hP hD hS 0 rfl rfl 2 (by decide) (hts _ mg_464) (fun _ h9 => h9) rfl (tyX7_ok 2 (by decide)) rfl rfl (Nat.le_of_ble_eq_true rfl) dX7_goSaying_68 (fun H locs hP hD hS => ?_)
        have hP : va_P D vwCl (mW h g cI (upd J 2 (nI (((rdZ f i).1) + 1))) hz G) H := hP
        have hD : va_D A (mW h g cI (upd J 2 (nI (((rdZ f i).1) + 1))) hz G) := hD
        refine lv_aload_n hx hb dX7_goSaying_71 rfl (lv_at hl 2 rfl) ?_
        refine va_get (D := D) (ci := 7) (v := .ref (g 3)) (C := RX7) (T := TX7) (N := 22) hx hb hts iX7 hown hK hP 0 rfl rfl 3 (by decide) (hts _ mg_465) (fun _ h9 => h9) rfl dX7_goSaying_72 ?_
        refine lv_iconst (v := nI 5) hx hb dX7_goSaying_75 (by decide) ?_
        refine lv_aload_n hx hb dX7_goSaying_76 rfl (lv_at hl 2 rfl) ?_
        refine va_get (D := D) (ci := 7) (v := .int (nI (((rdZ f i).1) + 1))) (C := RX7) (T := TX7) (N := 22) hx hb hts iX7 hown hK hP 0 rfl rfl 2 (by decide) (hts _ mg_464) (fun _ h9 => h9) (congrArg (fun z => some (Value.int z)) rfl) dX7_goSaying_77 ?_
        refine n_imul hx hb dX7_goSaying_80 ?_
        refine lv_iconst (v := nI 0) hx hb dX7_goSaying_81 (by decide) ?_
        refine n_asti hx hb hK hP hD hS 2 0 rfl rfl (by omega) (by decide) dX7_goSaying_82 (fun H locs hP hD hS => ?_)
        have hP : va_P D vwCl (mW h g cI (upd J 2 (nI (((rdZ f i).1) + 1))) hz (updF G 3 (upd (G 3) (5 * (((rdZ f i).1) + 1)) (nI 0)))) H := hP
        have hD : va_D A (mW h g cI (upd J 2 (nI (((rdZ f i).1) + 1))) hz (updF G 3 (upd (G 3) (5 * (((rdZ f i).1) + 1)) (nI 0)))) := hD
        refine lv_iload_n hx hb dX7_goSaying_83 rfl (lv_at hl 0 rfl) ?_
        exact rw_zret (wp := (fun u => mW h g cI u.1 hz u.2)) (post := (fun (r : Int32) (u : (Nat → Int32) × (Nat → Nat → Int32)) => r = nI 0 ∧ MF b pn xr xi pc q kq u.1 u.2)) (upd J 2 (nI (((rdZ f i).1) + 1)), updF G 3 (upd (G 3) (5 * (((rdZ f i).1) + 1)) (nI 0))) hx hb hr rfl hlocks hK hP hD hS (rfl) (⟨rfl, hF⟩) dX7_goSaying_84
      · refine lv_iconst (v := nI 1) hx hb dX7_goSaying_34 (by decide) ?_
        refine lv_goto (tgt := 39) hx hb dX7_goSaying_35 (by decide) ?_
        refine lv_aload_n hx hb dX7_goSaying_39 rfl (lv_at hl 1 rfl) ?_
        refine va_get (D := D) (ci := 7) (v := .int (nI ((rdZ f i).1))) (C := RX7) (T := TX7) (N := 22) hx hb hts iX7 hown hK hP 0 rfl rfl 2 (by decide) (hts _ mg_464) (fun _ h9 => h9) (congrArg (fun z => some (Value.int z)) hR.1) dX7_goSaying_40 ?_
        refine lv_iconst (v := nI 3) hx hb dX7_goSaying_43 (by decide) ?_
        refine j_icmp_ne (tgt := 51) hx hb dX7_goSaying_44 (by decide) (nI_toInt (by omega)) (nI_toInt (by decide)) (fun c_6 => ?_) (fun c_6 => absurd c_6 (by omega))
        refine lv_iconst (v := nI 0) hx hb dX7_goSaying_51 (by decide) ?_
        refine j_icmp_ne (tgt := 59) hx hb dX7_goSaying_52 (by decide) (nI_toInt (by decide)) (nI_toInt (by decide)) (fun c_7 => ?_) (fun c_7 => absurd c_7 (by omega))
        refine lv_iconst (v := nI 0) hx hb dX7_goSaying_59 (by decide) ?_
        refine lv_istore_n (lv' := [(3, .int (nI 0)), (2, .int (nI (5 * ((rdZ f i).1)))), (0, .ref h), (1, .int (nI (f i)))]) hx hb dX7_goSaying_60 rfl hl (by decide) rfl (fun ls hl => ?_)
        refine lv_aload_n hx hb dX7_goSaying_61 rfl (lv_at hl 2 rfl) ?_
        refine lv_dup hx hb dX7_goSaying_62 rfl ?_
        refine va_get (D := D) (ci := 7) (v := .int (nI ((rdZ f i).1))) (C := RX7) (T := TX7) (N := 22) hx hb hts iX7 hown hK hP 0 rfl rfl 2 (by decide) (hts _ mg_464) (fun _ h9 => h9) (congrArg (fun z => some (Value.int z)) hR.1) dX7_goSaying_63 ?_
        refine lv_iconst (v := nI 1) hx hb dX7_goSaying_66 (by decide) ?_
        refine n_iadd hx hb dX7_goSaying_67 ?_
        refine va_put (D := D) (ci := 7) (v := .int (nI (((rdZ f i).1) + 1))) (ty := .int) (C := RX7) (T := TX7) (N := 22) hx hb hts iX7 tyX7 tyX7_ok nmX7 hown hK hP hD hS 0 rfl rfl 2 (by decide) (hts _ mg_464) (fun _ h9 => h9) rfl (tyX7_ok 2 (by decide)) rfl rfl (Nat.le_of_ble_eq_true rfl) dX7_goSaying_68 (fun H locs hP hD hS => ?_)
        have hP : va_P D vwCl (mW h g cI (upd J 2 (nI (((rdZ f i).1) + 1))) hz G) H := hP
        have hD : va_D A (mW h g cI (upd J 2 (nI (((rdZ f i).1) + 1))) hz G) := hD
        refine lv_aload_n hx hb dX7_goSaying_71 rfl (lv_at hl 2 rfl) ?_
        refine va_get (D := D) (ci := 7) (v := .ref (g 3)) (C := RX7) (T := TX7) (N := 22) hx hb hts iX7 hown hK hP 0 rfl rfl 3 (by decide) (hts _ mg_465) (fun _ h9 => h9) rfl dX7_goSaying_72 ?_
        refine lv_iconst (v := nI 5) hx hb dX7_goSaying_75 (by decide) ?_
        refine lv_aload_n hx hb dX7_goSaying_76 rfl (lv_at hl 2 rfl) ?_
        refine va_get (D := D) (ci := 7) (v := .int (nI (((rdZ f i).1) + 1))) (C := RX7) (T := TX7) (N := 22) hx hb hts iX7 hown hK hP 0 rfl rfl 2 (by decide) (hts _ mg_464) (fun _ h9 => h9) (congrArg (fun z => some (Value.int z)) rfl) dX7_goSaying_77 ?_
        refine n_imul hx hb dX7_goSaying_80 ?_
        refine lv_iconst (v := nI 0) hx hb dX7_goSaying_81 (by decide) ?_
        refine n_asti hx hb hK hP hD hS 2 0 rfl rfl (by omega) (by decide) dX7_goSaying_82 (fun H locs hP hD hS => ?_)
        have hP : va_P D vwCl (mW h g cI (upd J 2 (nI (((rdZ f i).1) + 1))) hz (updF G 3 (upd (G 3) (5 * (((rdZ f i).1) + 1)) (nI 0)))) H := hP
        have hD : va_D A (mW h g cI (upd J 2 (nI (((rdZ f i).1) + 1))) hz (updF G 3 (upd (G 3) (5 * (((rdZ f i).1) + 1)) (nI 0)))) := hD
        refine lv_iload_n hx hb dX7_goSaying_83 rfl (lv_at hl 0 rfl) ?_
        exact rw_zret (wp := (fun u => mW h g cI u.1 hz u.2)) (post := (fun (r : Int32) (u : (Nat → Int32) × (Nat → Nat → Int32)) => r = nI 0 ∧ MF b pn xr xi pc q kq u.1 u.2)) (upd J 2 (nI (((rdZ f i).1) + 1)), updF G 3 (upd (G 3) (5 * (((rdZ f i).1) + 1)) (nI 0))) hx hb hr rfl hlocks hK hP hD hS (rfl) (⟨rfl, hF⟩) dX7_goSaying_84
  · refine lv_iload_n hx hb dX7_goSaying_13 rfl (lv_at hl 2 rfl) ?_
    refine lv_bipush (v := nI 59) hx hb dX7_goSaying_14 (by decide) ?_
    refine j_icmp_ne (tgt := 85) hx hb dX7_goSaying_16 (by decide) (nI_toInt (by omega)) (nI_toInt (by decide)) (fun c_8 => ?_) (fun c_8 => ?_)
    · refine lv_iload_n hx hb dX7_goSaying_85 rfl (lv_at hl 2 rfl) ?_
      refine lv_bipush (v := nI 115) hx hb dX7_goSaying_86 (by decide) ?_
      refine j_icmp_eq (tgt := 97) hx hb dX7_goSaying_88 (by decide) (nI_toInt (by omega)) (nI_toInt (by decide)) (fun c_9 => ?_) (fun c_9 => ?_)
      · refine lv_aload_n hx hb dX7_goSaying_97 rfl (lv_at hl 1 rfl) ?_
        refine va_get (D := D) (ci := 7) (v := .ref (g 3)) (C := RX7) (T := TX7) (N := 22) hx hb hts iX7 hown hK hP 0 rfl rfl 3 (by decide) (hts _ mg_465) (fun _ h9 => h9) rfl dX7_goSaying_98 ?_
        refine lv_iload_n hx hb dX7_goSaying_101 rfl (lv_at hl 0 rfl) ?_
        refine n_aldi hx hb hK hP 2 0 rfl rfl (by omega) (by decide) (v := nI ((rdZ f i).2.2)) (hlen) dX7_goSaying_102 ?_
        refine lv_iconst (v := nI 4) hx hb dX7_goSaying_103 (by decide) ?_
        refine j_icmp_ne (tgt := 109) hx hb dX7_goSaying_104 (by decide) (nI_toInt (by omega)) (nI_toInt (by decide)) (fun c_10 => absurd c_10 (by omega)) (fun c_10 => ?_)
        refine lv_iconst (v := nI 0) hx hb dX7_goSaying_107 (by decide) ?_
        exact rw_zret (wp := (fun u => mW h g cI u.1 hz u.2)) (post := (fun (r : Int32) (u : (Nat → Int32) × (Nat → Nat → Int32)) => r = nI 0 ∧ MF b pn xr xi pc q kq u.1 u.2)) (J, G) hx hb hr rfl hlocks hK hP hD hS (rfl) (⟨rfl, hF⟩) dX7_goSaying_108
      · refine lv_iload_n hx hb dX7_goSaying_91 rfl (lv_at hl 2 rfl) ?_
        refine lv_bipush (v := nI 108) hx hb dX7_goSaying_92 (by decide) ?_
        refine j_icmp_ne (tgt := 107) hx hb dX7_goSaying_94 (by decide) (nI_toInt (by omega)) (nI_toInt (by decide)) (fun c_11 => ?_) (fun c_11 => ?_)
        · refine lv_iconst (v := nI 0) hx hb dX7_goSaying_107 (by decide) ?_
          exact rw_zret (wp := (fun u => mW h g cI u.1 hz u.2)) (post := (fun (r : Int32) (u : (Nat → Int32) × (Nat → Nat → Int32)) => r = nI 0 ∧ MF b pn xr xi pc q kq u.1 u.2)) (J, G) hx hb hr rfl hlocks hK hP hD hS (rfl) (⟨rfl, hF⟩) dX7_goSaying_108
        · refine lv_aload_n hx hb dX7_goSaying_97 rfl (lv_at hl 1 rfl) ?_
          refine va_get (D := D) (ci := 7) (v := .ref (g 3)) (C := RX7) (T := TX7) (N := 22) hx hb hts iX7 hown hK hP 0 rfl rfl 3 (by decide) (hts _ mg_465) (fun _ h9 => h9) rfl dX7_goSaying_98 ?_
          refine lv_iload_n hx hb dX7_goSaying_101 rfl (lv_at hl 0 rfl) ?_
          refine n_aldi hx hb hK hP 2 0 rfl rfl (by omega) (by decide) (v := nI ((rdZ f i).2.2)) (hlen) dX7_goSaying_102 ?_
          refine lv_iconst (v := nI 4) hx hb dX7_goSaying_103 (by decide) ?_
          refine j_icmp_ne (tgt := 109) hx hb dX7_goSaying_104 (by decide) (nI_toInt (by omega)) (nI_toInt (by decide)) (fun c_12 => absurd c_12 (by omega)) (fun c_12 => ?_)
          refine lv_iconst (v := nI 0) hx hb dX7_goSaying_107 (by decide) ?_
          exact rw_zret (wp := (fun u => mW h g cI u.1 hz u.2)) (post := (fun (r : Int32) (u : (Nat → Int32) × (Nat → Nat → Int32)) => r = nI 0 ∧ MF b pn xr xi pc q kq u.1 u.2)) (J, G) hx hb hr rfl hlocks hK hP hD hS (rfl) (⟨rfl, hF⟩) dX7_goSaying_108
    · refine lv_aload_n hx hb dX7_goSaying_19 rfl (lv_at hl 1 rfl) ?_
      refine va_get (D := D) (ci := 7) (v := .ref (g 3)) (C := RX7) (T := TX7) (N := 22) hx hb hts iX7 hown hK hP 0 rfl rfl 3 (by decide) (hts _ mg_465) (fun _ h9 => h9) rfl dX7_goSaying_20 ?_
      refine lv_iload_n hx hb dX7_goSaying_23 rfl (lv_at hl 0 rfl) ?_
      refine n_aldi hx hb hK hP 2 0 rfl rfl (by omega) (by decide) (v := nI ((rdZ f i).2.2)) (hlen) dX7_goSaying_24 ?_
      refine j_if_le (tgt := 59) hx hb dX7_goSaying_25 (by decide) (nI_toInt (by omega)) (fun c_13 => ?_) (fun c_13 => ?_)
      · refine lv_iconst (v := nI 0) hx hb dX7_goSaying_59 (by decide) ?_
        refine lv_istore_n (lv' := [(3, .int (nI 0)), (2, .int (nI (5 * ((rdZ f i).1)))), (0, .ref h), (1, .int (nI (f i)))]) hx hb dX7_goSaying_60 rfl hl (by decide) rfl (fun ls hl => ?_)
        refine lv_aload_n hx hb dX7_goSaying_61 rfl (lv_at hl 2 rfl) ?_
        refine lv_dup hx hb dX7_goSaying_62 rfl ?_
        refine va_get (D := D) (ci := 7) (v := .int (nI ((rdZ f i).1))) (C := RX7) (T := TX7) (N := 22) hx hb hts iX7 hown hK hP 0 rfl rfl 2 (by decide) (hts _ mg_464) (fun _ h9 => h9) (congrArg (fun z => some (Value.int z)) hR.1) dX7_goSaying_63 ?_
        refine lv_iconst (v := nI 1) hx hb dX7_goSaying_66 (by decide) ?_
        refine n_iadd hx hb dX7_goSaying_67 ?_
        refine va_put (D := D) (ci := 7) (v := .int (nI (((rdZ f i).1) + 1))) (ty := .int) (C := RX7) (T := TX7) (N := 22) hx hb hts iX7 tyX7 tyX7_ok nmX7 hown hK hP hD hS 0 rfl rfl 2 (by decide) (hts _ mg_464) (fun _ h9 => h9) rfl (tyX7_ok 2 (by decide)) rfl rfl (Nat.le_of_ble_eq_true rfl) dX7_goSaying_68 (fun H locs hP hD hS => ?_)
        have hP : va_P D vwCl (mW h g cI (upd J 2 (nI (((rdZ f i).1) + 1))) hz G) H := hP
        have hD : va_D A (mW h g cI (upd J 2 (nI (((rdZ f i).1) + 1))) hz G) := hD
        refine lv_aload_n hx hb dX7_goSaying_71 rfl (lv_at hl 2 rfl) ?_
        refine va_get (D := D) (ci := 7) (v := .ref (g 3)) (C := RX7) (T := TX7) (N := 22) hx hb hts iX7 hown hK hP 0 rfl rfl 3 (by decide) (hts _ mg_465) (fun _ h9 => h9) rfl dX7_goSaying_72 ?_
        refine lv_iconst (v := nI 5) hx hb dX7_goSaying_75 (by decide) ?_
        refine lv_aload_n hx hb dX7_goSaying_76 rfl (lv_at hl 2 rfl) ?_
        refine va_get (D := D) (ci := 7) (v := .int (nI (((rdZ f i).1) + 1))) (C := RX7) (T := TX7) (N := 22) hx hb hts iX7 hown hK hP 0 rfl rfl 2 (by decide) (hts _ mg_464) (fun _ h9 => h9) (congrArg (fun z => some (Value.int z)) rfl) dX7_goSaying_77 ?_
        refine n_imul hx hb dX7_goSaying_80 ?_
        refine lv_iconst (v := nI 0) hx hb dX7_goSaying_81 (by decide) ?_
        refine n_asti hx hb hK hP hD hS 2 0 rfl rfl (by omega) (by decide) dX7_goSaying_82 (fun H locs hP hD hS => ?_)
        have hP : va_P D vwCl (mW h g cI (upd J 2 (nI (((rdZ f i).1) + 1))) hz (updF G 3 (upd (G 3) (5 * (((rdZ f i).1) + 1)) (nI 0)))) H := hP
        have hD : va_D A (mW h g cI (upd J 2 (nI (((rdZ f i).1) + 1))) hz (updF G 3 (upd (G 3) (5 * (((rdZ f i).1) + 1)) (nI 0)))) := hD
        refine lv_iload_n hx hb dX7_goSaying_83 rfl (lv_at hl 0 rfl) ?_
        exact rw_zret (wp := (fun u => mW h g cI u.1 hz u.2)) (post := (fun (r : Int32) (u : (Nat → Int32) × (Nat → Nat → Int32)) => r = nI 0 ∧ MF b pn xr xi pc q kq u.1 u.2)) (upd J 2 (nI (((rdZ f i).1) + 1)), updF G 3 (upd (G 3) (5 * (((rdZ f i).1) + 1)) (nI 0))) hx hb hr rfl hlocks hK hP hD hS (rfl) (⟨rfl, hF⟩) dX7_goSaying_84
      · refine lv_iload_n hx hb dX7_goSaying_28 rfl (lv_at hl 2 rfl) ?_
        refine lv_bipush (v := nI 59) hx hb dX7_goSaying_29 (by decide) ?_
        refine j_icmp_ne (tgt := 38) hx hb dX7_goSaying_31 (by decide) (nI_toInt (by omega)) (nI_toInt (by decide)) (fun c_14 => ?_) (fun c_14 => ?_)
        · refine lv_iconst (v := nI 0) hx hb dX7_goSaying_38 (by decide) ?_
          refine lv_aload_n hx hb dX7_goSaying_39 rfl (lv_at hl 1 rfl) ?_
          refine va_get (D := D) (ci := 7) (v := .int (nI ((rdZ f i).1))) (C := RX7) (T := TX7) (N := 22) hx hb hts iX7 hown hK hP 0 rfl rfl 2 (by decide) (hts _ mg_464) (fun _ h9 => h9) (congrArg (fun z => some (Value.int z)) hR.1) dX7_goSaying_40 ?_
          refine lv_iconst (v := nI 3) hx hb dX7_goSaying_43 (by decide) ?_
          refine j_icmp_ne (tgt := 51) hx hb dX7_goSaying_44 (by decide) (nI_toInt (by omega)) (nI_toInt (by decide)) (fun c_15 => absurd c_15 (by omega)) (fun c_15 => ?_)
          refine lv_iconst (v := nI 1) hx hb dX7_goSaying_47 (by decide) ?_
          refine lv_goto (tgt := 52) hx hb dX7_goSaying_48 (by decide) ?_
          refine j_icmp_ne (tgt := 59) hx hb dX7_goSaying_52 (by decide) (nI_toInt (by decide)) (nI_toInt (by decide)) (fun c_16 => ?_) (fun c_16 => absurd c_16 (by omega))
          refine lv_iconst (v := nI 0) hx hb dX7_goSaying_59 (by decide) ?_
          refine lv_istore_n (lv' := [(3, .int (nI 0)), (2, .int (nI (5 * ((rdZ f i).1)))), (0, .ref h), (1, .int (nI (f i)))]) hx hb dX7_goSaying_60 rfl hl (by decide) rfl (fun ls hl => ?_)
          refine lv_aload_n hx hb dX7_goSaying_61 rfl (lv_at hl 2 rfl) ?_
          refine lv_dup hx hb dX7_goSaying_62 rfl ?_
          refine va_get (D := D) (ci := 7) (v := .int (nI ((rdZ f i).1))) (C := RX7) (T := TX7) (N := 22) hx hb hts iX7 hown hK hP 0 rfl rfl 2 (by decide) (hts _ mg_464) (fun _ h9 => h9) (congrArg (fun z => some (Value.int z)) hR.1) dX7_goSaying_63 ?_
          refine lv_iconst (v := nI 1) hx hb dX7_goSaying_66 (by decide) ?_
          refine n_iadd hx hb dX7_goSaying_67 ?_
          refine va_put (D := D) (ci := 7) (v := .int (nI (((rdZ f i).1) + 1))) (ty := .int) (C := RX7) (T := TX7) (N := 22) hx hb hts iX7 tyX7 tyX7_ok nmX7 hown hK hP hD hS 0 rfl rfl 2 (by decide) (hts _ mg_464) (fun _ h9 => h9) rfl (tyX7_ok 2 (by decide)) rfl rfl (Nat.le_of_ble_eq_true rfl) dX7_goSaying_68 (fun H locs hP hD hS => ?_)
          have hP : va_P D vwCl (mW h g cI (upd J 2 (nI (((rdZ f i).1) + 1))) hz G) H := hP
          have hD : va_D A (mW h g cI (upd J 2 (nI (((rdZ f i).1) + 1))) hz G) := hD
          refine lv_aload_n hx hb dX7_goSaying_71 rfl (lv_at hl 2 rfl) ?_
          refine va_get (D := D) (ci := 7) (v := .ref (g 3)) (C := RX7) (T := TX7) (N := 22) hx hb hts iX7 hown hK hP 0 rfl rfl 3 (by decide) (hts _ mg_465) (fun _ h9 => h9) rfl dX7_goSaying_72 ?_
          refine lv_iconst (v := nI 5) hx hb dX7_goSaying_75 (by decide) ?_
          refine lv_aload_n hx hb dX7_goSaying_76 rfl (lv_at hl 2 rfl) ?_
          refine va_get (D := D) (ci := 7) (v := .int (nI (((rdZ f i).1) + 1))) (C := RX7) (T := TX7) (N := 22) hx hb hts iX7 hown hK hP 0 rfl rfl 2 (by decide) (hts _ mg_464) (fun _ h9 => h9) (congrArg (fun z => some (Value.int z)) rfl) dX7_goSaying_77 ?_
          refine n_imul hx hb dX7_goSaying_80 ?_
          refine lv_iconst (v := nI 0) hx hb dX7_goSaying_81 (by decide) ?_
          refine n_asti hx hb hK hP hD hS 2 0 rfl rfl (by omega) (by decide) dX7_goSaying_82 (fun H locs hP hD hS => ?_)
          have hP : va_P D vwCl (mW h g cI (upd J 2 (nI (((rdZ f i).1) + 1))) hz (updF G 3 (upd (G 3) (5 * (((rdZ f i).1) + 1)) (nI 0)))) H := hP
          have hD : va_D A (mW h g cI (upd J 2 (nI (((rdZ f i).1) + 1))) hz (updF G 3 (upd (G 3) (5 * (((rdZ f i).1) + 1)) (nI 0)))) := hD
          refine lv_iload_n hx hb dX7_goSaying_83 rfl (lv_at hl 0 rfl) ?_
          exact rw_zret (wp := (fun u => mW h g cI u.1 hz u.2)) (post := (fun (r : Int32) (u : (Nat → Int32) × (Nat → Nat → Int32)) => r = nI 0 ∧ MF b pn xr xi pc q kq u.1 u.2)) (upd J 2 (nI (((rdZ f i).1) + 1)), updF G 3 (upd (G 3) (5 * (((rdZ f i).1) + 1)) (nI 0))) hx hb hr rfl hlocks hK hP hD hS (rfl) (⟨rfl, hF⟩) dX7_goSaying_84
        · refine lv_iconst (v := nI 1) hx hb dX7_goSaying_34 (by decide) ?_
          refine lv_goto (tgt := 39) hx hb dX7_goSaying_35 (by decide) ?_
          refine lv_aload_n hx hb dX7_goSaying_39 rfl (lv_at hl 1 rfl) ?_
          refine va_get (D := D) (ci := 7) (v := .int (nI ((rdZ f i).1))) (C := RX7) (T := TX7) (N := 22) hx hb hts iX7 hown hK hP 0 rfl rfl 2 (by decide) (hts _ mg_464) (fun _ h9 => h9) (congrArg (fun z => some (Value.int z)) hR.1) dX7_goSaying_40 ?_
          refine lv_iconst (v := nI 3) hx hb dX7_goSaying_43 (by decide) ?_
          refine j_icmp_ne (tgt := 51) hx hb dX7_goSaying_44 (by decide) (nI_toInt (by omega)) (nI_toInt (by decide)) (fun c_17 => ?_) (fun c_17 => absurd c_17 (by omega))
          refine lv_iconst (v := nI 0) hx hb dX7_goSaying_51 (by decide) ?_
          refine j_icmp_ne (tgt := 59) hx hb dX7_goSaying_52 (by decide) (nI_toInt (by decide)) (nI_toInt (by decide)) (fun c_18 => ?_) (fun c_18 => absurd c_18 (by omega))
          refine lv_iconst (v := nI 0) hx hb dX7_goSaying_59 (by decide) ?_
          refine lv_istore_n (lv' := [(3, .int (nI 0)), (2, .int (nI (5 * ((rdZ f i).1)))), (0, .ref h), (1, .int (nI (f i)))]) hx hb dX7_goSaying_60 rfl hl (by decide) rfl (fun ls hl => ?_)
          refine lv_aload_n hx hb dX7_goSaying_61 rfl (lv_at hl 2 rfl) ?_
          refine lv_dup hx hb dX7_goSaying_62 rfl ?_
          refine va_get (D := D) (ci := 7) (v := .int (nI ((rdZ f i).1))) (C := RX7) (T := TX7) (N := 22) hx hb hts iX7 hown hK hP 0 rfl rfl 2 (by decide) (hts _ mg_464) (fun _ h9 => h9) (congrArg (fun z => some (Value.int z)) hR.1) dX7_goSaying_63 ?_
          refine lv_iconst (v := nI 1) hx hb dX7_goSaying_66 (by decide) ?_
          refine n_iadd hx hb dX7_goSaying_67 ?_
          refine va_put (D := D) (ci := 7) (v := .int (nI (((rdZ f i).1) + 1))) (ty := .int) (C := RX7) (T := TX7) (N := 22) hx hb hts iX7 tyX7 tyX7_ok nmX7 hown hK hP hD hS 0 rfl rfl 2 (by decide) (hts _ mg_464) (fun _ h9 => h9) rfl (tyX7_ok 2 (by decide)) rfl rfl (Nat.le_of_ble_eq_true rfl) dX7_goSaying_68 (fun H locs hP hD hS => ?_)
          have hP : va_P D vwCl (mW h g cI (upd J 2 (nI (((rdZ f i).1) + 1))) hz G) H := hP
          have hD : va_D A (mW h g cI (upd J 2 (nI (((rdZ f i).1) + 1))) hz G) := hD
          refine lv_aload_n hx hb dX7_goSaying_71 rfl (lv_at hl 2 rfl) ?_
          refine va_get (D := D) (ci := 7) (v := .ref (g 3)) (C := RX7) (T := TX7) (N := 22) hx hb hts iX7 hown hK hP 0 rfl rfl 3 (by decide) (hts _ mg_465) (fun _ h9 => h9) rfl dX7_goSaying_72 ?_
          refine lv_iconst (v := nI 5) hx hb dX7_goSaying_75 (by decide) ?_
          refine lv_aload_n hx hb dX7_goSaying_76 rfl (lv_at hl 2 rfl) ?_
          refine va_get (D := D) (ci := 7) (v := .int (nI (((rdZ f i).1) + 1))) (C := RX7) (T := TX7) (N := 22) hx hb hts iX7 hown hK hP 0 rfl rfl 2 (by decide) (hts _ mg_464) (fun _ h9 => h9) (congrArg (fun z => some (Value.int z)) rfl) dX7_goSaying_77 ?_
          refine n_imul hx hb dX7_goSaying_80 ?_
          refine lv_iconst (v := nI 0) hx hb dX7_goSaying_81 (by decide) ?_
          refine n_asti hx hb hK hP hD hS 2 0 rfl rfl (by omega) (by decide) dX7_goSaying_82 (fun H locs hP hD hS => ?_)
          have hP : va_P D vwCl (mW h g cI (upd J 2 (nI (((rdZ f i).1) + 1))) hz (updF G 3 (upd (G 3) (5 * (((rdZ f i).1) + 1)) (nI 0)))) H := hP
          have hD : va_D A (mW h g cI (upd J 2 (nI (((rdZ f i).1) + 1))) hz (updF G 3 (upd (G 3) (5 * (((rdZ f i).1) + 1)) (nI 0)))) := hD
          refine lv_iload_n hx hb dX7_goSaying_83 rfl (lv_at hl 0 rfl) ?_
          exact rw_zret (wp := (fun u => mW h g cI u.1 hz u.2)) (post := (fun (r : Int32) (u : (Nat → Int32) × (Nat → Nat → Int32)) => r = nI 0 ∧ MF b pn xr xi pc q kq u.1 u.2)) (upd J 2 (nI (((rdZ f i).1) + 1)), updF G 3 (upd (G 3) (5 * (((rdZ f i).1) + 1)) (nI 0))) hx hb hr rfl hlocks hK hP hD hS (rfl) (⟨rfl, hF⟩) dX7_goSaying_84

set_option maxHeartbeats 4000000 in
set_option maxRecDepth 100000 in
theorem c_X7_goTapD (l : Launch) (D : va_G) (h : Nat) (g : Nat → Nat) (cI : ClassId) (sz : Nat) (J : Nat → Int32) (hz : Int64) (G : Nat → Nat → Int32) (b : Nat → Nat → Nat) (pn xr xi : Nat) (pc : Nat → Int32) (q kq : RS) (hF : MF b pn xr xi pc q kq J G) (f : Nat → Nat) (t : Nat → Nat → Nat) (i : Nat) (hf : flt f i = i) (hR : PR f t i J G) (hj9 : f i < 127) (hs : ¬ (rdZ f i).1 < 4) (a2 : (rdZ f i).2.2 = 0) (a3 : knN (f i) < 5) : WI l yX7_goTap (wA yX7_goTap cX7_goTap 3 (some .boolean)) ({ frames := 1, cells := 0, slots := 0, locals := 25 }) D (iTys cI) (mW h g cI J hz G) sz [.ref h, .int (nI (f i))] (fun (r : Int32) (u : (Nat → Int32) × (Nat → Nat → Int32)) => r = nI 1 ∧ MF b pn xr xi pc q kq u.1 u.2 ∧ PR f t (i + 1) u.1 u.2) (fun u => mW h g cI u.1 hz u.2) := by
  refine rw_startI (by decide) (Nat.le_of_ble_eq_true rfl) ?_
  intro p e s m args below meth c ls A F hP hK hD hA hS hl
  obtain ⟨hx, hb, hr, hlocks, hml, hown, hts⟩ := F
  have hown : s.vm.findClass RX7 = some m.cls := hown
  have hl : lv_has ls 3 [(0, .ref h), (1, .int (nI (f i)))] := hl
  have hs4 := hR.2.2.1
  rw [if_neg hs] at hs4
  obtain ⟨i1, i2, i3, i4, i5, i6⟩ := pInv_at f t i hf
  obtain ⟨k1, k2, k3, k4, k5⟩ := i5 (by omega)
  refine lv_aload_n hx hb dX7_goTap_0 rfl (lv_at hl 0 rfl) ?_
  refine va_get (D := D) (ci := 7) (v := .int (nI ((rdZ f i).2.2))) (C := RX7) (T := TX7) (N := 22) hx hb hts iX7 hown hK hP 0 rfl rfl 6 (by decide) (hts _ mg_468) (fun _ h9 => h9) (congrArg (fun z => some (Value.int z)) hs4) dX7_goTap_1 ?_
  refine lv_istore_n (lv' := [(2, .int (nI ((rdZ f i).2.2))), (0, .ref h), (1, .int (nI (f i)))]) hx hb dX7_goTap_4 rfl hl (by decide) rfl (fun ls hl => ?_)
  refine lv_aload_n hx hb dX7_goTap_5 rfl (lv_at hl 1 rfl) ?_
  refine lv_aload_n hx hb dX7_goTap_6 rfl (lv_at hl 1 rfl) ?_
  refine va_get (D := D) (ci := 7) (v := .int (nI ((rdZ f i).2.2))) (C := RX7) (T := TX7) (N := 22) hx hb hts iX7 hown hK hP 0 rfl rfl 6 (by decide) (hts _ mg_468) (fun _ h9 => h9) (congrArg (fun z => some (Value.int z)) hs4) dX7_goTap_7 ?_
  refine lv_iconst (v := nI 1) hx hb dX7_goTap_10 (by decide) ?_
  refine n_iadd hx hb dX7_goTap_11 ?_
  refine lv_iconst (v := nI 3) hx hb dX7_goTap_12 (by decide) ?_
  refine n_irem hx hb dX7_goTap_13 (by omega) (by omega) (by omega) ?_
  refine n_top (y := nI 1) (congrArg nI (show ((rdZ f i).2.2 + 1) % 3 = 1 by omega)) ?_
  refine va_put (D := D) (ci := 7) (v := .int (nI 1)) (ty := .int) (C := RX7) (T := TX7) (N := 22) hx hb hts iX7 tyX7 tyX7_ok nmX7 hown hK hP hD hS 0 rfl rfl 6 (by decide) (hts _ mg_468) (fun _ h9 => h9) rfl (tyX7_ok 6 (by decide)) rfl rfl (Nat.le_of_ble_eq_true rfl) dX7_goTap_14 (fun H locs hP hD hS => ?_)
  have hP : va_P D vwCl (mW h g cI (upd J 6 (nI 1)) hz G) H := hP
  have hD : va_D A (mW h g cI (upd J 6 (nI 1)) hz G) := hD
  refine lv_iload_n hx hb dX7_goTap_17 rfl (lv_at hl 0 rfl) ?_
  refine j_if_ne (tgt := 50) hx hb dX7_goTap_18 (by decide) (nI_toInt (by omega)) (fun c_1 => absurd c_1 (by omega)) (fun c_1 => ?_)
  refine lv_aload_n hx hb dX7_goTap_21 rfl (lv_at hl 1 rfl) ?_
  refine va_get (D := D) (ci := 7) (v := .ref (g 4)) (C := RX7) (T := TX7) (N := 22) hx hb hts iX7 hown hK hP 0 rfl rfl 4 (by decide) (hts _ mg_466) (fun _ h9 => h9) rfl dX7_goTap_22 ?_
  refine lv_iconst (v := nI 4) hx hb dX7_goTap_25 (by decide) ?_
  refine lv_aload_n hx hb dX7_goTap_26 rfl (lv_at hl 1 rfl) ?_
  refine va_get (D := D) (ci := 7) (v := .int (nI ((rdZ f i).2.1))) (C := RX7) (T := TX7) (N := 22) hx hb hts iX7 hown hK hP 0 rfl rfl 5 (by decide) (hts _ mg_467) (fun _ h9 => h9) (congrArg (fun z => some (Value.int z)) hR.2.1) dX7_goTap_27 ?_
  refine n_imul hx hb dX7_goTap_30 ?_
  refine lv_iload_n hx hb dX7_goTap_31 rfl (lv_at hl 2 rfl) ?_
  refine ro_iS (n := 1) (As := [.int (nI (f i))]) ⟨hx, hb, hml, hown, hts⟩ (c_X7_kbyA l D (f i) a3) (cwS 1 hts (gS mg_557 mg_558 mg_8 mg_559) rfl rfl rfl vd_X7_kindBy ⟨Nat.le_of_ble_eq_true rfl, Nat.le_of_ble_eq_true rfl⟩)  (hK.sub [] rfl) (fun k q h => by simp at h) rfl hl.1 rfl (Nat.le_of_ble_eq_true rfl) dX7_goTap_32 ⟨Nat.zero_le _, Nat.zero_le _⟩ ?_
  refine n_asti hx hb hK hP hD hS 3 0 rfl rfl (by omega) (by decide) dX7_goTap_35 (fun H locs hP hD hS => ?_)
  have hP : va_P D vwCl (mW h g cI (upd J 6 (nI 1)) hz (updF G 4 (upd (G 4) (4 * ((rdZ f i).2.1)) (nI (knN (f i)))))) H := hP
  have hD : va_D A (mW h g cI (upd J 6 (nI 1)) hz (updF G 4 (upd (G 4) (4 * ((rdZ f i).2.1)) (nI (knN (f i)))))) := hD
  refine lv_iload_n hx hb dX7_goTap_36 rfl (lv_at hl 2 rfl) ?_
  refine ro_iS (n := 1) (As := [.int (nI (f i))]) ⟨hx, hb, hml, hown, hts⟩ (c_X7_kbyA l D (f i) a3) (cwS 1 hts (gS mg_557 mg_558 mg_8 mg_559) rfl rfl rfl vd_X7_kindBy ⟨Nat.le_of_ble_eq_true rfl, Nat.le_of_ble_eq_true rfl⟩)  (hK.sub [] rfl) (fun k q h => by simp at h) rfl hl.1 rfl (Nat.le_of_ble_eq_true rfl) dX7_goTap_37 ⟨Nat.zero_le _, Nat.zero_le _⟩ ?_
  refine lv_iconst (v := (-1)) hx hb dX7_goTap_40 (by decide) ?_
  refine j_icmp_eq (tgt := 48) hx hb dX7_goTap_41 (by decide) (nI_toInt (by omega)) (show ((-1) : Int32).toInt = -1 from by decide) (fun c_2 => absurd c_2 (by omega)) (fun c_2 => ?_)
  refine lv_iconst (v := nI 1) hx hb dX7_goTap_44 (by decide) ?_
  refine lv_goto (tgt := 49) hx hb dX7_goTap_45 (by decide) ?_
  exact rw_zret (wp := (fun u => mW h g cI u.1 hz u.2)) (post := (fun (r : Int32) (u : (Nat → Int32) × (Nat → Nat → Int32)) => r = nI 1 ∧ MF b pn xr xi pc q kq u.1 u.2 ∧ PR f t (i + 1) u.1 u.2)) (upd J 6 (nI 1), updF G 4 (upd (G 4) (4 * ((rdZ f i).2.1)) (nI (knN (f i))))) hx hb hr rfl hlocks hK hP hD hS (rfl) (⟨rfl, hF, PR_kind hR hs a2⟩) dX7_goTap_49

set_option maxHeartbeats 4000000 in
set_option maxRecDepth 100000 in
theorem c_X7_goTapE (l : Launch) (D : va_G) (h : Nat) (g : Nat → Nat) (cI : ClassId) (sz : Nat) (J : Nat → Int32) (hz : Int64) (G : Nat → Nat → Int32) (b : Nat → Nat → Nat) (pn xr xi : Nat) (pc : Nat → Int32) (q kq : RS) (hF : MF b pn xr xi pc q kq J G) (f : Nat → Nat) (t : Nat → Nat → Nat) (i : Nat) (hf : flt f i = i) (hR : PR f t i J G) (hj9 : f i < 127) (hs : ¬ (rdZ f i).1 < 4) (a2 : (rdZ f i).2.2 = 1) (a3 : 48 ≤ f i ∧ f i < 52) : WI l yX7_goTap (wA yX7_goTap cX7_goTap 3 (some .boolean)) ({ frames := 1, cells := 0, slots := 0, locals := 25 }) D (iTys cI) (mW h g cI J hz G) sz [.ref h, .int (nI (f i))] (fun (r : Int32) (u : (Nat → Int32) × (Nat → Nat → Int32)) => r = nI 1 ∧ MF b pn xr xi pc q kq u.1 u.2 ∧ PR f t (i + 1) u.1 u.2) (fun u => mW h g cI u.1 hz u.2) := by
  refine rw_startI (by decide) (Nat.le_of_ble_eq_true rfl) ?_
  intro p e s m args below meth c ls A F hP hK hD hA hS hl
  obtain ⟨hx, hb, hr, hlocks, hml, hown, hts⟩ := F
  have hown : s.vm.findClass RX7 = some m.cls := hown
  have hl : lv_has ls 3 [(0, .ref h), (1, .int (nI (f i)))] := hl
  have hs4 := hR.2.2.1
  rw [if_neg hs] at hs4
  obtain ⟨i1, i2, i3, i4, i5, i6⟩ := pInv_at f t i hf
  obtain ⟨k1, k2, k3, k4, k5⟩ := i5 (by omega)
  refine lv_aload_n hx hb dX7_goTap_0 rfl (lv_at hl 0 rfl) ?_
  refine va_get (D := D) (ci := 7) (v := .int (nI ((rdZ f i).2.2))) (C := RX7) (T := TX7) (N := 22) hx hb hts iX7 hown hK hP 0 rfl rfl 6 (by decide) (hts _ mg_468) (fun _ h9 => h9) (congrArg (fun z => some (Value.int z)) hs4) dX7_goTap_1 ?_
  refine lv_istore_n (lv' := [(2, .int (nI ((rdZ f i).2.2))), (0, .ref h), (1, .int (nI (f i)))]) hx hb dX7_goTap_4 rfl hl (by decide) rfl (fun ls hl => ?_)
  refine lv_aload_n hx hb dX7_goTap_5 rfl (lv_at hl 1 rfl) ?_
  refine lv_aload_n hx hb dX7_goTap_6 rfl (lv_at hl 1 rfl) ?_
  refine va_get (D := D) (ci := 7) (v := .int (nI ((rdZ f i).2.2))) (C := RX7) (T := TX7) (N := 22) hx hb hts iX7 hown hK hP 0 rfl rfl 6 (by decide) (hts _ mg_468) (fun _ h9 => h9) (congrArg (fun z => some (Value.int z)) hs4) dX7_goTap_7 ?_
  refine lv_iconst (v := nI 1) hx hb dX7_goTap_10 (by decide) ?_
  refine n_iadd hx hb dX7_goTap_11 ?_
  refine lv_iconst (v := nI 3) hx hb dX7_goTap_12 (by decide) ?_
  refine n_irem hx hb dX7_goTap_13 (by omega) (by omega) (by omega) ?_
  refine n_top (y := nI 2) (congrArg nI (show ((rdZ f i).2.2 + 1) % 3 = 2 by omega)) ?_
  refine va_put (D := D) (ci := 7) (v := .int (nI 2)) (ty := .int) (C := RX7) (T := TX7) (N := 22) hx hb hts iX7 tyX7 tyX7_ok nmX7 hown hK hP hD hS 0 rfl rfl 6 (by decide) (hts _ mg_468) (fun _ h9 => h9) rfl (tyX7_ok 6 (by decide)) rfl rfl (Nat.le_of_ble_eq_true rfl) dX7_goTap_14 (fun H locs hP hD hS => ?_)
  have hP : va_P D vwCl (mW h g cI (upd J 6 (nI 2)) hz G) H := hP
  have hD : va_D A (mW h g cI (upd J 6 (nI 2)) hz G) := hD
  refine lv_iload_n hx hb dX7_goTap_17 rfl (lv_at hl 0 rfl) ?_
  refine j_if_ne (tgt := 50) hx hb dX7_goTap_18 (by decide) (nI_toInt (by omega)) (fun c_1 => ?_) (fun c_1 => absurd c_1 (by omega))
  refine lv_iload_n hx hb dX7_goTap_50 rfl (lv_at hl 0 rfl) ?_
  refine lv_iconst (v := nI 1) hx hb dX7_goTap_51 (by decide) ?_
  refine j_icmp_ne (tgt := 94) hx hb dX7_goTap_52 (by decide) (nI_toInt (by omega)) (nI_toInt (by decide)) (fun c_2 => absurd c_2 (by omega)) (fun c_2 => ?_)
  refine lv_aload_n hx hb dX7_goTap_55 rfl (lv_at hl 1 rfl) ?_
  refine va_get (D := D) (ci := 7) (v := .ref (g 4)) (C := RX7) (T := TX7) (N := 22) hx hb hts iX7 hown hK hP 0 rfl rfl 4 (by decide) (hts _ mg_466) (fun _ h9 => h9) rfl dX7_goTap_56 ?_
  refine lv_iconst (v := nI 4) hx hb dX7_goTap_59 (by decide) ?_
  refine lv_aload_n hx hb dX7_goTap_60 rfl (lv_at hl 1 rfl) ?_
  refine va_get (D := D) (ci := 7) (v := .int (nI ((rdZ f i).2.1))) (C := RX7) (T := TX7) (N := 22) hx hb hts iX7 hown hK hP 0 rfl rfl 5 (by decide) (hts _ mg_467) (fun _ h9 => h9) (congrArg (fun z => some (Value.int z)) hR.2.1) dX7_goTap_61 ?_
  refine n_imul hx hb dX7_goTap_64 ?_
  refine lv_iconst (v := nI 1) hx hb dX7_goTap_65 (by decide) ?_
  refine n_iadd hx hb dX7_goTap_66 ?_
  refine lv_iload_n hx hb dX7_goTap_67 rfl (lv_at hl 2 rfl) ?_
  refine lv_bipush (v := nI 48) hx hb dX7_goTap_68 (by decide) ?_
  refine n_isub hx hb dX7_goTap_70 (by omega) ?_
  refine n_asti hx hb hK hP hD hS 3 0 rfl rfl (by omega) (by decide) dX7_goTap_71 (fun H locs hP hD hS => ?_)
  have hP : va_P D vwCl (mW h g cI (upd J 6 (nI 2)) hz (updF G 4 (upd (G 4) ((4 * ((rdZ f i).2.1)) + 1) (nI ((f i) - 48))))) H := hP
  have hD : va_D A (mW h g cI (upd J 6 (nI 2)) hz (updF G 4 (upd (G 4) ((4 * ((rdZ f i).2.1)) + 1) (nI ((f i) - 48))))) := hD
  refine lv_aload_n hx hb dX7_goTap_72 rfl (lv_at hl 1 rfl) ?_
  refine lv_dup hx hb dX7_goTap_73 rfl ?_
  refine va_get (D := D) (ci := 7) (v := .int (nI ((rdZ f i).2.1))) (C := RX7) (T := TX7) (N := 22) hx hb hts iX7 hown hK hP 0 rfl rfl 5 (by decide) (hts _ mg_467) (fun _ h9 => h9) (congrArg (fun z => some (Value.int z)) hR.2.1) dX7_goTap_74 ?_
  refine lv_iconst (v := nI 1) hx hb dX7_goTap_77 (by decide) ?_
  refine n_iadd hx hb dX7_goTap_78 ?_
  refine va_put (D := D) (ci := 7) (v := .int (nI (((rdZ f i).2.1) + 1))) (ty := .int) (C := RX7) (T := TX7) (N := 22) hx hb hts iX7 tyX7 tyX7_ok nmX7 hown hK hP hD hS 0 rfl rfl 5 (by decide) (hts _ mg_467) (fun _ h9 => h9) rfl (tyX7_ok 5 (by decide)) rfl rfl (Nat.le_of_ble_eq_true rfl) dX7_goTap_79 (fun H locs hP hD hS => ?_)
  have hP : va_P D vwCl (mW h g cI (upd (upd J 6 (nI 2)) 5 (nI (((rdZ f i).2.1) + 1))) hz (updF G 4 (upd (G 4) ((4 * ((rdZ f i).2.1)) + 1) (nI ((f i) - 48))))) H := hP
  have hD : va_D A (mW h g cI (upd (upd J 6 (nI 2)) 5 (nI (((rdZ f i).2.1) + 1))) hz (updF G 4 (upd (G 4) ((4 * ((rdZ f i).2.1)) + 1) (nI ((f i) - 48))))) := hD
  refine lv_iload_n hx hb dX7_goTap_82 rfl (lv_at hl 2 rfl) ?_
  refine lv_i2l (v := lN (f i)) hx hb dX7_goTap_83 (nI_l (by omega)) ?_
  refine lv_ldc2 (v := (48 : Int64)) hx hb hown (hts _ mg_560) dX7_goTap_84 ?_
  refine lv_ldc2 (v := (51 : Int64)) hx hb hown (hts _ mg_561) dX7_goTap_87 ?_
  have e1 : (lN (f i) : Int64).toInt = ((f i : Nat) : Int) := lN_toInt (by omega)
  have e2 : ((48 : Int64) : Int64).toInt = 48 := (by decide)
  have e3 : ((51 : Int64) : Int64).toInt = 51 := (by decide)
  refine ro_iS (n := 3) (As := [.long (lN (f i)), .long (48 : Int64), .long (51 : Int64)]) ⟨hx, hb, hml, hown, hts⟩ (c_X7_inT l D (lN (f i)) ((48 : Int64)) ((51 : Int64)) (by constructor <;> omega)) (cwS 3 hts (gS mg_534 mg_535 mg_8 mg_536) rfl rfl rfl vd_X7_in ⟨Nat.le_of_ble_eq_true rfl, Nat.le_of_ble_eq_true rfl⟩)  (hK.sub [] rfl) (fun k q h => by simp at h) rfl hl.1 rfl (Nat.le_of_ble_eq_true rfl) dX7_goTap_90 ⟨Nat.zero_le _, Nat.zero_le _⟩ ?_
  exact rw_zret (wp := (fun u => mW h g cI u.1 hz u.2)) (post := (fun (r : Int32) (u : (Nat → Int32) × (Nat → Nat → Int32)) => r = nI 1 ∧ MF b pn xr xi pc q kq u.1 u.2 ∧ PR f t (i + 1) u.1 u.2)) (upd (upd J 6 (nI 2)) 5 (nI (((rdZ f i).2.1) + 1)), updF G 4 (upd (G 4) ((4 * ((rdZ f i).2.1)) + 1) (nI ((f i) - 48)))) hx hb hr rfl hlocks hK hP hD hS (rfl) (⟨rfl, hF, PR_say hR hs a2⟩) dX7_goTap_93

set_option maxHeartbeats 4000000 in
set_option maxRecDepth 100000 in
theorem c_X7_goTapF (l : Launch) (D : va_G) (h : Nat) (g : Nat → Nat) (cI : ClassId) (sz : Nat) (J : Nat → Int32) (hz : Int64) (G : Nat → Nat → Int32) (b : Nat → Nat → Nat) (pn xr xi : Nat) (pc : Nat → Int32) (q kq : RS) (hF : MF b pn xr xi pc q kq J G) (f : Nat → Nat) (t : Nat → Nat → Nat) (i : Nat) (hf : flt f i = i) (hR : PR f t i J G) (hj9 : f i < 127) (hs : ¬ (rdZ f i).1 < 4) (a2 : ¬ (rdZ f i).2.2 = 0) (a4 : ¬ (rdZ f i).2.2 = 1) (a3 : f i = 44 ∧ (rdZ f i).2.1 < 3) : WI l yX7_goTap (wA yX7_goTap cX7_goTap 3 (some .boolean)) ({ frames := 1, cells := 0, slots := 0, locals := 25 }) D (iTys cI) (mW h g cI J hz G) sz [.ref h, .int (nI (f i))] (fun (r : Int32) (u : (Nat → Int32) × (Nat → Nat → Int32)) => r = nI 1 ∧ MF b pn xr xi pc q kq u.1 u.2 ∧ PR f t (i + 1) u.1 u.2) (fun u => mW h g cI u.1 hz u.2) := by
  refine rw_startI (by decide) (Nat.le_of_ble_eq_true rfl) ?_
  intro p e s m args below meth c ls A F hP hK hD hA hS hl
  obtain ⟨hx, hb, hr, hlocks, hml, hown, hts⟩ := F
  have hown : s.vm.findClass RX7 = some m.cls := hown
  have hl : lv_has ls 3 [(0, .ref h), (1, .int (nI (f i)))] := hl
  have hs4 := hR.2.2.1
  rw [if_neg hs] at hs4
  obtain ⟨i1, i2, i3, i4, i5, i6⟩ := pInv_at f t i hf
  obtain ⟨k1, k2, k3, k4, k5⟩ := i5 (by omega)
  refine lv_aload_n hx hb dX7_goTap_0 rfl (lv_at hl 0 rfl) ?_
  refine va_get (D := D) (ci := 7) (v := .int (nI ((rdZ f i).2.2))) (C := RX7) (T := TX7) (N := 22) hx hb hts iX7 hown hK hP 0 rfl rfl 6 (by decide) (hts _ mg_468) (fun _ h9 => h9) (congrArg (fun z => some (Value.int z)) hs4) dX7_goTap_1 ?_
  refine lv_istore_n (lv' := [(2, .int (nI ((rdZ f i).2.2))), (0, .ref h), (1, .int (nI (f i)))]) hx hb dX7_goTap_4 rfl hl (by decide) rfl (fun ls hl => ?_)
  refine lv_aload_n hx hb dX7_goTap_5 rfl (lv_at hl 1 rfl) ?_
  refine lv_aload_n hx hb dX7_goTap_6 rfl (lv_at hl 1 rfl) ?_
  refine va_get (D := D) (ci := 7) (v := .int (nI ((rdZ f i).2.2))) (C := RX7) (T := TX7) (N := 22) hx hb hts iX7 hown hK hP 0 rfl rfl 6 (by decide) (hts _ mg_468) (fun _ h9 => h9) (congrArg (fun z => some (Value.int z)) hs4) dX7_goTap_7 ?_
  refine lv_iconst (v := nI 1) hx hb dX7_goTap_10 (by decide) ?_
  refine n_iadd hx hb dX7_goTap_11 ?_
  refine lv_iconst (v := nI 3) hx hb dX7_goTap_12 (by decide) ?_
  refine n_irem hx hb dX7_goTap_13 (by omega) (by omega) (by omega) ?_
  refine n_top (y := nI 0) (congrArg nI (show ((rdZ f i).2.2 + 1) % 3 = 0 by omega)) ?_
  refine va_put (D := D) (ci := 7) (v := .int (nI 0)) (ty := .int) (C := RX7) (T := TX7) (N := 22) hx hb hts iX7 tyX7 tyX7_ok nmX7 hown hK hP hD hS 0 rfl rfl 6 (by decide) (hts _ mg_468) (fun _ h9 => h9) rfl (tyX7_ok 6 (by decide)) rfl rfl (Nat.le_of_ble_eq_true rfl) dX7_goTap_14 (fun H locs hP hD hS => ?_)
  have hP : va_P D vwCl (mW h g cI (upd J 6 (nI 0)) hz G) H := hP
  have hD : va_D A (mW h g cI (upd J 6 (nI 0)) hz G) := hD
  refine lv_iload_n hx hb dX7_goTap_17 rfl (lv_at hl 0 rfl) ?_
  refine j_if_ne (tgt := 50) hx hb dX7_goTap_18 (by decide) (nI_toInt (by omega)) (fun c_1 => ?_) (fun c_1 => absurd c_1 (by omega))
  refine lv_iload_n hx hb dX7_goTap_50 rfl (lv_at hl 0 rfl) ?_
  refine lv_iconst (v := nI 1) hx hb dX7_goTap_51 (by decide) ?_
  refine j_icmp_ne (tgt := 94) hx hb dX7_goTap_52 (by decide) (nI_toInt (by omega)) (nI_toInt (by decide)) (fun c_2 => ?_) (fun c_2 => absurd c_2 (by omega))
  refine lv_iload_n hx hb dX7_goTap_94 rfl (lv_at hl 2 rfl) ?_
  refine lv_bipush (v := nI 44) hx hb dX7_goTap_95 (by decide) ?_
  refine j_icmp_ne (tgt := 112) hx hb dX7_goTap_97 (by decide) (nI_toInt (by omega)) (nI_toInt (by decide)) (fun c_3 => absurd c_3 (by omega)) (fun c_3 => ?_)
  refine lv_aload_n hx hb dX7_goTap_100 rfl (lv_at hl 1 rfl) ?_
  refine va_get (D := D) (ci := 7) (v := .int (nI ((rdZ f i).2.1))) (C := RX7) (T := TX7) (N := 22) hx hb hts iX7 hown hK hP 0 rfl rfl 5 (by decide) (hts _ mg_467) (fun _ h9 => h9) (congrArg (fun z => some (Value.int z)) hR.2.1) dX7_goTap_101 ?_
  refine lv_iconst (v := nI 3) hx hb dX7_goTap_104 (by decide) ?_
  refine j_icmp_ge (tgt := 112) hx hb dX7_goTap_105 (by decide) (nI_toInt (by omega)) (nI_toInt (by decide)) (fun c_4 => absurd c_4 (by omega)) (fun c_4 => ?_)
  refine lv_iconst (v := nI 1) hx hb dX7_goTap_108 (by decide) ?_
  refine lv_goto (tgt := 113) hx hb dX7_goTap_109 (by decide) ?_
  exact rw_zret (wp := (fun u => mW h g cI u.1 hz u.2)) (post := (fun (r : Int32) (u : (Nat → Int32) × (Nat → Nat → Int32)) => r = nI 1 ∧ MF b pn xr xi pc q kq u.1 u.2 ∧ PR f t (i + 1) u.1 u.2)) (upd J 6 (nI 0), G) hx hb hr rfl hlocks hK hP hD hS (rfl) (⟨rfl, hF, PR_com hR hs a2 a4⟩) dX7_goTap_113

set_option maxHeartbeats 4000000 in
set_option maxRecDepth 100000 in
theorem c_X7_goTapR (l : Launch) (D : va_G) (h : Nat) (g : Nat → Nat) (cI : ClassId) (sz : Nat) (J : Nat → Int32) (hz : Int64) (G : Nat → Nat → Int32) (b : Nat → Nat → Nat) (pn xr xi : Nat) (pc : Nat → Int32) (q kq : RS) (hF : MF b pn xr xi pc q kq J G) (f : Nat → Nat) (t : Nat → Nat → Nat) (i : Nat) (hf : flt f i = i) (hR : PR f t i J G) (hj9 : f i < 127) (hs : ¬ (rdZ f i).1 < 4) (hN : ¬ rdO (rdZ f i) (f i) = true) : WI l yX7_goTap (wA yX7_goTap cX7_goTap 3 (some .boolean)) ({ frames := 1, cells := 0, slots := 0, locals := 25 }) D (iTys cI) (mW h g cI J hz G) sz [.ref h, .int (nI (f i))] (fun (r : Int32) (u : (Nat → Int32) × (Nat → Nat → Int32)) => r = nI 0 ∧ MF b pn xr xi pc q kq u.1 u.2) (fun u => mW h g cI u.1 hz u.2) := by
  refine rw_startI (by decide) (Nat.le_of_ble_eq_true rfl) ?_
  intro p e s m args below meth c ls A F hP hK hD hA hS hl
  obtain ⟨hx, hb, hr, hlocks, hml, hown, hts⟩ := F
  have hown : s.vm.findClass RX7 = some m.cls := hown
  have hl : lv_has ls 3 [(0, .ref h), (1, .int (nI (f i)))] := hl
  have hs4 := hR.2.2.1
  rw [if_neg hs] at hs4
  obtain ⟨i1, i2, i3, i4, i5, i6⟩ := pInv_at f t i hf
  obtain ⟨k1, k2, k3, k4, k5⟩ := i5 (by omega)
  obtain ⟨r1, r2, r3⟩ := (rej hN).2 hs
  refine lv_aload_n hx hb dX7_goTap_0 rfl (lv_at hl 0 rfl) ?_
  rcases (show (rdZ f i).2.2 = 0 ∨ (rdZ f i).2.2 = 1 ∨ (rdZ f i).2.2 = 2 by omega) with a7 | a7 | a7
  · refine va_get (D := D) (ci := 7) (v := .int (nI ((rdZ f i).2.2))) (C := RX7) (T := TX7) (N := 22) hx hb hts iX7 hown hK hP 0 rfl rfl 6 (by decide) (hts _ mg_468) (fun _ h9 => h9) (congrArg (fun z => some (Value.int z)) hs4) dX7_goTap_1 ?_
    refine lv_istore_n (lv' := [(2, .int (nI ((rdZ f i).2.2))), (0, .ref h), (1, .int (nI (f i)))]) hx hb dX7_goTap_4 rfl hl (by decide) rfl (fun ls hl => ?_)
    refine lv_aload_n hx hb dX7_goTap_5 rfl (lv_at hl 1 rfl) ?_
    refine lv_aload_n hx hb dX7_goTap_6 rfl (lv_at hl 1 rfl) ?_
    refine va_get (D := D) (ci := 7) (v := .int (nI ((rdZ f i).2.2))) (C := RX7) (T := TX7) (N := 22) hx hb hts iX7 hown hK hP 0 rfl rfl 6 (by decide) (hts _ mg_468) (fun _ h9 => h9) (congrArg (fun z => some (Value.int z)) hs4) dX7_goTap_7 ?_
    refine lv_iconst (v := nI 1) hx hb dX7_goTap_10 (by decide) ?_
    refine n_iadd hx hb dX7_goTap_11 ?_
    refine lv_iconst (v := nI 3) hx hb dX7_goTap_12 (by decide) ?_
    refine n_irem hx hb dX7_goTap_13 (by omega) (by omega) (by omega) ?_
    refine n_top (y := nI 1) (congrArg nI (show ((rdZ f i).2.2 + 1) % 3 = 1 by omega)) ?_
    refine va_put (D := D) (ci := 7) (v := .int (nI 1)) (ty := .int) (C := RX7) (T := TX7) (N := 22) hx hb hts iX7 tyX7 tyX7_ok nmX7 hown hK hP hD hS 0 rfl rfl 6 (by decide) (hts _ mg_468) (fun _ h9 => h9) rfl (tyX7_ok 6 (by decide)) rfl rfl (Nat.le_of_ble_eq_true rfl) dX7_goTap_14 (fun H locs hP hD hS => ?_)
    have hP : va_P D vwCl (mW h g cI (upd J 6 (nI 1)) hz G) H := hP
    have hD : va_D A (mW h g cI (upd J 6 (nI 1)) hz G) := hD
    refine lv_iload_n hx hb dX7_goTap_17 rfl (lv_at hl 0 rfl) ?_
    refine j_if_ne (tgt := 50) hx hb dX7_goTap_18 (by decide) (nI_toInt (by omega)) (fun c_1 => absurd c_1 (by omega)) (fun c_1 => ?_)
    refine lv_aload_n hx hb dX7_goTap_21 rfl (lv_at hl 1 rfl) ?_
    refine va_get (D := D) (ci := 7) (v := .ref (g 4)) (C := RX7) (T := TX7) (N := 22) hx hb hts iX7 hown hK hP 0 rfl rfl 4 (by decide) (hts _ mg_466) (fun _ h9 => h9) rfl dX7_goTap_22 ?_
    refine lv_iconst (v := nI 4) hx hb dX7_goTap_25 (by decide) ?_
    refine lv_aload_n hx hb dX7_goTap_26 rfl (lv_at hl 1 rfl) ?_
    refine va_get (D := D) (ci := 7) (v := .int (nI ((rdZ f i).2.1))) (C := RX7) (T := TX7) (N := 22) hx hb hts iX7 hown hK hP 0 rfl rfl 5 (by decide) (hts _ mg_467) (fun _ h9 => h9) (congrArg (fun z => some (Value.int z)) hR.2.1) dX7_goTap_27 ?_
    refine n_imul hx hb dX7_goTap_30 ?_
    refine lv_iload_n hx hb dX7_goTap_31 rfl (lv_at hl 2 rfl) ?_
    refine ro_iS (n := 1) (As := [.int (nI (f i))]) ⟨hx, hb, hml, hown, hts⟩ (c_X7_kbyB l D (f i) hj9 (r1 a7)) (cwS 1 hts (gS mg_557 mg_558 mg_8 mg_559) rfl rfl rfl vd_X7_kindBy ⟨Nat.le_of_ble_eq_true rfl, Nat.le_of_ble_eq_true rfl⟩)  (hK.sub [] rfl) (fun k q h => by simp at h) rfl hl.1 rfl (Nat.le_of_ble_eq_true rfl) dX7_goTap_32 ⟨Nat.zero_le _, Nat.zero_le _⟩ ?_
    refine n_asti hx hb hK hP hD hS 3 0 rfl rfl (by omega) (by decide) dX7_goTap_35 (fun H locs hP hD hS => ?_)
    have hP : va_P D vwCl (mW h g cI (upd J 6 (nI 1)) hz (updF G 4 (upd (G 4) (4 * ((rdZ f i).2.1)) (-1)))) H := hP
    have hD : va_D A (mW h g cI (upd J 6 (nI 1)) hz (updF G 4 (upd (G 4) (4 * ((rdZ f i).2.1)) (-1)))) := hD
    refine lv_iload_n hx hb dX7_goTap_36 rfl (lv_at hl 2 rfl) ?_
    refine ro_iS (n := 1) (As := [.int (nI (f i))]) ⟨hx, hb, hml, hown, hts⟩ (c_X7_kbyB l D (f i) hj9 (r1 a7)) (cwS 1 hts (gS mg_557 mg_558 mg_8 mg_559) rfl rfl rfl vd_X7_kindBy ⟨Nat.le_of_ble_eq_true rfl, Nat.le_of_ble_eq_true rfl⟩)  (hK.sub [] rfl) (fun k q h => by simp at h) rfl hl.1 rfl (Nat.le_of_ble_eq_true rfl) dX7_goTap_37 ⟨Nat.zero_le _, Nat.zero_le _⟩ ?_
    refine lv_iconst (v := (-1)) hx hb dX7_goTap_40 (by decide) ?_
    refine j_icmp_eq (tgt := 48) hx hb dX7_goTap_41 (by decide) (show ((-1) : Int32).toInt = -1 from by decide) (show ((-1) : Int32).toInt = -1 from by decide) (fun c_2 => ?_) (fun c_2 => absurd c_2 (by omega))
    refine lv_iconst (v := nI 0) hx hb dX7_goTap_48 (by decide) ?_
    exact rw_zret (wp := (fun u => mW h g cI u.1 hz u.2)) (post := (fun (r : Int32) (u : (Nat → Int32) × (Nat → Nat → Int32)) => r = nI 0 ∧ MF b pn xr xi pc q kq u.1 u.2)) (upd J 6 (nI 1), updF G 4 (upd (G 4) (4 * ((rdZ f i).2.1)) (-1))) hx hb hr rfl hlocks hK hP hD hS (rfl) (⟨rfl, hF⟩) dX7_goTap_49
  · refine va_get (D := D) (ci := 7) (v := .int (nI ((rdZ f i).2.2))) (C := RX7) (T := TX7) (N := 22) hx hb hts iX7 hown hK hP 0 rfl rfl 6 (by decide) (hts _ mg_468) (fun _ h9 => h9) (congrArg (fun z => some (Value.int z)) hs4) dX7_goTap_1 ?_
    refine lv_istore_n (lv' := [(2, .int (nI ((rdZ f i).2.2))), (0, .ref h), (1, .int (nI (f i)))]) hx hb dX7_goTap_4 rfl hl (by decide) rfl (fun ls hl => ?_)
    refine lv_aload_n hx hb dX7_goTap_5 rfl (lv_at hl 1 rfl) ?_
    refine lv_aload_n hx hb dX7_goTap_6 rfl (lv_at hl 1 rfl) ?_
    refine va_get (D := D) (ci := 7) (v := .int (nI ((rdZ f i).2.2))) (C := RX7) (T := TX7) (N := 22) hx hb hts iX7 hown hK hP 0 rfl rfl 6 (by decide) (hts _ mg_468) (fun _ h9 => h9) (congrArg (fun z => some (Value.int z)) hs4) dX7_goTap_7 ?_
    refine lv_iconst (v := nI 1) hx hb dX7_goTap_10 (by decide) ?_
    refine n_iadd hx hb dX7_goTap_11 ?_
    refine lv_iconst (v := nI 3) hx hb dX7_goTap_12 (by decide) ?_
    refine n_irem hx hb dX7_goTap_13 (by omega) (by omega) (by omega) ?_
    refine n_top (y := nI 2) (congrArg nI (show ((rdZ f i).2.2 + 1) % 3 = 2 by omega)) ?_
    refine va_put (D := D) (ci := 7) (v := .int (nI 2)) (ty := .int) (C := RX7) (T := TX7) (N := 22) hx hb hts iX7 tyX7 tyX7_ok nmX7 hown hK hP hD hS 0 rfl rfl 6 (by decide) (hts _ mg_468) (fun _ h9 => h9) rfl (tyX7_ok 6 (by decide)) rfl rfl (Nat.le_of_ble_eq_true rfl) dX7_goTap_14 (fun H locs hP hD hS => ?_)
    have hP : va_P D vwCl (mW h g cI (upd J 6 (nI 2)) hz G) H := hP
    have hD : va_D A (mW h g cI (upd J 6 (nI 2)) hz G) := hD
    refine lv_iload_n hx hb dX7_goTap_17 rfl (lv_at hl 0 rfl) ?_
    refine j_if_ne (tgt := 50) hx hb dX7_goTap_18 (by decide) (nI_toInt (by omega)) (fun c_3 => ?_) (fun c_3 => absurd c_3 (by omega))
    refine lv_iload_n hx hb dX7_goTap_50 rfl (lv_at hl 0 rfl) ?_
    refine lv_iconst (v := nI 1) hx hb dX7_goTap_51 (by decide) ?_
    refine j_icmp_ne (tgt := 94) hx hb dX7_goTap_52 (by decide) (nI_toInt (by omega)) (nI_toInt (by decide)) (fun c_4 => absurd c_4 (by omega)) (fun c_4 => ?_)
    refine lv_aload_n hx hb dX7_goTap_55 rfl (lv_at hl 1 rfl) ?_
    refine va_get (D := D) (ci := 7) (v := .ref (g 4)) (C := RX7) (T := TX7) (N := 22) hx hb hts iX7 hown hK hP 0 rfl rfl 4 (by decide) (hts _ mg_466) (fun _ h9 => h9) rfl dX7_goTap_56 ?_
    refine lv_iconst (v := nI 4) hx hb dX7_goTap_59 (by decide) ?_
    refine lv_aload_n hx hb dX7_goTap_60 rfl (lv_at hl 1 rfl) ?_
    refine va_get (D := D) (ci := 7) (v := .int (nI ((rdZ f i).2.1))) (C := RX7) (T := TX7) (N := 22) hx hb hts iX7 hown hK hP 0 rfl rfl 5 (by decide) (hts _ mg_467) (fun _ h9 => h9) (congrArg (fun z => some (Value.int z)) hR.2.1) dX7_goTap_61 ?_
    refine n_imul hx hb dX7_goTap_64 ?_
    refine lv_iconst (v := nI 1) hx hb dX7_goTap_65 (by decide) ?_
    refine n_iadd hx hb dX7_goTap_66 ?_
    refine lv_iload_n hx hb dX7_goTap_67 rfl (lv_at hl 2 rfl) ?_
    refine lv_bipush (v := nI 48) hx hb dX7_goTap_68 (by decide) ?_
    refine lv_isub hx hb dX7_goTap_70 ?_
    refine n_asti hx hb hK hP hD hS 3 0 rfl rfl (by omega) (by decide) dX7_goTap_71 (fun H locs hP hD hS => ?_)
    have hP : va_P D vwCl (mW h g cI (upd J 6 (nI 2)) hz (updF G 4 (upd (G 4) ((4 * ((rdZ f i).2.1)) + 1) (nI (f i) - nI 48)))) H := hP
    have hD : va_D A (mW h g cI (upd J 6 (nI 2)) hz (updF G 4 (upd (G 4) ((4 * ((rdZ f i).2.1)) + 1) (nI (f i) - nI 48)))) := hD
    refine lv_aload_n hx hb dX7_goTap_72 rfl (lv_at hl 1 rfl) ?_
    refine lv_dup hx hb dX7_goTap_73 rfl ?_
    refine va_get (D := D) (ci := 7) (v := .int (nI ((rdZ f i).2.1))) (C := RX7) (T := TX7) (N := 22) hx hb hts iX7 hown hK hP 0 rfl rfl 5 (by decide) (hts _ mg_467) (fun _ h9 => h9) (congrArg (fun z => some (Value.int z)) hR.2.1) dX7_goTap_74 ?_
    refine lv_iconst (v := nI 1) hx hb dX7_goTap_77 (by decide) ?_
    refine n_iadd hx hb dX7_goTap_78 ?_
    refine va_put (D := D) (ci := 7) (v := .int (nI (((rdZ f i).2.1) + 1))) (ty := .int) (C := RX7) (T := TX7) (N := 22) hx hb hts iX7 tyX7 tyX7_ok nmX7 hown hK hP hD hS 0 rfl rfl 5 (by decide) (hts _ mg_467) (fun _ h9 => h9) rfl (tyX7_ok 5 (by decide)) rfl rfl (Nat.le_of_ble_eq_true rfl) dX7_goTap_79 (fun H locs hP hD hS => ?_)
    have hP : va_P D vwCl (mW h g cI (upd (upd J 6 (nI 2)) 5 (nI (((rdZ f i).2.1) + 1))) hz (updF G 4 (upd (G 4) ((4 * ((rdZ f i).2.1)) + 1) (nI (f i) - nI 48)))) H := hP
    have hD : va_D A (mW h g cI (upd (upd J 6 (nI 2)) 5 (nI (((rdZ f i).2.1) + 1))) hz (updF G 4 (upd (G 4) ((4 * ((rdZ f i).2.1)) + 1) (nI (f i) - nI 48)))) := hD
    refine lv_iload_n hx hb dX7_goTap_82 rfl (lv_at hl 2 rfl) ?_
    refine lv_i2l (v := lN (f i)) hx hb dX7_goTap_83 (nI_l (by omega)) ?_
    refine lv_ldc2 (v := (48 : Int64)) hx hb hown (hts _ mg_560) dX7_goTap_84 ?_
    refine lv_ldc2 (v := (51 : Int64)) hx hb hown (hts _ mg_561) dX7_goTap_87 ?_
    have e1 : (lN (f i) : Int64).toInt = ((f i : Nat) : Int) := lN_toInt (by omega)
    have e2 : ((48 : Int64) : Int64).toInt = 48 := (by decide)
    have e3 : ((51 : Int64) : Int64).toInt = 51 := (by decide)
    refine ro_iS (n := 3) (As := [.long (lN (f i)), .long (48 : Int64), .long (51 : Int64)]) ⟨hx, hb, hml, hown, hts⟩ (c_X7_inF l D (lN (f i)) ((48 : Int64)) ((51 : Int64)) (fun z => by omega)) (cwS 3 hts (gS mg_534 mg_535 mg_8 mg_536) rfl rfl rfl vd_X7_in ⟨Nat.le_of_ble_eq_true rfl, Nat.le_of_ble_eq_true rfl⟩)  (hK.sub [] rfl) (fun k q h => by simp at h) rfl hl.1 rfl (Nat.le_of_ble_eq_true rfl) dX7_goTap_90 ⟨Nat.zero_le _, Nat.zero_le _⟩ ?_
    exact rw_zret (wp := (fun u => mW h g cI u.1 hz u.2)) (post := (fun (r : Int32) (u : (Nat → Int32) × (Nat → Nat → Int32)) => r = nI 0 ∧ MF b pn xr xi pc q kq u.1 u.2)) (upd (upd J 6 (nI 2)) 5 (nI (((rdZ f i).2.1) + 1)), updF G 4 (upd (G 4) ((4 * ((rdZ f i).2.1)) + 1) (nI (f i) - nI 48))) hx hb hr rfl hlocks hK hP hD hS (rfl) (⟨rfl, hF⟩) dX7_goTap_93
  · refine va_get (D := D) (ci := 7) (v := .int (nI ((rdZ f i).2.2))) (C := RX7) (T := TX7) (N := 22) hx hb hts iX7 hown hK hP 0 rfl rfl 6 (by decide) (hts _ mg_468) (fun _ h9 => h9) (congrArg (fun z => some (Value.int z)) hs4) dX7_goTap_1 ?_
    refine lv_istore_n (lv' := [(2, .int (nI ((rdZ f i).2.2))), (0, .ref h), (1, .int (nI (f i)))]) hx hb dX7_goTap_4 rfl hl (by decide) rfl (fun ls hl => ?_)
    refine lv_aload_n hx hb dX7_goTap_5 rfl (lv_at hl 1 rfl) ?_
    refine lv_aload_n hx hb dX7_goTap_6 rfl (lv_at hl 1 rfl) ?_
    refine va_get (D := D) (ci := 7) (v := .int (nI ((rdZ f i).2.2))) (C := RX7) (T := TX7) (N := 22) hx hb hts iX7 hown hK hP 0 rfl rfl 6 (by decide) (hts _ mg_468) (fun _ h9 => h9) (congrArg (fun z => some (Value.int z)) hs4) dX7_goTap_7 ?_
    refine lv_iconst (v := nI 1) hx hb dX7_goTap_10 (by decide) ?_
    refine n_iadd hx hb dX7_goTap_11 ?_
    refine lv_iconst (v := nI 3) hx hb dX7_goTap_12 (by decide) ?_
    refine n_irem hx hb dX7_goTap_13 (by omega) (by omega) (by omega) ?_
    refine n_top (y := nI 0) (congrArg nI (show ((rdZ f i).2.2 + 1) % 3 = 0 by omega)) ?_
    refine va_put (D := D) (ci := 7) (v := .int (nI 0)) (ty := .int) (C := RX7) (T := TX7) (N := 22) hx hb hts iX7 tyX7 tyX7_ok nmX7 hown hK hP hD hS 0 rfl rfl 6 (by decide) (hts _ mg_468) (fun _ h9 => h9) rfl (tyX7_ok 6 (by decide)) rfl rfl (Nat.le_of_ble_eq_true rfl) dX7_goTap_14 (fun H locs hP hD hS => ?_)
    have hP : va_P D vwCl (mW h g cI (upd J 6 (nI 0)) hz G) H := hP
    have hD : va_D A (mW h g cI (upd J 6 (nI 0)) hz G) := hD
    refine lv_iload_n hx hb dX7_goTap_17 rfl (lv_at hl 0 rfl) ?_
    refine j_if_ne (tgt := 50) hx hb dX7_goTap_18 (by decide) (nI_toInt (by omega)) (fun c_5 => ?_) (fun c_5 => absurd c_5 (by omega))
    refine lv_iload_n hx hb dX7_goTap_50 rfl (lv_at hl 0 rfl) ?_
    refine lv_iconst (v := nI 1) hx hb dX7_goTap_51 (by decide) ?_
    refine j_icmp_ne (tgt := 94) hx hb dX7_goTap_52 (by decide) (nI_toInt (by omega)) (nI_toInt (by decide)) (fun c_6 => ?_) (fun c_6 => absurd c_6 (by omega))
    refine lv_iload_n hx hb dX7_goTap_94 rfl (lv_at hl 2 rfl) ?_
    refine lv_bipush (v := nI 44) hx hb dX7_goTap_95 (by decide) ?_
    refine j_icmp_ne (tgt := 112) hx hb dX7_goTap_97 (by decide) (nI_toInt (by omega)) (nI_toInt (by decide)) (fun c_7 => ?_) (fun c_7 => ?_)
    · refine lv_iconst (v := nI 0) hx hb dX7_goTap_112 (by decide) ?_
      exact rw_zret (wp := (fun u => mW h g cI u.1 hz u.2)) (post := (fun (r : Int32) (u : (Nat → Int32) × (Nat → Nat → Int32)) => r = nI 0 ∧ MF b pn xr xi pc q kq u.1 u.2)) (upd J 6 (nI 0), G) hx hb hr rfl hlocks hK hP hD hS (rfl) (⟨rfl, hF⟩) dX7_goTap_113
    · refine lv_aload_n hx hb dX7_goTap_100 rfl (lv_at hl 1 rfl) ?_
      refine va_get (D := D) (ci := 7) (v := .int (nI ((rdZ f i).2.1))) (C := RX7) (T := TX7) (N := 22) hx hb hts iX7 hown hK hP 0 rfl rfl 5 (by decide) (hts _ mg_467) (fun _ h9 => h9) (congrArg (fun z => some (Value.int z)) hR.2.1) dX7_goTap_101 ?_
      refine lv_iconst (v := nI 3) hx hb dX7_goTap_104 (by decide) ?_
      refine j_icmp_ge (tgt := 112) hx hb dX7_goTap_105 (by decide) (nI_toInt (by omega)) (nI_toInt (by decide)) (fun c_8 => ?_) (fun c_8 => absurd c_8 (by omega))
      refine lv_iconst (v := nI 0) hx hb dX7_goTap_112 (by decide) ?_
      exact rw_zret (wp := (fun u => mW h g cI u.1 hz u.2)) (post := (fun (r : Int32) (u : (Nat → Int32) × (Nat → Nat → Int32)) => r = nI 0 ∧ MF b pn xr xi pc q kq u.1 u.2)) (upd J 6 (nI 0), G) hx hb hr rfl hlocks hK hP hD hS (rfl) (⟨rfl, hF⟩) dX7_goTap_113
