set_option maxHeartbeats 4000000 in
set_option maxRecDepth 100000 in
theorem law_c0 {p : Program} {e : Env} {s : State} {m : MethodId} {below : List Frame} {meth : Method} {c : Code} (l : Launch) {bb L0 : Nat} {xs : Nat → Int32} (hL : L0 ≤ 256) (C0 : lw_At p s m meth c bb L0 xs) (D : va_G) (cI cT cN : ClassId) (hK : va_K D vwCl (cTys cI cT cN) s) (a r k g : Nat → Nat) (h : Nat) (A : Nat → Prop) (hA : ∀ q : Nat, s.heap.size ≤ q → A q) (hbA : ¬ A bb) (j : Nat) (hj : 4 * j + 4 ≤ L0) (hN : LN p l e s m below meth c bb h a r k g cI cT cN D A j) (b : Nat → Nat → Nat) (pn : Nat) (pc : Nat → Int32) (rd : Nat × Nat × Nat) (B L : Nat → Int32) (q kq : RS) (xh xi xr : Nat) (J : Nat → Int32) (hz : Int64) (G : Nat → Nat → Int32) (hLI : LI b pn xr xi xh pc q kq j) (hSR : SR b B L) (hF : MF b pn xr xi pc q kq J G) (H : Heap) (locs : List Loc) (hP : va_P D vwCl (cW a r k cI cT cN xh xi xr pn pc rd B L q kq ++ mW h g cI J hz G) H) (hD : va_D A (cW a r k cI cT cN xh xi xr pn pc rd B L q kq ++ mW h g cI J hz G)) (hS : va_S A s.heap H locs) (ls : Array Slot) (hl : lv_has ls 4 [(0, .ref bb), (1, .ref (a 0)), (2, .ref h), (3, .int (nI (4 * j)))]) : W p l e room_1 s m #[Value.ref bb] below meth c H locs 600000 7302250 (lw_Z below #[Value.ref bb] s) (F0 m 132 ls []) := by
  obtain ⟨hx, hb, hr, hml, hown, htsL, hX, hbl, hlocks, hgv⟩ := id C0
  have hts : ∀ w ∈ wAll, w.before #[Value.ref bb] s = true := fun w h => htsL w (wAll_in h)
  have hnst : ∀ w ∈ wNst, w.before #[Value.ref bb] s = true := fun w h => htsL w (wNst_in w h)
  have hown : s.vm.findClass RL = some m.cls := hown
  obtain ⟨l1, l2, l3, l4, l5, l6, l7, l8⟩ := id hLI
  have hb4 := LI_b4 hLI
  have ht5 := l3.1
  rcases Decidable.em (inr (xs (4 * j + 1)) 1 127) with oc | oc
  · rcases Nat.lt_or_ge pn 30 with h30 | h30
    · refine lv_aload_n hx hb dL_law_132 rfl (lv_at hl 1 rfl) ?_
      refine lv_aload_n hx hb dL_law_133 rfl (lv_at hl 0 rfl) ?_
      refine lv_iload_n hx hb dL_law_134 rfl (lv_at hl 3 rfl) ?_
      refine lv_iconst (v := nI 1) hx hb dL_law_135 (by decide) ?_
      refine n_iadd hx hb dL_law_136 ?_
      refine n_sld hx hb hX hbl hbA hS (i := 4 * j + 1) (by omega) (by omega) dL_law_137 ?_
      refine rw_iV (X := []) (Y := (mW h g cI J hz G)) (n := 1) (As := [.int (xs (4 * j + 1))]) ⟨hx, hb, hml, hown, hts⟩ (c_X6_letterI l D a r k cI cT cN _ xh xi xr pn pc rd B L q kq (xs (4 * j + 1)) oc h30) (cwV 1 hts (gV mg_173 mg_174 mg_175 mg_1 mg_176) rfl rfl rfl vd_X6_letter ⟨Nat.le_of_ble_eq_true rfl, Nat.le_of_ble_eq_true rfl⟩) (va_recv hK hP (ci := 6) (q0 := 0) rfl rfl) hK hP hD hS hA rfl hl.1 rfl (Nat.le_of_ble_eq_true rfl) dL_law_138 ⟨Nat.le_of_ble_eq_true rfl, Nat.le_of_ble_eq_true rfl⟩ (fun r_3 u_1 H locs w_2 hP hD hS => ?_)
      refine n_top w_2 ?_
      have hP : va_P D vwCl ((cW a r k cI cT cN xh xi xr (pn + 1) (upd pc pn (xs (4 * j + 1))) rd B L q kq) ++ (mW h g cI J hz G)) H := hP
      have hD : va_D A ((cW a r k cI cT cN xh xi xr (pn + 1) (upd pc pn (xs (4 * j + 1))) rd B L q kq) ++ (mW h g cI J hz G)) := hD
      refine lv_aload_n hx hb dL_law_141 rfl (lv_at hl 2 rfl) ?_
      refine lv_aload_n hx hb dL_law_142 rfl (lv_at hl 0 rfl) ?_
      refine lv_iload_n hx hb dL_law_143 rfl (lv_at hl 3 rfl) ?_
      refine lv_iconst (v := nI 1) hx hb dL_law_144 (by decide) ?_
      refine n_iadd hx hb dL_law_145 ?_
      refine n_sld hx hb hX hbl hbA hS (i := 4 * j + 1) (by omega) (by omega) dL_law_146 ?_
      refine rw_iV (X := (cW a r k cI cT cN xh xi xr (pn + 1) (upd pc pn (xs (4 * j + 1))) rd B L q kq)) (Y := []) (n := 1) (As := [.int (xs (4 * j + 1))]) ⟨hx, hb, hml, hown, hts⟩ (c_X7_letterI l D h g cI _ J hz G b pn xr xi pc q kq hF l4 l3 (xs (4 * j + 1)) oc h30) (cwV 1 hts (gV mg_529 mg_530 mg_531 mg_8 mg_532) rfl rfl rfl vd_X7_letter ⟨Nat.le_of_ble_eq_true rfl, Nat.le_of_ble_eq_true rfl⟩) (va_recv hK hP (ci := 7) (q0 := 39) rfl rfl) (hK.sub [0] rfl) hP hD hS hA rfl hl.1 rfl (Nat.le_of_ble_eq_true rfl) dL_law_147 ⟨Nat.le_of_ble_eq_true rfl, Nat.le_of_ble_eq_true rfl⟩ (fun r_6 u_4 H locs w_5 hP hD hS => ?_)
      obtain ⟨e7, hF8⟩ := w_5
      refine n_top e7 ?_
      have hP : va_P D vwCl ((cW a r k cI cT cN xh xi xr (pn + 1) (upd pc pn (xs (4 * j + 1))) rd B L q kq) ++ (mW h g cI u_4.1 hz u_4.2)) H := hP
      have hD : va_D A ((cW a r k cI cT cN xh xi xr (pn + 1) (upd pc pn (xs (4 * j + 1))) rd B L q kq) ++ (mW h g cI u_4.1 hz u_4.2)) := hD
      refine j_icmp_eq (tgt := 718) hx hb dL_law_150 (by decide) rfl rfl (fun c_7 => ?_) (fun c_7 => absurd c_7 (fun z => z rfl))
      exact hN b (pn + 1) (upd pc pn (xs (4 * j + 1))) rd B L q kq xh xi xr u_4.1 hz u_4.2 (LI_letter hLI oc h30) (hSR) (hF8) _ _ hP hD hS _ (lv_sub hl [0, 1, 2, 3] rfl)
    · have h31 : pn = 30 := by omega
      refine lv_aload_n hx hb dL_law_132 rfl (lv_at hl 1 rfl) ?_
      refine lv_aload_n hx hb dL_law_133 rfl (lv_at hl 0 rfl) ?_
      refine lv_iload_n hx hb dL_law_134 rfl (lv_at hl 3 rfl) ?_
      refine lv_iconst (v := nI 1) hx hb dL_law_135 (by decide) ?_
      refine n_iadd hx hb dL_law_136 ?_
      refine n_sld hx hb hX hbl hbA hS (i := 4 * j + 1) (by omega) (by omega) dL_law_137 ?_
      refine rw_iV (X := []) (Y := (mW h g cI J hz G)) (n := 1) (As := [.int (xs (4 * j + 1))]) ⟨hx, hb, hml, hown, hts⟩ (c_X6_letterF l D a r k cI cT cN _ xh xi xr pn pc rd B L q kq (xs (4 * j + 1)) oc h31) (cwV 1 hts (gV mg_173 mg_174 mg_175 mg_1 mg_176) rfl rfl rfl vd_X6_letter ⟨Nat.le_of_ble_eq_true rfl, Nat.le_of_ble_eq_true rfl⟩) (va_recv hK hP (ci := 6) (q0 := 0) rfl rfl) hK hP hD hS hA rfl hl.1 rfl (Nat.le_of_ble_eq_true rfl) dL_law_138 ⟨Nat.le_of_ble_eq_true rfl, Nat.le_of_ble_eq_true rfl⟩ (fun r_10 u_8 H locs w_9 hP hD hS => ?_)
      refine n_top w_9 ?_
      have hP : va_P D vwCl ((cW a r k cI cT cN xh xi xr pn pc rd B L q kq) ++ (mW h g cI J hz G)) H := hP
      have hD : va_D A ((cW a r k cI cT cN xh xi xr pn pc rd B L q kq) ++ (mW h g cI J hz G)) := hD
      refine lv_aload_n hx hb dL_law_141 rfl (lv_at hl 2 rfl) ?_
      refine lv_aload_n hx hb dL_law_142 rfl (lv_at hl 0 rfl) ?_
      refine lv_iload_n hx hb dL_law_143 rfl (lv_at hl 3 rfl) ?_
      refine lv_iconst (v := nI 1) hx hb dL_law_144 (by decide) ?_
      refine n_iadd hx hb dL_law_145 ?_
      refine n_sld hx hb hX hbl hbA hS (i := 4 * j + 1) (by omega) (by omega) dL_law_146 ?_
      refine rw_iV (X := (cW a r k cI cT cN xh xi xr pn pc rd B L q kq)) (Y := []) (n := 1) (As := [.int (xs (4 * j + 1))]) ⟨hx, hb, hml, hown, hts⟩ (c_X7_letterF l D h g cI _ J hz G b pn xr xi pc q kq hF l4 l3 (xs (4 * j + 1)) oc h31) (cwV 1 hts (gV mg_529 mg_530 mg_531 mg_8 mg_532) rfl rfl rfl vd_X7_letter ⟨Nat.le_of_ble_eq_true rfl, Nat.le_of_ble_eq_true rfl⟩) (va_recv hK hP (ci := 7) (q0 := 39) rfl rfl) (hK.sub [0] rfl) hP hD hS hA rfl hl.1 rfl (Nat.le_of_ble_eq_true rfl) dL_law_147 ⟨Nat.le_of_ble_eq_true rfl, Nat.le_of_ble_eq_true rfl⟩ (fun r_13 u_11 H locs w_12 hP hD hS => ?_)
      obtain ⟨e7, hF8⟩ := w_12
      refine n_top e7 ?_
      have hP : va_P D vwCl ((cW a r k cI cT cN xh xi xr pn pc rd B L q kq) ++ (mW h g cI u_11.1 hz u_11.2)) H := hP
      have hD : va_D A ((cW a r k cI cT cN xh xi xr pn pc rd B L q kq) ++ (mW h g cI u_11.1 hz u_11.2)) := hD
      refine j_icmp_eq (tgt := 718) hx hb dL_law_150 (by decide) rfl rfl (fun c_14 => ?_) (fun c_14 => absurd c_14 (by omega))
      exact hN b pn pc rd B L q kq xh xi xr u_11.1 hz u_11.2 (LI_s hLI) (hSR) (hF8) _ _ hP hD hS _ (lv_sub hl [0, 1, 2, 3] rfl)
  · refine lv_aload_n hx hb dL_law_132 rfl (lv_at hl 1 rfl) ?_
    refine lv_aload_n hx hb dL_law_133 rfl (lv_at hl 0 rfl) ?_
    refine lv_iload_n hx hb dL_law_134 rfl (lv_at hl 3 rfl) ?_
    refine lv_iconst (v := nI 1) hx hb dL_law_135 (by decide) ?_
    refine n_iadd hx hb dL_law_136 ?_
    refine n_sld hx hb hX hbl hbA hS (i := 4 * j + 1) (by omega) (by omega) dL_law_137 ?_
    refine rw_iV (X := []) (Y := (mW h g cI J hz G)) (n := 1) (As := [.int (xs (4 * j + 1))]) ⟨hx, hb, hml, hown, hts⟩ (c_X6_letterO l D a r k cI cT cN _ xh xi xr pn pc rd B L q kq (xs (4 * j + 1)) oc) (cwV 1 hts (gV mg_173 mg_174 mg_175 mg_1 mg_176) rfl rfl rfl vd_X6_letter ⟨Nat.le_of_ble_eq_true rfl, Nat.le_of_ble_eq_true rfl⟩) (va_recv hK hP (ci := 6) (q0 := 0) rfl rfl) hK hP hD hS hA rfl hl.1 rfl (Nat.le_of_ble_eq_true rfl) dL_law_138 ⟨Nat.le_of_ble_eq_true rfl, Nat.le_of_ble_eq_true rfl⟩ (fun r_17 u_15 H locs w_16 hP hD hS => ?_)
    refine n_top w_16 ?_
    have hP : va_P D vwCl ((cW a r k cI cT cN xh xi xr pn pc rd B L q kq) ++ (mW h g cI J hz G)) H := hP
    have hD : va_D A ((cW a r k cI cT cN xh xi xr pn pc rd B L q kq) ++ (mW h g cI J hz G)) := hD
    refine lv_aload_n hx hb dL_law_141 rfl (lv_at hl 2 rfl) ?_
    refine lv_aload_n hx hb dL_law_142 rfl (lv_at hl 0 rfl) ?_
    refine lv_iload_n hx hb dL_law_143 rfl (lv_at hl 3 rfl) ?_
    refine lv_iconst (v := nI 1) hx hb dL_law_144 (by decide) ?_
    refine n_iadd hx hb dL_law_145 ?_
    refine n_sld hx hb hX hbl hbA hS (i := 4 * j + 1) (by omega) (by omega) dL_law_146 ?_
    refine rw_iV (X := (cW a r k cI cT cN xh xi xr pn pc rd B L q kq)) (Y := []) (n := 1) (As := [.int (xs (4 * j + 1))]) ⟨hx, hb, hml, hown, hts⟩ (c_X7_letterO l D h g cI _ J hz G b pn xr xi pc q kq hF l4 l3 (xs (4 * j + 1)) oc) (cwV 1 hts (gV mg_529 mg_530 mg_531 mg_8 mg_532) rfl rfl rfl vd_X7_letter ⟨Nat.le_of_ble_eq_true rfl, Nat.le_of_ble_eq_true rfl⟩) (va_recv hK hP (ci := 7) (q0 := 39) rfl rfl) (hK.sub [0] rfl) hP hD hS hA rfl hl.1 rfl (Nat.le_of_ble_eq_true rfl) dL_law_147 ⟨Nat.le_of_ble_eq_true rfl, Nat.le_of_ble_eq_true rfl⟩ (fun r_20 u_18 H locs w_19 hP hD hS => ?_)
    obtain ⟨e7, hF8⟩ := w_19
    refine n_top e7 ?_
    have hP : va_P D vwCl ((cW a r k cI cT cN xh xi xr pn pc rd B L q kq) ++ (mW h g cI u_18.1 hz u_18.2)) H := hP
    have hD : va_D A ((cW a r k cI cT cN xh xi xr pn pc rd B L q kq) ++ (mW h g cI u_18.1 hz u_18.2)) := hD
    refine j_icmp_eq (tgt := 718) hx hb dL_law_150 (by decide) rfl rfl (fun c_21 => ?_) (fun c_21 => absurd c_21 (by omega))
    exact hN b pn pc rd B L q kq xh xi xr u_18.1 hz u_18.2 (LI_s hLI) (hSR) (hF8) _ _ hP hD hS _ (lv_sub hl [0, 1, 2, 3] rfl)

set_option maxHeartbeats 4000000 in
set_option maxRecDepth 100000 in
theorem law_c1 {p : Program} {e : Env} {s : State} {m : MethodId} {below : List Frame} {meth : Method} {c : Code} (l : Launch) {bb L0 : Nat} {xs : Nat → Int32} (hL : L0 ≤ 256) (C0 : lw_At p s m meth c bb L0 xs) (D : va_G) (cI cT cN : ClassId) (hK : va_K D vwCl (cTys cI cT cN) s) (a r k g : Nat → Nat) (h : Nat) (A : Nat → Prop) (hA : ∀ q : Nat, s.heap.size ≤ q → A q) (hbA : ¬ A bb) (j : Nat) (hj : 4 * j + 4 ≤ L0) (hN : LN p l e s m below meth c bb h a r k g cI cT cN D A j) (b : Nat → Nat → Nat) (pn : Nat) (pc : Nat → Int32) (rd : Nat × Nat × Nat) (B L : Nat → Int32) (q kq : RS) (xh xi xr : Nat) (J : Nat → Int32) (hz : Int64) (G : Nat → Nat → Int32) (hLI : LI b pn xr xi xh pc q kq j) (hSR : SR b B L) (hF : MF b pn xr xi pc q kq J G) (H : Heap) (locs : List Loc) (hP : va_P D vwCl (cW a r k cI cT cN xh xi xr pn pc rd B L q kq ++ mW h g cI J hz G) H) (hD : va_D A (cW a r k cI cT cN xh xi xr pn pc rd B L q kq ++ mW h g cI J hz G)) (hS : va_S A s.heap H locs) (ls : Array Slot) (hl : lv_has ls 4 [(0, .ref bb), (1, .ref (a 0)), (2, .ref h), (3, .int (nI (4 * j)))]) : W p l e room_1 s m #[Value.ref bb] below meth c H locs 600000 7302250 (lw_Z below #[Value.ref bb] s) (F0 m 155 ls []) := by
  obtain ⟨hx, hb, hr, hml, hown, htsL, hX, hbl, hlocks, hgv⟩ := id C0
  have hts : ∀ w ∈ wAll, w.before #[Value.ref bb] s = true := fun w h => htsL w (wAll_in h)
  have hnst : ∀ w ∈ wNst, w.before #[Value.ref bb] s = true := fun w h => htsL w (wNst_in w h)
  have hown : s.vm.findClass RL = some m.cls := hown
  obtain ⟨l1, l2, l3, l4, l5, l6, l7, l8⟩ := id hLI
  have hb4 := LI_b4 hLI
  have ht5 := l3.1
  refine lv_aload_n hx hb dL_law_155 rfl (lv_at hl 1 rfl) ?_
  refine rw_iV (X := []) (Y := (mW h g cI J hz G)) (n := 0) (As := []) ⟨hx, hb, hml, hown, hts⟩ (c_X6_blank l D a r k cI cT cN _ xh xi xr pn pc rd B L q kq) (cwV 0 hts (gV mg_181 mg_182 mg_183 mg_1 mg_184) rfl rfl rfl vd_X6_blank ⟨Nat.le_of_ble_eq_true rfl, Nat.le_of_ble_eq_true rfl⟩) (va_recv hK hP (ci := 6) (q0 := 0) rfl rfl) hK hP hD hS hA rfl hl.1 rfl (Nat.le_of_ble_eq_true rfl) dL_law_156 ⟨Nat.le_of_ble_eq_true rfl, Nat.le_of_ble_eq_true rfl⟩ (fun r_3 u_1 H locs w_2 hP hD hS => ?_)
  refine n_top w_2 ?_
  have hP : va_P D vwCl ((cW a r k cI cT cN xh xi xr 0 pc rd B L q kq) ++ (mW h g cI J hz G)) H := hP
  have hD : va_D A ((cW a r k cI cT cN xh xi xr 0 pc rd B L q kq) ++ (mW h g cI J hz G)) := hD
  refine lv_aload_n hx hb dL_law_159 rfl (lv_at hl 2 rfl) ?_
  refine rw_iV (X := (cW a r k cI cT cN xh xi xr 0 pc rd B L q kq)) (Y := []) (n := 0) (As := []) ⟨hx, hb, hml, hown, hts⟩ (c_X7_blank l D h g cI _ J hz G b pn xr xi pc q kq hF l4 l3) (cwV 0 hts (gV mg_537 mg_538 mg_539 mg_8 mg_540) rfl rfl rfl vd_X7_blank ⟨Nat.le_of_ble_eq_true rfl, Nat.le_of_ble_eq_true rfl⟩) (va_recv hK hP (ci := 7) (q0 := 39) rfl rfl) (hK.sub [0] rfl) hP hD hS hA rfl hl.1 rfl (Nat.le_of_ble_eq_true rfl) dL_law_160 ⟨Nat.le_of_ble_eq_true rfl, Nat.le_of_ble_eq_true rfl⟩ (fun r_6 u_4 H locs w_5 hP hD hS => ?_)
  obtain ⟨e7, hF8⟩ := w_5
  refine n_top e7 ?_
  have hP : va_P D vwCl ((cW a r k cI cT cN xh xi xr 0 pc rd B L q kq) ++ (mW h g cI u_4.1 hz u_4.2)) H := hP
  have hD : va_D A ((cW a r k cI cT cN xh xi xr 0 pc rd B L q kq) ++ (mW h g cI u_4.1 hz u_4.2)) := hD
  refine j_icmp_eq (tgt := 718) hx hb dL_law_163 (by decide) rfl rfl (fun c_7 => ?_) (fun c_7 => absurd c_7 (fun z => z rfl))
  exact hN b 0 pc rd B L q kq xh xi xr u_4.1 hz u_4.2 (LI_blank hLI) (hSR) (hF8) _ _ hP hD hS _ (lv_sub hl [0, 1, 2, 3] rfl)

set_option maxHeartbeats 4000000 in
set_option maxRecDepth 100000 in
theorem law_c2 {p : Program} {e : Env} {s : State} {m : MethodId} {below : List Frame} {meth : Method} {c : Code} (l : Launch) {bb L0 : Nat} {xs : Nat → Int32} (hL : L0 ≤ 256) (C0 : lw_At p s m meth c bb L0 xs) (D : va_G) (cI cT cN : ClassId) (hK : va_K D vwCl (cTys cI cT cN) s) (a r k g : Nat → Nat) (h : Nat) (A : Nat → Prop) (hA : ∀ q : Nat, s.heap.size ≤ q → A q) (hbA : ¬ A bb) (j : Nat) (hj : 4 * j + 4 ≤ L0) (hN : LN p l e s m below meth c bb h a r k g cI cT cN D A j) (b : Nat → Nat → Nat) (pn : Nat) (pc : Nat → Int32) (rd : Nat × Nat × Nat) (B L : Nat → Int32) (q kq : RS) (xh xi xr : Nat) (J : Nat → Int32) (hz : Int64) (G : Nat → Nat → Int32) (hLI : LI b pn xr xi xh pc q kq j) (hSR : SR b B L) (hF : MF b pn xr xi pc q kq J G) (H : Heap) (locs : List Loc) (hP : va_P D vwCl (cW a r k cI cT cN xh xi xr pn pc rd B L q kq ++ mW h g cI J hz G) H) (hD : va_D A (cW a r k cI cT cN xh xi xr pn pc rd B L q kq ++ mW h g cI J hz G)) (hS : va_S A s.heap H locs) (ls : Array Slot) (hl : lv_has ls 4 [(0, .ref bb), (1, .ref (a 0)), (2, .ref h), (3, .int (nI (4 * j)))]) : W p l e room_1 s m #[Value.ref bb] below meth c H locs 600000 7302250 (lw_Z below #[Value.ref bb] s) (F0 m 168 ls []) := by
  obtain ⟨hx, hb, hr, hml, hown, htsL, hX, hbl, hlocks, hgv⟩ := id C0
  have hts : ∀ w ∈ wAll, w.before #[Value.ref bb] s = true := fun w h => htsL w (wAll_in h)
  have hnst : ∀ w ∈ wNst, w.before #[Value.ref bb] s = true := fun w h => htsL w (wNst_in w h)
  have hown : s.vm.findClass RL = some m.cls := hown
  obtain ⟨l1, l2, l3, l4, l5, l6, l7, l8⟩ := id hLI
  have hb4 := LI_b4 hLI
  have ht5 := l3.1
  refine lv_aload_n hx hb dL_law_168 rfl (lv_at hl 1 rfl) ?_
  refine rw_iV (X := []) (Y := (mW h g cI J hz G)) (n := 0) (As := []) ⟨hx, hb, hml, hown, hts⟩ (c_X6_fault l D a r k cI cT cN _ xh xi xr pn pc rd B L q kq l1 l2) (cwVB 0 hts hnst mg_189 mg_190 mg_191 mg_1 mg_192 rfl rfl vd_X6_fault ⟨Nat.le_of_ble_eq_true rfl, Nat.le_of_ble_eq_true rfl⟩) (va_recv hK hP (ci := 6) (q0 := 0) rfl rfl) hK hP hD hS hA rfl hl.1 rfl (Nat.le_of_ble_eq_true rfl) dL_law_169 ⟨Nat.le_of_ble_eq_true rfl, Nat.le_of_ble_eq_true rfl⟩ (fun r_3 u_1 H locs w_2 hP hD hS => ?_)
  refine n_top w_2 ?_
  have hP : va_P D vwCl ((cW a r k cI cT cN xh xi xr pn pc u_1 B L q kq) ++ (mW h g cI J hz G)) H := hP
  have hD : va_D A ((cW a r k cI cT cN xh xi xr pn pc u_1 B L q kq) ++ (mW h g cI J hz G)) := hD
  refine lv_aload_n hx hb dL_law_172 rfl (lv_at hl 2 rfl) ?_
  refine rw_iV (X := (cW a r k cI cT cN xh xi xr pn pc u_1 B L q kq)) (Y := []) (n := 0) (As := []) ⟨hx, hb, hml, hown, hts⟩ (c_X7_fault l D h g cI _ J hz G b pn xr xi pc q kq hF l1 l2) (cwV 0 hts (gV mg_541 mg_542 mg_543 mg_8 mg_544) rfl rfl rfl vd_X7_fault ⟨Nat.le_of_ble_eq_true rfl, Nat.le_of_ble_eq_true rfl⟩) (va_recv hK hP (ci := 7) (q0 := 39) rfl rfl) (hK.sub [0] rfl) hP hD hS hA rfl hl.1 rfl (Nat.le_of_ble_eq_true rfl) dL_law_173 ⟨Nat.le_of_ble_eq_true rfl, Nat.le_of_ble_eq_true rfl⟩ (fun r_6 u_4 H locs w_5 hP hD hS => ?_)
  obtain ⟨e7, hF8⟩ := w_5
  refine n_top e7 ?_
  have hP : va_P D vwCl ((cW a r k cI cT cN xh xi xr pn pc u_1 B L q kq) ++ (mW h g cI u_4.1 hz u_4.2)) H := hP
  have hD : va_D A ((cW a r k cI cT cN xh xi xr pn pc u_1 B L q kq) ++ (mW h g cI u_4.1 hz u_4.2)) := hD
  refine j_icmp_eq (tgt := 718) hx hb dL_law_176 (by decide) rfl rfl (fun c_7 => ?_) (fun c_7 => absurd c_7 (fun z => z rfl))
  exact hN b pn pc u_1 B L q kq xh xi xr u_4.1 hz u_4.2 (LI_s hLI) (hSR) (hF8) _ _ hP hD hS _ (lv_sub hl [0, 1, 2, 3] rfl)

set_option maxHeartbeats 4000000 in
set_option maxRecDepth 100000 in
theorem law_c3 {p : Program} {e : Env} {s : State} {m : MethodId} {below : List Frame} {meth : Method} {c : Code} (l : Launch) {bb L0 : Nat} {xs : Nat → Int32} (hL : L0 ≤ 256) (C0 : lw_At p s m meth c bb L0 xs) (D : va_G) (cI cT cN : ClassId) (hK : va_K D vwCl (cTys cI cT cN) s) (a r k g : Nat → Nat) (h : Nat) (A : Nat → Prop) (hA : ∀ q : Nat, s.heap.size ≤ q → A q) (hbA : ¬ A bb) (j : Nat) (hj : 4 * j + 4 ≤ L0) (hN : LN p l e s m below meth c bb h a r k g cI cT cN D A j) (b : Nat → Nat → Nat) (pn : Nat) (pc : Nat → Int32) (rd : Nat × Nat × Nat) (B L : Nat → Int32) (q kq : RS) (xh xi xr : Nat) (J : Nat → Int32) (hz : Int64) (G : Nat → Nat → Int32) (hLI : LI b pn xr xi xh pc q kq j) (hSR : SR b B L) (hF : MF b pn xr xi pc q kq J G) (H : Heap) (locs : List Loc) (hP : va_P D vwCl (cW a r k cI cT cN xh xi xr pn pc rd B L q kq ++ mW h g cI J hz G) H) (hD : va_D A (cW a r k cI cT cN xh xi xr pn pc rd B L q kq ++ mW h g cI J hz G)) (hS : va_S A s.heap H locs) (ls : Array Slot) (hl : lv_has ls 4 [(0, .ref bb), (1, .ref (a 0)), (2, .ref h), (3, .int (nI (4 * j)))]) : W p l e room_1 s m #[Value.ref bb] below meth c H locs 600000 7302250 (lw_Z below #[Value.ref bb] s) (F0 m 181 ls []) := by
  obtain ⟨hx, hb, hr, hml, hown, htsL, hX, hbl, hlocks, hgv⟩ := id C0
  have hts : ∀ w ∈ wAll, w.before #[Value.ref bb] s = true := fun w h => htsL w (wAll_in h)
  have hnst : ∀ w ∈ wNst, w.before #[Value.ref bb] s = true := fun w h => htsL w (wNst_in w h)
  have hown : s.vm.findClass RL = some m.cls := hown
  obtain ⟨l1, l2, l3, l4, l5, l6, l7, l8⟩ := id hLI
  have hb4 := LI_b4 hLI
  have ht5 := l3.1
  rcases Decidable.em (isH (pf pc) pn) with hH | hH
  · have hxi : xi = 0 ∨ xi = 1 := l6.elim Or.inl (fun z => Or.inr z.1)
    have hxr : xr < 1000 := by omega
    refine lv_aload_n hx hb dL_law_181 rfl (lv_at hl 1 rfl) ?_
    refine rw_iV (X := []) (Y := (mW h g cI J hz G)) (n := 0) (As := []) ⟨hx, hb, hml, hown, hts⟩ (c_X6_house1 l D a r k cI cT cN _ xh xi xr pn pc rd B L q kq l1 l2 hH) (cwVB 0 hts hnst mg_223 mg_224 mg_225 mg_1 mg_226 rfl rfl vd_X6_house ⟨Nat.le_of_ble_eq_true rfl, Nat.le_of_ble_eq_true rfl⟩) (va_recv hK hP (ci := 6) (q0 := 0) rfl rfl) hK hP hD hS hA rfl hl.1 rfl (Nat.le_of_ble_eq_true rfl) dL_law_182 ⟨Nat.le_of_ble_eq_true rfl, Nat.le_of_ble_eq_true rfl⟩ (fun r_3 u_1 H locs w_2 hP hD hS => ?_)
    refine n_top w_2.1 ?_
    have hP : va_P D vwCl ((cW a r k cI cT cN 1 0 (xr + 1) 0 pc u_1.1 u_1.2.1 u_1.2.2 ((rdZ (pf pc) pn).2.1, 0, nI 0, pt (pf pc) q.2.2.2.1 pn, q.2.2.2.2) kq) ++ (mW h g cI J hz G)) H := hP
    have hD : va_D A ((cW a r k cI cT cN 1 0 (xr + 1) 0 pc u_1.1 u_1.2.1 u_1.2.2 ((rdZ (pf pc) pn).2.1, 0, nI 0, pt (pf pc) q.2.2.2.1 pn, q.2.2.2.2) kq) ++ (mW h g cI J hz G)) := hD
    refine lv_aload_n hx hb dL_law_185 rfl (lv_at hl 2 rfl) ?_
    refine rw_iV (X := (cW a r k cI cT cN 1 0 (xr + 1) 0 pc u_1.1 u_1.2.1 u_1.2.2 ((rdZ (pf pc) pn).2.1, 0, nI 0, pt (pf pc) q.2.2.2.1 pn, q.2.2.2.2) kq)) (Y := []) (n := 0) (As := []) ⟨hx, hb, hml, hown, hts⟩ (c_X7_house1 l D h g cI _ J hz G b pn xr xi pc q kq hF l1 l2 hxi hxr hH) (cwV 0 hts (gV mg_562 mg_563 mg_564 mg_8 mg_565) rfl rfl rfl vd_X7_house ⟨Nat.le_of_ble_eq_true rfl, Nat.le_of_ble_eq_true rfl⟩) (va_recv hK hP (ci := 7) (q0 := 39) rfl rfl) (hK.sub [0] rfl) hP hD hS hA rfl hl.1 rfl (Nat.le_of_ble_eq_true rfl) dL_law_186 ⟨Nat.le_of_ble_eq_true rfl, Nat.le_of_ble_eq_true rfl⟩ (fun r_6 u_4 H locs w_5 hP hD hS => ?_)
    obtain ⟨e7, hF8⟩ := w_5
    refine n_top e7 ?_
    have hP : va_P D vwCl ((cW a r k cI cT cN 1 0 (xr + 1) 0 pc u_1.1 u_1.2.1 u_1.2.2 ((rdZ (pf pc) pn).2.1, 0, nI 0, pt (pf pc) q.2.2.2.1 pn, q.2.2.2.2) kq) ++ (mW h g cI u_4.1 hz u_4.2)) H := hP
    have hD : va_D A ((cW a r k cI cT cN 1 0 (xr + 1) 0 pc u_1.1 u_1.2.1 u_1.2.2 ((rdZ (pf pc) pn).2.1, 0, nI 0, pt (pf pc) q.2.2.2.1 pn, q.2.2.2.2) kq) ++ (mW h g cI u_4.1 hz u_4.2)) := hD
    refine j_icmp_eq (tgt := 718) hx hb dL_law_189 (by decide) rfl rfl (fun c_7 => ?_) (fun c_7 => absurd c_7 (fun z => z rfl))
    exact hN (pb (pf pc) pn) 0 pc u_1.1 u_1.2.1 u_1.2.2 ((rdZ (pf pc) pn).2.1, 0, nI 0, pt (pf pc) q.2.2.2.1 pn, q.2.2.2.2) kq 1 0 (xr + 1) u_4.1 hz u_4.2 (LI_house hLI hH) (w_2.2) (hF8) _ _ hP hD hS _ (lv_sub hl [0, 1, 2, 3] rfl)
  · refine lv_aload_n hx hb dL_law_181 rfl (lv_at hl 1 rfl) ?_
    refine rw_iV (X := []) (Y := (mW h g cI J hz G)) (n := 0) (As := []) ⟨hx, hb, hml, hown, hts⟩ (c_X6_house0 l D a r k cI cT cN _ xh xi xr pn pc rd B L q kq l1 l2 hH) (cwVB 0 hts hnst mg_223 mg_224 mg_225 mg_1 mg_226 rfl rfl vd_X6_house ⟨Nat.le_of_ble_eq_true rfl, Nat.le_of_ble_eq_true rfl⟩) (va_recv hK hP (ci := 6) (q0 := 0) rfl rfl) hK hP hD hS hA rfl hl.1 rfl (Nat.le_of_ble_eq_true rfl) dL_law_182 ⟨Nat.le_of_ble_eq_true rfl, Nat.le_of_ble_eq_true rfl⟩ (fun r_10 u_8 H locs w_9 hP hD hS => ?_)
    refine n_top w_9 ?_
    have hP : va_P D vwCl ((cW a r k cI cT cN xh xi xr pn pc u_8 B L q kq) ++ (mW h g cI J hz G)) H := hP
    have hD : va_D A ((cW a r k cI cT cN xh xi xr pn pc u_8 B L q kq) ++ (mW h g cI J hz G)) := hD
    refine lv_aload_n hx hb dL_law_185 rfl (lv_at hl 2 rfl) ?_
    refine rw_iV (X := (cW a r k cI cT cN xh xi xr pn pc u_8 B L q kq)) (Y := []) (n := 0) (As := []) ⟨hx, hb, hml, hown, hts⟩ (c_X7_house0 l D h g cI _ J hz G b pn xr xi pc q kq hF l1 l2 hH) (cwV 0 hts (gV mg_562 mg_563 mg_564 mg_8 mg_565) rfl rfl rfl vd_X7_house ⟨Nat.le_of_ble_eq_true rfl, Nat.le_of_ble_eq_true rfl⟩) (va_recv hK hP (ci := 7) (q0 := 39) rfl rfl) (hK.sub [0] rfl) hP hD hS hA rfl hl.1 rfl (Nat.le_of_ble_eq_true rfl) dL_law_186 ⟨Nat.le_of_ble_eq_true rfl, Nat.le_of_ble_eq_true rfl⟩ (fun r_13 u_11 H locs w_12 hP hD hS => ?_)
    obtain ⟨e7, hF8⟩ := w_12
    refine n_top e7 ?_
    have hP : va_P D vwCl ((cW a r k cI cT cN xh xi xr pn pc u_8 B L q kq) ++ (mW h g cI u_11.1 hz u_11.2)) H := hP
    have hD : va_D A ((cW a r k cI cT cN xh xi xr pn pc u_8 B L q kq) ++ (mW h g cI u_11.1 hz u_11.2)) := hD
    refine j_icmp_eq (tgt := 718) hx hb dL_law_189 (by decide) rfl rfl (fun c_14 => ?_) (fun c_14 => absurd c_14 (by omega))
    exact hN b pn pc u_8 B L q kq xh xi xr u_11.1 hz u_11.2 (LI_s hLI) (hSR) (hF8) _ _ hP hD hS _ (lv_sub hl [0, 1, 2, 3] rfl)

set_option maxHeartbeats 4000000 in
set_option maxRecDepth 100000 in
theorem law_c15 {p : Program} {e : Env} {s : State} {m : MethodId} {below : List Frame} {meth : Method} {c : Code} (l : Launch) {bb L0 : Nat} {xs : Nat → Int32} (hL : L0 ≤ 256) (C0 : lw_At p s m meth c bb L0 xs) (D : va_G) (cI cT cN : ClassId) (hK : va_K D vwCl (cTys cI cT cN) s) (a r k g : Nat → Nat) (h : Nat) (A : Nat → Prop) (hA : ∀ q : Nat, s.heap.size ≤ q → A q) (hbA : ¬ A bb) (j : Nat) (hj : 4 * j + 4 ≤ L0) (hN : LN p l e s m below meth c bb h a r k g cI cT cN D A j) (b : Nat → Nat → Nat) (pn : Nat) (pc : Nat → Int32) (rd : Nat × Nat × Nat) (B L : Nat → Int32) (q kq : RS) (xh xi xr : Nat) (J : Nat → Int32) (hz : Int64) (G : Nat → Nat → Int32) (hLI : LI b pn xr xi xh pc q kq j) (hSR : SR b B L) (hF : MF b pn xr xi pc q kq J G) (H : Heap) (locs : List Loc) (hP : va_P D vwCl (cW a r k cI cT cN xh xi xr pn pc rd B L q kq ++ mW h g cI J hz G) H) (hD : va_D A (cW a r k cI cT cN xh xi xr pn pc rd B L q kq ++ mW h g cI J hz G)) (hS : va_S A s.heap H locs) (ls : Array Slot) (hl : lv_has ls 4 [(0, .ref bb), (1, .ref (a 0)), (2, .ref h), (3, .int (nI (4 * j)))]) : W p l e room_1 s m #[Value.ref bb] below meth c H locs 600000 7302250 (lw_Z below #[Value.ref bb] s) (F0 m 599 ls []) := by
  obtain ⟨hx, hb, hr, hml, hown, htsL, hX, hbl, hlocks, hgv⟩ := id C0
  have hts : ∀ w ∈ wAll, w.before #[Value.ref bb] s = true := fun w h => htsL w (wAll_in h)
  have hnst : ∀ w ∈ wNst, w.before #[Value.ref bb] s = true := fun w h => htsL w (wNst_in w h)
  have hown : s.vm.findClass RL = some m.cls := hown
  obtain ⟨l1, l2, l3, l4, l5, l6, l7, l8⟩ := id hLI
  have hb4 := LI_b4 hLI
  have ht5 := l3.1
  refine lv_aload_n hx hb dL_law_599 rfl (lv_at hl 1 rfl) ?_
  refine rw_iV (X := []) (Y := (mW h g cI J hz G)) (n := 0) (As := []) ⟨hx, hb, hml, hown, hts⟩ (c_X6_forget l D a r k cI cT cN _ xh xi xr pn pc rd B L q kq) (cwV 0 hts (gV mg_392 mg_393 mg_394 mg_1 mg_395) rfl rfl rfl vd_X6_forget ⟨Nat.le_of_ble_eq_true rfl, Nat.le_of_ble_eq_true rfl⟩) (va_recv hK hP (ci := 6) (q0 := 0) rfl rfl) hK hP hD hS hA rfl hl.1 rfl (Nat.le_of_ble_eq_true rfl) dL_law_600 ⟨Nat.le_of_ble_eq_true rfl, Nat.le_of_ble_eq_true rfl⟩ (fun r_3 u_1 H locs w_2 hP hD hS => ?_)
  refine n_top w_2 ?_
  have hP : va_P D vwCl ((cW a r k cI cT cN xh xi xr pn pc rd B L (q.1, 0, q.2.2.1, q.2.2.2.1, q.2.2.2.2) kq) ++ (mW h g cI J hz G)) H := hP
  have hD : va_D A ((cW a r k cI cT cN xh xi xr pn pc rd B L (q.1, 0, q.2.2.1, q.2.2.2.1, q.2.2.2.2) kq) ++ (mW h g cI J hz G)) := hD
  refine lv_aload_n hx hb dL_law_603 rfl (lv_at hl 2 rfl) ?_
  refine rw_iV (X := (cW a r k cI cT cN xh xi xr pn pc rd B L (q.1, 0, q.2.2.1, q.2.2.2.1, q.2.2.2.2) kq)) (Y := []) (n := 0) (As := []) ⟨hx, hb, hml, hown, hts⟩ (c_X7_forget l D h g cI _ J hz G b pn xr xi pc q kq hF l4 l3) (cwV 0 hts (gV mg_686 mg_687 mg_688 mg_8 mg_689) rfl rfl rfl vd_X7_forget ⟨Nat.le_of_ble_eq_true rfl, Nat.le_of_ble_eq_true rfl⟩) (va_recv hK hP (ci := 7) (q0 := 39) rfl rfl) (hK.sub [0] rfl) hP hD hS hA rfl hl.1 rfl (Nat.le_of_ble_eq_true rfl) dL_law_604 ⟨Nat.le_of_ble_eq_true rfl, Nat.le_of_ble_eq_true rfl⟩ (fun r_6 u_4 H locs w_5 hP hD hS => ?_)
  obtain ⟨e7, hF8⟩ := w_5
  refine n_top e7 ?_
  have hP : va_P D vwCl ((cW a r k cI cT cN xh xi xr pn pc rd B L (q.1, 0, q.2.2.1, q.2.2.2.1, q.2.2.2.2) kq) ++ (mW h g cI u_4.1 hz u_4.2)) H := hP
  have hD : va_D A ((cW a r k cI cT cN xh xi xr pn pc rd B L (q.1, 0, q.2.2.1, q.2.2.2.1, q.2.2.2.2) kq) ++ (mW h g cI u_4.1 hz u_4.2)) := hD
  refine j_icmp_eq (tgt := 718) hx hb dL_law_607 (by decide) rfl rfl (fun c_7 => ?_) (fun c_7 => absurd c_7 (fun z => z rfl))
  exact hN b pn pc rd B L (q.1, 0, q.2.2.1, q.2.2.2.1, q.2.2.2.2) kq xh xi xr u_4.1 hz u_4.2 (LI_q hLI rfl ⟨l3.1, Nat.zero_le _, l3.2.2.1, fun i h => absurd h (Nat.not_lt_zero i)⟩) (hSR) (hF8) _ _ hP hD hS _ (lv_sub hl [0, 1, 2, 3] rfl)

set_option maxHeartbeats 4000000 in
set_option maxRecDepth 100000 in
theorem law_c17 {p : Program} {e : Env} {s : State} {m : MethodId} {below : List Frame} {meth : Method} {c : Code} (l : Launch) {bb L0 : Nat} {xs : Nat → Int32} (hL : L0 ≤ 256) (C0 : lw_At p s m meth c bb L0 xs) (D : va_G) (cI cT cN : ClassId) (hK : va_K D vwCl (cTys cI cT cN) s) (a r k g : Nat → Nat) (h : Nat) (A : Nat → Prop) (hA : ∀ q : Nat, s.heap.size ≤ q → A q) (hbA : ¬ A bb) (j : Nat) (hj : 4 * j + 4 ≤ L0) (hN : LN p l e s m below meth c bb h a r k g cI cT cN D A j) (b : Nat → Nat → Nat) (pn : Nat) (pc : Nat → Int32) (rd : Nat × Nat × Nat) (B L : Nat → Int32) (q kq : RS) (xh xi xr : Nat) (J : Nat → Int32) (hz : Int64) (G : Nat → Nat → Int32) (hLI : LI b pn xr xi xh pc q kq j) (hSR : SR b B L) (hF : MF b pn xr xi pc q kq J G) (H : Heap) (locs : List Loc) (hP : va_P D vwCl (cW a r k cI cT cN xh xi xr pn pc rd B L q kq ++ mW h g cI J hz G) H) (hD : va_D A (cW a r k cI cT cN xh xi xr pn pc rd B L q kq ++ mW h g cI J hz G)) (hS : va_S A s.heap H locs) (ls : Array Slot) (hl : lv_has ls 4 [(0, .ref bb), (1, .ref (a 0)), (2, .ref h), (3, .int (nI (4 * j)))]) : W p l e room_1 s m #[Value.ref bb] below meth c H locs 600000 7302250 (lw_Z below #[Value.ref bb] s) (F0 m 655 ls []) := by
  obtain ⟨hx, hb, hr, hml, hown, htsL, hX, hbl, hlocks, hgv⟩ := id C0
  have hts : ∀ w ∈ wAll, w.before #[Value.ref bb] s = true := fun w h => htsL w (wAll_in h)
  have hnst : ∀ w ∈ wNst, w.before #[Value.ref bb] s = true := fun w h => htsL w (wNst_in w h)
  have hown : s.vm.findClass RL = some m.cls := hown
  obtain ⟨l1, l2, l3, l4, l5, l6, l7, l8⟩ := id hLI
  have hb4 := LI_b4 hLI
  have ht5 := l3.1
  rcases Decidable.em (q.1 = 0) with h0 | h0
  · have e8 : xh = 0 := by rw [l8, if_pos h0]
    subst e8
    refine lv_aload_n hx hb dL_law_655 rfl (lv_at hl 1 rfl) ?_
    refine rw_iV (X := []) (Y := (mW h g cI J hz G)) (n := 0) (As := []) ⟨hx, hb, hml, hown, hts⟩ (c_X6_image0 l D a r k cI cT cN _ xi xr pn pc rd B L q kq l3) (cwV 0 hts (gV mg_410 mg_411 mg_412 mg_1 mg_413) rfl rfl rfl vd_X6_image ⟨Nat.le_of_ble_eq_true rfl, Nat.le_of_ble_eq_true rfl⟩) (va_recv hK hP (ci := 6) (q0 := 0) rfl rfl) hK hP hD hS hA rfl hl.1 rfl (Nat.le_of_ble_eq_true rfl) dL_law_656 ⟨Nat.le_of_ble_eq_true rfl, Nat.le_of_ble_eq_true rfl⟩ (fun r_3 u_1 H locs w_2 hP hD hS => ?_)
    refine n_top w_2 ?_
    have hP : va_P D vwCl ((cW a r k cI cT cN 0 xi xr pn pc rd B L q kq) ++ (mW h g cI J hz G)) H := hP
    have hD : va_D A ((cW a r k cI cT cN 0 xi xr pn pc rd B L q kq) ++ (mW h g cI J hz G)) := hD
    refine lv_aload_n hx hb dL_law_659 rfl (lv_at hl 2 rfl) ?_
    refine rw_iV (X := (cW a r k cI cT cN 0 xi xr pn pc rd B L q kq)) (Y := []) (n := 0) (As := []) ⟨hx, hb, hml, hown, hts⟩ (c_X7_image0 l D h g cI _ J hz G b pn xr xi pc q kq hF l4 l3 h0) (cwV 0 hts (gV mg_704 mg_705 mg_706 mg_8 mg_707) rfl rfl rfl vd_X7_image ⟨Nat.le_of_ble_eq_true rfl, Nat.le_of_ble_eq_true rfl⟩) (va_recv hK hP (ci := 7) (q0 := 39) rfl rfl) (hK.sub [0] rfl) hP hD hS hA rfl hl.1 rfl (Nat.le_of_ble_eq_true rfl) dL_law_660 ⟨Nat.le_of_ble_eq_true rfl, Nat.le_of_ble_eq_true rfl⟩ (fun r_6 u_4 H locs w_5 hP hD hS => ?_)
    obtain ⟨e7, hF8⟩ := w_5
    refine n_top e7 ?_
    have hP : va_P D vwCl ((cW a r k cI cT cN 0 xi xr pn pc rd B L q kq) ++ (mW h g cI u_4.1 hz u_4.2)) H := hP
    have hD : va_D A ((cW a r k cI cT cN 0 xi xr pn pc rd B L q kq) ++ (mW h g cI u_4.1 hz u_4.2)) := hD
    refine j_icmp_eq (tgt := 718) hx hb dL_law_663 (by decide) rfl rfl (fun c_7 => ?_) (fun c_7 => absurd c_7 (by omega))
    exact hN b pn pc rd B L q kq 0 xi xr u_4.1 hz u_4.2 (LI_s hLI) (hSR) (hF8) _ _ hP hD hS _ (lv_sub hl [0, 1, 2, 3] rfl)
  · have e8 : xh = 1 := by rw [l8, if_neg h0]
    subst e8
    refine lv_aload_n hx hb dL_law_655 rfl (lv_at hl 1 rfl) ?_
    refine rw_iV (X := []) (Y := (mW h g cI J hz G)) (n := 0) (As := []) ⟨hx, hb, hml, hown, hts⟩ (c_X6_image1 l D a r k cI cT cN _ xi xr pn pc rd B L q kq l3) (cwV 0 hts (gV mg_410 mg_411 mg_412 mg_1 mg_413) rfl rfl rfl vd_X6_image ⟨Nat.le_of_ble_eq_true rfl, Nat.le_of_ble_eq_true rfl⟩) (va_recv hK hP (ci := 6) (q0 := 0) rfl rfl) hK hP hD hS hA rfl hl.1 rfl (Nat.le_of_ble_eq_true rfl) dL_law_656 ⟨Nat.le_of_ble_eq_true rfl, Nat.le_of_ble_eq_true rfl⟩ (fun r_10 u_8 H locs w_9 hP hD hS => ?_)
    refine n_top w_9 ?_
    have hP : va_P D vwCl ((cW a r k cI cT cN 1 1 xr pn pc rd B L q (imK q kq)) ++ (mW h g cI J hz G)) H := hP
    have hD : va_D A ((cW a r k cI cT cN 1 1 xr pn pc rd B L q (imK q kq)) ++ (mW h g cI J hz G)) := hD
    refine lv_aload_n hx hb dL_law_659 rfl (lv_at hl 2 rfl) ?_
    refine rw_iV (X := (cW a r k cI cT cN 1 1 xr pn pc rd B L q (imK q kq))) (Y := []) (n := 0) (As := []) ⟨hx, hb, hml, hown, hts⟩ (c_X7_image1 l D h g cI _ J hz G b pn xr xi pc q kq hF l4 l3 h0) (cwV 0 hts (gV mg_704 mg_705 mg_706 mg_8 mg_707) rfl rfl rfl vd_X7_image ⟨Nat.le_of_ble_eq_true rfl, Nat.le_of_ble_eq_true rfl⟩) (va_recv hK hP (ci := 7) (q0 := 39) rfl rfl) (hK.sub [0] rfl) hP hD hS hA rfl hl.1 rfl (Nat.le_of_ble_eq_true rfl) dL_law_660 ⟨Nat.le_of_ble_eq_true rfl, Nat.le_of_ble_eq_true rfl⟩ (fun r_13 u_11 H locs w_12 hP hD hS => ?_)
    obtain ⟨e7, hF8⟩ := w_12
    refine n_top e7 ?_
    have hP : va_P D vwCl ((cW a r k cI cT cN 1 1 xr pn pc rd B L q (imK q kq)) ++ (mW h g cI u_11.1 hz u_11.2)) H := hP
    have hD : va_D A ((cW a r k cI cT cN 1 1 xr pn pc rd B L q (imK q kq)) ++ (mW h g cI u_11.1 hz u_11.2)) := hD
    refine j_icmp_eq (tgt := 718) hx hb dL_law_663 (by decide) rfl rfl (fun c_14 => ?_) (fun c_14 => absurd c_14 (fun z => z rfl))
    exact hN b pn pc rd B L q (imK q kq) 1 1 xr u_11.1 hz u_11.2 (LI_image hLI h0) (hSR) (hF8) _ _ hP hD hS _ (lv_sub hl [0, 1, 2, 3] rfl)

set_option maxHeartbeats 4000000 in
set_option maxRecDepth 100000 in
theorem law_c18 {p : Program} {e : Env} {s : State} {m : MethodId} {below : List Frame} {meth : Method} {c : Code} (l : Launch) {bb L0 : Nat} {xs : Nat → Int32} (hL : L0 ≤ 256) (C0 : lw_At p s m meth c bb L0 xs) (D : va_G) (cI cT cN : ClassId) (hK : va_K D vwCl (cTys cI cT cN) s) (a r k g : Nat → Nat) (h : Nat) (A : Nat → Prop) (hA : ∀ q : Nat, s.heap.size ≤ q → A q) (hbA : ¬ A bb) (j : Nat) (hj : 4 * j + 4 ≤ L0) (hN : LN p l e s m below meth c bb h a r k g cI cT cN D A j) (b : Nat → Nat → Nat) (pn : Nat) (pc : Nat → Int32) (rd : Nat × Nat × Nat) (B L : Nat → Int32) (q kq : RS) (xh xi xr : Nat) (J : Nat → Int32) (hz : Int64) (G : Nat → Nat → Int32) (hLI : LI b pn xr xi xh pc q kq j) (hSR : SR b B L) (hF : MF b pn xr xi pc q kq J G) (H : Heap) (locs : List Loc) (hP : va_P D vwCl (cW a r k cI cT cN xh xi xr pn pc rd B L q kq ++ mW h g cI J hz G) H) (hD : va_D A (cW a r k cI cT cN xh xi xr pn pc rd B L q kq ++ mW h g cI J hz G)) (hS : va_S A s.heap H locs) (ls : Array Slot) (hl : lv_has ls 4 [(0, .ref bb), (1, .ref (a 0)), (2, .ref h), (3, .int (nI (4 * j)))]) : W p l e room_1 s m #[Value.ref bb] below meth c H locs 600000 7302250 (lw_Z below #[Value.ref bb] s) (F0 m 668 ls []) := by
  obtain ⟨hx, hb, hr, hml, hown, htsL, hX, hbl, hlocks, hgv⟩ := id C0
  have hts : ∀ w ∈ wAll, w.before #[Value.ref bb] s = true := fun w h => htsL w (wAll_in h)
  have hnst : ∀ w ∈ wNst, w.before #[Value.ref bb] s = true := fun w h => htsL w (wNst_in w h)
  have hown : s.vm.findClass RL = some m.cls := hown
  obtain ⟨l1, l2, l3, l4, l5, l6, l7, l8⟩ := id hLI
  have hb4 := LI_b4 hLI
  have ht5 := l3.1
  have hxr : xr < 1000 := by omega
  rcases l6 with h6 | ⟨h6, hTk, hk0, h0⟩
  · subst h6
    refine lv_aload_n hx hb dL_law_668 rfl (lv_at hl 1 rfl) ?_
    refine rw_iV (X := []) (Y := (mW h g cI J hz G)) (n := 0) (As := []) ⟨hx, hb, hml, hown, hts⟩ (c_X6_restore0 l D a r k cI cT cN _ xh xr pn pc rd B L q kq l3) (cwV 0 hts (gV mg_418 mg_419 mg_420 mg_1 mg_421) rfl rfl rfl vd_X6_restore ⟨Nat.le_of_ble_eq_true rfl, Nat.le_of_ble_eq_true rfl⟩) (va_recv hK hP (ci := 6) (q0 := 0) rfl rfl) hK hP hD hS hA rfl hl.1 rfl (Nat.le_of_ble_eq_true rfl) dL_law_669 ⟨Nat.le_of_ble_eq_true rfl, Nat.le_of_ble_eq_true rfl⟩ (fun r_3 u_1 H locs w_2 hP hD hS => ?_)
    refine n_top w_2 ?_
    have hP : va_P D vwCl ((cW a r k cI cT cN xh 0 xr pn pc rd B L q kq) ++ (mW h g cI J hz G)) H := hP
    have hD : va_D A ((cW a r k cI cT cN xh 0 xr pn pc rd B L q kq) ++ (mW h g cI J hz G)) := hD
    refine lv_aload_n hx hb dL_law_672 rfl (lv_at hl 2 rfl) ?_
    refine rw_iV (X := (cW a r k cI cT cN xh 0 xr pn pc rd B L q kq)) (Y := []) (n := 0) (As := []) ⟨hx, hb, hml, hown, hts⟩ (c_X7_restore0 l D h g cI _ J hz G b pn xr 0 pc q kq hF l4 l3 rfl hxr) (cwV 0 hts (gV mg_708 mg_709 mg_710 mg_8 mg_711) rfl rfl rfl vd_X7_restore ⟨Nat.le_of_ble_eq_true rfl, Nat.le_of_ble_eq_true rfl⟩) (va_recv hK hP (ci := 7) (q0 := 39) rfl rfl) (hK.sub [0] rfl) hP hD hS hA rfl hl.1 rfl (Nat.le_of_ble_eq_true rfl) dL_law_673 ⟨Nat.le_of_ble_eq_true rfl, Nat.le_of_ble_eq_true rfl⟩ (fun r_6 u_4 H locs w_5 hP hD hS => ?_)
    obtain ⟨e7, hF8⟩ := w_5
    refine n_top e7 ?_
    have hP : va_P D vwCl ((cW a r k cI cT cN xh 0 xr pn pc rd B L q kq) ++ (mW h g cI u_4.1 hz u_4.2)) H := hP
    have hD : va_D A ((cW a r k cI cT cN xh 0 xr pn pc rd B L q kq) ++ (mW h g cI u_4.1 hz u_4.2)) := hD
    refine j_icmp_eq (tgt := 718) hx hb dL_law_676 (by decide) rfl rfl (fun c_7 => ?_) (fun c_7 => absurd c_7 (by omega))
    exact hN b pn pc rd B L q kq xh 0 xr u_4.1 hz u_4.2 (LI_s hLI) (hSR) (hF8) _ _ hP hD hS _ (lv_sub hl [0, 1, 2, 3] rfl)
  · subst h6
    refine lv_aload_n hx hb dL_law_668 rfl (lv_at hl 1 rfl) ?_
    refine rw_iV (X := []) (Y := (mW h g cI J hz G)) (n := 0) (As := []) ⟨hx, hb, hml, hown, hts⟩ (c_X6_restore1 l D a r k cI cT cN _ xh xr pn pc rd B L q kq l3 hTk) (cwV 0 hts (gV mg_418 mg_419 mg_420 mg_1 mg_421) rfl rfl rfl vd_X6_restore ⟨Nat.le_of_ble_eq_true rfl, Nat.le_of_ble_eq_true rfl⟩) (va_recv hK hP (ci := 6) (q0 := 0) rfl rfl) hK hP hD hS hA rfl hl.1 rfl (Nat.le_of_ble_eq_true rfl) dL_law_669 ⟨Nat.le_of_ble_eq_true rfl, Nat.le_of_ble_eq_true rfl⟩ (fun r_10 u_8 H locs w_9 hP hD hS => ?_)
    refine n_top w_9 ?_
    have hP : va_P D vwCl ((cW a r k cI cT cN xh 1 xr pn pc rd B L (imK kq q) kq) ++ (mW h g cI J hz G)) H := hP
    have hD : va_D A ((cW a r k cI cT cN xh 1 xr pn pc rd B L (imK kq q) kq) ++ (mW h g cI J hz G)) := hD
    refine lv_aload_n hx hb dL_law_672 rfl (lv_at hl 2 rfl) ?_
    refine rw_iV (X := (cW a r k cI cT cN xh 1 xr pn pc rd B L (imK kq q) kq)) (Y := []) (n := 0) (As := []) ⟨hx, hb, hml, hown, hts⟩ (c_X7_restore1 l D h g cI _ J hz G b pn xr 1 pc q kq hF l4 l3 rfl hTk hxr) (cwV 0 hts (gV mg_708 mg_709 mg_710 mg_8 mg_711) rfl rfl rfl vd_X7_restore ⟨Nat.le_of_ble_eq_true rfl, Nat.le_of_ble_eq_true rfl⟩) (va_recv hK hP (ci := 7) (q0 := 39) rfl rfl) (hK.sub [0] rfl) hP hD hS hA rfl hl.1 rfl (Nat.le_of_ble_eq_true rfl) dL_law_673 ⟨Nat.le_of_ble_eq_true rfl, Nat.le_of_ble_eq_true rfl⟩ (fun r_13 u_11 H locs w_12 hP hD hS => ?_)
    obtain ⟨e7, hF8⟩ := w_12
    refine n_top e7 ?_
    have hP : va_P D vwCl ((cW a r k cI cT cN xh 1 xr pn pc rd B L (imK kq q) kq) ++ (mW h g cI u_11.1 hz u_11.2)) H := hP
    have hD : va_D A ((cW a r k cI cT cN xh 1 xr pn pc rd B L (imK kq q) kq) ++ (mW h g cI u_11.1 hz u_11.2)) := hD
    refine j_icmp_eq (tgt := 718) hx hb dL_law_676 (by decide) rfl rfl (fun c_14 => ?_) (fun c_14 => absurd c_14 (fun z => z rfl))
    exact hN b pn pc rd B L (imK kq q) kq xh 1 xr u_11.1 hz u_11.2 (LI_tap hLI h0 hk0 (Tok_im hTk)) (hSR) (hF8) _ _ hP hD hS _ (lv_sub hl [0, 1, 2, 3] rfl)

set_option maxHeartbeats 4000000 in
set_option maxRecDepth 100000 in
theorem law_c20 {p : Program} {e : Env} {s : State} {m : MethodId} {below : List Frame} {meth : Method} {c : Code} (l : Launch) {bb L0 : Nat} {xs : Nat → Int32} (hL : L0 ≤ 256) (C0 : lw_At p s m meth c bb L0 xs) (D : va_G) (cI cT cN : ClassId) (hK : va_K D vwCl (cTys cI cT cN) s) (a r k g : Nat → Nat) (h : Nat) (A : Nat → Prop) (hA : ∀ q : Nat, s.heap.size ≤ q → A q) (hbA : ¬ A bb) (j : Nat) (hj : 4 * j + 4 ≤ L0) (hN : LN p l e s m below meth c bb h a r k g cI cT cN D A j) (b : Nat → Nat → Nat) (pn : Nat) (pc : Nat → Int32) (rd : Nat × Nat × Nat) (B L : Nat → Int32) (q kq : RS) (xh xi xr : Nat) (J : Nat → Int32) (hz : Int64) (G : Nat → Nat → Int32) (hLI : LI b pn xr xi xh pc q kq j) (hSR : SR b B L) (hF : MF b pn xr xi pc q kq J G) (H : Heap) (locs : List Loc) (hP : va_P D vwCl (cW a r k cI cT cN xh xi xr pn pc rd B L q kq ++ mW h g cI J hz G) H) (hD : va_D A (cW a r k cI cT cN xh xi xr pn pc rd B L q kq ++ mW h g cI J hz G)) (hS : va_S A s.heap H locs) (ls : Array Slot) (hl : lv_has ls 4 [(0, .ref bb), (1, .ref (a 0)), (2, .ref h), (3, .int (nI (4 * j)))]) : W p l e room_1 s m #[Value.ref bb] below meth c H locs 600000 7302250 (lw_Z below #[Value.ref bb] s) (F0 m 704 ls []) := by
  obtain ⟨hx, hb, hr, hml, hown, htsL, hX, hbl, hlocks, hgv⟩ := id C0
  have hts : ∀ w ∈ wAll, w.before #[Value.ref bb] s = true := fun w h => htsL w (wAll_in h)
  have hnst : ∀ w ∈ wNst, w.before #[Value.ref bb] s = true := fun w h => htsL w (wNst_in w h)
  have hown : s.vm.findClass RL = some m.cls := hown
  obtain ⟨l1, l2, l3, l4, l5, l6, l7, l8⟩ := id hLI
  have hb4 := LI_b4 hLI
  have ht5 := l3.1
  rcases Decidable.em (q.1 = 0) with h0 | h0
  · refine lv_aload_n hx hb dL_law_704 rfl (lv_at hl 1 rfl) ?_
    refine ro_lV (n := 0) (As := []) ⟨hx, hb, hml, hown, hts⟩ (c_X6_digest l D a r k cI cT cN xh xi xr pn pc rd B L q kq b hSR l4 hb4 l3 l1 l8 ) (cwV 0 hts (gV mg_442 mg_443 mg_444 mg_1 mg_445) rfl rfl rfl vd_X6_digest ⟨Nat.le_of_ble_eq_true rfl, Nat.le_of_ble_eq_true rfl⟩) (va_recv hK hP (ci := 6) (q0 := 0) rfl rfl) hK (vaP_l hP) rfl hl.1 rfl (Nat.le_of_ble_eq_true rfl) dL_law_705 ⟨Nat.le_of_ble_eq_true rfl, Nat.le_of_ble_eq_true rfl⟩ ?_
    refine lv_aload_n hx hb dL_law_708 rfl (lv_at hl 2 rfl) ?_
    refine rw_lV (X := (cW a r k cI cT cN xh xi xr pn pc rd B L q kq)) (Y := []) (n := 0) (As := []) ⟨hx, hb, hml, hown, hts⟩ (c_X7_digest0 l D h g cI _ J hz G b pn xr xi pc q kq hF l4 hb4 l5 l3 l1 h0) (cwV 0 hts (gV mg_728 mg_729 mg_730 mg_8 mg_731) rfl rfl rfl vd_X7_digest ⟨Nat.le_of_ble_eq_true rfl, Nat.le_of_ble_eq_true rfl⟩) (va_recv hK hP (ci := 7) (q0 := 39) rfl rfl) (hK.sub [0] rfl) hP hD hS hA rfl hl.1 rfl (Nat.le_of_ble_eq_true rfl) dL_law_709 ⟨Nat.le_of_ble_eq_true rfl, Nat.le_of_ble_eq_true rfl⟩ (fun r_3 u_1 H locs w_2 hP hD hS => ?_)
    refine n_topl w_2 ?_
    have hP : va_P D vwCl ((cW a r k cI cT cN xh xi xr pn pc rd B L q kq) ++ (mW h g cI J u_1 G)) H := hP
    have hD : va_D A ((cW a r k cI cT cN xh xi xr pn pc rd B L q kq) ++ (mW h g cI J u_1 G)) := hD
    refine j_lc_self (tgt := 718) hx hb dL_law_712 dL_law_713 (by decide) ?_
    exact hN b pn pc rd B L q kq xh xi xr J u_1 G (LI_s hLI) (hSR) (hF) _ _ hP hD hS _ (lv_sub hl [0, 1, 2, 3] rfl)
  · refine lv_aload_n hx hb dL_law_704 rfl (lv_at hl 1 rfl) ?_
    refine ro_lV (n := 0) (As := []) ⟨hx, hb, hml, hown, hts⟩ (c_X6_digest l D a r k cI cT cN xh xi xr pn pc rd B L q kq b hSR l4 hb4 l3 l1 l8 ) (cwV 0 hts (gV mg_442 mg_443 mg_444 mg_1 mg_445) rfl rfl rfl vd_X6_digest ⟨Nat.le_of_ble_eq_true rfl, Nat.le_of_ble_eq_true rfl⟩) (va_recv hK hP (ci := 6) (q0 := 0) rfl rfl) hK (vaP_l hP) rfl hl.1 rfl (Nat.le_of_ble_eq_true rfl) dL_law_705 ⟨Nat.le_of_ble_eq_true rfl, Nat.le_of_ble_eq_true rfl⟩ ?_
    refine lv_aload_n hx hb dL_law_708 rfl (lv_at hl 2 rfl) ?_
    refine rw_lV (X := (cW a r k cI cT cN xh xi xr pn pc rd B L q kq)) (Y := []) (n := 0) (As := []) ⟨hx, hb, hml, hown, hts⟩ (c_X7_digest1 l D h g cI _ J hz G b pn xr xi pc q kq hF l4 hb4 l5 l3 l1 h0) (cwV 0 hts (gV mg_728 mg_729 mg_730 mg_8 mg_731) rfl rfl rfl vd_X7_digest ⟨Nat.le_of_ble_eq_true rfl, Nat.le_of_ble_eq_true rfl⟩) (va_recv hK hP (ci := 7) (q0 := 39) rfl rfl) (hK.sub [0] rfl) hP hD hS hA rfl hl.1 rfl (Nat.le_of_ble_eq_true rfl) dL_law_709 ⟨Nat.le_of_ble_eq_true rfl, Nat.le_of_ble_eq_true rfl⟩ (fun r_6 u_4 H locs w_5 hP hD hS => ?_)
    refine n_topl w_5 ?_
    have hP : va_P D vwCl ((cW a r k cI cT cN xh xi xr pn pc rd B L q kq) ++ (mW h g cI J u_4 G)) H := hP
    have hD : va_D A ((cW a r k cI cT cN xh xi xr pn pc rd B L q kq) ++ (mW h g cI J u_4 G)) := hD
    refine j_lc_self (tgt := 718) hx hb dL_law_712 dL_law_713 (by decide) ?_
    exact hN b pn pc rd B L q kq xh xi xr J u_4 G (LI_s hLI) (hSR) (hF) _ _ hP hD hS _ (lv_sub hl [0, 1, 2, 3] rfl)
