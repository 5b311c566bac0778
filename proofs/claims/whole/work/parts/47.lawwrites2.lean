set_option maxHeartbeats 4000000 in
set_option maxRecDepth 100000 in
theorem law_c5 {p : Program} {e : Env} {s : State} {m : MethodId} {below : List Frame} {meth : Method} {c : Code} (l : Launch) {bb L0 : Nat} {xs : Nat → Int32} (hL : L0 ≤ 256) (C0 : lw_At p s m meth c bb L0 xs) (D : va_G) (cI cT cN : ClassId) (hK : va_K D vwCl (cTys cI cT cN) s) (a r k g : Nat → Nat) (h : Nat) (A : Nat → Prop) (hA : ∀ q : Nat, s.heap.size ≤ q → A q) (hbA : ¬ A bb) (j : Nat) (hj : 4 * j + 4 ≤ L0) (hN : LN p l e s m below meth c bb h a r k g cI cT cN D A j) (b : Nat → Nat → Nat) (pn : Nat) (pc : Nat → Int32) (rd : Nat × Nat × Nat) (B L : Nat → Int32) (q kq : RS) (xh xi xr : Nat) (J : Nat → Int32) (hz : Int64) (G : Nat → Nat → Int32) (hLI : LI b pn xr xi xh pc q kq j) (hSR : SR b B L) (hF : MF b pn xr xi pc q kq J G) (H : Heap) (locs : List Loc) (hP : va_P D vwCl (cW a r k cI cT cN xh xi xr pn pc rd B L q kq ++ mW h g cI J hz G) H) (hD : va_D A (cW a r k cI cT cN xh xi xr pn pc rd B L q kq ++ mW h g cI J hz G)) (hS : va_S A s.heap H locs) (ls : Array Slot) (hl : lv_has ls 4 [(0, .ref bb), (1, .ref (a 0)), (2, .ref h), (3, .int (nI (4 * j)))]) : W p l e room_1 s m #[Value.ref bb] below meth c H locs 600000 7302250 (lw_Z below #[Value.ref bb] s) (F0 m 227 ls []) := by
  obtain ⟨hx, hb, hr, hml, hown, htsL, hX, hbl, hlocks, hgv⟩ := id C0
  have hts : ∀ w ∈ wAll, w.before #[Value.ref bb] s = true := fun w h => htsL w (wAll_in h)
  have hnst : ∀ w ∈ wNst, w.before #[Value.ref bb] s = true := fun w h => htsL w (wNst_in w h)
  have hown : s.vm.findClass RL = some m.cls := hown
  obtain ⟨l1, l2, l3, l4, l5, l6, l7, l8⟩ := id hLI
  have hb4 := LI_b4 hLI
  have ht5 := l3.1
  rcases inr_or (xs (4 * j + 1)) 5 5 rfl (by decide) with ⟨kd, hkd, e1⟩ | ox
  · rcases inr_or (xs (4 * j + 2)) 4 4 rfl (by decide) with ⟨v, hv, e2⟩ | ow
    · rcases Decidable.em (q.1 = 0) with h0 | h0
      · have e8 : xh = 0 := by rw [l8, if_pos h0]
        subst e8
        refine lv_aload_n hx hb dL_law_227 rfl (lv_at hl 1 rfl) ?_
        refine lv_aload_n hx hb dL_law_228 rfl (lv_at hl 0 rfl) ?_
        refine lv_iload_n hx hb dL_law_229 rfl (lv_at hl 3 rfl) ?_
        refine lv_iconst (v := nI 1) hx hb dL_law_230 (by decide) ?_
        refine n_iadd hx hb dL_law_231 ?_
        refine n_sld hx hb hX hbl hbA hS (i := 4 * j + 1) (by omega) (by omega) dL_law_232 ?_
        refine n_top e1 ?_
        refine lv_aload_n hx hb dL_law_233 rfl (lv_at hl 0 rfl) ?_
        refine lv_iload_n hx hb dL_law_234 rfl (lv_at hl 3 rfl) ?_
        refine lv_iconst (v := nI 2) hx hb dL_law_235 (by decide) ?_
        refine n_iadd hx hb dL_law_236 ?_
        refine n_sld hx hb hX hbl hbA hS (i := 4 * j + 2) (by omega) (by omega) dL_law_237 ?_
        refine n_top e2 ?_
        refine rw_iV (X := []) (Y := (mW h g cI J hz G)) (n := 2) (As := [.int (nI kd), .int (nI v)]) ⟨hx, hb, hml, hown, hts⟩ (c_X6_tapS l D a r k cI cT cN _ xi xr pn pc rd B L q kq l3 kd v hkd hv) (cwV 2 hts (gV mg_279 mg_280 mg_281 mg_1 mg_282) rfl rfl rfl vd_X6_tap ⟨Nat.le_of_ble_eq_true rfl, Nat.le_of_ble_eq_true rfl⟩) (va_recv hK hP (ci := 6) (q0 := 0) rfl rfl) hK hP hD hS hA rfl hl.1 rfl (Nat.le_of_ble_eq_true rfl) dL_law_238 ⟨Nat.le_of_ble_eq_true rfl, Nat.le_of_ble_eq_true rfl⟩ (fun r_3 u_1 H locs w_2 hP hD hS => ?_)
        refine n_top w_2 ?_
        have hP : va_P D vwCl ((cW a r k cI cT cN 0 xi xr pn pc rd B L q kq) ++ (mW h g cI J hz G)) H := hP
        have hD : va_D A ((cW a r k cI cT cN 0 xi xr pn pc rd B L q kq) ++ (mW h g cI J hz G)) := hD
        refine lv_aload_n hx hb dL_law_241 rfl (lv_at hl 2 rfl) ?_
        refine lv_aload_n hx hb dL_law_242 rfl (lv_at hl 0 rfl) ?_
        refine lv_iload_n hx hb dL_law_243 rfl (lv_at hl 3 rfl) ?_
        refine lv_iconst (v := nI 1) hx hb dL_law_244 (by decide) ?_
        refine n_iadd hx hb dL_law_245 ?_
        refine n_sld hx hb hX hbl hbA hS (i := 4 * j + 1) (by omega) (by omega) dL_law_246 ?_
        refine n_top e1 ?_
        refine lv_aload_n hx hb dL_law_247 rfl (lv_at hl 0 rfl) ?_
        refine lv_iload_n hx hb dL_law_248 rfl (lv_at hl 3 rfl) ?_
        refine lv_iconst (v := nI 2) hx hb dL_law_249 (by decide) ?_
        refine n_iadd hx hb dL_law_250 ?_
        refine n_sld hx hb hX hbl hbA hS (i := 4 * j + 2) (by omega) (by omega) dL_law_251 ?_
        refine n_top e2 ?_
        refine rw_iV (X := (cW a r k cI cT cN 0 xi xr pn pc rd B L q kq)) (Y := []) (n := 2) (As := [.int (nI kd), .int (nI v)]) ⟨hx, hb, hml, hown, hts⟩ (c_X7_tapS l D h g cI _ J hz G b pn xr xi pc q kq hF l4 l3 kd v hkd hv h0) (cwV 2 hts (gV mg_587 mg_588 mg_589 mg_8 mg_590) rfl rfl rfl vd_X7_tap ⟨Nat.le_of_ble_eq_true rfl, Nat.le_of_ble_eq_true rfl⟩) (va_recv hK hP (ci := 7) (q0 := 39) rfl rfl) (hK.sub [0] rfl) hP hD hS hA rfl hl.1 rfl (Nat.le_of_ble_eq_true rfl) dL_law_252 ⟨Nat.le_of_ble_eq_true rfl, Nat.le_of_ble_eq_true rfl⟩ (fun r_6 u_4 H locs w_5 hP hD hS => ?_)
        obtain ⟨e7, hF8⟩ := w_5
        refine n_top e7 ?_
        have hP : va_P D vwCl ((cW a r k cI cT cN 0 xi xr pn pc rd B L q kq) ++ (mW h g cI u_4.1 hz u_4.2)) H := hP
        have hD : va_D A ((cW a r k cI cT cN 0 xi xr pn pc rd B L q kq) ++ (mW h g cI u_4.1 hz u_4.2)) := hD
        refine j_icmp_eq (tgt := 718) hx hb dL_law_255 (by decide) rfl rfl (fun c_7 => ?_) (fun c_7 => absurd c_7 (by omega))
        exact hN b pn pc rd B L q kq 0 xi xr u_4.1 hz u_4.2 (LI_s hLI) (hSR) (hF8) _ _ hP hD hS _ (lv_sub hl [0, 1, 2, 3] rfl)
      · have e8 : xh = 1 := by rw [l8, if_neg h0]
        subst e8
        rcases Decidable.em (q.1 = 5) with h9 | h9
        · refine lv_aload_n hx hb dL_law_227 rfl (lv_at hl 1 rfl) ?_
          refine lv_aload_n hx hb dL_law_228 rfl (lv_at hl 0 rfl) ?_
          refine lv_iload_n hx hb dL_law_229 rfl (lv_at hl 3 rfl) ?_
          refine lv_iconst (v := nI 1) hx hb dL_law_230 (by decide) ?_
          refine n_iadd hx hb dL_law_231 ?_
          refine n_sld hx hb hX hbl hbA hS (i := 4 * j + 1) (by omega) (by omega) dL_law_232 ?_
          refine n_top e1 ?_
          refine lv_aload_n hx hb dL_law_233 rfl (lv_at hl 0 rfl) ?_
          refine lv_iload_n hx hb dL_law_234 rfl (lv_at hl 3 rfl) ?_
          refine lv_iconst (v := nI 2) hx hb dL_law_235 (by decide) ?_
          refine n_iadd hx hb dL_law_236 ?_
          refine n_sld hx hb hX hbl hbA hS (i := 4 * j + 2) (by omega) (by omega) dL_law_237 ?_
          refine n_top e2 ?_
          refine rw_iV (X := []) (Y := (mW h g cI J hz G)) (n := 2) (As := [.int (nI kd), .int (nI v)]) ⟨hx, hb, hml, hown, hts⟩ (c_X6_tapF l D a r k cI cT cN _ xi xr pn pc rd B L q kq l3 kd v hkd hv h9) (cwV 2 hts (gV mg_279 mg_280 mg_281 mg_1 mg_282) rfl rfl rfl vd_X6_tap ⟨Nat.le_of_ble_eq_true rfl, Nat.le_of_ble_eq_true rfl⟩) (va_recv hK hP (ci := 6) (q0 := 0) rfl rfl) hK hP hD hS hA rfl hl.1 rfl (Nat.le_of_ble_eq_true rfl) dL_law_238 ⟨Nat.le_of_ble_eq_true rfl, Nat.le_of_ble_eq_true rfl⟩ (fun r_10 u_8 H locs w_9 hP hD hS => ?_)
          refine n_top w_9 ?_
          have hP : va_P D vwCl ((cW a r k cI cT cN 1 xi xr pn pc rd B L q kq) ++ (mW h g cI J hz G)) H := hP
          have hD : va_D A ((cW a r k cI cT cN 1 xi xr pn pc rd B L q kq) ++ (mW h g cI J hz G)) := hD
          refine lv_aload_n hx hb dL_law_241 rfl (lv_at hl 2 rfl) ?_
          refine lv_aload_n hx hb dL_law_242 rfl (lv_at hl 0 rfl) ?_
          refine lv_iload_n hx hb dL_law_243 rfl (lv_at hl 3 rfl) ?_
          refine lv_iconst (v := nI 1) hx hb dL_law_244 (by decide) ?_
          refine n_iadd hx hb dL_law_245 ?_
          refine n_sld hx hb hX hbl hbA hS (i := 4 * j + 1) (by omega) (by omega) dL_law_246 ?_
          refine n_top e1 ?_
          refine lv_aload_n hx hb dL_law_247 rfl (lv_at hl 0 rfl) ?_
          refine lv_iload_n hx hb dL_law_248 rfl (lv_at hl 3 rfl) ?_
          refine lv_iconst (v := nI 2) hx hb dL_law_249 (by decide) ?_
          refine n_iadd hx hb dL_law_250 ?_
          refine n_sld hx hb hX hbl hbA hS (i := 4 * j + 2) (by omega) (by omega) dL_law_251 ?_
          refine n_top e2 ?_
          refine rw_iV (X := (cW a r k cI cT cN 1 xi xr pn pc rd B L q kq)) (Y := []) (n := 2) (As := [.int (nI kd), .int (nI v)]) ⟨hx, hb, hml, hown, hts⟩ (c_X7_tapF l D h g cI _ J hz G b pn xr xi pc q kq hF l4 l3 kd v hkd hv h0 h9) (cwV 2 hts (gV mg_587 mg_588 mg_589 mg_8 mg_590) rfl rfl rfl vd_X7_tap ⟨Nat.le_of_ble_eq_true rfl, Nat.le_of_ble_eq_true rfl⟩) (va_recv hK hP (ci := 7) (q0 := 39) rfl rfl) (hK.sub [0] rfl) hP hD hS hA rfl hl.1 rfl (Nat.le_of_ble_eq_true rfl) dL_law_252 ⟨Nat.le_of_ble_eq_true rfl, Nat.le_of_ble_eq_true rfl⟩ (fun r_13 u_11 H locs w_12 hP hD hS => ?_)
          obtain ⟨e7, hF8⟩ := w_12
          refine n_top e7 ?_
          have hP : va_P D vwCl ((cW a r k cI cT cN 1 xi xr pn pc rd B L q kq) ++ (mW h g cI u_11.1 hz u_11.2)) H := hP
          have hD : va_D A ((cW a r k cI cT cN 1 xi xr pn pc rd B L q kq) ++ (mW h g cI u_11.1 hz u_11.2)) := hD
          refine j_icmp_eq (tgt := 718) hx hb dL_law_255 (by decide) rfl rfl (fun c_14 => ?_) (fun c_14 => absurd c_14 (by omega))
          exact hN b pn pc rd B L q kq 1 xi xr u_11.1 hz u_11.2 (LI_s hLI) (hSR) (hF8) _ _ hP hD hS _ (lv_sub hl [0, 1, 2, 3] rfl)
        · refine lv_aload_n hx hb dL_law_227 rfl (lv_at hl 1 rfl) ?_
          refine lv_aload_n hx hb dL_law_228 rfl (lv_at hl 0 rfl) ?_
          refine lv_iload_n hx hb dL_law_229 rfl (lv_at hl 3 rfl) ?_
          refine lv_iconst (v := nI 1) hx hb dL_law_230 (by decide) ?_
          refine n_iadd hx hb dL_law_231 ?_
          refine n_sld hx hb hX hbl hbA hS (i := 4 * j + 1) (by omega) (by omega) dL_law_232 ?_
          refine n_top e1 ?_
          refine lv_aload_n hx hb dL_law_233 rfl (lv_at hl 0 rfl) ?_
          refine lv_iload_n hx hb dL_law_234 rfl (lv_at hl 3 rfl) ?_
          refine lv_iconst (v := nI 2) hx hb dL_law_235 (by decide) ?_
          refine n_iadd hx hb dL_law_236 ?_
          refine n_sld hx hb hX hbl hbA hS (i := 4 * j + 2) (by omega) (by omega) dL_law_237 ?_
          refine n_top e2 ?_
          refine rw_iV (X := []) (Y := (mW h g cI J hz G)) (n := 2) (As := [.int (nI kd), .int (nI v)]) ⟨hx, hb, hml, hown, hts⟩ (c_X6_tapI l D a r k cI cT cN _ xi xr pn pc rd B L q kq l3 kd v hkd hv h9) (cwV 2 hts (gV mg_279 mg_280 mg_281 mg_1 mg_282) rfl rfl rfl vd_X6_tap ⟨Nat.le_of_ble_eq_true rfl, Nat.le_of_ble_eq_true rfl⟩) (va_recv hK hP (ci := 6) (q0 := 0) rfl rfl) hK hP hD hS hA rfl hl.1 rfl (Nat.le_of_ble_eq_true rfl) dL_law_238 ⟨Nat.le_of_ble_eq_true rfl, Nat.le_of_ble_eq_true rfl⟩ (fun r_17 u_15 H locs w_16 hP hD hS => ?_)
          refine n_top w_16 ?_
          have hP : va_P D vwCl ((cW a r k cI cT cN 1 xi xr pn pc rd B L (q.1 + 1, q.2.1, q.2.2.1, upR q.2.2.2.1 q.1 (rw4 kd v 0 0), q.2.2.2.2) kq) ++ (mW h g cI J hz G)) H := hP
          have hD : va_D A ((cW a r k cI cT cN 1 xi xr pn pc rd B L (q.1 + 1, q.2.1, q.2.2.1, upR q.2.2.2.1 q.1 (rw4 kd v 0 0), q.2.2.2.2) kq) ++ (mW h g cI J hz G)) := hD
          refine lv_aload_n hx hb dL_law_241 rfl (lv_at hl 2 rfl) ?_
          refine lv_aload_n hx hb dL_law_242 rfl (lv_at hl 0 rfl) ?_
          refine lv_iload_n hx hb dL_law_243 rfl (lv_at hl 3 rfl) ?_
          refine lv_iconst (v := nI 1) hx hb dL_law_244 (by decide) ?_
          refine n_iadd hx hb dL_law_245 ?_
          refine n_sld hx hb hX hbl hbA hS (i := 4 * j + 1) (by omega) (by omega) dL_law_246 ?_
          refine n_top e1 ?_
          refine lv_aload_n hx hb dL_law_247 rfl (lv_at hl 0 rfl) ?_
          refine lv_iload_n hx hb dL_law_248 rfl (lv_at hl 3 rfl) ?_
          refine lv_iconst (v := nI 2) hx hb dL_law_249 (by decide) ?_
          refine n_iadd hx hb dL_law_250 ?_
          refine n_sld hx hb hX hbl hbA hS (i := 4 * j + 2) (by omega) (by omega) dL_law_251 ?_
          refine n_top e2 ?_
          refine rw_iV (X := (cW a r k cI cT cN 1 xi xr pn pc rd B L (q.1 + 1, q.2.1, q.2.2.1, upR q.2.2.2.1 q.1 (rw4 kd v 0 0), q.2.2.2.2) kq)) (Y := []) (n := 2) (As := [.int (nI kd), .int (nI v)]) ⟨hx, hb, hml, hown, hts⟩ (c_X7_tapI l D h g cI _ J hz G b pn xr xi pc q kq hF l4 l3 kd v hkd hv h0 h9) (cwV 2 hts (gV mg_587 mg_588 mg_589 mg_8 mg_590) rfl rfl rfl vd_X7_tap ⟨Nat.le_of_ble_eq_true rfl, Nat.le_of_ble_eq_true rfl⟩) (va_recv hK hP (ci := 7) (q0 := 39) rfl rfl) (hK.sub [0] rfl) hP hD hS hA rfl hl.1 rfl (Nat.le_of_ble_eq_true rfl) dL_law_252 ⟨Nat.le_of_ble_eq_true rfl, Nat.le_of_ble_eq_true rfl⟩ (fun r_20 u_18 H locs w_19 hP hD hS => ?_)
          obtain ⟨e7, hF8⟩ := w_19
          refine n_top e7 ?_
          have hP : va_P D vwCl ((cW a r k cI cT cN 1 xi xr pn pc rd B L (q.1 + 1, q.2.1, q.2.2.1, upR q.2.2.2.1 q.1 (rw4 kd v 0 0), q.2.2.2.2) kq) ++ (mW h g cI u_18.1 hz u_18.2)) H := hP
          have hD : va_D A ((cW a r k cI cT cN 1 xi xr pn pc rd B L (q.1 + 1, q.2.1, q.2.2.1, upR q.2.2.2.1 q.1 (rw4 kd v 0 0), q.2.2.2.2) kq) ++ (mW h g cI u_18.1 hz u_18.2)) := hD
          refine j_icmp_eq (tgt := 718) hx hb dL_law_255 (by decide) rfl rfl (fun c_21 => ?_) (fun c_21 => absurd c_21 (fun z => z rfl))
          exact hN b pn pc rd B L (q.1 + 1, q.2.1, q.2.2.1, upR q.2.2.2.1 q.1 (rw4 kd v 0 0), q.2.2.2.2) kq 1 xi xr u_18.1 hz u_18.2 (LI_tap hLI h0 (Nat.succ_ne_zero _) (Tok_new l3 h9 hkd hv)) (hSR) (hF8) _ _ hP hD hS _ (lv_sub hl [0, 1, 2, 3] rfl)
    · refine lv_aload_n hx hb dL_law_227 rfl (lv_at hl 1 rfl) ?_
      refine lv_aload_n hx hb dL_law_228 rfl (lv_at hl 0 rfl) ?_
      refine lv_iload_n hx hb dL_law_229 rfl (lv_at hl 3 rfl) ?_
      refine lv_iconst (v := nI 1) hx hb dL_law_230 (by decide) ?_
      refine n_iadd hx hb dL_law_231 ?_
      refine n_sld hx hb hX hbl hbA hS (i := 4 * j + 1) (by omega) (by omega) dL_law_232 ?_
      refine n_top e1 ?_
      refine lv_aload_n hx hb dL_law_233 rfl (lv_at hl 0 rfl) ?_
      refine lv_iload_n hx hb dL_law_234 rfl (lv_at hl 3 rfl) ?_
      refine lv_iconst (v := nI 2) hx hb dL_law_235 (by decide) ?_
      refine n_iadd hx hb dL_law_236 ?_
      refine n_sld hx hb hX hbl hbA hS (i := 4 * j + 2) (by omega) (by omega) dL_law_237 ?_
      refine rw_iV (X := []) (Y := (mW h g cI J hz G)) (n := 2) (As := [.int (nI kd), .int (xs (4 * j + 2))]) ⟨hx, hb, hml, hown, hts⟩ (c_X6_tapO2 l D a r k cI cT cN _ xh xi xr pn pc rd B L q kq l3 kd hkd (xs (4 * j + 2)) ow) (cwV 2 hts (gV mg_279 mg_280 mg_281 mg_1 mg_282) rfl rfl rfl vd_X6_tap ⟨Nat.le_of_ble_eq_true rfl, Nat.le_of_ble_eq_true rfl⟩) (va_recv hK hP (ci := 6) (q0 := 0) rfl rfl) hK hP hD hS hA rfl hl.1 rfl (Nat.le_of_ble_eq_true rfl) dL_law_238 ⟨Nat.le_of_ble_eq_true rfl, Nat.le_of_ble_eq_true rfl⟩ (fun r_24 u_22 H locs w_23 hP hD hS => ?_)
      refine n_top w_23 ?_
      have hP : va_P D vwCl ((cW a r k cI cT cN xh xi xr pn pc rd B L q kq) ++ (mW h g cI J hz G)) H := hP
      have hD : va_D A ((cW a r k cI cT cN xh xi xr pn pc rd B L q kq) ++ (mW h g cI J hz G)) := hD
      refine lv_aload_n hx hb dL_law_241 rfl (lv_at hl 2 rfl) ?_
      refine lv_aload_n hx hb dL_law_242 rfl (lv_at hl 0 rfl) ?_
      refine lv_iload_n hx hb dL_law_243 rfl (lv_at hl 3 rfl) ?_
      refine lv_iconst (v := nI 1) hx hb dL_law_244 (by decide) ?_
      refine n_iadd hx hb dL_law_245 ?_
      refine n_sld hx hb hX hbl hbA hS (i := 4 * j + 1) (by omega) (by omega) dL_law_246 ?_
      refine n_top e1 ?_
      refine lv_aload_n hx hb dL_law_247 rfl (lv_at hl 0 rfl) ?_
      refine lv_iload_n hx hb dL_law_248 rfl (lv_at hl 3 rfl) ?_
      refine lv_iconst (v := nI 2) hx hb dL_law_249 (by decide) ?_
      refine n_iadd hx hb dL_law_250 ?_
      refine n_sld hx hb hX hbl hbA hS (i := 4 * j + 2) (by omega) (by omega) dL_law_251 ?_
      refine rw_iV (X := (cW a r k cI cT cN xh xi xr pn pc rd B L q kq)) (Y := []) (n := 2) (As := [.int (nI kd), .int (xs (4 * j + 2))]) ⟨hx, hb, hml, hown, hts⟩ (c_X7_tapO2 l D h g cI _ J hz G b pn xr xi pc q kq hF l4 l3 kd hkd (xs (4 * j + 2)) ow) (cwV 2 hts (gV mg_587 mg_588 mg_589 mg_8 mg_590) rfl rfl rfl vd_X7_tap ⟨Nat.le_of_ble_eq_true rfl, Nat.le_of_ble_eq_true rfl⟩) (va_recv hK hP (ci := 7) (q0 := 39) rfl rfl) (hK.sub [0] rfl) hP hD hS hA rfl hl.1 rfl (Nat.le_of_ble_eq_true rfl) dL_law_252 ⟨Nat.le_of_ble_eq_true rfl, Nat.le_of_ble_eq_true rfl⟩ (fun r_27 u_25 H locs w_26 hP hD hS => ?_)
      obtain ⟨e7, hF8⟩ := w_26
      refine n_top e7 ?_
      have hP : va_P D vwCl ((cW a r k cI cT cN xh xi xr pn pc rd B L q kq) ++ (mW h g cI u_25.1 hz u_25.2)) H := hP
      have hD : va_D A ((cW a r k cI cT cN xh xi xr pn pc rd B L q kq) ++ (mW h g cI u_25.1 hz u_25.2)) := hD
      refine j_icmp_eq (tgt := 718) hx hb dL_law_255 (by decide) rfl rfl (fun c_28 => ?_) (fun c_28 => absurd c_28 (by omega))
      exact hN b pn pc rd B L q kq xh xi xr u_25.1 hz u_25.2 (LI_s hLI) (hSR) (hF8) _ _ hP hD hS _ (lv_sub hl [0, 1, 2, 3] rfl)
  · refine lv_aload_n hx hb dL_law_227 rfl (lv_at hl 1 rfl) ?_
    refine lv_aload_n hx hb dL_law_228 rfl (lv_at hl 0 rfl) ?_
    refine lv_iload_n hx hb dL_law_229 rfl (lv_at hl 3 rfl) ?_
    refine lv_iconst (v := nI 1) hx hb dL_law_230 (by decide) ?_
    refine n_iadd hx hb dL_law_231 ?_
    refine n_sld hx hb hX hbl hbA hS (i := 4 * j + 1) (by omega) (by omega) dL_law_232 ?_
    refine lv_aload_n hx hb dL_law_233 rfl (lv_at hl 0 rfl) ?_
    refine lv_iload_n hx hb dL_law_234 rfl (lv_at hl 3 rfl) ?_
    refine lv_iconst (v := nI 2) hx hb dL_law_235 (by decide) ?_
    refine n_iadd hx hb dL_law_236 ?_
    refine n_sld hx hb hX hbl hbA hS (i := 4 * j + 2) (by omega) (by omega) dL_law_237 ?_
    refine rw_iV (X := []) (Y := (mW h g cI J hz G)) (n := 2) (As := [.int (xs (4 * j + 1)), .int (xs (4 * j + 2))]) ⟨hx, hb, hml, hown, hts⟩ (c_X6_tapO1 l D a r k cI cT cN _ xh xi xr pn pc rd B L q kq l3 (xs (4 * j + 1)) (xs (4 * j + 2)) ox) (cwV 2 hts (gV mg_279 mg_280 mg_281 mg_1 mg_282) rfl rfl rfl vd_X6_tap ⟨Nat.le_of_ble_eq_true rfl, Nat.le_of_ble_eq_true rfl⟩) (va_recv hK hP (ci := 6) (q0 := 0) rfl rfl) hK hP hD hS hA rfl hl.1 rfl (Nat.le_of_ble_eq_true rfl) dL_law_238 ⟨Nat.le_of_ble_eq_true rfl, Nat.le_of_ble_eq_true rfl⟩ (fun r_31 u_29 H locs w_30 hP hD hS => ?_)
    refine n_top w_30 ?_
    have hP : va_P D vwCl ((cW a r k cI cT cN xh xi xr pn pc rd B L q kq) ++ (mW h g cI J hz G)) H := hP
    have hD : va_D A ((cW a r k cI cT cN xh xi xr pn pc rd B L q kq) ++ (mW h g cI J hz G)) := hD
    refine lv_aload_n hx hb dL_law_241 rfl (lv_at hl 2 rfl) ?_
    refine lv_aload_n hx hb dL_law_242 rfl (lv_at hl 0 rfl) ?_
    refine lv_iload_n hx hb dL_law_243 rfl (lv_at hl 3 rfl) ?_
    refine lv_iconst (v := nI 1) hx hb dL_law_244 (by decide) ?_
    refine n_iadd hx hb dL_law_245 ?_
    refine n_sld hx hb hX hbl hbA hS (i := 4 * j + 1) (by omega) (by omega) dL_law_246 ?_
    refine lv_aload_n hx hb dL_law_247 rfl (lv_at hl 0 rfl) ?_
    refine lv_iload_n hx hb dL_law_248 rfl (lv_at hl 3 rfl) ?_
    refine lv_iconst (v := nI 2) hx hb dL_law_249 (by decide) ?_
    refine n_iadd hx hb dL_law_250 ?_
    refine n_sld hx hb hX hbl hbA hS (i := 4 * j + 2) (by omega) (by omega) dL_law_251 ?_
    refine rw_iV (X := (cW a r k cI cT cN xh xi xr pn pc rd B L q kq)) (Y := []) (n := 2) (As := [.int (xs (4 * j + 1)), .int (xs (4 * j + 2))]) ⟨hx, hb, hml, hown, hts⟩ (c_X7_tapO1 l D h g cI _ J hz G b pn xr xi pc q kq hF l4 l3 (xs (4 * j + 1)) (xs (4 * j + 2)) ox) (cwV 2 hts (gV mg_587 mg_588 mg_589 mg_8 mg_590) rfl rfl rfl vd_X7_tap ⟨Nat.le_of_ble_eq_true rfl, Nat.le_of_ble_eq_true rfl⟩) (va_recv hK hP (ci := 7) (q0 := 39) rfl rfl) (hK.sub [0] rfl) hP hD hS hA rfl hl.1 rfl (Nat.le_of_ble_eq_true rfl) dL_law_252 ⟨Nat.le_of_ble_eq_true rfl, Nat.le_of_ble_eq_true rfl⟩ (fun r_34 u_32 H locs w_33 hP hD hS => ?_)
    obtain ⟨e7, hF8⟩ := w_33
    refine n_top e7 ?_
    have hP : va_P D vwCl ((cW a r k cI cT cN xh xi xr pn pc rd B L q kq) ++ (mW h g cI u_32.1 hz u_32.2)) H := hP
    have hD : va_D A ((cW a r k cI cT cN xh xi xr pn pc rd B L q kq) ++ (mW h g cI u_32.1 hz u_32.2)) := hD
    refine j_icmp_eq (tgt := 718) hx hb dL_law_255 (by decide) rfl rfl (fun c_35 => ?_) (fun c_35 => absurd c_35 (by omega))
    exact hN b pn pc rd B L q kq xh xi xr u_32.1 hz u_32.2 (LI_s hLI) (hSR) (hF8) _ _ hP hD hS _ (lv_sub hl [0, 1, 2, 3] rfl)

set_option maxHeartbeats 4000000 in
set_option maxRecDepth 100000 in
theorem law_c9 {p : Program} {e : Env} {s : State} {m : MethodId} {below : List Frame} {meth : Method} {c : Code} (l : Launch) {bb L0 : Nat} {xs : Nat → Int32} (hL : L0 ≤ 256) (C0 : lw_At p s m meth c bb L0 xs) (D : va_G) (cI cT cN : ClassId) (hK : va_K D vwCl (cTys cI cT cN) s) (a r k g : Nat → Nat) (h : Nat) (A : Nat → Prop) (hA : ∀ q : Nat, s.heap.size ≤ q → A q) (hbA : ¬ A bb) (j : Nat) (hj : 4 * j + 4 ≤ L0) (hN : LN p l e s m below meth c bb h a r k g cI cT cN D A j) (b : Nat → Nat → Nat) (pn : Nat) (pc : Nat → Int32) (rd : Nat × Nat × Nat) (B L : Nat → Int32) (q kq : RS) (xh xi xr : Nat) (J : Nat → Int32) (hz : Int64) (G : Nat → Nat → Int32) (hLI : LI b pn xr xi xh pc q kq j) (hSR : SR b B L) (hF : MF b pn xr xi pc q kq J G) (H : Heap) (locs : List Loc) (hP : va_P D vwCl (cW a r k cI cT cN xh xi xr pn pc rd B L q kq ++ mW h g cI J hz G) H) (hD : va_D A (cW a r k cI cT cN xh xi xr pn pc rd B L q kq ++ mW h g cI J hz G)) (hS : va_S A s.heap H locs) (ls : Array Slot) (hl : lv_has ls 4 [(0, .ref bb), (1, .ref (a 0)), (2, .ref h), (3, .int (nI (4 * j)))]) : W p l e room_1 s m #[Value.ref bb] below meth c H locs 600000 7302250 (lw_Z below #[Value.ref bb] s) (F0 m 359 ls []) := by
  obtain ⟨hx, hb, hr, hml, hown, htsL, hX, hbl, hlocks, hgv⟩ := id C0
  have hts : ∀ w ∈ wAll, w.before #[Value.ref bb] s = true := fun w h => htsL w (wAll_in h)
  have hnst : ∀ w ∈ wNst, w.before #[Value.ref bb] s = true := fun w h => htsL w (wNst_in w h)
  have hown : s.vm.findClass RL = some m.cls := hown
  obtain ⟨l1, l2, l3, l4, l5, l6, l7, l8⟩ := id hLI
  have hb4 := LI_b4 hLI
  have ht5 := l3.1
  rcases inr_or (xs (4 * j + 1)) q.1 q.1 rfl (by omega) with ⟨i, hi, e1⟩ | ox
  · rcases Decidable.em (q.2.2.2.1 i 3 = 60) with h60 | h60
    · refine lv_aload_n hx hb dL_law_359 rfl (lv_at hl 1 rfl) ?_
      refine lv_aload_n hx hb dL_law_360 rfl (lv_at hl 0 rfl) ?_
      refine lv_iload_n hx hb dL_law_361 rfl (lv_at hl 3 rfl) ?_
      refine lv_iconst (v := nI 1) hx hb dL_law_362 (by decide) ?_
      refine n_iadd hx hb dL_law_363 ?_
      refine n_sld hx hb hX hbl hbA hS (i := 4 * j + 1) (by omega) (by omega) dL_law_364 ?_
      refine n_top e1 ?_
      refine rw_iV (X := []) (Y := (mW h g cI J hz G)) (n := 1) (As := [.int (nI i)]) ⟨hx, hb, hml, hown, hts⟩ (c_X6_listenS l D a r k cI cT cN _ xh xi xr pn pc rd B L q kq b hSR l4 l3 i hi h60) (cwV 1 hts (gV mg_348 mg_349 mg_350 mg_1 mg_351) rfl rfl rfl vd_X6_listen ⟨Nat.le_of_ble_eq_true rfl, Nat.le_of_ble_eq_true rfl⟩) (va_recv hK hP (ci := 6) (q0 := 0) rfl rfl) hK hP hD hS hA rfl hl.1 rfl (Nat.le_of_ble_eq_true rfl) dL_law_365 ⟨Nat.le_of_ble_eq_true rfl, Nat.le_of_ble_eq_true rfl⟩ (fun r_3 u_1 H locs w_2 hP hD hS => ?_)
      refine n_top w_2 ?_
      have hP : va_P D vwCl ((cW a r k cI cT cN xh xi xr pn pc rd B L q kq) ++ (mW h g cI J hz G)) H := hP
      have hD : va_D A ((cW a r k cI cT cN xh xi xr pn pc rd B L q kq) ++ (mW h g cI J hz G)) := hD
      refine lv_aload_n hx hb dL_law_368 rfl (lv_at hl 2 rfl) ?_
      refine lv_aload_n hx hb dL_law_369 rfl (lv_at hl 0 rfl) ?_
      refine lv_iload_n hx hb dL_law_370 rfl (lv_at hl 3 rfl) ?_
      refine lv_iconst (v := nI 1) hx hb dL_law_371 (by decide) ?_
      refine n_iadd hx hb dL_law_372 ?_
      refine n_sld hx hb hX hbl hbA hS (i := 4 * j + 1) (by omega) (by omega) dL_law_373 ?_
      refine n_top e1 ?_
      refine rw_iV (X := (cW a r k cI cT cN xh xi xr pn pc rd B L q kq)) (Y := []) (n := 1) (As := [.int (nI i)]) ⟨hx, hb, hml, hown, hts⟩ (c_X7_listenS l D h g cI _ J hz G b pn xr xi pc q kq hF l4 l3 i hi h60) (cwV 1 hts (gV mg_649 mg_650 mg_651 mg_8 mg_652) rfl rfl rfl vd_X7_listen ⟨Nat.le_of_ble_eq_true rfl, Nat.le_of_ble_eq_true rfl⟩) (va_recv hK hP (ci := 7) (q0 := 39) rfl rfl) (hK.sub [0] rfl) hP hD hS hA rfl hl.1 rfl (Nat.le_of_ble_eq_true rfl) dL_law_374 ⟨Nat.le_of_ble_eq_true rfl, Nat.le_of_ble_eq_true rfl⟩ (fun r_6 u_4 H locs w_5 hP hD hS => ?_)
      obtain ⟨e7, hF8⟩ := w_5
      refine n_top e7 ?_
      have hP : va_P D vwCl ((cW a r k cI cT cN xh xi xr pn pc rd B L q kq) ++ (mW h g cI u_4.1 hz u_4.2)) H := hP
      have hD : va_D A ((cW a r k cI cT cN xh xi xr pn pc rd B L q kq) ++ (mW h g cI u_4.1 hz u_4.2)) := hD
      refine j_icmp_eq (tgt := 718) hx hb dL_law_377 (by decide) rfl rfl (fun c_7 => ?_) (fun c_7 => absurd c_7 (by omega))
      exact hN b pn pc rd B L q kq xh xi xr u_4.1 hz u_4.2 (LI_s hLI) (hSR) (hF8) _ _ hP hD hS _ (lv_sub hl [0, 1, 2, 3] rfl)
    · have h61 : rw4 (q.2.2.2.1 i 0) (q.2.2.2.1 i 1) (q.2.2.2.1 i 2) (q.2.2.2.1 i 3 + 1) 3 ≤ 60 := by
        have h7 := (l3.2.2.1 i hi).2.2.2
        show q.2.2.2.1 i 3 + 1 ≤ 60
        omega
      refine lv_aload_n hx hb dL_law_359 rfl (lv_at hl 1 rfl) ?_
      refine lv_aload_n hx hb dL_law_360 rfl (lv_at hl 0 rfl) ?_
      refine lv_iload_n hx hb dL_law_361 rfl (lv_at hl 3 rfl) ?_
      refine lv_iconst (v := nI 1) hx hb dL_law_362 (by decide) ?_
      refine n_iadd hx hb dL_law_363 ?_
      refine n_sld hx hb hX hbl hbA hS (i := 4 * j + 1) (by omega) (by omega) dL_law_364 ?_
      refine n_top e1 ?_
      refine rw_iV (X := []) (Y := (mW h g cI J hz G)) (n := 1) (As := [.int (nI i)]) ⟨hx, hb, hml, hown, hts⟩ (c_X6_listenI l D a r k cI cT cN _ xh xi xr pn pc rd B L q kq b hSR l4 l3 i hi h60) (cwV 1 hts (gV mg_348 mg_349 mg_350 mg_1 mg_351) rfl rfl rfl vd_X6_listen ⟨Nat.le_of_ble_eq_true rfl, Nat.le_of_ble_eq_true rfl⟩) (va_recv hK hP (ci := 6) (q0 := 0) rfl rfl) hK hP hD hS hA rfl hl.1 rfl (Nat.le_of_ble_eq_true rfl) dL_law_365 ⟨Nat.le_of_ble_eq_true rfl, Nat.le_of_ble_eq_true rfl⟩ (fun r_10 u_8 H locs w_9 hP hD hS => ?_)
      refine n_top w_9 ?_
      have hP : va_P D vwCl ((cW a r k cI cT cN xh xi xr pn pc rd B L (q.1, q.2.1, q.2.2.1 + nI 1, upR q.2.2.2.1 i (rw4 (q.2.2.2.1 i 0) (q.2.2.2.1 i 1) (q.2.2.2.1 i 2) (q.2.2.2.1 i 3 + 1)), q.2.2.2.2) kq) ++ (mW h g cI J hz G)) H := hP
      have hD : va_D A ((cW a r k cI cT cN xh xi xr pn pc rd B L (q.1, q.2.1, q.2.2.1 + nI 1, upR q.2.2.2.1 i (rw4 (q.2.2.2.1 i 0) (q.2.2.2.1 i 1) (q.2.2.2.1 i 2) (q.2.2.2.1 i 3 + 1)), q.2.2.2.2) kq) ++ (mW h g cI J hz G)) := hD
      refine lv_aload_n hx hb dL_law_368 rfl (lv_at hl 2 rfl) ?_
      refine lv_aload_n hx hb dL_law_369 rfl (lv_at hl 0 rfl) ?_
      refine lv_iload_n hx hb dL_law_370 rfl (lv_at hl 3 rfl) ?_
      refine lv_iconst (v := nI 1) hx hb dL_law_371 (by decide) ?_
      refine n_iadd hx hb dL_law_372 ?_
      refine n_sld hx hb hX hbl hbA hS (i := 4 * j + 1) (by omega) (by omega) dL_law_373 ?_
      refine n_top e1 ?_
      refine rw_iV (X := (cW a r k cI cT cN xh xi xr pn pc rd B L (q.1, q.2.1, q.2.2.1 + nI 1, upR q.2.2.2.1 i (rw4 (q.2.2.2.1 i 0) (q.2.2.2.1 i 1) (q.2.2.2.1 i 2) (q.2.2.2.1 i 3 + 1)), q.2.2.2.2) kq)) (Y := []) (n := 1) (As := [.int (nI i)]) ⟨hx, hb, hml, hown, hts⟩ (c_X7_listenI l D h g cI _ J hz G b pn xr xi pc q kq hF l4 l3 i hi h60) (cwV 1 hts (gV mg_649 mg_650 mg_651 mg_8 mg_652) rfl rfl rfl vd_X7_listen ⟨Nat.le_of_ble_eq_true rfl, Nat.le_of_ble_eq_true rfl⟩) (va_recv hK hP (ci := 7) (q0 := 39) rfl rfl) (hK.sub [0] rfl) hP hD hS hA rfl hl.1 rfl (Nat.le_of_ble_eq_true rfl) dL_law_374 ⟨Nat.le_of_ble_eq_true rfl, Nat.le_of_ble_eq_true rfl⟩ (fun r_13 u_11 H locs w_12 hP hD hS => ?_)
      obtain ⟨e7, hF8⟩ := w_12
      refine n_top e7 ?_
      have hP : va_P D vwCl ((cW a r k cI cT cN xh xi xr pn pc rd B L (q.1, q.2.1, q.2.2.1 + nI 1, upR q.2.2.2.1 i (rw4 (q.2.2.2.1 i 0) (q.2.2.2.1 i 1) (q.2.2.2.1 i 2) (q.2.2.2.1 i 3 + 1)), q.2.2.2.2) kq) ++ (mW h g cI u_11.1 hz u_11.2)) H := hP
      have hD : va_D A ((cW a r k cI cT cN xh xi xr pn pc rd B L (q.1, q.2.1, q.2.2.1 + nI 1, upR q.2.2.2.1 i (rw4 (q.2.2.2.1 i 0) (q.2.2.2.1 i 1) (q.2.2.2.1 i 2) (q.2.2.2.1 i 3 + 1)), q.2.2.2.2) kq) ++ (mW h g cI u_11.1 hz u_11.2)) := hD
      refine j_icmp_eq (tgt := 718) hx hb dL_law_377 (by decide) rfl rfl (fun c_14 => ?_) (fun c_14 => absurd c_14 (fun z => z rfl))
      exact hN b pn pc rd B L (q.1, q.2.1, q.2.2.1 + nI 1, upR q.2.2.2.1 i (rw4 (q.2.2.2.1 i 0) (q.2.2.2.1 i 1) (q.2.2.2.1 i 2) (q.2.2.2.1 i 3 + 1)), q.2.2.2.2) kq xh xi xr u_11.1 hz u_11.2 (LI_q hLI rfl (Tok_row l3 (l3.2.2.1 i hi).1 (l3.2.2.1 i hi).2.1 (l3.2.2.1 i hi).2.2.1 h61)) (hSR) (hF8) _ _ hP hD hS _ (lv_sub hl [0, 1, 2, 3] rfl)
  · refine lv_aload_n hx hb dL_law_359 rfl (lv_at hl 1 rfl) ?_
    refine lv_aload_n hx hb dL_law_360 rfl (lv_at hl 0 rfl) ?_
    refine lv_iload_n hx hb dL_law_361 rfl (lv_at hl 3 rfl) ?_
    refine lv_iconst (v := nI 1) hx hb dL_law_362 (by decide) ?_
    refine n_iadd hx hb dL_law_363 ?_
    refine n_sld hx hb hX hbl hbA hS (i := 4 * j + 1) (by omega) (by omega) dL_law_364 ?_
    refine rw_iV (X := []) (Y := (mW h g cI J hz G)) (n := 1) (As := [.int (xs (4 * j + 1))]) ⟨hx, hb, hml, hown, hts⟩ (c_X6_listenX l D a r k cI cT cN _ xh xi xr pn pc rd B L q kq b hSR l4 l3 (xs (4 * j + 1)) ox) (cwV 1 hts (gV mg_348 mg_349 mg_350 mg_1 mg_351) rfl rfl rfl vd_X6_listen ⟨Nat.le_of_ble_eq_true rfl, Nat.le_of_ble_eq_true rfl⟩) (va_recv hK hP (ci := 6) (q0 := 0) rfl rfl) hK hP hD hS hA rfl hl.1 rfl (Nat.le_of_ble_eq_true rfl) dL_law_365 ⟨Nat.le_of_ble_eq_true rfl, Nat.le_of_ble_eq_true rfl⟩ (fun r_17 u_15 H locs w_16 hP hD hS => ?_)
    refine n_top w_16 ?_
    have hP : va_P D vwCl ((cW a r k cI cT cN xh xi xr pn pc rd B L q kq) ++ (mW h g cI J hz G)) H := hP
    have hD : va_D A ((cW a r k cI cT cN xh xi xr pn pc rd B L q kq) ++ (mW h g cI J hz G)) := hD
    refine lv_aload_n hx hb dL_law_368 rfl (lv_at hl 2 rfl) ?_
    refine lv_aload_n hx hb dL_law_369 rfl (lv_at hl 0 rfl) ?_
    refine lv_iload_n hx hb dL_law_370 rfl (lv_at hl 3 rfl) ?_
    refine lv_iconst (v := nI 1) hx hb dL_law_371 (by decide) ?_
    refine n_iadd hx hb dL_law_372 ?_
    refine n_sld hx hb hX hbl hbA hS (i := 4 * j + 1) (by omega) (by omega) dL_law_373 ?_
    refine rw_iV (X := (cW a r k cI cT cN xh xi xr pn pc rd B L q kq)) (Y := []) (n := 1) (As := [.int (xs (4 * j + 1))]) ⟨hx, hb, hml, hown, hts⟩ (c_X7_listenX l D h g cI _ J hz G b pn xr xi pc q kq hF l4 l3 (xs (4 * j + 1)) ox) (cwV 1 hts (gV mg_649 mg_650 mg_651 mg_8 mg_652) rfl rfl rfl vd_X7_listen ⟨Nat.le_of_ble_eq_true rfl, Nat.le_of_ble_eq_true rfl⟩) (va_recv hK hP (ci := 7) (q0 := 39) rfl rfl) (hK.sub [0] rfl) hP hD hS hA rfl hl.1 rfl (Nat.le_of_ble_eq_true rfl) dL_law_374 ⟨Nat.le_of_ble_eq_true rfl, Nat.le_of_ble_eq_true rfl⟩ (fun r_20 u_18 H locs w_19 hP hD hS => ?_)
    obtain ⟨e7, hF8⟩ := w_19
    refine n_top e7 ?_
    have hP : va_P D vwCl ((cW a r k cI cT cN xh xi xr pn pc rd B L q kq) ++ (mW h g cI u_18.1 hz u_18.2)) H := hP
    have hD : va_D A ((cW a r k cI cT cN xh xi xr pn pc rd B L q kq) ++ (mW h g cI u_18.1 hz u_18.2)) := hD
    refine j_icmp_eq (tgt := 718) hx hb dL_law_377 (by decide) rfl rfl (fun c_21 => ?_) (fun c_21 => absurd c_21 (by omega))
    exact hN b pn pc rd B L q kq xh xi xr u_18.1 hz u_18.2 (LI_s hLI) (hSR) (hF8) _ _ hP hD hS _ (lv_sub hl [0, 1, 2, 3] rfl)

set_option maxHeartbeats 4000000 in
set_option maxRecDepth 100000 in
theorem law_c10 {p : Program} {e : Env} {s : State} {m : MethodId} {below : List Frame} {meth : Method} {c : Code} (l : Launch) {bb L0 : Nat} {xs : Nat → Int32} (hL : L0 ≤ 256) (C0 : lw_At p s m meth c bb L0 xs) (D : va_G) (cI cT cN : ClassId) (hK : va_K D vwCl (cTys cI cT cN) s) (a r k g : Nat → Nat) (h : Nat) (A : Nat → Prop) (hA : ∀ q : Nat, s.heap.size ≤ q → A q) (hbA : ¬ A bb) (j : Nat) (hj : 4 * j + 4 ≤ L0) (hN : LN p l e s m below meth c bb h a r k g cI cT cN D A j) (b : Nat → Nat → Nat) (pn : Nat) (pc : Nat → Int32) (rd : Nat × Nat × Nat) (B L : Nat → Int32) (q kq : RS) (xh xi xr : Nat) (J : Nat → Int32) (hz : Int64) (G : Nat → Nat → Int32) (hLI : LI b pn xr xi xh pc q kq j) (hSR : SR b B L) (hF : MF b pn xr xi pc q kq J G) (H : Heap) (locs : List Loc) (hP : va_P D vwCl (cW a r k cI cT cN xh xi xr pn pc rd B L q kq ++ mW h g cI J hz G) H) (hD : va_D A (cW a r k cI cT cN xh xi xr pn pc rd B L q kq ++ mW h g cI J hz G)) (hS : va_S A s.heap H locs) (ls : Array Slot) (hl : lv_has ls 4 [(0, .ref bb), (1, .ref (a 0)), (2, .ref h), (3, .int (nI (4 * j)))]) : W p l e room_1 s m #[Value.ref bb] below meth c H locs 600000 7302250 (lw_Z below #[Value.ref bb] s) (F0 m 382 ls []) := by
  obtain ⟨hx, hb, hr, hml, hown, htsL, hX, hbl, hlocks, hgv⟩ := id C0
  have hts : ∀ w ∈ wAll, w.before #[Value.ref bb] s = true := fun w h => htsL w (wAll_in h)
  have hnst : ∀ w ∈ wNst, w.before #[Value.ref bb] s = true := fun w h => htsL w (wNst_in w h)
  have hown : s.vm.findClass RL = some m.cls := hown
  obtain ⟨l1, l2, l3, l4, l5, l6, l7, l8⟩ := id hLI
  have hb4 := LI_b4 hLI
  have ht5 := l3.1
  rcases inr_or (xs (4 * j + 1)) q.1 q.1 rfl (by omega) with ⟨i, hi, e1⟩ | ox
  · refine lv_aload_n hx hb dL_law_382 rfl (lv_at hl 1 rfl) ?_
    refine lv_aload_n hx hb dL_law_383 rfl (lv_at hl 0 rfl) ?_
    refine lv_iload_n hx hb dL_law_384 rfl (lv_at hl 3 rfl) ?_
    refine lv_iconst (v := nI 1) hx hb dL_law_385 (by decide) ?_
    refine n_iadd hx hb dL_law_386 ?_
    refine n_sld hx hb hX hbl hbA hS (i := 4 * j + 1) (by omega) (by omega) dL_law_387 ?_
    refine n_top e1 ?_
    refine lv_aload_n hx hb dL_law_388 rfl (lv_at hl 0 rfl) ?_
    refine lv_iload_n hx hb dL_law_389 rfl (lv_at hl 3 rfl) ?_
    refine lv_iconst (v := nI 2) hx hb dL_law_390 (by decide) ?_
    refine n_iadd hx hb dL_law_391 ?_
    refine n_sld hx hb hX hbl hbA hS (i := 4 * j + 2) (by omega) (by omega) dL_law_392 ?_
    refine j_if_eq (tgt := 400) hx hb dL_law_393 (by decide) rfl (fun c_1 => ?_) (fun c_1 => ?_)
    · refine lv_iconst (v := nI 0) hx hb dL_law_400 (by decide) ?_
      refine rw_iV (X := []) (Y := (mW h g cI J hz G)) (n := 2) (As := [.int (nI i), .int (nI 0)]) ⟨hx, hb, hml, hown, hts⟩ (c_X6_washerI0 l D a r k cI cT cN _ xh xi xr pn pc rd B L q kq l3 i hi) (cwV 2 hts (gV mg_352 mg_353 mg_354 mg_1 mg_355) rfl rfl rfl vd_X6_washer ⟨Nat.le_of_ble_eq_true rfl, Nat.le_of_ble_eq_true rfl⟩) (va_recv hK hP (ci := 6) (q0 := 0) rfl rfl) hK hP hD hS hA rfl hl.1 rfl (Nat.le_of_ble_eq_true rfl) dL_law_401 ⟨Nat.le_of_ble_eq_true rfl, Nat.le_of_ble_eq_true rfl⟩ (fun r_4 u_2 H locs w_3 hP hD hS => ?_)
      refine n_top w_3 ?_
      have hP : va_P D vwCl ((cW a r k cI cT cN xh xi xr pn pc rd B L (q.1, q.2.1, q.2.2.1 + nI 1, upR q.2.2.2.1 i (rw4 (q.2.2.2.1 i 0) (q.2.2.2.1 i 1) 0 (q.2.2.2.1 i 3)), q.2.2.2.2) kq) ++ (mW h g cI J hz G)) H := hP
      have hD : va_D A ((cW a r k cI cT cN xh xi xr pn pc rd B L (q.1, q.2.1, q.2.2.1 + nI 1, upR q.2.2.2.1 i (rw4 (q.2.2.2.1 i 0) (q.2.2.2.1 i 1) 0 (q.2.2.2.1 i 3)), q.2.2.2.2) kq) ++ (mW h g cI J hz G)) := hD
      refine lv_aload_n hx hb dL_law_404 rfl (lv_at hl 2 rfl) ?_
      refine lv_aload_n hx hb dL_law_405 rfl (lv_at hl 0 rfl) ?_
      refine lv_iload_n hx hb dL_law_406 rfl (lv_at hl 3 rfl) ?_
      refine lv_iconst (v := nI 1) hx hb dL_law_407 (by decide) ?_
      refine n_iadd hx hb dL_law_408 ?_
      refine n_sld hx hb hX hbl hbA hS (i := 4 * j + 1) (by omega) (by omega) dL_law_409 ?_
      refine n_top e1 ?_
      refine lv_aload_n hx hb dL_law_410 rfl (lv_at hl 0 rfl) ?_
      refine lv_iload_n hx hb dL_law_411 rfl (lv_at hl 3 rfl) ?_
      refine lv_iconst (v := nI 2) hx hb dL_law_412 (by decide) ?_
      refine n_iadd hx hb dL_law_413 ?_
      refine n_sld hx hb hX hbl hbA hS (i := 4 * j + 2) (by omega) (by omega) dL_law_414 ?_
      refine j_if_eq (tgt := 422) hx hb dL_law_415 (by decide) rfl (fun c_9 => ?_) (fun c_9 => absurd c_1 c_9)
      refine lv_iconst (v := nI 0) hx hb dL_law_422 (by decide) ?_
      refine rw_iV (X := (cW a r k cI cT cN xh xi xr pn pc rd B L (q.1, q.2.1, q.2.2.1 + nI 1, upR q.2.2.2.1 i (rw4 (q.2.2.2.1 i 0) (q.2.2.2.1 i 1) 0 (q.2.2.2.1 i 3)), q.2.2.2.2) kq)) (Y := []) (n := 2) (As := [.int (nI i), .int (nI 0)]) ⟨hx, hb, hml, hown, hts⟩ (c_X7_washerI0 l D h g cI _ J hz G b pn xr xi pc q kq hF l4 l3 i hi) (cwV 2 hts (gV mg_653 mg_654 mg_655 mg_8 mg_656) rfl rfl rfl vd_X7_washer ⟨Nat.le_of_ble_eq_true rfl, Nat.le_of_ble_eq_true rfl⟩) (va_recv hK hP (ci := 7) (q0 := 39) rfl rfl) (hK.sub [0] rfl) hP hD hS hA rfl hl.1 rfl (Nat.le_of_ble_eq_true rfl) dL_law_423 ⟨Nat.le_of_ble_eq_true rfl, Nat.le_of_ble_eq_true rfl⟩ (fun r_7 u_5 H locs w_6 hP hD hS => ?_)
      obtain ⟨e7, hF8⟩ := w_6
      refine n_top e7 ?_
      have hP : va_P D vwCl ((cW a r k cI cT cN xh xi xr pn pc rd B L (q.1, q.2.1, q.2.2.1 + nI 1, upR q.2.2.2.1 i (rw4 (q.2.2.2.1 i 0) (q.2.2.2.1 i 1) 0 (q.2.2.2.1 i 3)), q.2.2.2.2) kq) ++ (mW h g cI u_5.1 hz u_5.2)) H := hP
      have hD : va_D A ((cW a r k cI cT cN xh xi xr pn pc rd B L (q.1, q.2.1, q.2.2.1 + nI 1, upR q.2.2.2.1 i (rw4 (q.2.2.2.1 i 0) (q.2.2.2.1 i 1) 0 (q.2.2.2.1 i 3)), q.2.2.2.2) kq) ++ (mW h g cI u_5.1 hz u_5.2)) := hD
      refine j_icmp_eq (tgt := 718) hx hb dL_law_426 (by decide) rfl rfl (fun c_8 => ?_) (fun c_8 => absurd c_8 (fun z => z rfl))
      exact hN b pn pc rd B L (q.1, q.2.1, q.2.2.1 + nI 1, upR q.2.2.2.1 i (rw4 (q.2.2.2.1 i 0) (q.2.2.2.1 i 1) 0 (q.2.2.2.1 i 3)), q.2.2.2.2) kq xh xi xr u_5.1 hz u_5.2 (LI_q hLI rfl (Tok_row l3 (l3.2.2.1 i hi).1 (l3.2.2.1 i hi).2.1 (Nat.le_of_ble_eq_true rfl) (l3.2.2.1 i hi).2.2.2)) (hSR) (hF8) _ _ hP hD hS _ (lv_sub hl [0, 1, 2, 3] rfl)
    · refine lv_iconst (v := nI 1) hx hb dL_law_396 (by decide) ?_
      refine lv_goto (tgt := 401) hx hb dL_law_397 (by decide) ?_
      refine rw_iV (X := []) (Y := (mW h g cI J hz G)) (n := 2) (As := [.int (nI i), .int (nI 1)]) ⟨hx, hb, hml, hown, hts⟩ (c_X6_washerI1 l D a r k cI cT cN _ xh xi xr pn pc rd B L q kq l3 i hi) (cwV 2 hts (gV mg_352 mg_353 mg_354 mg_1 mg_355) rfl rfl rfl vd_X6_washer ⟨Nat.le_of_ble_eq_true rfl, Nat.le_of_ble_eq_true rfl⟩) (va_recv hK hP (ci := 6) (q0 := 0) rfl rfl) hK hP hD hS hA rfl hl.1 rfl (Nat.le_of_ble_eq_true rfl) dL_law_401 ⟨Nat.le_of_ble_eq_true rfl, Nat.le_of_ble_eq_true rfl⟩ (fun r_11 u_9 H locs w_10 hP hD hS => ?_)
      refine n_top w_10 ?_
      have hP : va_P D vwCl ((cW a r k cI cT cN xh xi xr pn pc rd B L (q.1, q.2.1, q.2.2.1 + nI 1, upR q.2.2.2.1 i (rw4 (q.2.2.2.1 i 0) (q.2.2.2.1 i 1) 1 (q.2.2.2.1 i 3)), q.2.2.2.2) kq) ++ (mW h g cI J hz G)) H := hP
      have hD : va_D A ((cW a r k cI cT cN xh xi xr pn pc rd B L (q.1, q.2.1, q.2.2.1 + nI 1, upR q.2.2.2.1 i (rw4 (q.2.2.2.1 i 0) (q.2.2.2.1 i 1) 1 (q.2.2.2.1 i 3)), q.2.2.2.2) kq) ++ (mW h g cI J hz G)) := hD
      refine lv_aload_n hx hb dL_law_404 rfl (lv_at hl 2 rfl) ?_
      refine lv_aload_n hx hb dL_law_405 rfl (lv_at hl 0 rfl) ?_
      refine lv_iload_n hx hb dL_law_406 rfl (lv_at hl 3 rfl) ?_
      refine lv_iconst (v := nI 1) hx hb dL_law_407 (by decide) ?_
      refine n_iadd hx hb dL_law_408 ?_
      refine n_sld hx hb hX hbl hbA hS (i := 4 * j + 1) (by omega) (by omega) dL_law_409 ?_
      refine n_top e1 ?_
      refine lv_aload_n hx hb dL_law_410 rfl (lv_at hl 0 rfl) ?_
      refine lv_iload_n hx hb dL_law_411 rfl (lv_at hl 3 rfl) ?_
      refine lv_iconst (v := nI 2) hx hb dL_law_412 (by decide) ?_
      refine n_iadd hx hb dL_law_413 ?_
      refine n_sld hx hb hX hbl hbA hS (i := 4 * j + 2) (by omega) (by omega) dL_law_414 ?_
      refine j_if_eq (tgt := 422) hx hb dL_law_415 (by decide) rfl (fun c_9 => absurd c_9 c_1) (fun c_9 => ?_)
      refine lv_iconst (v := nI 1) hx hb dL_law_418 (by decide) ?_
      refine lv_goto (tgt := 423) hx hb dL_law_419 (by decide) ?_
      refine rw_iV (X := (cW a r k cI cT cN xh xi xr pn pc rd B L (q.1, q.2.1, q.2.2.1 + nI 1, upR q.2.2.2.1 i (rw4 (q.2.2.2.1 i 0) (q.2.2.2.1 i 1) 1 (q.2.2.2.1 i 3)), q.2.2.2.2) kq)) (Y := []) (n := 2) (As := [.int (nI i), .int (nI 1)]) ⟨hx, hb, hml, hown, hts⟩ (c_X7_washerI1 l D h g cI _ J hz G b pn xr xi pc q kq hF l4 l3 i hi) (cwV 2 hts (gV mg_653 mg_654 mg_655 mg_8 mg_656) rfl rfl rfl vd_X7_washer ⟨Nat.le_of_ble_eq_true rfl, Nat.le_of_ble_eq_true rfl⟩) (va_recv hK hP (ci := 7) (q0 := 39) rfl rfl) (hK.sub [0] rfl) hP hD hS hA rfl hl.1 rfl (Nat.le_of_ble_eq_true rfl) dL_law_423 ⟨Nat.le_of_ble_eq_true rfl, Nat.le_of_ble_eq_true rfl⟩ (fun r_14 u_12 H locs w_13 hP hD hS => ?_)
      obtain ⟨e7, hF8⟩ := w_13
      refine n_top e7 ?_
      have hP : va_P D vwCl ((cW a r k cI cT cN xh xi xr pn pc rd B L (q.1, q.2.1, q.2.2.1 + nI 1, upR q.2.2.2.1 i (rw4 (q.2.2.2.1 i 0) (q.2.2.2.1 i 1) 1 (q.2.2.2.1 i 3)), q.2.2.2.2) kq) ++ (mW h g cI u_12.1 hz u_12.2)) H := hP
      have hD : va_D A ((cW a r k cI cT cN xh xi xr pn pc rd B L (q.1, q.2.1, q.2.2.1 + nI 1, upR q.2.2.2.1 i (rw4 (q.2.2.2.1 i 0) (q.2.2.2.1 i 1) 1 (q.2.2.2.1 i 3)), q.2.2.2.2) kq) ++ (mW h g cI u_12.1 hz u_12.2)) := hD
      refine j_icmp_eq (tgt := 718) hx hb dL_law_426 (by decide) rfl rfl (fun c_15 => ?_) (fun c_15 => absurd c_15 (fun z => z rfl))
      exact hN b pn pc rd B L (q.1, q.2.1, q.2.2.1 + nI 1, upR q.2.2.2.1 i (rw4 (q.2.2.2.1 i 0) (q.2.2.2.1 i 1) 1 (q.2.2.2.1 i 3)), q.2.2.2.2) kq xh xi xr u_12.1 hz u_12.2 (LI_q hLI rfl (Tok_row l3 (l3.2.2.1 i hi).1 (l3.2.2.1 i hi).2.1 (Nat.le_of_ble_eq_true rfl) (l3.2.2.1 i hi).2.2.2)) (hSR) (hF8) _ _ hP hD hS _ (lv_sub hl [0, 1, 2, 3] rfl)
  · refine lv_aload_n hx hb dL_law_382 rfl (lv_at hl 1 rfl) ?_
    refine lv_aload_n hx hb dL_law_383 rfl (lv_at hl 0 rfl) ?_
    refine lv_iload_n hx hb dL_law_384 rfl (lv_at hl 3 rfl) ?_
    refine lv_iconst (v := nI 1) hx hb dL_law_385 (by decide) ?_
    refine n_iadd hx hb dL_law_386 ?_
    refine n_sld hx hb hX hbl hbA hS (i := 4 * j + 1) (by omega) (by omega) dL_law_387 ?_
    refine lv_aload_n hx hb dL_law_388 rfl (lv_at hl 0 rfl) ?_
    refine lv_iload_n hx hb dL_law_389 rfl (lv_at hl 3 rfl) ?_
    refine lv_iconst (v := nI 2) hx hb dL_law_390 (by decide) ?_
    refine n_iadd hx hb dL_law_391 ?_
    refine n_sld hx hb hX hbl hbA hS (i := 4 * j + 2) (by omega) (by omega) dL_law_392 ?_
    refine j_if_eq (tgt := 400) hx hb dL_law_393 (by decide) rfl (fun c_16 => ?_) (fun c_16 => ?_)
    · refine lv_iconst (v := nI 0) hx hb dL_law_400 (by decide) ?_
      refine rw_iV (X := []) (Y := (mW h g cI J hz G)) (n := 2) (As := [.int (xs (4 * j + 1)), .int (nI 0)]) ⟨hx, hb, hml, hown, hts⟩ (c_X6_washerX0 l D a r k cI cT cN _ xh xi xr pn pc rd B L q kq l3 (xs (4 * j + 1)) ox) (cwV 2 hts (gV mg_352 mg_353 mg_354 mg_1 mg_355) rfl rfl rfl vd_X6_washer ⟨Nat.le_of_ble_eq_true rfl, Nat.le_of_ble_eq_true rfl⟩) (va_recv hK hP (ci := 6) (q0 := 0) rfl rfl) hK hP hD hS hA rfl hl.1 rfl (Nat.le_of_ble_eq_true rfl) dL_law_401 ⟨Nat.le_of_ble_eq_true rfl, Nat.le_of_ble_eq_true rfl⟩ (fun r_19 u_17 H locs w_18 hP hD hS => ?_)
      refine n_top w_18 ?_
      have hP : va_P D vwCl ((cW a r k cI cT cN xh xi xr pn pc rd B L q kq) ++ (mW h g cI J hz G)) H := hP
      have hD : va_D A ((cW a r k cI cT cN xh xi xr pn pc rd B L q kq) ++ (mW h g cI J hz G)) := hD
      refine lv_aload_n hx hb dL_law_404 rfl (lv_at hl 2 rfl) ?_
      refine lv_aload_n hx hb dL_law_405 rfl (lv_at hl 0 rfl) ?_
      refine lv_iload_n hx hb dL_law_406 rfl (lv_at hl 3 rfl) ?_
      refine lv_iconst (v := nI 1) hx hb dL_law_407 (by decide) ?_
      refine n_iadd hx hb dL_law_408 ?_
      refine n_sld hx hb hX hbl hbA hS (i := 4 * j + 1) (by omega) (by omega) dL_law_409 ?_
      refine lv_aload_n hx hb dL_law_410 rfl (lv_at hl 0 rfl) ?_
      refine lv_iload_n hx hb dL_law_411 rfl (lv_at hl 3 rfl) ?_
      refine lv_iconst (v := nI 2) hx hb dL_law_412 (by decide) ?_
      refine n_iadd hx hb dL_law_413 ?_
      refine n_sld hx hb hX hbl hbA hS (i := 4 * j + 2) (by omega) (by omega) dL_law_414 ?_
      refine j_if_eq (tgt := 422) hx hb dL_law_415 (by decide) rfl (fun c_9 => ?_) (fun c_9 => absurd c_16 c_9)
      refine lv_iconst (v := nI 0) hx hb dL_law_422 (by decide) ?_
      refine rw_iV (X := (cW a r k cI cT cN xh xi xr pn pc rd B L q kq)) (Y := []) (n := 2) (As := [.int (xs (4 * j + 1)), .int (nI 0)]) ⟨hx, hb, hml, hown, hts⟩ (c_X7_washerX0 l D h g cI _ J hz G b pn xr xi pc q kq hF l4 l3 (xs (4 * j + 1)) ox) (cwV 2 hts (gV mg_653 mg_654 mg_655 mg_8 mg_656) rfl rfl rfl vd_X7_washer ⟨Nat.le_of_ble_eq_true rfl, Nat.le_of_ble_eq_true rfl⟩) (va_recv hK hP (ci := 7) (q0 := 39) rfl rfl) (hK.sub [0] rfl) hP hD hS hA rfl hl.1 rfl (Nat.le_of_ble_eq_true rfl) dL_law_423 ⟨Nat.le_of_ble_eq_true rfl, Nat.le_of_ble_eq_true rfl⟩ (fun r_22 u_20 H locs w_21 hP hD hS => ?_)
      obtain ⟨e7, hF8⟩ := w_21
      refine n_top e7 ?_
      have hP : va_P D vwCl ((cW a r k cI cT cN xh xi xr pn pc rd B L q kq) ++ (mW h g cI u_20.1 hz u_20.2)) H := hP
      have hD : va_D A ((cW a r k cI cT cN xh xi xr pn pc rd B L q kq) ++ (mW h g cI u_20.1 hz u_20.2)) := hD
      refine j_icmp_eq (tgt := 718) hx hb dL_law_426 (by decide) rfl rfl (fun c_23 => ?_) (fun c_23 => absurd c_23 (by omega))
      exact hN b pn pc rd B L q kq xh xi xr u_20.1 hz u_20.2 (LI_s hLI) (hSR) (hF8) _ _ hP hD hS _ (lv_sub hl [0, 1, 2, 3] rfl)
    · refine lv_iconst (v := nI 1) hx hb dL_law_396 (by decide) ?_
      refine lv_goto (tgt := 401) hx hb dL_law_397 (by decide) ?_
      refine rw_iV (X := []) (Y := (mW h g cI J hz G)) (n := 2) (As := [.int (xs (4 * j + 1)), .int (nI 1)]) ⟨hx, hb, hml, hown, hts⟩ (c_X6_washerX1 l D a r k cI cT cN _ xh xi xr pn pc rd B L q kq l3 (xs (4 * j + 1)) ox) (cwV 2 hts (gV mg_352 mg_353 mg_354 mg_1 mg_355) rfl rfl rfl vd_X6_washer ⟨Nat.le_of_ble_eq_true rfl, Nat.le_of_ble_eq_true rfl⟩) (va_recv hK hP (ci := 6) (q0 := 0) rfl rfl) hK hP hD hS hA rfl hl.1 rfl (Nat.le_of_ble_eq_true rfl) dL_law_401 ⟨Nat.le_of_ble_eq_true rfl, Nat.le_of_ble_eq_true rfl⟩ (fun r_26 u_24 H locs w_25 hP hD hS => ?_)
      refine n_top w_25 ?_
      have hP : va_P D vwCl ((cW a r k cI cT cN xh xi xr pn pc rd B L q kq) ++ (mW h g cI J hz G)) H := hP
      have hD : va_D A ((cW a r k cI cT cN xh xi xr pn pc rd B L q kq) ++ (mW h g cI J hz G)) := hD
      refine lv_aload_n hx hb dL_law_404 rfl (lv_at hl 2 rfl) ?_
      refine lv_aload_n hx hb dL_law_405 rfl (lv_at hl 0 rfl) ?_
      refine lv_iload_n hx hb dL_law_406 rfl (lv_at hl 3 rfl) ?_
      refine lv_iconst (v := nI 1) hx hb dL_law_407 (by decide) ?_
      refine n_iadd hx hb dL_law_408 ?_
      refine n_sld hx hb hX hbl hbA hS (i := 4 * j + 1) (by omega) (by omega) dL_law_409 ?_
      refine lv_aload_n hx hb dL_law_410 rfl (lv_at hl 0 rfl) ?_
      refine lv_iload_n hx hb dL_law_411 rfl (lv_at hl 3 rfl) ?_
      refine lv_iconst (v := nI 2) hx hb dL_law_412 (by decide) ?_
      refine n_iadd hx hb dL_law_413 ?_
      refine n_sld hx hb hX hbl hbA hS (i := 4 * j + 2) (by omega) (by omega) dL_law_414 ?_
      refine j_if_eq (tgt := 422) hx hb dL_law_415 (by decide) rfl (fun c_9 => absurd c_9 c_16) (fun c_9 => ?_)
      refine lv_iconst (v := nI 1) hx hb dL_law_418 (by decide) ?_
      refine lv_goto (tgt := 423) hx hb dL_law_419 (by decide) ?_
      refine rw_iV (X := (cW a r k cI cT cN xh xi xr pn pc rd B L q kq)) (Y := []) (n := 2) (As := [.int (xs (4 * j + 1)), .int (nI 1)]) ⟨hx, hb, hml, hown, hts⟩ (c_X7_washerX1 l D h g cI _ J hz G b pn xr xi pc q kq hF l4 l3 (xs (4 * j + 1)) ox) (cwV 2 hts (gV mg_653 mg_654 mg_655 mg_8 mg_656) rfl rfl rfl vd_X7_washer ⟨Nat.le_of_ble_eq_true rfl, Nat.le_of_ble_eq_true rfl⟩) (va_recv hK hP (ci := 7) (q0 := 39) rfl rfl) (hK.sub [0] rfl) hP hD hS hA rfl hl.1 rfl (Nat.le_of_ble_eq_true rfl) dL_law_423 ⟨Nat.le_of_ble_eq_true rfl, Nat.le_of_ble_eq_true rfl⟩ (fun r_29 u_27 H locs w_28 hP hD hS => ?_)
      obtain ⟨e7, hF8⟩ := w_28
      refine n_top e7 ?_
      have hP : va_P D vwCl ((cW a r k cI cT cN xh xi xr pn pc rd B L q kq) ++ (mW h g cI u_27.1 hz u_27.2)) H := hP
      have hD : va_D A ((cW a r k cI cT cN xh xi xr pn pc rd B L q kq) ++ (mW h g cI u_27.1 hz u_27.2)) := hD
      refine j_icmp_eq (tgt := 718) hx hb dL_law_426 (by decide) rfl rfl (fun c_30 => ?_) (fun c_30 => absurd c_30 (by omega))
      exact hN b pn pc rd B L q kq xh xi xr u_27.1 hz u_27.2 (LI_s hLI) (hSR) (hF8) _ _ hP hD hS _ (lv_sub hl [0, 1, 2, 3] rfl)

set_option maxHeartbeats 4000000 in
set_option maxRecDepth 100000 in
theorem law_c11 {p : Program} {e : Env} {s : State} {m : MethodId} {below : List Frame} {meth : Method} {c : Code} (l : Launch) {bb L0 : Nat} {xs : Nat → Int32} (hL : L0 ≤ 256) (C0 : lw_At p s m meth c bb L0 xs) (D : va_G) (cI cT cN : ClassId) (hK : va_K D vwCl (cTys cI cT cN) s) (a r k g : Nat → Nat) (h : Nat) (A : Nat → Prop) (hA : ∀ q : Nat, s.heap.size ≤ q → A q) (hbA : ¬ A bb) (j : Nat) (hj : 4 * j + 4 ≤ L0) (hN : LN p l e s m below meth c bb h a r k g cI cT cN D A j) (b : Nat → Nat → Nat) (pn : Nat) (pc : Nat → Int32) (rd : Nat × Nat × Nat) (B L : Nat → Int32) (q kq : RS) (xh xi xr : Nat) (J : Nat → Int32) (hz : Int64) (G : Nat → Nat → Int32) (hLI : LI b pn xr xi xh pc q kq j) (hSR : SR b B L) (hF : MF b pn xr xi pc q kq J G) (H : Heap) (locs : List Loc) (hP : va_P D vwCl (cW a r k cI cT cN xh xi xr pn pc rd B L q kq ++ mW h g cI J hz G) H) (hD : va_D A (cW a r k cI cT cN xh xi xr pn pc rd B L q kq ++ mW h g cI J hz G)) (hS : va_S A s.heap H locs) (ls : Array Slot) (hl : lv_has ls 4 [(0, .ref bb), (1, .ref (a 0)), (2, .ref h), (3, .int (nI (4 * j)))]) : W p l e room_1 s m #[Value.ref bb] below meth c H locs 600000 7302250 (lw_Z below #[Value.ref bb] s) (F0 m 431 ls []) := by
  obtain ⟨hx, hb, hr, hml, hown, htsL, hX, hbl, hlocks, hgv⟩ := id C0
  have hts : ∀ w ∈ wAll, w.before #[Value.ref bb] s = true := fun w h => htsL w (wAll_in h)
  have hnst : ∀ w ∈ wNst, w.before #[Value.ref bb] s = true := fun w h => htsL w (wNst_in w h)
  have hown : s.vm.findClass RL = some m.cls := hown
  obtain ⟨l1, l2, l3, l4, l5, l6, l7, l8⟩ := id hLI
  have hb4 := LI_b4 hLI
  have ht5 := l3.1
  rcases inr_or (xs (4 * j + 1)) q.1 q.1 rfl (by omega) with ⟨i, hi, e1⟩ | ox
  · rcases inr_or (xs (4 * j + 2)) 4 4 rfl (by decide) with ⟨v, hv, e2⟩ | ow
    · refine lv_aload_n hx hb dL_law_431 rfl (lv_at hl 1 rfl) ?_
      refine lv_aload_n hx hb dL_law_432 rfl (lv_at hl 0 rfl) ?_
      refine lv_iload_n hx hb dL_law_433 rfl (lv_at hl 3 rfl) ?_
      refine lv_iconst (v := nI 1) hx hb dL_law_434 (by decide) ?_
      refine n_iadd hx hb dL_law_435 ?_
      refine n_sld hx hb hX hbl hbA hS (i := 4 * j + 1) (by omega) (by omega) dL_law_436 ?_
      refine n_top e1 ?_
      refine lv_aload_n hx hb dL_law_437 rfl (lv_at hl 0 rfl) ?_
      refine lv_iload_n hx hb dL_law_438 rfl (lv_at hl 3 rfl) ?_
      refine lv_iconst (v := nI 2) hx hb dL_law_439 (by decide) ?_
      refine n_iadd hx hb dL_law_440 ?_
      refine n_sld hx hb hX hbl hbA hS (i := 4 * j + 2) (by omega) (by omega) dL_law_441 ?_
      refine n_top e2 ?_
      refine rw_iV (X := []) (Y := (mW h g cI J hz G)) (n := 2) (As := [.int (nI i), .int (nI v)]) ⟨hx, hb, hml, hown, hts⟩ (c_X6_teachI l D a r k cI cT cN _ xh xi xr pn pc rd B L q kq l3 i hi v hv) (cwV 2 hts (gV mg_356 mg_357 mg_358 mg_1 mg_359) rfl rfl rfl vd_X6_teach ⟨Nat.le_of_ble_eq_true rfl, Nat.le_of_ble_eq_true rfl⟩) (va_recv hK hP (ci := 6) (q0 := 0) rfl rfl) hK hP hD hS hA rfl hl.1 rfl (Nat.le_of_ble_eq_true rfl) dL_law_442 ⟨Nat.le_of_ble_eq_true rfl, Nat.le_of_ble_eq_true rfl⟩ (fun r_3 u_1 H locs w_2 hP hD hS => ?_)
      refine n_top w_2 ?_
      have hP : va_P D vwCl ((cW a r k cI cT cN xh xi xr pn pc rd B L (q.1, q.2.1, q.2.2.1 + nI 1, upR q.2.2.2.1 i (rw4 (q.2.2.2.1 i 0) v (q.2.2.2.1 i 2) (q.2.2.2.1 i 3)), q.2.2.2.2) kq) ++ (mW h g cI J hz G)) H := hP
      have hD : va_D A ((cW a r k cI cT cN xh xi xr pn pc rd B L (q.1, q.2.1, q.2.2.1 + nI 1, upR q.2.2.2.1 i (rw4 (q.2.2.2.1 i 0) v (q.2.2.2.1 i 2) (q.2.2.2.1 i 3)), q.2.2.2.2) kq) ++ (mW h g cI J hz G)) := hD
      refine lv_aload_n hx hb dL_law_445 rfl (lv_at hl 2 rfl) ?_
      refine lv_aload_n hx hb dL_law_446 rfl (lv_at hl 0 rfl) ?_
      refine lv_iload_n hx hb dL_law_447 rfl (lv_at hl 3 rfl) ?_
      refine lv_iconst (v := nI 1) hx hb dL_law_448 (by decide) ?_
      refine n_iadd hx hb dL_law_449 ?_
      refine n_sld hx hb hX hbl hbA hS (i := 4 * j + 1) (by omega) (by omega) dL_law_450 ?_
      refine n_top e1 ?_
      refine lv_aload_n hx hb dL_law_451 rfl (lv_at hl 0 rfl) ?_
      refine lv_iload_n hx hb dL_law_452 rfl (lv_at hl 3 rfl) ?_
      refine lv_iconst (v := nI 2) hx hb dL_law_453 (by decide) ?_
      refine n_iadd hx hb dL_law_454 ?_
      refine n_sld hx hb hX hbl hbA hS (i := 4 * j + 2) (by omega) (by omega) dL_law_455 ?_
      refine n_top e2 ?_
      refine rw_iV (X := (cW a r k cI cT cN xh xi xr pn pc rd B L (q.1, q.2.1, q.2.2.1 + nI 1, upR q.2.2.2.1 i (rw4 (q.2.2.2.1 i 0) v (q.2.2.2.1 i 2) (q.2.2.2.1 i 3)), q.2.2.2.2) kq)) (Y := []) (n := 2) (As := [.int (nI i), .int (nI v)]) ⟨hx, hb, hml, hown, hts⟩ (c_X7_teachI l D h g cI _ J hz G b pn xr xi pc q kq hF l4 l3 i hi v hv) (cwV 2 hts (gV mg_657 mg_658 mg_659 mg_8 mg_660) rfl rfl rfl vd_X7_teach ⟨Nat.le_of_ble_eq_true rfl, Nat.le_of_ble_eq_true rfl⟩) (va_recv hK hP (ci := 7) (q0 := 39) rfl rfl) (hK.sub [0] rfl) hP hD hS hA rfl hl.1 rfl (Nat.le_of_ble_eq_true rfl) dL_law_456 ⟨Nat.le_of_ble_eq_true rfl, Nat.le_of_ble_eq_true rfl⟩ (fun r_6 u_4 H locs w_5 hP hD hS => ?_)
      obtain ⟨e7, hF8⟩ := w_5
      refine n_top e7 ?_
      have hP : va_P D vwCl ((cW a r k cI cT cN xh xi xr pn pc rd B L (q.1, q.2.1, q.2.2.1 + nI 1, upR q.2.2.2.1 i (rw4 (q.2.2.2.1 i 0) v (q.2.2.2.1 i 2) (q.2.2.2.1 i 3)), q.2.2.2.2) kq) ++ (mW h g cI u_4.1 hz u_4.2)) H := hP
      have hD : va_D A ((cW a r k cI cT cN xh xi xr pn pc rd B L (q.1, q.2.1, q.2.2.1 + nI 1, upR q.2.2.2.1 i (rw4 (q.2.2.2.1 i 0) v (q.2.2.2.1 i 2) (q.2.2.2.1 i 3)), q.2.2.2.2) kq) ++ (mW h g cI u_4.1 hz u_4.2)) := hD
      refine j_icmp_eq (tgt := 718) hx hb dL_law_459 (by decide) rfl rfl (fun c_7 => ?_) (fun c_7 => absurd c_7 (fun z => z rfl))
      exact hN b pn pc rd B L (q.1, q.2.1, q.2.2.1 + nI 1, upR q.2.2.2.1 i (rw4 (q.2.2.2.1 i 0) v (q.2.2.2.1 i 2) (q.2.2.2.1 i 3)), q.2.2.2.2) kq xh xi xr u_4.1 hz u_4.2 (LI_q hLI rfl (Tok_row l3 (l3.2.2.1 i hi).1 hv (l3.2.2.1 i hi).2.2.1 (l3.2.2.1 i hi).2.2.2)) (hSR) (hF8) _ _ hP hD hS _ (lv_sub hl [0, 1, 2, 3] rfl)
    · refine lv_aload_n hx hb dL_law_431 rfl (lv_at hl 1 rfl) ?_
      refine lv_aload_n hx hb dL_law_432 rfl (lv_at hl 0 rfl) ?_
      refine lv_iload_n hx hb dL_law_433 rfl (lv_at hl 3 rfl) ?_
      refine lv_iconst (v := nI 1) hx hb dL_law_434 (by decide) ?_
      refine n_iadd hx hb dL_law_435 ?_
      refine n_sld hx hb hX hbl hbA hS (i := 4 * j + 1) (by omega) (by omega) dL_law_436 ?_
      refine n_top e1 ?_
      refine lv_aload_n hx hb dL_law_437 rfl (lv_at hl 0 rfl) ?_
      refine lv_iload_n hx hb dL_law_438 rfl (lv_at hl 3 rfl) ?_
      refine lv_iconst (v := nI 2) hx hb dL_law_439 (by decide) ?_
      refine n_iadd hx hb dL_law_440 ?_
      refine n_sld hx hb hX hbl hbA hS (i := 4 * j + 2) (by omega) (by omega) dL_law_441 ?_
      refine rw_iV (X := []) (Y := (mW h g cI J hz G)) (n := 2) (As := [.int (nI i), .int (xs (4 * j + 2))]) ⟨hx, hb, hml, hown, hts⟩ (c_X6_teachO l D a r k cI cT cN _ xh xi xr pn pc rd B L q kq l3 i hi (xs (4 * j + 2)) ow) (cwV 2 hts (gV mg_356 mg_357 mg_358 mg_1 mg_359) rfl rfl rfl vd_X6_teach ⟨Nat.le_of_ble_eq_true rfl, Nat.le_of_ble_eq_true rfl⟩) (va_recv hK hP (ci := 6) (q0 := 0) rfl rfl) hK hP hD hS hA rfl hl.1 rfl (Nat.le_of_ble_eq_true rfl) dL_law_442 ⟨Nat.le_of_ble_eq_true rfl, Nat.le_of_ble_eq_true rfl⟩ (fun r_10 u_8 H locs w_9 hP hD hS => ?_)
      refine n_top w_9 ?_
      have hP : va_P D vwCl ((cW a r k cI cT cN xh xi xr pn pc rd B L q kq) ++ (mW h g cI J hz G)) H := hP
      have hD : va_D A ((cW a r k cI cT cN xh xi xr pn pc rd B L q kq) ++ (mW h g cI J hz G)) := hD
      refine lv_aload_n hx hb dL_law_445 rfl (lv_at hl 2 rfl) ?_
      refine lv_aload_n hx hb dL_law_446 rfl (lv_at hl 0 rfl) ?_
      refine lv_iload_n hx hb dL_law_447 rfl (lv_at hl 3 rfl) ?_
      refine lv_iconst (v := nI 1) hx hb dL_law_448 (by decide) ?_
      refine n_iadd hx hb dL_law_449 ?_
      refine n_sld hx hb hX hbl hbA hS (i := 4 * j + 1) (by omega) (by omega) dL_law_450 ?_
      refine n_top e1 ?_
      refine lv_aload_n hx hb dL_law_451 rfl (lv_at hl 0 rfl) ?_
      refine lv_iload_n hx hb dL_law_452 rfl (lv_at hl 3 rfl) ?_
      refine lv_iconst (v := nI 2) hx hb dL_law_453 (by decide) ?_
      refine n_iadd hx hb dL_law_454 ?_
      refine n_sld hx hb hX hbl hbA hS (i := 4 * j + 2) (by omega) (by omega) dL_law_455 ?_
      refine rw_iV (X := (cW a r k cI cT cN xh xi xr pn pc rd B L q kq)) (Y := []) (n := 2) (As := [.int (nI i), .int (xs (4 * j + 2))]) ⟨hx, hb, hml, hown, hts⟩ (c_X7_teachO l D h g cI _ J hz G b pn xr xi pc q kq hF l4 l3 i hi (xs (4 * j + 2)) ow) (cwV 2 hts (gV mg_657 mg_658 mg_659 mg_8 mg_660) rfl rfl rfl vd_X7_teach ⟨Nat.le_of_ble_eq_true rfl, Nat.le_of_ble_eq_true rfl⟩) (va_recv hK hP (ci := 7) (q0 := 39) rfl rfl) (hK.sub [0] rfl) hP hD hS hA rfl hl.1 rfl (Nat.le_of_ble_eq_true rfl) dL_law_456 ⟨Nat.le_of_ble_eq_true rfl, Nat.le_of_ble_eq_true rfl⟩ (fun r_13 u_11 H locs w_12 hP hD hS => ?_)
      obtain ⟨e7, hF8⟩ := w_12
      refine n_top e7 ?_
      have hP : va_P D vwCl ((cW a r k cI cT cN xh xi xr pn pc rd B L q kq) ++ (mW h g cI u_11.1 hz u_11.2)) H := hP
      have hD : va_D A ((cW a r k cI cT cN xh xi xr pn pc rd B L q kq) ++ (mW h g cI u_11.1 hz u_11.2)) := hD
      refine j_icmp_eq (tgt := 718) hx hb dL_law_459 (by decide) rfl rfl (fun c_14 => ?_) (fun c_14 => absurd c_14 (by omega))
      exact hN b pn pc rd B L q kq xh xi xr u_11.1 hz u_11.2 (LI_s hLI) (hSR) (hF8) _ _ hP hD hS _ (lv_sub hl [0, 1, 2, 3] rfl)
  · refine lv_aload_n hx hb dL_law_431 rfl (lv_at hl 1 rfl) ?_
    refine lv_aload_n hx hb dL_law_432 rfl (lv_at hl 0 rfl) ?_
    refine lv_iload_n hx hb dL_law_433 rfl (lv_at hl 3 rfl) ?_
    refine lv_iconst (v := nI 1) hx hb dL_law_434 (by decide) ?_
    refine n_iadd hx hb dL_law_435 ?_
    refine n_sld hx hb hX hbl hbA hS (i := 4 * j + 1) (by omega) (by omega) dL_law_436 ?_
    refine lv_aload_n hx hb dL_law_437 rfl (lv_at hl 0 rfl) ?_
    refine lv_iload_n hx hb dL_law_438 rfl (lv_at hl 3 rfl) ?_
    refine lv_iconst (v := nI 2) hx hb dL_law_439 (by decide) ?_
    refine n_iadd hx hb dL_law_440 ?_
    refine n_sld hx hb hX hbl hbA hS (i := 4 * j + 2) (by omega) (by omega) dL_law_441 ?_
    refine rw_iV (X := []) (Y := (mW h g cI J hz G)) (n := 2) (As := [.int (xs (4 * j + 1)), .int (xs (4 * j + 2))]) ⟨hx, hb, hml, hown, hts⟩ (c_X6_teachX l D a r k cI cT cN _ xh xi xr pn pc rd B L q kq l3 (xs (4 * j + 1)) (xs (4 * j + 2)) ox) (cwV 2 hts (gV mg_356 mg_357 mg_358 mg_1 mg_359) rfl rfl rfl vd_X6_teach ⟨Nat.le_of_ble_eq_true rfl, Nat.le_of_ble_eq_true rfl⟩) (va_recv hK hP (ci := 6) (q0 := 0) rfl rfl) hK hP hD hS hA rfl hl.1 rfl (Nat.le_of_ble_eq_true rfl) dL_law_442 ⟨Nat.le_of_ble_eq_true rfl, Nat.le_of_ble_eq_true rfl⟩ (fun r_17 u_15 H locs w_16 hP hD hS => ?_)
    refine n_top w_16 ?_
    have hP : va_P D vwCl ((cW a r k cI cT cN xh xi xr pn pc rd B L q kq) ++ (mW h g cI J hz G)) H := hP
    have hD : va_D A ((cW a r k cI cT cN xh xi xr pn pc rd B L q kq) ++ (mW h g cI J hz G)) := hD
    refine lv_aload_n hx hb dL_law_445 rfl (lv_at hl 2 rfl) ?_
    refine lv_aload_n hx hb dL_law_446 rfl (lv_at hl 0 rfl) ?_
    refine lv_iload_n hx hb dL_law_447 rfl (lv_at hl 3 rfl) ?_
    refine lv_iconst (v := nI 1) hx hb dL_law_448 (by decide) ?_
    refine n_iadd hx hb dL_law_449 ?_
    refine n_sld hx hb hX hbl hbA hS (i := 4 * j + 1) (by omega) (by omega) dL_law_450 ?_
    refine lv_aload_n hx hb dL_law_451 rfl (lv_at hl 0 rfl) ?_
    refine lv_iload_n hx hb dL_law_452 rfl (lv_at hl 3 rfl) ?_
    refine lv_iconst (v := nI 2) hx hb dL_law_453 (by decide) ?_
    refine n_iadd hx hb dL_law_454 ?_
    refine n_sld hx hb hX hbl hbA hS (i := 4 * j + 2) (by omega) (by omega) dL_law_455 ?_
    refine rw_iV (X := (cW a r k cI cT cN xh xi xr pn pc rd B L q kq)) (Y := []) (n := 2) (As := [.int (xs (4 * j + 1)), .int (xs (4 * j + 2))]) ⟨hx, hb, hml, hown, hts⟩ (c_X7_teachX l D h g cI _ J hz G b pn xr xi pc q kq hF l4 l3 (xs (4 * j + 1)) (xs (4 * j + 2)) ox) (cwV 2 hts (gV mg_657 mg_658 mg_659 mg_8 mg_660) rfl rfl rfl vd_X7_teach ⟨Nat.le_of_ble_eq_true rfl, Nat.le_of_ble_eq_true rfl⟩) (va_recv hK hP (ci := 7) (q0 := 39) rfl rfl) (hK.sub [0] rfl) hP hD hS hA rfl hl.1 rfl (Nat.le_of_ble_eq_true rfl) dL_law_456 ⟨Nat.le_of_ble_eq_true rfl, Nat.le_of_ble_eq_true rfl⟩ (fun r_20 u_18 H locs w_19 hP hD hS => ?_)
    obtain ⟨e7, hF8⟩ := w_19
    refine n_top e7 ?_
    have hP : va_P D vwCl ((cW a r k cI cT cN xh xi xr pn pc rd B L q kq) ++ (mW h g cI u_18.1 hz u_18.2)) H := hP
    have hD : va_D A ((cW a r k cI cT cN xh xi xr pn pc rd B L q kq) ++ (mW h g cI u_18.1 hz u_18.2)) := hD
    refine j_icmp_eq (tgt := 718) hx hb dL_law_459 (by decide) rfl rfl (fun c_21 => ?_) (fun c_21 => absurd c_21 (by omega))
    exact hN b pn pc rd B L q kq xh xi xr u_18.1 hz u_18.2 (LI_s hLI) (hSR) (hF8) _ _ hP hD hS _ (lv_sub hl [0, 1, 2, 3] rfl)

set_option maxHeartbeats 4000000 in
set_option maxRecDepth 100000 in
theorem law_c14 {p : Program} {e : Env} {s : State} {m : MethodId} {below : List Frame} {meth : Method} {c : Code} (l : Launch) {bb L0 : Nat} {xs : Nat → Int32} (hL : L0 ≤ 256) (C0 : lw_At p s m meth c bb L0 xs) (D : va_G) (cI cT cN : ClassId) (hK : va_K D vwCl (cTys cI cT cN) s) (a r k g : Nat → Nat) (h : Nat) (A : Nat → Prop) (hA : ∀ q : Nat, s.heap.size ≤ q → A q) (hbA : ¬ A bb) (j : Nat) (hj : 4 * j + 4 ≤ L0) (hN : LN p l e s m below meth c bb h a r k g cI cT cN D A j) (b : Nat → Nat → Nat) (pn : Nat) (pc : Nat → Int32) (rd : Nat × Nat × Nat) (B L : Nat → Int32) (q kq : RS) (xh xi xr : Nat) (J : Nat → Int32) (hz : Int64) (G : Nat → Nat → Int32) (hLI : LI b pn xr xi xh pc q kq j) (hSR : SR b B L) (hF : MF b pn xr xi pc q kq J G) (H : Heap) (locs : List Loc) (hP : va_P D vwCl (cW a r k cI cT cN xh xi xr pn pc rd B L q kq ++ mW h g cI J hz G) H) (hD : va_D A (cW a r k cI cT cN xh xi xr pn pc rd B L q kq ++ mW h g cI J hz G)) (hS : va_S A s.heap H locs) (ls : Array Slot) (hl : lv_has ls 4 [(0, .ref bb), (1, .ref (a 0)), (2, .ref h), (3, .int (nI (4 * j)))]) : W p l e room_1 s m #[Value.ref bb] below meth c H locs 600000 7302250 (lw_Z below #[Value.ref bb] s) (F0 m 540 ls []) := by
  obtain ⟨hx, hb, hr, hml, hown, htsL, hX, hbl, hlocks, hgv⟩ := id C0
  have hts : ∀ w ∈ wAll, w.before #[Value.ref bb] s = true := fun w h => htsL w (wAll_in h)
  have hnst : ∀ w ∈ wNst, w.before #[Value.ref bb] s = true := fun w h => htsL w (wNst_in w h)
  have hown : s.vm.findClass RL = some m.cls := hown
  obtain ⟨l1, l2, l3, l4, l5, l6, l7, l8⟩ := id hLI
  have hb4 := LI_b4 hLI
  have ht5 := l3.1
  rcases inr_or (xs (4 * j + 1)) q.1 q.1 rfl (by omega) with ⟨i, hi, e1⟩ | ox
  · rcases inr_or (xs (4 * j + 2)) 60 60 rfl (by decide) with ⟨d, hd, e2⟩ | ow
    · rcases Decidable.em (q.2.1 = 8) with h8 | h8
      · refine lv_aload_n hx hb dL_law_540 rfl (lv_at hl 1 rfl) ?_
        refine lv_aload_n hx hb dL_law_541 rfl (lv_at hl 0 rfl) ?_
        refine lv_iload_n hx hb dL_law_542 rfl (lv_at hl 3 rfl) ?_
        refine lv_iconst (v := nI 1) hx hb dL_law_543 (by decide) ?_
        refine n_iadd hx hb dL_law_544 ?_
        refine n_sld hx hb hX hbl hbA hS (i := 4 * j + 1) (by omega) (by omega) dL_law_545 ?_
        refine n_top e1 ?_
        refine lv_aload_n hx hb dL_law_546 rfl (lv_at hl 0 rfl) ?_
        refine lv_iload_n hx hb dL_law_547 rfl (lv_at hl 3 rfl) ?_
        refine lv_iconst (v := nI 2) hx hb dL_law_548 (by decide) ?_
        refine n_iadd hx hb dL_law_549 ?_
        refine n_sld hx hb hX hbl hbA hS (i := 4 * j + 2) (by omega) (by omega) dL_law_550 ?_
        refine n_top e2 ?_
        refine lv_aload_n hx hb dL_law_551 rfl (lv_at hl 0 rfl) ?_
        refine lv_iload_n hx hb dL_law_552 rfl (lv_at hl 3 rfl) ?_
        refine lv_iconst (v := nI 3) hx hb dL_law_553 (by decide) ?_
        refine n_iadd hx hb dL_law_554 ?_
        refine n_sld hx hb hX hbl hbA hS (i := 4 * j + 3) (by omega) (by omega) dL_law_555 ?_
        refine j_if_eq (tgt := 563) hx hb dL_law_556 (by decide) rfl (fun c_1 => ?_) (fun c_1 => ?_)
        · refine lv_iconst (v := nI 0) hx hb dL_law_563 (by decide) ?_
          refine rw_iV (X := []) (Y := (mW h g cI J hz G)) (n := 3) (As := [.int (nI i), .int (nI d), .int (nI 0)]) ⟨hx, hb, hml, hown, hts⟩ (c_X6_putF0 l D a r k cI cT cN _ xh xi xr pn pc rd B L q kq l3 i hi d hd h8) (cwV 3 hts (gV mg_379 mg_380 mg_381 mg_1 mg_382) rfl rfl rfl vd_X6_put ⟨Nat.le_of_ble_eq_true rfl, Nat.le_of_ble_eq_true rfl⟩) (va_recv hK hP (ci := 6) (q0 := 0) rfl rfl) hK hP hD hS hA rfl hl.1 rfl (Nat.le_of_ble_eq_true rfl) dL_law_564 ⟨Nat.le_of_ble_eq_true rfl, Nat.le_of_ble_eq_true rfl⟩ (fun r_4 u_2 H locs w_3 hP hD hS => ?_)
          refine n_top w_3 ?_
          have hP : va_P D vwCl ((cW a r k cI cT cN xh xi xr pn pc rd B L q kq) ++ (mW h g cI J hz G)) H := hP
          have hD : va_D A ((cW a r k cI cT cN xh xi xr pn pc rd B L q kq) ++ (mW h g cI J hz G)) := hD
          refine lv_aload_n hx hb dL_law_567 rfl (lv_at hl 2 rfl) ?_
          refine lv_aload_n hx hb dL_law_568 rfl (lv_at hl 0 rfl) ?_
          refine lv_iload_n hx hb dL_law_569 rfl (lv_at hl 3 rfl) ?_
          refine lv_iconst (v := nI 1) hx hb dL_law_570 (by decide) ?_
          refine n_iadd hx hb dL_law_571 ?_
          refine n_sld hx hb hX hbl hbA hS (i := 4 * j + 1) (by omega) (by omega) dL_law_572 ?_
          refine n_top e1 ?_
          refine lv_aload_n hx hb dL_law_573 rfl (lv_at hl 0 rfl) ?_
          refine lv_iload_n hx hb dL_law_574 rfl (lv_at hl 3 rfl) ?_
          refine lv_iconst (v := nI 2) hx hb dL_law_575 (by decide) ?_
          refine n_iadd hx hb dL_law_576 ?_
          refine n_sld hx hb hX hbl hbA hS (i := 4 * j + 2) (by omega) (by omega) dL_law_577 ?_
          refine n_top e2 ?_
          refine lv_aload_n hx hb dL_law_578 rfl (lv_at hl 0 rfl) ?_
          refine lv_iload_n hx hb dL_law_579 rfl (lv_at hl 3 rfl) ?_
          refine lv_iconst (v := nI 3) hx hb dL_law_580 (by decide) ?_
          refine n_iadd hx hb dL_law_581 ?_
          refine n_sld hx hb hX hbl hbA hS (i := 4 * j + 3) (by omega) (by omega) dL_law_582 ?_
          refine j_if_eq (tgt := 590) hx hb dL_law_583 (by decide) rfl (fun c_9 => ?_) (fun c_9 => absurd c_1 c_9)
          refine lv_iconst (v := nI 0) hx hb dL_law_590 (by decide) ?_
          refine rw_iV (X := (cW a r k cI cT cN xh xi xr pn pc rd B L q kq)) (Y := []) (n := 3) (As := [.int (nI i), .int (nI d), .int (nI 0)]) ⟨hx, hb, hml, hown, hts⟩ (c_X7_putF0 l D h g cI _ J hz G b pn xr xi pc q kq hF l4 l3 i hi d hd h8) (cwV 3 hts (gV mg_681 mg_682 mg_683 mg_8 mg_684) rfl rfl rfl vd_X7_put ⟨Nat.le_of_ble_eq_true rfl, Nat.le_of_ble_eq_true rfl⟩) (va_recv hK hP (ci := 7) (q0 := 39) rfl rfl) (hK.sub [0] rfl) hP hD hS hA rfl hl.1 rfl (Nat.le_of_ble_eq_true rfl) dL_law_591 ⟨Nat.le_of_ble_eq_true rfl, Nat.le_of_ble_eq_true rfl⟩ (fun r_7 u_5 H locs w_6 hP hD hS => ?_)
          obtain ⟨e7, hF8⟩ := w_6
          refine n_top e7 ?_
          have hP : va_P D vwCl ((cW a r k cI cT cN xh xi xr pn pc rd B L q kq) ++ (mW h g cI u_5.1 hz u_5.2)) H := hP
          have hD : va_D A ((cW a r k cI cT cN xh xi xr pn pc rd B L q kq) ++ (mW h g cI u_5.1 hz u_5.2)) := hD
          refine j_icmp_eq (tgt := 718) hx hb dL_law_594 (by decide) rfl rfl (fun c_8 => ?_) (fun c_8 => absurd c_8 (by omega))
          exact hN b pn pc rd B L q kq xh xi xr u_5.1 hz u_5.2 (LI_s hLI) (hSR) (hF8) _ _ hP hD hS _ (lv_sub hl [0, 1, 2, 3] rfl)
        · refine lv_iconst (v := nI 1) hx hb dL_law_559 (by decide) ?_
          refine lv_goto (tgt := 564) hx hb dL_law_560 (by decide) ?_
          refine rw_iV (X := []) (Y := (mW h g cI J hz G)) (n := 3) (As := [.int (nI i), .int (nI d), .int (nI 1)]) ⟨hx, hb, hml, hown, hts⟩ (c_X6_putF1 l D a r k cI cT cN _ xh xi xr pn pc rd B L q kq l3 i hi d hd h8) (cwV 3 hts (gV mg_379 mg_380 mg_381 mg_1 mg_382) rfl rfl rfl vd_X6_put ⟨Nat.le_of_ble_eq_true rfl, Nat.le_of_ble_eq_true rfl⟩) (va_recv hK hP (ci := 6) (q0 := 0) rfl rfl) hK hP hD hS hA rfl hl.1 rfl (Nat.le_of_ble_eq_true rfl) dL_law_564 ⟨Nat.le_of_ble_eq_true rfl, Nat.le_of_ble_eq_true rfl⟩ (fun r_11 u_9 H locs w_10 hP hD hS => ?_)
          refine n_top w_10 ?_
          have hP : va_P D vwCl ((cW a r k cI cT cN xh xi xr pn pc rd B L q kq) ++ (mW h g cI J hz G)) H := hP
          have hD : va_D A ((cW a r k cI cT cN xh xi xr pn pc rd B L q kq) ++ (mW h g cI J hz G)) := hD
          refine lv_aload_n hx hb dL_law_567 rfl (lv_at hl 2 rfl) ?_
          refine lv_aload_n hx hb dL_law_568 rfl (lv_at hl 0 rfl) ?_
          refine lv_iload_n hx hb dL_law_569 rfl (lv_at hl 3 rfl) ?_
          refine lv_iconst (v := nI 1) hx hb dL_law_570 (by decide) ?_
          refine n_iadd hx hb dL_law_571 ?_
          refine n_sld hx hb hX hbl hbA hS (i := 4 * j + 1) (by omega) (by omega) dL_law_572 ?_
          refine n_top e1 ?_
          refine lv_aload_n hx hb dL_law_573 rfl (lv_at hl 0 rfl) ?_
          refine lv_iload_n hx hb dL_law_574 rfl (lv_at hl 3 rfl) ?_
          refine lv_iconst (v := nI 2) hx hb dL_law_575 (by decide) ?_
          refine n_iadd hx hb dL_law_576 ?_
          refine n_sld hx hb hX hbl hbA hS (i := 4 * j + 2) (by omega) (by omega) dL_law_577 ?_
          refine n_top e2 ?_
          refine lv_aload_n hx hb dL_law_578 rfl (lv_at hl 0 rfl) ?_
          refine lv_iload_n hx hb dL_law_579 rfl (lv_at hl 3 rfl) ?_
          refine lv_iconst (v := nI 3) hx hb dL_law_580 (by decide) ?_
          refine n_iadd hx hb dL_law_581 ?_
          refine n_sld hx hb hX hbl hbA hS (i := 4 * j + 3) (by omega) (by omega) dL_law_582 ?_
          refine j_if_eq (tgt := 590) hx hb dL_law_583 (by decide) rfl (fun c_9 => absurd c_9 c_1) (fun c_9 => ?_)
          refine lv_iconst (v := nI 1) hx hb dL_law_586 (by decide) ?_
          refine lv_goto (tgt := 591) hx hb dL_law_587 (by decide) ?_
          refine rw_iV (X := (cW a r k cI cT cN xh xi xr pn pc rd B L q kq)) (Y := []) (n := 3) (As := [.int (nI i), .int (nI d), .int (nI 1)]) ⟨hx, hb, hml, hown, hts⟩ (c_X7_putF1 l D h g cI _ J hz G b pn xr xi pc q kq hF l4 l3 i hi d hd h8) (cwV 3 hts (gV mg_681 mg_682 mg_683 mg_8 mg_684) rfl rfl rfl vd_X7_put ⟨Nat.le_of_ble_eq_true rfl, Nat.le_of_ble_eq_true rfl⟩) (va_recv hK hP (ci := 7) (q0 := 39) rfl rfl) (hK.sub [0] rfl) hP hD hS hA rfl hl.1 rfl (Nat.le_of_ble_eq_true rfl) dL_law_591 ⟨Nat.le_of_ble_eq_true rfl, Nat.le_of_ble_eq_true rfl⟩ (fun r_14 u_12 H locs w_13 hP hD hS => ?_)
          obtain ⟨e7, hF8⟩ := w_13
          refine n_top e7 ?_
          have hP : va_P D vwCl ((cW a r k cI cT cN xh xi xr pn pc rd B L q kq) ++ (mW h g cI u_12.1 hz u_12.2)) H := hP
          have hD : va_D A ((cW a r k cI cT cN xh xi xr pn pc rd B L q kq) ++ (mW h g cI u_12.1 hz u_12.2)) := hD
          refine j_icmp_eq (tgt := 718) hx hb dL_law_594 (by decide) rfl rfl (fun c_15 => ?_) (fun c_15 => absurd c_15 (by omega))
          exact hN b pn pc rd B L q kq xh xi xr u_12.1 hz u_12.2 (LI_s hLI) (hSR) (hF8) _ _ hP hD hS _ (lv_sub hl [0, 1, 2, 3] rfl)
      · refine lv_aload_n hx hb dL_law_540 rfl (lv_at hl 1 rfl) ?_
        refine lv_aload_n hx hb dL_law_541 rfl (lv_at hl 0 rfl) ?_
        refine lv_iload_n hx hb dL_law_542 rfl (lv_at hl 3 rfl) ?_
        refine lv_iconst (v := nI 1) hx hb dL_law_543 (by decide) ?_
        refine n_iadd hx hb dL_law_544 ?_
        refine n_sld hx hb hX hbl hbA hS (i := 4 * j + 1) (by omega) (by omega) dL_law_545 ?_
        refine n_top e1 ?_
        refine lv_aload_n hx hb dL_law_546 rfl (lv_at hl 0 rfl) ?_
        refine lv_iload_n hx hb dL_law_547 rfl (lv_at hl 3 rfl) ?_
        refine lv_iconst (v := nI 2) hx hb dL_law_548 (by decide) ?_
        refine n_iadd hx hb dL_law_549 ?_
        refine n_sld hx hb hX hbl hbA hS (i := 4 * j + 2) (by omega) (by omega) dL_law_550 ?_
        refine n_top e2 ?_
        refine lv_aload_n hx hb dL_law_551 rfl (lv_at hl 0 rfl) ?_
        refine lv_iload_n hx hb dL_law_552 rfl (lv_at hl 3 rfl) ?_
        refine lv_iconst (v := nI 3) hx hb dL_law_553 (by decide) ?_
        refine n_iadd hx hb dL_law_554 ?_
        refine n_sld hx hb hX hbl hbA hS (i := 4 * j + 3) (by omega) (by omega) dL_law_555 ?_
        refine j_if_eq (tgt := 563) hx hb dL_law_556 (by decide) rfl (fun c_16 => ?_) (fun c_16 => ?_)
        · refine lv_iconst (v := nI 0) hx hb dL_law_563 (by decide) ?_
          refine rw_iV (X := []) (Y := (mW h g cI J hz G)) (n := 3) (As := [.int (nI i), .int (nI d), .int (nI 0)]) ⟨hx, hb, hml, hown, hts⟩ (c_X6_putI0 l D a r k cI cT cN _ xh xi xr pn pc rd B L q kq l3 i hi d hd h8) (cwV 3 hts (gV mg_379 mg_380 mg_381 mg_1 mg_382) rfl rfl rfl vd_X6_put ⟨Nat.le_of_ble_eq_true rfl, Nat.le_of_ble_eq_true rfl⟩) (va_recv hK hP (ci := 6) (q0 := 0) rfl rfl) hK hP hD hS hA rfl hl.1 rfl (Nat.le_of_ble_eq_true rfl) dL_law_564 ⟨Nat.le_of_ble_eq_true rfl, Nat.le_of_ble_eq_true rfl⟩ (fun r_19 u_17 H locs w_18 hP hD hS => ?_)
          refine n_top w_18 ?_
          have hP : va_P D vwCl ((cW a r k cI cT cN xh xi xr pn pc rd B L (q.1, q.2.1 + 1, q.2.2.1, q.2.2.2.1, upR q.2.2.2.2 q.2.1 (rw4 i d 0 (q.2.2.2.1 i 2))) kq) ++ (mW h g cI J hz G)) H := hP
          have hD : va_D A ((cW a r k cI cT cN xh xi xr pn pc rd B L (q.1, q.2.1 + 1, q.2.2.1, q.2.2.2.1, upR q.2.2.2.2 q.2.1 (rw4 i d 0 (q.2.2.2.1 i 2))) kq) ++ (mW h g cI J hz G)) := hD
          refine lv_aload_n hx hb dL_law_567 rfl (lv_at hl 2 rfl) ?_
          refine lv_aload_n hx hb dL_law_568 rfl (lv_at hl 0 rfl) ?_
          refine lv_iload_n hx hb dL_law_569 rfl (lv_at hl 3 rfl) ?_
          refine lv_iconst (v := nI 1) hx hb dL_law_570 (by decide) ?_
          refine n_iadd hx hb dL_law_571 ?_
          refine n_sld hx hb hX hbl hbA hS (i := 4 * j + 1) (by omega) (by omega) dL_law_572 ?_
          refine n_top e1 ?_
          refine lv_aload_n hx hb dL_law_573 rfl (lv_at hl 0 rfl) ?_
          refine lv_iload_n hx hb dL_law_574 rfl (lv_at hl 3 rfl) ?_
          refine lv_iconst (v := nI 2) hx hb dL_law_575 (by decide) ?_
          refine n_iadd hx hb dL_law_576 ?_
          refine n_sld hx hb hX hbl hbA hS (i := 4 * j + 2) (by omega) (by omega) dL_law_577 ?_
          refine n_top e2 ?_
          refine lv_aload_n hx hb dL_law_578 rfl (lv_at hl 0 rfl) ?_
          refine lv_iload_n hx hb dL_law_579 rfl (lv_at hl 3 rfl) ?_
          refine lv_iconst (v := nI 3) hx hb dL_law_580 (by decide) ?_
          refine n_iadd hx hb dL_law_581 ?_
          refine n_sld hx hb hX hbl hbA hS (i := 4 * j + 3) (by omega) (by omega) dL_law_582 ?_
          refine j_if_eq (tgt := 590) hx hb dL_law_583 (by decide) rfl (fun c_9 => ?_) (fun c_9 => absurd c_16 c_9)
          refine lv_iconst (v := nI 0) hx hb dL_law_590 (by decide) ?_
          refine rw_iV (X := (cW a r k cI cT cN xh xi xr pn pc rd B L (q.1, q.2.1 + 1, q.2.2.1, q.2.2.2.1, upR q.2.2.2.2 q.2.1 (rw4 i d 0 (q.2.2.2.1 i 2))) kq)) (Y := []) (n := 3) (As := [.int (nI i), .int (nI d), .int (nI 0)]) ⟨hx, hb, hml, hown, hts⟩ (c_X7_putI0 l D h g cI _ J hz G b pn xr xi pc q kq hF l4 l3 i hi d hd h8) (cwV 3 hts (gV mg_681 mg_682 mg_683 mg_8 mg_684) rfl rfl rfl vd_X7_put ⟨Nat.le_of_ble_eq_true rfl, Nat.le_of_ble_eq_true rfl⟩) (va_recv hK hP (ci := 7) (q0 := 39) rfl rfl) (hK.sub [0] rfl) hP hD hS hA rfl hl.1 rfl (Nat.le_of_ble_eq_true rfl) dL_law_591 ⟨Nat.le_of_ble_eq_true rfl, Nat.le_of_ble_eq_true rfl⟩ (fun r_22 u_20 H locs w_21 hP hD hS => ?_)
          obtain ⟨e7, hF8⟩ := w_21
          refine n_top e7 ?_
          have hP : va_P D vwCl ((cW a r k cI cT cN xh xi xr pn pc rd B L (q.1, q.2.1 + 1, q.2.2.1, q.2.2.2.1, upR q.2.2.2.2 q.2.1 (rw4 i d 0 (q.2.2.2.1 i 2))) kq) ++ (mW h g cI u_20.1 hz u_20.2)) H := hP
          have hD : va_D A ((cW a r k cI cT cN xh xi xr pn pc rd B L (q.1, q.2.1 + 1, q.2.2.1, q.2.2.2.1, upR q.2.2.2.2 q.2.1 (rw4 i d 0 (q.2.2.2.1 i 2))) kq) ++ (mW h g cI u_20.1 hz u_20.2)) := hD
          refine j_icmp_eq (tgt := 718) hx hb dL_law_594 (by decide) rfl rfl (fun c_23 => ?_) (fun c_23 => absurd c_23 (fun z => z rfl))
          exact hN b pn pc rd B L (q.1, q.2.1 + 1, q.2.2.1, q.2.2.2.1, upR q.2.2.2.2 q.2.1 (rw4 i d 0 (q.2.2.2.1 i 2))) kq xh xi xr u_20.1 hz u_20.2 (LI_q hLI rfl (Tok_note l3 h8 hi hd (Nat.le_of_ble_eq_true rfl))) (hSR) (hF8) _ _ hP hD hS _ (lv_sub hl [0, 1, 2, 3] rfl)
        · refine lv_iconst (v := nI 1) hx hb dL_law_559 (by decide) ?_
          refine lv_goto (tgt := 564) hx hb dL_law_560 (by decide) ?_
          refine rw_iV (X := []) (Y := (mW h g cI J hz G)) (n := 3) (As := [.int (nI i), .int (nI d), .int (nI 1)]) ⟨hx, hb, hml, hown, hts⟩ (c_X6_putI1 l D a r k cI cT cN _ xh xi xr pn pc rd B L q kq l3 i hi d hd h8) (cwV 3 hts (gV mg_379 mg_380 mg_381 mg_1 mg_382) rfl rfl rfl vd_X6_put ⟨Nat.le_of_ble_eq_true rfl, Nat.le_of_ble_eq_true rfl⟩) (va_recv hK hP (ci := 6) (q0 := 0) rfl rfl) hK hP hD hS hA rfl hl.1 rfl (Nat.le_of_ble_eq_true rfl) dL_law_564 ⟨Nat.le_of_ble_eq_true rfl, Nat.le_of_ble_eq_true rfl⟩ (fun r_26 u_24 H locs w_25 hP hD hS => ?_)
          refine n_top w_25 ?_
          have hP : va_P D vwCl ((cW a r k cI cT cN xh xi xr pn pc rd B L (q.1, q.2.1 + 1, q.2.2.1, q.2.2.2.1, upR q.2.2.2.2 q.2.1 (rw4 i d 1 (q.2.2.2.1 i 2))) kq) ++ (mW h g cI J hz G)) H := hP
          have hD : va_D A ((cW a r k cI cT cN xh xi xr pn pc rd B L (q.1, q.2.1 + 1, q.2.2.1, q.2.2.2.1, upR q.2.2.2.2 q.2.1 (rw4 i d 1 (q.2.2.2.1 i 2))) kq) ++ (mW h g cI J hz G)) := hD
          refine lv_aload_n hx hb dL_law_567 rfl (lv_at hl 2 rfl) ?_
          refine lv_aload_n hx hb dL_law_568 rfl (lv_at hl 0 rfl) ?_
          refine lv_iload_n hx hb dL_law_569 rfl (lv_at hl 3 rfl) ?_
          refine lv_iconst (v := nI 1) hx hb dL_law_570 (by decide) ?_
          refine n_iadd hx hb dL_law_571 ?_
          refine n_sld hx hb hX hbl hbA hS (i := 4 * j + 1) (by omega) (by omega) dL_law_572 ?_
          refine n_top e1 ?_
          refine lv_aload_n hx hb dL_law_573 rfl (lv_at hl 0 rfl) ?_
          refine lv_iload_n hx hb dL_law_574 rfl (lv_at hl 3 rfl) ?_
          refine lv_iconst (v := nI 2) hx hb dL_law_575 (by decide) ?_
          refine n_iadd hx hb dL_law_576 ?_
          refine n_sld hx hb hX hbl hbA hS (i := 4 * j + 2) (by omega) (by omega) dL_law_577 ?_
          refine n_top e2 ?_
          refine lv_aload_n hx hb dL_law_578 rfl (lv_at hl 0 rfl) ?_
          refine lv_iload_n hx hb dL_law_579 rfl (lv_at hl 3 rfl) ?_
          refine lv_iconst (v := nI 3) hx hb dL_law_580 (by decide) ?_
          refine n_iadd hx hb dL_law_581 ?_
          refine n_sld hx hb hX hbl hbA hS (i := 4 * j + 3) (by omega) (by omega) dL_law_582 ?_
          refine j_if_eq (tgt := 590) hx hb dL_law_583 (by decide) rfl (fun c_9 => absurd c_9 c_16) (fun c_9 => ?_)
          refine lv_iconst (v := nI 1) hx hb dL_law_586 (by decide) ?_
          refine lv_goto (tgt := 591) hx hb dL_law_587 (by decide) ?_
          refine rw_iV (X := (cW a r k cI cT cN xh xi xr pn pc rd B L (q.1, q.2.1 + 1, q.2.2.1, q.2.2.2.1, upR q.2.2.2.2 q.2.1 (rw4 i d 1 (q.2.2.2.1 i 2))) kq)) (Y := []) (n := 3) (As := [.int (nI i), .int (nI d), .int (nI 1)]) ⟨hx, hb, hml, hown, hts⟩ (c_X7_putI1 l D h g cI _ J hz G b pn xr xi pc q kq hF l4 l3 i hi d hd h8) (cwV 3 hts (gV mg_681 mg_682 mg_683 mg_8 mg_684) rfl rfl rfl vd_X7_put ⟨Nat.le_of_ble_eq_true rfl, Nat.le_of_ble_eq_true rfl⟩) (va_recv hK hP (ci := 7) (q0 := 39) rfl rfl) (hK.sub [0] rfl) hP hD hS hA rfl hl.1 rfl (Nat.le_of_ble_eq_true rfl) dL_law_591 ⟨Nat.le_of_ble_eq_true rfl, Nat.le_of_ble_eq_true rfl⟩ (fun r_29 u_27 H locs w_28 hP hD hS => ?_)
          obtain ⟨e7, hF8⟩ := w_28
          refine n_top e7 ?_
          have hP : va_P D vwCl ((cW a r k cI cT cN xh xi xr pn pc rd B L (q.1, q.2.1 + 1, q.2.2.1, q.2.2.2.1, upR q.2.2.2.2 q.2.1 (rw4 i d 1 (q.2.2.2.1 i 2))) kq) ++ (mW h g cI u_27.1 hz u_27.2)) H := hP
          have hD : va_D A ((cW a r k cI cT cN xh xi xr pn pc rd B L (q.1, q.2.1 + 1, q.2.2.1, q.2.2.2.1, upR q.2.2.2.2 q.2.1 (rw4 i d 1 (q.2.2.2.1 i 2))) kq) ++ (mW h g cI u_27.1 hz u_27.2)) := hD
          refine j_icmp_eq (tgt := 718) hx hb dL_law_594 (by decide) rfl rfl (fun c_30 => ?_) (fun c_30 => absurd c_30 (fun z => z rfl))
          exact hN b pn pc rd B L (q.1, q.2.1 + 1, q.2.2.1, q.2.2.2.1, upR q.2.2.2.2 q.2.1 (rw4 i d 1 (q.2.2.2.1 i 2))) kq xh xi xr u_27.1 hz u_27.2 (LI_q hLI rfl (Tok_note l3 h8 hi hd (Nat.le_of_ble_eq_true rfl))) (hSR) (hF8) _ _ hP hD hS _ (lv_sub hl [0, 1, 2, 3] rfl)
    · refine lv_aload_n hx hb dL_law_540 rfl (lv_at hl 1 rfl) ?_
      refine lv_aload_n hx hb dL_law_541 rfl (lv_at hl 0 rfl) ?_
      refine lv_iload_n hx hb dL_law_542 rfl (lv_at hl 3 rfl) ?_
      refine lv_iconst (v := nI 1) hx hb dL_law_543 (by decide) ?_
      refine n_iadd hx hb dL_law_544 ?_
      refine n_sld hx hb hX hbl hbA hS (i := 4 * j + 1) (by omega) (by omega) dL_law_545 ?_
      refine n_top e1 ?_
      refine lv_aload_n hx hb dL_law_546 rfl (lv_at hl 0 rfl) ?_
      refine lv_iload_n hx hb dL_law_547 rfl (lv_at hl 3 rfl) ?_
      refine lv_iconst (v := nI 2) hx hb dL_law_548 (by decide) ?_
      refine n_iadd hx hb dL_law_549 ?_
      refine n_sld hx hb hX hbl hbA hS (i := 4 * j + 2) (by omega) (by omega) dL_law_550 ?_
      refine lv_aload_n hx hb dL_law_551 rfl (lv_at hl 0 rfl) ?_
      refine lv_iload_n hx hb dL_law_552 rfl (lv_at hl 3 rfl) ?_
      refine lv_iconst (v := nI 3) hx hb dL_law_553 (by decide) ?_
      refine n_iadd hx hb dL_law_554 ?_
      refine n_sld hx hb hX hbl hbA hS (i := 4 * j + 3) (by omega) (by omega) dL_law_555 ?_
      refine j_if_eq (tgt := 563) hx hb dL_law_556 (by decide) rfl (fun c_31 => ?_) (fun c_31 => ?_)
      · refine lv_iconst (v := nI 0) hx hb dL_law_563 (by decide) ?_
        refine rw_iV (X := []) (Y := (mW h g cI J hz G)) (n := 3) (As := [.int (nI i), .int (xs (4 * j + 2)), .int (nI 0)]) ⟨hx, hb, hml, hown, hts⟩ (c_X6_putO0 l D a r k cI cT cN _ xh xi xr pn pc rd B L q kq l3 i hi (xs (4 * j + 2)) ow) (cwV 3 hts (gV mg_379 mg_380 mg_381 mg_1 mg_382) rfl rfl rfl vd_X6_put ⟨Nat.le_of_ble_eq_true rfl, Nat.le_of_ble_eq_true rfl⟩) (va_recv hK hP (ci := 6) (q0 := 0) rfl rfl) hK hP hD hS hA rfl hl.1 rfl (Nat.le_of_ble_eq_true rfl) dL_law_564 ⟨Nat.le_of_ble_eq_true rfl, Nat.le_of_ble_eq_true rfl⟩ (fun r_34 u_32 H locs w_33 hP hD hS => ?_)
        refine n_top w_33 ?_
        have hP : va_P D vwCl ((cW a r k cI cT cN xh xi xr pn pc rd B L q kq) ++ (mW h g cI J hz G)) H := hP
        have hD : va_D A ((cW a r k cI cT cN xh xi xr pn pc rd B L q kq) ++ (mW h g cI J hz G)) := hD
        refine lv_aload_n hx hb dL_law_567 rfl (lv_at hl 2 rfl) ?_
        refine lv_aload_n hx hb dL_law_568 rfl (lv_at hl 0 rfl) ?_
        refine lv_iload_n hx hb dL_law_569 rfl (lv_at hl 3 rfl) ?_
        refine lv_iconst (v := nI 1) hx hb dL_law_570 (by decide) ?_
        refine n_iadd hx hb dL_law_571 ?_
        refine n_sld hx hb hX hbl hbA hS (i := 4 * j + 1) (by omega) (by omega) dL_law_572 ?_
        refine n_top e1 ?_
        refine lv_aload_n hx hb dL_law_573 rfl (lv_at hl 0 rfl) ?_
        refine lv_iload_n hx hb dL_law_574 rfl (lv_at hl 3 rfl) ?_
        refine lv_iconst (v := nI 2) hx hb dL_law_575 (by decide) ?_
        refine n_iadd hx hb dL_law_576 ?_
        refine n_sld hx hb hX hbl hbA hS (i := 4 * j + 2) (by omega) (by omega) dL_law_577 ?_
        refine lv_aload_n hx hb dL_law_578 rfl (lv_at hl 0 rfl) ?_
        refine lv_iload_n hx hb dL_law_579 rfl (lv_at hl 3 rfl) ?_
        refine lv_iconst (v := nI 3) hx hb dL_law_580 (by decide) ?_
        refine n_iadd hx hb dL_law_581 ?_
        refine n_sld hx hb hX hbl hbA hS (i := 4 * j + 3) (by omega) (by omega) dL_law_582 ?_
        refine j_if_eq (tgt := 590) hx hb dL_law_583 (by decide) rfl (fun c_9 => ?_) (fun c_9 => absurd c_31 c_9)
        refine lv_iconst (v := nI 0) hx hb dL_law_590 (by decide) ?_
        refine rw_iV (X := (cW a r k cI cT cN xh xi xr pn pc rd B L q kq)) (Y := []) (n := 3) (As := [.int (nI i), .int (xs (4 * j + 2)), .int (nI 0)]) ⟨hx, hb, hml, hown, hts⟩ (c_X7_putO0 l D h g cI _ J hz G b pn xr xi pc q kq hF l4 l3 i hi (xs (4 * j + 2)) ow) (cwV 3 hts (gV mg_681 mg_682 mg_683 mg_8 mg_684) rfl rfl rfl vd_X7_put ⟨Nat.le_of_ble_eq_true rfl, Nat.le_of_ble_eq_true rfl⟩) (va_recv hK hP (ci := 7) (q0 := 39) rfl rfl) (hK.sub [0] rfl) hP hD hS hA rfl hl.1 rfl (Nat.le_of_ble_eq_true rfl) dL_law_591 ⟨Nat.le_of_ble_eq_true rfl, Nat.le_of_ble_eq_true rfl⟩ (fun r_37 u_35 H locs w_36 hP hD hS => ?_)
        obtain ⟨e7, hF8⟩ := w_36
        refine n_top e7 ?_
        have hP : va_P D vwCl ((cW a r k cI cT cN xh xi xr pn pc rd B L q kq) ++ (mW h g cI u_35.1 hz u_35.2)) H := hP
        have hD : va_D A ((cW a r k cI cT cN xh xi xr pn pc rd B L q kq) ++ (mW h g cI u_35.1 hz u_35.2)) := hD
        refine j_icmp_eq (tgt := 718) hx hb dL_law_594 (by decide) rfl rfl (fun c_38 => ?_) (fun c_38 => absurd c_38 (by omega))
        exact hN b pn pc rd B L q kq xh xi xr u_35.1 hz u_35.2 (LI_s hLI) (hSR) (hF8) _ _ hP hD hS _ (lv_sub hl [0, 1, 2, 3] rfl)
      · refine lv_iconst (v := nI 1) hx hb dL_law_559 (by decide) ?_
        refine lv_goto (tgt := 564) hx hb dL_law_560 (by decide) ?_
        refine rw_iV (X := []) (Y := (mW h g cI J hz G)) (n := 3) (As := [.int (nI i), .int (xs (4 * j + 2)), .int (nI 1)]) ⟨hx, hb, hml, hown, hts⟩ (c_X6_putO1 l D a r k cI cT cN _ xh xi xr pn pc rd B L q kq l3 i hi (xs (4 * j + 2)) ow) (cwV 3 hts (gV mg_379 mg_380 mg_381 mg_1 mg_382) rfl rfl rfl vd_X6_put ⟨Nat.le_of_ble_eq_true rfl, Nat.le_of_ble_eq_true rfl⟩) (va_recv hK hP (ci := 6) (q0 := 0) rfl rfl) hK hP hD hS hA rfl hl.1 rfl (Nat.le_of_ble_eq_true rfl) dL_law_564 ⟨Nat.le_of_ble_eq_true rfl, Nat.le_of_ble_eq_true rfl⟩ (fun r_41 u_39 H locs w_40 hP hD hS => ?_)
        refine n_top w_40 ?_
        have hP : va_P D vwCl ((cW a r k cI cT cN xh xi xr pn pc rd B L q kq) ++ (mW h g cI J hz G)) H := hP
        have hD : va_D A ((cW a r k cI cT cN xh xi xr pn pc rd B L q kq) ++ (mW h g cI J hz G)) := hD
        refine lv_aload_n hx hb dL_law_567 rfl (lv_at hl 2 rfl) ?_
        refine lv_aload_n hx hb dL_law_568 rfl (lv_at hl 0 rfl) ?_
        refine lv_iload_n hx hb dL_law_569 rfl (lv_at hl 3 rfl) ?_
        refine lv_iconst (v := nI 1) hx hb dL_law_570 (by decide) ?_
        refine n_iadd hx hb dL_law_571 ?_
        refine n_sld hx hb hX hbl hbA hS (i := 4 * j + 1) (by omega) (by omega) dL_law_572 ?_
        refine n_top e1 ?_
        refine lv_aload_n hx hb dL_law_573 rfl (lv_at hl 0 rfl) ?_
        refine lv_iload_n hx hb dL_law_574 rfl (lv_at hl 3 rfl) ?_
        refine lv_iconst (v := nI 2) hx hb dL_law_575 (by decide) ?_
        refine n_iadd hx hb dL_law_576 ?_
        refine n_sld hx hb hX hbl hbA hS (i := 4 * j + 2) (by omega) (by omega) dL_law_577 ?_
        refine lv_aload_n hx hb dL_law_578 rfl (lv_at hl 0 rfl) ?_
        refine lv_iload_n hx hb dL_law_579 rfl (lv_at hl 3 rfl) ?_
        refine lv_iconst (v := nI 3) hx hb dL_law_580 (by decide) ?_
        refine n_iadd hx hb dL_law_581 ?_
        refine n_sld hx hb hX hbl hbA hS (i := 4 * j + 3) (by omega) (by omega) dL_law_582 ?_
        refine j_if_eq (tgt := 590) hx hb dL_law_583 (by decide) rfl (fun c_9 => absurd c_9 c_31) (fun c_9 => ?_)
        refine lv_iconst (v := nI 1) hx hb dL_law_586 (by decide) ?_
        refine lv_goto (tgt := 591) hx hb dL_law_587 (by decide) ?_
        refine rw_iV (X := (cW a r k cI cT cN xh xi xr pn pc rd B L q kq)) (Y := []) (n := 3) (As := [.int (nI i), .int (xs (4 * j + 2)), .int (nI 1)]) ⟨hx, hb, hml, hown, hts⟩ (c_X7_putO1 l D h g cI _ J hz G b pn xr xi pc q kq hF l4 l3 i hi (xs (4 * j + 2)) ow) (cwV 3 hts (gV mg_681 mg_682 mg_683 mg_8 mg_684) rfl rfl rfl vd_X7_put ⟨Nat.le_of_ble_eq_true rfl, Nat.le_of_ble_eq_true rfl⟩) (va_recv hK hP (ci := 7) (q0 := 39) rfl rfl) (hK.sub [0] rfl) hP hD hS hA rfl hl.1 rfl (Nat.le_of_ble_eq_true rfl) dL_law_591 ⟨Nat.le_of_ble_eq_true rfl, Nat.le_of_ble_eq_true rfl⟩ (fun r_44 u_42 H locs w_43 hP hD hS => ?_)
        obtain ⟨e7, hF8⟩ := w_43
        refine n_top e7 ?_
        have hP : va_P D vwCl ((cW a r k cI cT cN xh xi xr pn pc rd B L q kq) ++ (mW h g cI u_42.1 hz u_42.2)) H := hP
        have hD : va_D A ((cW a r k cI cT cN xh xi xr pn pc rd B L q kq) ++ (mW h g cI u_42.1 hz u_42.2)) := hD
        refine j_icmp_eq (tgt := 718) hx hb dL_law_594 (by decide) rfl rfl (fun c_45 => ?_) (fun c_45 => absurd c_45 (by omega))
        exact hN b pn pc rd B L q kq xh xi xr u_42.1 hz u_42.2 (LI_s hLI) (hSR) (hF8) _ _ hP hD hS _ (lv_sub hl [0, 1, 2, 3] rfl)
  · refine lv_aload_n hx hb dL_law_540 rfl (lv_at hl 1 rfl) ?_
    refine lv_aload_n hx hb dL_law_541 rfl (lv_at hl 0 rfl) ?_
    refine lv_iload_n hx hb dL_law_542 rfl (lv_at hl 3 rfl) ?_
    refine lv_iconst (v := nI 1) hx hb dL_law_543 (by decide) ?_
    refine n_iadd hx hb dL_law_544 ?_
    refine n_sld hx hb hX hbl hbA hS (i := 4 * j + 1) (by omega) (by omega) dL_law_545 ?_
    refine lv_aload_n hx hb dL_law_546 rfl (lv_at hl 0 rfl) ?_
    refine lv_iload_n hx hb dL_law_547 rfl (lv_at hl 3 rfl) ?_
    refine lv_iconst (v := nI 2) hx hb dL_law_548 (by decide) ?_
    refine n_iadd hx hb dL_law_549 ?_
    refine n_sld hx hb hX hbl hbA hS (i := 4 * j + 2) (by omega) (by omega) dL_law_550 ?_
    refine lv_aload_n hx hb dL_law_551 rfl (lv_at hl 0 rfl) ?_
    refine lv_iload_n hx hb dL_law_552 rfl (lv_at hl 3 rfl) ?_
    refine lv_iconst (v := nI 3) hx hb dL_law_553 (by decide) ?_
    refine n_iadd hx hb dL_law_554 ?_
    refine n_sld hx hb hX hbl hbA hS (i := 4 * j + 3) (by omega) (by omega) dL_law_555 ?_
    refine j_if_eq (tgt := 563) hx hb dL_law_556 (by decide) rfl (fun c_46 => ?_) (fun c_46 => ?_)
    · refine lv_iconst (v := nI 0) hx hb dL_law_563 (by decide) ?_
      refine rw_iV (X := []) (Y := (mW h g cI J hz G)) (n := 3) (As := [.int (xs (4 * j + 1)), .int (xs (4 * j + 2)), .int (nI 0)]) ⟨hx, hb, hml, hown, hts⟩ (c_X6_putX0 l D a r k cI cT cN _ xh xi xr pn pc rd B L q kq l3 (xs (4 * j + 1)) (xs (4 * j + 2)) ox) (cwV 3 hts (gV mg_379 mg_380 mg_381 mg_1 mg_382) rfl rfl rfl vd_X6_put ⟨Nat.le_of_ble_eq_true rfl, Nat.le_of_ble_eq_true rfl⟩) (va_recv hK hP (ci := 6) (q0 := 0) rfl rfl) hK hP hD hS hA rfl hl.1 rfl (Nat.le_of_ble_eq_true rfl) dL_law_564 ⟨Nat.le_of_ble_eq_true rfl, Nat.le_of_ble_eq_true rfl⟩ (fun r_49 u_47 H locs w_48 hP hD hS => ?_)
      refine n_top w_48 ?_
      have hP : va_P D vwCl ((cW a r k cI cT cN xh xi xr pn pc rd B L q kq) ++ (mW h g cI J hz G)) H := hP
      have hD : va_D A ((cW a r k cI cT cN xh xi xr pn pc rd B L q kq) ++ (mW h g cI J hz G)) := hD
      refine lv_aload_n hx hb dL_law_567 rfl (lv_at hl 2 rfl) ?_
      refine lv_aload_n hx hb dL_law_568 rfl (lv_at hl 0 rfl) ?_
      refine lv_iload_n hx hb dL_law_569 rfl (lv_at hl 3 rfl) ?_
      refine lv_iconst (v := nI 1) hx hb dL_law_570 (by decide) ?_
      refine n_iadd hx hb dL_law_571 ?_
      refine n_sld hx hb hX hbl hbA hS (i := 4 * j + 1) (by omega) (by omega) dL_law_572 ?_
      refine lv_aload_n hx hb dL_law_573 rfl (lv_at hl 0 rfl) ?_
      refine lv_iload_n hx hb dL_law_574 rfl (lv_at hl 3 rfl) ?_
      refine lv_iconst (v := nI 2) hx hb dL_law_575 (by decide) ?_
      refine n_iadd hx hb dL_law_576 ?_
      refine n_sld hx hb hX hbl hbA hS (i := 4 * j + 2) (by omega) (by omega) dL_law_577 ?_
      refine lv_aload_n hx hb dL_law_578 rfl (lv_at hl 0 rfl) ?_
      refine lv_iload_n hx hb dL_law_579 rfl (lv_at hl 3 rfl) ?_
      refine lv_iconst (v := nI 3) hx hb dL_law_580 (by decide) ?_
      refine n_iadd hx hb dL_law_581 ?_
      refine n_sld hx hb hX hbl hbA hS (i := 4 * j + 3) (by omega) (by omega) dL_law_582 ?_
      refine j_if_eq (tgt := 590) hx hb dL_law_583 (by decide) rfl (fun c_9 => ?_) (fun c_9 => absurd c_46 c_9)
      refine lv_iconst (v := nI 0) hx hb dL_law_590 (by decide) ?_
      refine rw_iV (X := (cW a r k cI cT cN xh xi xr pn pc rd B L q kq)) (Y := []) (n := 3) (As := [.int (xs (4 * j + 1)), .int (xs (4 * j + 2)), .int (nI 0)]) ⟨hx, hb, hml, hown, hts⟩ (c_X7_putX0 l D h g cI _ J hz G b pn xr xi pc q kq hF l4 l3 (xs (4 * j + 1)) (xs (4 * j + 2)) ox) (cwV 3 hts (gV mg_681 mg_682 mg_683 mg_8 mg_684) rfl rfl rfl vd_X7_put ⟨Nat.le_of_ble_eq_true rfl, Nat.le_of_ble_eq_true rfl⟩) (va_recv hK hP (ci := 7) (q0 := 39) rfl rfl) (hK.sub [0] rfl) hP hD hS hA rfl hl.1 rfl (Nat.le_of_ble_eq_true rfl) dL_law_591 ⟨Nat.le_of_ble_eq_true rfl, Nat.le_of_ble_eq_true rfl⟩ (fun r_52 u_50 H locs w_51 hP hD hS => ?_)
      obtain ⟨e7, hF8⟩ := w_51
      refine n_top e7 ?_
      have hP : va_P D vwCl ((cW a r k cI cT cN xh xi xr pn pc rd B L q kq) ++ (mW h g cI u_50.1 hz u_50.2)) H := hP
      have hD : va_D A ((cW a r k cI cT cN xh xi xr pn pc rd B L q kq) ++ (mW h g cI u_50.1 hz u_50.2)) := hD
      refine j_icmp_eq (tgt := 718) hx hb dL_law_594 (by decide) rfl rfl (fun c_53 => ?_) (fun c_53 => absurd c_53 (by omega))
      exact hN b pn pc rd B L q kq xh xi xr u_50.1 hz u_50.2 (LI_s hLI) (hSR) (hF8) _ _ hP hD hS _ (lv_sub hl [0, 1, 2, 3] rfl)
    · refine lv_iconst (v := nI 1) hx hb dL_law_559 (by decide) ?_
      refine lv_goto (tgt := 564) hx hb dL_law_560 (by decide) ?_
      refine rw_iV (X := []) (Y := (mW h g cI J hz G)) (n := 3) (As := [.int (xs (4 * j + 1)), .int (xs (4 * j + 2)), .int (nI 1)]) ⟨hx, hb, hml, hown, hts⟩ (c_X6_putX1 l D a r k cI cT cN _ xh xi xr pn pc rd B L q kq l3 (xs (4 * j + 1)) (xs (4 * j + 2)) ox) (cwV 3 hts (gV mg_379 mg_380 mg_381 mg_1 mg_382) rfl rfl rfl vd_X6_put ⟨Nat.le_of_ble_eq_true rfl, Nat.le_of_ble_eq_true rfl⟩) (va_recv hK hP (ci := 6) (q0 := 0) rfl rfl) hK hP hD hS hA rfl hl.1 rfl (Nat.le_of_ble_eq_true rfl) dL_law_564 ⟨Nat.le_of_ble_eq_true rfl, Nat.le_of_ble_eq_true rfl⟩ (fun r_56 u_54 H locs w_55 hP hD hS => ?_)
      refine n_top w_55 ?_
      have hP : va_P D vwCl ((cW a r k cI cT cN xh xi xr pn pc rd B L q kq) ++ (mW h g cI J hz G)) H := hP
      have hD : va_D A ((cW a r k cI cT cN xh xi xr pn pc rd B L q kq) ++ (mW h g cI J hz G)) := hD
      refine lv_aload_n hx hb dL_law_567 rfl (lv_at hl 2 rfl) ?_
      refine lv_aload_n hx hb dL_law_568 rfl (lv_at hl 0 rfl) ?_
      refine lv_iload_n hx hb dL_law_569 rfl (lv_at hl 3 rfl) ?_
      refine lv_iconst (v := nI 1) hx hb dL_law_570 (by decide) ?_
      refine n_iadd hx hb dL_law_571 ?_
      refine n_sld hx hb hX hbl hbA hS (i := 4 * j + 1) (by omega) (by omega) dL_law_572 ?_
      refine lv_aload_n hx hb dL_law_573 rfl (lv_at hl 0 rfl) ?_
      refine lv_iload_n hx hb dL_law_574 rfl (lv_at hl 3 rfl) ?_
      refine lv_iconst (v := nI 2) hx hb dL_law_575 (by decide) ?_
      refine n_iadd hx hb dL_law_576 ?_
      refine n_sld hx hb hX hbl hbA hS (i := 4 * j + 2) (by omega) (by omega) dL_law_577 ?_
      refine lv_aload_n hx hb dL_law_578 rfl (lv_at hl 0 rfl) ?_
      refine lv_iload_n hx hb dL_law_579 rfl (lv_at hl 3 rfl) ?_
      refine lv_iconst (v := nI 3) hx hb dL_law_580 (by decide) ?_
      refine n_iadd hx hb dL_law_581 ?_
      refine n_sld hx hb hX hbl hbA hS (i := 4 * j + 3) (by omega) (by omega) dL_law_582 ?_
      refine j_if_eq (tgt := 590) hx hb dL_law_583 (by decide) rfl (fun c_9 => absurd c_9 c_46) (fun c_9 => ?_)
      refine lv_iconst (v := nI 1) hx hb dL_law_586 (by decide) ?_
      refine lv_goto (tgt := 591) hx hb dL_law_587 (by decide) ?_
      refine rw_iV (X := (cW a r k cI cT cN xh xi xr pn pc rd B L q kq)) (Y := []) (n := 3) (As := [.int (xs (4 * j + 1)), .int (xs (4 * j + 2)), .int (nI 1)]) ⟨hx, hb, hml, hown, hts⟩ (c_X7_putX1 l D h g cI _ J hz G b pn xr xi pc q kq hF l4 l3 (xs (4 * j + 1)) (xs (4 * j + 2)) ox) (cwV 3 hts (gV mg_681 mg_682 mg_683 mg_8 mg_684) rfl rfl rfl vd_X7_put ⟨Nat.le_of_ble_eq_true rfl, Nat.le_of_ble_eq_true rfl⟩) (va_recv hK hP (ci := 7) (q0 := 39) rfl rfl) (hK.sub [0] rfl) hP hD hS hA rfl hl.1 rfl (Nat.le_of_ble_eq_true rfl) dL_law_591 ⟨Nat.le_of_ble_eq_true rfl, Nat.le_of_ble_eq_true rfl⟩ (fun r_59 u_57 H locs w_58 hP hD hS => ?_)
      obtain ⟨e7, hF8⟩ := w_58
      refine n_top e7 ?_
      have hP : va_P D vwCl ((cW a r k cI cT cN xh xi xr pn pc rd B L q kq) ++ (mW h g cI u_57.1 hz u_57.2)) H := hP
      have hD : va_D A ((cW a r k cI cT cN xh xi xr pn pc rd B L q kq) ++ (mW h g cI u_57.1 hz u_57.2)) := hD
      refine j_icmp_eq (tgt := 718) hx hb dL_law_594 (by decide) rfl rfl (fun c_60 => ?_) (fun c_60 => absurd c_60 (by omega))
      exact hN b pn pc rd B L q kq xh xi xr u_57.1 hz u_57.2 (LI_s hLI) (hSR) (hF8) _ _ hP hD hS _ (lv_sub hl [0, 1, 2, 3] rfl)

set_option maxHeartbeats 4000000 in
set_option maxRecDepth 100000 in
theorem law_c16 {p : Program} {e : Env} {s : State} {m : MethodId} {below : List Frame} {meth : Method} {c : Code} (l : Launch) {bb L0 : Nat} {xs : Nat → Int32} (hL : L0 ≤ 256) (C0 : lw_At p s m meth c bb L0 xs) (D : va_G) (cI cT cN : ClassId) (hK : va_K D vwCl (cTys cI cT cN) s) (a r k g : Nat → Nat) (h : Nat) (A : Nat → Prop) (hA : ∀ q : Nat, s.heap.size ≤ q → A q) (hbA : ¬ A bb) (j : Nat) (hj : 4 * j + 4 ≤ L0) (hN : LN p l e s m below meth c bb h a r k g cI cT cN D A j) (b : Nat → Nat → Nat) (pn : Nat) (pc : Nat → Int32) (rd : Nat × Nat × Nat) (B L : Nat → Int32) (q kq : RS) (xh xi xr : Nat) (J : Nat → Int32) (hz : Int64) (G : Nat → Nat → Int32) (hLI : LI b pn xr xi xh pc q kq j) (hSR : SR b B L) (hF : MF b pn xr xi pc q kq J G) (H : Heap) (locs : List Loc) (hP : va_P D vwCl (cW a r k cI cT cN xh xi xr pn pc rd B L q kq ++ mW h g cI J hz G) H) (hD : va_D A (cW a r k cI cT cN xh xi xr pn pc rd B L q kq ++ mW h g cI J hz G)) (hS : va_S A s.heap H locs) (ls : Array Slot) (hl : lv_has ls 4 [(0, .ref bb), (1, .ref (a 0)), (2, .ref h), (3, .int (nI (4 * j)))]) : W p l e room_1 s m #[Value.ref bb] below meth c H locs 600000 7302250 (lw_Z below #[Value.ref bb] s) (F0 m 612 ls []) := by
  obtain ⟨hx, hb, hr, hml, hown, htsL, hX, hbl, hlocks, hgv⟩ := id C0
  have hts : ∀ w ∈ wAll, w.before #[Value.ref bb] s = true := fun w h => htsL w (wAll_in h)
  have hnst : ∀ w ∈ wNst, w.before #[Value.ref bb] s = true := fun w h => htsL w (wNst_in w h)
  have hown : s.vm.findClass RL = some m.cls := hown
  obtain ⟨l1, l2, l3, l4, l5, l6, l7, l8⟩ := id hLI
  have hb4 := LI_b4 hLI
  have ht5 := l3.1
  rcases inr_or1 (xs (4 * j + 1)) with ⟨dd, hd1, hd2, e1⟩ | ox
  · rcases inr_or0 (xs (4 * j + 2)) with ⟨y, hy, e2⟩ | oy
    · rcases inr_or (xs (4 * j + 3)) 3 3 rfl (by decide) with ⟨w, hw, e3⟩ | ow
      · rcases Decidable.em (q.1 = 0) with h0 | h0
        · refine lv_aload_n hx hb dL_law_612 rfl (lv_at hl 1 rfl) ?_
          refine lv_aload_n hx hb dL_law_613 rfl (lv_at hl 0 rfl) ?_
          refine lv_iload_n hx hb dL_law_614 rfl (lv_at hl 3 rfl) ?_
          refine lv_iconst (v := nI 1) hx hb dL_law_615 (by decide) ?_
          refine n_iadd hx hb dL_law_616 ?_
          refine n_sld hx hb hX hbl hbA hS (i := 4 * j + 1) (by omega) (by omega) dL_law_617 ?_
          refine n_top e1 ?_
          refine lv_aload_n hx hb dL_law_618 rfl (lv_at hl 0 rfl) ?_
          refine lv_iload_n hx hb dL_law_619 rfl (lv_at hl 3 rfl) ?_
          refine lv_iconst (v := nI 2) hx hb dL_law_620 (by decide) ?_
          refine n_iadd hx hb dL_law_621 ?_
          refine n_sld hx hb hX hbl hbA hS (i := 4 * j + 2) (by omega) (by omega) dL_law_622 ?_
          refine n_top e2 ?_
          refine lv_aload_n hx hb dL_law_623 rfl (lv_at hl 0 rfl) ?_
          refine lv_iload_n hx hb dL_law_624 rfl (lv_at hl 3 rfl) ?_
          refine lv_iconst (v := nI 3) hx hb dL_law_625 (by decide) ?_
          refine n_iadd hx hb dL_law_626 ?_
          refine n_sld hx hb hX hbl hbA hS (i := 4 * j + 3) (by omega) (by omega) dL_law_627 ?_
          refine n_top e3 ?_
          refine ro_iV (n := 3) (As := [.int (nI dd), .int (nI y), .int (nI w)]) ⟨hx, hb, hml, hown, hts⟩ (c_X6_nights l D a r k cI cT cN xh xi xr pn pc rd B L q kq b hSR l4 l3 l8 (nI dd) (nI y) (nI w)) (cwV 3 hts (gV mg_396 mg_397 mg_398 mg_1 mg_399) rfl rfl rfl vd_X6_nights ⟨Nat.le_of_ble_eq_true rfl, Nat.le_of_ble_eq_true rfl⟩) (va_recv hK hP (ci := 6) (q0 := 0) rfl rfl) hK (vaP_l hP) rfl hl.1 rfl (Nat.le_of_ble_eq_true rfl) dL_law_628 ⟨Nat.le_of_ble_eq_true rfl, Nat.le_of_ble_eq_true rfl⟩ ?_
          refine n_top (spn4 hd1 hd2 hy hw h0) ?_
          refine lv_aload_n hx hb dL_law_631 rfl (lv_at hl 2 rfl) ?_
          refine lv_aload_n hx hb dL_law_632 rfl (lv_at hl 0 rfl) ?_
          refine lv_iload_n hx hb dL_law_633 rfl (lv_at hl 3 rfl) ?_
          refine lv_iconst (v := nI 1) hx hb dL_law_634 (by decide) ?_
          refine n_iadd hx hb dL_law_635 ?_
          refine n_sld hx hb hX hbl hbA hS (i := 4 * j + 1) (by omega) (by omega) dL_law_636 ?_
          refine n_top e1 ?_
          refine lv_aload_n hx hb dL_law_637 rfl (lv_at hl 0 rfl) ?_
          refine lv_iload_n hx hb dL_law_638 rfl (lv_at hl 3 rfl) ?_
          refine lv_iconst (v := nI 2) hx hb dL_law_639 (by decide) ?_
          refine n_iadd hx hb dL_law_640 ?_
          refine n_sld hx hb hX hbl hbA hS (i := 4 * j + 2) (by omega) (by omega) dL_law_641 ?_
          refine n_top e2 ?_
          refine lv_aload_n hx hb dL_law_642 rfl (lv_at hl 0 rfl) ?_
          refine lv_iload_n hx hb dL_law_643 rfl (lv_at hl 3 rfl) ?_
          refine lv_iconst (v := nI 3) hx hb dL_law_644 (by decide) ?_
          refine n_iadd hx hb dL_law_645 ?_
          refine n_sld hx hb hX hbl hbA hS (i := 4 * j + 3) (by omega) (by omega) dL_law_646 ?_
          refine n_top e3 ?_
          refine rw_iV (X := (cW a r k cI cT cN xh xi xr pn pc rd B L q kq)) (Y := []) (n := 3) (As := [.int (nI dd), .int (nI y), .int (nI w)]) ⟨hx, hb, hml, hown, hts⟩ (c_X7_nights4 l D h g cI _ J hz G b pn xr xi pc q kq hF l4 l3 h0 dd hd1 hd2 y hy w hw) (cwV 3 hts (gV mg_690 mg_691 mg_692 mg_8 mg_693) rfl rfl rfl vd_X7_nights ⟨Nat.le_of_ble_eq_true rfl, Nat.le_of_ble_eq_true rfl⟩) (va_recv hK hP (ci := 7) (q0 := 39) rfl rfl) (hK.sub [0] rfl) hP hD hS hA rfl hl.1 rfl (Nat.le_of_ble_eq_true rfl) dL_law_647 ⟨Nat.le_of_ble_eq_true rfl, Nat.le_of_ble_eq_true rfl⟩ (fun r_3 u_1 H locs w_2 hP hD hS => ?_)
          obtain ⟨e7, hF8⟩ := w_2
          refine n_top e7 ?_
          have hP : va_P D vwCl ((cW a r k cI cT cN xh xi xr pn pc rd B L q kq) ++ (mW h g cI u_1.1 hz u_1.2)) H := hP
          have hD : va_D A ((cW a r k cI cT cN xh xi xr pn pc rd B L q kq) ++ (mW h g cI u_1.1 hz u_1.2)) := hD
          refine j_icmp_eq (tgt := 718) hx hb dL_law_650 (by decide) rfl rfl (fun c_4 => ?_) (fun c_4 => absurd c_4 (by omega))
          exact hN b pn pc rd B L q kq xh xi xr u_1.1 hz u_1.2 (LI_s hLI) (hSR) (hF8) _ _ hP hD hS _ (lv_sub hl [0, 1, 2, 3] rfl)
        · rcases (show w = 0 ∨ w = 1 ∨ w = 2 by omega) with rfl | rfl | rfl
          · refine lv_aload_n hx hb dL_law_612 rfl (lv_at hl 1 rfl) ?_
            refine lv_aload_n hx hb dL_law_613 rfl (lv_at hl 0 rfl) ?_
            refine lv_iload_n hx hb dL_law_614 rfl (lv_at hl 3 rfl) ?_
            refine lv_iconst (v := nI 1) hx hb dL_law_615 (by decide) ?_
            refine n_iadd hx hb dL_law_616 ?_
            refine n_sld hx hb hX hbl hbA hS (i := 4 * j + 1) (by omega) (by omega) dL_law_617 ?_
            refine n_top e1 ?_
            refine lv_aload_n hx hb dL_law_618 rfl (lv_at hl 0 rfl) ?_
            refine lv_iload_n hx hb dL_law_619 rfl (lv_at hl 3 rfl) ?_
            refine lv_iconst (v := nI 2) hx hb dL_law_620 (by decide) ?_
            refine n_iadd hx hb dL_law_621 ?_
            refine n_sld hx hb hX hbl hbA hS (i := 4 * j + 2) (by omega) (by omega) dL_law_622 ?_
            refine n_top e2 ?_
            refine lv_aload_n hx hb dL_law_623 rfl (lv_at hl 0 rfl) ?_
            refine lv_iload_n hx hb dL_law_624 rfl (lv_at hl 3 rfl) ?_
            refine lv_iconst (v := nI 3) hx hb dL_law_625 (by decide) ?_
            refine n_iadd hx hb dL_law_626 ?_
            refine n_sld hx hb hX hbl hbA hS (i := 4 * j + 3) (by omega) (by omega) dL_law_627 ?_
            refine n_top e3 ?_
            refine ro_iV (n := 3) (As := [.int (nI dd), .int (nI y), .int (nI 0)]) ⟨hx, hb, hml, hown, hts⟩ (c_X6_nights l D a r k cI cT cN xh xi xr pn pc rd B L q kq b hSR l4 l3 l8 (nI dd) (nI y) (nI 0)) (cwV 3 hts (gV mg_396 mg_397 mg_398 mg_1 mg_399) rfl rfl rfl vd_X6_nights ⟨Nat.le_of_ble_eq_true rfl, Nat.le_of_ble_eq_true rfl⟩) (va_recv hK hP (ci := 6) (q0 := 0) rfl rfl) hK (vaP_l hP) rfl hl.1 rfl (Nat.le_of_ble_eq_true rfl) dL_law_628 ⟨Nat.le_of_ble_eq_true rfl, Nat.le_of_ble_eq_true rfl⟩ ?_
            refine n_top (spn5 hd1 hd2 hy (w := 0) (by decide) h0) ?_
            refine lv_aload_n hx hb dL_law_631 rfl (lv_at hl 2 rfl) ?_
            refine lv_aload_n hx hb dL_law_632 rfl (lv_at hl 0 rfl) ?_
            refine lv_iload_n hx hb dL_law_633 rfl (lv_at hl 3 rfl) ?_
            refine lv_iconst (v := nI 1) hx hb dL_law_634 (by decide) ?_
            refine n_iadd hx hb dL_law_635 ?_
            refine n_sld hx hb hX hbl hbA hS (i := 4 * j + 1) (by omega) (by omega) dL_law_636 ?_
            refine n_top e1 ?_
            refine lv_aload_n hx hb dL_law_637 rfl (lv_at hl 0 rfl) ?_
            refine lv_iload_n hx hb dL_law_638 rfl (lv_at hl 3 rfl) ?_
            refine lv_iconst (v := nI 2) hx hb dL_law_639 (by decide) ?_
            refine n_iadd hx hb dL_law_640 ?_
            refine n_sld hx hb hX hbl hbA hS (i := 4 * j + 2) (by omega) (by omega) dL_law_641 ?_
            refine n_top e2 ?_
            refine lv_aload_n hx hb dL_law_642 rfl (lv_at hl 0 rfl) ?_
            refine lv_iload_n hx hb dL_law_643 rfl (lv_at hl 3 rfl) ?_
            refine lv_iconst (v := nI 3) hx hb dL_law_644 (by decide) ?_
            refine n_iadd hx hb dL_law_645 ?_
            refine n_sld hx hb hX hbl hbA hS (i := 4 * j + 3) (by omega) (by omega) dL_law_646 ?_
            refine n_top e3 ?_
            refine rw_iV (X := (cW a r k cI cT cN xh xi xr pn pc rd B L q kq)) (Y := []) (n := 3) (As := [.int (nI dd), .int (nI y), .int (nI 0)]) ⟨hx, hb, hml, hown, hts⟩ (c_X7_nightsI0 l D h g cI _ J hz G b pn xr xi pc q kq hF l4 l3 h0 dd hd1 hd2 y hy) (cwV 3 hts (gV mg_690 mg_691 mg_692 mg_8 mg_693) rfl rfl rfl vd_X7_nights ⟨Nat.le_of_ble_eq_true rfl, Nat.le_of_ble_eq_true rfl⟩) (va_recv hK hP (ci := 7) (q0 := 39) rfl rfl) (hK.sub [0] rfl) hP hD hS hA rfl hl.1 rfl (Nat.le_of_ble_eq_true rfl) dL_law_647 ⟨Nat.le_of_ble_eq_true rfl, Nat.le_of_ble_eq_true rfl⟩ (fun r_7 u_5 H locs w_6 hP hD hS => ?_)
            obtain ⟨e7, hF8⟩ := w_6
            refine n_top e7 ?_
            have hP : va_P D vwCl ((cW a r k cI cT cN xh xi xr pn pc rd B L q kq) ++ (mW h g cI u_5.1 hz u_5.2)) H := hP
            have hD : va_D A ((cW a r k cI cT cN xh xi xr pn pc rd B L q kq) ++ (mW h g cI u_5.1 hz u_5.2)) := hD
            refine j_icmp_eq (tgt := 718) hx hb dL_law_650 (by decide) rfl rfl (fun c_8 => ?_) (fun c_8 => absurd c_8 (fun z => z rfl))
            exact hN b pn pc rd B L q kq xh xi xr u_5.1 hz u_5.2 (LI_s hLI) (hSR) (hF8) _ _ hP hD hS _ (lv_sub hl [0, 1, 2, 3] rfl)
          · refine lv_aload_n hx hb dL_law_612 rfl (lv_at hl 1 rfl) ?_
            refine lv_aload_n hx hb dL_law_613 rfl (lv_at hl 0 rfl) ?_
            refine lv_iload_n hx hb dL_law_614 rfl (lv_at hl 3 rfl) ?_
            refine lv_iconst (v := nI 1) hx hb dL_law_615 (by decide) ?_
            refine n_iadd hx hb dL_law_616 ?_
            refine n_sld hx hb hX hbl hbA hS (i := 4 * j + 1) (by omega) (by omega) dL_law_617 ?_
            refine n_top e1 ?_
            refine lv_aload_n hx hb dL_law_618 rfl (lv_at hl 0 rfl) ?_
            refine lv_iload_n hx hb dL_law_619 rfl (lv_at hl 3 rfl) ?_
            refine lv_iconst (v := nI 2) hx hb dL_law_620 (by decide) ?_
            refine n_iadd hx hb dL_law_621 ?_
            refine n_sld hx hb hX hbl hbA hS (i := 4 * j + 2) (by omega) (by omega) dL_law_622 ?_
            refine n_top e2 ?_
            refine lv_aload_n hx hb dL_law_623 rfl (lv_at hl 0 rfl) ?_
            refine lv_iload_n hx hb dL_law_624 rfl (lv_at hl 3 rfl) ?_
            refine lv_iconst (v := nI 3) hx hb dL_law_625 (by decide) ?_
            refine n_iadd hx hb dL_law_626 ?_
            refine n_sld hx hb hX hbl hbA hS (i := 4 * j + 3) (by omega) (by omega) dL_law_627 ?_
            refine n_top e3 ?_
            refine ro_iV (n := 3) (As := [.int (nI dd), .int (nI y), .int (nI 1)]) ⟨hx, hb, hml, hown, hts⟩ (c_X6_nights l D a r k cI cT cN xh xi xr pn pc rd B L q kq b hSR l4 l3 l8 (nI dd) (nI y) (nI 1)) (cwV 3 hts (gV mg_396 mg_397 mg_398 mg_1 mg_399) rfl rfl rfl vd_X6_nights ⟨Nat.le_of_ble_eq_true rfl, Nat.le_of_ble_eq_true rfl⟩) (va_recv hK hP (ci := 6) (q0 := 0) rfl rfl) hK (vaP_l hP) rfl hl.1 rfl (Nat.le_of_ble_eq_true rfl) dL_law_628 ⟨Nat.le_of_ble_eq_true rfl, Nat.le_of_ble_eq_true rfl⟩ ?_
            refine n_top (spn5 hd1 hd2 hy (w := 1) (by decide) h0) ?_
            refine lv_aload_n hx hb dL_law_631 rfl (lv_at hl 2 rfl) ?_
            refine lv_aload_n hx hb dL_law_632 rfl (lv_at hl 0 rfl) ?_
            refine lv_iload_n hx hb dL_law_633 rfl (lv_at hl 3 rfl) ?_
            refine lv_iconst (v := nI 1) hx hb dL_law_634 (by decide) ?_
            refine n_iadd hx hb dL_law_635 ?_
            refine n_sld hx hb hX hbl hbA hS (i := 4 * j + 1) (by omega) (by omega) dL_law_636 ?_
            refine n_top e1 ?_
            refine lv_aload_n hx hb dL_law_637 rfl (lv_at hl 0 rfl) ?_
            refine lv_iload_n hx hb dL_law_638 rfl (lv_at hl 3 rfl) ?_
            refine lv_iconst (v := nI 2) hx hb dL_law_639 (by decide) ?_
            refine n_iadd hx hb dL_law_640 ?_
            refine n_sld hx hb hX hbl hbA hS (i := 4 * j + 2) (by omega) (by omega) dL_law_641 ?_
            refine n_top e2 ?_
            refine lv_aload_n hx hb dL_law_642 rfl (lv_at hl 0 rfl) ?_
            refine lv_iload_n hx hb dL_law_643 rfl (lv_at hl 3 rfl) ?_
            refine lv_iconst (v := nI 3) hx hb dL_law_644 (by decide) ?_
            refine n_iadd hx hb dL_law_645 ?_
            refine n_sld hx hb hX hbl hbA hS (i := 4 * j + 3) (by omega) (by omega) dL_law_646 ?_
            refine n_top e3 ?_
            refine rw_iV (X := (cW a r k cI cT cN xh xi xr pn pc rd B L q kq)) (Y := []) (n := 3) (As := [.int (nI dd), .int (nI y), .int (nI 1)]) ⟨hx, hb, hml, hown, hts⟩ (c_X7_nightsI1 l D h g cI _ J hz G b pn xr xi pc q kq hF l4 l3 h0 dd hd1 hd2 y hy) (cwV 3 hts (gV mg_690 mg_691 mg_692 mg_8 mg_693) rfl rfl rfl vd_X7_nights ⟨Nat.le_of_ble_eq_true rfl, Nat.le_of_ble_eq_true rfl⟩) (va_recv hK hP (ci := 7) (q0 := 39) rfl rfl) (hK.sub [0] rfl) hP hD hS hA rfl hl.1 rfl (Nat.le_of_ble_eq_true rfl) dL_law_647 ⟨Nat.le_of_ble_eq_true rfl, Nat.le_of_ble_eq_true rfl⟩ (fun r_11 u_9 H locs w_10 hP hD hS => ?_)
            obtain ⟨e7, hF8⟩ := w_10
            refine n_top e7 ?_
            have hP : va_P D vwCl ((cW a r k cI cT cN xh xi xr pn pc rd B L q kq) ++ (mW h g cI u_9.1 hz u_9.2)) H := hP
            have hD : va_D A ((cW a r k cI cT cN xh xi xr pn pc rd B L q kq) ++ (mW h g cI u_9.1 hz u_9.2)) := hD
            refine j_icmp_eq (tgt := 718) hx hb dL_law_650 (by decide) rfl rfl (fun c_12 => ?_) (fun c_12 => absurd c_12 (fun z => z rfl))
            exact hN b pn pc rd B L q kq xh xi xr u_9.1 hz u_9.2 (LI_s hLI) (hSR) (hF8) _ _ hP hD hS _ (lv_sub hl [0, 1, 2, 3] rfl)
          · refine lv_aload_n hx hb dL_law_612 rfl (lv_at hl 1 rfl) ?_
            refine lv_aload_n hx hb dL_law_613 rfl (lv_at hl 0 rfl) ?_
            refine lv_iload_n hx hb dL_law_614 rfl (lv_at hl 3 rfl) ?_
            refine lv_iconst (v := nI 1) hx hb dL_law_615 (by decide) ?_
            refine n_iadd hx hb dL_law_616 ?_
            refine n_sld hx hb hX hbl hbA hS (i := 4 * j + 1) (by omega) (by omega) dL_law_617 ?_
            refine n_top e1 ?_
            refine lv_aload_n hx hb dL_law_618 rfl (lv_at hl 0 rfl) ?_
            refine lv_iload_n hx hb dL_law_619 rfl (lv_at hl 3 rfl) ?_
            refine lv_iconst (v := nI 2) hx hb dL_law_620 (by decide) ?_
            refine n_iadd hx hb dL_law_621 ?_
            refine n_sld hx hb hX hbl hbA hS (i := 4 * j + 2) (by omega) (by omega) dL_law_622 ?_
            refine n_top e2 ?_
            refine lv_aload_n hx hb dL_law_623 rfl (lv_at hl 0 rfl) ?_
            refine lv_iload_n hx hb dL_law_624 rfl (lv_at hl 3 rfl) ?_
            refine lv_iconst (v := nI 3) hx hb dL_law_625 (by decide) ?_
            refine n_iadd hx hb dL_law_626 ?_
            refine n_sld hx hb hX hbl hbA hS (i := 4 * j + 3) (by omega) (by omega) dL_law_627 ?_
            refine n_top e3 ?_
            refine ro_iV (n := 3) (As := [.int (nI dd), .int (nI y), .int (nI 2)]) ⟨hx, hb, hml, hown, hts⟩ (c_X6_nights l D a r k cI cT cN xh xi xr pn pc rd B L q kq b hSR l4 l3 l8 (nI dd) (nI y) (nI 2)) (cwV 3 hts (gV mg_396 mg_397 mg_398 mg_1 mg_399) rfl rfl rfl vd_X6_nights ⟨Nat.le_of_ble_eq_true rfl, Nat.le_of_ble_eq_true rfl⟩) (va_recv hK hP (ci := 6) (q0 := 0) rfl rfl) hK (vaP_l hP) rfl hl.1 rfl (Nat.le_of_ble_eq_true rfl) dL_law_628 ⟨Nat.le_of_ble_eq_true rfl, Nat.le_of_ble_eq_true rfl⟩ ?_
            refine n_top (spn5 hd1 hd2 hy (w := 2) (by decide) h0) ?_
            refine lv_aload_n hx hb dL_law_631 rfl (lv_at hl 2 rfl) ?_
            refine lv_aload_n hx hb dL_law_632 rfl (lv_at hl 0 rfl) ?_
            refine lv_iload_n hx hb dL_law_633 rfl (lv_at hl 3 rfl) ?_
            refine lv_iconst (v := nI 1) hx hb dL_law_634 (by decide) ?_
            refine n_iadd hx hb dL_law_635 ?_
            refine n_sld hx hb hX hbl hbA hS (i := 4 * j + 1) (by omega) (by omega) dL_law_636 ?_
            refine n_top e1 ?_
            refine lv_aload_n hx hb dL_law_637 rfl (lv_at hl 0 rfl) ?_
            refine lv_iload_n hx hb dL_law_638 rfl (lv_at hl 3 rfl) ?_
            refine lv_iconst (v := nI 2) hx hb dL_law_639 (by decide) ?_
            refine n_iadd hx hb dL_law_640 ?_
            refine n_sld hx hb hX hbl hbA hS (i := 4 * j + 2) (by omega) (by omega) dL_law_641 ?_
            refine n_top e2 ?_
            refine lv_aload_n hx hb dL_law_642 rfl (lv_at hl 0 rfl) ?_
            refine lv_iload_n hx hb dL_law_643 rfl (lv_at hl 3 rfl) ?_
            refine lv_iconst (v := nI 3) hx hb dL_law_644 (by decide) ?_
            refine n_iadd hx hb dL_law_645 ?_
            refine n_sld hx hb hX hbl hbA hS (i := 4 * j + 3) (by omega) (by omega) dL_law_646 ?_
            refine n_top e3 ?_
            refine rw_iV (X := (cW a r k cI cT cN xh xi xr pn pc rd B L q kq)) (Y := []) (n := 3) (As := [.int (nI dd), .int (nI y), .int (nI 2)]) ⟨hx, hb, hml, hown, hts⟩ (c_X7_nightsI2 l D h g cI _ J hz G b pn xr xi pc q kq hF l4 l3 h0 dd hd1 hd2 y hy) (cwV 3 hts (gV mg_690 mg_691 mg_692 mg_8 mg_693) rfl rfl rfl vd_X7_nights ⟨Nat.le_of_ble_eq_true rfl, Nat.le_of_ble_eq_true rfl⟩) (va_recv hK hP (ci := 7) (q0 := 39) rfl rfl) (hK.sub [0] rfl) hP hD hS hA rfl hl.1 rfl (Nat.le_of_ble_eq_true rfl) dL_law_647 ⟨Nat.le_of_ble_eq_true rfl, Nat.le_of_ble_eq_true rfl⟩ (fun r_15 u_13 H locs w_14 hP hD hS => ?_)
            obtain ⟨e7, hF8⟩ := w_14
            refine n_top e7 ?_
            have hP : va_P D vwCl ((cW a r k cI cT cN xh xi xr pn pc rd B L q kq) ++ (mW h g cI u_13.1 hz u_13.2)) H := hP
            have hD : va_D A ((cW a r k cI cT cN xh xi xr pn pc rd B L q kq) ++ (mW h g cI u_13.1 hz u_13.2)) := hD
            refine j_icmp_eq (tgt := 718) hx hb dL_law_650 (by decide) rfl rfl (fun c_16 => ?_) (fun c_16 => absurd c_16 (fun z => z rfl))
            exact hN b pn pc rd B L q kq xh xi xr u_13.1 hz u_13.2 (LI_s hLI) (hSR) (hF8) _ _ hP hD hS _ (lv_sub hl [0, 1, 2, 3] rfl)
      · refine lv_aload_n hx hb dL_law_612 rfl (lv_at hl 1 rfl) ?_
        refine lv_aload_n hx hb dL_law_613 rfl (lv_at hl 0 rfl) ?_
        refine lv_iload_n hx hb dL_law_614 rfl (lv_at hl 3 rfl) ?_
        refine lv_iconst (v := nI 1) hx hb dL_law_615 (by decide) ?_
        refine n_iadd hx hb dL_law_616 ?_
        refine n_sld hx hb hX hbl hbA hS (i := 4 * j + 1) (by omega) (by omega) dL_law_617 ?_
        refine n_top e1 ?_
        refine lv_aload_n hx hb dL_law_618 rfl (lv_at hl 0 rfl) ?_
        refine lv_iload_n hx hb dL_law_619 rfl (lv_at hl 3 rfl) ?_
        refine lv_iconst (v := nI 2) hx hb dL_law_620 (by decide) ?_
        refine n_iadd hx hb dL_law_621 ?_
        refine n_sld hx hb hX hbl hbA hS (i := 4 * j + 2) (by omega) (by omega) dL_law_622 ?_
        refine n_top e2 ?_
        refine lv_aload_n hx hb dL_law_623 rfl (lv_at hl 0 rfl) ?_
        refine lv_iload_n hx hb dL_law_624 rfl (lv_at hl 3 rfl) ?_
        refine lv_iconst (v := nI 3) hx hb dL_law_625 (by decide) ?_
        refine n_iadd hx hb dL_law_626 ?_
        refine n_sld hx hb hX hbl hbA hS (i := 4 * j + 3) (by omega) (by omega) dL_law_627 ?_
        refine ro_iV (n := 3) (As := [.int (nI dd), .int (nI y), .int (xs (4 * j + 3))]) ⟨hx, hb, hml, hown, hts⟩ (c_X6_nights l D a r k cI cT cN xh xi xr pn pc rd B L q kq b hSR l4 l3 l8 (nI dd) (nI y) (xs (4 * j + 3))) (cwV 3 hts (gV mg_396 mg_397 mg_398 mg_1 mg_399) rfl rfl rfl vd_X6_nights ⟨Nat.le_of_ble_eq_true rfl, Nat.le_of_ble_eq_true rfl⟩) (va_recv hK hP (ci := 6) (q0 := 0) rfl rfl) hK (vaP_l hP) rfl hl.1 rfl (Nat.le_of_ble_eq_true rfl) dL_law_628 ⟨Nat.le_of_ble_eq_true rfl, Nat.le_of_ble_eq_true rfl⟩ ?_
        refine n_top (spn3 ow) ?_
        refine lv_aload_n hx hb dL_law_631 rfl (lv_at hl 2 rfl) ?_
        refine lv_aload_n hx hb dL_law_632 rfl (lv_at hl 0 rfl) ?_
        refine lv_iload_n hx hb dL_law_633 rfl (lv_at hl 3 rfl) ?_
        refine lv_iconst (v := nI 1) hx hb dL_law_634 (by decide) ?_
        refine n_iadd hx hb dL_law_635 ?_
        refine n_sld hx hb hX hbl hbA hS (i := 4 * j + 1) (by omega) (by omega) dL_law_636 ?_
        refine n_top e1 ?_
        refine lv_aload_n hx hb dL_law_637 rfl (lv_at hl 0 rfl) ?_
        refine lv_iload_n hx hb dL_law_638 rfl (lv_at hl 3 rfl) ?_
        refine lv_iconst (v := nI 2) hx hb dL_law_639 (by decide) ?_
        refine n_iadd hx hb dL_law_640 ?_
        refine n_sld hx hb hX hbl hbA hS (i := 4 * j + 2) (by omega) (by omega) dL_law_641 ?_
        refine n_top e2 ?_
        refine lv_aload_n hx hb dL_law_642 rfl (lv_at hl 0 rfl) ?_
        refine lv_iload_n hx hb dL_law_643 rfl (lv_at hl 3 rfl) ?_
        refine lv_iconst (v := nI 3) hx hb dL_law_644 (by decide) ?_
        refine n_iadd hx hb dL_law_645 ?_
        refine n_sld hx hb hX hbl hbA hS (i := 4 * j + 3) (by omega) (by omega) dL_law_646 ?_
        refine rw_iV (X := (cW a r k cI cT cN xh xi xr pn pc rd B L q kq)) (Y := []) (n := 3) (As := [.int (nI dd), .int (nI y), .int (xs (4 * j + 3))]) ⟨hx, hb, hml, hown, hts⟩ (c_X7_nights3 l D h g cI _ J hz G b pn xr xi pc q kq hF l4 l3 dd hd1 hd2 y hy (xs (4 * j + 3)) ow) (cwV 3 hts (gV mg_690 mg_691 mg_692 mg_8 mg_693) rfl rfl rfl vd_X7_nights ⟨Nat.le_of_ble_eq_true rfl, Nat.le_of_ble_eq_true rfl⟩) (va_recv hK hP (ci := 7) (q0 := 39) rfl rfl) (hK.sub [0] rfl) hP hD hS hA rfl hl.1 rfl (Nat.le_of_ble_eq_true rfl) dL_law_647 ⟨Nat.le_of_ble_eq_true rfl, Nat.le_of_ble_eq_true rfl⟩ (fun r_19 u_17 H locs w_18 hP hD hS => ?_)
        obtain ⟨e7, hF8⟩ := w_18
        refine n_top e7 ?_
        have hP : va_P D vwCl ((cW a r k cI cT cN xh xi xr pn pc rd B L q kq) ++ (mW h g cI u_17.1 hz u_17.2)) H := hP
        have hD : va_D A ((cW a r k cI cT cN xh xi xr pn pc rd B L q kq) ++ (mW h g cI u_17.1 hz u_17.2)) := hD
        refine j_icmp_eq (tgt := 718) hx hb dL_law_650 (by decide) rfl rfl (fun c_20 => ?_) (fun c_20 => absurd c_20 (by omega))
        exact hN b pn pc rd B L q kq xh xi xr u_17.1 hz u_17.2 (LI_s hLI) (hSR) (hF8) _ _ hP hD hS _ (lv_sub hl [0, 1, 2, 3] rfl)
    · refine lv_aload_n hx hb dL_law_612 rfl (lv_at hl 1 rfl) ?_
      refine lv_aload_n hx hb dL_law_613 rfl (lv_at hl 0 rfl) ?_
      refine lv_iload_n hx hb dL_law_614 rfl (lv_at hl 3 rfl) ?_
      refine lv_iconst (v := nI 1) hx hb dL_law_615 (by decide) ?_
      refine n_iadd hx hb dL_law_616 ?_
      refine n_sld hx hb hX hbl hbA hS (i := 4 * j + 1) (by omega) (by omega) dL_law_617 ?_
      refine n_top e1 ?_
      refine lv_aload_n hx hb dL_law_618 rfl (lv_at hl 0 rfl) ?_
      refine lv_iload_n hx hb dL_law_619 rfl (lv_at hl 3 rfl) ?_
      refine lv_iconst (v := nI 2) hx hb dL_law_620 (by decide) ?_
      refine n_iadd hx hb dL_law_621 ?_
      refine n_sld hx hb hX hbl hbA hS (i := 4 * j + 2) (by omega) (by omega) dL_law_622 ?_
      refine lv_aload_n hx hb dL_law_623 rfl (lv_at hl 0 rfl) ?_
      refine lv_iload_n hx hb dL_law_624 rfl (lv_at hl 3 rfl) ?_
      refine lv_iconst (v := nI 3) hx hb dL_law_625 (by decide) ?_
      refine n_iadd hx hb dL_law_626 ?_
      refine n_sld hx hb hX hbl hbA hS (i := 4 * j + 3) (by omega) (by omega) dL_law_627 ?_
      refine ro_iV (n := 3) (As := [.int (nI dd), .int (xs (4 * j + 2)), .int (xs (4 * j + 3))]) ⟨hx, hb, hml, hown, hts⟩ (c_X6_nights l D a r k cI cT cN xh xi xr pn pc rd B L q kq b hSR l4 l3 l8 (nI dd) (xs (4 * j + 2)) (xs (4 * j + 3))) (cwV 3 hts (gV mg_396 mg_397 mg_398 mg_1 mg_399) rfl rfl rfl vd_X6_nights ⟨Nat.le_of_ble_eq_true rfl, Nat.le_of_ble_eq_true rfl⟩) (va_recv hK hP (ci := 6) (q0 := 0) rfl rfl) hK (vaP_l hP) rfl hl.1 rfl (Nat.le_of_ble_eq_true rfl) dL_law_628 ⟨Nat.le_of_ble_eq_true rfl, Nat.le_of_ble_eq_true rfl⟩ ?_
      refine n_top (spn2 oy) ?_
      refine lv_aload_n hx hb dL_law_631 rfl (lv_at hl 2 rfl) ?_
      refine lv_aload_n hx hb dL_law_632 rfl (lv_at hl 0 rfl) ?_
      refine lv_iload_n hx hb dL_law_633 rfl (lv_at hl 3 rfl) ?_
      refine lv_iconst (v := nI 1) hx hb dL_law_634 (by decide) ?_
      refine n_iadd hx hb dL_law_635 ?_
      refine n_sld hx hb hX hbl hbA hS (i := 4 * j + 1) (by omega) (by omega) dL_law_636 ?_
      refine n_top e1 ?_
      refine lv_aload_n hx hb dL_law_637 rfl (lv_at hl 0 rfl) ?_
      refine lv_iload_n hx hb dL_law_638 rfl (lv_at hl 3 rfl) ?_
      refine lv_iconst (v := nI 2) hx hb dL_law_639 (by decide) ?_
      refine n_iadd hx hb dL_law_640 ?_
      refine n_sld hx hb hX hbl hbA hS (i := 4 * j + 2) (by omega) (by omega) dL_law_641 ?_
      refine lv_aload_n hx hb dL_law_642 rfl (lv_at hl 0 rfl) ?_
      refine lv_iload_n hx hb dL_law_643 rfl (lv_at hl 3 rfl) ?_
      refine lv_iconst (v := nI 3) hx hb dL_law_644 (by decide) ?_
      refine n_iadd hx hb dL_law_645 ?_
      refine n_sld hx hb hX hbl hbA hS (i := 4 * j + 3) (by omega) (by omega) dL_law_646 ?_
      refine rw_iV (X := (cW a r k cI cT cN xh xi xr pn pc rd B L q kq)) (Y := []) (n := 3) (As := [.int (nI dd), .int (xs (4 * j + 2)), .int (xs (4 * j + 3))]) ⟨hx, hb, hml, hown, hts⟩ (c_X7_nights2 l D h g cI _ J hz G b pn xr xi pc q kq hF l4 l3 dd hd1 hd2 (xs (4 * j + 2)) (xs (4 * j + 3)) oy) (cwV 3 hts (gV mg_690 mg_691 mg_692 mg_8 mg_693) rfl rfl rfl vd_X7_nights ⟨Nat.le_of_ble_eq_true rfl, Nat.le_of_ble_eq_true rfl⟩) (va_recv hK hP (ci := 7) (q0 := 39) rfl rfl) (hK.sub [0] rfl) hP hD hS hA rfl hl.1 rfl (Nat.le_of_ble_eq_true rfl) dL_law_647 ⟨Nat.le_of_ble_eq_true rfl, Nat.le_of_ble_eq_true rfl⟩ (fun r_23 u_21 H locs w_22 hP hD hS => ?_)
      obtain ⟨e7, hF8⟩ := w_22
      refine n_top e7 ?_
      have hP : va_P D vwCl ((cW a r k cI cT cN xh xi xr pn pc rd B L q kq) ++ (mW h g cI u_21.1 hz u_21.2)) H := hP
      have hD : va_D A ((cW a r k cI cT cN xh xi xr pn pc rd B L q kq) ++ (mW h g cI u_21.1 hz u_21.2)) := hD
      refine j_icmp_eq (tgt := 718) hx hb dL_law_650 (by decide) rfl rfl (fun c_24 => ?_) (fun c_24 => absurd c_24 (by omega))
      exact hN b pn pc rd B L q kq xh xi xr u_21.1 hz u_21.2 (LI_s hLI) (hSR) (hF8) _ _ hP hD hS _ (lv_sub hl [0, 1, 2, 3] rfl)
  · refine lv_aload_n hx hb dL_law_612 rfl (lv_at hl 1 rfl) ?_
    refine lv_aload_n hx hb dL_law_613 rfl (lv_at hl 0 rfl) ?_
    refine lv_iload_n hx hb dL_law_614 rfl (lv_at hl 3 rfl) ?_
    refine lv_iconst (v := nI 1) hx hb dL_law_615 (by decide) ?_
    refine n_iadd hx hb dL_law_616 ?_
    refine n_sld hx hb hX hbl hbA hS (i := 4 * j + 1) (by omega) (by omega) dL_law_617 ?_
    refine lv_aload_n hx hb dL_law_618 rfl (lv_at hl 0 rfl) ?_
    refine lv_iload_n hx hb dL_law_619 rfl (lv_at hl 3 rfl) ?_
    refine lv_iconst (v := nI 2) hx hb dL_law_620 (by decide) ?_
    refine n_iadd hx hb dL_law_621 ?_
    refine n_sld hx hb hX hbl hbA hS (i := 4 * j + 2) (by omega) (by omega) dL_law_622 ?_
    refine lv_aload_n hx hb dL_law_623 rfl (lv_at hl 0 rfl) ?_
    refine lv_iload_n hx hb dL_law_624 rfl (lv_at hl 3 rfl) ?_
    refine lv_iconst (v := nI 3) hx hb dL_law_625 (by decide) ?_
    refine n_iadd hx hb dL_law_626 ?_
    refine n_sld hx hb hX hbl hbA hS (i := 4 * j + 3) (by omega) (by omega) dL_law_627 ?_
    refine ro_iV (n := 3) (As := [.int (xs (4 * j + 1)), .int (xs (4 * j + 2)), .int (xs (4 * j + 3))]) ⟨hx, hb, hml, hown, hts⟩ (c_X6_nights l D a r k cI cT cN xh xi xr pn pc rd B L q kq b hSR l4 l3 l8 (xs (4 * j + 1)) (xs (4 * j + 2)) (xs (4 * j + 3))) (cwV 3 hts (gV mg_396 mg_397 mg_398 mg_1 mg_399) rfl rfl rfl vd_X6_nights ⟨Nat.le_of_ble_eq_true rfl, Nat.le_of_ble_eq_true rfl⟩) (va_recv hK hP (ci := 6) (q0 := 0) rfl rfl) hK (vaP_l hP) rfl hl.1 rfl (Nat.le_of_ble_eq_true rfl) dL_law_628 ⟨Nat.le_of_ble_eq_true rfl, Nat.le_of_ble_eq_true rfl⟩ ?_
    refine n_top (spn1 ox) ?_
    refine lv_aload_n hx hb dL_law_631 rfl (lv_at hl 2 rfl) ?_
    refine lv_aload_n hx hb dL_law_632 rfl (lv_at hl 0 rfl) ?_
    refine lv_iload_n hx hb dL_law_633 rfl (lv_at hl 3 rfl) ?_
    refine lv_iconst (v := nI 1) hx hb dL_law_634 (by decide) ?_
    refine n_iadd hx hb dL_law_635 ?_
    refine n_sld hx hb hX hbl hbA hS (i := 4 * j + 1) (by omega) (by omega) dL_law_636 ?_
    refine lv_aload_n hx hb dL_law_637 rfl (lv_at hl 0 rfl) ?_
    refine lv_iload_n hx hb dL_law_638 rfl (lv_at hl 3 rfl) ?_
    refine lv_iconst (v := nI 2) hx hb dL_law_639 (by decide) ?_
    refine n_iadd hx hb dL_law_640 ?_
    refine n_sld hx hb hX hbl hbA hS (i := 4 * j + 2) (by omega) (by omega) dL_law_641 ?_
    refine lv_aload_n hx hb dL_law_642 rfl (lv_at hl 0 rfl) ?_
    refine lv_iload_n hx hb dL_law_643 rfl (lv_at hl 3 rfl) ?_
    refine lv_iconst (v := nI 3) hx hb dL_law_644 (by decide) ?_
    refine n_iadd hx hb dL_law_645 ?_
    refine n_sld hx hb hX hbl hbA hS (i := 4 * j + 3) (by omega) (by omega) dL_law_646 ?_
    refine rw_iV (X := (cW a r k cI cT cN xh xi xr pn pc rd B L q kq)) (Y := []) (n := 3) (As := [.int (xs (4 * j + 1)), .int (xs (4 * j + 2)), .int (xs (4 * j + 3))]) ⟨hx, hb, hml, hown, hts⟩ (c_X7_nights1 l D h g cI _ J hz G b pn xr xi pc q kq hF l4 l3 (xs (4 * j + 1)) (xs (4 * j + 2)) (xs (4 * j + 3)) ox) (cwV 3 hts (gV mg_690 mg_691 mg_692 mg_8 mg_693) rfl rfl rfl vd_X7_nights ⟨Nat.le_of_ble_eq_true rfl, Nat.le_of_ble_eq_true rfl⟩) (va_recv hK hP (ci := 7) (q0 := 39) rfl rfl) (hK.sub [0] rfl) hP hD hS hA rfl hl.1 rfl (Nat.le_of_ble_eq_true rfl) dL_law_647 ⟨Nat.le_of_ble_eq_true rfl, Nat.le_of_ble_eq_true rfl⟩ (fun r_27 u_25 H locs w_26 hP hD hS => ?_)
    obtain ⟨e7, hF8⟩ := w_26
    refine n_top e7 ?_
    have hP : va_P D vwCl ((cW a r k cI cT cN xh xi xr pn pc rd B L q kq) ++ (mW h g cI u_25.1 hz u_25.2)) H := hP
    have hD : va_D A ((cW a r k cI cT cN xh xi xr pn pc rd B L q kq) ++ (mW h g cI u_25.1 hz u_25.2)) := hD
    refine j_icmp_eq (tgt := 718) hx hb dL_law_650 (by decide) rfl rfl (fun c_28 => ?_) (fun c_28 => absurd c_28 (by omega))
    exact hN b pn pc rd B L q kq xh xi xr u_25.1 hz u_25.2 (LI_s hLI) (hSR) (hF8) _ _ hP hD hS _ (lv_sub hl [0, 1, 2, 3] rfl)
