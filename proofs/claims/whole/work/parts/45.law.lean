set_option maxHeartbeats 40000000 in
set_option maxRecDepth 100000 in
theorem law_rest {p : Program} {e : Env} {s : State} {m : MethodId} {below : List Frame} {meth : Method} {c : Code} (l : Launch) {bb L0 : Nat} {xs : Nat → Int32} (hL : L0 ≤ 256) (C0 : lw_At p s m meth c bb L0 xs) (D : va_G) (cI cT cN : ClassId) (hK : va_K D vwCl (cTys cI cT cN) s) (a r k g : Nat → Nat) (h : Nat) (A : Nat → Prop) (hA : ∀ q : Nat, s.heap.size ≤ q → A q) (hbA : ¬ A bb) (hAf : ∀ q, A q → s.heap.size ≤ q) (H : Heap) (locs : List Loc) (hP : va_P D vwCl ((cW a r k cI cT cN 0 0 0 0 (fun _ => nI 0) (0, 0, 0) (fun _ => nI 0) (fun _ => nI 0) ((0, 0, nI 0, (fun _ _ => 0), (fun _ _ => 0)) : RS) ((0, 0, nI 0, (fun _ _ => 0), (fun _ _ => 0)) : RS)) ++ (mW h g cI (fun k => if k = 15 then (-1) else nI 0) 0 (fun _ _ => nI 0))) H) (hD : va_D A ((cW a r k cI cT cN 0 0 0 0 (fun _ => nI 0) (0, 0, 0) (fun _ => nI 0) (fun _ => nI 0) ((0, 0, nI 0, (fun _ _ => 0), (fun _ _ => 0)) : RS) ((0, 0, nI 0, (fun _ _ => 0), (fun _ _ => 0)) : RS)) ++ (mW h g cI (fun k => if k = 15 then (-1) else nI 0) 0 (fun _ _ => nI 0)))) (hS : va_S A s.heap H locs) (ls : Array Slot) (hl : lv_has ls 4 [(0, .ref bb), (1, .ref (a 0)), (2, .ref h)]) : W p l e room_1 s m #[Value.ref bb] below meth c H locs 600000 7302250 (lw_Z below #[Value.ref bb] s) (F0 m 16 ls []) := by
  obtain ⟨hx, hb, hr, hml, hown, htsL, hX, hbl, hlocks, hgv⟩ := id C0
  have hts : ∀ w ∈ wAll, w.before #[Value.ref bb] s = true := fun w h => htsL w (wAll_in h)
  have hnst : ∀ w ∈ wNst, w.before #[Value.ref bb] s = true := fun w h => htsL w (wNst_in w h)
  have hown : s.vm.findClass RL = some m.cls := hown
  refine lv_iconst (v := nI 0) hx hb dL_law_16 (by decide) ?_
  refine lv_istore_n (lv' := [(3, .int (nI 0)), (0, .ref bb), (1, .ref (a 0)), (2, .ref h)]) hx hb dL_law_17 rfl hl (by decide) rfl (fun ls hl => ?_)
  have K_1 : ∀ n9 : Nat, ∀ (b : Nat → Nat → Nat) (pn : Nat) (pc : Nat → Int32) (rd : Nat × Nat × Nat) (B : Nat → Int32) (L : Nat → Int32) (q : RS) (kq : RS) (xh : Nat) (xi : Nat) (xr : Nat) (J : Nat → Int32) (hz : Int64) (G : Nat → Nat → Int32) (j : Nat), LI b pn xr xi xh pc q kq j → SR b B L → MF b pn xr xi pc q kq J G → 4 * j ≤ L0 → L0 - 4 * j < n9 → ∀ (H : Heap) (locs : List Loc), va_P D vwCl ((cW a r k cI cT cN xh xi xr pn pc rd B L q kq) ++ (mW h g cI J hz G)) H → va_D A ((cW a r k cI cT cN xh xi xr pn pc rd B L q kq) ++ (mW h g cI J hz G)) → va_S A s.heap H locs → ∀ ls : Array Slot, lv_has ls 4 [(0, .ref bb), (1, .ref (a 0)), (2, .ref h), (3, .int (nI (4 * j)))] → W p l e room_1 s m #[Value.ref bb] below meth c H locs 600000 7302250 (lw_Z below #[Value.ref bb] s) (F0 m 18 ls []) := by
    intro n9
    induction n9 with
    | zero => intros; omega
    | succ n9 ih_2 =>
      intro b pn pc rd B L q kq xh xi xr J hz G j hLI hSR hF hj hn9 H locs hP hD hS ls hl
      obtain ⟨l1, l2, l3, l4, l5, l6, l7, l8⟩ := id hLI
      have hb4 := LI_b4 hLI
      have ht5 := l3.1
      refine lv_iload_n hx hb dL_law_18 rfl (lv_at hl 3 rfl) ?_
      refine lv_aload_n hx hb dL_law_19 rfl (lv_at hl 0 rfl) ?_
      refine n_slen hx hb hX hbl hbA hS dL_law_20 ?_
      refine lv_iconst (v := nI 4) hx hb dL_law_21 (by decide) ?_
      refine lv_isub hx hb dL_law_22 ?_
      refine j_icmp_gt (tgt := 724) hx hb dL_law_23 (by decide) (nI_toInt (by omega)) (pk_sub_toInt (by omega) (by omega)) (fun c_3 => ?_) (fun c_3 => ?_)
      · refine lv_iconst (v := nI 1) hx hb dL_law_724 (by decide) ?_
        refine va_forget (fun q hq => hAf _ (hS.2.2 q hq)) ?_
        exact lw_ret hx hb hr hlocks dL_law_725
      · refine lv_aload_n hx hb dL_law_26 rfl (lv_at hl 0 rfl) ?_
        refine lv_iload_n hx hb dL_law_27 rfl (lv_at hl 3 rfl) ?_
        refine n_sld hx hb hX hbl hbA hS (i := 4 * j) (by omega) (by omega) dL_law_28 ?_
        refine lv_bipush (v := nI 31) hx hb dL_law_29 (by decide) ?_
        refine lv_iand hx hb dL_law_31 ?_
        rcases sw31 (xs (4 * j)) with hsw | hsw | hsw | hsw | hsw | hsw | hsw | hsw | hsw | hsw | hsw | hsw | hsw | hsw | hsw | hsw | hsw | hsw | hsw | hsw | hsw | hsw
        · refine n_top hsw ?_
          refine lv_tableIn (off := 100) (tgt := 132) hx hb dL_law_32 (by rw [show (nI 0).toInt = 0 from by first | decide | (rw [nI_toInt (by decide)]; omega)]; decide) (by rw [show (nI 0).toInt = 0 from by first | decide | (rw [nI_toInt (by decide)]; omega)]; decide) (by rw [show (nI 0).toInt = 0 from by first | decide | (rw [nI_toInt (by decide)]; omega)]; rfl) (by decide) ?_
          refine lv_aload_n hx hb dL_law_132 rfl (lv_at hl 1 rfl) ?_
          refine lv_aload_n hx hb dL_law_133 rfl (lv_at hl 0 rfl) ?_
          refine lv_iload_n hx hb dL_law_134 rfl (lv_at hl 3 rfl) ?_
          refine lv_iconst (v := nI 1) hx hb dL_law_135 (by decide) ?_
          refine n_iadd hx hb dL_law_136 ?_
          refine n_sld hx hb hX hbl hbA hS (i := (4 * j) + 1) (by omega) (by omega) dL_law_137 ?_
          sorry
        · refine n_top hsw ?_
          refine lv_tableIn (off := 123) (tgt := 155) hx hb dL_law_32 (by rw [show (nI 1).toInt = 1 from by first | decide | (rw [nI_toInt (by decide)]; omega)]; decide) (by rw [show (nI 1).toInt = 1 from by first | decide | (rw [nI_toInt (by decide)]; omega)]; decide) (by rw [show (nI 1).toInt = 1 from by first | decide | (rw [nI_toInt (by decide)]; omega)]; rfl) (by decide) ?_
          refine lv_aload_n hx hb dL_law_155 rfl (lv_at hl 1 rfl) ?_
          sorry
        · refine n_top hsw ?_
          refine lv_tableIn (off := 136) (tgt := 168) hx hb dL_law_32 (by rw [show (nI 2).toInt = 2 from by first | decide | (rw [nI_toInt (by decide)]; omega)]; decide) (by rw [show (nI 2).toInt = 2 from by first | decide | (rw [nI_toInt (by decide)]; omega)]; decide) (by rw [show (nI 2).toInt = 2 from by first | decide | (rw [nI_toInt (by decide)]; omega)]; rfl) (by decide) ?_
          refine lv_aload_n hx hb dL_law_168 rfl (lv_at hl 1 rfl) ?_
          sorry
        · refine n_top hsw ?_
          refine lv_tableIn (off := 149) (tgt := 181) hx hb dL_law_32 (by rw [show (nI 3).toInt = 3 from by first | decide | (rw [nI_toInt (by decide)]; omega)]; decide) (by rw [show (nI 3).toInt = 3 from by first | decide | (rw [nI_toInt (by decide)]; omega)]; decide) (by rw [show (nI 3).toInt = 3 from by first | decide | (rw [nI_toInt (by decide)]; omega)]; rfl) (by decide) ?_
          refine lv_aload_n hx hb dL_law_181 rfl (lv_at hl 1 rfl) ?_
          sorry
        · refine n_top hsw ?_
          refine lv_tableIn (off := 162) (tgt := 194) hx hb dL_law_32 (by rw [show (nI 4).toInt = 4 from by first | decide | (rw [nI_toInt (by decide)]; omega)]; decide) (by rw [show (nI 4).toInt = 4 from by first | decide | (rw [nI_toInt (by decide)]; omega)]; decide) (by rw [show (nI 4).toInt = 4 from by first | decide | (rw [nI_toInt (by decide)]; omega)]; rfl) (by decide) ?_
          refine lv_aload_n hx hb dL_law_194 rfl (lv_at hl 1 rfl) ?_
          refine lv_aload_n hx hb dL_law_195 rfl (lv_at hl 0 rfl) ?_
          refine lv_iload_n hx hb dL_law_196 rfl (lv_at hl 3 rfl) ?_
          refine lv_iconst (v := nI 1) hx hb dL_law_197 (by decide) ?_
          refine n_iadd hx hb dL_law_198 ?_
          refine n_sld hx hb hX hbl hbA hS (i := (4 * j) + 1) (by omega) (by omega) dL_law_199 ?_
          refine lv_aload_n hx hb dL_law_200 rfl (lv_at hl 0 rfl) ?_
          refine lv_iload_n hx hb dL_law_201 rfl (lv_at hl 3 rfl) ?_
          refine lv_iconst (v := nI 2) hx hb dL_law_202 (by decide) ?_
          refine n_iadd hx hb dL_law_203 ?_
          refine n_sld hx hb hX hbl hbA hS (i := (4 * j) + 2) (by omega) (by omega) dL_law_204 ?_
          refine ro_iV (n := 2) (As := [.int (xs ((4 * j) + 1)), .int (xs ((4 * j) + 2))]) ⟨hx, hb, hml, hown, hts⟩ (c_X6_saying l D a r k cI cT cN xh xi xr pn pc rd B L q kq b hSR l4 l8 (xs ((4 * j) + 1)) (xs ((4 * j) + 2))) (cwV 2 hts (gV mg_266 mg_267 mg_268 mg_1 mg_269) rfl rfl rfl vd_X6_saying ⟨Nat.le_of_ble_eq_true rfl, Nat.le_of_ble_eq_true rfl⟩) (va_recv hK hP (ci := 6) (q0 := 0) rfl rfl) hK (vaP_l hP) rfl hl.1 rfl (Nat.le_of_ble_eq_true rfl) dL_law_205 ⟨Nat.le_of_ble_eq_true rfl, Nat.le_of_ble_eq_true rfl⟩ ?_
          refine lv_aload_n hx hb dL_law_208 rfl (lv_at hl 2 rfl) ?_
          refine lv_aload_n hx hb dL_law_209 rfl (lv_at hl 0 rfl) ?_
          refine lv_iload_n hx hb dL_law_210 rfl (lv_at hl 3 rfl) ?_
          refine lv_iconst (v := nI 1) hx hb dL_law_211 (by decide) ?_
          refine n_iadd hx hb dL_law_212 ?_
          refine n_sld hx hb hX hbl hbA hS (i := (4 * j) + 1) (by omega) (by omega) dL_law_213 ?_
          refine lv_aload_n hx hb dL_law_214 rfl (lv_at hl 0 rfl) ?_
          refine lv_iload_n hx hb dL_law_215 rfl (lv_at hl 3 rfl) ?_
          refine lv_iconst (v := nI 2) hx hb dL_law_216 (by decide) ?_
          refine n_iadd hx hb dL_law_217 ?_
          refine n_sld hx hb hX hbl hbA hS (i := (4 * j) + 2) (by omega) (by omega) dL_law_218 ?_
          refine ro_iV (n := 2) (As := [.int (xs ((4 * j) + 1)), .int (xs ((4 * j) + 2))]) ⟨hx, hb, hml, hown, hts⟩ (c_X7_saying l D h g cI J hz G b q hF.1 hb4 ht5 (xs ((4 * j) + 1)) (xs ((4 * j) + 2))) (cwV 2 hts (gV mg_569 mg_570 mg_571 mg_8 mg_572) rfl rfl rfl vd_X7_saying ⟨Nat.le_of_ble_eq_true rfl, Nat.le_of_ble_eq_true rfl⟩) (va_recv hK hP (ci := 7) (q0 := 39) rfl rfl) (hK.sub [0] rfl) (vaP_r (a := (cW a r k cI cT cN xh xi xr pn pc rd B L q kq)) hP) rfl hl.1 rfl (Nat.le_of_ble_eq_true rfl) dL_law_219 ⟨Nat.le_of_ble_eq_true rfl, Nat.le_of_ble_eq_true rfl⟩ ?_
          refine j_icmp_eq (tgt := 718) hx hb dL_law_222 (by decide) rfl rfl (fun c_4 => ?_) (fun c_4 => absurd c_4 (fun z => z rfl))
          refine lv_iinc (v := nI (4 * (j + 1))) (lv' := [(3, .int (nI (4 * (j + 1)))), (0, .ref bb), (1, .ref (a 0)), (2, .ref h)]) hx hb dL_law_718 hl (k := 3) rfl (fr_inc4 _) (by decide) rfl (fun ls hl => ?_)
          refine lv_goto (tgt := 18) hx hb dL_law_721 (by decide) ?_
          exact ih_2 b pn pc rd B L q kq xh xi xr J hz G (j + 1) (LI_s hLI) (hSR) (hF) (by omega) (by omega) _ _ hP hD hS _ (lv_sub hl [1, 2, 3, 0] rfl)
        · refine n_top hsw ?_
          refine lv_tableIn (off := 195) (tgt := 227) hx hb dL_law_32 (by rw [show (nI 5).toInt = 5 from by first | decide | (rw [nI_toInt (by decide)]; omega)]; decide) (by rw [show (nI 5).toInt = 5 from by first | decide | (rw [nI_toInt (by decide)]; omega)]; decide) (by rw [show (nI 5).toInt = 5 from by first | decide | (rw [nI_toInt (by decide)]; omega)]; rfl) (by decide) ?_
          refine lv_aload_n hx hb dL_law_227 rfl (lv_at hl 1 rfl) ?_
          refine lv_aload_n hx hb dL_law_228 rfl (lv_at hl 0 rfl) ?_
          refine lv_iload_n hx hb dL_law_229 rfl (lv_at hl 3 rfl) ?_
          refine lv_iconst (v := nI 1) hx hb dL_law_230 (by decide) ?_
          refine n_iadd hx hb dL_law_231 ?_
          refine n_sld hx hb hX hbl hbA hS (i := (4 * j) + 1) (by omega) (by omega) dL_law_232 ?_
          refine lv_aload_n hx hb dL_law_233 rfl (lv_at hl 0 rfl) ?_
          refine lv_iload_n hx hb dL_law_234 rfl (lv_at hl 3 rfl) ?_
          refine lv_iconst (v := nI 2) hx hb dL_law_235 (by decide) ?_
          refine n_iadd hx hb dL_law_236 ?_
          refine n_sld hx hb hX hbl hbA hS (i := (4 * j) + 2) (by omega) (by omega) dL_law_237 ?_
          sorry
        · refine n_top hsw ?_
          refine lv_tableIn (off := 228) (tgt := 260) hx hb dL_law_32 (by rw [show (nI 6).toInt = 6 from by first | decide | (rw [nI_toInt (by decide)]; omega)]; decide) (by rw [show (nI 6).toInt = 6 from by first | decide | (rw [nI_toInt (by decide)]; omega)]; decide) (by rw [show (nI 6).toInt = 6 from by first | decide | (rw [nI_toInt (by decide)]; omega)]; rfl) (by decide) ?_
          refine lv_aload_n hx hb dL_law_260 rfl (lv_at hl 1 rfl) ?_
          refine lv_aload_n hx hb dL_law_261 rfl (lv_at hl 0 rfl) ?_
          refine lv_iload_n hx hb dL_law_262 rfl (lv_at hl 3 rfl) ?_
          refine lv_iconst (v := nI 1) hx hb dL_law_263 (by decide) ?_
          refine n_iadd hx hb dL_law_264 ?_
          refine n_sld hx hb hX hbl hbA hS (i := (4 * j) + 1) (by omega) (by omega) dL_law_265 ?_
          refine lv_aload_n hx hb dL_law_266 rfl (lv_at hl 0 rfl) ?_
          refine lv_iload_n hx hb dL_law_267 rfl (lv_at hl 3 rfl) ?_
          refine lv_iconst (v := nI 2) hx hb dL_law_268 (by decide) ?_
          refine n_iadd hx hb dL_law_269 ?_
          refine n_sld hx hb hX hbl hbA hS (i := (4 * j) + 2) (by omega) (by omega) dL_law_270 ?_
          refine ro_iV (n := 2) (As := [.int (xs ((4 * j) + 1)), .int (xs ((4 * j) + 2))]) ⟨hx, hb, hml, hown, hts⟩ (c_X6_about l D a r k cI cT cN xh xi xr pn pc rd B L q kq b hSR l4 l3 (xs ((4 * j) + 1)) (xs ((4 * j) + 2))) (cwV 2 hts (gV mg_286 mg_287 mg_288 mg_1 mg_289) rfl rfl rfl vd_X6_about ⟨Nat.le_of_ble_eq_true rfl, Nat.le_of_ble_eq_true rfl⟩) (va_recv hK hP (ci := 6) (q0 := 0) rfl rfl) hK (vaP_l hP) rfl hl.1 rfl (Nat.le_of_ble_eq_true rfl) dL_law_271 ⟨Nat.le_of_ble_eq_true rfl, Nat.le_of_ble_eq_true rfl⟩ ?_
          refine lv_aload_n hx hb dL_law_274 rfl (lv_at hl 2 rfl) ?_
          refine lv_aload_n hx hb dL_law_275 rfl (lv_at hl 0 rfl) ?_
          refine lv_iload_n hx hb dL_law_276 rfl (lv_at hl 3 rfl) ?_
          refine lv_iconst (v := nI 1) hx hb dL_law_277 (by decide) ?_
          refine n_iadd hx hb dL_law_278 ?_
          refine n_sld hx hb hX hbl hbA hS (i := (4 * j) + 1) (by omega) (by omega) dL_law_279 ?_
          refine lv_aload_n hx hb dL_law_280 rfl (lv_at hl 0 rfl) ?_
          refine lv_iload_n hx hb dL_law_281 rfl (lv_at hl 3 rfl) ?_
          refine lv_iconst (v := nI 2) hx hb dL_law_282 (by decide) ?_
          refine n_iadd hx hb dL_law_283 ?_
          refine n_sld hx hb hX hbl hbA hS (i := (4 * j) + 2) (by omega) (by omega) dL_law_284 ?_
          refine ro_iV (n := 2) (As := [.int (xs ((4 * j) + 1)), .int (xs ((4 * j) + 2))]) ⟨hx, hb, hml, hown, hts⟩ (c_X7_about l D h g cI J hz G b q hF.1 l4 l3 (xs ((4 * j) + 1)) (xs ((4 * j) + 2))) (cwV 2 hts (gV mg_592 mg_593 mg_594 mg_8 mg_595) rfl rfl rfl vd_X7_about ⟨Nat.le_of_ble_eq_true rfl, Nat.le_of_ble_eq_true rfl⟩) (va_recv hK hP (ci := 7) (q0 := 39) rfl rfl) (hK.sub [0] rfl) (vaP_r (a := (cW a r k cI cT cN xh xi xr pn pc rd B L q kq)) hP) rfl hl.1 rfl (Nat.le_of_ble_eq_true rfl) dL_law_285 ⟨Nat.le_of_ble_eq_true rfl, Nat.le_of_ble_eq_true rfl⟩ ?_
          refine j_icmp_eq (tgt := 718) hx hb dL_law_288 (by decide) rfl rfl (fun c_5 => ?_) (fun c_5 => absurd c_5 (fun z => z rfl))
          refine lv_iinc (v := nI (4 * (j + 1))) (lv' := [(3, .int (nI (4 * (j + 1)))), (0, .ref bb), (1, .ref (a 0)), (2, .ref h)]) hx hb dL_law_718 hl (k := 3) rfl (fr_inc4 _) (by decide) rfl (fun ls hl => ?_)
          refine lv_goto (tgt := 18) hx hb dL_law_721 (by decide) ?_
          exact ih_2 b pn pc rd B L q kq xh xi xr J hz G (j + 1) (LI_s hLI) (hSR) (hF) (by omega) (by omega) _ _ hP hD hS _ (lv_sub hl [1, 2, 3, 0] rfl)
        · refine n_top hsw ?_
          refine lv_tableIn (off := 261) (tgt := 293) hx hb dL_law_32 (by rw [show (nI 7).toInt = 7 from by first | decide | (rw [nI_toInt (by decide)]; omega)]; decide) (by rw [show (nI 7).toInt = 7 from by first | decide | (rw [nI_toInt (by decide)]; omega)]; decide) (by rw [show (nI 7).toInt = 7 from by first | decide | (rw [nI_toInt (by decide)]; omega)]; rfl) (by decide) ?_
          refine lv_aload_n hx hb dL_law_293 rfl (lv_at hl 1 rfl) ?_
          refine lv_aload_n hx hb dL_law_294 rfl (lv_at hl 0 rfl) ?_
          refine lv_iload_n hx hb dL_law_295 rfl (lv_at hl 3 rfl) ?_
          refine lv_iconst (v := nI 1) hx hb dL_law_296 (by decide) ?_
          refine n_iadd hx hb dL_law_297 ?_
          refine n_sld hx hb hX hbl hbA hS (i := (4 * j) + 1) (by omega) (by omega) dL_law_298 ?_
          refine lv_aload_n hx hb dL_law_299 rfl (lv_at hl 0 rfl) ?_
          refine lv_iload_n hx hb dL_law_300 rfl (lv_at hl 3 rfl) ?_
          refine lv_iconst (v := nI 2) hx hb dL_law_301 (by decide) ?_
          refine n_iadd hx hb dL_law_302 ?_
          refine n_sld hx hb hX hbl hbA hS (i := (4 * j) + 2) (by omega) (by omega) dL_law_303 ?_
          refine ro_iV (n := 2) (As := [.int (xs ((4 * j) + 1)), .int (xs ((4 * j) + 2))]) ⟨hx, hb, hml, hown, hts⟩ (c_X6_as l D a r k cI cT cN xh xi xr pn pc rd B L q kq b hSR l4 l3 (xs ((4 * j) + 1)) (xs ((4 * j) + 2))) (cwV 2 hts (gV mg_336 mg_337 mg_338 mg_1 mg_339) rfl rfl rfl vd_X6_as ⟨Nat.le_of_ble_eq_true rfl, Nat.le_of_ble_eq_true rfl⟩) (va_recv hK hP (ci := 6) (q0 := 0) rfl rfl) hK (vaP_l hP) rfl hl.1 rfl (Nat.le_of_ble_eq_true rfl) dL_law_304 ⟨Nat.le_of_ble_eq_true rfl, Nat.le_of_ble_eq_true rfl⟩ ?_
          refine lv_aload_n hx hb dL_law_307 rfl (lv_at hl 2 rfl) ?_
          refine lv_aload_n hx hb dL_law_308 rfl (lv_at hl 0 rfl) ?_
          refine lv_iload_n hx hb dL_law_309 rfl (lv_at hl 3 rfl) ?_
          refine lv_iconst (v := nI 1) hx hb dL_law_310 (by decide) ?_
          refine n_iadd hx hb dL_law_311 ?_
          refine n_sld hx hb hX hbl hbA hS (i := (4 * j) + 1) (by omega) (by omega) dL_law_312 ?_
          refine lv_aload_n hx hb dL_law_313 rfl (lv_at hl 0 rfl) ?_
          refine lv_iload_n hx hb dL_law_314 rfl (lv_at hl 3 rfl) ?_
          refine lv_iconst (v := nI 2) hx hb dL_law_315 (by decide) ?_
          refine n_iadd hx hb dL_law_316 ?_
          refine n_sld hx hb hX hbl hbA hS (i := (4 * j) + 2) (by omega) (by omega) dL_law_317 ?_
          refine ro_iV (n := 2) (As := [.int (xs ((4 * j) + 1)), .int (xs ((4 * j) + 2))]) ⟨hx, hb, hml, hown, hts⟩ (c_X7_as l D h g cI J hz G b q hF.1 l4 l3 (xs ((4 * j) + 1)) (xs ((4 * j) + 2))) (cwV 2 hts (gV mg_636 mg_637 mg_638 mg_8 mg_639) rfl rfl rfl vd_X7_as ⟨Nat.le_of_ble_eq_true rfl, Nat.le_of_ble_eq_true rfl⟩) (va_recv hK hP (ci := 7) (q0 := 39) rfl rfl) (hK.sub [0] rfl) (vaP_r (a := (cW a r k cI cT cN xh xi xr pn pc rd B L q kq)) hP) rfl hl.1 rfl (Nat.le_of_ble_eq_true rfl) dL_law_318 ⟨Nat.le_of_ble_eq_true rfl, Nat.le_of_ble_eq_true rfl⟩ ?_
          refine j_icmp_eq (tgt := 718) hx hb dL_law_321 (by decide) rfl rfl (fun c_6 => ?_) (fun c_6 => absurd c_6 (fun z => z rfl))
          refine lv_iinc (v := nI (4 * (j + 1))) (lv' := [(3, .int (nI (4 * (j + 1)))), (0, .ref bb), (1, .ref (a 0)), (2, .ref h)]) hx hb dL_law_718 hl (k := 3) rfl (fr_inc4 _) (by decide) rfl (fun ls hl => ?_)
          refine lv_goto (tgt := 18) hx hb dL_law_721 (by decide) ?_
          exact ih_2 b pn pc rd B L q kq xh xi xr J hz G (j + 1) (LI_s hLI) (hSR) (hF) (by omega) (by omega) _ _ hP hD hS _ (lv_sub hl [1, 2, 3, 0] rfl)
        · refine n_top hsw ?_
          refine lv_tableIn (off := 294) (tgt := 326) hx hb dL_law_32 (by rw [show (nI 8).toInt = 8 from by first | decide | (rw [nI_toInt (by decide)]; omega)]; decide) (by rw [show (nI 8).toInt = 8 from by first | decide | (rw [nI_toInt (by decide)]; omega)]; decide) (by rw [show (nI 8).toInt = 8 from by first | decide | (rw [nI_toInt (by decide)]; omega)]; rfl) (by decide) ?_
          refine lv_aload_n hx hb dL_law_326 rfl (lv_at hl 1 rfl) ?_
          refine lv_aload_n hx hb dL_law_327 rfl (lv_at hl 0 rfl) ?_
          refine lv_iload_n hx hb dL_law_328 rfl (lv_at hl 3 rfl) ?_
          refine lv_iconst (v := nI 1) hx hb dL_law_329 (by decide) ?_
          refine n_iadd hx hb dL_law_330 ?_
          refine n_sld hx hb hX hbl hbA hS (i := (4 * j) + 1) (by omega) (by omega) dL_law_331 ?_
          refine lv_aload_n hx hb dL_law_332 rfl (lv_at hl 0 rfl) ?_
          refine lv_iload_n hx hb dL_law_333 rfl (lv_at hl 3 rfl) ?_
          refine lv_iconst (v := nI 2) hx hb dL_law_334 (by decide) ?_
          refine n_iadd hx hb dL_law_335 ?_
          refine n_sld hx hb hX hbl hbA hS (i := (4 * j) + 2) (by omega) (by omega) dL_law_336 ?_
          refine ro_iV (n := 2) (As := [.int (xs ((4 * j) + 1)), .int (xs ((4 * j) + 2))]) ⟨hx, hb, hml, hown, hts⟩ (c_X6_drip l D a r k cI cT cN xh xi xr pn pc rd B L q kq b hSR l4 l3 (xs ((4 * j) + 1)) (xs ((4 * j) + 2))) (cwV 2 hts (gV mg_340 mg_341 mg_342 mg_1 mg_343) rfl rfl rfl vd_X6_drip ⟨Nat.le_of_ble_eq_true rfl, Nat.le_of_ble_eq_true rfl⟩) (va_recv hK hP (ci := 6) (q0 := 0) rfl rfl) hK (vaP_l hP) rfl hl.1 rfl (Nat.le_of_ble_eq_true rfl) dL_law_337 ⟨Nat.le_of_ble_eq_true rfl, Nat.le_of_ble_eq_true rfl⟩ ?_
          refine lv_aload_n hx hb dL_law_340 rfl (lv_at hl 2 rfl) ?_
          refine lv_aload_n hx hb dL_law_341 rfl (lv_at hl 0 rfl) ?_
          refine lv_iload_n hx hb dL_law_342 rfl (lv_at hl 3 rfl) ?_
          refine lv_iconst (v := nI 1) hx hb dL_law_343 (by decide) ?_
          refine n_iadd hx hb dL_law_344 ?_
          refine n_sld hx hb hX hbl hbA hS (i := (4 * j) + 1) (by omega) (by omega) dL_law_345 ?_
          refine lv_aload_n hx hb dL_law_346 rfl (lv_at hl 0 rfl) ?_
          refine lv_iload_n hx hb dL_law_347 rfl (lv_at hl 3 rfl) ?_
          refine lv_iconst (v := nI 2) hx hb dL_law_348 (by decide) ?_
          refine n_iadd hx hb dL_law_349 ?_
          refine n_sld hx hb hX hbl hbA hS (i := (4 * j) + 2) (by omega) (by omega) dL_law_350 ?_
          refine ro_iV (n := 2) (As := [.int (xs ((4 * j) + 1)), .int (xs ((4 * j) + 2))]) ⟨hx, hb, hml, hown, hts⟩ (c_X7_drip l D h g cI J hz G b q hF.1 l4 l3 (xs ((4 * j) + 1)) (xs ((4 * j) + 2))) (cwV 2 hts (gV mg_640 mg_641 mg_642 mg_8 mg_643) rfl rfl rfl vd_X7_drip ⟨Nat.le_of_ble_eq_true rfl, Nat.le_of_ble_eq_true rfl⟩) (va_recv hK hP (ci := 7) (q0 := 39) rfl rfl) (hK.sub [0] rfl) (vaP_r (a := (cW a r k cI cT cN xh xi xr pn pc rd B L q kq)) hP) rfl hl.1 rfl (Nat.le_of_ble_eq_true rfl) dL_law_351 ⟨Nat.le_of_ble_eq_true rfl, Nat.le_of_ble_eq_true rfl⟩ ?_
          refine j_icmp_eq (tgt := 718) hx hb dL_law_354 (by decide) rfl rfl (fun c_7 => ?_) (fun c_7 => absurd c_7 (fun z => z rfl))
          refine lv_iinc (v := nI (4 * (j + 1))) (lv' := [(3, .int (nI (4 * (j + 1)))), (0, .ref bb), (1, .ref (a 0)), (2, .ref h)]) hx hb dL_law_718 hl (k := 3) rfl (fr_inc4 _) (by decide) rfl (fun ls hl => ?_)
          refine lv_goto (tgt := 18) hx hb dL_law_721 (by decide) ?_
          exact ih_2 b pn pc rd B L q kq xh xi xr J hz G (j + 1) (LI_s hLI) (hSR) (hF) (by omega) (by omega) _ _ hP hD hS _ (lv_sub hl [1, 2, 3, 0] rfl)
        · refine n_top hsw ?_
          refine lv_tableIn (off := 327) (tgt := 359) hx hb dL_law_32 (by rw [show (nI 9).toInt = 9 from by first | decide | (rw [nI_toInt (by decide)]; omega)]; decide) (by rw [show (nI 9).toInt = 9 from by first | decide | (rw [nI_toInt (by decide)]; omega)]; decide) (by rw [show (nI 9).toInt = 9 from by first | decide | (rw [nI_toInt (by decide)]; omega)]; rfl) (by decide) ?_
          refine lv_aload_n hx hb dL_law_359 rfl (lv_at hl 1 rfl) ?_
          refine lv_aload_n hx hb dL_law_360 rfl (lv_at hl 0 rfl) ?_
          refine lv_iload_n hx hb dL_law_361 rfl (lv_at hl 3 rfl) ?_
          refine lv_iconst (v := nI 1) hx hb dL_law_362 (by decide) ?_
          refine n_iadd hx hb dL_law_363 ?_
          refine n_sld hx hb hX hbl hbA hS (i := (4 * j) + 1) (by omega) (by omega) dL_law_364 ?_
          sorry
        · refine n_top hsw ?_
          refine lv_tableIn (off := 350) (tgt := 382) hx hb dL_law_32 (by rw [show (nI 10).toInt = 10 from by first | decide | (rw [nI_toInt (by decide)]; omega)]; decide) (by rw [show (nI 10).toInt = 10 from by first | decide | (rw [nI_toInt (by decide)]; omega)]; decide) (by rw [show (nI 10).toInt = 10 from by first | decide | (rw [nI_toInt (by decide)]; omega)]; rfl) (by decide) ?_
          refine lv_aload_n hx hb dL_law_382 rfl (lv_at hl 1 rfl) ?_
          refine lv_aload_n hx hb dL_law_383 rfl (lv_at hl 0 rfl) ?_
          refine lv_iload_n hx hb dL_law_384 rfl (lv_at hl 3 rfl) ?_
          refine lv_iconst (v := nI 1) hx hb dL_law_385 (by decide) ?_
          refine n_iadd hx hb dL_law_386 ?_
          refine n_sld hx hb hX hbl hbA hS (i := (4 * j) + 1) (by omega) (by omega) dL_law_387 ?_
          refine lv_aload_n hx hb dL_law_388 rfl (lv_at hl 0 rfl) ?_
          refine lv_iload_n hx hb dL_law_389 rfl (lv_at hl 3 rfl) ?_
          refine lv_iconst (v := nI 2) hx hb dL_law_390 (by decide) ?_
          refine n_iadd hx hb dL_law_391 ?_
          refine n_sld hx hb hX hbl hbA hS (i := (4 * j) + 2) (by omega) (by omega) dL_law_392 ?_
          refine j_if_eq (tgt := 400) hx hb dL_law_393 (by decide) rfl (fun c_8 => ?_) (fun c_8 => ?_)
          · refine lv_iconst (v := nI 0) hx hb dL_law_400 (by decide) ?_
            sorry
          · refine lv_iconst (v := nI 1) hx hb dL_law_396 (by decide) ?_
            refine lv_goto (tgt := 401) hx hb dL_law_397 (by decide) ?_
            sorry
        · refine n_top hsw ?_
          refine lv_tableIn (off := 399) (tgt := 431) hx hb dL_law_32 (by rw [show (nI 11).toInt = 11 from by first | decide | (rw [nI_toInt (by decide)]; omega)]; decide) (by rw [show (nI 11).toInt = 11 from by first | decide | (rw [nI_toInt (by decide)]; omega)]; decide) (by rw [show (nI 11).toInt = 11 from by first | decide | (rw [nI_toInt (by decide)]; omega)]; rfl) (by decide) ?_
          refine lv_aload_n hx hb dL_law_431 rfl (lv_at hl 1 rfl) ?_
          refine lv_aload_n hx hb dL_law_432 rfl (lv_at hl 0 rfl) ?_
          refine lv_iload_n hx hb dL_law_433 rfl (lv_at hl 3 rfl) ?_
          refine lv_iconst (v := nI 1) hx hb dL_law_434 (by decide) ?_
          refine n_iadd hx hb dL_law_435 ?_
          refine n_sld hx hb hX hbl hbA hS (i := (4 * j) + 1) (by omega) (by omega) dL_law_436 ?_
          refine lv_aload_n hx hb dL_law_437 rfl (lv_at hl 0 rfl) ?_
          refine lv_iload_n hx hb dL_law_438 rfl (lv_at hl 3 rfl) ?_
          refine lv_iconst (v := nI 2) hx hb dL_law_439 (by decide) ?_
          refine n_iadd hx hb dL_law_440 ?_
          refine n_sld hx hb hX hbl hbA hS (i := (4 * j) + 2) (by omega) (by omega) dL_law_441 ?_
          sorry
        · refine n_top hsw ?_
          refine lv_tableIn (off := 432) (tgt := 464) hx hb dL_law_32 (by rw [show (nI 12).toInt = 12 from by first | decide | (rw [nI_toInt (by decide)]; omega)]; decide) (by rw [show (nI 12).toInt = 12 from by first | decide | (rw [nI_toInt (by decide)]; omega)]; decide) (by rw [show (nI 12).toInt = 12 from by first | decide | (rw [nI_toInt (by decide)]; omega)]; rfl) (by decide) ?_
          refine lv_aload_n hx hb dL_law_464 rfl (lv_at hl 1 rfl) ?_
          refine lv_aload_n hx hb dL_law_465 rfl (lv_at hl 0 rfl) ?_
          refine lv_iload_n hx hb dL_law_466 rfl (lv_at hl 3 rfl) ?_
          refine lv_iconst (v := nI 1) hx hb dL_law_467 (by decide) ?_
          refine n_iadd hx hb dL_law_468 ?_
          refine n_sld hx hb hX hbl hbA hS (i := (4 * j) + 1) (by omega) (by omega) dL_law_469 ?_
          refine lv_aload_n hx hb dL_law_470 rfl (lv_at hl 0 rfl) ?_
          refine lv_iload_n hx hb dL_law_471 rfl (lv_at hl 3 rfl) ?_
          refine lv_iconst (v := nI 2) hx hb dL_law_472 (by decide) ?_
          refine n_iadd hx hb dL_law_473 ?_
          refine n_sld hx hb hX hbl hbA hS (i := (4 * j) + 2) (by omega) (by omega) dL_law_474 ?_
          refine ro_iV (n := 2) (As := [.int (xs ((4 * j) + 1)), .int (xs ((4 * j) + 2))]) ⟨hx, hb, hml, hown, hts⟩ (c_X6_agree l D a r k cI cT cN xh xi xr pn pc rd B L q kq b hSR l4 l3 (xs ((4 * j) + 1)) (xs ((4 * j) + 2))) (cwV 2 hts (gV mg_360 mg_361 mg_362 mg_1 mg_363) rfl rfl rfl vd_X6_agree ⟨Nat.le_of_ble_eq_true rfl, Nat.le_of_ble_eq_true rfl⟩) (va_recv hK hP (ci := 6) (q0 := 0) rfl rfl) hK (vaP_l hP) rfl hl.1 rfl (Nat.le_of_ble_eq_true rfl) dL_law_475 ⟨Nat.le_of_ble_eq_true rfl, Nat.le_of_ble_eq_true rfl⟩ ?_
          refine lv_aload_n hx hb dL_law_478 rfl (lv_at hl 2 rfl) ?_
          refine lv_aload_n hx hb dL_law_479 rfl (lv_at hl 0 rfl) ?_
          refine lv_iload_n hx hb dL_law_480 rfl (lv_at hl 3 rfl) ?_
          refine lv_iconst (v := nI 1) hx hb dL_law_481 (by decide) ?_
          refine n_iadd hx hb dL_law_482 ?_
          refine n_sld hx hb hX hbl hbA hS (i := (4 * j) + 1) (by omega) (by omega) dL_law_483 ?_
          refine lv_aload_n hx hb dL_law_484 rfl (lv_at hl 0 rfl) ?_
          refine lv_iload_n hx hb dL_law_485 rfl (lv_at hl 3 rfl) ?_
          refine lv_iconst (v := nI 2) hx hb dL_law_486 (by decide) ?_
          refine n_iadd hx hb dL_law_487 ?_
          refine n_sld hx hb hX hbl hbA hS (i := (4 * j) + 2) (by omega) (by omega) dL_law_488 ?_
          refine ro_iV (n := 2) (As := [.int (xs ((4 * j) + 1)), .int (xs ((4 * j) + 2))]) ⟨hx, hb, hml, hown, hts⟩ (c_X7_agree l D h g cI J hz G b q hF.1 l4 l3 (xs ((4 * j) + 1)) (xs ((4 * j) + 2))) (cwV 2 hts (gV mg_661 mg_662 mg_663 mg_8 mg_664) rfl rfl rfl vd_X7_agree ⟨Nat.le_of_ble_eq_true rfl, Nat.le_of_ble_eq_true rfl⟩) (va_recv hK hP (ci := 7) (q0 := 39) rfl rfl) (hK.sub [0] rfl) (vaP_r (a := (cW a r k cI cT cN xh xi xr pn pc rd B L q kq)) hP) rfl hl.1 rfl (Nat.le_of_ble_eq_true rfl) dL_law_489 ⟨Nat.le_of_ble_eq_true rfl, Nat.le_of_ble_eq_true rfl⟩ ?_
          refine j_icmp_eq (tgt := 718) hx hb dL_law_492 (by decide) rfl rfl (fun c_9 => ?_) (fun c_9 => absurd c_9 (fun z => z rfl))
          refine lv_iinc (v := nI (4 * (j + 1))) (lv' := [(3, .int (nI (4 * (j + 1)))), (0, .ref bb), (1, .ref (a 0)), (2, .ref h)]) hx hb dL_law_718 hl (k := 3) rfl (fr_inc4 _) (by decide) rfl (fun ls hl => ?_)
          refine lv_goto (tgt := 18) hx hb dL_law_721 (by decide) ?_
          exact ih_2 b pn pc rd B L q kq xh xi xr J hz G (j + 1) (LI_s hLI) (hSR) (hF) (by omega) (by omega) _ _ hP hD hS _ (lv_sub hl [1, 2, 3, 0] rfl)
        · refine n_top hsw ?_
          refine lv_tableIn (off := 465) (tgt := 497) hx hb dL_law_32 (by rw [show (nI 13).toInt = 13 from by first | decide | (rw [nI_toInt (by decide)]; omega)]; decide) (by rw [show (nI 13).toInt = 13 from by first | decide | (rw [nI_toInt (by decide)]; omega)]; decide) (by rw [show (nI 13).toInt = 13 from by first | decide | (rw [nI_toInt (by decide)]; omega)]; rfl) (by decide) ?_
          refine lv_aload_n hx hb dL_law_497 rfl (lv_at hl 1 rfl) ?_
          refine lv_aload_n hx hb dL_law_498 rfl (lv_at hl 0 rfl) ?_
          refine lv_iload_n hx hb dL_law_499 rfl (lv_at hl 3 rfl) ?_
          refine lv_iconst (v := nI 1) hx hb dL_law_500 (by decide) ?_
          refine n_iadd hx hb dL_law_501 ?_
          refine n_sld hx hb hX hbl hbA hS (i := (4 * j) + 1) (by omega) (by omega) dL_law_502 ?_
          refine lv_aload_n hx hb dL_law_503 rfl (lv_at hl 0 rfl) ?_
          refine lv_iload_n hx hb dL_law_504 rfl (lv_at hl 3 rfl) ?_
          refine lv_iconst (v := nI 2) hx hb dL_law_505 (by decide) ?_
          refine n_iadd hx hb dL_law_506 ?_
          refine n_sld hx hb hX hbl hbA hS (i := (4 * j) + 2) (by omega) (by omega) dL_law_507 ?_
          refine lv_aload_n hx hb dL_law_508 rfl (lv_at hl 0 rfl) ?_
          refine lv_iload_n hx hb dL_law_509 rfl (lv_at hl 3 rfl) ?_
          refine lv_iconst (v := nI 3) hx hb dL_law_510 (by decide) ?_
          refine n_iadd hx hb dL_law_511 ?_
          refine n_sld hx hb hX hbl hbA hS (i := (4 * j) + 3) (by omega) (by omega) dL_law_512 ?_
          refine ro_iV (n := 3) (As := [.int (xs ((4 * j) + 1)), .int (xs ((4 * j) + 2)), .int (xs ((4 * j) + 3))]) ⟨hx, hb, hml, hown, hts⟩ (c_X6_near l D a r k cI cT cN xh xi xr pn pc rd B L q kq b hSR l4 l3 (xs ((4 * j) + 1)) (xs ((4 * j) + 2)) (xs ((4 * j) + 3))) (cwV 3 hts (gV mg_364 mg_365 mg_366 mg_1 mg_367) rfl rfl rfl vd_X6_near ⟨Nat.le_of_ble_eq_true rfl, Nat.le_of_ble_eq_true rfl⟩) (va_recv hK hP (ci := 6) (q0 := 0) rfl rfl) hK (vaP_l hP) rfl hl.1 rfl (Nat.le_of_ble_eq_true rfl) dL_law_513 ⟨Nat.le_of_ble_eq_true rfl, Nat.le_of_ble_eq_true rfl⟩ ?_
          refine lv_aload_n hx hb dL_law_516 rfl (lv_at hl 2 rfl) ?_
          refine lv_aload_n hx hb dL_law_517 rfl (lv_at hl 0 rfl) ?_
          refine lv_iload_n hx hb dL_law_518 rfl (lv_at hl 3 rfl) ?_
          refine lv_iconst (v := nI 1) hx hb dL_law_519 (by decide) ?_
          refine n_iadd hx hb dL_law_520 ?_
          refine n_sld hx hb hX hbl hbA hS (i := (4 * j) + 1) (by omega) (by omega) dL_law_521 ?_
          refine lv_aload_n hx hb dL_law_522 rfl (lv_at hl 0 rfl) ?_
          refine lv_iload_n hx hb dL_law_523 rfl (lv_at hl 3 rfl) ?_
          refine lv_iconst (v := nI 2) hx hb dL_law_524 (by decide) ?_
          refine n_iadd hx hb dL_law_525 ?_
          refine n_sld hx hb hX hbl hbA hS (i := (4 * j) + 2) (by omega) (by omega) dL_law_526 ?_
          refine lv_aload_n hx hb dL_law_527 rfl (lv_at hl 0 rfl) ?_
          refine lv_iload_n hx hb dL_law_528 rfl (lv_at hl 3 rfl) ?_
          refine lv_iconst (v := nI 3) hx hb dL_law_529 (by decide) ?_
          refine n_iadd hx hb dL_law_530 ?_
          refine n_sld hx hb hX hbl hbA hS (i := (4 * j) + 3) (by omega) (by omega) dL_law_531 ?_
          refine ro_iV (n := 3) (As := [.int (xs ((4 * j) + 1)), .int (xs ((4 * j) + 2)), .int (xs ((4 * j) + 3))]) ⟨hx, hb, hml, hown, hts⟩ (c_X7_near l D h g cI J hz G b q hF.1 l4 l3 (xs ((4 * j) + 1)) (xs ((4 * j) + 2)) (xs ((4 * j) + 3))) (cwV 3 hts (gV mg_669 mg_670 mg_671 mg_8 mg_672) rfl rfl rfl vd_X7_near ⟨Nat.le_of_ble_eq_true rfl, Nat.le_of_ble_eq_true rfl⟩) (va_recv hK hP (ci := 7) (q0 := 39) rfl rfl) (hK.sub [0] rfl) (vaP_r (a := (cW a r k cI cT cN xh xi xr pn pc rd B L q kq)) hP) rfl hl.1 rfl (Nat.le_of_ble_eq_true rfl) dL_law_532 ⟨Nat.le_of_ble_eq_true rfl, Nat.le_of_ble_eq_true rfl⟩ ?_
          refine j_icmp_eq (tgt := 718) hx hb dL_law_535 (by decide) rfl rfl (fun c_10 => ?_) (fun c_10 => absurd c_10 (fun z => z rfl))
          refine lv_iinc (v := nI (4 * (j + 1))) (lv' := [(3, .int (nI (4 * (j + 1)))), (0, .ref bb), (1, .ref (a 0)), (2, .ref h)]) hx hb dL_law_718 hl (k := 3) rfl (fr_inc4 _) (by decide) rfl (fun ls hl => ?_)
          refine lv_goto (tgt := 18) hx hb dL_law_721 (by decide) ?_
          exact ih_2 b pn pc rd B L q kq xh xi xr J hz G (j + 1) (LI_s hLI) (hSR) (hF) (by omega) (by omega) _ _ hP hD hS _ (lv_sub hl [1, 2, 3, 0] rfl)
        · refine n_top hsw ?_
          refine lv_tableIn (off := 508) (tgt := 540) hx hb dL_law_32 (by rw [show (nI 14).toInt = 14 from by first | decide | (rw [nI_toInt (by decide)]; omega)]; decide) (by rw [show (nI 14).toInt = 14 from by first | decide | (rw [nI_toInt (by decide)]; omega)]; decide) (by rw [show (nI 14).toInt = 14 from by first | decide | (rw [nI_toInt (by decide)]; omega)]; rfl) (by decide) ?_
          refine lv_aload_n hx hb dL_law_540 rfl (lv_at hl 1 rfl) ?_
          refine lv_aload_n hx hb dL_law_541 rfl (lv_at hl 0 rfl) ?_
          refine lv_iload_n hx hb dL_law_542 rfl (lv_at hl 3 rfl) ?_
          refine lv_iconst (v := nI 1) hx hb dL_law_543 (by decide) ?_
          refine n_iadd hx hb dL_law_544 ?_
          refine n_sld hx hb hX hbl hbA hS (i := (4 * j) + 1) (by omega) (by omega) dL_law_545 ?_
          refine lv_aload_n hx hb dL_law_546 rfl (lv_at hl 0 rfl) ?_
          refine lv_iload_n hx hb dL_law_547 rfl (lv_at hl 3 rfl) ?_
          refine lv_iconst (v := nI 2) hx hb dL_law_548 (by decide) ?_
          refine n_iadd hx hb dL_law_549 ?_
          refine n_sld hx hb hX hbl hbA hS (i := (4 * j) + 2) (by omega) (by omega) dL_law_550 ?_
          refine lv_aload_n hx hb dL_law_551 rfl (lv_at hl 0 rfl) ?_
          refine lv_iload_n hx hb dL_law_552 rfl (lv_at hl 3 rfl) ?_
          refine lv_iconst (v := nI 3) hx hb dL_law_553 (by decide) ?_
          refine n_iadd hx hb dL_law_554 ?_
          refine n_sld hx hb hX hbl hbA hS (i := (4 * j) + 3) (by omega) (by omega) dL_law_555 ?_
          refine j_if_eq (tgt := 563) hx hb dL_law_556 (by decide) rfl (fun c_11 => ?_) (fun c_11 => ?_)
          · refine lv_iconst (v := nI 0) hx hb dL_law_563 (by decide) ?_
            sorry
          · refine lv_iconst (v := nI 1) hx hb dL_law_559 (by decide) ?_
            refine lv_goto (tgt := 564) hx hb dL_law_560 (by decide) ?_
            sorry
        · refine n_top hsw ?_
          refine lv_tableIn (off := 567) (tgt := 599) hx hb dL_law_32 (by rw [show (nI 15).toInt = 15 from by first | decide | (rw [nI_toInt (by decide)]; omega)]; decide) (by rw [show (nI 15).toInt = 15 from by first | decide | (rw [nI_toInt (by decide)]; omega)]; decide) (by rw [show (nI 15).toInt = 15 from by first | decide | (rw [nI_toInt (by decide)]; omega)]; rfl) (by decide) ?_
          refine lv_aload_n hx hb dL_law_599 rfl (lv_at hl 1 rfl) ?_
          sorry
        · refine n_top hsw ?_
          refine lv_tableIn (off := 580) (tgt := 612) hx hb dL_law_32 (by rw [show (nI 16).toInt = 16 from by first | decide | (rw [nI_toInt (by decide)]; omega)]; decide) (by rw [show (nI 16).toInt = 16 from by first | decide | (rw [nI_toInt (by decide)]; omega)]; decide) (by rw [show (nI 16).toInt = 16 from by first | decide | (rw [nI_toInt (by decide)]; omega)]; rfl) (by decide) ?_
          refine lv_aload_n hx hb dL_law_612 rfl (lv_at hl 1 rfl) ?_
          refine lv_aload_n hx hb dL_law_613 rfl (lv_at hl 0 rfl) ?_
          refine lv_iload_n hx hb dL_law_614 rfl (lv_at hl 3 rfl) ?_
          refine lv_iconst (v := nI 1) hx hb dL_law_615 (by decide) ?_
          refine n_iadd hx hb dL_law_616 ?_
          refine n_sld hx hb hX hbl hbA hS (i := (4 * j) + 1) (by omega) (by omega) dL_law_617 ?_
          refine lv_aload_n hx hb dL_law_618 rfl (lv_at hl 0 rfl) ?_
          refine lv_iload_n hx hb dL_law_619 rfl (lv_at hl 3 rfl) ?_
          refine lv_iconst (v := nI 2) hx hb dL_law_620 (by decide) ?_
          refine n_iadd hx hb dL_law_621 ?_
          refine n_sld hx hb hX hbl hbA hS (i := (4 * j) + 2) (by omega) (by omega) dL_law_622 ?_
          refine lv_aload_n hx hb dL_law_623 rfl (lv_at hl 0 rfl) ?_
          refine lv_iload_n hx hb dL_law_624 rfl (lv_at hl 3 rfl) ?_
          refine lv_iconst (v := nI 3) hx hb dL_law_625 (by decide) ?_
          refine n_iadd hx hb dL_law_626 ?_
          refine n_sld hx hb hX hbl hbA hS (i := (4 * j) + 3) (by omega) (by omega) dL_law_627 ?_
          sorry
        · refine n_top hsw ?_
          refine lv_tableIn (off := 623) (tgt := 655) hx hb dL_law_32 (by rw [show (nI 17).toInt = 17 from by first | decide | (rw [nI_toInt (by decide)]; omega)]; decide) (by rw [show (nI 17).toInt = 17 from by first | decide | (rw [nI_toInt (by decide)]; omega)]; decide) (by rw [show (nI 17).toInt = 17 from by first | decide | (rw [nI_toInt (by decide)]; omega)]; rfl) (by decide) ?_
          refine lv_aload_n hx hb dL_law_655 rfl (lv_at hl 1 rfl) ?_
          sorry
        · refine n_top hsw ?_
          refine lv_tableIn (off := 636) (tgt := 668) hx hb dL_law_32 (by rw [show (nI 18).toInt = 18 from by first | decide | (rw [nI_toInt (by decide)]; omega)]; decide) (by rw [show (nI 18).toInt = 18 from by first | decide | (rw [nI_toInt (by decide)]; omega)]; decide) (by rw [show (nI 18).toInt = 18 from by first | decide | (rw [nI_toInt (by decide)]; omega)]; rfl) (by decide) ?_
          refine lv_aload_n hx hb dL_law_668 rfl (lv_at hl 1 rfl) ?_
          sorry
        · refine n_top hsw ?_
          refine lv_tableIn (off := 649) (tgt := 681) hx hb dL_law_32 (by rw [show (nI 19).toInt = 19 from by first | decide | (rw [nI_toInt (by decide)]; omega)]; decide) (by rw [show (nI 19).toInt = 19 from by first | decide | (rw [nI_toInt (by decide)]; omega)]; decide) (by rw [show (nI 19).toInt = 19 from by first | decide | (rw [nI_toInt (by decide)]; omega)]; rfl) (by decide) ?_
          refine lv_aload_n hx hb dL_law_681 rfl (lv_at hl 1 rfl) ?_
          refine lv_aload_n hx hb dL_law_682 rfl (lv_at hl 0 rfl) ?_
          refine lv_iload_n hx hb dL_law_683 rfl (lv_at hl 3 rfl) ?_
          refine lv_iconst (v := nI 1) hx hb dL_law_684 (by decide) ?_
          refine n_iadd hx hb dL_law_685 ?_
          refine n_sld hx hb hX hbl hbA hS (i := (4 * j) + 1) (by omega) (by omega) dL_law_686 ?_
          refine ro_iV (n := 1) (As := [.int (xs ((4 * j) + 1))]) ⟨hx, hb, hml, hown, hts⟩ (c_X6_count l D a r k cI cT cN xh xi xr pn pc rd B L q kq b hSR hb4 l3 (xs ((4 * j) + 1))) (cwV 1 hts (gV mg_422 mg_423 mg_424 mg_1 mg_425) rfl rfl rfl vd_X6_count ⟨Nat.le_of_ble_eq_true rfl, Nat.le_of_ble_eq_true rfl⟩) (va_recv hK hP (ci := 6) (q0 := 0) rfl rfl) hK (vaP_l hP) rfl hl.1 rfl (Nat.le_of_ble_eq_true rfl) dL_law_687 ⟨Nat.le_of_ble_eq_true rfl, Nat.le_of_ble_eq_true rfl⟩ ?_
          refine lv_aload_n hx hb dL_law_690 rfl (lv_at hl 2 rfl) ?_
          refine lv_aload_n hx hb dL_law_691 rfl (lv_at hl 0 rfl) ?_
          refine lv_iload_n hx hb dL_law_692 rfl (lv_at hl 3 rfl) ?_
          refine lv_iconst (v := nI 1) hx hb dL_law_693 (by decide) ?_
          refine n_iadd hx hb dL_law_694 ?_
          refine n_sld hx hb hX hbl hbA hS (i := (4 * j) + 1) (by omega) (by omega) dL_law_695 ?_
          refine ro_iV (n := 1) (As := [.int (xs ((4 * j) + 1))]) ⟨hx, hb, hml, hown, hts⟩ (c_X7_count l D h g cI J hz G b q hF.1 hb4 l5 ht5 pn xr hF.2.1 hF.2.2.1 (xs ((4 * j) + 1))) (cwV 1 hts (gV mg_712 mg_713 mg_714 mg_8 mg_715) rfl rfl rfl vd_X7_count ⟨Nat.le_of_ble_eq_true rfl, Nat.le_of_ble_eq_true rfl⟩) (va_recv hK hP (ci := 7) (q0 := 39) rfl rfl) (hK.sub [0] rfl) (vaP_r (a := (cW a r k cI cT cN xh xi xr pn pc rd B L q kq)) hP) rfl hl.1 rfl (Nat.le_of_ble_eq_true rfl) dL_law_696 ⟨Nat.le_of_ble_eq_true rfl, Nat.le_of_ble_eq_true rfl⟩ ?_
          refine j_icmp_eq (tgt := 718) hx hb dL_law_699 (by decide) rfl rfl (fun c_12 => ?_) (fun c_12 => absurd c_12 (fun z => z rfl))
          refine lv_iinc (v := nI (4 * (j + 1))) (lv' := [(3, .int (nI (4 * (j + 1)))), (0, .ref bb), (1, .ref (a 0)), (2, .ref h)]) hx hb dL_law_718 hl (k := 3) rfl (fr_inc4 _) (by decide) rfl (fun ls hl => ?_)
          refine lv_goto (tgt := 18) hx hb dL_law_721 (by decide) ?_
          exact ih_2 b pn pc rd B L q kq xh xi xr J hz G (j + 1) (LI_s hLI) (hSR) (hF) (by omega) (by omega) _ _ hP hD hS _ (lv_sub hl [1, 2, 3, 0] rfl)
        · refine n_top hsw ?_
          refine lv_tableIn (off := 672) (tgt := 704) hx hb dL_law_32 (by rw [show (nI 20).toInt = 20 from by first | decide | (rw [nI_toInt (by decide)]; omega)]; decide) (by rw [show (nI 20).toInt = 20 from by first | decide | (rw [nI_toInt (by decide)]; omega)]; decide) (by rw [show (nI 20).toInt = 20 from by first | decide | (rw [nI_toInt (by decide)]; omega)]; rfl) (by decide) ?_
          refine lv_aload_n hx hb dL_law_704 rfl (lv_at hl 1 rfl) ?_
          sorry
        · refine lv_tableOut (tgt := 718) hx hb dL_law_32 (hsw) (by decide) ?_
          refine lv_iinc (v := nI (4 * (j + 1))) (lv' := [(3, .int (nI (4 * (j + 1)))), (0, .ref bb), (1, .ref (a 0)), (2, .ref h)]) hx hb dL_law_718 hl (k := 3) rfl (fr_inc4 _) (by decide) rfl (fun ls hl => ?_)
          refine lv_goto (tgt := 18) hx hb dL_law_721 (by decide) ?_
          exact ih_2 b pn pc rd B L q kq xh xi xr J hz G (j + 1) (LI_s hLI) (hSR) (hF) (by omega) (by omega) _ _ hP hD hS _ (lv_sub hl [1, 2, 3, 0] rfl)
  exact K_1 (L0 - 4 * 0 + 1) (fun _ _ => 0) 0 (fun _ => nI 0) (0, 0, 0) (fun _ => nI 0) (fun _ => nI 0) ((0, 0, nI 0, (fun _ _ => 0), (fun _ _ => 0)) : RS) ((0, 0, nI 0, (fun _ _ => 0), (fun _ _ => 0)) : RS) 0 0 0 (fun k => if k = 15 then (-1) else nI 0) 0 (fun _ _ => nI 0) 0 (LI_0) (SR_init) (MF_init) (by omega) (Nat.lt_succ_self _) _ _ hP hD hS _ (lv_sub hl [1, 2, 3, 0] rfl)
