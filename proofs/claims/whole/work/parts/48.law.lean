set_option maxHeartbeats 4000000 in
set_option maxRecDepth 100000 in
theorem law_loop {p : Program} {e : Env} {s : State} {m : MethodId} {below : List Frame} {meth : Method} {c : Code} (l : Launch) {bb L0 : Nat} {xs : Nat → Int32} (hL : L0 ≤ 256) (C0 : lw_At p s m meth c bb L0 xs) (D : va_G) (cI cT cN : ClassId) (hK : va_K D vwCl (cTys cI cT cN) s) (a r k g : Nat → Nat) (h : Nat) (A : Nat → Prop) (hA : ∀ q : Nat, s.heap.size ≤ q → A q) (hbA : ¬ A bb) (hAf : ∀ q, A q → s.heap.size ≤ q) : ∀ n9 : Nat, ∀ (b : Nat → Nat → Nat) (pn : Nat) (pc : Nat → Int32) (rd : Nat × Nat × Nat) (B L : Nat → Int32) (q kq : RS) (xh xi xr : Nat) (J : Nat → Int32) (hz : Int64) (G : Nat → Nat → Int32) (j : Nat), LI b pn xr xi xh pc q kq j → SR b B L → MF b pn xr xi pc q kq J G → 4 * j ≤ L0 → L0 - 4 * j < n9 → ∀ (H : Heap) (locs : List Loc), va_P D vwCl (cW a r k cI cT cN xh xi xr pn pc rd B L q kq ++ mW h g cI J hz G) H → va_D A (cW a r k cI cT cN xh xi xr pn pc rd B L q kq ++ mW h g cI J hz G) → va_S A s.heap H locs → ∀ ls : Array Slot, lv_has ls 4 [(0, .ref bb), (1, .ref (a 0)), (2, .ref h), (3, .int (nI (4 * j)))] → W p l e room_1 s m #[Value.ref bb] below meth c H locs 600000 7302250 (lw_Z below #[Value.ref bb] s) (F0 m 18 ls []) := by
  obtain ⟨hx, hb, hr, hml, hown, htsL, hX, hbl, hlocks, hgv⟩ := id C0
  have hts : ∀ w ∈ wAll, w.before #[Value.ref bb] s = true := fun w h => htsL w (wAll_in h)
  have hnst : ∀ w ∈ wNst, w.before #[Value.ref bb] s = true := fun w h => htsL w (wNst_in w h)
  have hown : s.vm.findClass RL = some m.cls := hown
  intro n9
  induction n9 with
  | zero => intros; omega
  | succ n9 ih =>
    intro b pn pc rd B L q kq xh xi xr J hz G j hLI hSR hF hj hn9 H locs hP hD hS ls hl
    refine lv_iload_n hx hb dL_law_18 rfl (lv_at hl 3 rfl) ?_
    refine lv_aload_n hx hb dL_law_19 rfl (lv_at hl 0 rfl) ?_
    refine n_slen hx hb hX hbl hbA hS dL_law_20 ?_
    refine lv_iconst (v := nI 4) hx hb dL_law_21 (by decide) ?_
    refine lv_isub hx hb dL_law_22 ?_
    refine j_icmp_gt (tgt := 724) hx hb dL_law_23 (by decide) (nI_toInt (by omega)) (pk_sub_toInt (by omega) (by omega)) (fun c_3 => ?_) (fun c_3 => ?_)
    · refine lv_iconst (v := nI 1) hx hb dL_law_724 (by decide) ?_
      refine va_forget (fun q hq => hAf _ (hS.2.2 q hq)) ?_
      exact lw_ret hx hb hr hlocks dL_law_725
    · have hj4 : 4 * j + 4 ≤ L0 := by omega
      have hN : LN p l e s m below meth c bb h a r k g cI cT cN D A j := by
        intro b pn pc rd B L q kq xh xi xr J hz G hLI hSR hF H locs hP hD hS ls hl
        refine lv_iinc (v := nI (4 * (j + 1))) (lv' := [(3, .int (nI (4 * (j + 1)))), (0, .ref bb), (1, .ref (a 0)), (2, .ref h)]) hx hb dL_law_718 hl (k := 3) rfl (fr_inc4 _) (by decide) rfl (fun ls hl => ?_)
        refine lv_goto (tgt := 18) hx hb dL_law_721 (by decide) ?_
        exact ih b pn pc rd B L q kq xh xi xr J hz G (j + 1) hLI hSR hF (by omega) (by omega) _ _ hP hD hS _ (lv_sub hl [1, 2, 3, 0] rfl)
      refine lv_aload_n hx hb dL_law_26 rfl (lv_at hl 0 rfl) ?_
      refine lv_iload_n hx hb dL_law_27 rfl (lv_at hl 3 rfl) ?_
      refine n_sld hx hb hX hbl hbA hS (i := 4 * j) (by omega) (by omega) dL_law_28 ?_
      refine lv_bipush (v := nI 31) hx hb dL_law_29 (by decide) ?_
      refine lv_iand hx hb dL_law_31 ?_
      rcases sw31 (xs (4 * j)) with hsw | hsw | hsw | hsw | hsw | hsw | hsw | hsw | hsw | hsw | hsw | hsw | hsw | hsw | hsw | hsw | hsw | hsw | hsw | hsw | hsw | hsw | hsw
      · refine n_top hsw ?_
        refine lv_tableIn (off := 100) (tgt := 132) hx hb dL_law_32 (by rw [show (nI 0).toInt = 0 from by decide]; decide) (by rw [show (nI 0).toInt = 0 from by decide]; decide) (by rw [show (nI 0).toInt = 0 from by decide]; rfl) (by decide) ?_
        exact law_c0 l hL C0 D cI cT cN hK a r k g h A hA hbA j hj4 hN b pn pc rd B L q kq xh xi xr J hz G hLI hSR hF H locs hP hD hS ls hl
      · refine n_top hsw ?_
        refine lv_tableIn (off := 123) (tgt := 155) hx hb dL_law_32 (by rw [show (nI 1).toInt = 1 from by decide]; decide) (by rw [show (nI 1).toInt = 1 from by decide]; decide) (by rw [show (nI 1).toInt = 1 from by decide]; rfl) (by decide) ?_
        exact law_c1 l hL C0 D cI cT cN hK a r k g h A hA hbA j hj4 hN b pn pc rd B L q kq xh xi xr J hz G hLI hSR hF H locs hP hD hS ls hl
      · refine n_top hsw ?_
        refine lv_tableIn (off := 136) (tgt := 168) hx hb dL_law_32 (by rw [show (nI 2).toInt = 2 from by decide]; decide) (by rw [show (nI 2).toInt = 2 from by decide]; decide) (by rw [show (nI 2).toInt = 2 from by decide]; rfl) (by decide) ?_
        exact law_c2 l hL C0 D cI cT cN hK a r k g h A hA hbA j hj4 hN b pn pc rd B L q kq xh xi xr J hz G hLI hSR hF H locs hP hD hS ls hl
      · refine n_top hsw ?_
        refine lv_tableIn (off := 149) (tgt := 181) hx hb dL_law_32 (by rw [show (nI 3).toInt = 3 from by decide]; decide) (by rw [show (nI 3).toInt = 3 from by decide]; decide) (by rw [show (nI 3).toInt = 3 from by decide]; rfl) (by decide) ?_
        exact law_c3 l hL C0 D cI cT cN hK a r k g h A hA hbA j hj4 hN b pn pc rd B L q kq xh xi xr J hz G hLI hSR hF H locs hP hD hS ls hl
      · refine n_top hsw ?_
        refine lv_tableIn (off := 162) (tgt := 194) hx hb dL_law_32 (by rw [show (nI 4).toInt = 4 from by decide]; decide) (by rw [show (nI 4).toInt = 4 from by decide]; decide) (by rw [show (nI 4).toInt = 4 from by decide]; rfl) (by decide) ?_
        exact law_c4 l hL C0 D cI cT cN hK a r k g h A hA hbA j hj4 hN b pn pc rd B L q kq xh xi xr J hz G hLI hSR hF H locs hP hD hS ls hl
      · refine n_top hsw ?_
        refine lv_tableIn (off := 195) (tgt := 227) hx hb dL_law_32 (by rw [show (nI 5).toInt = 5 from by decide]; decide) (by rw [show (nI 5).toInt = 5 from by decide]; decide) (by rw [show (nI 5).toInt = 5 from by decide]; rfl) (by decide) ?_
        exact law_c5 l hL C0 D cI cT cN hK a r k g h A hA hbA j hj4 hN b pn pc rd B L q kq xh xi xr J hz G hLI hSR hF H locs hP hD hS ls hl
      · refine n_top hsw ?_
        refine lv_tableIn (off := 228) (tgt := 260) hx hb dL_law_32 (by rw [show (nI 6).toInt = 6 from by decide]; decide) (by rw [show (nI 6).toInt = 6 from by decide]; decide) (by rw [show (nI 6).toInt = 6 from by decide]; rfl) (by decide) ?_
        exact law_c6 l hL C0 D cI cT cN hK a r k g h A hA hbA j hj4 hN b pn pc rd B L q kq xh xi xr J hz G hLI hSR hF H locs hP hD hS ls hl
      · refine n_top hsw ?_
        refine lv_tableIn (off := 261) (tgt := 293) hx hb dL_law_32 (by rw [show (nI 7).toInt = 7 from by decide]; decide) (by rw [show (nI 7).toInt = 7 from by decide]; decide) (by rw [show (nI 7).toInt = 7 from by decide]; rfl) (by decide) ?_
        exact law_c7 l hL C0 D cI cT cN hK a r k g h A hA hbA j hj4 hN b pn pc rd B L q kq xh xi xr J hz G hLI hSR hF H locs hP hD hS ls hl
      · refine n_top hsw ?_
        refine lv_tableIn (off := 294) (tgt := 326) hx hb dL_law_32 (by rw [show (nI 8).toInt = 8 from by decide]; decide) (by rw [show (nI 8).toInt = 8 from by decide]; decide) (by rw [show (nI 8).toInt = 8 from by decide]; rfl) (by decide) ?_
        exact law_c8 l hL C0 D cI cT cN hK a r k g h A hA hbA j hj4 hN b pn pc rd B L q kq xh xi xr J hz G hLI hSR hF H locs hP hD hS ls hl
      · refine n_top hsw ?_
        refine lv_tableIn (off := 327) (tgt := 359) hx hb dL_law_32 (by rw [show (nI 9).toInt = 9 from by decide]; decide) (by rw [show (nI 9).toInt = 9 from by decide]; decide) (by rw [show (nI 9).toInt = 9 from by decide]; rfl) (by decide) ?_
        exact law_c9 l hL C0 D cI cT cN hK a r k g h A hA hbA j hj4 hN b pn pc rd B L q kq xh xi xr J hz G hLI hSR hF H locs hP hD hS ls hl
      · refine n_top hsw ?_
        refine lv_tableIn (off := 350) (tgt := 382) hx hb dL_law_32 (by rw [show (nI 10).toInt = 10 from by decide]; decide) (by rw [show (nI 10).toInt = 10 from by decide]; decide) (by rw [show (nI 10).toInt = 10 from by decide]; rfl) (by decide) ?_
        exact law_c10 l hL C0 D cI cT cN hK a r k g h A hA hbA j hj4 hN b pn pc rd B L q kq xh xi xr J hz G hLI hSR hF H locs hP hD hS ls hl
      · refine n_top hsw ?_
        refine lv_tableIn (off := 399) (tgt := 431) hx hb dL_law_32 (by rw [show (nI 11).toInt = 11 from by decide]; decide) (by rw [show (nI 11).toInt = 11 from by decide]; decide) (by rw [show (nI 11).toInt = 11 from by decide]; rfl) (by decide) ?_
        exact law_c11 l hL C0 D cI cT cN hK a r k g h A hA hbA j hj4 hN b pn pc rd B L q kq xh xi xr J hz G hLI hSR hF H locs hP hD hS ls hl
      · refine n_top hsw ?_
        refine lv_tableIn (off := 432) (tgt := 464) hx hb dL_law_32 (by rw [show (nI 12).toInt = 12 from by decide]; decide) (by rw [show (nI 12).toInt = 12 from by decide]; decide) (by rw [show (nI 12).toInt = 12 from by decide]; rfl) (by decide) ?_
        exact law_c12 l hL C0 D cI cT cN hK a r k g h A hA hbA j hj4 hN b pn pc rd B L q kq xh xi xr J hz G hLI hSR hF H locs hP hD hS ls hl
      · refine n_top hsw ?_
        refine lv_tableIn (off := 465) (tgt := 497) hx hb dL_law_32 (by rw [show (nI 13).toInt = 13 from by decide]; decide) (by rw [show (nI 13).toInt = 13 from by decide]; decide) (by rw [show (nI 13).toInt = 13 from by decide]; rfl) (by decide) ?_
        exact law_c13 l hL C0 D cI cT cN hK a r k g h A hA hbA j hj4 hN b pn pc rd B L q kq xh xi xr J hz G hLI hSR hF H locs hP hD hS ls hl
      · refine n_top hsw ?_
        refine lv_tableIn (off := 508) (tgt := 540) hx hb dL_law_32 (by rw [show (nI 14).toInt = 14 from by decide]; decide) (by rw [show (nI 14).toInt = 14 from by decide]; decide) (by rw [show (nI 14).toInt = 14 from by decide]; rfl) (by decide) ?_
        exact law_c14 l hL C0 D cI cT cN hK a r k g h A hA hbA j hj4 hN b pn pc rd B L q kq xh xi xr J hz G hLI hSR hF H locs hP hD hS ls hl
      · refine n_top hsw ?_
        refine lv_tableIn (off := 567) (tgt := 599) hx hb dL_law_32 (by rw [show (nI 15).toInt = 15 from by decide]; decide) (by rw [show (nI 15).toInt = 15 from by decide]; decide) (by rw [show (nI 15).toInt = 15 from by decide]; rfl) (by decide) ?_
        exact law_c15 l hL C0 D cI cT cN hK a r k g h A hA hbA j hj4 hN b pn pc rd B L q kq xh xi xr J hz G hLI hSR hF H locs hP hD hS ls hl
      · refine n_top hsw ?_
        refine lv_tableIn (off := 580) (tgt := 612) hx hb dL_law_32 (by rw [show (nI 16).toInt = 16 from by decide]; decide) (by rw [show (nI 16).toInt = 16 from by decide]; decide) (by rw [show (nI 16).toInt = 16 from by decide]; rfl) (by decide) ?_
        exact law_c16 l hL C0 D cI cT cN hK a r k g h A hA hbA j hj4 hN b pn pc rd B L q kq xh xi xr J hz G hLI hSR hF H locs hP hD hS ls hl
      · refine n_top hsw ?_
        refine lv_tableIn (off := 623) (tgt := 655) hx hb dL_law_32 (by rw [show (nI 17).toInt = 17 from by decide]; decide) (by rw [show (nI 17).toInt = 17 from by decide]; decide) (by rw [show (nI 17).toInt = 17 from by decide]; rfl) (by decide) ?_
        exact law_c17 l hL C0 D cI cT cN hK a r k g h A hA hbA j hj4 hN b pn pc rd B L q kq xh xi xr J hz G hLI hSR hF H locs hP hD hS ls hl
      · refine n_top hsw ?_
        refine lv_tableIn (off := 636) (tgt := 668) hx hb dL_law_32 (by rw [show (nI 18).toInt = 18 from by decide]; decide) (by rw [show (nI 18).toInt = 18 from by decide]; decide) (by rw [show (nI 18).toInt = 18 from by decide]; rfl) (by decide) ?_
        exact law_c18 l hL C0 D cI cT cN hK a r k g h A hA hbA j hj4 hN b pn pc rd B L q kq xh xi xr J hz G hLI hSR hF H locs hP hD hS ls hl
      · refine n_top hsw ?_
        refine lv_tableIn (off := 649) (tgt := 681) hx hb dL_law_32 (by rw [show (nI 19).toInt = 19 from by decide]; decide) (by rw [show (nI 19).toInt = 19 from by decide]; decide) (by rw [show (nI 19).toInt = 19 from by decide]; rfl) (by decide) ?_
        exact law_c19 l hL C0 D cI cT cN hK a r k g h A hA hbA j hj4 hN b pn pc rd B L q kq xh xi xr J hz G hLI hSR hF H locs hP hD hS ls hl
      · refine n_top hsw ?_
        refine lv_tableIn (off := 672) (tgt := 704) hx hb dL_law_32 (by rw [show (nI 20).toInt = 20 from by decide]; decide) (by rw [show (nI 20).toInt = 20 from by decide]; decide) (by rw [show (nI 20).toInt = 20 from by decide]; rfl) (by decide) ?_
        exact law_c20 l hL C0 D cI cT cN hK a r k g h A hA hbA j hj4 hN b pn pc rd B L q kq xh xi xr J hz G hLI hSR hF H locs hP hD hS ls hl
      · refine lv_tableOut (tgt := 718) hx hb dL_law_32 (Or.inl hsw) (by decide) ?_
        exact hN b pn pc rd B L q kq xh xi xr J hz G (LI_s hLI) hSR hF H locs hP hD hS ls hl
      · refine lv_tableOut (tgt := 718) hx hb dL_law_32 (Or.inr hsw) (by decide) ?_
        exact hN b pn pc rd B L q kq xh xi xr J hz G (LI_s hLI) hSR hF H locs hP hD hS ls hl
set_option maxHeartbeats 4000000 in
set_option maxRecDepth 100000 in
/-- from the entry, for every script of at most 256 ints, the law comes to its end with true -/
theorem whole_start {p : Program} {e : Env} {s : State} {m : MethodId} {below : List Frame} {meth : Method} {c : Code} (l : Launch) (hflags : l.flags = flags0) {b L : Nat} {xs : Nat → Int32} (hL : L ≤ 256) (C0 : lw_At p s m meth c b L xs) : W p l e room_1 s m #[Value.ref b] below meth c s.heap [] 0 0 (lw_Z below #[Value.ref b] s) (entryFrame m ([Value.ref b] : List Value).toArray 4) := by
  obtain ⟨hx, hb, hr, hml, hown, htsL, hX, hbl, hlocks, hgv⟩ := id C0
  have hts : ∀ w ∈ wAll, w.before #[Value.ref b] s = true := fun w h => htsL w (wAll_in h)
  have hct : ∀ w ∈ wCt ++ wNst, w.before #[Value.ref b] s = true := fun w h => htsL w ((List.mem_append.mp h).elim (wCt_in w) (wNst_in w))
  have hown : s.vm.findClass RL = some m.cls := hown
  obtain ⟨D, cI, cT, cN, hK⟩ := law_K hts hct
  have hA : ∀ q : Nat, s.heap.size ≤ q → (fun q : Nat => s.heap.size ≤ q) q := fun _ h => h
  have hbA : ¬ (fun q : Nat => s.heap.size ≤ q) b := Nat.not_le.mpr hbl
  have hS : va_S (fun q : Nat => s.heap.size ≤ q) s.heap s.heap [] := va_S.rf
  have hP : va_P D vwCl ([] : va_W) s.heap := fun k q h => by simp at h
  have hD : va_D (fun q : Nat => s.heap.size ≤ q) ([] : va_W) := ⟨fun i j p q h => by simp at h, fun k q h => by simp at h⟩
  have hl := lv_entry ([.ref b]) (n := 4) (Nat.le_of_ble_eq_true rfl)
  rw [lg_entry_eq]
  generalize (lg_sl ([.ref b]) ++ List.replicate (4 - (lg_sl ([.ref b])).length) Slot.unset).toArray = ls at hl ⊢
  have hl : lv_has ls 4 [(0, .ref b)] := hl
  refine va_new (ci := 6) (fs := [.null, .null, .null, .null, .int (nI 0), .int (nI 0), .int (nI 0)]) (C := RX6) (T := TX6) (N := 7) hx hb hts iX6 tyX6 tyX6_ok hown (hts _ mg_10) (hts _ mg_11) (hts _ mg_1) hK hP hD hS hA rfl (fun j hj => by rcases (show j = 0 ∨ j = 1 ∨ j = 2 ∨ j = 3 ∨ j = 4 ∨ j = 5 ∨ j = 6 by omega) with rfl | rfl | rfl | rfl | rfl | rfl | rfl <;> rfl) (Nat.le_of_ble_eq_true rfl) (Nat.le_of_ble_eq_true rfl) dL_law_0 (fun q6 H hP hD hS => ?_)
  refine lv_dup hx hb dL_law_3 rfl ?_
  refine rc_vI (X := []) (n := 0) (As := []) ⟨hx, hb, hml, hown, hts⟩ (c_X6_init l D cI cT cN _ q6) (cwIC 0 hts hct mg_12 mg_13 mg_1 mg_14 rfl rfl ⟨rfl, by decide +kernel⟩ ⟨Nat.le_of_ble_eq_true rfl, Nat.le_of_ble_eq_true rfl⟩) hK hP hD hS hA rfl hl.1 rfl (Nat.le_of_ble_eq_true rfl) dL_law_4 ⟨Nat.le_of_ble_eq_true rfl, Nat.le_of_ble_eq_true rfl⟩ (fun u6 H locs v6 hP hD hS => ?_)
  have hPz := hP
  have hDz := hD
  have hSz := hS
  subst v6
  have hP := hPz
  have hD := hDz
  have hS := hSz
  have hP : va_P D vwCl (cW u6.1 u6.2.1 u6.2.2 cI cT cN 0 0 0 0 (fun _ => nI 0) (0, 0, 0) (fun _ => nI 0) (fun _ => nI 0) ((0, 0, nI 0, (fun _ _ => 0), (fun _ _ => 0)) : RS) ((0, 0, nI 0, (fun _ _ => 0), (fun _ _ => 0)) : RS)) H := hP
  have hD : va_D (fun q : Nat => s.heap.size ≤ q) (cW u6.1 u6.2.1 u6.2.2 cI cT cN 0 0 0 0 (fun _ => nI 0) (0, 0, 0) (fun _ => nI 0) (fun _ => nI 0) ((0, 0, nI 0, (fun _ _ => 0), (fun _ _ => 0)) : RS) ((0, 0, nI 0, (fun _ _ => 0), (fun _ _ => 0)) : RS)) := hD
  refine lv_astore_n (lv' := [(1, .ref (u6.1 0)), (0, .ref b)]) hx hb dL_law_7 rfl hl (by decide) rfl (fun ls hl => ?_)
  refine va_new (ci := 7) (fs := [.null, .int (nI 0), .int (nI 0), .null, .null, .int (nI 0), .int (nI 0), .int (nI 0), .int (nI 0), .int (nI 0), .null, .null, .int (nI 0), .null, .int (nI 0), .int (nI 0), .int (nI 0), .int (nI 0), .int (nI 0), .null, .null, .long (0 : Int64)]) (C := RX7) (T := TX7) (N := 22) hx hb hts iX7 tyX7 tyX7_ok hown (hts _ mg_456) (hts _ mg_457) (hts _ mg_8) hK hP hD hS hA rfl (fun j hj => by rcases (show j = 0 ∨ j = 1 ∨ j = 2 ∨ j = 3 ∨ j = 4 ∨ j = 5 ∨ j = 6 ∨ j = 7 ∨ j = 8 ∨ j = 9 ∨ j = 10 ∨ j = 11 ∨ j = 12 ∨ j = 13 ∨ j = 14 ∨ j = 15 ∨ j = 16 ∨ j = 17 ∨ j = 18 ∨ j = 19 ∨ j = 20 ∨ j = 21 by omega) with rfl | rfl | rfl | rfl | rfl | rfl | rfl | rfl | rfl | rfl | rfl | rfl | rfl | rfl | rfl | rfl | rfl | rfl | rfl | rfl | rfl | rfl <;> rfl) (Nat.le_of_ble_eq_true rfl) (Nat.le_of_ble_eq_true rfl) dL_law_8 (fun q7 H hP hD hS => ?_)
  refine lv_dup hx hb dL_law_11 rfl ?_
  refine rc_vI (X := (cW u6.1 u6.2.1 u6.2.2 cI cT cN 0 0 0 0 (fun _ => nI 0) (0, 0, 0) (fun _ => nI 0) (fun _ => nI 0) ((0, 0, nI 0, (fun _ _ => 0), (fun _ _ => 0)) : RS) ((0, 0, nI 0, (fun _ _ => 0), (fun _ _ => 0)) : RS))) (n := 0) (As := []) ⟨hx, hb, hml, hown, hts⟩ (c_X7_init l D cI _ q7) (cwIC 0 hts hct mg_458 mg_459 mg_8 mg_460 rfl rfl ⟨rfl, by decide +kernel⟩ ⟨Nat.le_of_ble_eq_true rfl, Nat.le_of_ble_eq_true rfl⟩) (hK.sub [0] rfl) hP hD hS hA rfl hl.1 rfl (Nat.le_of_ble_eq_true rfl) dL_law_12 ⟨Nat.le_of_ble_eq_true rfl, Nat.le_of_ble_eq_true rfl⟩ (fun u7 H locs v7 hP hD hS => ?_)
  have hP : va_P D vwCl ((cW u6.1 u6.2.1 u6.2.2 cI cT cN 0 0 0 0 (fun _ => nI 0) (0, 0, 0) (fun _ => nI 0) (fun _ => nI 0) ((0, 0, nI 0, (fun _ _ => 0), (fun _ _ => 0)) : RS) ((0, 0, nI 0, (fun _ _ => 0), (fun _ _ => 0)) : RS)) ++ (mW q7 u7 cI (fun k => if k = 15 then (-1) else nI 0) 0 (fun _ _ => nI 0))) H := hP
  have hD : va_D (fun q : Nat => s.heap.size ≤ q) ((cW u6.1 u6.2.1 u6.2.2 cI cT cN 0 0 0 0 (fun _ => nI 0) (0, 0, 0) (fun _ => nI 0) (fun _ => nI 0) ((0, 0, nI 0, (fun _ _ => 0), (fun _ _ => 0)) : RS) ((0, 0, nI 0, (fun _ _ => 0), (fun _ _ => 0)) : RS)) ++ (mW q7 u7 cI (fun k => if k = 15 then (-1) else nI 0) 0 (fun _ _ => nI 0))) := hD
  refine W.widen (k := 600000) (n := 7302250) (Nat.le_of_ble_eq_true rfl) (Nat.le_of_ble_eq_true rfl) ?_
  refine lv_astore_n (lv' := [(2, .ref q7), (1, .ref (u6.1 0)), (0, .ref b)]) hx hb dL_law_15 rfl hl (by decide) rfl (fun ls hl => ?_)
  refine lv_iconst (v := nI 0) hx hb dL_law_16 (by decide) ?_
  refine lv_istore_n (lv' := [(3, .int (nI 0)), (2, .ref q7), (1, .ref (u6.1 0)), (0, .ref b)]) hx hb dL_law_17 rfl hl (by decide) rfl (fun ls hl => ?_)
  exact law_loop l hL C0 D cI cT cN hK u6.1 u6.2.1 u6.2.2 u7 q7 (fun q : Nat => s.heap.size ≤ q) hA hbA (fun _ h => h) (L + 1) (fun _ _ => 0) 0 (fun _ => nI 0) (0, 0, 0) (fun _ => nI 0) (fun _ => nI 0) ((0, 0, nI 0, (fun _ _ => 0), (fun _ _ => 0)) : RS) ((0, 0, nI 0, (fun _ _ => 0), (fun _ _ => 0)) : RS) 0 0 0 (fun k => if k = 15 then (-1) else nI 0) 0 (fun _ _ => nI 0) 0 LI_0 SR_init MF_init (Nat.zero_le _) (by omega) _ _ hP hD hS _ (lv_sub hl [3, 2, 1, 0] rfl)
