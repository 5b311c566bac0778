/-! the law's calls, a case each: the class's answer is the reference's, and the invariant stands again behind them -/
abbrev LN (p : Program) (l : Launch) (e : Env) (s : State) (m : MethodId) (below : List Frame) (meth : Method) (c : Code) (bb h : Nat) (a r k g : Nat → Nat) (cI cT cN : ClassId) (D : va_G) (A : Nat → Prop) (j : Nat) : Prop :=
  ∀ (b : Nat → Nat → Nat) (pn : Nat) (pc : Nat → Int32) (rd : Nat × Nat × Nat) (B L : Nat → Int32) (q kq : RS) (xh xi xr : Nat) (J : Nat → Int32) (hz : Int64) (G : Nat → Nat → Int32), LI b pn xr xi xh pc q kq (j + 1) → SR b B L → MF b pn xr xi pc q kq J G → ∀ (H : Heap) (locs : List Loc), va_P D vwCl (cW a r k cI cT cN xh xi xr pn pc rd B L q kq ++ mW h g cI J hz G) H → va_D A (cW a r k cI cT cN xh xi xr pn pc rd B L q kq ++ mW h g cI J hz G) → va_S A s.heap H locs → ∀ ls : Array Slot, lv_has ls 4 [(0, .ref bb), (1, .ref (a 0)), (2, .ref h), (3, .int (nI (4 * j)))] → W p l e room_1 s m #[Value.ref bb] below meth c H locs 600000 7302250 (lw_Z below #[Value.ref bb] s) (F0 m 718 ls [])
theorem inr_or (x : Int32) (n : Nat) (hi : Int) (he : hi = (n : Int)) (hn : n < 2 ^ 31) : (∃ i : Nat, i < n ∧ x = nI i) ∨ ¬ inr x 0 hi := by
  subst he
  by_cases h : inr x 0 n
  · exact Or.inl (inr_nat h hn)
  · exact Or.inr h
theorem inr_or0 (x : Int32) : (∃ i : Nat, i < 2 ^ 31 ∧ x = nI i) ∨ ¬ 0 ≤ x.toInt := by
  by_cases h : 0 ≤ x.toInt
  · refine Or.inl ⟨x.toInt.toNat, ?_, ?_⟩
    · have := x.toInt_lt; omega
    · apply Int32.toInt_inj.1
      have h2 := x.toInt_lt
      rw [nI_toInt (by omega)]; omega
  · exact Or.inr h
theorem inr_or1 (x : Int32) : (∃ i : Nat, 1 ≤ i ∧ i < 41 ∧ x = nI i) ∨ ¬ inr x 1 41 := by
  by_cases h : inr x 1 41
  · obtain ⟨i, hi, rfl⟩ := inr_nat (x := x) (n := 41) ⟨by have := h.1; omega, h.2⟩ (by decide)
    refine Or.inl ⟨i, ?_, hi, rfl⟩
    have := h.1
    rw [nI_toInt (by omega)] at this
    omega
  · exact Or.inr h
section SPN
variable {b : Nat → Nat → Nat} {q : RS} {x y9 w9 : Int32} {dd y w : Nat}
theorem spn1 (h : ¬ inr x 1 41) : sp_nights b q x y9 w9 = -102 := if_neg (fun z => h z.1)
theorem spn2 (h : ¬ 0 ≤ y9.toInt) : sp_nights b q x y9 w9 = -102 := if_neg (fun z => h z.2.1)
theorem spn3 (h : ¬ inr w9 0 3) : sp_nights b q x y9 w9 = -102 := if_neg (fun z => h z.2.2)
theorem spnI (hd1 : 1 ≤ dd) (hd2 : dd < 41) (hy : y < 2 ^ 31) (hw : w < 3) : sp_nights b q (nI dd) (nI y) (nI w) = if q.1 = 0 then -103 else (let z := ngo b q.2.2.2.1 q.1 (0, 0, y) dd; if w = 0 then nI z.1 else if w = 1 then nI z.2.1 else nI z.2.2) := by
  unfold sp_nights
  rw [if_pos ⟨⟨by rw [nI_toInt (by omega)]; omega, by rw [nI_toInt (by omega)]; omega⟩, by rw [nI_toInt hy]; omega, inr_nI hw (by decide)⟩, ti_nI (i := dd) (by omega), ti_nI hy, ti_nI (i := w) (by omega)]
theorem spn4 (hd1 : 1 ≤ dd) (hd2 : dd < 41) (hy : y < 2 ^ 31) (hw : w < 3) (h0 : q.1 = 0) : sp_nights b q (nI dd) (nI y) (nI w) = -103 := (spnI hd1 hd2 hy hw).trans (if_pos h0)
theorem spn5 (hd1 : 1 ≤ dd) (hd2 : dd < 41) (hy : y < 2 ^ 31) (hw : w < 3) (h0 : ¬ q.1 = 0) : sp_nights b q (nI dd) (nI y) (nI w) = (let z := ngo b q.2.2.2.1 q.1 (0, 0, y) dd; if w = 0 then nI z.1 else if w = 1 then nI z.2.1 else nI z.2.2) := (spnI hd1 hd2 hy hw).trans (if_neg h0)
end SPN
section LCS
variable {p : Program} {l : Launch} {e : Env} {R : Room} {s : State} {m : MethodId} {args : Array Value} {below : List Frame} {meth : Method} {c : Code} {H : Heap} {locs : List Loc} {cells slots : Nat} {Q : State → Prop}
theorem j_lc_self {cc : ByteArray} {pc : Nat} {ls : Array Slot} {rest : List Value} (hexec : p.tables.exec = Jvm.exec) (hb : c.code = cc) {x : Int64} {off : Int} {tgt : Nat} (hdg : decode cc pc = .ok (.lcmp, 1)) (hdg2 : decode cc (pc + 1) = .ok (.ifCond .eq off, 3)) (ht : ((pc + 1 : Nat) : Int) + off = (tgt : Int)) (k : W p l e R s m args below meth c H locs cells slots Q (F0 m tgt ls rest)) : W p l e R s m args below meth c H locs cells slots Q (F0 m pc ls (.long x :: .long x :: rest)) := W.lcmp hexec hb hdg (lv_if_eq hexec hb hdg2 ht (fun _ => k) (fun z => absurd ((lg_cmp_eq x x).mpr rfl) z))
end LCS
set_option maxHeartbeats 4000000 in
set_option maxRecDepth 100000 in
theorem law_c4 {p : Program} {e : Env} {s : State} {m : MethodId} {below : List Frame} {meth : Method} {c : Code} (l : Launch) {bb L0 : Nat} {xs : Nat → Int32} (hL : L0 ≤ 256) (C0 : lw_At p s m meth c bb L0 xs) (D : va_G) (cI cT cN : ClassId) (hK : va_K D vwCl (cTys cI cT cN) s) (a r k g : Nat → Nat) (h : Nat) (A : Nat → Prop) (hA : ∀ q : Nat, s.heap.size ≤ q → A q) (hbA : ¬ A bb) (j : Nat) (hj : 4 * j + 4 ≤ L0) (hN : LN p l e s m below meth c bb h a r k g cI cT cN D A j) (b : Nat → Nat → Nat) (pn : Nat) (pc : Nat → Int32) (rd : Nat × Nat × Nat) (B L : Nat → Int32) (q kq : RS) (xh xi xr : Nat) (J : Nat → Int32) (hz : Int64) (G : Nat → Nat → Int32) (hLI : LI b pn xr xi xh pc q kq j) (hSR : SR b B L) (hF : MF b pn xr xi pc q kq J G) (H : Heap) (locs : List Loc) (hP : va_P D vwCl (cW a r k cI cT cN xh xi xr pn pc rd B L q kq ++ mW h g cI J hz G) H) (hD : va_D A (cW a r k cI cT cN xh xi xr pn pc rd B L q kq ++ mW h g cI J hz G)) (hS : va_S A s.heap H locs) (ls : Array Slot) (hl : lv_has ls 4 [(0, .ref bb), (1, .ref (a 0)), (2, .ref h), (3, .int (nI (4 * j)))]) : W p l e room_1 s m #[Value.ref bb] below meth c H locs 600000 7302250 (lw_Z below #[Value.ref bb] s) (F0 m 194 ls []) := by
  obtain ⟨hx, hb, hr, hml, hown, htsL, hX, hbl, hlocks, hgv⟩ := id C0
  have hts : ∀ w ∈ wAll, w.before #[Value.ref bb] s = true := fun w h => htsL w (wAll_in h)
  have hnst : ∀ w ∈ wNst, w.before #[Value.ref bb] s = true := fun w h => htsL w (wNst_in w h)
  have hown : s.vm.findClass RL = some m.cls := hown
  obtain ⟨l1, l2, l3, l4, l5, l6, l7, l8⟩ := id hLI
  have hb4 := LI_b4 hLI
  have ht5 := l3.1
  refine lv_aload_n hx hb dL_law_194 rfl (lv_at hl 1 rfl) ?_
  refine lv_aload_n hx hb dL_law_195 rfl (lv_at hl 0 rfl) ?_
  refine lv_iload_n hx hb dL_law_196 rfl (lv_at hl 3 rfl) ?_
  refine lv_iconst (v := nI 1) hx hb dL_law_197 (by decide) ?_
  refine n_iadd hx hb dL_law_198 ?_
  refine n_sld hx hb hX hbl hbA hS (i := 4 * j + 1) (by omega) (by omega) dL_law_199 ?_
  refine lv_aload_n hx hb dL_law_200 rfl (lv_at hl 0 rfl) ?_
  refine lv_iload_n hx hb dL_law_201 rfl (lv_at hl 3 rfl) ?_
  refine lv_iconst (v := nI 2) hx hb dL_law_202 (by decide) ?_
  refine n_iadd hx hb dL_law_203 ?_
  refine n_sld hx hb hX hbl hbA hS (i := 4 * j + 2) (by omega) (by omega) dL_law_204 ?_
  refine ro_iV (n := 2) (As := [.int (xs (4 * j + 1)), .int (xs (4 * j + 2))]) ⟨hx, hb, hml, hown, hts⟩ (c_X6_saying l D a r k cI cT cN xh xi xr pn pc rd B L q kq b hSR l4 l8 (xs (4 * j + 1)) (xs (4 * j + 2))) (cwV 2 hts (gV mg_266 mg_267 mg_268 mg_1 mg_269) rfl rfl rfl vd_X6_saying ⟨Nat.le_of_ble_eq_true rfl, Nat.le_of_ble_eq_true rfl⟩) (va_recv hK hP (ci := 6) (q0 := 0) rfl rfl) hK (vaP_l hP) rfl hl.1 rfl (Nat.le_of_ble_eq_true rfl) dL_law_205 ⟨Nat.le_of_ble_eq_true rfl, Nat.le_of_ble_eq_true rfl⟩ ?_
  refine lv_aload_n hx hb dL_law_208 rfl (lv_at hl 2 rfl) ?_
  refine lv_aload_n hx hb dL_law_209 rfl (lv_at hl 0 rfl) ?_
  refine lv_iload_n hx hb dL_law_210 rfl (lv_at hl 3 rfl) ?_
  refine lv_iconst (v := nI 1) hx hb dL_law_211 (by decide) ?_
  refine n_iadd hx hb dL_law_212 ?_
  refine n_sld hx hb hX hbl hbA hS (i := 4 * j + 1) (by omega) (by omega) dL_law_213 ?_
  refine lv_aload_n hx hb dL_law_214 rfl (lv_at hl 0 rfl) ?_
  refine lv_iload_n hx hb dL_law_215 rfl (lv_at hl 3 rfl) ?_
  refine lv_iconst (v := nI 2) hx hb dL_law_216 (by decide) ?_
  refine n_iadd hx hb dL_law_217 ?_
  refine n_sld hx hb hX hbl hbA hS (i := 4 * j + 2) (by omega) (by omega) dL_law_218 ?_
  refine ro_iV (n := 2) (As := [.int (xs (4 * j + 1)), .int (xs (4 * j + 2))]) ⟨hx, hb, hml, hown, hts⟩ (c_X7_saying l D h g cI J hz G b q hF.1 hb4 ht5 (xs (4 * j + 1)) (xs (4 * j + 2))) (cwV 2 hts (gV mg_569 mg_570 mg_571 mg_8 mg_572) rfl rfl rfl vd_X7_saying ⟨Nat.le_of_ble_eq_true rfl, Nat.le_of_ble_eq_true rfl⟩) (va_recv hK hP (ci := 7) (q0 := 39) rfl rfl) (hK.sub [0] rfl) (vaP_r (a := (cW a r k cI cT cN xh xi xr pn pc rd B L q kq)) hP) rfl hl.1 rfl (Nat.le_of_ble_eq_true rfl) dL_law_219 ⟨Nat.le_of_ble_eq_true rfl, Nat.le_of_ble_eq_true rfl⟩ ?_
  refine j_icmp_eq (tgt := 718) hx hb dL_law_222 (by decide) rfl rfl (fun c_1 => ?_) (fun c_1 => absurd c_1 (fun z => z rfl))
  exact hN b pn pc rd B L q kq xh xi xr J hz G (LI_s hLI) (hSR) (hF) _ _ hP hD hS _ (lv_sub hl [0, 1, 2, 3] rfl)

set_option maxHeartbeats 4000000 in
set_option maxRecDepth 100000 in
theorem law_c6 {p : Program} {e : Env} {s : State} {m : MethodId} {below : List Frame} {meth : Method} {c : Code} (l : Launch) {bb L0 : Nat} {xs : Nat → Int32} (hL : L0 ≤ 256) (C0 : lw_At p s m meth c bb L0 xs) (D : va_G) (cI cT cN : ClassId) (hK : va_K D vwCl (cTys cI cT cN) s) (a r k g : Nat → Nat) (h : Nat) (A : Nat → Prop) (hA : ∀ q : Nat, s.heap.size ≤ q → A q) (hbA : ¬ A bb) (j : Nat) (hj : 4 * j + 4 ≤ L0) (hN : LN p l e s m below meth c bb h a r k g cI cT cN D A j) (b : Nat → Nat → Nat) (pn : Nat) (pc : Nat → Int32) (rd : Nat × Nat × Nat) (B L : Nat → Int32) (q kq : RS) (xh xi xr : Nat) (J : Nat → Int32) (hz : Int64) (G : Nat → Nat → Int32) (hLI : LI b pn xr xi xh pc q kq j) (hSR : SR b B L) (hF : MF b pn xr xi pc q kq J G) (H : Heap) (locs : List Loc) (hP : va_P D vwCl (cW a r k cI cT cN xh xi xr pn pc rd B L q kq ++ mW h g cI J hz G) H) (hD : va_D A (cW a r k cI cT cN xh xi xr pn pc rd B L q kq ++ mW h g cI J hz G)) (hS : va_S A s.heap H locs) (ls : Array Slot) (hl : lv_has ls 4 [(0, .ref bb), (1, .ref (a 0)), (2, .ref h), (3, .int (nI (4 * j)))]) : W p l e room_1 s m #[Value.ref bb] below meth c H locs 600000 7302250 (lw_Z below #[Value.ref bb] s) (F0 m 260 ls []) := by
  obtain ⟨hx, hb, hr, hml, hown, htsL, hX, hbl, hlocks, hgv⟩ := id C0
  have hts : ∀ w ∈ wAll, w.before #[Value.ref bb] s = true := fun w h => htsL w (wAll_in h)
  have hnst : ∀ w ∈ wNst, w.before #[Value.ref bb] s = true := fun w h => htsL w (wNst_in w h)
  have hown : s.vm.findClass RL = some m.cls := hown
  obtain ⟨l1, l2, l3, l4, l5, l6, l7, l8⟩ := id hLI
  have hb4 := LI_b4 hLI
  have ht5 := l3.1
  refine lv_aload_n hx hb dL_law_260 rfl (lv_at hl 1 rfl) ?_
  refine lv_aload_n hx hb dL_law_261 rfl (lv_at hl 0 rfl) ?_
  refine lv_iload_n hx hb dL_law_262 rfl (lv_at hl 3 rfl) ?_
  refine lv_iconst (v := nI 1) hx hb dL_law_263 (by decide) ?_
  refine n_iadd hx hb dL_law_264 ?_
  refine n_sld hx hb hX hbl hbA hS (i := 4 * j + 1) (by omega) (by omega) dL_law_265 ?_
  refine lv_aload_n hx hb dL_law_266 rfl (lv_at hl 0 rfl) ?_
  refine lv_iload_n hx hb dL_law_267 rfl (lv_at hl 3 rfl) ?_
  refine lv_iconst (v := nI 2) hx hb dL_law_268 (by decide) ?_
  refine n_iadd hx hb dL_law_269 ?_
  refine n_sld hx hb hX hbl hbA hS (i := 4 * j + 2) (by omega) (by omega) dL_law_270 ?_
  refine ro_iV (n := 2) (As := [.int (xs (4 * j + 1)), .int (xs (4 * j + 2))]) ⟨hx, hb, hml, hown, hts⟩ (c_X6_about l D a r k cI cT cN xh xi xr pn pc rd B L q kq b hSR l4 l3 (xs (4 * j + 1)) (xs (4 * j + 2))) (cwV 2 hts (gV mg_286 mg_287 mg_288 mg_1 mg_289) rfl rfl rfl vd_X6_about ⟨Nat.le_of_ble_eq_true rfl, Nat.le_of_ble_eq_true rfl⟩) (va_recv hK hP (ci := 6) (q0 := 0) rfl rfl) hK (vaP_l hP) rfl hl.1 rfl (Nat.le_of_ble_eq_true rfl) dL_law_271 ⟨Nat.le_of_ble_eq_true rfl, Nat.le_of_ble_eq_true rfl⟩ ?_
  refine lv_aload_n hx hb dL_law_274 rfl (lv_at hl 2 rfl) ?_
  refine lv_aload_n hx hb dL_law_275 rfl (lv_at hl 0 rfl) ?_
  refine lv_iload_n hx hb dL_law_276 rfl (lv_at hl 3 rfl) ?_
  refine lv_iconst (v := nI 1) hx hb dL_law_277 (by decide) ?_
  refine n_iadd hx hb dL_law_278 ?_
  refine n_sld hx hb hX hbl hbA hS (i := 4 * j + 1) (by omega) (by omega) dL_law_279 ?_
  refine lv_aload_n hx hb dL_law_280 rfl (lv_at hl 0 rfl) ?_
  refine lv_iload_n hx hb dL_law_281 rfl (lv_at hl 3 rfl) ?_
  refine lv_iconst (v := nI 2) hx hb dL_law_282 (by decide) ?_
  refine n_iadd hx hb dL_law_283 ?_
  refine n_sld hx hb hX hbl hbA hS (i := 4 * j + 2) (by omega) (by omega) dL_law_284 ?_
  refine ro_iV (n := 2) (As := [.int (xs (4 * j + 1)), .int (xs (4 * j + 2))]) ⟨hx, hb, hml, hown, hts⟩ (c_X7_about l D h g cI J hz G b q hF.1 l4 l3 (xs (4 * j + 1)) (xs (4 * j + 2))) (cwV 2 hts (gV mg_592 mg_593 mg_594 mg_8 mg_595) rfl rfl rfl vd_X7_about ⟨Nat.le_of_ble_eq_true rfl, Nat.le_of_ble_eq_true rfl⟩) (va_recv hK hP (ci := 7) (q0 := 39) rfl rfl) (hK.sub [0] rfl) (vaP_r (a := (cW a r k cI cT cN xh xi xr pn pc rd B L q kq)) hP) rfl hl.1 rfl (Nat.le_of_ble_eq_true rfl) dL_law_285 ⟨Nat.le_of_ble_eq_true rfl, Nat.le_of_ble_eq_true rfl⟩ ?_
  refine j_icmp_eq (tgt := 718) hx hb dL_law_288 (by decide) rfl rfl (fun c_1 => ?_) (fun c_1 => absurd c_1 (fun z => z rfl))
  exact hN b pn pc rd B L q kq xh xi xr J hz G (LI_s hLI) (hSR) (hF) _ _ hP hD hS _ (lv_sub hl [0, 1, 2, 3] rfl)

set_option maxHeartbeats 4000000 in
set_option maxRecDepth 100000 in
theorem law_c7 {p : Program} {e : Env} {s : State} {m : MethodId} {below : List Frame} {meth : Method} {c : Code} (l : Launch) {bb L0 : Nat} {xs : Nat → Int32} (hL : L0 ≤ 256) (C0 : lw_At p s m meth c bb L0 xs) (D : va_G) (cI cT cN : ClassId) (hK : va_K D vwCl (cTys cI cT cN) s) (a r k g : Nat → Nat) (h : Nat) (A : Nat → Prop) (hA : ∀ q : Nat, s.heap.size ≤ q → A q) (hbA : ¬ A bb) (j : Nat) (hj : 4 * j + 4 ≤ L0) (hN : LN p l e s m below meth c bb h a r k g cI cT cN D A j) (b : Nat → Nat → Nat) (pn : Nat) (pc : Nat → Int32) (rd : Nat × Nat × Nat) (B L : Nat → Int32) (q kq : RS) (xh xi xr : Nat) (J : Nat → Int32) (hz : Int64) (G : Nat → Nat → Int32) (hLI : LI b pn xr xi xh pc q kq j) (hSR : SR b B L) (hF : MF b pn xr xi pc q kq J G) (H : Heap) (locs : List Loc) (hP : va_P D vwCl (cW a r k cI cT cN xh xi xr pn pc rd B L q kq ++ mW h g cI J hz G) H) (hD : va_D A (cW a r k cI cT cN xh xi xr pn pc rd B L q kq ++ mW h g cI J hz G)) (hS : va_S A s.heap H locs) (ls : Array Slot) (hl : lv_has ls 4 [(0, .ref bb), (1, .ref (a 0)), (2, .ref h), (3, .int (nI (4 * j)))]) : W p l e room_1 s m #[Value.ref bb] below meth c H locs 600000 7302250 (lw_Z below #[Value.ref bb] s) (F0 m 293 ls []) := by
  obtain ⟨hx, hb, hr, hml, hown, htsL, hX, hbl, hlocks, hgv⟩ := id C0
  have hts : ∀ w ∈ wAll, w.before #[Value.ref bb] s = true := fun w h => htsL w (wAll_in h)
  have hnst : ∀ w ∈ wNst, w.before #[Value.ref bb] s = true := fun w h => htsL w (wNst_in w h)
  have hown : s.vm.findClass RL = some m.cls := hown
  obtain ⟨l1, l2, l3, l4, l5, l6, l7, l8⟩ := id hLI
  have hb4 := LI_b4 hLI
  have ht5 := l3.1
  refine lv_aload_n hx hb dL_law_293 rfl (lv_at hl 1 rfl) ?_
  refine lv_aload_n hx hb dL_law_294 rfl (lv_at hl 0 rfl) ?_
  refine lv_iload_n hx hb dL_law_295 rfl (lv_at hl 3 rfl) ?_
  refine lv_iconst (v := nI 1) hx hb dL_law_296 (by decide) ?_
  refine n_iadd hx hb dL_law_297 ?_
  refine n_sld hx hb hX hbl hbA hS (i := 4 * j + 1) (by omega) (by omega) dL_law_298 ?_
  refine lv_aload_n hx hb dL_law_299 rfl (lv_at hl 0 rfl) ?_
  refine lv_iload_n hx hb dL_law_300 rfl (lv_at hl 3 rfl) ?_
  refine lv_iconst (v := nI 2) hx hb dL_law_301 (by decide) ?_
  refine n_iadd hx hb dL_law_302 ?_
  refine n_sld hx hb hX hbl hbA hS (i := 4 * j + 2) (by omega) (by omega) dL_law_303 ?_
  refine ro_iV (n := 2) (As := [.int (xs (4 * j + 1)), .int (xs (4 * j + 2))]) ⟨hx, hb, hml, hown, hts⟩ (c_X6_as l D a r k cI cT cN xh xi xr pn pc rd B L q kq b hSR l4 l3 (xs (4 * j + 1)) (xs (4 * j + 2))) (cwV 2 hts (gV mg_336 mg_337 mg_338 mg_1 mg_339) rfl rfl rfl vd_X6_as ⟨Nat.le_of_ble_eq_true rfl, Nat.le_of_ble_eq_true rfl⟩) (va_recv hK hP (ci := 6) (q0 := 0) rfl rfl) hK (vaP_l hP) rfl hl.1 rfl (Nat.le_of_ble_eq_true rfl) dL_law_304 ⟨Nat.le_of_ble_eq_true rfl, Nat.le_of_ble_eq_true rfl⟩ ?_
  refine lv_aload_n hx hb dL_law_307 rfl (lv_at hl 2 rfl) ?_
  refine lv_aload_n hx hb dL_law_308 rfl (lv_at hl 0 rfl) ?_
  refine lv_iload_n hx hb dL_law_309 rfl (lv_at hl 3 rfl) ?_
  refine lv_iconst (v := nI 1) hx hb dL_law_310 (by decide) ?_
  refine n_iadd hx hb dL_law_311 ?_
  refine n_sld hx hb hX hbl hbA hS (i := 4 * j + 1) (by omega) (by omega) dL_law_312 ?_
  refine lv_aload_n hx hb dL_law_313 rfl (lv_at hl 0 rfl) ?_
  refine lv_iload_n hx hb dL_law_314 rfl (lv_at hl 3 rfl) ?_
  refine lv_iconst (v := nI 2) hx hb dL_law_315 (by decide) ?_
  refine n_iadd hx hb dL_law_316 ?_
  refine n_sld hx hb hX hbl hbA hS (i := 4 * j + 2) (by omega) (by omega) dL_law_317 ?_
  refine ro_iV (n := 2) (As := [.int (xs (4 * j + 1)), .int (xs (4 * j + 2))]) ⟨hx, hb, hml, hown, hts⟩ (c_X7_as l D h g cI J hz G b q hF.1 l4 l3 (xs (4 * j + 1)) (xs (4 * j + 2))) (cwV 2 hts (gV mg_636 mg_637 mg_638 mg_8 mg_639) rfl rfl rfl vd_X7_as ⟨Nat.le_of_ble_eq_true rfl, Nat.le_of_ble_eq_true rfl⟩) (va_recv hK hP (ci := 7) (q0 := 39) rfl rfl) (hK.sub [0] rfl) (vaP_r (a := (cW a r k cI cT cN xh xi xr pn pc rd B L q kq)) hP) rfl hl.1 rfl (Nat.le_of_ble_eq_true rfl) dL_law_318 ⟨Nat.le_of_ble_eq_true rfl, Nat.le_of_ble_eq_true rfl⟩ ?_
  refine j_icmp_eq (tgt := 718) hx hb dL_law_321 (by decide) rfl rfl (fun c_1 => ?_) (fun c_1 => absurd c_1 (fun z => z rfl))
  exact hN b pn pc rd B L q kq xh xi xr J hz G (LI_s hLI) (hSR) (hF) _ _ hP hD hS _ (lv_sub hl [0, 1, 2, 3] rfl)

set_option maxHeartbeats 4000000 in
set_option maxRecDepth 100000 in
theorem law_c8 {p : Program} {e : Env} {s : State} {m : MethodId} {below : List Frame} {meth : Method} {c : Code} (l : Launch) {bb L0 : Nat} {xs : Nat → Int32} (hL : L0 ≤ 256) (C0 : lw_At p s m meth c bb L0 xs) (D : va_G) (cI cT cN : ClassId) (hK : va_K D vwCl (cTys cI cT cN) s) (a r k g : Nat → Nat) (h : Nat) (A : Nat → Prop) (hA : ∀ q : Nat, s.heap.size ≤ q → A q) (hbA : ¬ A bb) (j : Nat) (hj : 4 * j + 4 ≤ L0) (hN : LN p l e s m below meth c bb h a r k g cI cT cN D A j) (b : Nat → Nat → Nat) (pn : Nat) (pc : Nat → Int32) (rd : Nat × Nat × Nat) (B L : Nat → Int32) (q kq : RS) (xh xi xr : Nat) (J : Nat → Int32) (hz : Int64) (G : Nat → Nat → Int32) (hLI : LI b pn xr xi xh pc q kq j) (hSR : SR b B L) (hF : MF b pn xr xi pc q kq J G) (H : Heap) (locs : List Loc) (hP : va_P D vwCl (cW a r k cI cT cN xh xi xr pn pc rd B L q kq ++ mW h g cI J hz G) H) (hD : va_D A (cW a r k cI cT cN xh xi xr pn pc rd B L q kq ++ mW h g cI J hz G)) (hS : va_S A s.heap H locs) (ls : Array Slot) (hl : lv_has ls 4 [(0, .ref bb), (1, .ref (a 0)), (2, .ref h), (3, .int (nI (4 * j)))]) : W p l e room_1 s m #[Value.ref bb] below meth c H locs 600000 7302250 (lw_Z below #[Value.ref bb] s) (F0 m 326 ls []) := by
  obtain ⟨hx, hb, hr, hml, hown, htsL, hX, hbl, hlocks, hgv⟩ := id C0
  have hts : ∀ w ∈ wAll, w.before #[Value.ref bb] s = true := fun w h => htsL w (wAll_in h)
  have hnst : ∀ w ∈ wNst, w.before #[Value.ref bb] s = true := fun w h => htsL w (wNst_in w h)
  have hown : s.vm.findClass RL = some m.cls := hown
  obtain ⟨l1, l2, l3, l4, l5, l6, l7, l8⟩ := id hLI
  have hb4 := LI_b4 hLI
  have ht5 := l3.1
  refine lv_aload_n hx hb dL_law_326 rfl (lv_at hl 1 rfl) ?_
  refine lv_aload_n hx hb dL_law_327 rfl (lv_at hl 0 rfl) ?_
  refine lv_iload_n hx hb dL_law_328 rfl (lv_at hl 3 rfl) ?_
  refine lv_iconst (v := nI 1) hx hb dL_law_329 (by decide) ?_
  refine n_iadd hx hb dL_law_330 ?_
  refine n_sld hx hb hX hbl hbA hS (i := 4 * j + 1) (by omega) (by omega) dL_law_331 ?_
  refine lv_aload_n hx hb dL_law_332 rfl (lv_at hl 0 rfl) ?_
  refine lv_iload_n hx hb dL_law_333 rfl (lv_at hl 3 rfl) ?_
  refine lv_iconst (v := nI 2) hx hb dL_law_334 (by decide) ?_
  refine n_iadd hx hb dL_law_335 ?_
  refine n_sld hx hb hX hbl hbA hS (i := 4 * j + 2) (by omega) (by omega) dL_law_336 ?_
  refine ro_iV (n := 2) (As := [.int (xs (4 * j + 1)), .int (xs (4 * j + 2))]) ⟨hx, hb, hml, hown, hts⟩ (c_X6_drip l D a r k cI cT cN xh xi xr pn pc rd B L q kq b hSR l4 l3 (xs (4 * j + 1)) (xs (4 * j + 2))) (cwV 2 hts (gV mg_340 mg_341 mg_342 mg_1 mg_343) rfl rfl rfl vd_X6_drip ⟨Nat.le_of_ble_eq_true rfl, Nat.le_of_ble_eq_true rfl⟩) (va_recv hK hP (ci := 6) (q0 := 0) rfl rfl) hK (vaP_l hP) rfl hl.1 rfl (Nat.le_of_ble_eq_true rfl) dL_law_337 ⟨Nat.le_of_ble_eq_true rfl, Nat.le_of_ble_eq_true rfl⟩ ?_
  refine lv_aload_n hx hb dL_law_340 rfl (lv_at hl 2 rfl) ?_
  refine lv_aload_n hx hb dL_law_341 rfl (lv_at hl 0 rfl) ?_
  refine lv_iload_n hx hb dL_law_342 rfl (lv_at hl 3 rfl) ?_
  refine lv_iconst (v := nI 1) hx hb dL_law_343 (by decide) ?_
  refine n_iadd hx hb dL_law_344 ?_
  refine n_sld hx hb hX hbl hbA hS (i := 4 * j + 1) (by omega) (by omega) dL_law_345 ?_
  refine lv_aload_n hx hb dL_law_346 rfl (lv_at hl 0 rfl) ?_
  refine lv_iload_n hx hb dL_law_347 rfl (lv_at hl 3 rfl) ?_
  refine lv_iconst (v := nI 2) hx hb dL_law_348 (by decide) ?_
  refine n_iadd hx hb dL_law_349 ?_
  refine n_sld hx hb hX hbl hbA hS (i := 4 * j + 2) (by omega) (by omega) dL_law_350 ?_
  refine ro_iV (n := 2) (As := [.int (xs (4 * j + 1)), .int (xs (4 * j + 2))]) ⟨hx, hb, hml, hown, hts⟩ (c_X7_drip l D h g cI J hz G b q hF.1 l4 l3 (xs (4 * j + 1)) (xs (4 * j + 2))) (cwV 2 hts (gV mg_640 mg_641 mg_642 mg_8 mg_643) rfl rfl rfl vd_X7_drip ⟨Nat.le_of_ble_eq_true rfl, Nat.le_of_ble_eq_true rfl⟩) (va_recv hK hP (ci := 7) (q0 := 39) rfl rfl) (hK.sub [0] rfl) (vaP_r (a := (cW a r k cI cT cN xh xi xr pn pc rd B L q kq)) hP) rfl hl.1 rfl (Nat.le_of_ble_eq_true rfl) dL_law_351 ⟨Nat.le_of_ble_eq_true rfl, Nat.le_of_ble_eq_true rfl⟩ ?_
  refine j_icmp_eq (tgt := 718) hx hb dL_law_354 (by decide) rfl rfl (fun c_1 => ?_) (fun c_1 => absurd c_1 (fun z => z rfl))
  exact hN b pn pc rd B L q kq xh xi xr J hz G (LI_s hLI) (hSR) (hF) _ _ hP hD hS _ (lv_sub hl [0, 1, 2, 3] rfl)

set_option maxHeartbeats 4000000 in
set_option maxRecDepth 100000 in
theorem law_c12 {p : Program} {e : Env} {s : State} {m : MethodId} {below : List Frame} {meth : Method} {c : Code} (l : Launch) {bb L0 : Nat} {xs : Nat → Int32} (hL : L0 ≤ 256) (C0 : lw_At p s m meth c bb L0 xs) (D : va_G) (cI cT cN : ClassId) (hK : va_K D vwCl (cTys cI cT cN) s) (a r k g : Nat → Nat) (h : Nat) (A : Nat → Prop) (hA : ∀ q : Nat, s.heap.size ≤ q → A q) (hbA : ¬ A bb) (j : Nat) (hj : 4 * j + 4 ≤ L0) (hN : LN p l e s m below meth c bb h a r k g cI cT cN D A j) (b : Nat → Nat → Nat) (pn : Nat) (pc : Nat → Int32) (rd : Nat × Nat × Nat) (B L : Nat → Int32) (q kq : RS) (xh xi xr : Nat) (J : Nat → Int32) (hz : Int64) (G : Nat → Nat → Int32) (hLI : LI b pn xr xi xh pc q kq j) (hSR : SR b B L) (hF : MF b pn xr xi pc q kq J G) (H : Heap) (locs : List Loc) (hP : va_P D vwCl (cW a r k cI cT cN xh xi xr pn pc rd B L q kq ++ mW h g cI J hz G) H) (hD : va_D A (cW a r k cI cT cN xh xi xr pn pc rd B L q kq ++ mW h g cI J hz G)) (hS : va_S A s.heap H locs) (ls : Array Slot) (hl : lv_has ls 4 [(0, .ref bb), (1, .ref (a 0)), (2, .ref h), (3, .int (nI (4 * j)))]) : W p l e room_1 s m #[Value.ref bb] below meth c H locs 600000 7302250 (lw_Z below #[Value.ref bb] s) (F0 m 464 ls []) := by
  obtain ⟨hx, hb, hr, hml, hown, htsL, hX, hbl, hlocks, hgv⟩ := id C0
  have hts : ∀ w ∈ wAll, w.before #[Value.ref bb] s = true := fun w h => htsL w (wAll_in h)
  have hnst : ∀ w ∈ wNst, w.before #[Value.ref bb] s = true := fun w h => htsL w (wNst_in w h)
  have hown : s.vm.findClass RL = some m.cls := hown
  obtain ⟨l1, l2, l3, l4, l5, l6, l7, l8⟩ := id hLI
  have hb4 := LI_b4 hLI
  have ht5 := l3.1
  refine lv_aload_n hx hb dL_law_464 rfl (lv_at hl 1 rfl) ?_
  refine lv_aload_n hx hb dL_law_465 rfl (lv_at hl 0 rfl) ?_
  refine lv_iload_n hx hb dL_law_466 rfl (lv_at hl 3 rfl) ?_
  refine lv_iconst (v := nI 1) hx hb dL_law_467 (by decide) ?_
  refine n_iadd hx hb dL_law_468 ?_
  refine n_sld hx hb hX hbl hbA hS (i := 4 * j + 1) (by omega) (by omega) dL_law_469 ?_
  refine lv_aload_n hx hb dL_law_470 rfl (lv_at hl 0 rfl) ?_
  refine lv_iload_n hx hb dL_law_471 rfl (lv_at hl 3 rfl) ?_
  refine lv_iconst (v := nI 2) hx hb dL_law_472 (by decide) ?_
  refine n_iadd hx hb dL_law_473 ?_
  refine n_sld hx hb hX hbl hbA hS (i := 4 * j + 2) (by omega) (by omega) dL_law_474 ?_
  refine ro_iV (n := 2) (As := [.int (xs (4 * j + 1)), .int (xs (4 * j + 2))]) ⟨hx, hb, hml, hown, hts⟩ (c_X6_agree l D a r k cI cT cN xh xi xr pn pc rd B L q kq b hSR l4 l3 (xs (4 * j + 1)) (xs (4 * j + 2))) (cwV 2 hts (gV mg_360 mg_361 mg_362 mg_1 mg_363) rfl rfl rfl vd_X6_agree ⟨Nat.le_of_ble_eq_true rfl, Nat.le_of_ble_eq_true rfl⟩) (va_recv hK hP (ci := 6) (q0 := 0) rfl rfl) hK (vaP_l hP) rfl hl.1 rfl (Nat.le_of_ble_eq_true rfl) dL_law_475 ⟨Nat.le_of_ble_eq_true rfl, Nat.le_of_ble_eq_true rfl⟩ ?_
  refine lv_aload_n hx hb dL_law_478 rfl (lv_at hl 2 rfl) ?_
  refine lv_aload_n hx hb dL_law_479 rfl (lv_at hl 0 rfl) ?_
  refine lv_iload_n hx hb dL_law_480 rfl (lv_at hl 3 rfl) ?_
  refine lv_iconst (v := nI 1) hx hb dL_law_481 (by decide) ?_
  refine n_iadd hx hb dL_law_482 ?_
  refine n_sld hx hb hX hbl hbA hS (i := 4 * j + 1) (by omega) (by omega) dL_law_483 ?_
  refine lv_aload_n hx hb dL_law_484 rfl (lv_at hl 0 rfl) ?_
  refine lv_iload_n hx hb dL_law_485 rfl (lv_at hl 3 rfl) ?_
  refine lv_iconst (v := nI 2) hx hb dL_law_486 (by decide) ?_
  refine n_iadd hx hb dL_law_487 ?_
  refine n_sld hx hb hX hbl hbA hS (i := 4 * j + 2) (by omega) (by omega) dL_law_488 ?_
  refine ro_iV (n := 2) (As := [.int (xs (4 * j + 1)), .int (xs (4 * j + 2))]) ⟨hx, hb, hml, hown, hts⟩ (c_X7_agree l D h g cI J hz G b q hF.1 l4 l3 (xs (4 * j + 1)) (xs (4 * j + 2))) (cwV 2 hts (gV mg_661 mg_662 mg_663 mg_8 mg_664) rfl rfl rfl vd_X7_agree ⟨Nat.le_of_ble_eq_true rfl, Nat.le_of_ble_eq_true rfl⟩) (va_recv hK hP (ci := 7) (q0 := 39) rfl rfl) (hK.sub [0] rfl) (vaP_r (a := (cW a r k cI cT cN xh xi xr pn pc rd B L q kq)) hP) rfl hl.1 rfl (Nat.le_of_ble_eq_true rfl) dL_law_489 ⟨Nat.le_of_ble_eq_true rfl, Nat.le_of_ble_eq_true rfl⟩ ?_
  refine j_icmp_eq (tgt := 718) hx hb dL_law_492 (by decide) rfl rfl (fun c_1 => ?_) (fun c_1 => absurd c_1 (fun z => z rfl))
  exact hN b pn pc rd B L q kq xh xi xr J hz G (LI_s hLI) (hSR) (hF) _ _ hP hD hS _ (lv_sub hl [0, 1, 2, 3] rfl)

set_option maxHeartbeats 4000000 in
set_option maxRecDepth 100000 in
theorem law_c13 {p : Program} {e : Env} {s : State} {m : MethodId} {below : List Frame} {meth : Method} {c : Code} (l : Launch) {bb L0 : Nat} {xs : Nat → Int32} (hL : L0 ≤ 256) (C0 : lw_At p s m meth c bb L0 xs) (D : va_G) (cI cT cN : ClassId) (hK : va_K D vwCl (cTys cI cT cN) s) (a r k g : Nat → Nat) (h : Nat) (A : Nat → Prop) (hA : ∀ q : Nat, s.heap.size ≤ q → A q) (hbA : ¬ A bb) (j : Nat) (hj : 4 * j + 4 ≤ L0) (hN : LN p l e s m below meth c bb h a r k g cI cT cN D A j) (b : Nat → Nat → Nat) (pn : Nat) (pc : Nat → Int32) (rd : Nat × Nat × Nat) (B L : Nat → Int32) (q kq : RS) (xh xi xr : Nat) (J : Nat → Int32) (hz : Int64) (G : Nat → Nat → Int32) (hLI : LI b pn xr xi xh pc q kq j) (hSR : SR b B L) (hF : MF b pn xr xi pc q kq J G) (H : Heap) (locs : List Loc) (hP : va_P D vwCl (cW a r k cI cT cN xh xi xr pn pc rd B L q kq ++ mW h g cI J hz G) H) (hD : va_D A (cW a r k cI cT cN xh xi xr pn pc rd B L q kq ++ mW h g cI J hz G)) (hS : va_S A s.heap H locs) (ls : Array Slot) (hl : lv_has ls 4 [(0, .ref bb), (1, .ref (a 0)), (2, .ref h), (3, .int (nI (4 * j)))]) : W p l e room_1 s m #[Value.ref bb] below meth c H locs 600000 7302250 (lw_Z below #[Value.ref bb] s) (F0 m 497 ls []) := by
  obtain ⟨hx, hb, hr, hml, hown, htsL, hX, hbl, hlocks, hgv⟩ := id C0
  have hts : ∀ w ∈ wAll, w.before #[Value.ref bb] s = true := fun w h => htsL w (wAll_in h)
  have hnst : ∀ w ∈ wNst, w.before #[Value.ref bb] s = true := fun w h => htsL w (wNst_in w h)
  have hown : s.vm.findClass RL = some m.cls := hown
  obtain ⟨l1, l2, l3, l4, l5, l6, l7, l8⟩ := id hLI
  have hb4 := LI_b4 hLI
  have ht5 := l3.1
  refine lv_aload_n hx hb dL_law_497 rfl (lv_at hl 1 rfl) ?_
  refine lv_aload_n hx hb dL_law_498 rfl (lv_at hl 0 rfl) ?_
  refine lv_iload_n hx hb dL_law_499 rfl (lv_at hl 3 rfl) ?_
  refine lv_iconst (v := nI 1) hx hb dL_law_500 (by decide) ?_
  refine n_iadd hx hb dL_law_501 ?_
  refine n_sld hx hb hX hbl hbA hS (i := 4 * j + 1) (by omega) (by omega) dL_law_502 ?_
  refine lv_aload_n hx hb dL_law_503 rfl (lv_at hl 0 rfl) ?_
  refine lv_iload_n hx hb dL_law_504 rfl (lv_at hl 3 rfl) ?_
  refine lv_iconst (v := nI 2) hx hb dL_law_505 (by decide) ?_
  refine n_iadd hx hb dL_law_506 ?_
  refine n_sld hx hb hX hbl hbA hS (i := 4 * j + 2) (by omega) (by omega) dL_law_507 ?_
  refine lv_aload_n hx hb dL_law_508 rfl (lv_at hl 0 rfl) ?_
  refine lv_iload_n hx hb dL_law_509 rfl (lv_at hl 3 rfl) ?_
  refine lv_iconst (v := nI 3) hx hb dL_law_510 (by decide) ?_
  refine n_iadd hx hb dL_law_511 ?_
  refine n_sld hx hb hX hbl hbA hS (i := 4 * j + 3) (by omega) (by omega) dL_law_512 ?_
  refine ro_iV (n := 3) (As := [.int (xs (4 * j + 1)), .int (xs (4 * j + 2)), .int (xs (4 * j + 3))]) ⟨hx, hb, hml, hown, hts⟩ (c_X6_near l D a r k cI cT cN xh xi xr pn pc rd B L q kq b hSR l4 l3 (xs (4 * j + 1)) (xs (4 * j + 2)) (xs (4 * j + 3))) (cwV 3 hts (gV mg_364 mg_365 mg_366 mg_1 mg_367) rfl rfl rfl vd_X6_near ⟨Nat.le_of_ble_eq_true rfl, Nat.le_of_ble_eq_true rfl⟩) (va_recv hK hP (ci := 6) (q0 := 0) rfl rfl) hK (vaP_l hP) rfl hl.1 rfl (Nat.le_of_ble_eq_true rfl) dL_law_513 ⟨Nat.le_of_ble_eq_true rfl, Nat.le_of_ble_eq_true rfl⟩ ?_
  refine lv_aload_n hx hb dL_law_516 rfl (lv_at hl 2 rfl) ?_
  refine lv_aload_n hx hb dL_law_517 rfl (lv_at hl 0 rfl) ?_
  refine lv_iload_n hx hb dL_law_518 rfl (lv_at hl 3 rfl) ?_
  refine lv_iconst (v := nI 1) hx hb dL_law_519 (by decide) ?_
  refine n_iadd hx hb dL_law_520 ?_
  refine n_sld hx hb hX hbl hbA hS (i := 4 * j + 1) (by omega) (by omega) dL_law_521 ?_
  refine lv_aload_n hx hb dL_law_522 rfl (lv_at hl 0 rfl) ?_
  refine lv_iload_n hx hb dL_law_523 rfl (lv_at hl 3 rfl) ?_
  refine lv_iconst (v := nI 2) hx hb dL_law_524 (by decide) ?_
  refine n_iadd hx hb dL_law_525 ?_
  refine n_sld hx hb hX hbl hbA hS (i := 4 * j + 2) (by omega) (by omega) dL_law_526 ?_
  refine lv_aload_n hx hb dL_law_527 rfl (lv_at hl 0 rfl) ?_
  refine lv_iload_n hx hb dL_law_528 rfl (lv_at hl 3 rfl) ?_
  refine lv_iconst (v := nI 3) hx hb dL_law_529 (by decide) ?_
  refine n_iadd hx hb dL_law_530 ?_
  refine n_sld hx hb hX hbl hbA hS (i := 4 * j + 3) (by omega) (by omega) dL_law_531 ?_
  refine ro_iV (n := 3) (As := [.int (xs (4 * j + 1)), .int (xs (4 * j + 2)), .int (xs (4 * j + 3))]) ⟨hx, hb, hml, hown, hts⟩ (c_X7_near l D h g cI J hz G b q hF.1 l4 l3 (xs (4 * j + 1)) (xs (4 * j + 2)) (xs (4 * j + 3))) (cwV 3 hts (gV mg_669 mg_670 mg_671 mg_8 mg_672) rfl rfl rfl vd_X7_near ⟨Nat.le_of_ble_eq_true rfl, Nat.le_of_ble_eq_true rfl⟩) (va_recv hK hP (ci := 7) (q0 := 39) rfl rfl) (hK.sub [0] rfl) (vaP_r (a := (cW a r k cI cT cN xh xi xr pn pc rd B L q kq)) hP) rfl hl.1 rfl (Nat.le_of_ble_eq_true rfl) dL_law_532 ⟨Nat.le_of_ble_eq_true rfl, Nat.le_of_ble_eq_true rfl⟩ ?_
  refine j_icmp_eq (tgt := 718) hx hb dL_law_535 (by decide) rfl rfl (fun c_1 => ?_) (fun c_1 => absurd c_1 (fun z => z rfl))
  exact hN b pn pc rd B L q kq xh xi xr J hz G (LI_s hLI) (hSR) (hF) _ _ hP hD hS _ (lv_sub hl [0, 1, 2, 3] rfl)

set_option maxHeartbeats 4000000 in
set_option maxRecDepth 100000 in
theorem law_c19 {p : Program} {e : Env} {s : State} {m : MethodId} {below : List Frame} {meth : Method} {c : Code} (l : Launch) {bb L0 : Nat} {xs : Nat → Int32} (hL : L0 ≤ 256) (C0 : lw_At p s m meth c bb L0 xs) (D : va_G) (cI cT cN : ClassId) (hK : va_K D vwCl (cTys cI cT cN) s) (a r k g : Nat → Nat) (h : Nat) (A : Nat → Prop) (hA : ∀ q : Nat, s.heap.size ≤ q → A q) (hbA : ¬ A bb) (j : Nat) (hj : 4 * j + 4 ≤ L0) (hN : LN p l e s m below meth c bb h a r k g cI cT cN D A j) (b : Nat → Nat → Nat) (pn : Nat) (pc : Nat → Int32) (rd : Nat × Nat × Nat) (B L : Nat → Int32) (q kq : RS) (xh xi xr : Nat) (J : Nat → Int32) (hz : Int64) (G : Nat → Nat → Int32) (hLI : LI b pn xr xi xh pc q kq j) (hSR : SR b B L) (hF : MF b pn xr xi pc q kq J G) (H : Heap) (locs : List Loc) (hP : va_P D vwCl (cW a r k cI cT cN xh xi xr pn pc rd B L q kq ++ mW h g cI J hz G) H) (hD : va_D A (cW a r k cI cT cN xh xi xr pn pc rd B L q kq ++ mW h g cI J hz G)) (hS : va_S A s.heap H locs) (ls : Array Slot) (hl : lv_has ls 4 [(0, .ref bb), (1, .ref (a 0)), (2, .ref h), (3, .int (nI (4 * j)))]) : W p l e room_1 s m #[Value.ref bb] below meth c H locs 600000 7302250 (lw_Z below #[Value.ref bb] s) (F0 m 681 ls []) := by
  obtain ⟨hx, hb, hr, hml, hown, htsL, hX, hbl, hlocks, hgv⟩ := id C0
  have hts : ∀ w ∈ wAll, w.before #[Value.ref bb] s = true := fun w h => htsL w (wAll_in h)
  have hnst : ∀ w ∈ wNst, w.before #[Value.ref bb] s = true := fun w h => htsL w (wNst_in w h)
  have hown : s.vm.findClass RL = some m.cls := hown
  obtain ⟨l1, l2, l3, l4, l5, l6, l7, l8⟩ := id hLI
  have hb4 := LI_b4 hLI
  have ht5 := l3.1
  refine lv_aload_n hx hb dL_law_681 rfl (lv_at hl 1 rfl) ?_
  refine lv_aload_n hx hb dL_law_682 rfl (lv_at hl 0 rfl) ?_
  refine lv_iload_n hx hb dL_law_683 rfl (lv_at hl 3 rfl) ?_
  refine lv_iconst (v := nI 1) hx hb dL_law_684 (by decide) ?_
  refine n_iadd hx hb dL_law_685 ?_
  refine n_sld hx hb hX hbl hbA hS (i := 4 * j + 1) (by omega) (by omega) dL_law_686 ?_
  refine ro_iV (n := 1) (As := [.int (xs (4 * j + 1))]) ⟨hx, hb, hml, hown, hts⟩ (c_X6_count l D a r k cI cT cN xh xi xr pn pc rd B L q kq b hSR hb4 l3 (xs (4 * j + 1))) (cwV 1 hts (gV mg_422 mg_423 mg_424 mg_1 mg_425) rfl rfl rfl vd_X6_count ⟨Nat.le_of_ble_eq_true rfl, Nat.le_of_ble_eq_true rfl⟩) (va_recv hK hP (ci := 6) (q0 := 0) rfl rfl) hK (vaP_l hP) rfl hl.1 rfl (Nat.le_of_ble_eq_true rfl) dL_law_687 ⟨Nat.le_of_ble_eq_true rfl, Nat.le_of_ble_eq_true rfl⟩ ?_
  refine lv_aload_n hx hb dL_law_690 rfl (lv_at hl 2 rfl) ?_
  refine lv_aload_n hx hb dL_law_691 rfl (lv_at hl 0 rfl) ?_
  refine lv_iload_n hx hb dL_law_692 rfl (lv_at hl 3 rfl) ?_
  refine lv_iconst (v := nI 1) hx hb dL_law_693 (by decide) ?_
  refine n_iadd hx hb dL_law_694 ?_
  refine n_sld hx hb hX hbl hbA hS (i := 4 * j + 1) (by omega) (by omega) dL_law_695 ?_
  refine ro_iV (n := 1) (As := [.int (xs (4 * j + 1))]) ⟨hx, hb, hml, hown, hts⟩ (c_X7_count l D h g cI J hz G b q hF.1 hb4 l5 ht5 pn xr hF.2.1 hF.2.2.1 (xs (4 * j + 1))) (cwV 1 hts (gV mg_712 mg_713 mg_714 mg_8 mg_715) rfl rfl rfl vd_X7_count ⟨Nat.le_of_ble_eq_true rfl, Nat.le_of_ble_eq_true rfl⟩) (va_recv hK hP (ci := 7) (q0 := 39) rfl rfl) (hK.sub [0] rfl) (vaP_r (a := (cW a r k cI cT cN xh xi xr pn pc rd B L q kq)) hP) rfl hl.1 rfl (Nat.le_of_ble_eq_true rfl) dL_law_696 ⟨Nat.le_of_ble_eq_true rfl, Nat.le_of_ble_eq_true rfl⟩ ?_
  refine j_icmp_eq (tgt := 718) hx hb dL_law_699 (by decide) rfl rfl (fun c_1 => ?_) (fun c_1 => absurd c_1 (fun z => z rfl))
  exact hN b pn pc rd B L q kq xh xi xr J hz G (LI_s hLI) (hSR) (hF) _ _ hP hD hS _ (lv_sub hl [0, 1, 2, 3] rfl)
