/-! the law: its tables, its script, its invariant -/
theorem law_K {s : State} {args : Array Value} (hts : ∀ w ∈ wAll, w.before args s = true) (hct : ∀ w ∈ wCt ++ wNst, w.before args s = true) : ∃ (D : va_G) (cI cT cN : ClassId), va_K D vwCl (cTys cI cT cN) s := by
  obtain ⟨c0, i0, h0⟩ := u_known (C := RX0) (T := TX0) (N := 4) (n := 4) hts iX0 (hts _ mg_106)
  obtain ⟨c1, i1, h1⟩ := u_known (C := RX1) (T := TX1) (N := 3) (n := 3) hts iX1 (hts _ mg_19)
  obtain ⟨c2, i2, h2⟩ := u_known (C := RX2) (T := TX2) (N := 3) (n := 3) hts iX2 (hts _ mg_25)
  obtain ⟨c3, i3, h3⟩ := u_known (C := RX3) (T := TX3) (N := 5) (n := 5) hts iX3 (hts _ mg_66)
  obtain ⟨c4, i4, h4⟩ := u_known (C := RX4) (T := TX4) (N := 2) (n := 2) hts iX4 (hts _ mg_53)
  obtain ⟨c5, i5, h5⟩ := u_known (C := RX5) (T := TX5) (N := 5) (n := 5) hts iX5 (hts _ mg_73)
  obtain ⟨c6, i6, h6⟩ := u_known (C := RX6) (T := TX6) (N := 7) (n := 7) hts iX6 (hts _ mg_11)
  obtain ⟨c7, i7, h7⟩ := u_known (C := RX7) (T := TX7) (N := 22) (n := 22) hts iX7 (hts _ mg_457)
  obtain ⟨cI, kI, pI, a1, a2, a3⟩ := Cond.arrayClass_spec (hts _ mg_40)
  obtain ⟨pT, cT, kT, b1, _, b3, b4, b5⟩ := Cond.arrayOver_spec (hct _ (List.mem_append_left _ (List.mem_of_getElem? (i := 0) rfl)))
  obtain ⟨pN, cN, kN, d1, _, d3, d4, d5⟩ := Cond.arrayOver_spec (hct _ (List.mem_append_left _ (List.mem_of_getElem? (i := 1) rfl)))
  refine ⟨(fun k => if k = 0 then c0 else if k = 1 then c1 else if k = 2 then c2 else if k = 3 then c3 else if k = 4 then c4 else if k = 5 then c5 else if k = 6 then c6 else c7, fun k => if k = 0 then i0 else if k = 1 then i1 else if k = 2 then i2 else if k = 3 then i3 else if k = 4 then i4 else if k = 5 then i5 else if k = 6 then i6 else i7), cI, cT, cN, fun k q hq => ?_, fun k q hq => ?_⟩
  · match k, hq with
    | 0, hq => cases hq; exact h0
    | 1, hq => cases hq; exact h1
    | 2, hq => cases hq; exact h2
    | 3, hq => cases hq; exact h3
    | 4, hq => cases hq; exact h4
    | 5, hq => cases hq; exact h5
    | 6, hq => cases hq; exact h6
    | 7, hq => cases hq; exact h7
    | k + 8, hq => simp [vwCl] at hq
  · match k, hq with
    | 0, hq => cases hq; exact ⟨fun N z => ⟨(fun k h => by cases h), kI, a2, pI, a3⟩, a1⟩
    | 1, hq => cases hq; exact ⟨fun N z => ⟨(fun k h => by cases h), kT, b3, pT, b4⟩, kT, pT, b3, b4, b1, b5⟩
    | 2, hq => cases hq; exact ⟨fun N z => ⟨(fun k h => by cases h), kN, d3, pN, d4⟩, kN, pN, d3, d4, d1, d5⟩
    | k + 3, hq => simp [cTys] at hq
theorem sw31 (x : Int32) : x &&& nI 31 = nI 0 ∨ x &&& nI 31 = nI 1 ∨ x &&& nI 31 = nI 2 ∨ x &&& nI 31 = nI 3 ∨ x &&& nI 31 = nI 4 ∨ x &&& nI 31 = nI 5 ∨ x &&& nI 31 = nI 6 ∨ x &&& nI 31 = nI 7 ∨ x &&& nI 31 = nI 8 ∨ x &&& nI 31 = nI 9 ∨ x &&& nI 31 = nI 10 ∨ x &&& nI 31 = nI 11 ∨ x &&& nI 31 = nI 12 ∨ x &&& nI 31 = nI 13 ∨ x &&& nI 31 = nI 14 ∨ x &&& nI 31 = nI 15 ∨ x &&& nI 31 = nI 16 ∨ x &&& nI 31 = nI 17 ∨ x &&& nI 31 = nI 18 ∨ x &&& nI 31 = nI 19 ∨ x &&& nI 31 = nI 20 ∨ (x &&& nI 31).toInt < 0 ∨ 20 < (x &&& nI 31).toInt := by
  by_cases h : (x &&& nI 31).toInt < 0 ∨ 20 < (x &&& nI 31).toInt
  · simp only [h, or_true]
  · have h1 : 0 ≤ (x &&& nI 31).toInt := by omega
    have h2 : (x &&& nI 31).toInt ≤ 20 := by omega
    obtain ⟨j, hj, e⟩ := inr_nat (n := 21) (x := x &&& nI 31) ⟨by omega, by omega⟩ (by decide)
    rw [e]
    rcases (show j = 0 ∨ j = 1 ∨ j = 2 ∨ j = 3 ∨ j = 4 ∨ j = 5 ∨ j = 6 ∨ j = 7 ∨ j = 8 ∨ j = 9 ∨ j = 10 ∨ j = 11 ∨ j = 12 ∨ j = 13 ∨ j = 14 ∨ j = 15 ∨ j = 16 ∨ j = 17 ∨ j = 18 ∨ j = 19 ∨ j = 20 by omega) with rfl | rfl | rfl | rfl | rfl | rfl | rfl | rfl | rfl | rfl | rfl | rfl | rfl | rfl | rfl | rfl | rfl | rfl | rfl | rfl | rfl <;> simp
section LAWR
variable {p : Program} {l : Launch} {e : Env} {R : Room} {s : State} {m : MethodId} {args : Array Value} {below : List Frame} {meth : Method} {c : Code} {H : Heap} {locs : List Loc} {cells slots : Nat} {Q : State → Prop}
variable {cc : ByteArray} {pc : Nat} {ls : Array Slot} {rest : List Value} {A : Nat → Prop} {H0 : Heap} {b L : Nat} {xs : Nat → Int32}
theorem n_sld (hexec : p.tables.exec = Jvm.exec) (hb : c.code = cc) (hX : va_X b L xs s H0) (hbl : b < H0.size) (hbA : ¬ A b) (hS : va_S A H0 H locs) {i : Nat} (h1 : i < L) (h2 : L < 2 ^ 31) (hdg : decode cc pc = .ok (.iaload, 1))
    (kk : W p l e R s m args below meth c H locs cells slots Q (F0 m (pc + 1) ls (.int (xs i) :: rest))) : W p l e R s m args below meth c H locs cells slots Q (F0 m pc ls (.int (nI i) :: .ref b :: rest)) :=
  va_sld hexec hb hX hbl hbA hS (vp_in_nI h1 h2) hdg (by rw [nI_clamp (Nat.lt_trans h1 h2)]; exact kk)
theorem n_slen (hexec : p.tables.exec = Jvm.exec) (hb : c.code = cc) (hX : va_X b L xs s H0) (hbl : b < H0.size) (hbA : ¬ A b) (hS : va_S A H0 H locs) (hdg : decode cc pc = .ok (.arraylength, 1))
    (kk : W p l e R s m args below meth c H locs cells slots Q (F0 m (pc + 1) ls (.int (nI L) :: rest))) : W p l e R s m args below meth c H locs cells slots Q (F0 m pc ls (.ref b :: rest)) :=
  va_slen hexec hb hX hbl hbA hS hdg kk
end LAWR
/-- what stands between the two, at the head of the law's loop, behind n calls -/
def LI (b : Nat → Nat → Nat) (pn xr xi xh : Nat) (pc : Nat → Int32) (q kq : RS) (n : Nat) : Prop :=
  pn ≤ 30 ∧ (∀ k, k < pn → inr (pc k) 1 127) ∧ Tok q ∧ (¬ q.1 = 0 → hok b) ∧ (q.1 = 0 → ∀ v, v < 4 → b v 0 = 0) ∧ (xi = 0 ∨ (xi = 1 ∧ Tok kq ∧ ¬ kq.1 = 0 ∧ ¬ q.1 = 0)) ∧ xr ≤ n ∧ xh = (if q.1 = 0 then 0 else 1)
theorem LI_b4 {b : Nat → Nat → Nat} {pn xr xi xh n : Nat} {pc : Nat → Int32} {q kq : RS} (h : LI b pn xr xi xh pc q kq n) : ∀ v, v < 4 → b v 0 ≤ 4 := by
  intro v hv
  by_cases h0 : q.1 = 0
  · rw [h.2.2.2.2.1 h0 v hv]; decide
  · exact (h.2.2.2.1 h0 v hv).2.1
theorem LI_0 : LI (fun _ _ => 0) 0 0 0 0 (fun _ => nI 0) (0, 0, nI 0, (fun _ _ => 0), (fun _ _ => 0)) (0, 0, nI 0, (fun _ _ => 0), (fun _ _ => 0)) 0 :=
  ⟨by decide, fun k h => absurd h (Nat.not_lt_zero k), ⟨by decide, by decide, fun i h => absurd h (Nat.not_lt_zero i), fun i h => absurd h (Nat.not_lt_zero i)⟩, fun h => absurd rfl h, fun _ _ _ => rfl, Or.inl rfl, by decide, rfl⟩
theorem LI_s {b : Nat → Nat → Nat} {pn xr xi xh n : Nat} {pc : Nat → Int32} {q kq : RS} (h : LI b pn xr xi xh pc q kq n) : LI b pn xr xi xh pc q kq (n + 1) := ⟨h.1, h.2.1, h.2.2.1, h.2.2.2.1, h.2.2.2.2.1, h.2.2.2.2.2.1, Nat.le_succ_of_le h.2.2.2.2.2.2.1, h.2.2.2.2.2.2.2⟩
theorem SR_init : SR (fun _ _ => 0) (fun _ => nI 0) (fun _ => nI 0) := fun v _ => ⟨rfl, fun h => absurd h (Nat.lt_irrefl 0)⟩
theorem MF_init : MF (fun _ _ => 0) 0 0 0 (fun _ => nI 0) (0, 0, nI 0, (fun _ _ => 0), (fun _ _ => 0)) (0, 0, nI 0, (fun _ _ => 0), (fun _ _ => 0)) (fun k => if k = 15 then (-1) else nI 0) (fun _ _ => nI 0) :=
  ⟨⟨rfl, rfl, rfl, fun v _ j hj => rfl, fun i h => absurd h (Nat.not_lt_zero i), fun i h => absurd h (Nat.not_lt_zero i)⟩, rfl, rfl, rfl, fun h => absurd h (by decide), fun _ => by decide⟩
section LIW
variable {b : Nat → Nat → Nat} {pn xr xi xh n i : Nat} {pc : Nat → Int32} {q kq : RS}
theorem Tok_row (h : Tok q) {f : Nat → Nat} {c : Int32} (f0 : f 0 < 5) (f1 : f 1 < 4) (f2 : f 2 ≤ 1) (f3 : f 3 ≤ 60) : Tok (q.1, q.2.1, c, upR q.2.2.2.1 i f, q.2.2.2.2) := by
  refine ⟨h.1, h.2.1, fun x hx => ?_, h.2.2.2⟩
  show upR q.2.2.2.1 i f x 0 < 5 ∧ upR q.2.2.2.1 i f x 1 < 4 ∧ upR q.2.2.2.1 i f x 2 ≤ 1 ∧ upR q.2.2.2.1 i f x 3 ≤ 60
  by_cases e : x = i
  · subst e; rw [upR_s]; exact ⟨f0, f1, f2, f3⟩
  · rw [upR_n e]; exact h.2.2.1 x hx
theorem Tok_new (h : Tok q) {kd v : Nat} (h5 : ¬ q.1 = 5) (hk : kd < 5) (hv : v < 4) : Tok (q.1 + 1, q.2.1, q.2.2.1, upR q.2.2.2.1 q.1 (rw4 kd v 0 0), q.2.2.2.2) := by
  refine ⟨by have := h.1; show q.1 + 1 ≤ 5; omega, h.2.1, fun x hx => ?_, fun x hx => ⟨Nat.lt_succ_of_lt (h.2.2.2 x hx).1, (h.2.2.2 x hx).2⟩⟩
  show upR q.2.2.2.1 q.1 (rw4 kd v 0 0) x 0 < 5 ∧ upR q.2.2.2.1 q.1 (rw4 kd v 0 0) x 1 < 4 ∧ upR q.2.2.2.1 q.1 (rw4 kd v 0 0) x 2 ≤ 1 ∧ upR q.2.2.2.1 q.1 (rw4 kd v 0 0) x 3 ≤ 60
  by_cases e : x = q.1
  · subst e; rw [upR_s]; exact ⟨hk, hv, Nat.zero_le _, Nat.zero_le _⟩
  · rw [upR_n e]; exact h.2.2.1 x (by have hx : x < q.1 + 1 := hx; omega)
theorem Tok_note (h : Tok q) {d x : Nat} (h8 : ¬ q.2.1 = 8) (hi : i < q.1) (hd : d < 60) (hx : x ≤ 1) : Tok (q.1, q.2.1 + 1, q.2.2.1, q.2.2.2.1, upR q.2.2.2.2 q.2.1 (rw4 i d x (q.2.2.2.1 i 2))) := by
  refine ⟨h.1, by have := h.2.1; show q.2.1 + 1 ≤ 8; omega, h.2.2.1, fun y hy => ?_⟩
  show upR q.2.2.2.2 q.2.1 (rw4 i d x (q.2.2.2.1 i 2)) y 0 < q.1 ∧ upR q.2.2.2.2 q.2.1 (rw4 i d x (q.2.2.2.1 i 2)) y 1 < 60 ∧ upR q.2.2.2.2 q.2.1 (rw4 i d x (q.2.2.2.1 i 2)) y 2 ≤ 1 ∧ upR q.2.2.2.2 q.2.1 (rw4 i d x (q.2.2.2.1 i 2)) y 3 ≤ 1
  by_cases e : y = q.2.1
  · subst e; rw [upR_s]; exact ⟨hi, hd, hx, (h.2.2.1 i hi).2.2.1⟩
  · rw [upR_n e]; exact h.2.2.2 y (by have hy : y < q.2.1 + 1 := hy; omega)
theorem Tok_im (h : Tok q) : Tok (imK q kq) := by
  refine ⟨h.1, h.2.1, fun x hx => ?_, fun x hx => ?_⟩
  · have hx : x < q.1 := hx
    show mixF kq.2.2.2.1 q.2.2.2.1 q.1 x 0 < 5 ∧ mixF kq.2.2.2.1 q.2.2.2.1 q.1 x 1 < 4 ∧ mixF kq.2.2.2.1 q.2.2.2.1 q.1 x 2 ≤ 1 ∧ mixF kq.2.2.2.1 q.2.2.2.1 q.1 x 3 ≤ 60
    rw [show mixF kq.2.2.2.1 q.2.2.2.1 q.1 x = q.2.2.2.1 x from if_pos hx]
    exact h.2.2.1 x hx
  · have hx : x < q.2.1 := hx
    show mixF kq.2.2.2.2 q.2.2.2.2 q.2.1 x 0 < q.1 ∧ mixF kq.2.2.2.2 q.2.2.2.2 q.2.1 x 1 < 60 ∧ mixF kq.2.2.2.2 q.2.2.2.2 q.2.1 x 2 ≤ 1 ∧ mixF kq.2.2.2.2 q.2.2.2.2 q.2.1 x 3 ≤ 1
    rw [show mixF kq.2.2.2.2 q.2.2.2.2 q.2.1 x = q.2.2.2.2 x from if_pos hx]
    exact h.2.2.2 x hx
theorem LI_letter (h : LI b pn xr xi xh pc q kq n) {c : Int32} (hc : inr c 1 127) (h30 : pn < 30) : LI b (pn + 1) xr xi xh (upd pc pn c) q kq (n + 1) := by
  obtain ⟨h1, h2, h3, h4, h5, h6, h7, h8⟩ := h
  refine ⟨by omega, fun k hk => ?_, h3, h4, h5, h6, Nat.le_succ_of_le h7, h8⟩
  by_cases e : k = pn
  · subst e; rw [fr_upd]; exact hc
  · rw [fr_updn e]; exact h2 k (by omega)
theorem LI_blank (h : LI b pn xr xi xh pc q kq n) : LI b 0 xr xi xh pc q kq (n + 1) := by
  obtain ⟨h1, h2, h3, h4, h5, h6, h7, h8⟩ := h
  exact ⟨by decide, fun k hk => absurd hk (Nat.not_lt_zero k), h3, h4, h5, h6, Nat.le_succ_of_le h7, h8⟩
/-- the same taps' number, all else of the room new -/
theorem LI_q (h : LI b pn xr xi xh pc q kq n) {q' : RS} (e : q'.1 = q.1) (hT : Tok q') : LI b pn xr xi xh pc q' kq (n + 1) := by
  obtain ⟨h1, h2, h3, h4, h5, h6, h7, h8⟩ := h
  refine ⟨h1, h2, hT, ?_, ?_, ?_, Nat.le_succ_of_le h7, ?_⟩ <;> rw [e] <;> assumption
theorem LI_tap (h : LI b pn xr xi xh pc q kq n) {q' : RS} (h0 : ¬ q.1 = 0) (e : ¬ q'.1 = 0) (hT : Tok q') : LI b pn xr xi xh pc q' kq (n + 1) := by
  obtain ⟨h1, h2, h3, h4, h5, h6, h7, h8⟩ := h
  exact ⟨h1, h2, hT, fun _ => h4 h0, fun y => absurd y e, h6.elim Or.inl (fun y => Or.inr ⟨y.1, y.2.1, y.2.2.1, e⟩), Nat.le_succ_of_le h7, by rw [if_neg e]; rw [if_neg h0] at h8; exact h8⟩
theorem LI_image (h : LI b pn xr xi xh pc q kq n) (h0 : ¬ q.1 = 0) : LI b pn xr 1 xh pc q (imK q kq) (n + 1) := by
  obtain ⟨h1, h2, h3, h4, h5, h6, h7, h8⟩ := h
  exact ⟨h1, h2, h3, h4, h5, Or.inr ⟨rfl, Tok_im h3, h0, h0⟩, Nat.le_succ_of_le h7, h8⟩
theorem LI_house (h : LI b pn xr xi xh pc q kq n) (hH : isH (pf pc) pn) : LI (pb (pf pc) pn) 0 (xr + 1) 0 1 pc ((rdZ (pf pc) pn).2.1, 0, nI 0, pt (pf pc) q.2.2.2.1 pn, q.2.2.2.2) kq (n + 1) := by
  obtain ⟨h1, h2, h3, h4, h5, h6, h7, h8⟩ := h
  obtain ⟨k1, k2, k3, k4⟩ := isH_hok (t := q.2.2.2.1) hH
  have h0 : ¬ (rdZ (pf pc) pn).2.1 = 0 := by omega
  refine ⟨by decide, fun k hk => absurd hk (Nat.not_lt_zero k), ⟨by show (rdZ (pf pc) pn).2.1 ≤ 5; omega, Nat.zero_le _, fun x hx => ?_, fun x hx => absurd hx (Nat.not_lt_zero x)⟩, fun _ => k1, fun y => absurd y h0, Or.inl rfl, Nat.succ_le_succ h7, (if_neg h0).symm⟩
  obtain ⟨a0, a1, a2, a3⟩ := k4 x hx
  exact ⟨a0, a1, by show pt (pf pc) q.2.2.2.1 pn x 2 ≤ 1; omega, by show pt (pf pc) q.2.2.2.1 pn x 3 ≤ 60; omega⟩
end LIW
