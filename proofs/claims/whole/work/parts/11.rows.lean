abbrev upR (t : Nat → Nat → Nat) (i : Nat) (f : Nat → Nat) : Nat → Nat → Nat := fun x => if x = i then f else t x
abbrev rw4 (a b c d : Nat) : Nat → Nat := fun y => if y = 0 then a else if y = 1 then b else if y = 2 then c else d
theorem rW_setT {r : Nat → Nat} {cT cN : ClassId} {q : RS} {i : Nat} (h : i < 5) (f : Nat → Nat) : (rW r cT cN q).set (3 + i) (r (3 + i), .inr (5, [.int (nI i), .int (nI (f 0)), .int (nI (f 1)), .int (nI (f 2)), .int (nI (f 3))])) = rW r cT cN (q.1, q.2.1, q.2.2.1, upR q.2.2.2.1 i f, q.2.2.2.2) := by
  match i, h with
  | 0, _ => rfl
  | 1, _ => rfl
  | 2, _ => rfl
  | 3, _ => rfl
  | 4, _ => rfl
theorem rW_setN {r : Nat → Nat} {cT cN : ClassId} {q : RS} {i : Nat} (h : i < 8) (f : Nat → Nat) : (rW r cT cN q).set (8 + i) (r (8 + i), .inr (0, [.int (nI (f 0)), .int (nI (f 1)), .int (nI (f 2)), .int (nI (f 3))])) = rW r cT cN (q.1, q.2.1, q.2.2.1, q.2.2.2.1, upR q.2.2.2.2 i f) := by
  match i, h with
  | 0, _ => rfl
  | 1, _ => rfl
  | 2, _ => rfl
  | 3, _ => rfl
  | 4, _ => rfl
  | 5, _ => rfl
  | 6, _ => rfl
  | 7, _ => rfl
theorem cW_setT {a r k : Nat → Nat} {cI cT cN : ClassId} {hh hi hr pn : Nat} {pc : Nat → Int32} {rd : Nat × Nat × Nat} {B L : Nat → Int32} {q kq : RS} {i : Nat} (h : i < 5) (f : Nat → Nat) : (cW a r k cI cT cN hh hi hr pn pc rd B L q kq).set (10 + i) (r (3 + i), .inr (5, [.int (nI i), .int (nI (f 0)), .int (nI (f 1)), .int (nI (f 2)), .int (nI (f 3))])) = cW a r k cI cT cN hh hi hr pn pc rd B L (q.1, q.2.1, q.2.2.1, upR q.2.2.2.1 i f, q.2.2.2.2) kq := by
  match i, h with
  | 0, _ => rfl
  | 1, _ => rfl
  | 2, _ => rfl
  | 3, _ => rfl
  | 4, _ => rfl
section FRS
variable {p : Program} {l : Launch} {e : Env} {R : Room} {s : State} {m : MethodId} {args : Array Value} {below : List Frame} {meth : Method} {c : Code} {H : Heap} {locs : List Loc} {cells slots : Nat} {Q : State → Prop}
variable {cc : ByteArray} {pc : Nat} {ls : Array Slot} {rest st : List Value} {D : va_G} {tys : List (ClassId × FieldType)} {ws X Y : va_W} {Ts cw : List Cond} {own C : String} {y : MethodName} {bytes : ByteArray} {maxL index n nL : Nat} {ret : Option FieldType} {rm : Room} {b : Nat} {As : List Value} {A0 : Nat → Prop} {H0 : Heap}
theorem fr_split {w : va_W} {k : Nat} {x : Nat × va_E} (h : w[k]? = some x) : w = w.take k ++ ([x] ++ w.drop (k + 1)) := by
  have hk := (List.getElem?_eq_some_iff.mp h).1
  have hx := (List.getElem?_eq_some_iff.mp h).2
  have := List.set_eq_take_append_cons_drop (l := w) (i := k) (a := x)
  rw [if_pos hk] at this
  rw [← hx] at this ⊢
  rw [List.set_getElem_self] at this
  exact this
/-- a call of a method that writes one cell, wherever it stands -/
theorem rw_vV1 {S : Type} {post : S → Prop} {e0 : va_E} {e1 : S → va_E} {w : va_W} (k0 : Nat) (he : w[k0]? = some (b, e0)) (hS9 : CallFix p m c cc nL s args Ts own) (hM : WV l y cw rm D tys [(b, e0)] H.size (.ref b :: As) post (fun u => [(b, e1 u)])) (hc : CallW R s args own C index y bytes maxL ret cw rm 0 0 n) (hrecv : ∃ cellB : Cell, H[b]? = some cellB ∧ cellB.vm.isStatics = false ∧ s.vm.findClass C = some cellB.cls) (hK : va_K D vwCl tys s) (hP : va_P D vwCl w H) (hD : va_D A0 w) (hS : va_S A0 H0 H locs) (hA : ∀ q, H0.size ≤ q → A0 q) (hn : As.length = n) (hsize : ls.size = nL) (hst : st = As.reverse ++ .ref b :: rest) (hW : (rest.map fun v => v.category).sum ≤ 8) (hdg : decode cc pc = .ok (.invokevirtual index, 3)) (hf : cells ≤ R.cells ∧ slots ≤ R.slots) (k : ∀ (u : S) (H1 : Heap) (locs1 : List Loc), post u → va_P D vwCl (w.set k0 (b, e1 u)) H1 → va_D A0 (w.set k0 (b, e1 u)) → va_S A0 H0 H1 locs1 → W p l e R s m args below meth c H1 locs1 cells slots Q (F0 m (pc + 3) ls rest)) : W p l e R s m args below meth c H locs cells slots Q (F0 m pc ls st) := by
  have hs := fr_split he
  have hk := (List.getElem?_eq_some_iff.mp he).1
  have h2 : ∀ x : Nat × va_E, w.set k0 x = w.take k0 ++ ([x] ++ w.drop (k0 + 1)) := fun x => by
    rw [List.set_eq_take_append_cons_drop, if_pos hk]; rfl
  refine rw_vV (X := w.take k0) (Y := w.drop (k0 + 1)) hS9 hM hc hrecv hK (by rw [← hs]; exact hP) (by rw [← hs]; exact hD) hS hA hn hsize hst hW hdg hf (fun u H1 l1 hp hP1 hD1 hS1 => k u H1 l1 hp (by rw [h2]; exact hP1) (by rw [h2]; exact hD1) hS1)
end FRS
