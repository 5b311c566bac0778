theorem rr_setT2 {r k : Nat → Nat} {cT cN : ClassId} {q kq : RS} {i : Nat} (h : i < 5) (f : Nat → Nat) : (rW k cT cN kq ++ rW r cT cN q).set (19 + i) (r (3 + i), .inr (5, [.int (nI i), .int (nI (f 0)), .int (nI (f 1)), .int (nI (f 2)), .int (nI (f 3))])) = rW k cT cN kq ++ rW r cT cN (q.1, q.2.1, q.2.2.1, upR q.2.2.2.1 i f, q.2.2.2.2) := by
  match i, h with
  | 0, _ => rfl
  | 1, _ => rfl
  | 2, _ => rfl
  | 3, _ => rfl
  | 4, _ => rfl
theorem rr_setN2 {r k : Nat → Nat} {cT cN : ClassId} {q kq : RS} {i : Nat} (h : i < 8) (f : Nat → Nat) : (rW k cT cN kq ++ rW r cT cN q).set (24 + i) (r (8 + i), .inr (0, [.int (nI (f 0)), .int (nI (f 1)), .int (nI (f 2)), .int (nI (f 3))])) = rW k cT cN kq ++ rW r cT cN (q.1, q.2.1, q.2.2.1, q.2.2.2.1, upR q.2.2.2.2 i f) := by
  match i, h with
  | 0, _ => rfl
  | 1, _ => rfl
  | 2, _ => rfl
  | 3, _ => rfl
  | 4, _ => rfl
  | 5, _ => rfl
  | 6, _ => rfl
  | 7, _ => rfl
