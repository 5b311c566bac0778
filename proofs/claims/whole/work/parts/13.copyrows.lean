abbrev mixF (t u : Nat → Nat → Nat) (n : Nat) : Nat → Nat → Nat := fun x => if x < n then u x else t x
theorem mixF_0 {t u : Nat → Nat → Nat} : mixF t u 0 = t := by funext x; simp [mixF]
theorem mixF_s {t u : Nat → Nat → Nat} {i : Nat} : upR (mixF t u i) i (u i) = mixF t u (i + 1) := by
  funext x
  simp only [upR, mixF]
  by_cases h : x = i
  · subst h; simp
  · rw [if_neg h]
    by_cases h2 : x < i
    · rw [if_pos h2, if_pos (by omega)]
    · rw [if_neg h2, if_neg (by omega)]
theorem rr_t1 {r k : Nat → Nat} {cT cN : ClassId} {q kq : RS} {i : Nat} (h : i < 5) : (rW r cT cN q ++ rW k cT cN kq)[3 + i]? = some (tapC r q.2.2.2.1 i) := by
  match i, h with
  | 0, _ => rfl
  | 1, _ => rfl
  | 2, _ => rfl
  | 3, _ => rfl
  | 4, _ => rfl
theorem rr_t2 {r k : Nat → Nat} {cT cN : ClassId} {q kq : RS} {i : Nat} (h : i < 5) : (rW r cT cN q ++ rW k cT cN kq)[19 + i]? = some (tapC k kq.2.2.2.1 i) := by
  match i, h with
  | 0, _ => rfl
  | 1, _ => rfl
  | 2, _ => rfl
  | 3, _ => rfl
  | 4, _ => rfl
theorem rr_n1 {r k : Nat → Nat} {cT cN : ClassId} {q kq : RS} {i : Nat} (h : i < 8) : (rW r cT cN q ++ rW k cT cN kq)[8 + i]? = some (noteC r q.2.2.2.2 i) := by
  match i, h with
  | 0, _ => rfl
  | 1, _ => rfl
  | 2, _ => rfl
  | 3, _ => rfl
  | 4, _ => rfl
  | 5, _ => rfl
  | 6, _ => rfl
  | 7, _ => rfl
theorem rr_n2 {r k : Nat → Nat} {cT cN : ClassId} {q kq : RS} {i : Nat} (h : i < 8) : (rW r cT cN q ++ rW k cT cN kq)[24 + i]? = some (noteC k kq.2.2.2.2 i) := by
  match i, h with
  | 0, _ => rfl
  | 1, _ => rfl
  | 2, _ => rfl
  | 3, _ => rfl
  | 4, _ => rfl
  | 5, _ => rfl
  | 6, _ => rfl
  | 7, _ => rfl
theorem rr_setT {r k : Nat → Nat} {cT cN : ClassId} {q kq : RS} {i : Nat} (h : i < 5) (f : Nat → Nat) : (rW r cT cN q ++ rW k cT cN kq).set (3 + i) (r (3 + i), .inr (5, [.int (nI i), .int (nI (f 0)), .int (nI (f 1)), .int (nI (f 2)), .int (nI (f 3))])) = rW r cT cN (q.1, q.2.1, q.2.2.1, upR q.2.2.2.1 i f, q.2.2.2.2) ++ rW k cT cN kq := by
  match i, h with
  | 0, _ => rfl
  | 1, _ => rfl
  | 2, _ => rfl
  | 3, _ => rfl
  | 4, _ => rfl
theorem rr_setN {r k : Nat → Nat} {cT cN : ClassId} {q kq : RS} {i : Nat} (h : i < 8) (f : Nat → Nat) : (rW r cT cN q ++ rW k cT cN kq).set (8 + i) (r (8 + i), .inr (0, [.int (nI (f 0)), .int (nI (f 1)), .int (nI (f 2)), .int (nI (f 3))])) = rW r cT cN (q.1, q.2.1, q.2.2.1, q.2.2.2.1, upR q.2.2.2.2 i f) ++ rW k cT cN kq := by
  match i, h with
  | 0, _ => rfl
  | 1, _ => rfl
  | 2, _ => rfl
  | 3, _ => rfl
  | 4, _ => rfl
  | 5, _ => rfl
  | 6, _ => rfl
  | 7, _ => rfl
