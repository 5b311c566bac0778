theorem cpw_x {w : va_W} {k1 k2 : Nat} {c e : Nat × va_E} (hk : k1 ≠ k2) (h1 : w[k1]? = some e) : (w.set k2 c)[k1]? = some e := by rw [List.getElem?_set_ne (Ne.symm hk)]; exact h1
theorem cpw_y {w : va_W} {k2 : Nat} {c e : Nat × va_E} (h2 : w[k2]? = some e) : (w.set k2 c)[k2]? = some c := List.getElem?_set_self (List.getElem?_eq_some_iff.mp h2).1
theorem cpw_self {w : va_W} {k2 : Nat} {c : Nat × va_E} (h2 : w[k2]? = some c) : w.set k2 c = w := by
  obtain ⟨hk, rfl⟩ := List.getElem?_eq_some_iff.mp h2
  exact List.set_getElem_self hk
theorem cpw_0 {w : va_W} {k2 n y : Nat} {cI : ClassId} {f f2 : Nat → Int32} (h2 : w[k2]? = some (y, .inl (cI, n, .inl f2))) : w = w.set k2 (y, .inl (cI, n, .inl (cpyF f f2 0))) := by rw [cpyF_0, cpw_self h2]
theorem cpw_s {w : va_W} {k2 n y i : Nat} {cI : ClassId} {f f2 : Nat → Int32} : (w.set k2 (y, .inl (cI, n, .inl (cpyF f f2 i)))).set k2 (y, .inl (cI, n, .inl (upd (cpyF f f2 i) i (f i)))) = w.set k2 (y, .inl (cI, n, .inl (cpyF f f2 (i + 1)))) := by rw [List.set_set, cpyF_s]
theorem kr_row {R R2 : Nat → Int32} {t t2 : Nat → Nat → Nat} {n N9 : Nat} (h : ∀ i, i < n → ∀ k, k < 4 → R (4 * i + k) = nI (t i k)) (hn : 4 * n ≤ N9) : ∀ i, i < n → ∀ k, k < 4 → cpyF R R2 N9 (4 * i + k) = nI (mixF t2 t n i k) := by
  intro i hi k hk
  show (if 4 * i + k < N9 then R (4 * i + k) else _) = nI ((if i < n then t i else t2 i) k)
  rw [if_pos (by omega), if_pos hi, h i hi k hk]
