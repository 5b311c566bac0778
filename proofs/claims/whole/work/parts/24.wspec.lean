/-! what the writing calls do -/
def KR (kq : RS) (J : Nat → Int32) (G : Nat → Nat → Int32) : Prop :=
  J 16 = nI kq.1 ∧ J 17 = kq.2.2.1 ∧ J 18 = nI kq.2.1 ∧ (∀ i, i < kq.1 → ∀ k, k < 4 → G 19 (4 * i + k) = nI (kq.2.2.2.1 i k)) ∧ (∀ i, i < kq.2.1 → ∀ k, k < 4 → G 20 (4 * i + k) = nI (kq.2.2.2.2 i k))
def MF (b : Nat → Nat → Nat) (pn xr xi : Nat) (pc : Nat → Int32) (q kq : RS) (J : Nat → Int32) (G : Nat → Nat → Int32) : Prop :=
  MR b q J G ∧ J 1 = nI pn ∧ J 9 = nI xr ∧ G 0 = pc ∧ (xi = 1 → J 15 = nI xr ∧ KR kq J G) ∧ (xi = 0 → (J 15).toInt < (xr : Int))
def sp_letter (pn : Nat) (pc : Nat → Int32) (c : Int32) : Int32 × Nat × (Nat → Int32) :=
  if inr c 1 127 then (if pn = 30 then (-104, pn, pc) else (nI (pn + 1), pn + 1, upd pc pn c)) else (-102, pn, pc)
def sp_tap (q : RS) (x w : Int32) : Int32 × RS :=
  if inr x 0 5 ∧ inr w 0 4 then (if q.1 = 0 then (-103, q) else if q.1 = 5 then (-104, q) else (nI q.1, (q.1 + 1, q.2.1, q.2.2.1, upR q.2.2.2.1 q.1 (rw4 (ti x) (ti w) 0 0), q.2.2.2.2))) else (-102, q)
def sp_listen (b : Nat → Nat → Nat) (q : RS) (x : Int32) : Int32 × RS :=
  if inr x 0 q.1 then (if q.2.2.2.1 (ti x) 3 = 60 then (-103, q) else (nI (sd b (q.2.2.2.1 (ti x) 0) (q.2.2.2.1 (ti x) 2) (q.2.2.2.1 (ti x) 1) (q.2.2.2.1 (ti x) 3)), (q.1, q.2.1, q.2.2.1 + nI 1, upR q.2.2.2.1 (ti x) (rw4 (q.2.2.2.1 (ti x) 0) (q.2.2.2.1 (ti x) 1) (q.2.2.2.1 (ti x) 2) (q.2.2.2.1 (ti x) 3 + 1)), q.2.2.2.2))) else (-101, q)
def sp_washer (q : RS) (x : Int32) (z : Nat) : Int32 × RS :=
  if inr x 0 q.1 then (nI (q.2.2.2.1 (ti x) 2), (q.1, q.2.1, q.2.2.1 + nI 1, upR q.2.2.2.1 (ti x) (rw4 (q.2.2.2.1 (ti x) 0) (q.2.2.2.1 (ti x) 1) z (q.2.2.2.1 (ti x) 3)), q.2.2.2.2)) else (-101, q)
def sp_teach (q : RS) (x w : Int32) : Int32 × RS :=
  if inr x 0 q.1 then (if inr w 0 4 then (nI (q.2.2.2.1 (ti x) 1), (q.1, q.2.1, q.2.2.1 + nI 1, upR q.2.2.2.1 (ti x) (rw4 (q.2.2.2.1 (ti x) 0) (ti w) (q.2.2.2.1 (ti x) 2) (q.2.2.2.1 (ti x) 3)), q.2.2.2.2)) else (-102, q)) else (-101, q)
def sp_put (q : RS) (x w : Int32) (z : Nat) : Int32 × RS :=
  if inr x 0 q.1 then (if inr w 0 60 then (if q.2.1 = 8 then (-104, q) else (nI (q.2.1 + 1), (q.1, q.2.1 + 1, q.2.2.1, q.2.2.2.1, upR q.2.2.2.2 q.2.1 (rw4 (ti x) (ti w) z (q.2.2.2.1 (ti x) 2))))) else (-102, q)) else (-101, q)
abbrev imK (q kq : RS) : RS := (q.1, q.2.1, q.2.2.1, mixF kq.2.2.2.1 q.2.2.2.1 q.1, mixF kq.2.2.2.2 q.2.2.2.2 q.2.1)
abbrev cpyF (f f2 : Nat → Int32) (i : Nat) : Nat → Int32 := fun k => if k < i then f k else f2 k
theorem cpyF_0 {f f2 : Nat → Int32} : cpyF f f2 0 = f2 := by funext k; simp [cpyF]
theorem cpyF_s {f f2 : Nat → Int32} {i : Nat} : upd (cpyF f f2 i) i (f i) = cpyF f f2 (i + 1) := by
  funext x
  simp only [upd, cpyF]
  by_cases h : x = i
  · subst h; simp
  · rw [if_neg h]
    by_cases h2 : x < i
    · rw [if_pos h2, if_pos (by omega)]
    · rw [if_neg h2, if_neg (by omega)]
theorem upR_s {t : Nat → Nat → Nat} {i : Nat} {f : Nat → Nat} : upR t i f i = f := by simp [upR]
theorem upR_n {t : Nat → Nat → Nat} {i j : Nat} {f : Nat → Nat} (h : j ≠ i) : upR t i f j = t j := by simp [upR, h]
/-- one place of a row of four -/
theorem row_set {R : Nat → Int32} {t : Nat → Nat → Nat} {n i k0 v : Nat} {f : Nat → Nat} (h : ∀ x, x < n → ∀ k, k < 4 → R (4 * x + k) = nI (t x k)) (hk0 : k0 < 4) (hf : f k0 = v) (hf2 : ∀ k, k < 4 → k ≠ k0 → f k = t i k) : ∀ x, x < n → ∀ k, k < 4 → upd R (4 * i + k0) (nI v) (4 * x + k) = nI (upR t i f x k) := by
  intro x hx k hk
  by_cases hxi : x = i
  · subst hxi
    rw [upR_s]
    by_cases hkk : k = k0
    · subst hkk
      rw [fr_upd, hf]
    · rw [fr_updn (by omega), h x hx k hk, hf2 k hk hkk]
  · rw [upR_n hxi, fr_updn (by omega), h x hx k hk]
/-- a new row of four behind n -/
theorem row_new {R : Nat → Int32} {t : Nat → Nat → Nat} {n a b c d : Nat} (h : ∀ x, x < n → ∀ k, k < 4 → R (4 * x + k) = nI (t x k)) : ∀ x, x < n + 1 → ∀ k, k < 4 → upd (upd (upd (upd R (4 * n) (nI a)) (4 * n + 1) (nI b)) (4 * n + 2) (nI c)) (4 * n + 3) (nI d) (4 * x + k) = nI (upR t n (rw4 a b c d) x k) := by
  intro x hx k hk
  by_cases hxi : x = n
  · subst hxi
    rw [upR_s]
    rcases (show k = 0 ∨ k = 1 ∨ k = 2 ∨ k = 3 by omega) with rfl | rfl | rfl | rfl
    · rw [fr_updn (by omega), fr_updn (by omega), fr_updn (by omega)]; exact fr_upd
    · rw [fr_updn (by omega), fr_updn (by omega), fr_upd]; rfl
    · rw [fr_updn (by omega), fr_upd]; rfl
    · rw [fr_upd]; rfl
  · rw [upR_n hxi, fr_updn (by omega), fr_updn (by omega), fr_updn (by omega), fr_updn (by omega), h x (by omega) k hk]
