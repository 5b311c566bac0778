/-! reading a page: the reader's steps (saying, taps, letters), what it accepts, what is read -/
def knN (j : Nat) : Nat := if j = 116 then 0 else if j = 98 then 1 else if j = 119 then 2 else if j = 111 then 3 else if j = 101 then 4 else 5
abbrev clo (s : Nat) : Nat := if s = 3 then 59 else 44
def rdO (z : Nat × Nat × Nat) (j : Nat) : Bool :=
  if z.1 < 4 then (if j = 115 ∨ j = 108 then decide (z.2.2 < 4) else decide (¬ z.2.2 = 0 ∧ j = clo z.1))
  else if z.2.2 = 0 then decide (knN j < 5) else if z.2.2 = 1 then decide (48 ≤ j ∧ j < 52) else decide (j = 44 ∧ z.2.1 < 3)
def rdS (z : Nat × Nat × Nat) (j : Nat) : Nat × Nat × Nat :=
  if z.1 < 4 then (if j = 115 ∨ j = 108 then (z.1, z.2.1, z.2.2 + 1) else if ¬ z.2.2 = 0 ∧ j = clo z.1 then (z.1 + 1, z.2.1, 0) else z)
  else if z.2.2 = 0 then (z.1, z.2.1, 1) else if z.2.2 = 1 then (z.1, z.2.1 + 1, 2) else (z.1, z.2.1, 0)
def rdZ (f : Nat → Nat) : Nat → Nat × Nat × Nat
  | 0 => (0, 0, 0)
  | n + 1 => rdS (rdZ f n) (f n)
def okF (f : Nat → Nat) : Nat → Nat := fun i => if rdO (rdZ f i) (f i) = true then 1 else 0
def flt (f : Nat → Nat) (n : Nat) : Nat := fdi (okF f) (fun _ => 1) n
theorem flt_le (f : Nat → Nat) (n : Nat) : flt f n ≤ n := fdi_le _ _ _
theorem flt_s {f : Nat → Nat} {n : Nat} (h : flt f n = n) (e : rdO (rdZ f n) (f n) = true) : flt f (n + 1) = n + 1 := fdi_s h (by unfold okF; rw [if_pos e])
theorem flt_at {f : Nat → Nat} {n k : Nat} (h : flt f n = n) (e : ¬ rdO (rdZ f n) (f n) = true) (hk : n < k) : flt f k = n := fdi_at h (by unfold okF; rw [if_neg e]; decide) hk
theorem flt_pre {f : Nat → Nat} {n : Nat} (h : flt f (n + 1) = n + 1) : flt f n = n ∧ rdO (rdZ f n) (f n) = true := by
  have hl := flt_le f n
  unfold flt at h hl ⊢
  unfold fdi at h
  by_cases hc : fdi (okF f) (fun _ => 1) n = n ∧ okF f n = 1
  · refine ⟨hc.1, ?_⟩
    have := hc.2
    unfold okF at this
    by_cases hr : rdO (rdZ f n) (f n) = true
    · exact hr
    · rw [if_neg hr] at this; exact absurd this (by decide)
  · rw [if_neg hc] at h; omega
theorem flt_down {f : Nat → Nat} {m : Nat} (k : Nat) : flt f (m + k) = m + k → flt f m = m := by
  induction k with
  | zero => exact id
  | succ k ih => exact fun h => ih (flt_pre h).1
abbrev isH (f : Nat → Nat) (n : Nat) : Prop := flt f n = n ∧ (rdZ f n).1 = 4 ∧ (rdZ f n).2.2 = 2
/-- what is read: sayings, the kind that came last, the taps -/
abbrev bAdd (b : Nat → Nat → Nat) (v x : Nat) : Nat → Nat → Nat := upR b v (fun k => if k = 0 then b v 0 + 1 else if k = 1 + b v 0 then x else b v k)
def pb (f : Nat → Nat) : Nat → (Nat → Nat → Nat)
  | 0 => fun _ _ => 0
  | n + 1 => if (rdZ f n).1 < 4 ∧ (f n = 115 ∨ f n = 108) then bAdd (pb f n) (rdZ f n).1 (if f n = 108 then 1 else 0) else pb f n
def pk (f : Nat → Nat) : Nat → Nat
  | 0 => 0
  | n + 1 => if ¬ (rdZ f n).1 < 4 ∧ (rdZ f n).2.2 = 0 then knN (f n) else pk f n
def pt (f : Nat → Nat) (t : Nat → Nat → Nat) : Nat → (Nat → Nat → Nat)
  | 0 => t
  | n + 1 => if ¬ (rdZ f n).1 < 4 ∧ (rdZ f n).2.2 = 1 then upR (pt f t n) (rdZ f n).2.1 (rw4 (pk f n) (f n - 48) 0 0) else pt f t n
def pInv (z : Nat × Nat × Nat) (b : Nat → Nat → Nat) (kd : Nat) (t : Nat → Nat → Nat) : Prop :=
  z.1 ≤ 4 ∧ (z.1 < 4 → z.2.1 = 0 ∧ z.2.2 ≤ 4 ∧ b z.1 0 = z.2.2 ∧ ∀ v, z.1 < v → b v 0 = 0) ∧ (∀ v, v < 4 → v < z.1 → 1 ≤ b v 0 ∧ b v 0 ≤ 4) ∧ (∀ v j, b v (1 + j) ≤ 1) ∧ (z.1 = 4 → z.2.2 ≤ 2 ∧ z.2.1 ≤ 3 ∧ (z.2.2 ≤ 1 → z.2.1 ≤ 2) ∧ (z.2.2 = 2 → 1 ≤ z.2.1) ∧ (z.2.2 = 1 → kd < 5)) ∧ (∀ x, x < z.2.1 → t x 0 < 5 ∧ t x 1 < 4 ∧ t x 2 = 0 ∧ t x 3 = 0)
theorem pInv_0 {t : Nat → Nat → Nat} : pInv (0, 0, 0) (fun _ _ => 0) 0 t := ⟨by decide, fun _ => ⟨rfl, by decide, rfl, fun _ _ => rfl⟩, fun v _ h => absurd h (Nat.not_lt_zero v), fun _ _ => Nat.zero_le _, fun h => absurd h (by decide), fun x h => absurd h (Nat.not_lt_zero x)⟩
theorem bAdd_len {b : Nat → Nat → Nat} {v x : Nat} : bAdd b v x v 0 = b v 0 + 1 := by simp [bAdd, upR]
theorem bAdd_ne {b : Nat → Nat → Nat} {v x u : Nat} (h : u ≠ v) : bAdd b v x u = b u := by simp [bAdd, upR, h]
theorem bAdd_le {b : Nat → Nat → Nat} {v x : Nat} (hx : x ≤ 1) (h : ∀ u j, b u (1 + j) ≤ 1) (u j : Nat) : bAdd b v x u (1 + j) ≤ 1 := by
  by_cases hu : u = v
  · subst hu
    show (if u = u then (fun k => if k = 0 then b u 0 + 1 else if k = 1 + b u 0 then x else b u k) else b u) (1 + j) ≤ 1
    rw [if_pos rfl]
    show (if 1 + j = 0 then _ else if 1 + j = 1 + b u 0 then x else b u (1 + j)) ≤ 1
    rw [if_neg (by omega)]
    split
    · exact hx
    · exact h u j
  · rw [bAdd_ne hu]; exact h u j
theorem pInv_at (f : Nat → Nat) (t : Nat → Nat → Nat) (n : Nat) : flt f n = n → pInv (rdZ f n) (pb f n) (pk f n) (pt f t n) := by
  induction n with
  | zero => exact fun _ => pInv_0
  | succ n ih =>
    intro h
    obtain ⟨h1, h2⟩ := flt_pre h
    obtain ⟨i1, i2, i3, i4, i5, i6⟩ := ih h1
    show pInv (rdS (rdZ f n) (f n)) (if _ then _ else _) (if _ then _ else _) (if _ then _ else _)
    generalize rdZ f n = z at *
    obtain ⟨s, p, l⟩ := z
    dsimp only at *
    unfold rdO at h2
    unfold rdS
    dsimp only at *
    by_cases hs : s < 4
    · obtain ⟨j1, j2, j3, j4⟩ := i2 hs
      rw [if_pos hs] at h2 ⊢
      rw [if_neg (show ¬ (¬ s < 4 ∧ l = 0) from fun q => q.1 hs), if_neg (show ¬ (¬ s < 4 ∧ l = 1) from fun q => q.1 hs)]
      by_cases hc : f n = 115 ∨ f n = 108
      · rw [if_pos hc] at h2 ⊢
        rw [if_pos (show s < 4 ∧ (f n = 115 ∨ f n = 108) from ⟨hs, hc⟩)]
        have h3 : l < 4 := of_decide_eq_true h2
        unfold pInv
        dsimp only
        refine ⟨i1, fun _ => ⟨j1, by omega, by rw [bAdd_len, j3], fun v hv => ?_⟩, fun v hv hvs => ?_, bAdd_le (by split <;> omega) i4, fun q => absurd q (by omega), fun x hx => i6 x hx⟩
        · have hv : s < v := hv
          rw [bAdd_ne (by omega)]; exact j4 v hv
        · have hvs : v < s := hvs
          rw [bAdd_ne (by omega)]; exact i3 v hv hvs
      · rw [if_neg hc] at h2 ⊢
        rw [if_neg (show ¬ (s < 4 ∧ (f n = 115 ∨ f n = 108)) from fun q => hc q.2)]
        have h3 : ¬ l = 0 ∧ f n = clo s := of_decide_eq_true h2
        rw [if_pos h3]
        unfold pInv
        dsimp only
        refine ⟨by omega, fun _ => ⟨j1, by omega, j4 (s + 1) (by omega), fun v hv => j4 v (by omega)⟩, fun v hv hvs => ?_, i4, fun _ => ?_, fun x hx => i6 x hx⟩
        · have hvs : v < s + 1 := hvs
          by_cases hv2 : v = s
          · subst hv2; rw [j3]; omega
          · exact i3 v hv (by omega)
        · refine ⟨by omega, by omega, fun _ => by omega, fun q => by omega, fun q => by omega⟩
    · have hs4 : s = 4 := by omega
      subst hs4
      obtain ⟨k1, k2, k3, k4, k5⟩ := i5 rfl
      rw [if_neg hs] at h2 ⊢
      rw [if_neg (show ¬ (4 < 4 ∧ (f n = 115 ∨ f n = 108)) from fun q => hs q.1)]
      by_cases hl0 : l = 0
      · subst hl0
        rw [if_pos (show (0 : Nat) = 0 from rfl)] at h2 ⊢
        rw [if_pos (show ¬ 4 < 4 ∧ (0 : Nat) = 0 from ⟨hs, rfl⟩), if_neg (show ¬ (¬ 4 < 4 ∧ (0 : Nat) = 1) from fun q => by omega)]
        have h3 : knN (f n) < 5 := of_decide_eq_true h2
        unfold pInv
        dsimp only
        exact ⟨by omega, fun q => absurd q (by omega), i3, i4, fun _ => ⟨by omega, k2, fun _ => k3 (by omega), fun q => absurd q (by omega), fun _ => h3⟩, fun x hx => i6 x hx⟩
      · rw [if_neg hl0] at h2 ⊢
        rw [if_neg (show ¬ (¬ 4 < 4 ∧ l = 0) from fun q => hl0 q.2)]
        by_cases hl1 : l = 1
        · subst hl1
          rw [if_pos (show (1 : Nat) = 1 from rfl)] at h2 ⊢
          rw [if_pos (show ¬ 4 < 4 ∧ (1 : Nat) = 1 from ⟨hs, rfl⟩)]
          have h3 : 48 ≤ f n ∧ f n < 52 := of_decide_eq_true h2
          have k3 := k3 (by decide)
          unfold pInv
          dsimp only
          refine ⟨by omega, fun q => absurd q (by omega), i3, i4, fun _ => ⟨by omega, by omega, fun q => absurd q (by omega), fun _ => by omega, fun q => absurd q (by omega)⟩, fun x hx => ?_⟩
          have hx : x < p + 1 := hx
          by_cases hxp : x = p
          · subst hxp
            rw [upR_s]
            exact ⟨k5 rfl, show f n - 48 < 4 by omega, rfl, rfl⟩
          · rw [upR_n hxp]; exact i6 x (by omega)
        · rw [if_neg hl1] at h2 ⊢
          rw [if_neg (show ¬ (¬ 4 < 4 ∧ l = 1) from fun q => hl1 q.2)]
          have h3 : f n = 44 ∧ p < 3 := of_decide_eq_true h2
          unfold pInv
          dsimp only
          exact ⟨by omega, fun q => absurd q (by omega), i3, i4, fun _ => ⟨by omega, k2, fun _ => by omega, fun q => absurd q (by omega), fun q => absurd q (by omega)⟩, fun x hx => i6 x hx⟩
/-- a house that is read -/
theorem isH_hok {f : Nat → Nat} {t : Nat → Nat → Nat} {n : Nat} (h : isH f n) : hok (pb f n) ∧ 1 ≤ (rdZ f n).2.1 ∧ (rdZ f n).2.1 ≤ 3 ∧ (∀ x, x < (rdZ f n).2.1 → pt f t n x 0 < 5 ∧ pt f t n x 1 < 4 ∧ pt f t n x 2 = 0 ∧ pt f t n x 3 = 0) := by
  obtain ⟨i1, i2, i3, i4, i5, i6⟩ := pInv_at f t n h.1
  obtain ⟨k1, k2, k3, k4, k5⟩ := i5 h.2.1
  have hz := h.2.1
  refine ⟨fun v hv => ⟨(i3 v hv (by omega)).1, (i3 v hv (by omega)).2, fun j _ => i4 v j⟩, k4 h.2.2, k2, i6⟩
