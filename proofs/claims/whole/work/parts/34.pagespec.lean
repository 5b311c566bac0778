abbrev pf (pc : Nat → Int32) : Nat → Nat := fun k => ti (pc k)
theorem pg_nat {x : Int32} (h : inr x 1 127) : x = nI (ti x) ∧ ti x < 127 := by
  obtain ⟨i, hi, rfl⟩ := inr_nat (n := 127) (x := x) ⟨by have := h.1; omega, h.2⟩ (by decide)
  rw [ti_nI (by omega)]
  exact ⟨rfl, hi⟩
theorem rdZ_le (f : Nat → Nat) (n : Nat) : (rdZ f n).1 ≤ n ∧ (rdZ f n).2.1 ≤ n ∧ (rdZ f n).2.2 ≤ n := by
  induction n with
  | zero => exact ⟨Nat.le_refl _, Nat.le_refl _, Nat.le_refl _⟩
  | succ n ih =>
    show (rdS (rdZ f n) (f n)).1 ≤ n + 1 ∧ (rdS (rdZ f n) (f n)).2.1 ≤ n + 1 ∧ (rdS (rdZ f n) (f n)).2.2 ≤ n + 1
    generalize rdZ f n = z at *
    obtain ⟨h1, h2, h3⟩ := ih
    unfold rdS
    repeat' split
    all_goals first | omega | (dsimp only; omega)
abbrev fillF (f : Nat → Int32) (i : Nat) (c : Int32) : Nat → Int32 := fun k => if k < i then c else f k
theorem fillF_0 {f : Nat → Int32} {c : Int32} : fillF f 0 c = f := by funext k; simp [fillF]
theorem fillF_s {f : Nat → Int32} {i : Nat} {c : Int32} : upd (fillF f i c) i c = fillF f (i + 1) c := by
  funext x
  simp only [upd, fillF]
  by_cases h : x = i
  · subst h; simp
  · rw [if_neg h]
    by_cases h2 : x < i
    · rw [if_pos h2, if_pos (by omega)]
    · rw [if_neg h2, if_neg (by omega)]
/-- the rows of a class while it reads a page: what is not there yet is -1 -/
def SRs (b : Nat → Nat → Nat) (B L : Nat → Int32) : Prop := ∀ v, v < 4 → L v = nI (b v 0) ∧ ∀ j, j < 4 → B (v * 4 + j) = if j < b v 0 then nI (b v (1 + j)) else -1
theorem SRs_w {b : Nat → Nat → Nat} {B L : Nat → Int32} (h : SRs b B L) : SR b B L := fun v hv => ⟨(h v hv).1, fun _ => (h v hv).2⟩
theorem SR_0 {B L : Nat → Int32} : SRs (fun _ _ => 0) (fillF B 16 (-1)) (fillF L 4 (nI 0)) := by
  intro v hv
  refine ⟨by show (if v < 4 then nI 0 else L v) = _; rw [if_pos hv], fun j hj => ?_⟩
  show (if v * 4 + j < 16 then (-1 : Int32) else _) = _
  rw [if_pos (by omega)]
  rfl
theorem SR_add {b : Nat → Nat → Nat} {B L : Nat → Int32} {v x : Nat} (h : SRs b B L) (hv : v < 4) (h4 : b v 0 < 4) (hall : ∀ u, u < 4 → b u 0 ≤ 4) : SRs (bAdd b v x) (upd B (v * 4 + b v 0) (nI x)) (upd L v (nI (b v 0 + 1))) := by
  intro u hu
  by_cases huv : u = v
  · subst huv
    refine ⟨by rw [fr_upd, bAdd_len], fun j hj => ?_⟩
    rw [bAdd_len]
    by_cases hj2 : j = b u 0
    · subst hj2
      rw [fr_upd, if_pos (Nat.lt_succ_self _)]
      show nI x = nI ((if u = u then (fun k => if k = 0 then b u 0 + 1 else if k = 1 + b u 0 then x else b u k) else b u) (1 + b u 0))
      rw [if_pos rfl]
      show nI x = nI (if 1 + b u 0 = 0 then _ else if 1 + b u 0 = 1 + b u 0 then x else _)
      rw [if_neg (by omega), if_pos rfl]
    · rw [fr_updn (by omega), (h u hu).2 j hj]
      by_cases hj3 : j < b u 0
      · rw [if_pos hj3, if_pos (by omega)]
        show _ = nI ((if u = u then (fun k => if k = 0 then b u 0 + 1 else if k = 1 + b u 0 then x else b u k) else b u) (1 + j))
        rw [if_pos rfl]
        show _ = nI (if 1 + j = 0 then _ else if 1 + j = 1 + b u 0 then x else b u (1 + j))
        rw [if_neg (by omega), if_neg (by omega)]
      · rw [if_neg hj3, if_neg (by omega)]
  · rw [bAdd_ne huv]
    refine ⟨by rw [fr_updn huv]; exact (h u hu).1, fun j hj => ?_⟩
    have hl := hall u hu
    rw [fr_updn (by omega)]
    exact (h u hu).2 j hj
/-- what a letter that is accepted can be -/
theorem acc {z : Nat × Nat × Nat} {j : Nat} (h4 : z.1 ≤ 4) (h : rdO z j = true) :
    (z.1 < 4 ∧ (j = 115 ∨ j = 108) ∧ z.2.2 < 4) ∨ (z.1 = 3 ∧ j = 59 ∧ ¬ z.2.2 = 0) ∨ (z.1 < 3 ∧ j = 44 ∧ ¬ z.2.2 = 0) ∨ (z.1 = 4 ∧ z.2.2 = 0 ∧ knN j < 5 ∧ (j = 116 ∨ j = 98 ∨ j = 119 ∨ j = 111 ∨ j = 101)) ∨ (z.1 = 4 ∧ z.2.2 = 1 ∧ 48 ≤ j ∧ j < 52) ∨ (z.1 = 4 ∧ ¬ z.2.2 = 0 ∧ ¬ z.2.2 = 1 ∧ j = 44 ∧ z.2.1 < 3) := by
  unfold rdO at h
  by_cases hs : z.1 < 4
  · rw [if_pos hs] at h
    by_cases hc : j = 115 ∨ j = 108
    · rw [if_pos hc] at h
      exact Or.inl ⟨hs, hc, of_decide_eq_true h⟩
    · rw [if_neg hc] at h
      obtain ⟨h1, h2⟩ := of_decide_eq_true h
      by_cases h3 : z.1 = 3
      · rw [show clo z.1 = 59 from if_pos h3] at h2
        exact Or.inr (Or.inl ⟨h3, h2, h1⟩)
      · rw [show clo z.1 = 44 from if_neg h3] at h2
        exact Or.inr (Or.inr (Or.inl ⟨by omega, h2, h1⟩))
  · rw [if_neg hs] at h
    have hz : z.1 = 4 := by omega
    by_cases h0 : z.2.2 = 0
    · rw [if_pos h0] at h
      have h1 : knN j < 5 := of_decide_eq_true h
      refine Or.inr (Or.inr (Or.inr (Or.inl ⟨hz, h0, h1, ?_⟩)))
      unfold knN at h1
      by_cases a1 : j = 116
      · exact Or.inl a1
      · rw [if_neg a1] at h1
        by_cases a2 : j = 98
        · exact Or.inr (Or.inl a2)
        · rw [if_neg a2] at h1
          by_cases a3 : j = 119
          · exact Or.inr (Or.inr (Or.inl a3))
          · rw [if_neg a3] at h1
            by_cases a4 : j = 111
            · exact Or.inr (Or.inr (Or.inr (Or.inl a4)))
            · rw [if_neg a4] at h1
              by_cases a5 : j = 101
              · exact Or.inr (Or.inr (Or.inr (Or.inr a5)))
              · rw [if_neg a5] at h1; exact absurd h1 (by decide)
    · rw [if_neg h0] at h
      by_cases h1 : z.2.2 = 1
      · rw [if_pos h1] at h
        have h2 := of_decide_eq_true h
        exact Or.inr (Or.inr (Or.inr (Or.inr (Or.inl ⟨hz, h1, h2.1, h2.2⟩))))
      · rw [if_neg h1] at h
        have h2 := of_decide_eq_true h
        exact Or.inr (Or.inr (Or.inr (Or.inr (Or.inr ⟨hz, h0, h1, h2.1, h2.2⟩))))
theorem knN_digit {j : Nat} (h : j < 52) : ¬ knN j < 5 := by
  unfold knN
  rw [if_neg (by omega), if_neg (by omega), if_neg (by omega), if_neg (by omega), if_neg (by omega)]
  decide
