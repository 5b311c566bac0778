/-! the reference reads the same page: its relation, step by step -/
def PR (f : Nat → Nat) (t : Nat → Nat → Nat) (n : Nat) (J : Nat → Int32) (G : Nat → Nat → Int32) : Prop :=
  J 2 = nI (rdZ f n).1 ∧ J 5 = nI (rdZ f n).2.1 ∧ J 6 = nI (if (rdZ f n).1 < 4 then 0 else (rdZ f n).2.2) ∧ (∀ v, v < 4 → v ≤ (rdZ f n).1 → ∀ j, j ≤ pb f n v 0 → G 3 (5 * v + j) = nI (pb f n v j)) ∧ (∀ x, x < (rdZ f n).2.1 → G 4 (4 * x) = nI (pt f t n x 0) ∧ G 4 (4 * x + 1) = nI (pt f t n x 1)) ∧ (¬ (rdZ f n).1 < 4 → (rdZ f n).2.2 = 1 → G 4 (4 * (rdZ f n).2.1) = nI (pk f n))
theorem bAdd_at {b : Nat → Nat → Nat} {v x j : Nat} (h : j = 1 + b v 0) : bAdd b v x v j = x := by
  subst h
  simp [bAdd, upR]
theorem bAdd_old {b : Nat → Nat → Nat} {v x j : Nat} (h0 : ¬ j = 0) (h : ¬ j = 1 + b v 0) : bAdd b v x v j = b v j := by
  simp [bAdd, upR, h0, h]
section STP
variable {f : Nat → Nat} {t : Nat → Nat → Nat} {i : Nat}
theorem stp_b (h : ¬ ((rdZ f i).1 < 4 ∧ (f i = 115 ∨ f i = 108))) : pb f (i + 1) = pb f i := by
  show (if (rdZ f i).1 < 4 ∧ (f i = 115 ∨ f i = 108) then _ else _) = _
  rw [if_neg h]
theorem stp_k (h : ¬ (¬ (rdZ f i).1 < 4 ∧ (rdZ f i).2.2 = 0)) : pk f (i + 1) = pk f i := by
  show (if ¬ (rdZ f i).1 < 4 ∧ (rdZ f i).2.2 = 0 then _ else _) = _
  rw [if_neg h]
theorem stp_t (h : ¬ (¬ (rdZ f i).1 < 4 ∧ (rdZ f i).2.2 = 1)) : pt f t (i + 1) = pt f t i := by
  show (if ¬ (rdZ f i).1 < 4 ∧ (rdZ f i).2.2 = 1 then _ else _) = _
  rw [if_neg h]
theorem stp_beat (a1 : (rdZ f i).1 < 4) (a2 : f i = 115 ∨ f i = 108) : rdZ f (i + 1) = ((rdZ f i).1, (rdZ f i).2.1, (rdZ f i).2.2 + 1) ∧ pb f (i + 1) = bAdd (pb f i) (rdZ f i).1 (if f i = 108 then 1 else 0) := by
  constructor
  · show rdS (rdZ f i) (f i) = _
    unfold rdS; rw [if_pos a1, if_pos a2]
  · show (if (rdZ f i).1 < 4 ∧ (f i = 115 ∨ f i = 108) then _ else _) = _
    rw [if_pos ⟨a1, a2⟩]
theorem stp_sep (a1 : (rdZ f i).1 < 4) (a2 : f i = clo (rdZ f i).1) (a3 : ¬ (rdZ f i).2.2 = 0) : rdZ f (i + 1) = ((rdZ f i).1 + 1, (rdZ f i).2.1, 0) := by
  show rdS (rdZ f i) (f i) = _
  have h : ¬ (f i = 115 ∨ f i = 108) := by
    rw [a2]; unfold clo; split <;> decide
  unfold rdS; rw [if_pos a1, if_neg h, if_pos ⟨a3, a2⟩]
theorem stp_kind (a1 : ¬ (rdZ f i).1 < 4) (a2 : (rdZ f i).2.2 = 0) : rdZ f (i + 1) = ((rdZ f i).1, (rdZ f i).2.1, 1) ∧ pk f (i + 1) = knN (f i) := by
  constructor
  · show rdS (rdZ f i) (f i) = _
    unfold rdS; rw [if_neg a1, if_pos a2]
  · show (if ¬ (rdZ f i).1 < 4 ∧ (rdZ f i).2.2 = 0 then _ else _) = _
    rw [if_pos ⟨a1, a2⟩]
theorem stp_say (a1 : ¬ (rdZ f i).1 < 4) (a2 : (rdZ f i).2.2 = 1) : rdZ f (i + 1) = ((rdZ f i).1, (rdZ f i).2.1 + 1, 2) ∧ pt f t (i + 1) = upR (pt f t i) (rdZ f i).2.1 (rw4 (pk f i) (f i - 48) 0 0) := by
  constructor
  · show rdS (rdZ f i) (f i) = _
    unfold rdS; rw [if_neg a1, if_neg (by omega), if_pos a2]
  · show (if ¬ (rdZ f i).1 < 4 ∧ (rdZ f i).2.2 = 1 then _ else _) = _
    rw [if_pos ⟨a1, a2⟩]
theorem stp_com (a1 : ¬ (rdZ f i).1 < 4) (a2 : ¬ (rdZ f i).2.2 = 0) (a3 : ¬ (rdZ f i).2.2 = 1) : rdZ f (i + 1) = ((rdZ f i).1, (rdZ f i).2.1, 0) := by
  show rdS (rdZ f i) (f i) = _
  unfold rdS; rw [if_neg a1, if_neg a2, if_neg a3]
variable {J : Nat → Int32} {G : Nat → Nat → Int32}
theorem PR_0 : PR f t 0 (upd (upd (upd J 2 (nI 0)) 5 (nI 0)) 6 (nI 0)) (updF G 3 (upd (G 3) 0 (nI 0))) := by
  refine ⟨rfl, rfl, rfl, fun v hv hvz j hj => ?_, fun x hx => absurd hx (Nat.not_lt_zero x), fun h _ => absurd (show 0 < 4 by decide) h⟩
  have h1 : v = 0 := Nat.le_zero.mp hvz
  have h2 : j = 0 := Nat.le_zero.mp hj
  subst h1; subst h2
  rfl
/-- the length and the beats that stand in the saying that is being read -/
theorem PR_len (h : PR f t i J G) (hf : flt f i = i) (a1 : (rdZ f i).1 < 4) : G 3 (5 * (rdZ f i).1) = nI (rdZ f i).2.2 := by
  obtain ⟨i1, i2, _⟩ := pInv_at f t i hf
  have e := h.2.2.2.1 (rdZ f i).1 a1 (Nat.le_refl _) 0 (Nat.zero_le _)
  rw [(i2 a1).2.2.1] at e
  exact e
theorem PR_beat (h : PR f t i J G) (hf : flt f i = i) (a1 : (rdZ f i).1 < 4) (a2 : f i = 115 ∨ f i = 108) : PR f t (i + 1) J (updF G 3 (upd (upd (G 3) (5 * (rdZ f i).1) (nI ((rdZ f i).2.2 + 1))) (5 * (rdZ f i).1 + ((rdZ f i).2.2 + 1)) (nI (if f i = 108 then 1 else 0)))) := by
  obtain ⟨e1, e2⟩ := stp_beat a1 a2
  have e3 : pk f (i + 1) = pk f i := stp_k (fun y => y.1 a1)
  have e4 : pt f t (i + 1) = pt f t i := stp_t (fun y => y.1 a1)
  obtain ⟨i1, i2, i3, i4, i5, i6⟩ := pInv_at f t i hf
  obtain ⟨j1, j2, j3, j4⟩ := i2 a1
  obtain ⟨h1, h2, h3, h4, h5, h6⟩ := h
  unfold PR
  rw [e1, e2, e3, e4]
  rw [if_pos a1] at h3
  dsimp only
  rw [if_pos a1]
  refine ⟨h1, h2, h3, fun v hv hvz j hj => ?_, h5, fun y => absurd a1 y⟩
  show upd (upd (G 3) (5 * (rdZ f i).1) (nI ((rdZ f i).2.2 + 1))) (5 * (rdZ f i).1 + ((rdZ f i).2.2 + 1)) (nI (if f i = 108 then 1 else 0)) (5 * v + j) = _
  by_cases hvz2 : v = (rdZ f i).1
  · subst hvz2
    rw [bAdd_len, j3] at hj
    by_cases hj0 : j = 0
    · subst hj0
      rw [fr_updn (by omega), bAdd_len, j3]
      exact fr_upd
    · by_cases hj1 : j = (rdZ f i).2.2 + 1
      · subst hj1
        rw [fr_upd, bAdd_at (show (rdZ f i).2.2 + 1 = 1 + pb f i (rdZ f i).1 0 by omega)]
      · rw [fr_updn (by omega), fr_updn (by omega), h4 _ hv hvz j (by omega), bAdd_old hj0 (by omega)]
  · rw [bAdd_ne hvz2] at hj ⊢
    have hl := (i3 v hv (by omega)).2
    rw [fr_updn (by omega), fr_updn (by omega)]
    exact h4 v hv hvz j hj
theorem PR_sep (h : PR f t i J G) (hf : flt f i = i) (a1 : (rdZ f i).1 < 4) (a2 : f i = clo (rdZ f i).1) (a3 : ¬ (rdZ f i).2.2 = 0) : PR f t (i + 1) (upd J 2 (nI ((rdZ f i).1 + 1))) (updF G 3 (upd (G 3) (5 * ((rdZ f i).1 + 1)) (nI 0))) := by
  have hb : ¬ (f i = 115 ∨ f i = 108) := by
    rw [a2]; unfold clo; split <;> decide
  have e1 := stp_sep a1 a2 a3
  have e2 : pb f (i + 1) = pb f i := stp_b (fun y => hb y.2)
  have e3 : pk f (i + 1) = pk f i := stp_k (fun y => y.1 a1)
  have e4 : pt f t (i + 1) = pt f t i := stp_t (fun y => y.1 a1)
  obtain ⟨i1, i2, i3, i4, i5, i6⟩ := pInv_at f t i hf
  obtain ⟨j1, j2, j3, j4⟩ := i2 a1
  obtain ⟨h1, h2, h3, h4, h5, h6⟩ := h
  unfold PR
  rw [e1, e2, e3, e4]
  rw [if_pos a1] at h3
  dsimp only
  refine ⟨rfl, h2, ?_, fun v hv hvz j hj => ?_, h5, fun _ y => absurd y (by decide)⟩
  · show J 6 = _
    rw [h3]; split <;> rfl
  · show upd (G 3) (5 * ((rdZ f i).1 + 1)) (nI 0) (5 * v + j) = _
    by_cases hvz2 : v = (rdZ f i).1 + 1
    · subst hvz2
      have hz := j4 ((rdZ f i).1 + 1) (Nat.lt_succ_self _)
      have hj0 : j = 0 := by omega
      subst hj0
      rw [hz]
      exact fr_upd
    · have hl : pb f i v 0 ≤ 4 := by
        by_cases hvz3 : v = (rdZ f i).1
        · rw [hvz3, j3]; exact j2
        · exact (i3 v hv (by omega)).2
      rw [fr_updn (by omega)]
      exact h4 v hv (by omega) j hj
theorem PR_kind (h : PR f t i J G) (a1 : ¬ (rdZ f i).1 < 4) (a2 : (rdZ f i).2.2 = 0) : PR f t (i + 1) (upd J 6 (nI 1)) (updF G 4 (upd (G 4) (4 * (rdZ f i).2.1) (nI (knN (f i))))) := by
  obtain ⟨e1, e3⟩ := stp_kind a1 a2
  have e2 : pb f (i + 1) = pb f i := stp_b (fun y => a1 y.1)
  have e4 : pt f t (i + 1) = pt f t i := stp_t (fun y => by omega)
  obtain ⟨h1, h2, h3, h4, h5, h6⟩ := h
  unfold PR
  rw [e1, e2, e3, e4]
  dsimp only
  rw [if_neg a1]
  refine ⟨h1, h2, rfl, h4, fun x hx => ?_, fun _ _ => fr_upd⟩
  show upd (G 4) (4 * (rdZ f i).2.1) _ (4 * x) = _ ∧ upd (G 4) (4 * (rdZ f i).2.1) _ (4 * x + 1) = _
  rw [fr_updn (by omega), fr_updn (by omega)]
  exact h5 x hx
theorem PR_say (h : PR f t i J G) (a1 : ¬ (rdZ f i).1 < 4) (a2 : (rdZ f i).2.2 = 1) : PR f t (i + 1) (upd (upd J 6 (nI 2)) 5 (nI ((rdZ f i).2.1 + 1))) (updF G 4 (upd (G 4) (4 * (rdZ f i).2.1 + 1) (nI (f i - 48)))) := by
  obtain ⟨e1, e4⟩ := stp_say (t := t) a1 a2
  have e2 : pb f (i + 1) = pb f i := stp_b (fun y => a1 y.1)
  have e3 : pk f (i + 1) = pk f i := stp_k (fun y => by omega)
  obtain ⟨h1, h2, h3, h4, h5, h6⟩ := h
  unfold PR
  rw [e1, e2, e3, e4]
  dsimp only
  rw [if_neg a1]
  refine ⟨h1, rfl, rfl, h4, fun x hx => ?_, fun _ y => absurd y (by decide)⟩
  show upd (G 4) (4 * (rdZ f i).2.1 + 1) _ (4 * x) = _ ∧ upd (G 4) (4 * (rdZ f i).2.1 + 1) _ (4 * x + 1) = _
  by_cases hxp : x = (rdZ f i).2.1
  · subst hxp
    rw [upR_s, fr_updn (by omega), fr_upd]
    exact ⟨h6 a1 a2, rfl⟩
  · rw [upR_n hxp, fr_updn (by omega), fr_updn (by omega)]
    exact h5 x (by omega)
theorem PR_com (h : PR f t i J G) (a1 : ¬ (rdZ f i).1 < 4) (a2 : ¬ (rdZ f i).2.2 = 0) (a3 : ¬ (rdZ f i).2.2 = 1) : PR f t (i + 1) (upd J 6 (nI 0)) G := by
  have e1 := stp_com a1 a2 a3
  have e2 : pb f (i + 1) = pb f i := stp_b (fun y => a1 y.1)
  have e3 : pk f (i + 1) = pk f i := stp_k (fun y => a2 y.2)
  have e4 : pt f t (i + 1) = pt f t i := stp_t (fun y => a3 y.2)
  obtain ⟨h1, h2, h3, h4, h5, h6⟩ := h
  unfold PR
  rw [e1, e2, e3, e4]
  dsimp only
  rw [if_neg a1]
  exact ⟨h1, h2, rfl, h4, h5, fun _ y => absurd y (by decide)⟩
end STP
/-- what a letter that is refused can be -/
theorem rej {z : Nat × Nat × Nat} {j : Nat} (h : ¬ rdO z j = true) :
    (z.1 < 4 → ((j = 115 ∨ j = 108) → ¬ z.2.2 < 4) ∧ (¬ (j = 115 ∨ j = 108) → z.2.2 = 0 ∨ ¬ j = (if z.1 = 3 then 59 else 44))) ∧ (¬ z.1 < 4 → (z.2.2 = 0 → ¬ knN j < 5) ∧ (z.2.2 = 1 → ¬ (48 ≤ j ∧ j < 52)) ∧ (¬ z.2.2 = 0 → ¬ z.2.2 = 1 → ¬ (j = 44 ∧ z.2.1 < 3))) := by
  unfold rdO at h
  constructor
  · intro hs
    rw [if_pos hs] at h
    constructor
    · intro hc; rw [if_pos hc] at h; exact fun y => h (decide_eq_true y)
    · intro hc
      rw [if_neg hc] at h
      by_cases h0 : z.2.2 = 0
      · exact Or.inl h0
      · exact Or.inr (fun y => h (decide_eq_true ⟨h0, y⟩))
  · intro hs
    rw [if_neg hs] at h
    refine ⟨fun h0 => ?_, fun h1 => ?_, fun h0 h1 => ?_⟩
    · rw [if_pos h0] at h; exact fun y => h (decide_eq_true y)
    · rw [if_neg (by omega), if_pos h1] at h; exact fun y => h (decide_eq_true y)
    · rw [if_neg h0, if_neg h1] at h; exact fun y => h (decide_eq_true y)
/-- rows of taps that are read, as house lays them -/
theorem row_read {R : Nat → Int32} {t : Nat → Nat → Nat} {n : Nat} (h : ∀ x, x < n → ∀ k, k < 4 → R (4 * x + k) = nI (t x k)) (h2 : t n 2 = 0) (h3 : t n 3 = 0) : ∀ x, x < n + 1 → ∀ k, k < 4 → upd (upd (upd (upd R (4 * n) (nI (t n 0))) (4 * n + 1) (nI (t n 1))) (4 * n + 2) (nI 0)) (4 * n + 3) (nI 0) (4 * x + k) = nI (t x k) := by
  intro x hx k hk
  rw [row_new h x hx k hk]
  by_cases hxn : x = n
  · subst hxn
    rw [upR_s]
    rcases (show k = 0 ∨ k = 1 ∨ k = 2 ∨ k = 3 by omega) with rfl | rfl | rfl | rfl
    · rfl
    · rfl
    · rw [h2]; rfl
    · rw [h3]; rfl
  · rw [upR_n hxn]
theorem goS (z : Nat × Nat × Nat) (j : Nat) (hs : z.1 < 4) : ((j = 115 ∨ j = 108) ∧ z.2.2 < 4 ∧ rdO z j = true) ∨ (¬ z.2.2 = 0 ∧ j = clo z.1 ∧ rdO z j = true) ∨ ¬ rdO z j = true := by
  by_cases h : rdO z j = true
  · have h2 := h
    unfold rdO at h2
    rw [if_pos hs] at h2
    by_cases hc : j = 115 ∨ j = 108
    · rw [if_pos hc] at h2
      exact Or.inl ⟨hc, of_decide_eq_true h2, h⟩
    · rw [if_neg hc] at h2
      exact Or.inr (Or.inl ⟨(of_decide_eq_true h2).1, (of_decide_eq_true h2).2, h⟩)
  · exact Or.inr (Or.inr h)
theorem goT (z : Nat × Nat × Nat) (j : Nat) (hs : ¬ z.1 < 4) : (z.2.2 = 0 ∧ knN j < 5 ∧ rdO z j = true) ∨ (z.2.2 = 1 ∧ (48 ≤ j ∧ j < 52) ∧ rdO z j = true) ∨ (¬ z.2.2 = 0 ∧ ¬ z.2.2 = 1 ∧ (j = 44 ∧ z.2.1 < 3) ∧ rdO z j = true) ∨ ¬ rdO z j = true := by
  by_cases h : rdO z j = true
  · have h2 := h
    unfold rdO at h2
    rw [if_neg hs] at h2
    by_cases h0 : z.2.2 = 0
    · rw [if_pos h0] at h2
      exact Or.inl ⟨h0, of_decide_eq_true h2, h⟩
    · rw [if_neg h0] at h2
      by_cases h1 : z.2.2 = 1
      · rw [if_pos h1] at h2
        exact Or.inr (Or.inl ⟨h1, of_decide_eq_true h2, h⟩)
      · rw [if_neg h1] at h2
        exact Or.inr (Or.inr (Or.inl ⟨h0, h1, of_decide_eq_true h2, h⟩))
  · exact Or.inr (Or.inr (Or.inr h))
theorem clo_or {s j : Nat} (h : j = clo s) (hs : s < 4) : (s = 3 ∧ j = 59) ∨ (s < 3 ∧ j = 44) := by
  by_cases h3 : s = 3
  · exact Or.inl ⟨h3, by rw [h]; exact if_pos h3⟩
  · exact Or.inr ⟨by omega, by rw [h]; exact if_neg h3⟩
theorem clo_no {s j : Nat} (h : ¬ j = (if s = 3 then 59 else 44)) : (s = 3 ∧ ¬ j = 59) ∨ (¬ s = 3 ∧ ¬ j = 44) := by
  by_cases h3 : s = 3
  · rw [if_pos h3] at h; exact Or.inl ⟨h3, h⟩
  · rw [if_neg h3] at h; exact Or.inr ⟨h3, h⟩
theorem kn_cases {j : Nat} (h : knN j < 5) : j = 116 ∨ j = 98 ∨ j = 119 ∨ j = 111 ∨ j = 101 := by
  by_cases a1 : j = 116
  · exact Or.inl a1
  · by_cases a2 : j = 98
    · exact Or.inr (Or.inl a2)
    · by_cases a3 : j = 119
      · exact Or.inr (Or.inr (Or.inl a3))
      · by_cases a4 : j = 111
        · exact Or.inr (Or.inr (Or.inr (Or.inl a4)))
        · by_cases a5 : j = 101
          · exact Or.inr (Or.inr (Or.inr (Or.inr a5)))
          · exfalso; unfold knN at h; rw [if_neg a1, if_neg a2, if_neg a3, if_neg a4, if_neg a5] at h; exact absurd h (by decide)
theorem kn_not {j : Nat} (h : ¬ knN j < 5) : ¬ j = 116 ∧ ¬ j = 98 ∧ ¬ j = 119 ∧ ¬ j = 111 ∧ ¬ j = 101 :=
  ⟨fun q => h (by rw [q]; decide), fun q => h (by rw [q]; decide), fun q => h (by rw [q]; decide), fun q => h (by rw [q]; decide), fun q => h (by rw [q]; decide)⟩
