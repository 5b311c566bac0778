/-! the public calls' answers, over raw ints -/
abbrev inr (x : Int32) (lo hi : Int) : Prop := lo ≤ x.toInt ∧ x.toInt < hi
abbrev ti (x : Int32) : Nat := x.toInt.toNat
theorem ti_nI {i : Nat} (h : i < 2 ^ 31) : ti (nI i) = i := by unfold ti; rw [nI_toInt h]; rfl
theorem inr_nat {x : Int32} {n : Nat} (h : inr x 0 n) (hn : n < 2 ^ 31) : ∃ i : Nat, i < n ∧ x = nI i := by
  refine vp_in_of (vp_in_iff.mpr ⟨h.1, h.2⟩) hn
theorem inr_out {x : Int32} {lo hi : Int} (h : ¬ inr x lo hi) : x.toInt < lo ∨ hi ≤ x.toInt := by
  rcases Int.lt_or_le x.toInt lo with q | q
  · exact Or.inl q
  · exact Or.inr (Int.not_lt.mp (fun z => h ⟨q, z⟩))
theorem inr_nI {i : Nat} {n : Nat} (h : i < n) (hn : n < 2 ^ 31) : inr (nI i) 0 n := by
  unfold inr; rw [nI_toInt (Nat.lt_trans h hn)]; omega
def bta (b : Nat → Nat → Nat) (v j : Nat) : Int32 := if j < b v 0 then nI (b v (1 + j)) else -1
def sp_saying (b : Nat → Nat → Nat) (tn : Nat) (x w : Int32) : Int32 :=
  if ¬ tn = 0 ∧ inr x 0 4 then (if w.toInt = 0 then nI (b (ti x) 0) else if inr w 10 14 then bta b (ti x) (ti w - 10) else -102) else -101
def sp_about (b : Nat → Nat → Nat) (q : RS) (x w : Int32) : Int32 :=
  if inr x 0 q.1 then (if inr w 0 9 then abt b q.2.2.2.1 q.2.2.2.2 q.2.1 (ti x) (ti w) else -102) else -101
def sp_as (q : RS) (x w : Int32) : Int32 :=
  if inr x 0 q.1 then (if inr w 0 5 then (if ti w = 0 ∨ ti w = q.2.2.2.1 (ti x) 0 ∨ (ti w = 1 ∧ q.2.2.2.1 (ti x) 0 = 4) then nI (ti x) else -1) else -102) else -101
def sp_drip (b : Nat → Nat → Nat) (q : RS) (x w : Int32) : Int32 :=
  if inr x 0 q.1 then (if inr w 0 100 then nI (sd b (q.2.2.2.1 (ti x) 0) (q.2.2.2.1 (ti x) 2) (q.2.2.2.1 (ti x) 1) (ti w)) else -102) else -101
def sp_agree (b : Nat → Nat → Nat) (q : RS) (x y : Int32) : Int32 :=
  if inr x 0 q.1 ∧ inr y 0 q.1 ∧ ¬ ti x = ti y then nI (cnt (agf b q.2.2.2.1 (ti x) (ti y)) 16) else -101
def sp_near (b : Nat → Nat → Nat) (q : RS) (x y w : Int32) : Int32 :=
  if inr x 0 q.1 then (if inr y 0 4 ∧ inr w 0 2 then nI (ner b (q.2.2.2.1 (ti x) 0) (q.2.2.2.1 (ti x) 1) (ti y) (ti w)) else -102) else -101
/-- what count() tells -/
def cto (b : Nat → Nat → Nat) (q : RS) (pn xr w : Nat) : Int32 :=
  if w = 0 then nI q.1 else if w = 1 then nI (smu (fun v => b v 0) 4) else if w = 2 then nI (smu (fun i => q.2.2.2.1 i 2) q.1) else if w = 3 then nI (smu (fun i => q.2.2.2.1 i 3) q.1) else if w = 4 then q.2.2.1 else if w = 5 then nI q.2.1 else if w = 6 then nI pn else nI xr
section CTO
variable {b : Nat → Nat → Nat} {q : RS} {pn xr : Nat}
theorem cto_0 : cto b q pn xr 0 = nI q.1 := by unfold cto; rw [if_pos rfl]
theorem cto_1 : cto b q pn xr 1 = nI (smu (fun v => b v 0) 4) := by unfold cto; rw [if_neg (by decide), if_pos rfl]
theorem cto_2 : cto b q pn xr 2 = nI (smu (fun i => q.2.2.2.1 i 2) q.1) := by unfold cto; rw [if_neg (by decide), if_neg (by decide), if_pos rfl]
theorem cto_3 : cto b q pn xr 3 = nI (smu (fun i => q.2.2.2.1 i 3) q.1) := by unfold cto; rw [if_neg (by decide), if_neg (by decide), if_neg (by decide), if_pos rfl]
theorem cto_4 : cto b q pn xr 4 = q.2.2.1 := by unfold cto; rw [if_neg (by decide), if_neg (by decide), if_neg (by decide), if_neg (by decide), if_pos rfl]
theorem cto_5 : cto b q pn xr 5 = nI q.2.1 := by unfold cto; rw [if_neg (by decide), if_neg (by decide), if_neg (by decide), if_neg (by decide), if_neg (by decide), if_pos rfl]
theorem cto_6 : cto b q pn xr 6 = nI pn := by unfold cto; rw [if_neg (by decide), if_neg (by decide), if_neg (by decide), if_neg (by decide), if_neg (by decide), if_neg (by decide), if_pos rfl]
theorem cto_7 : cto b q pn xr 7 = nI xr := by unfold cto; rw [if_neg (by decide), if_neg (by decide), if_neg (by decide), if_neg (by decide), if_neg (by decide), if_neg (by decide), if_neg (by decide)]
end CTO
def sp_count (b : Nat → Nat → Nat) (q : RS) (pn xr : Nat) (w : Int32) : Int32 := if inr w 0 8 then cto b q pn xr (ti w) else -102
/-- nights: longs, slips, the seed -/
def ngd (s : Nat) : Nat := if s / 65536 % 8 = 0 then 1 else 0
theorem ngd_le (s : Nat) : ngd s ≤ 1 := by unfold ngd; split <;> omega
def ngt (b t : Nat → Nat → Nat) (n i : Nat) (y : Nat × Nat × Nat) : Nat × Nat × Nat := (y.1 + (dpl b t i (t i 1) n ^^^ ngd (nxs y.2.2)), y.2.1 + ngd (nxs y.2.2), nxs y.2.2)
def ngs (b t : Nat → Nat → Nat) (n : Nat) (z : Nat × Nat × Nat) : Nat → Nat × Nat × Nat
  | 0 => z
  | i + 1 => ngt b t n i (ngs b t n z i)
def ngo (b t : Nat → Nat → Nat) (tn : Nat) (z : Nat × Nat × Nat) : Nat → Nat × Nat × Nat
  | 0 => z
  | n + 1 => ngs b t n (ngo b t tn z n) tn
def sp_nights (b : Nat → Nat → Nat) (q : RS) (x y w : Int32) : Int32 :=
  if inr x 1 41 ∧ 0 ≤ y.toInt ∧ inr w 0 3 then (if q.1 = 0 then -103 else let z := ngo b q.2.2.2.1 q.1 (0, 0, ti y) (ti x); if ti w = 0 then nI z.1 else if ti w = 1 then nI z.2.1 else nI z.2.2) else -102
theorem xor_le {x y : Nat} (hx : x ≤ 1) (hy : y ≤ 1) : x ^^^ y ≤ 1 := by rw [xw hx hy]; split <;> omega
theorem nxs_eq {s : Nat} (h : s < 2 ^ 31) : (((1103515245 : Int64) * lN s + (12345 : Int64)) - ((1103515245 : Int64) * lN s + (12345 : Int64)) / (2147483648 : Int64) * (2147483648 : Int64)).toInt32 = nI (nxs s) := by
  have e1 : (1103515245 : Int64) = lN 1103515245 := rfl
  have e2 : (12345 : Int64) = lN 12345 := rfl
  have e3 : (2147483648 : Int64) = lN 2147483648 := rfl
  rw [e1, e2, e3, lN_mul, lN_add, pk_lRem (by omega) (by decide) (by decide), lN_i]
  rfl
/-- digests -/
def dsy (b : Nat → Nat → Nat) (h : Int64) : Nat → Int64
  | 0 => h
  | v + 1 => fo (31 * dsy b h v + lN (b v 0)) (fun j => (bta b v j).toInt64) 4
def dnr (b : Nat → Nat → Nat) (kd v0 : Nat) (h : Int64) : Nat → Int64
  | 0 => h
  | v + 1 => fo (dnr b kd v0 h v) (fun w => lN (ner b kd v0 v w)) 2
def dtp (b : Nat → Nat → Nat) (q : RS) (i : Nat) (h : Int64) : Int64 :=
  dnr b (q.2.2.2.1 i 0) (q.2.2.2.1 i 1) (fo (fo h (fun w => (abt b q.2.2.2.1 q.2.2.2.2 q.2.1 i w).toInt64) 9) (fun n => lN (sd b (q.2.2.2.1 i 0) (q.2.2.2.1 i 2) (q.2.2.2.1 i 1) n)) 8) 4
def dtl (b : Nat → Nat → Nat) (q : RS) (h : Int64) : Nat → Int64
  | 0 => h
  | i + 1 => dtp b q i (dtl b q h i)
def sp_digest (b : Nat → Nat → Nat) (q : RS) (pc : Nat → Int32) (pn xr : Nat) : Int64 :=
  fo (fo (dtl b q (if q.1 = 0 then 1061 else dsy b 1061 4) q.1) (fun k => (pc k).toInt64) pn) (fun w => (cto b q pn xr w).toInt64) 8
theorem smu_le {f : Nat → Nat} {m : Nat} : ∀ n, (∀ i, i < n → f i ≤ m) → smu f n ≤ n * m := by
  intro n
  induction n with
  | zero => intro _; exact Nat.zero_le _
  | succ n ih =>
    intro h
    have h1 := ih (fun i hi => h i (Nat.lt_succ_of_lt hi))
    have h2 := h n (Nat.lt_succ_self n)
    show smu f n + f n ≤ (n + 1) * m
    rw [Nat.succ_mul]
    omega
