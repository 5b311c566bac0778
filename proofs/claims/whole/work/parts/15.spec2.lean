/-- what holds of a room: how many taps and notes, and of each -/
def Tok (q : RS) : Prop := q.1 ≤ 5 ∧ q.2.1 ≤ 8 ∧ (∀ i, i < q.1 → q.2.2.2.1 i 0 < 5 ∧ q.2.2.2.1 i 1 < 4 ∧ q.2.2.2.1 i 2 ≤ 1 ∧ q.2.2.2.1 i 3 ≤ 60) ∧ (∀ i, i < q.2.1 → q.2.2.2.2 i 0 < q.1 ∧ q.2.2.2.2 i 1 < 60 ∧ q.2.2.2.2 i 2 ≤ 1 ∧ q.2.2.2.2 i 3 ≤ 1)
/-- how many of the first n -/
def cnt (f : Nat → Bool) : Nat → Nat
  | 0 => 0
  | n + 1 => cnt f n + (if f n = true then 1 else 0)
theorem cnt_le (f : Nat → Bool) : ∀ n, cnt f n ≤ n
  | 0 => Nat.le_refl 0
  | n + 1 => by
    have := cnt_le f n
    show cnt f n + _ ≤ n + 1
    split <;> omega
theorem cnt_t {f : Nat → Bool} {n : Nat} (h : f n = true) : cnt f (n + 1) = cnt f n + 1 := by show cnt f n + _ = _; rw [if_pos h]
theorem cnt_f {f : Nat → Bool} {n : Nat} (h : f n = false) : cnt f (n + 1) = cnt f n := by show cnt f n + _ = _; rw [h]; rfl
/-- slips: notes of tap i that saying v would not drip -/
def slf (b : Nat → Nat → Nat) (kd i : Nat) (u : Nat → Nat → Nat) (v : Nat) : Nat → Bool := fun n => decide (u n 0 = i ∧ sd b kd (u n 3) v (u n 1) ≠ u n 2)
def slp (b : Nat → Nat → Nat) (kd i : Nat) (u : Nat → Nat → Nat) (nn v : Nat) : Nat := cnt (slf b kd i u v) nn
theorem slp_le (b : Nat → Nat → Nat) (kd i : Nat) (u : Nat → Nat → Nat) (nn v : Nat) : slp b kd i u nn v ≤ nn := cnt_le _ _
/-- the sayings without slips, as bits -/
def sys (f : Nat → Nat) : Nat → Nat
  | 0 => 0
  | v + 1 => sys f v ||| (if f v = 0 then 2 ^ v else 0)
theorem sys_lt (f : Nat → Nat) (n : Nat) : sys f n < 2 ^ n := by
  induction n with
  | zero => exact Nat.one_pos
  | succ n ih =>
    have h2 : 2 ^ (n + 1) = 2 ^ n * 2 := Nat.pow_succ ..
    have h3 : 0 < 2 ^ n := Nat.two_pow_pos n
    unfold sys
    apply Nat.or_lt_two_pow
    · omega
    · split <;> omega
theorem sys_t {f : Nat → Nat} {v : Nat} (h : f v = 0) : sys f v ||| 1 * 2 ^ v = sys f (v + 1) := by show _ = sys f v ||| _; rw [if_pos h, Nat.one_mul]
theorem sys_f {f : Nat → Nat} {v : Nat} (h : ¬ f v = 0) : sys f v = sys f (v + 1) := by show _ = sys f v ||| _; rw [if_neg h, Nat.or_zero]
/-- the first of the least -/
def lky (f : Nat → Nat) : Nat → Nat
  | 0 => 0
  | v + 1 => if f (v + 1) < f (lky f v) then v + 1 else lky f v
theorem lky_le (f : Nat → Nat) (n : Nat) : lky f n ≤ n := by
  induction n with
  | zero => exact Nat.le_refl 0
  | succ n ih =>
    unfold lky
    split <;> omega
theorem lky_t {f : Nat → Nat} {v x : Nat} (hx : x = lky f v) (h : f (v + 1) < f x) : v + 1 = lky f (v + 1) := by subst hx; show _ = if _ then _ else _; rw [if_pos h]
theorem lky_f {f : Nat → Nat} {v x : Nat} (hx : x = lky f v) (h : ¬ f (v + 1) < f x) : x = lky f (v + 1) := by subst hx; show _ = if _ then _ else _; rw [if_neg h]
/-- how many in a row, from 0 on, are alike -/
def fdi (f g : Nat → Nat) : Nat → Nat
  | 0 => 0
  | n + 1 => if fdi f g n = n ∧ f n = g n then n + 1 else fdi f g n
theorem fdi_le (f g : Nat → Nat) (n : Nat) : fdi f g n ≤ n := by
  induction n with
  | zero => exact Nat.le_refl 0
  | succ n ih =>
    unfold fdi
    split <;> omega
theorem fdi_s {f g : Nat → Nat} {n : Nat} (h : fdi f g n = n) (e : f n = g n) : fdi f g (n + 1) = n + 1 := by show (if _ then _ else _) = _; rw [if_pos ⟨h, e⟩]
theorem fdi_stop {f g : Nat → Nat} {n : Nat} (h : fdi f g n = n) (e : ¬ f n = g n) (k : Nat) : fdi f g (n + 1 + k) = n := by
  induction k with
  | zero => show (if _ then _ else _) = _; rw [if_neg (fun q => e q.2), h]
  | succ k ih =>
    show fdi f g ((n + 1 + k) + 1) = n
    unfold fdi
    rw [if_neg (fun q => by omega), ih]
theorem fdi_at {f g : Nat → Nat} {n k : Nat} (h : fdi f g n = n) (e : ¬ f n = g n) (hk : n < k) : fdi f g k = n := by
  have := fdi_stop h e (k - (n + 1))
  rwa [show n + 1 + (k - (n + 1)) = k by omega] at this
/-- a tap's own drips, if it said v: from its place on -/
def dpl (b t : Nat → Nat → Nat) (i v n : Nat) : Nat := sd b (t i 0) (t i 2) v (t i 3 + n)
def fda (b t : Nat → Nat → Nat) (i x y : Nat) : Nat := fdi (dpl b t i x) (dpl b t i y) 16
theorem fda_le (b t : Nat → Nat → Nat) (i x y : Nat) : fda b t i x y ≤ 16 := fdi_le _ _ _
def sur (F : Nat → Nat → Nat) : Int32 := if F 0 1 = 16 ∨ F 0 2 = 16 ∨ F 0 3 = 16 ∨ F 1 2 = 16 ∨ F 1 3 = 16 ∨ F 2 3 = 16 then -1 else nI (max (max (max (max (max (max 0 (F 0 1 + 1)) (F 0 2 + 1)) (F 0 3 + 1)) (F 1 2 + 1)) (F 1 3 + 1)) (F 2 3 + 1))
/-- listen: of those that it can say, how many are left at worst -/
def lgf (b t : Nat → Nat → Nat) (i bits n : Nat) : Nat → Bool := fun v => decide (bits / 2 ^ v % 2 = 1 ∧ dpl b t i v n = 1)
def shf (b t : Nat → Nat → Nat) (i bits n : Nat) : Nat → Bool := fun v => decide (bits / 2 ^ v % 2 = 1 ∧ ¬ dpl b t i v n = 1)
def lw (b t : Nat → Nat → Nat) (i bits n : Nat) : Nat := max (cnt (shf b t i bits n) 4) (cnt (lgf b t i bits n) 4)
theorem lw_le (b t : Nat → Nat → Nat) (i bits n : Nat) : lw b t i bits n ≤ 4 := Nat.max_le.mpr ⟨cnt_le _ _, cnt_le _ _⟩
def bth (b t : Nat → Nat → Nat) (i bits : Nat) : Int32 := if bits = 0 then -1 else nI (lky (lw b t i bits) 7)
/-- near -/
def unf (b : Nat → Nat → Nat) (kd w v v2 : Nat) : Nat → Bool := fun n => decide (¬ sd b kd w v n = sd b 0 0 v2 n)
def unl (b : Nat → Nat → Nat) (kd w v v2 : Nat) : Nat := cnt (unf b kd w v v2) 12
theorem unl_le (b : Nat → Nat → Nat) (kd w v v2 : Nat) : unl b kd w v v2 ≤ 12 := cnt_le _ _
def ner (b : Nat → Nat → Nat) (kd v v2 what : Nat) : Nat := if what = 0 then (if unl b kd 1 v v2 < unl b kd 0 v v2 then 1 else 0) else min (unl b kd 1 v v2) (unl b kd 0 v v2)
theorem n_min {a b : Nat} (h1 : a < 2 ^ 31) (h2 : b < 2 ^ 31) : (if nI b < nI a then nI b else nI a) = nI (min a b) := by
  by_cases h : b < a
  · rw [if_pos ((nI_ltI h2 h1).mpr h), Nat.min_eq_right (Nat.le_of_lt h)]
  · rw [if_neg (fun q => h ((nI_ltI h2 h1).mp q)), Nat.min_eq_left (Nat.le_of_not_lt h)]
/-- slips of tap i by saying, out of a room's notes -/
def sly (b t : Nat → Nat → Nat) (i : Nat) (u : Nat → Nat → Nat) (nn : Nat) : Nat → Nat := fun v => slp b (t i 0) i u nn v
/-- about a tap -/
def abt (b t : Nat → Nat → Nat) (u : Nat → Nat → Nat) (nn i what : Nat) : Int32 :=
  if what < 4 then nI (t i what) else if what = 4 then sur (fda b t i) else if what = 5 then nI (sys (sly b t i u nn) 4) else if what = 6 then nI (lky (sly b t i u nn) 3) else if what = 7 then nI (sly b t i u nn (lky (sly b t i u nn) 3)) else bth b t i (sys (sly b t i u nn) 4)
/-- agree -/
def agf (b t : Nat → Nat → Nat) (i j : Nat) : Nat → Bool := fun n => decide (dpl b t i (t i 1) n = dpl b t j (t j 1) n)
/-- a fold of a digest -/
def fo (h : Int64) (f : Nat → Int64) : Nat → Int64
  | 0 => h
  | n + 1 => 31 * fo h f n + f n
/-- draws -/
def nxs (s : Nat) : Nat := (1103515245 * s + 12345) % 2147483648
theorem nxs_lt (s : Nat) : nxs s < 2147483648 := Nat.mod_lt _ (by decide)
section ABT
variable {b t u : Nat → Nat → Nat} {nn i : Nat}
theorem abt_0 : abt b t u nn i 0 = nI (t i 0) := by unfold abt; rw [if_pos (by decide)]
theorem abt_1 : abt b t u nn i 1 = nI (t i 1) := by unfold abt; rw [if_pos (by decide)]
theorem abt_2 : abt b t u nn i 2 = nI (t i 2) := by unfold abt; rw [if_pos (by decide)]
theorem abt_3 : abt b t u nn i 3 = nI (t i 3) := by unfold abt; rw [if_pos (by decide)]
theorem abt_4 : abt b t u nn i 4 = sur (fda b t i) := by unfold abt; rw [if_neg (by decide), if_pos rfl]
theorem abt_5 : abt b t u nn i 5 = nI (sys (sly b t i u nn) 4) := by unfold abt; rw [if_neg (by decide), if_neg (by decide), if_pos rfl]
theorem abt_6 : abt b t u nn i 6 = nI (lky (sly b t i u nn) 3) := by unfold abt; rw [if_neg (by decide), if_neg (by decide), if_neg (by decide), if_pos rfl]
theorem abt_7 : abt b t u nn i 7 = nI (sly b t i u nn (lky (sly b t i u nn) 3)) := by unfold abt; rw [if_neg (by decide), if_neg (by decide), if_neg (by decide), if_neg (by decide), if_pos rfl]
theorem abt_8 : abt b t u nn i 8 = bth b t i (sys (sly b t i u nn) 4) := by unfold abt; rw [if_neg (by decide), if_neg (by decide), if_neg (by decide), if_neg (by decide), if_neg (by decide)]
end ABT
