/-! what the house says: b v 0 the length of saying v, b v (1 + j) its beat j -/
def hok (b : Nat → Nat → Nat) : Prop := ∀ v, v < 4 → 1 ≤ b v 0 ∧ b v 0 ≤ 4 ∧ ∀ j, j < b v 0 → b v (1 + j) ≤ 1
/-- the class's rows of beats and lengths -/
def SR (b : Nat → Nat → Nat) (B L : Nat → Int32) : Prop := ∀ v, v < 4 → L v = nI (b v 0) ∧ (0 < b v 0 → ∀ j, j < 4 → B (v * 4 + j) = if j < b v 0 then nI (b v (1 + j)) else -1)
theorem SR_len {b : Nat → Nat → Nat} {B L : Nat → Int32} (h : SR b B L) {v : Nat} (hv : v < 4) : L v = nI (b v 0) := (h v hv).1
theorem SR_beat {b : Nat → Nat → Nat} {B L : Nat → Int32} (h : SR b B L) (hb : hok b) {v j : Nat} (hv : v < 4) (hj : j < b v 0) : B (v * 4 + j) = nI (b v (1 + j)) := by
  have h4 := (hb v hv).2.1
  rw [(h v hv).2 (by omega) j (by omega), if_pos hj]
/-- a drip: by kind, washer, saying, number -/
def sd (b : Nat → Nat → Nat) (kd w v n : Nat) : Nat :=
  let x0 := b v (1 + (if kd = 1 ∨ kd = 4 then b v 0 - 1 - n % b v 0 else n % b v 0))
  let x1 := if kd = 2 ∧ n % 2 = 1 then 0 else x0
  let x2 := if kd = 3 ∧ n % b v 0 = 0 then 1 else x1
  let x3 := if kd = 4 then 1 - x2 else x2
  if w = 1 then 1 - x3 else x3
theorem hok_at {b : Nat → Nat → Nat} (hb : hok b) {v n : Nat} (hv : v < 4) : b v (1 + n % b v 0) ≤ 1 := (hb v hv).2.2 _ (Nat.mod_lt _ (hb v hv).1)
theorem hok_back {b : Nat → Nat → Nat} (hb : hok b) {v n : Nat} (hv : v < 4) : b v (1 + (b v 0 - 1 - n % b v 0)) ≤ 1 := (hb v hv).2.2 _ (by have := (hb v hv).1; omega)
theorem xw {x w : Nat} (hx : x ≤ 1) (hw : w ≤ 1) : x ^^^ w = if w = 1 then 1 - x else x := by
  rcases (show x = 0 ∨ x = 1 by omega) with rfl | rfl <;> rcases (show w = 0 ∨ w = 1 by omega) with rfl | rfl <;> decide
theorem sd_le {b : Nat → Nat → Nat} (hb : hok b) {kd w v n : Nat} (hv : v < 4) : sd b kd w v n ≤ 1 := by
  have h1 := hok_at hb (n := n) hv
  have h2 := hok_back hb (n := n) hv
  unfold sd
  dsimp only
  repeat' split
  all_goals omega
theorem sd_k0 {b : Nat → Nat → Nat} (hb : hok b) {w v n : Nat} (hv : v < 4) (hw : w ≤ 1) : b v (1 + n % b v 0) ^^^ w = sd b 0 w v n := by
  rw [xw (hok_at hb hv) hw]; simp [sd]
theorem sd_k1 {b : Nat → Nat → Nat} (hb : hok b) {w v n : Nat} (hv : v < 4) (hw : w ≤ 1) : b v (1 + (b v 0 - 1 - n % b v 0)) ^^^ w = sd b 1 w v n := by
  rw [xw (hok_back hb hv) hw]; simp [sd]
theorem sd_k2a {b : Nat → Nat → Nat} {w v n : Nat} (hw : w ≤ 1) (h : n % 2 = 1) : 0 ^^^ w = sd b 2 w v n := by
  rw [xw (by omega) hw]; simp [sd, h]
theorem sd_k2b {b : Nat → Nat → Nat} (hb : hok b) {w v n : Nat} (hv : v < 4) (hw : w ≤ 1) (h : ¬ n % 2 = 1) : b v (1 + n % b v 0) ^^^ w = sd b 2 w v n := by
  rw [xw (hok_at hb hv) hw]; simp [sd, h]
theorem sd_k3a {b : Nat → Nat → Nat} {w v n : Nat} (hw : w ≤ 1) (h : n % b v 0 = 0) : 1 ^^^ w = sd b 3 w v n := by
  rw [xw (by omega) hw]; simp [sd, h]
theorem sd_k3b {b : Nat → Nat → Nat} (hb : hok b) {w v n : Nat} (hv : v < 4) (hw : w ≤ 1) (h : ¬ n % b v 0 = 0) : b v (1 + n % b v 0) ^^^ w = sd b 3 w v n := by
  rw [xw (hok_at hb hv) hw]; simp [sd, h]
theorem sd_k4 {b : Nat → Nat → Nat} (hb : hok b) {w v n : Nat} (hv : v < 4) (hw : w ≤ 1) : b v (1 + (b v 0 - 1 - n % b v 0)) ^^^ 1 ^^^ w = sd b 4 w v n := by
  have h2 := hok_back hb (n := n) hv
  rw [xw h2 (Nat.le_refl 1), xw (by simp only [if_true]; omega) hw]; simp [sd]
/-- sums of a row -/
def smu (f : Nat → Nat) : Nat → Nat
  | 0 => 0
  | n + 1 => smu f n + f n
