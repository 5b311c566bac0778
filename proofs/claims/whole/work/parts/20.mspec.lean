/-! the reference's cells, over the same numbers -/
def MR (b : Nat → Nat → Nat) (q : RS) (J : Nat → Int32) (G : Nat → Nat → Int32) : Prop :=
  J 7 = nI q.1 ∧ J 12 = nI q.2.1 ∧ J 8 = q.2.2.1 ∧ (∀ v, v < 4 → ∀ j, j ≤ b v 0 → G 10 (5 * v + j) = nI (b v j)) ∧ (∀ i, i < q.1 → ∀ k, k < 4 → G 11 (4 * i + k) = nI (q.2.2.2.1 i k)) ∧ (∀ i, i < q.2.1 → ∀ k, k < 4 → G 13 (4 * i + k) = nI (q.2.2.2.2 i k))
section MRS
variable {b : Nat → Nat → Nat} {q : RS} {J : Nat → Int32} {G : Nat → Nat → Int32}
theorem MR_7 (h : MR b q J G) : J 7 = nI q.1 := h.1
theorem MR_12 (h : MR b q J G) : J 12 = nI q.2.1 := h.2.1
theorem MR_8 (h : MR b q J G) : J 8 = q.2.2.1 := h.2.2.1
theorem MR_len (h : MR b q J G) {v : Nat} (hv : v < 4) : G 10 (5 * v) = nI (b v 0) := h.2.2.2.1 v hv 0 (Nat.zero_le _)
theorem MR_beat (h : MR b q J G) {v j : Nat} (hv : v < 4) (hj : j < b v 0) : G 10 (5 * v + 1 + j) = nI (b v (1 + j)) := by
  rw [Nat.add_assoc]
  exact h.2.2.2.1 v hv (1 + j) (by omega)
theorem MR_row (h : MR b q J G) {i k : Nat} (hi : i < q.1) (hk : k < 4) : G 11 (4 * i + k) = nI (q.2.2.2.1 i k) := h.2.2.2.2.1 i hi k hk
theorem MR_row0 (h : MR b q J G) {i : Nat} (hi : i < q.1) : G 11 (4 * i) = nI (q.2.2.2.1 i 0) := h.2.2.2.2.1 i hi 0 (by decide)
theorem MR_put (h : MR b q J G) {i k : Nat} (hi : i < q.2.1) (hk : k < 4) : G 13 (4 * i + k) = nI (q.2.2.2.2 i k) := h.2.2.2.2.2 i hi k hk
theorem MR_put0 (h : MR b q J G) {i : Nat} (hi : i < q.2.1) : G 13 (4 * i) = nI (q.2.2.2.2 i 0) := h.2.2.2.2.2 i hi 0 (by decide)
end MRS
section SDE
variable {b : Nat → Nat → Nat} {w v n : Nat}
theorem sdE0 : sd b 0 w v n = if w = 1 then 1 - b v (1 + n % b v 0) else b v (1 + n % b v 0) := by simp [sd]
theorem sdE1 : sd b 1 w v n = if w = 1 then 1 - b v (1 + (b v 0 - 1 - n % b v 0)) else b v (1 + (b v 0 - 1 - n % b v 0)) := by simp [sd]
theorem sdE2 : sd b 2 w v n = if w = 1 then 1 - (if n % 2 = 1 then 0 else b v (1 + n % b v 0)) else (if n % 2 = 1 then 0 else b v (1 + n % b v 0)) := by simp [sd]
theorem sdE3 : sd b 3 w v n = if w = 1 then 1 - (if n % b v 0 = 0 then 1 else b v (1 + n % b v 0)) else (if n % b v 0 = 0 then 1 else b v (1 + n % b v 0)) := by simp [sd]
theorem sdE4 : sd b 4 w v n = if w = 1 then 1 - (1 - b v (1 + (b v 0 - 1 - n % b v 0))) else (1 - b v (1 + (b v 0 - 1 - n % b v 0))) := by simp [sd]
end SDE
/-- a pattern of drips, as bits -/
def ptn (f : Nat → Nat) : Nat → Nat
  | 0 => 0
  | n + 1 => ptn f n ||| f n * 2 ^ n
theorem ptn_lt {f : Nat → Nat} (hf : ∀ n, f n ≤ 1) (n : Nat) : ptn f n < 2 ^ n := by
  induction n with
  | zero => exact Nat.one_pos
  | succ n ih =>
    have h2 : 2 ^ (n + 1) = 2 ^ n * 2 := Nat.pow_succ ..
    have h3 : 0 < 2 ^ n := Nat.two_pow_pos n
    have h4 : f n * 2 ^ n ≤ 1 * 2 ^ n := Nat.mul_le_mul_right _ (hf n)
    unfold ptn
    apply Nat.or_lt_two_pow <;> omega
theorem ptn_s {f : Nat → Nat} (hf : ∀ n, f n ≤ 1) (n : Nat) : ptn f (n + 1) = f n * 2 ^ n + ptn f n := by
  have h := ptn_lt hf n
  have := Nat.two_pow_add_eq_or_of_lt h (f n)
  rw [Nat.mul_comm (f n)]
  rw [this, Nat.or_comm, Nat.mul_comm]
  rfl
theorem ptn_iff {f g : Nat → Nat} (hf : ∀ n, f n ≤ 1) (hg : ∀ n, g n ≤ 1) (n : Nat) : ptn f n = ptn g n ↔ fdi f g n = n := by
  induction n with
  | zero => exact ⟨fun _ => rfl, fun _ => rfl⟩
  | succ n ih =>
    have h1 := ptn_lt hf n
    have h2 := ptn_lt hg n
    have h0 : 0 < 2 ^ n := Nat.two_pow_pos n
    have hl := fdi_le f g n
    rw [ptn_s hf, ptn_s hg]
    unfold fdi
    constructor
    · intro h
      have e1 : (f n * 2 ^ n + ptn f n) / 2 ^ n = f n := by rw [Nat.mul_comm, Nat.mul_add_div h0, Nat.div_eq_of_lt h1, Nat.add_zero]
      have e2 : (g n * 2 ^ n + ptn g n) / 2 ^ n = g n := by rw [Nat.mul_comm, Nat.mul_add_div h0, Nat.div_eq_of_lt h2, Nat.add_zero]
      have e3 : f n = g n := by rw [← e1, ← e2, h]
      have e4 : ptn f n = ptn g n := by rw [e3] at h; omega
      rw [if_pos ⟨ih.mp e4, e3⟩]
    · intro h
      by_cases hc : fdi f g n = n ∧ f n = g n
      · rw [hc.2, ih.mpr hc.1]
      · rw [if_neg hc] at h
        omega
theorem fdi_mono {f g : Nat → Nat} (k : Nat) (n : Nat) : fdi f g n = n ↔ (fdi f g (n + k) = n + k ∨ n ≤ fdi f g (n + k)) := by
  induction k with
  | zero =>
    have := fdi_le f g n
    constructor
    · intro h; exact Or.inl h
    · intro h; have h2 : n + 0 = n := rfl; rw [h2] at h; omega
  | succ k ih =>
    have hl := fdi_le f g (n + k)
    rw [ih]
    show _ ↔ (fdi f g ((n + k) + 1) = n + k + 1 ∨ n ≤ fdi f g ((n + k) + 1))
    rw [show fdi f g ((n + k) + 1) = if fdi f g (n + k) = n + k ∧ f (n + k) = g (n + k) then n + k + 1 else fdi f g (n + k) from rfl]
    split
    · constructor <;> intro _ <;> omega
    · constructor <;> intro _ <;> omega
theorem fdi_comm (f g : Nat → Nat) (n : Nat) : fdi f g n = fdi g f n := by
  induction n with
  | zero => rfl
  | succ n ih =>
    unfold fdi
    rw [ih]
    by_cases h : fdi g f n = n ∧ g n = f n
    · rw [if_pos h, if_pos ⟨h.1, h.2.symm⟩]
    · rw [if_neg h, if_neg (fun z => h ⟨z.1, z.2.symm⟩)]
theorem ptn_fda {b t : Nat → Nat → Nat} (hb : hok b) {i x y m : Nat} (hx : x < 4) (hy : y < 4) (hm : m ≤ 16) : ptn (dpl b t i x) m = ptn (dpl b t i y) m ↔ m ≤ fda b t i y x := by
  rw [ptn_iff (f := dpl b t i x) (g := dpl b t i y) (fun n => sd_le hb hx) (fun n => sd_le hb hy), fdi_comm]
  have h := fdi_mono (f := dpl b t i y) (g := dpl b t i x) (16 - m) m
  rw [show m + (16 - m) = 16 by omega] at h
  rw [h]
  unfold fda
  constructor
  · intro h; omega
  · intro h; exact Or.inr h
theorem sh_ok {a i : Nat} (ha : a ≤ 1) (hi : i < 17) : a * 2 ^ i < 2 ^ 32 := by
  have h1 : 2 ^ i ≤ 2 ^ 16 := Nat.pow_le_pow_right (by decide) (by omega)
  have h2 : a * 2 ^ i ≤ 1 * 2 ^ i := Nat.mul_le_mul_right _ ha
  omega
theorem ptn_lt16 {f : Nat → Nat} (hf : ∀ n, f n ≤ 1) {n : Nat} (hn : n ≤ 16) : ptn f n < 2 ^ 16 := Nat.lt_of_lt_of_le (ptn_lt hf n) (Nat.pow_le_pow_right (by decide) hn)
theorem lg_s {b t : Nat → Nat → Nat} {i bits n v : Nat} (h1 : bits / 2 ^ v % 2 ≤ 1) (hd : dpl b t i v n ≤ 1) : cnt (lgf b t i bits n) (v + 1) = cnt (lgf b t i bits n) v + bits / 2 ^ v % 2 * dpl b t i v n := by
  by_cases hc : bits / 2 ^ v % 2 = 1 ∧ dpl b t i v n = 1
  · rw [cnt_t (decide_eq_true hc), hc.1, hc.2]
  · rw [cnt_f (decide_eq_false hc)]
    rcases (show bits / 2 ^ v % 2 = 0 ∨ bits / 2 ^ v % 2 = 1 by omega) with e | e
    · rw [e, Nat.zero_mul]; rfl
    · rw [show dpl b t i v n = 0 by omega, Nat.mul_zero]; rfl
theorem sh_s {b t : Nat → Nat → Nat} {i bits n v : Nat} (h1 : bits / 2 ^ v % 2 ≤ 1) (hd : dpl b t i v n ≤ 1) : cnt (lgf b t i bits n) (v + 1) + cnt (shf b t i bits n) (v + 1) = cnt (lgf b t i bits n) v + cnt (shf b t i bits n) v + bits / 2 ^ v % 2 := by
  by_cases hc : bits / 2 ^ v % 2 = 1 ∧ dpl b t i v n = 1
  · rw [cnt_t (decide_eq_true hc), cnt_f (show shf b t i bits n v = false from decide_eq_false (fun z => z.2 hc.2)), hc.1]; omega
  · rw [cnt_f (show lgf b t i bits n v = false from decide_eq_false hc)]
    by_cases h2 : bits / 2 ^ v % 2 = 1
    · rw [cnt_t (show shf b t i bits n v = true from decide_eq_true ⟨h2, fun z => hc ⟨h2, z⟩⟩), h2]; omega
    · rw [cnt_f (show shf b t i bits n v = false from decide_eq_false (fun z => h2 z.1))]; omega
theorem fr_mask (n : Nat) : lN n &&& (2147483647 : Int64) = lN (n % 2147483648) := by
  show lN n &&& lN 2147483647 = _
  apply Int64.toBitVec_inj.1
  show BitVec.ofNat 64 n &&& BitVec.ofNat 64 2147483647 = BitVec.ofNat 64 (n % 2147483648)
  rw [show n % 2147483648 = n &&& 2147483647 from (Nat.and_two_pow_sub_one_eq_mod n 31).symm]
  apply BitVec.eq_of_getLsbD_eq
  intro i hi
  simp [hi]
theorem nxs_eq2 {s : Nat} : ((((1103515245 : Int64) * lN s + (12345 : Int64)) &&& (2147483647 : Int64))).toInt32 = nI (nxs s) := by
  have e1 : (1103515245 : Int64) = lN 1103515245 := rfl
  have e2 : (12345 : Int64) = lN 12345 := rfl
  rw [e1, e2, lN_mul, lN_add, fr_mask, lN_i]
  rfl
theorem upd_upd {f : Nat → Int32} {k : Nat} {x y : Int32} : upd (upd f k x) k y = upd f k y := by
  funext j
  unfold upd
  by_cases h : j = k
  · rw [if_pos h, if_pos h]
  · rw [if_neg h, if_neg h, if_neg h]
