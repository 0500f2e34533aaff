/-! the wind: bits, and the sum of all ways -/
theorem bit_t : ∀ z : Nat, z < 128 → ∀ j : Nat, j < 7 → (jand (jshr (z : Int) (j : Int)) 1 = 1 ↔ z.testBit j = true) := by decide +kernel
theorem sub_t : ∀ a : Nat, a < 128 → ∀ c : Nat, c < 128 → (jand (c : Int) (jxor (a : Int) (-1)) = 0 ↔ c &&& a = c) := by decide +kernel
def rPc (c : Nat) : Nat → Nat
  | 0 => 0
  | j + 1 => rPc c j + if c.testBit j = true then 1 else 0
theorem rPc_7 : ∀ c : Nat, c < 128 → ((rPc c 7 : Nat) : Int) = fBC c := by decide +kernel
def nW (a p c : Nat) : Nat := if c &&& a = c then p ^ rPc c 7 * (10 - p) ^ (rPc a 7 - rPc c 7) else 0
def nS (a p : Nat) : Nat → Nat
  | 0 => 0
  | c + 1 => nS a p c + nW a p c
theorem nS_all : ∀ a : Nat, a < 128 → ∀ p : Nat, p < 11 → nS a p (a + 1) = 10 ^ rPc a 7 := by decide +kernel
def rWy (op p : Int) (c : Nat) : Nat → Int
  | 0 => 1
  | j + 1 => rWy op p c j * (if jand (jshr op j) 1 = 1 then (if jand (jshr c j) 1 = 1 then p else 10 - p) else 1)
theorem rWy_rng {op p : Int} {c : Nat} (hp : 0 ≤ p ∧ p ≤ 10) : ∀ j : Nat, 0 ≤ rWy op p c j ∧ rWy op p c j ≤ 10 ^ j := by
  intro j
  induction j with
  | zero => simp [rWy]
  | succ j ih =>
    simp only [rWy]
    have h0 : ∀ e : Int, 0 ≤ e → e ≤ 10 → 0 ≤ rWy op p c j * e ∧ rWy op p c j * e ≤ 10 ^ (j + 1) := by
      intro e h1 h2
      have a1 := Int.mul_nonneg ih.1 h1
      have a2 : rWy op p c j * e ≤ 10 ^ j * 10 := Int.mul_le_mul ih.2 h2 h1 (Int.le_trans ih.1 ih.2)
      have a3 : (10 : Int) ^ (j + 1) = 10 ^ j * 10 := Int.pow_succ 10 j
      omega
    split
    · split
      · exact h0 p hp.1 hp.2
      · exact h0 (10 - p) (by omega) (by omega)
    · exact h0 1 (by decide) (by decide)
theorem rWy_7 {op p : Int} {c : Nat} (hp : 0 ≤ p ∧ p ≤ 10) {j : Nat} (hj : j ≤ 7) : 0 ≤ rWy op p c j ∧ rWy op p c j ≤ 10000000 := by
  have h1 := rWy_rng (op := op) (c := c) hp j
  have h2 : ∀ n : Nat, n ≤ 7 → (10 : Int) ^ n ≤ 10000000 := by decide
  have := h2 j hj
  omega
def rWiB (op p : Int) (L : Nat) : Nat → Int
  | 0 => 0
  | c + 1 => if jand c (jxor op (-1)) = 0 then rWiB op p L c + rWy op p c L else rWiB op p L c
theorem rPc_le {a c : Nat} (h : c &&& a = c) : ∀ j, rPc c j ≤ rPc a j := by
  intro j
  induction j with
  | zero => exact Nat.le_refl _
  | succ j ih =>
    simp only [rPc]
    have hb : c.testBit j = true → a.testBit j = true := by
      intro q
      rw [← h, Nat.testBit_and] at q
      simp only [Bool.and_eq_true] at q
      exact q.2
    by_cases q : c.testBit j = true
    · rw [if_pos q, if_pos (hb q)]; omega
    · rw [if_neg q]; omega
theorem rWy_pow {a c : Nat} {p : Int} (ha : a < 128) (hc : c < 128) (h : c &&& a = c) : ∀ j, j ≤ 7 → rWy (a : Int) p c j = fPow p (rPc c j) * fPow (10 - p) (rPc a j - rPc c j) := by
  intro j
  induction j with
  | zero => intro _; simp [rWy, rPc, fPow]
  | succ j ih =>
    intro hj
    have hb : c.testBit j = true → a.testBit j = true := by
      intro q
      rw [← h, Nat.testBit_and] at q
      simp only [Bool.and_eq_true] at q
      exact q.2
    have hle := rPc_le h j
    simp only [rWy, rPc]
    rw [ih (by omega)]
    by_cases qa : a.testBit j = true
    · rw [if_pos ((bit_t a ha j (by omega)).2 qa), if_pos qa]
      by_cases qc : c.testBit j = true
      · rw [if_pos ((bit_t c hc j (by omega)).2 qc), if_pos qc, show rPc a j + 1 - (rPc c j + 1) = rPc a j - rPc c j by omega]
        simp only [fPow]
        rw [Int.mul_assoc, Int.mul_assoc, Int.mul_comm p]
      · rw [if_neg (fun q => qc ((bit_t c hc j (by omega)).1 q)), if_neg qc, show rPc a j + 1 - (rPc c j + 0) = (rPc a j - rPc c j) + 1 by omega]
        simp only [fPow, Nat.add_zero]
        rw [Int.mul_assoc]
    · rw [if_neg (fun q => qa ((bit_t a ha j (by omega)).1 q)), if_neg qa, if_neg (fun q => qa (hb q)), Int.mul_one, Nat.add_zero, Nat.add_zero]
theorem rWy_L {a c : Nat} {p : Int} {L : Nat} (hL : L ≤ 7) (ha : a < 2 ^ L) : ∀ j, L ≤ j → j ≤ 7 → rWy (a : Int) p c j = rWy (a : Int) p c L := by
  intro j
  induction j with
  | zero => intro h _; rw [show L = 0 by omega]
  | succ j ih =>
    intro h hj
    by_cases e : L = j + 1
    · rw [e]
    · have h2 : 2 ^ L ≤ 2 ^ j := Nat.pow_le_pow_right (by decide) (by omega)
      have h7 : 2 ^ j ≤ 2 ^ 7 := Nat.pow_le_pow_right (by decide) (by omega)
      have hb : ¬ a.testBit j = true := by
        rw [Nat.testBit_lt_two_pow (by omega)]
        decide
      simp only [rWy]
      rw [if_neg (fun q => hb ((bit_t a (by omega) j (by omega)).1 q)), Int.mul_one, ih (by omega) (by omega)]
theorem fPow_nat (p : Nat) : ∀ n, fPow (p : Int) n = ((p ^ n : Nat) : Int) := by
  intro n
  induction n with
  | zero => rfl
  | succ n ih => simp only [fPow]; rw [ih, Nat.pow_succ]; simp
theorem wiB_nat {a p : Nat} {L : Nat} (hp : p ≤ 10) (hL : L ≤ 7) (ha : a < 2 ^ L) : ∀ c, c ≤ a + 1 → rWiB (a : Int) (p : Int) L c = ((nS a p c : Nat) : Int) := by
  have h7 : 2 ^ L ≤ 2 ^ 7 := Nat.pow_le_pow_right (by decide) (by omega)
  intro c
  induction c with
  | zero => intro _; rfl
  | succ c ih =>
    intro hc
    simp only [rWiB, nS, nW]
    rw [ih (by omega)]
    by_cases q : c &&& a = c
    · rw [if_pos ((sub_t a (by omega) c (by omega)).2 q), if_pos q, ← rWy_L hL ha 7 (by omega) (by omega), rWy_pow (by omega) (by omega) q 7 (by omega), show (10 : Int) - (p : Int) = ((10 - p : Nat) : Int) by omega, fPow_nat, fPow_nat]
      simp
    · rw [if_neg (fun q2 => q ((sub_t a (by omega) c (by omega)).1 q2)), if_neg q, Nat.add_zero]
theorem wiB_all {a p : Nat} {L : Nat} (hp : p ≤ 10) (hL : L ≤ 7) (ha : a < 2 ^ L) : rWiB (a : Int) (p : Int) L (a + 1) = ((10 ^ rPc a 7 : Nat) : Int) := by
  have h7 : 2 ^ L ≤ 2 ^ 7 := Nat.pow_le_pow_right (by decide) (by omega)
  rw [wiB_nat hp hL ha (a + 1) (by omega), nS_all a (by omega) p (by omega)]
theorem wiB_rng {op p : Int} {L : Nat} (hp : 0 ≤ p ∧ p ≤ 10) (hL : L ≤ 7) : ∀ c : Nat, 0 ≤ rWiB op p L c ∧ rWiB op p L c ≤ 10000000 * c := by
  intro c
  induction c with
  | zero => simp [rWiB]
  | succ c ih =>
    simp only [rWiB]
    have := rWy_7 (op := op) (c := c) hp hL
    split <;> omega
theorem wiB_pos {q : Nat → Int} {p : Int} {L : Nat} (hp : 0 ≤ p ∧ p ≤ 10) (hL : L ≤ 7) : 0 < rWiB (rOp q L) p L ((rOp q L).toNat + 1) := by
  obtain ⟨a, h1, h2⟩ := rOp_n (q := q) L hL
  rw [h1, show ((a : Int)).toNat = a by omega, show p = ((p.toNat : Nat) : Int) by omega, wiB_all (by omega) hL h2]
  have : 0 < 10 ^ rPc a 7 := Nat.pow_pos (by decide)
  omega
def f_X8_wt (s : jz_St) (c : Nat) : Nat → jz_St
  | 0 => s
  | j + 1 => jz_su (f_X8_wt s c j) 422 (6 + 5 * j + 4) (if jand (jshr c j) 1 = 1 then Int.tdiv (f_X8_wt s c j 420 (6 + 5 * j + 4)) 2 else f_X8_wt s c j 420 (6 + 5 * j + 4))
theorem wt_o (s : jz_St) (c : Nat) {x : Nat} (hx : x ≠ 422) : ∀ j, f_X8_wt s c j x = s x := by
  intro j
  induction j with
  | zero => rfl
  | succ j ih => simp only [f_X8_wt]; rw [jz_su_o hx, ih]
theorem td_2 {x : Int} (h : 0 ≤ x ∧ x ≤ 20) : 0 ≤ Int.tdiv x 2 ∧ Int.tdiv x 2 ≤ 20 := by
  rw [Int.tdiv_eq_ediv_of_nonneg h.1]
  omega
theorem wt_mr {s : jz_St} {c : Nat} {b b2 : Int} (h : mRw (s 422) b) (h2 : mRw (s 420) b2) : ∀ j, j ≤ 7 → mRw (f_X8_wt s c j 422) b := by
  intro j
  induction j with
  | zero => intro _; exact h
  | succ j ih =>
    intro hj
    simp only [f_X8_wt]
    have h3 := mRw_l h2 j (by omega)
    have h4 := td_2 h3.2.2.2.2
    refine mRw_su (ih (by omega)) ?_ ?_
    · rw [wt_o _ _ (by decide)]; split <;> omega
    · rw [hi_4 _ _ (by omega), wt_o _ _ (by decide)]; split <;> omega
def rWiC (s : jz_St) (c : Nat) : jz_St := f_X8_hour (f_X8_wt (f_X8_layThen s) c (s 420 3).toNat) 422
def rWiS (s : jz_St) (op : Int) : Nat → jz_St
  | 0 => s
  | c + 1 => if jand c (jxor op (-1)) = 0 then rWiC (rWiS s op c) c else rWiS s op c
theorem wiC_o (s : jz_St) (c : Nat) {x : Nat} (h1 : x ≠ 422) (h2 : x ≠ 425) (h3 : x ≠ 426) : rWiC s c x = s x := by
  unfold rWiC
  rw [hour_o h1 h2 h3, wt_o _ _ h1, layThen_o _ h1]
theorem wiS_o (s : jz_St) (op : Int) {x : Nat} (h1 : x ≠ 422) (h2 : x ≠ 425) (h3 : x ≠ 426) : ∀ c, rWiS s op c x = s x := by
  intro c
  induction c with
  | zero => rfl
  | succ c ih =>
    simp only [rWiS]
    split
    · rw [wiC_o _ _ h1 h2 h3, ih]
    · exact ih
def rWiV (s : jz_St) (op : Int) (c : Nat) : Int := fBC (rIF (rWiC (rWiS s op c) c 422) (rWiC (rWiS s op c) c 422 3).toNat).toNat
def rWiA (s : jz_St) (op k p : Int) (L : Nat) : Nat → Int
  | 0 => 0
  | c + 1 => if jand c (jxor op (-1)) = 0 then rWiA s op k p L c + (if k ≤ rWiV s op c then rWy op p c L else 0) else rWiA s op k p L c
theorem wiA_rng {s : jz_St} {op k p : Int} {L : Nat} (hp : 0 ≤ p ∧ p ≤ 10) (hL : L ≤ 7) : ∀ c : Nat, 0 ≤ rWiA s op k p L c ∧ rWiA s op k p L c ≤ 10000000 * c := by
  intro c
  induction c with
  | zero => simp [rWiA]
  | succ c ih =>
    simp only [rWiA]
    have := rWy_7 (op := op) (c := c) hp hL
    (repeat' split) <;> omega
theorem gc_step {x y : Int} (hx : 0 ≤ x) (hy : 0 ≤ y) : Nat.gcd y.toNat (Int.tmod x y).toNat = Nat.gcd x.toNat y.toNat := by
  obtain ⟨a, rfl⟩ := Int.eq_ofNat_of_zero_le hx
  obtain ⟨b, rfl⟩ := Int.eq_ofNat_of_zero_le hy
  have h : (Int.tmod (a : Int) (b : Int)).toNat = a % b := by
    rw [Int.tmod_eq_emod_of_nonneg (by omega)]
    rfl
  rw [h]
  show Nat.gcd b (a % b) = Nat.gcd a b
  rw [Nat.gcd_comm a b, Nat.gcd_rec b a, Nat.gcd_comm]
theorem gc_pos {x : Nat} {b : Int} (hb : 0 < b) : 0 < Nat.gcd x b.toNat := Nat.gcd_pos_of_pos_right _ (by omega)
