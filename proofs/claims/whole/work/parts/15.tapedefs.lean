theorem jz_su_su (s : jz_St) (k i : Nat) (a b : Int) : jz_su (jz_su s k i a) k i b = jz_su s k i b := by
  funext x y
  simp only [jz_su]
  split <;> rfl
/-! the tape, read -/
def fBn (s : jz_St) (p : Nat) : Int := if (p : Int) < s 2 1 ∧ p < 120 then s 3 p else -1
def lxC (u : Nat → Int) (p : Nat) : Nat → Nat
  | 0 => 0
  | m + 1 => if 48 ≤ u p ∧ u p ≤ 57 then 1 + lxC u (p + 1) m else 0
def lxV (u : Nat → Int) (p : Nat) : Nat → Int
  | 0 => 0
  | j + 1 => if j < 2 then 10 * lxV u p j + u (p + j) - 48 else lxV u p j
def lxT (u : Nat → Int) (p : Nat) : Int := if 0 < lxC u p 120 then (if lxC u p 120 ≤ 2 then -2 else -3) else u p
def lxN (u : Nat → Int) (p : Nat) : Nat := if 0 < lxC u p 120 then p + lxC u p 120 else if u p = -1 then p else p + 1
def lxW (u : Nat → Int) (p : Nat) : Int := lxV u p (lxC u p 120)
def f_X6_adv (s : jz_St) : jz_St := jz_su (jz_su (jz_su (jz_su s 2 2 (s 2 3)) 2 5 (lxW (fBn s) (s 2 3).toNat)) 2 4 (lxT (fBn s) (s 2 3).toNat)) 2 3 (lxN (fBn s) (s 2 3).toNat)
def jTk (s : jz_St) : Prop := (0 ≤ s 2 3 ∧ s 2 3 ≤ 120) ∧ 0 ≤ s 2 1 ∧ s 2 1 ≤ 120
def f_X6_tS (s : jz_St) (c : Int) : jz_St := if s 2 6 = 0 then (if s 2 4 = c then f_X6_adv s else jz_su s 2 6 1) else s
def f_X6_tN (s : jz_St) (lo hi : Int) : jz_St := if s 2 6 = 0 then (if s 2 4 = -2 then (if s 2 5 < lo ∨ hi < s 2 5 then jz_su s 2 6 2 else f_X6_adv s) else jz_su s 2 6 1) else s
def v_X6_tN (s : jz_St) (lo hi : Int) : Int := if s 2 6 = 0 ∧ s 2 4 = -2 ∧ lo ≤ s 2 5 ∧ s 2 5 ≤ hi then s 2 5 else 0
def fSort (c : Int) : Int := if c = 115 then 1 else if c = 97 then 2 else if c = 104 then 3 else if c = 98 then 4 else if c = 116 then 5 else 0
def f_X6_add (s : jz_St) (z : Int) : jz_St := if 0 ≤ s 2 1 ∧ s 2 1 < 120 then jz_su (jz_su s 3 (s 2 1).toNat z) 2 1 (s 2 1 + 1) else s
theorem lxC_ub (u : Nat → Int) (hu : ∀ q, 120 ≤ q → u q = -1) : ∀ m p, p ≤ 120 → p + lxC u p m ≤ 120 := by
  intro m
  induction m with
  | zero => intro p h; simpa [lxC] using h
  | succ m ih =>
    intro p h
    simp only [lxC]
    split
    · next h1 =>
      have : p < 120 := by
        rcases Nat.lt_or_ge p 120 with q | q
        · exact q
        · rw [hu p q] at h1; omega
      have := ih (p + 1) (by omega)
      omega
    · omega
theorem lxC_zero (u : Nat → Int) (p m : Nat) (h : m = 0 ∨ ¬ (48 ≤ u p ∧ u p ≤ 57)) : lxC u p m = 0 := by
  cases m with
  | zero => rfl
  | succ m =>
    simp only [lxC]
    rw [if_neg (by omega)]
theorem fBn_lt {s : jz_St} {p : Nat} (h : 0 ≤ fBn s p) : p < 120 := by
  unfold fBn at h
  split at h <;> omega
theorem fBn_hi (s : jz_St) : ∀ q, 120 ≤ q → fBn s q = -1 := by
  intro q h
  unfold fBn
  rw [if_neg (by omega)]
theorem lxN_ub (u : Nat → Int) (hu : ∀ q, 120 ≤ q → u q = -1) {p : Nat} (h : p ≤ 120) : lxN u p ≤ 120 := by
  have := lxC_ub u hu 120 p h
  unfold lxN
  split
  · exact this
  · split
    · exact h
    · next h1 =>
      rcases Nat.lt_or_ge p 120 with q | q
      · omega
      · exact absurd (hu p q) h1
theorem jTk_adv {s : jz_St} (h : jTk s) : jTk (f_X6_adv s) := by
  have := lxN_ub (fBn s) (fBn_hi s) (p := (s 2 3).toNat) (by have := h.1; omega)
  unfold jTk f_X6_adv
  simp only [jz_su]
  simp
  exact ⟨by omega, h.2⟩
theorem jTk_su {s : jz_St} {a i : Nat} {z : Int} (h : jTk s) (hn : a ≠ 2 ∨ (i ≠ 1 ∧ i ≠ 3)) : jTk (jz_su s a i z) := by
  unfold jTk
  rw [jz_su_n (by omega), jz_su_n (by omega)]
  exact h
theorem jTk_tS {s : jz_St} {c : Int} (h : jTk s) : jTk (f_X6_tS s c) := by
  unfold f_X6_tS
  split
  · split
    · exact jTk_adv h
    · exact jTk_su h (Or.inr (by decide))
  · exact h
theorem jTk_tN {s : jz_St} {lo hi : Int} (h : jTk s) : jTk (f_X6_tN s lo hi) := by
  unfold f_X6_tN
  split
  · split
    · split
      · exact jTk_su h (Or.inr (by decide))
      · exact jTk_adv h
    · exact jTk_su h (Or.inr (by decide))
  · exact h
def f_X6_readLeaf (s : jz_St) (k : Nat) : jz_St :=
  let a := k + 3 + (s k 2).toNat
  if fSort (s 2 4) = 0 then jz_su s 2 6 1 else
  if 7 ≤ s k 2 then jz_su s 2 6 3 else
  let s1 := jz_su (f_X6_adv s) a 1 (fSort (s 2 4))
  let s2 := jz_su (f_X6_tN s1 1 20) a 2 (v_X6_tN s1 1 20)
  let s3 := f_X6_tS (jz_su s2 a 5 (v_X6_tN s1 1 20)) 44
  let s4 := f_X6_tS (jz_su (f_X6_tN s3 0 9) a 3 (v_X6_tN s3 0 9)) 44
  let s5 := f_X6_tS (jz_su (f_X6_tN s4 0 9) a 4 (v_X6_tN s4 0 9)) 59
  jz_su s5 k 2 (s5 k 2 + 1)
def f_X6_readGoat (s : jz_St) (k : Nat) : jz_St :=
  let a := k + 10 + (s k 3).toNat
  if s 2 4 = 103 then
  if 4 ≤ s k 3 then jz_su s 2 6 3 else
  let s1 := f_X6_adv s
  let s2 := f_X6_tS (jz_su (f_X6_tN s1 0 40) a 1 (v_X6_tN s1 0 40)) 44
  let s3 := f_X6_tS (jz_su (f_X6_tN s2 0 9) a 2 (v_X6_tN s2 0 9)) 59
  jz_su s3 k 3 (s3 k 3 + 1)
  else jz_su s 2 6 1
def f_X6_rL (s : jz_St) (k i : Nat) : Nat → jz_St
  | 0 => s
  | m + 1 => if s 2 6 = 0 ∧ (i = 0 ∨ fSort (s 2 4) ≠ 0) then f_X6_rL (f_X6_readLeaf s k) k (i + 1) m else s
def f_X6_rG (s : jz_St) (k i : Nat) : Nat → jz_St
  | 0 => s
  | m + 1 => if s 2 6 = 0 ∧ (i = 0 ∨ s 2 4 ≠ -1) then f_X6_rG (f_X6_readGoat s k) k (i + 1) m else s
def f_X6_rH (s : jz_St) (k : Nat) : jz_St :=
  let s1 := f_X6_tS (f_X6_adv (jz_su (jz_su (f_X5_clear s k) 2 6 0) 2 3 0)) 118
  let s2 := f_X6_tS (jz_su (f_X6_tN s1 0 9) k 4 (v_X6_tN s1 0 9)) 44
  f_X6_tS (jz_su (f_X6_tN s2 1 9) k 5 (v_X6_tN s2 1 9)) 59
def f_X6_readInto (s : jz_St) (k : Nat) : jz_St := f_X6_rG (f_X6_rL (f_X6_rH s k) k 0 8) k 0 5
def jCt (s : jz_St) (k : Nat) : Prop := (0 ≤ s k 2 ∧ s k 2 ≤ 7) ∧ 0 ≤ s k 3 ∧ s k 3 ≤ 4
theorem adv_o (s : jz_St) {x : Nat} (h : x ≠ 2) : f_X6_adv s x = s x := by
  funext i
  simp [f_X6_adv, jz_su, h]
theorem tS_o (s : jz_St) (c : Int) {x : Nat} (h : x ≠ 2) : f_X6_tS s c x = s x := by
  unfold f_X6_tS
  split
  · split
    · exact adv_o s h
    · exact jz_su_o h
  · rfl
theorem tN_o (s : jz_St) (lo hi : Int) {x : Nat} (h : x ≠ 2) : f_X6_tN s lo hi x = s x := by
  unfold f_X6_tN
  split
  · split
    · split
      · exact jz_su_o h
      · exact adv_o s h
    · exact jz_su_o h
  · rfl
theorem sq_ne2 {k : Nat} (hk : jz_t k = .inl 5) : 6 ≤ k := by
  rcases jz_sq_pos hk with q | q <;> omega
theorem clL_2 (s : jz_St) (k : Nat) : ∀ j x, (∀ m, m < j → x ≠ k + 3 + m) → f_X5_clL s k j x = s x := by
  intro j
  induction j with
  | zero => intro x _; rfl
  | succ j ih =>
    intro x h
    simp only [f_X5_clL]
    rw [jz_su_o (h j (by omega)), ih x fun m hm => h m (by omega)]
theorem clG_2 (s : jz_St) (k : Nat) : ∀ j x, (∀ m, m < j → x ≠ k + 10 + m) → f_X5_clG s k j x = s x := by
  intro j
  induction j with
  | zero => intro x _; rfl
  | succ j ih =>
    intro x h
    simp only [f_X5_clG]
    rw [jz_su_o (h j (by omega)), ih x fun m hm => h m (by omega)]
theorem clear_o (s : jz_St) (k : Nat) {x : Nat} (h : x < k ∨ k + 14 ≤ x) : f_X5_clear s k x = s x := by
  unfold f_X5_clear
  rw [clG_2 _ _ _ _ (fun m hm => by omega), clL_2 _ _ _ _ (fun m hm => by omega), jz_su_o (by omega), jz_su_o (by omega), jz_su_o (by omega)]
theorem clear_k (s : jz_St) (k : Nat) : f_X5_clear s k k = jz_su (jz_su (jz_su s k 2 0) k 3 0) k 6 0 k := by
  unfold f_X5_clear
  rw [clG_2 _ _ _ _ (fun m hm => by omega), clL_2 _ _ _ _ (fun m hm => by omega)]
theorem readLeaf_k {s : jz_St} {k : Nat} (hk : 6 ≤ k) (h : jCt s k) (i : Nat) : f_X6_readLeaf s k k i = s k i ∨ (i = 2 ∧ f_X6_readLeaf s k k 2 = s k 2 + 1 ∧ s k 2 < 7) := by
  unfold f_X6_readLeaf
  simp only
  split
  · left; rw [jz_su_o (by omega)]
  · split
    · left; rw [jz_su_o (by omega)]
    · by_cases hi : i = 2
      · right
        subst hi
        refine ⟨rfl, ?_, by omega⟩
        rw [jz_su_s]
        congr 1
        rw [tS_o _ _ (by omega), jz_su_o (by omega), tN_o _ _ _ (by omega), tS_o _ _ (by omega), jz_su_o (by omega), tN_o _ _ _ (by omega), tS_o _ _ (by omega), jz_su_o (by omega), jz_su_o (by omega), tN_o _ _ _ (by omega), jz_su_o (by omega), adv_o _ (by omega)]
      · left
        rw [jz_su_f hi, tS_o _ _ (by omega), jz_su_o (by omega), tN_o _ _ _ (by omega), tS_o _ _ (by omega), jz_su_o (by omega), tN_o _ _ _ (by omega), tS_o _ _ (by omega), jz_su_o (by omega), jz_su_o (by omega), tN_o _ _ _ (by omega), jz_su_o (by omega), adv_o _ (by omega)]
theorem readGoat_k {s : jz_St} {k : Nat} (hk : 6 ≤ k) (h : jCt s k) (i : Nat) : f_X6_readGoat s k k i = s k i ∨ (i = 3 ∧ f_X6_readGoat s k k 3 = s k 3 + 1 ∧ s k 3 < 4) := by
  unfold f_X6_readGoat
  simp only
  split
  · split
    · left; rw [jz_su_o (by omega)]
    · by_cases hi : i = 3
      · right
        subst hi
        refine ⟨rfl, ?_, by omega⟩
        rw [jz_su_s]
        congr 1
        rw [tS_o _ _ (by omega), jz_su_o (by omega), tN_o _ _ _ (by omega), tS_o _ _ (by omega), jz_su_o (by omega), tN_o _ _ _ (by omega), adv_o _ (by omega)]
      · left
        rw [jz_su_f hi, tS_o _ _ (by omega), jz_su_o (by omega), tN_o _ _ _ (by omega), tS_o _ _ (by omega), jz_su_o (by omega), tN_o _ _ _ (by omega), adv_o _ (by omega)]
  · left; rw [jz_su_o (by omega)]
theorem readLeaf_ct {s : jz_St} {k : Nat} (hk : 6 ≤ k) (h : jCt s k) : jCt (f_X6_readLeaf s k) k := by
  have h2 := readLeaf_k hk h 2
  have h3 := readLeaf_k hk h 3
  unfold jCt at h ⊢
  omega
theorem readGoat_ct {s : jz_St} {k : Nat} (hk : 6 ≤ k) (h : jCt s k) : jCt (f_X6_readGoat s k) k := by
  have h2 := readGoat_k hk h 2
  have h3 := readGoat_k hk h 3
  unfold jCt at h ⊢
  omega
theorem readLeaf_tk {s : jz_St} {k : Nat} (hk : 6 ≤ k) (h : jTk s) : jTk (f_X6_readLeaf s k) := by
  unfold f_X6_readLeaf
  simp only
  split
  · exact jTk_su h (by omega)
  · split
    · exact jTk_su h (by omega)
    · exact jTk_su (jTk_tS (jTk_su (jTk_tN (jTk_tS (jTk_su (jTk_tN (jTk_tS (jTk_su (jTk_su (jTk_tN (jTk_su (jTk_adv h) (by omega))) (by omega)) (by omega)))) (by omega)))) (by omega))) (by omega)
theorem readGoat_tk {s : jz_St} {k : Nat} (hk : 6 ≤ k) (h : jTk s) : jTk (f_X6_readGoat s k) := by
  unfold f_X6_readGoat
  simp only
  split
  · split
    · exact jTk_su h (by omega)
    · exact jTk_su (jTk_tS (jTk_su (jTk_tN (jTk_tS (jTk_su (jTk_tN (jTk_adv h)) (by omega)))) (by omega))) (by omega)
  · exact jTk_su h (by omega)
/-! the past -/
def f_X3_keep (s : jz_St) (k : Nat) : jz_St :=
  let s1 := f_X5_take s (6 + 14 * (s 4 1).toNat) k
  let s2 := jz_su s1 4 1 (if s 4 1 + 1 < 24 then s 4 1 + 1 else 0)
  jz_su s2 4 2 (if s 4 2 + 1 < 24 then s 4 2 + 1 else 24)
def fLat (s : jz_St) : Int := if 0 < s 4 1 then s 4 1 - 1 else 23
def f_X3_back (s : jz_St) (k : Nat) : jz_St := if s 4 2 ≤ 0 then s else jz_su (jz_su (f_X5_take s k (6 + 14 * (fLat s).toNat)) 4 1 (fLat s)) 4 2 (s 4 2 - 1)
theorem tk1_o (s : jz_St) (a b : Nat) {x : Nat} (h : x ≠ a) : f_X1_take s a b x = s x := by
  funext i
  simp [f_X1_take, jz_su, h]
theorem tk0_o (s : jz_St) (a b : Nat) {x : Nat} (h : x ≠ a) : f_X0_take s a b x = s x := by
  funext i
  simp [f_X0_take, jz_su, h]
theorem tkL_o (s : jz_St) (k k2 : Nat) : ∀ j x, (∀ m, m < j → x ≠ k + 3 + m) → f_X5_tkL s k k2 j x = s x := by
  intro j
  induction j with
  | zero => intro x _; rfl
  | succ j ih =>
    intro x h
    simp only [f_X5_tkL]
    rw [tk1_o _ _ _ (h j (by omega)), ih x fun m hm => h m (by omega)]
theorem tkG_o (s : jz_St) (k k2 : Nat) : ∀ j x, (∀ m, m < j → x ≠ k + 10 + m) → f_X5_tkG s k k2 j x = s x := by
  intro j
  induction j with
  | zero => intro x _; rfl
  | succ j ih =>
    intro x h
    simp only [f_X5_tkG]
    rw [tk0_o _ _ _ (h j (by omega)), ih x fun m hm => h m (by omega)]
theorem hdr_o (s : jz_St) (k k2 : Nat) {x : Nat} (h : x ≠ k) : f_X5_hdr s k k2 x = s x := by
  funext i
  simp [f_X5_hdr, jz_su, h]
theorem take_o (s : jz_St) (k k2 : Nat) {x : Nat} (h : x < k ∨ k + 14 ≤ x) : f_X5_take s k k2 x = s x := by
  unfold f_X5_take
  rw [tkG_o _ _ _ _ _ (fun m hm => by omega), tkL_o _ _ _ _ _ (fun m hm => by omega), hdr_o _ _ _ (by omega)]
