/-! the reference: its tape, read -/
theorem jz_su_id {s : jz_St} {k i : Nat} {z : Int} (h : s k i = z) : jz_su s k i z = s := by
  funext x y
  unfold jz_su
  split
  · next q => rw [q.1, q.2]; exact h.symm
  · rfl
theorem jc_lt {a b : Int} : jcmp a b < 0 ↔ a < b := by
  unfold jcmp
  split
  · omega
  · split <;> omega
theorem jc_gt {a b : Int} : 0 < jcmp a b ↔ b < a := by
  unfold jcmp
  split
  · omega
  · split <;> omega
def mBn (s : jz_St) (p : Nat) : Int := if (p : Int) < s 416 11 ∧ p < 120 then s 424 p else -1
theorem mBn_hi (s : jz_St) : ∀ q, 120 ≤ q → mBn s q = -1 := by
  intro q h
  unfold mBn
  rw [if_neg (by omega)]
def mTk (s : jz_St) : Prop := (0 ≤ s 416 12 ∧ s 416 12 ≤ s 416 11) ∧ s 416 11 ≤ 120 ∧ ∀ p, p < 120 → 0 ≤ s 424 p ∧ s 424 p ≤ 255
def mxT (u : Nat → Int) (p : Nat) : Int := if 0 < lxC u p 120 then (if lxC u p 120 ≤ 2 then 3 else 0) else if u p = -1 then 1 else if 97 ≤ u p ∧ u p ≤ 122 then 2 else if u p = 44 ∨ u p = 59 then 4 else 0
def mxV (u : Nat → Int) (p : Nat) : Int := if 0 < lxC u p 120 then lxW u p else if u p = -1 then -1000000 else u p
def mNx (s : jz_St) (a v t n : Int) : jz_St := jz_su (jz_su (jz_su (jz_su s 416 13 a) 416 15 v) 416 14 t) 416 12 n
theorem nx1 (s : jz_St) (a v t n v2 : Int) : jz_su (jz_su (jz_su (jz_su (jz_su s 416 13 a) 416 15 v) 416 14 t) 416 12 n) 416 15 v2 = jz_su (jz_su (jz_su (jz_su s 416 13 a) 416 15 v2) 416 14 t) 416 12 n := by
  funext x i
  simp only [jz_su]
  (repeat' split) <;> first | rfl | omega
theorem nx2 (s : jz_St) (a v t n v2 n2 : Int) : jz_su (jz_su (jz_su (jz_su (jz_su (jz_su s 416 13 a) 416 15 v) 416 14 t) 416 12 n) 416 15 v2) 416 12 n2 = jz_su (jz_su (jz_su (jz_su s 416 13 a) 416 15 v2) 416 14 t) 416 12 n2 := by
  rw [nx1, jz_su_su]
theorem nx3 (s : jz_St) (a v t n t2 : Int) : jz_su (jz_su (jz_su (jz_su (jz_su s 416 13 a) 416 15 v) 416 14 t) 416 12 n) 416 14 t2 = jz_su (jz_su (jz_su (jz_su s 416 13 a) 416 15 v) 416 14 t2) 416 12 n := by
  funext x i
  simp only [jz_su]
  (repeat' split) <;> first | rfl | omega
def f_X8_next (s : jz_St) : jz_St := jz_su (jz_su (jz_su (jz_su s 416 13 (s 416 12)) 416 15 (mxV (mBn s) (s 416 12).toNat)) 416 14 (mxT (mBn s) (s 416 12).toNat)) 416 12 (lxN (mBn s) (s 416 12).toNat)
theorem nx_a {s : jz_St} (hT : mTk s) {v0 t0 d : Int} (hv : v0 = if s 416 12 < s 416 11 then s 424 (s 416 12).toNat else -1000000)
    (ht : t0 = if s 416 12 = s 416 11 then 1 else if 97 ≤ v0 ∧ v0 ≤ 122 then 2 else if 48 ≤ v0 ∧ v0 ≤ 57 then 3 else if v0 = 44 ∨ v0 = 59 then 4 else 0)
    (hd : d = if s 416 12 < s 416 11 then 1 else 0) (h3 : t0 ≠ 3) :
    v0 = mxV (mBn s) (s 416 12).toNat ∧ t0 = mxT (mBn s) (s 416 12).toNat ∧ s 416 12 + d = (lxN (mBn s) (s 416 12).toNat : Nat) := by
  obtain ⟨h1, h2, h4⟩ := hT
  by_cases hl : s 416 12 < s 416 11
  · have h5 := h4 (s 416 12).toNat (by omega)
    have e : mBn s (s 416 12).toNat = s 424 (s 416 12).toNat := by unfold mBn; rw [if_pos (by omega)]
    rw [if_pos hl] at hv hd
    rw [if_neg (by omega)] at ht
    have h0 : lxC (mBn s) (s 416 12).toNat 120 = 0 := by
      refine lxC_zero _ _ _ (Or.inr ?_)
      rw [e]
      intro q
      rw [if_neg (by omega), if_pos (by omega)] at ht
      exact h3 ht
    refine ⟨?_, ?_, ?_⟩
    · unfold mxV; rw [h0, if_neg (by decide), e, if_neg (by omega)]; exact hv
    · unfold mxT; rw [h0, if_neg (by decide), e, if_neg (by omega), ← hv]
      (repeat' split) <;> (repeat' split at ht) <;> first | exact ht | omega
    · unfold lxN; rw [h0, if_neg (by decide), e, if_neg (by omega)]; omega
  · have e : mBn s (s 416 12).toNat = -1 := by unfold mBn; rw [if_neg (by omega)]
    rw [if_neg hl] at hv hd
    rw [if_pos (by omega)] at ht
    have h0 : lxC (mBn s) (s 416 12).toNat 120 = 0 := lxC_zero _ _ _ (Or.inr (by rw [e]; decide))
    refine ⟨?_, ?_, ?_⟩
    · unfold mxV; rw [h0, if_neg (by decide), e, if_pos rfl]; exact hv
    · unfold mxT; rw [h0, if_neg (by decide), e, if_pos rfl]; exact ht
    · unfold lxN; rw [h0, if_neg (by decide), e, if_pos rfl]; omega
theorem nx_b {s : jz_St} {k : Nat} (h1 : 0 < k) (hk : k = lxC (mBn s) (s 416 12).toNat 120) (h0 : 0 ≤ s 416 12) :
    lxV (mBn s) (s 416 12).toNat k = mxV (mBn s) (s 416 12).toNat ∧ (if 2 < (k : Int) then 0 else 3) = mxT (mBn s) (s 416 12).toNat ∧ s 416 12 + k = (lxN (mBn s) (s 416 12).toNat : Nat) := by
  refine ⟨?_, ?_, ?_⟩
  · unfold mxV lxW; rw [← hk, if_pos h1]
  · unfold mxT; rw [← hk, if_pos h1]; (repeat' split) <;> omega
  · unfold lxN; rw [← hk, if_pos h1]; omega
theorem mTk_next {s : jz_St} (h : mTk s) : mTk (f_X8_next s) := by
  obtain ⟨h1, h2, h3⟩ := h
  have hn : ((lxN (mBn s) (s 416 12).toNat : Nat) : Int) ≤ s 416 11 := by
    have hu : ∀ q, (s 416 11).toNat ≤ q → mBn s q = -1 := by
      intro q hq
      unfold mBn
      rw [if_neg (by omega)]
    have hC : ∀ m p, p ≤ (s 416 11).toNat → p + lxC (mBn s) p m ≤ (s 416 11).toNat := by
      intro m
      induction m with
      | zero => intro p h; simpa [lxC] using h
      | succ m ih =>
        intro p h
        simp only [lxC]
        split
        · next h1 =>
          have : p < (s 416 11).toNat := by
            rcases Nat.lt_or_ge p (s 416 11).toNat with q | q
            · exact q
            · rw [hu p q] at h1; omega
          have := ih (p + 1) (by omega)
          omega
        · omega
    have hc := hC 120 (s 416 12).toNat (by omega)
    unfold lxN
    split
    · omega
    · split
      · omega
      · next q =>
        rcases Nat.lt_or_ge (s 416 12).toNat (s 416 11).toNat with q2 | q2
        · omega
        · exact absurd (hu _ q2) q
  unfold mTk f_X8_next
  simp only [jz_su]
  simp
  exact ⟨by omega, h2, h3⟩
theorem mTk_su {s : jz_St} {a i : Nat} {z : Int} (h : mTk s) (h1 : a ≠ 424) (hn : a ≠ 416 ∨ (i ≠ 11 ∧ i ≠ 12)) : mTk (jz_su s a i z) := by
  unfold mTk
  rw [jz_su_n (by omega), jz_su_n (by omega), jz_su_o (fun q => h1 q.symm)]
  exact h
def f_X8_bad (s : jz_St) (k : Int) : jz_St := if s 416 16 = 0 then jz_su (jz_su s 416 16 k) 416 17 (s 416 13) else s
theorem mTk_bad {s : jz_St} {k : Int} (h : mTk s) : mTk (f_X8_bad s k) := by
  unfold f_X8_bad
  split
  · exact mTk_su (mTk_su h (by decide) (by decide)) (by decide) (by decide)
  · exact h
def f_X8_must (s : jz_St) (b : Int) : jz_St := if s 416 16 = 0 then (if b = 0 then f_X8_bad s 1 else f_X8_next s) else s
theorem mTk_must {s : jz_St} {b : Int} (h : mTk s) : mTk (f_X8_must s b) := by
  unfold f_X8_must
  split
  · split
    · exact mTk_bad h
    · exact mTk_next h
  · exact h
def v_X8_number (s : jz_St) (lo hi : Int) : Int := if s 416 16 = 0 ∧ s 416 14 = 3 ∧ lo ≤ s 416 15 ∧ s 416 15 ≤ hi then s 416 15 else lo
def f_X8_number (s : jz_St) (lo hi : Int) : jz_St := if s 416 16 = 0 then (if s 416 14 = 3 then (if lo ≤ s 416 15 ∧ s 416 15 ≤ hi then f_X8_next s else f_X8_bad s 2) else f_X8_bad s 1) else s
theorem mTk_number {s : jz_St} {lo hi : Int} (h : mTk s) : mTk (f_X8_number s lo hi) := by
  unfold f_X8_number
  split
  · split
    · split
      · exact mTk_next h
      · exact mTk_bad h
    · exact mTk_bad h
  · exact h
def f_X8_sign (s : jz_St) (c : Int) : jz_St := f_X8_must s (if s 416 14 = 4 ∧ s 416 15 = c then 1 else 0)
def fKb (z : Int) : Int := if z = 115 then 1 else if z = 97 then 2 else if z = 104 then 3 else if z = 98 then 4 else if z = 116 then 5 else -1000000
def f_X8_begin (s : jz_St) : jz_St := f_X8_next (jz_su (jz_su s 416 12 0) 416 16 0)
def f_X8_fail1 (s : jz_St) : jz_St := if s 416 16 = 0 ∧ s 416 14 ≠ 1 then f_X8_bad s 1 else s
def f_X8_failed (s : jz_St) : jz_St := jz_su (jz_su (f_X8_fail1 s) 416 11 0) 416 18 (if 0 < f_X8_fail1 s 416 16 then f_X8_fail1 s 416 16 else s 416 18)
