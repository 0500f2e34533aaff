def f_X8_zr (s : jz_St) (a : Nat) : Nat → jz_St
  | 0 => s
  | j + 1 => jz_su (f_X8_zr s a j) 419 (a + j) 0
def f_X8_cp (s : jz_St) (a b : Nat) (up : Int) (n : Nat) : Nat → jz_St
  | 0 => s
  | k + 1 => jz_su (f_X8_cp s a b up n k) 419 (b + (if up = 0 then n - 1 - k else k)) (f_X8_cp s a b up n k 419 (a + (if up = 0 then n - 1 - k else k)))
theorem f_X8_cp_o (s : jz_St) (a b : Nat) (up : Int) (n : Nat) {x : Nat} (h : x ≠ 419) : ∀ k, f_X8_cp s a b up n k x = s x := by
  intro k
  induction k with
  | zero => rfl
  | succ k ih =>
    simp only [f_X8_cp]
    rw [jz_su_o h, ih]
theorem f_X8_zr_o (s : jz_St) (a : Nat) {x : Nat} (h : x ≠ 419) : ∀ k, f_X8_zr s a k x = s x := by
  intro k
  induction k with
  | zero => rfl
  | succ k ih =>
    simp only [f_X8_zr]
    rw [jz_su_o h, ih]
/-- what the reference's rows keep to -/
def mLn (s : jz_St) : Prop := s 416 0 = 0 ∧ ∀ r, r < 8 → (-1 ≤ s 417 r ∧ s 417 r ≤ 2) ∧ 0 ≤ s 418 r ∧ s 418 r ≤ 40
/-! the text -/
def f_X8_lfW (s : jz_St) (kd sz ht ta : Int) : jz_St :=
  let to := 6 + 5 * (s 421 3).toNat
  let s1 := jz_su (jz_su (jz_su (jz_su (jz_su s 421 to kd) 421 (to + 1) sz) 421 (to + 2) ht) 421 (to + 3) ta) 421 (to + 4) sz
  jz_su s1 421 3 (s 421 3 + 1)
def f_X8_rlA (s : jz_St) : jz_St := f_X8_must (if s 421 3 = 7 then f_X8_bad s 3 else s) 1
def f_X8_rlB (s : jz_St) : jz_St := f_X8_sign (f_X8_number (f_X8_rlA s) 1 20) 44
def f_X8_rlC (s : jz_St) : jz_St := f_X8_sign (f_X8_number (f_X8_rlB s) 0 9) 44
def f_X8_rlD (s : jz_St) : jz_St := f_X8_sign (f_X8_number (f_X8_rlC s) 0 9) 59
def f_X8_readLeaf (s : jz_St) : jz_St := if f_X8_rlD s 416 16 = 0 then f_X8_lfW (f_X8_rlD s) (fKb (s 416 15)) (v_X8_number (f_X8_rlA s) 1 20) (v_X8_number (f_X8_rlB s) 0 9) (v_X8_number (f_X8_rlC s) 0 9) else f_X8_rlD s
def mLet (s : jz_St) (c : Int) : Prop := s 416 16 = 0 ∧ s 416 14 = 2 ∧ s 416 15 = c
def v_X8_isLetter (s : jz_St) (c : Int) : Int := if s 416 16 = 0 ∧ s 416 14 = 2 ∧ s 416 15 = c then 1 else 0
def v_X8_isSort (s : jz_St) : Int := if s 416 16 = 0 ∧ s 416 14 = 2 ∧ fKb (s 416 15) ≠ -1000000 then 1 else 0
def f_X8_gtW (s : jz_St) (hu re : Int) : jz_St :=
  let to := 41 + 3 * (s 421 4).toNat
  jz_su (jz_su (jz_su s 421 to hu) 421 (to + 1) re) 421 4 (s 421 4 + 1)
def f_X8_gt0 (s : jz_St) : jz_St := if s 421 4 = 4 then f_X8_bad s 3 else s
def f_X8_rgA (s : jz_St) : jz_St := f_X8_must (f_X8_gt0 s) (v_X8_isLetter (f_X8_gt0 s) 103)
def f_X8_rgB (s : jz_St) : jz_St := f_X8_sign (f_X8_number (f_X8_rgA s) 0 40) 44
def f_X8_rgC (s : jz_St) : jz_St := f_X8_sign (f_X8_number (f_X8_rgB s) 0 9) 59
def f_X8_readGoat (s : jz_St) : jz_St := if f_X8_rgC s 416 16 = 0 then f_X8_gtW (f_X8_rgC s) (v_X8_number (f_X8_rgA s) 0 40) (v_X8_number (f_X8_rgB s) 0 9) else f_X8_rgC s
theorem next_o (s : jz_St) {x : Nat} (h : x ≠ 416) : f_X8_next s x = s x := by
  unfold f_X8_next
  rw [jz_su_o h, jz_su_o h, jz_su_o h, jz_su_o h]
theorem next_n (s : jz_St) {i : Nat} (h : i ≠ 12 ∧ i ≠ 13 ∧ i ≠ 14 ∧ i ≠ 15) : f_X8_next s 416 i = s 416 i := by
  unfold f_X8_next
  rw [jz_su_f h.1, jz_su_f h.2.2.1, jz_su_f h.2.2.2, jz_su_f h.2.1]
theorem bad_o (s : jz_St) (k : Int) {x : Nat} (h : x ≠ 416) : f_X8_bad s k x = s x := by
  unfold f_X8_bad
  split
  · rw [jz_su_o h, jz_su_o h]
  · rfl
theorem must_o (s : jz_St) (b : Int) {x : Nat} (h : x ≠ 416) : f_X8_must s b x = s x := by
  unfold f_X8_must
  split
  · split
    · exact bad_o s 1 h
    · exact next_o s h
  · rfl
theorem sign_o (s : jz_St) (c : Int) {x : Nat} (h : x ≠ 416) : f_X8_sign s c x = s x := must_o s _ h
theorem number_o (s : jz_St) (lo hi : Int) {x : Nat} (h : x ≠ 416) : f_X8_number s lo hi x = s x := by
  unfold f_X8_number
  split
  · split
    · split
      · exact next_o s h
      · exact bad_o s 2 h
    · exact bad_o s 1 h
  · rfl
theorem mTk_rlA {s : jz_St} (h : mTk s) : mTk (f_X8_rlA s) := by
  unfold f_X8_rlA
  split
  · exact mTk_must (mTk_bad h)
  · exact mTk_must h
theorem mTk_sign {s : jz_St} {c : Int} (h : mTk s) : mTk (f_X8_sign s c) := mTk_must h
theorem mTk_rlB {s : jz_St} (h : mTk s) : mTk (f_X8_rlB s) := mTk_sign (mTk_number (mTk_rlA h))
theorem mTk_rlC {s : jz_St} (h : mTk s) : mTk (f_X8_rlC s) := mTk_sign (mTk_number (mTk_rlB h))
theorem mTk_rlD {s : jz_St} (h : mTk s) : mTk (f_X8_rlD s) := mTk_sign (mTk_number (mTk_rlC h))
theorem rlA_o (s : jz_St) {x : Nat} (h : x ≠ 416) : f_X8_rlA s x = s x := by
  unfold f_X8_rlA
  rw [must_o _ _ h]
  split
  · exact bad_o s 3 h
  · rfl
theorem rlD_o (s : jz_St) {x : Nat} (h : x ≠ 416) : f_X8_rlD s x = s x := by
  unfold f_X8_rlD f_X8_rlC f_X8_rlB
  rw [sign_o _ _ h, number_o _ _ _ h, sign_o _ _ h, number_o _ _ _ h, sign_o _ _ h, number_o _ _ _ h, rlA_o s h]
theorem mTk_gt0 {s : jz_St} (h : mTk s) : mTk (f_X8_gt0 s) := by
  unfold f_X8_gt0
  split
  · exact mTk_bad h
  · exact h
theorem mTk_rgA {s : jz_St} (h : mTk s) : mTk (f_X8_rgA s) := mTk_must (mTk_gt0 h)
theorem mTk_rgB {s : jz_St} (h : mTk s) : mTk (f_X8_rgB s) := mTk_sign (mTk_number (mTk_rgA h))
theorem mTk_rgC {s : jz_St} (h : mTk s) : mTk (f_X8_rgC s) := mTk_sign (mTk_number (mTk_rgB h))
theorem rgC_o (s : jz_St) {x : Nat} (h : x ≠ 416) : f_X8_rgC s x = s x := by
  unfold f_X8_rgC f_X8_rgB f_X8_rgA
  rw [sign_o _ _ h, number_o _ _ _ h, sign_o _ _ h, number_o _ _ _ h, must_o _ _ h]
  unfold f_X8_gt0
  split
  · exact bad_o s 3 h
  · rfl
theorem mTk_lfW {s : jz_St} {a b c d : Int} (h : mTk s) : mTk (f_X8_lfW s a b c d) := by
  unfold f_X8_lfW
  exact mTk_su (mTk_su (mTk_su (mTk_su (mTk_su (mTk_su h (by decide) (Or.inl (by decide))) (by decide) (Or.inl (by decide))) (by decide) (Or.inl (by decide))) (by decide) (Or.inl (by decide))) (by decide) (Or.inl (by decide))) (by decide) (Or.inl (by decide))
theorem mTk_gtW {s : jz_St} {a b : Int} (h : mTk s) : mTk (f_X8_gtW s a b) := by
  unfold f_X8_gtW
  exact mTk_su (mTk_su (mTk_su h (by decide) (Or.inl (by decide))) (by decide) (Or.inl (by decide))) (by decide) (Or.inl (by decide))
theorem mTk_readLeaf {s : jz_St} (h : mTk s) : mTk (f_X8_readLeaf s) := by
  unfold f_X8_readLeaf
  split
  · exact mTk_lfW (mTk_rlD h)
  · exact mTk_rlD h
theorem mTk_readGoat {s : jz_St} (h : mTk s) : mTk (f_X8_readGoat s) := by
  unfold f_X8_readGoat
  split
  · exact mTk_gtW (mTk_rgC h)
  · exact mTk_rgC h
