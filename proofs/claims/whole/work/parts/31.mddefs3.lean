theorem nm_a {s s' : jz_St} {lo hi : Int} (h : s' = if s 416 16 = 0 then (if s 416 14 = 3 then (if lo ≤ s 416 15 ∧ s 416 15 ≤ hi then s else f_X8_bad s 2) else f_X8_bad s 1) else s) :
    (s' 416 16 = 0 → s' = s ∧ s 416 15 = v_X8_number s lo hi ∧ f_X8_next s = f_X8_number s lo hi) ∧ (s' 416 16 ≠ 0 → lo = v_X8_number s lo hi ∧ s' = f_X8_number s lo hi) := by
  unfold v_X8_number f_X8_number
  by_cases h0 : s 416 16 = 0
  · rw [if_pos h0] at h
    by_cases h1 : s 416 14 = 3
    · rw [if_pos h1] at h
      by_cases h2 : lo ≤ s 416 15 ∧ s 416 15 ≤ hi
      · rw [if_pos h2] at h
        subst h
        refine ⟨fun _ => ⟨rfl, ?_, ?_⟩, fun q => absurd h0 q⟩
        · rw [if_pos ⟨h0, h1, h2⟩]
        · rw [if_pos h0, if_pos h1, if_pos h2]
      · rw [if_neg h2] at h
        subst h
        refine ⟨fun q => absurd q (bad_16 s 2 (by decide)), fun _ => ⟨?_, ?_⟩⟩
        · rw [if_neg (fun q => h2 q.2.2)]
        · rw [if_pos h0, if_pos h1, if_neg h2]
    · rw [if_neg h1] at h
      subst h
      refine ⟨fun q => absurd q (bad_16 s 1 (by decide)), fun _ => ⟨?_, ?_⟩⟩
      · rw [if_neg (fun q => h1 q.2.1)]
      · rw [if_pos h0, if_neg h1]
  · rw [if_neg h0] at h
    subst h
    refine ⟨fun q => absurd q h0, fun _ => ⟨?_, ?_⟩⟩
    · rw [if_neg (fun q => h0 q.1)]
    · rw [if_neg h0]
def mTp (s : jz_St) : Prop := (0 ≤ s 416 11 ∧ s 416 11 ≤ 120) ∧ ∀ p, p < 120 → 0 ≤ s 424 p ∧ s 424 p ≤ 255
theorem mTk_begin {s : jz_St} (h : mTp s) : mTk (jz_su (jz_su s 416 12 0) 416 16 0) := by
  unfold mTk
  simp [jz_su]
  exact ⟨h.1.1, h.1.2, h.2⟩
theorem fail1_18 (s : jz_St) : f_X8_fail1 s 416 18 = s 416 18 := by
  unfold f_X8_fail1 f_X8_bad
  (repeat' split) <;> simp [jz_su]
theorem must_16 {s : jz_St} {b : Int} (h : s 416 16 ≠ 0) : f_X8_must s b = s := by
  unfold f_X8_must
  rw [if_neg h]
theorem sign_16 {s : jz_St} {c : Int} (h : s 416 16 ≠ 0) : f_X8_sign s c = s := must_16 h
theorem number_16 {s : jz_St} {lo hi : Int} (h : s 416 16 ≠ 0) : f_X8_number s lo hi = s := by
  unfold f_X8_number
  rw [if_neg h]
theorem rlD_7 {s : jz_St} (h : f_X8_rlD s 416 16 = 0) : s 421 3 ≠ 7 := by
  intro q
  have hb := bad_16 s 3 (by decide)
  have eA : f_X8_rlA s = f_X8_bad s 3 := by unfold f_X8_rlA; rw [if_pos q, must_16 hb]
  have eB : f_X8_rlB s = f_X8_bad s 3 := by unfold f_X8_rlB; rw [eA, number_16 hb, sign_16 hb]
  have eC : f_X8_rlC s = f_X8_bad s 3 := by unfold f_X8_rlC; rw [eB, number_16 hb, sign_16 hb]
  have eD : f_X8_rlD s = f_X8_bad s 3 := by unfold f_X8_rlD; rw [eC, number_16 hb, sign_16 hb]
  rw [eD] at h
  exact hb h
theorem rgC_4 {s : jz_St} (h : f_X8_rgC s 416 16 = 0) : s 421 4 ≠ 4 := by
  intro q
  have hb := bad_16 s 3 (by decide)
  have e0 : f_X8_gt0 s = f_X8_bad s 3 := by unfold f_X8_gt0; rw [if_pos q]
  have eA : f_X8_rgA s = f_X8_bad s 3 := by unfold f_X8_rgA; rw [e0, must_16 hb]
  have eB : f_X8_rgB s = f_X8_bad s 3 := by unfold f_X8_rgB; rw [eA, number_16 hb, sign_16 hb]
  have eC : f_X8_rgC s = f_X8_bad s 3 := by unfold f_X8_rgC; rw [eB, number_16 hb, sign_16 hb]
  rw [eC] at h
  exact hb h
theorem readLeaf_c {s : jz_St} {j : Int} (h3 : s 421 3 = j) (hj : 0 ≤ j ∧ j ≤ 7) : f_X8_readLeaf s 421 4 = s 421 4 ∧ ((f_X8_readLeaf s 416 16 = 0 ∧ j < 7 ∧ f_X8_readLeaf s 421 3 = j + 1) ∨ (f_X8_readLeaf s 416 16 ≠ 0 ∧ f_X8_readLeaf s 421 3 = j)) := by
  unfold f_X8_readLeaf
  by_cases h : f_X8_rlD s 416 16 = 0
  · rw [if_pos h]
    have h7 := rlD_7 h
    have e := rlD_o s (x := 421) (by decide)
    unfold f_X8_lfW
    (try simp only)
    refine ⟨?_, Or.inl ⟨?_, by omega, ?_⟩⟩
    · rw [jz_su_f (by decide), jz_su_f (by omega), jz_su_f (by omega), jz_su_f (by omega), jz_su_f (by omega), jz_su_f (by omega), e]
    · rw [jz_su_o (by decide), jz_su_o (by decide), jz_su_o (by decide), jz_su_o (by decide), jz_su_o (by decide), jz_su_o (by decide)]; exact h
    · rw [jz_su_s, e, h3]
  · rw [if_neg h, rlD_o s (x := 421) (by decide)]
    exact ⟨rfl, Or.inr ⟨h, h3⟩⟩
theorem readGoat_c {s : jz_St} {j : Int} (h3 : s 421 4 = j) (hj : 0 ≤ j ∧ j ≤ 4) : f_X8_readGoat s 421 3 = s 421 3 ∧ ((f_X8_readGoat s 416 16 = 0 ∧ j < 4 ∧ f_X8_readGoat s 421 4 = j + 1) ∨ (f_X8_readGoat s 416 16 ≠ 0 ∧ f_X8_readGoat s 421 4 = j)) := by
  unfold f_X8_readGoat
  by_cases h : f_X8_rgC s 416 16 = 0
  · rw [if_pos h]
    have h7 := rgC_4 h
    have e := rgC_o s (x := 421) (by decide)
    unfold f_X8_gtW
    (try simp only)
    refine ⟨?_, Or.inl ⟨?_, by omega, ?_⟩⟩
    · rw [jz_su_f (by decide), jz_su_f (by omega), jz_su_f (by omega), e]
    · rw [jz_su_o (by decide), jz_su_o (by decide), jz_su_o (by decide)]; exact h
    · rw [jz_su_s, e, h3]
  · rw [if_neg h, rgC_o s (x := 421) (by decide)]
    exact ⟨rfl, Or.inr ⟨h, h3⟩⟩
/-! the text as a whole -/
def f_X8_zf (s : jz_St) : Nat → jz_St
  | 0 => s
  | j + 1 => jz_su (f_X8_zf s j) 421 j 0
def f_X8_sqA (s : jz_St) : jz_St := jz_su (f_X8_zf (f_X8_begin s) 53) 421 0 1
def f_X8_sqB (s : jz_St) : jz_St := f_X8_must (f_X8_sqA s) (v_X8_isLetter (f_X8_sqA s) 118)
def f_X8_sqC (s : jz_St) : jz_St := f_X8_sign (jz_su (f_X8_number (f_X8_sqB s) 0 9) 421 1 (v_X8_number (f_X8_sqB s) 0 9)) 44
def f_X8_sqD (s : jz_St) : jz_St := f_X8_sign (jz_su (f_X8_number (f_X8_sqC s) 1 9) 421 2 (v_X8_number (f_X8_sqC s) 1 9)) 59
def f_X8_sqE (s : jz_St) : jz_St := if v_X8_isSort (f_X8_sqD s) = 0 then f_X8_bad (f_X8_sqD s) 1 else f_X8_sqD s
def f_X8_rL (s : jz_St) : Nat → jz_St
  | 0 => s
  | m + 1 => if v_X8_isSort s = 0 then s else f_X8_rL (f_X8_readLeaf s) m
def f_X8_sqF (s : jz_St) : jz_St := if v_X8_isLetter (f_X8_rL (f_X8_sqE s) 9) 103 = 0 then f_X8_bad (f_X8_rL (f_X8_sqE s) 9) 1 else f_X8_rL (f_X8_sqE s) 9
def f_X8_rG (s : jz_St) : Nat → jz_St
  | 0 => s
  | m + 1 => if v_X8_isLetter s 103 = 0 then s else f_X8_rG (f_X8_readGoat s) m
def f_X8_sqG (s : jz_St) : jz_St := f_X8_rG (f_X8_sqF s) 6
def f_X8_sqH (s : jz_St) : jz_St := f_X8_failed (f_X8_sqG s)
/-- one row of numbers copied from another -/
def f_X8_rc (s : jz_St) (a b o p : Nat) : Nat → jz_St
  | 0 => s
  | j + 1 => jz_su (f_X8_rc s a b o p j) a (o + j) (f_X8_rc s a b o p j b (p + j))
theorem rc_o (s : jz_St) (a b o p : Nat) {x : Nat} (h : x ≠ a) : ∀ j, f_X8_rc s a b o p j x = s x := by
  intro j
  induction j with
  | zero => rfl
  | succ j ih =>
    simp only [f_X8_rc]
    rw [jz_su_o h, ih]
theorem rc_in (s : jz_St) (a b o p : Nat) (hab : b ≠ a) : ∀ j i, f_X8_rc s a b o p j a i = if o ≤ i ∧ i < o + j then s b (p + (i - o)) else s a i := by
  intro j
  induction j with
  | zero => intro i; rw [if_neg (by omega)]; rfl
  | succ j ih =>
    intro i
    simp only [f_X8_rc]
    by_cases e : i = o + j
    · subst e
      rw [jz_su_s, if_pos (by omega), rc_o _ _ _ _ _ hab, show p + (o + j - o) = p + j by omega]
    · rw [jz_su_f e, ih]
      by_cases h : o ≤ i ∧ i < o + j
      · rw [if_pos h, if_pos (by omega)]
      · rw [if_neg h, if_neg (by omega)]
def v_X8_square (s : jz_St) : Int := if 0 < f_X8_fail1 (f_X8_sqG s) 416 16 then -1000100 - f_X8_sqH s 416 17 else f_X8_sqH s 421 3
def f_X8_square (s : jz_St) : jz_St := if 0 < f_X8_fail1 (f_X8_sqG s) 416 16 then f_X8_sqH s else f_X8_rc (jz_su (f_X8_sqH s) 416 9 0) 420 421 0 0 53
theorem begin_o (s : jz_St) {x : Nat} (h : x ≠ 416) : f_X8_begin s x = s x := by
  unfold f_X8_begin
  rw [next_o _ h, jz_su_o h, jz_su_o h]
theorem zf_o (s : jz_St) {x : Nat} (h : x ≠ 421) : ∀ j, f_X8_zf s j x = s x := by
  intro j
  induction j with
  | zero => rfl
  | succ j ih =>
    simp only [f_X8_zf]
    rw [jz_su_o h, ih]
theorem zf_in (s : jz_St) : ∀ j i, f_X8_zf s j 421 i = if i < j then 0 else s 421 i := by
  intro j
  induction j with
  | zero => intro i; rw [if_neg (by omega)]; rfl
  | succ j ih =>
    intro i
    simp only [f_X8_zf]
    by_cases e : i = j
    · subst e; rw [jz_su_s, if_pos (by omega)]
    · rw [jz_su_f e, ih]
      by_cases h : i < j
      · rw [if_pos h, if_pos (by omega)]
      · rw [if_neg h, if_neg (by omega)]
theorem mTk_of {s s' : jz_St} (h : mTk s) (h1 : s' 416 = s 416) (h2 : s' 424 = s 424) : mTk s' := by
  unfold mTk
  rw [h1, h2]
  exact h
theorem mTk_sqA {s : jz_St} (h : mTp s) : mTk (f_X8_sqA s) := by
  refine mTk_of (mTk_next (mTk_begin h)) ?_ ?_
  · unfold f_X8_sqA; rw [jz_su_o (by decide), zf_o _ (by decide)]; rfl
  · unfold f_X8_sqA; rw [jz_su_o (by decide), zf_o _ (by decide)]; rfl
theorem mTk_sqB {s : jz_St} (h : mTp s) : mTk (f_X8_sqB s) := mTk_must (mTk_sqA h)
theorem mTk_sqC {s : jz_St} (h : mTp s) : mTk (f_X8_sqC s) := mTk_sign (mTk_su (mTk_number (mTk_sqB h)) (by decide) (Or.inl (by decide)))
theorem mTk_sqD {s : jz_St} (h : mTp s) : mTk (f_X8_sqD s) := mTk_sign (mTk_su (mTk_number (mTk_sqC h)) (by decide) (Or.inl (by decide)))
theorem mTk_sqE {s : jz_St} (h : mTp s) : mTk (f_X8_sqE s) := by
  unfold f_X8_sqE
  split
  · exact mTk_bad (mTk_sqD h)
  · exact mTk_sqD h
theorem sqE_3 (s : jz_St) (i : Nat) (hi : i = 3 ∨ i = 4) : f_X8_sqE s 421 i = 0 := by
  have h0 : f_X8_sqD s 421 i = 0 := by
    unfold f_X8_sqD f_X8_sqC f_X8_sqB f_X8_sqA
    rw [sign_o _ _ (by decide), jz_su_f (by omega), number_o _ _ _ (by decide), sign_o _ _ (by decide), jz_su_f (by omega), number_o _ _ _ (by decide), must_o _ _ (by decide), jz_su_f (by omega), zf_in, if_pos (by omega)]
  unfold f_X8_sqE
  split
  · rw [bad_o _ _ (by decide)]; exact h0
  · exact h0
