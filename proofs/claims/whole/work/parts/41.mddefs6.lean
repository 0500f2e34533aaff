def rSo (s : jz_St) (l fr : Nat) : Nat → Int
  | 0 => 1
  | j + 1 => if rSo s l fr j ≠ 0 ∧ f_X8_hoursOf s 422 (j + 1) 422 (6 + 5 * l + 4) = s 419 (fr + j) then 1 else 0
theorem rSo_01 (s : jz_St) (l fr : Nat) : ∀ j : Nat, rSo s l fr j = 0 ∨ rSo s l fr j = 1 := by
  intro j
  cases j with
  | zero => exact Or.inr rfl
  | succ j => simp only [rSo]; split <;> simp
def rWt (w : Int) : Nat := if w = 0 then 0 else if w = 1 then 2 else 3
def rLo (w : Int) : Nat := if w = 0 then 1 else 0
theorem rWt_lt (w : Int) : rWt w < 4 := by
  unfold rWt
  (repeat' split) <;> omega
def rWhA (s : jz_St) (l : Int) (w : Int) (v : Nat) : jz_St := jz_su (f_X8_layThen s) 422 (6 + 5 * l.toNat + rWt w) v
theorem whA_mr {s : jz_St} {l w b : Int} {v : Nat} (hl : l.toNat < 7) (hv : (v : Int) ≤ fWhi w) (hm : mRw (s 420) b) : mRw (rWhA s l w v 422) b := by
  unfold rWhA
  refine mRw_su (layThen_mr hm) (by omega) ?_
  unfold fWhi at hv
  unfold rWt
  by_cases h0 : w = 0
  · rw [if_pos h0] at hv ⊢
    show _ ≤ mHi (6 + 5 * l.toNat) b
    rw [hi_0 _ _ hl]; omega
  · rw [if_neg h0] at hv ⊢
    by_cases h1 : w = 1
    · rw [if_pos h1] at hv ⊢
      rw [hi_2 _ _ hl]; omega
    · rw [if_neg h1] at hv ⊢
      rw [hi_3 _ _ hl]; omega
def rWh (s : jz_St) (l w : Int) (o fr n : Nat) (acc : Int) (v : Nat) : Nat → Int × jz_St
  | 0 => (acc, s)
  | m + 1 => rWh (f_X8_hoursOf (rWhA s l w v) 422 n) l w o fr n (jor acc (if rSo (rWhA s l w v) o fr n = 0 then 0 else jshl 1 v)) (v + 1) m
theorem whA_o (s : jz_St) (l w : Int) (v : Nat) {x : Nat} (h1 : x ≠ 422) : rWhA s l w v x = s x := by
  unfold rWhA
  rw [jz_su_o h1, layThen_o _ h1]
def rStT (s : jz_St) (n : Int) (j : Nat) : jz_St := f_X8_layOff s (jshl 1 j) n
def rStS (s : jz_St) (n : Int) : Nat → jz_St
  | 0 => f_X8_hoursOf (f_X8_layThen s) 422 n.toNat
  | j + 1 => f_X8_hoursOf (rStT (rStS s n j) n j) 422 n.toNat
def rSt (s : jz_St) (l fr : Nat) (n : Int) : Nat → Int
  | 0 => if rSo (f_X8_layThen s) l fr n.toNat = 0 then 0 else 16
  | j + 1 => jor (rSt s l fr n j) (if rSo (rStT (rStS s n j) n j) l fr n.toNat = 0 then 0 else jshl 1 j)
theorem stS_o (s : jz_St) (n : Int) {x : Nat} (h1 : x ≠ 422) (h2 : x ≠ 425) (h3 : x ≠ 426) : ∀ j, rStS s n j x = s x := by
  intro j
  induction j with
  | zero => simp only [rStS]; rw [hoursOf_o h1 h2 h3, layThen_o _ h1]
  | succ j ih => simp only [rStS, rStT]; rw [hoursOf_o h1 h2 h3, layOff_o _ _ _ h1, ih]
def rRvE (q : Nat → Int) (a b : Nat) : Int := if rLk q a ≠ -1000000 ∧ rLk q a = rLk q b then 1 else 0
def rRvP (q : Nat → Int) (a b : Nat) (p : Int × Int) : Int × Int := (p.1 + rRvE q a b, if rRvE q a b = 0 then p.2 else 10 * a + b)
def rI (q : Nat → Int) (a : Nat) : Nat → Int × Int → Int × Int
  | 0, p => p
  | b + 1, p => if a < b then rI q a b (rRvP q a b p) else p
def rO (q : Nat → Int) (L : Nat) : Nat → Int × Int → Int × Int
  | 0, p => p
  | a + 1, p => rO q L a (rI q a L p)
def rVo (q : Nat → Int) : Nat → Int
  | 0 => 0
  | j + 1 => rVo q j + if q (6 + 5 * j + 4) = 0 then 1 else 0
theorem rVo_rng (q : Nat → Int) : ∀ j : Nat, 0 ≤ rVo q j ∧ rVo q j ≤ j := by
  intro j
  induction j with
  | zero => simp [rVo]
  | succ j ih => simp only [rVo]; split <;> omega
def rBfG (s : jz_St) (x : Int) : jz_St := if x % 3 = 0 then jz_su s 422 (41 + 3 * (x % s 422 4).toNat + 2) 2 else s
def rBfL (s : jz_St) (x : Int) : jz_St := if x % 5 = 0 then jz_su s 422 (6 + 5 * (x % s 422 3).toNat + 4) (s 422 (6 + 5 * (x % s 422 3).toNat + 1)) else s
def rBf (s : jz_St) (x : Int) : jz_St := rBfL (rBfG s x) x
def rDrS (s : jz_St) (d : Int) : Nat → jz_St
  | 0 => f_X8_layThen s
  | j + 1 => f_X8_hour (rBf (rDrS s d j) (fDrX d (j + 1))) 422
def rVoL (s : jz_St) : Int := rVo (s 422) (s 422 3).toNat
def rDrG (s : jz_St) (d : Int) : Nat → Int
  | 0 => 0
  | j + 1 => rDrG s d j + (rVoL (rDrS s d (j + 1)) - rVoL (rBf (rDrS s d j) (fDrX d (j + 1))))
theorem bfG_mr {s : jz_St} {x b : Int} (hg : 1 ≤ s 422 4) (hm : mRw (s 422) b) : mRw (rBfG s x 422) b := by
  have hmh := mRw_h hm
  unfold rBfG
  split
  · have := em_b (x := x) (y := s 422 4) (by omega)
    refine mRw_su hm (by decide) ?_
    rw [hi_g2]; decide
  · exact hm
theorem bfG_h {s : jz_St} {x : Int} {i : Nat} (hi : i < 41) : rBfG s x 422 i = s 422 i := by
  unfold rBfG
  split
  · rw [jz_su_f (by omega)]
  · rfl
theorem bfL_mr {s : jz_St} {x b : Int} (hg : 1 ≤ s 422 3) (hm : mRw (s 422) b) : mRw (rBfL s x 422) b := by
  have hmh := mRw_h hm
  unfold rBfL
  split
  · have := em_b (x := x) (y := s 422 3) (by omega)
    have h2 := mRw_l hm (x % s 422 3).toNat (by omega)
    refine mRw_su hm (by omega) ?_
    rw [hi_4 _ _ (by omega)]; omega
  · exact hm
theorem bfL_h {s : jz_St} {x : Int} {i : Nat} (hi : i < 6) : rBfL s x 422 i = s 422 i := by
  unfold rBfL
  split
  · rw [jz_su_f (by omega)]
  · rfl
theorem bf_mr {s : jz_St} {x b : Int} (hg : 1 ≤ s 422 4) (hl : 1 ≤ s 422 3) (hm : mRw (s 422) b) : mRw (rBf s x 422) b := bfL_mr (by rw [bfG_h (by decide)]; exact hl) (bfG_mr hg hm)
theorem bf_h {s : jz_St} {x : Int} {i : Nat} (hi : i < 6) : rBf s x 422 i = s 422 i := by
  unfold rBf
  rw [bfL_h hi, bfG_h (by omega)]
theorem drS_i {s : jz_St} {d : Int} (hg : 1 ≤ s 420 4) (hl : 1 ≤ s 420 3) (hm : mRw (s 420) 999) : ∀ j : Nat, mRw (rDrS s d j 422) (999 + j) ∧ (∀ i, i < 5 → rDrS s d j 422 i = s 420 i) := by
  intro j
  induction j with
  | zero =>
    simp only [rDrS]
    exact ⟨mRw_mono (layThen_mr hm) (by omega), fun i hi => layThen_in s (by omega)⟩
  | succ j ih =>
    simp only [rDrS]
    refine ⟨mRw_mono (hour_mr (Or.inr rfl) (bf_mr (by rw [ih.2 4 (by decide)]; exact hg) (by rw [ih.2 3 (by decide)]; exact hl) ih.1)) (by omega), fun i hi => ?_⟩
    rw [hour_h (Or.inr rfl) hi, bf_h (by omega), ih.2 i hi]
theorem rVoL_rng {s : jz_St} (h : 0 ≤ s 422 3 ∧ s 422 3 ≤ 7) : 0 ≤ rVoL s ∧ rVoL s ≤ 7 := by
  unfold rVoL
  have := rVo_rng (s 422) (s 422 3).toNat
  omega
theorem drG_rng {s : jz_St} {d : Int} (hg : 1 ≤ s 420 4) (hl : 1 ≤ s 420 3) (hm : mRw (s 420) 999) : ∀ j : Nat, -7 * j ≤ rDrG s d j ∧ rDrG s d j ≤ 7 * j := by
  intro j
  have hmh := mRw_h hm
  induction j with
  | zero => simp [rDrG]
  | succ j ih =>
    simp only [rDrG]
    have h1 := drS_i (d := d) hg hl hm (j + 1)
    have h2 := drS_i (d := d) hg hl hm j
    have h3 := rVoL_rng (s := rDrS s d (j + 1)) (by rw [h1.2 3 (by decide)]; omega)
    have h4 := rVoL_rng (s := rBf (rDrS s d j) (fDrX d (j + 1))) (by rw [bf_h (by decide), h2.2 3 (by decide)]; omega)
    omega
