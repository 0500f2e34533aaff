theorem bt_425 (s : jz_St) {r g : Nat} (hr : r = 420 ∨ r = 422) (c : Nat) : f_X8_bt s r g 425 c = if c = g then fON (rCho (s r) g) else s 425 c := by
  unfold f_X8_bt
  cases e : rCho (s r) g with
  | none =>
    show jz_su (jz_su s 425 g (-1000000)) 426 g 0 425 c = _
    rw [jz_su_o (by decide)]
    by_cases q : c = g
    · subst q; rw [jz_su_s, if_pos rfl]; rfl
    · rw [jz_su_f q, if_neg q]
  | some j =>
    show jz_su (jz_su (jz_su (jz_su (jz_su s 425 g j) 426 g 0) 426 g _) r _ _) r _ _ 425 c = _
    rw [jz_su_o (by omega), jz_su_o (by omega), jz_su_o (by decide), jz_su_o (by decide)]
    by_cases q : c = g
    · subst q; rw [jz_su_s, if_pos rfl]; rfl
    · rw [jz_su_f q, if_neg q]
theorem bt_426 (s : jz_St) {r g : Nat} (hr : r = 420 ∨ r = 422) (c : Nat) : f_X8_bt s r g 426 c = if c = g then v_X8_bt s r g else s 426 c := by
  unfold f_X8_bt v_X8_bt
  cases e : rCho (s r) g with
  | none =>
    show jz_su (jz_su s 425 g (-1000000)) 426 g 0 426 c = if c = g then 0 else s 426 c
    by_cases q : c = g
    · subst q; rw [jz_su_s, if_pos rfl]
    · rw [jz_su_f q, if_neg q, jz_su_o (by decide)]
  | some j =>
    show jz_su (jz_su (jz_su (jz_su (jz_su s 425 g j) 426 g 0) 426 g _) r _ _) r _ _ 426 c = if c = g then fBite (s r (6 + 5 * j)) (s r (6 + 5 * j + 4)) else s 426 c
    rw [jz_su_o (by omega), jz_su_o (by omega)]
    by_cases q : c = g
    · subst q; rw [jz_su_s, if_pos rfl]
    · rw [jz_su_f q, jz_su_f q, jz_su_o (by decide), if_neg q]
theorem phB_425 (s : jz_St) {r : Nat} (hr : r = 420 ∨ r = 422) (c : Nat) : ∀ g, c < g → f_X8_phB s r g 425 c = fON (rCho (f_X8_phB s r c r) c) := by
  intro g
  induction g with
  | zero => intro h; omega
  | succ g ih =>
    intro h
    simp only [f_X8_phB]
    rw [bt_425 _ hr]
    by_cases q : c = g
    · subst q; rw [if_pos rfl]
    · rw [if_neg q]; exact ih (by omega)
theorem phB_426 (s : jz_St) {r : Nat} (hr : r = 420 ∨ r = 422) (c : Nat) : ∀ g, c < g → f_X8_phB s r g 426 c = v_X8_bt (f_X8_phB s r c) r c := by
  intro g
  induction g with
  | zero => intro h; omega
  | succ g ih =>
    intro h
    simp only [f_X8_phB]
    rw [bt_426 _ hr]
    by_cases q : c = g
    · subst q; rw [if_pos rfl]
    · rw [if_neg q]; exact ih (by omega)
theorem hour_425 (s : jz_St) {r : Nat} (hr : r = 420 ∨ r = 422) {c : Nat} (h : (c : Int) < s r 4) : f_X8_hour s r 425 c = fON (rCho (f_X8_phB s r c r) c) := by
  unfold f_X8_hour f_X8_hr2 f_X8_hr1
  rw [jz_su_o (by omega), mphE_o (by omega), phB_425 s hr c _ (by omega)]
theorem hour_426 (s : jz_St) {r : Nat} (hr : r = 420 ∨ r = 422) {c : Nat} (h : (c : Int) < s r 4) : f_X8_hour s r 426 c = v_X8_bt (f_X8_phB s r c) r c := by
  unfold f_X8_hour f_X8_hr2 f_X8_hr1
  rw [jz_su_o (by omega), mphE_o (by omega), phB_426 s hr c _ (by omega)]
def rEmp (s : jz_St) (a k : Nat) : Nat → Int × jz_St
  | 0 => (-1000000, s)
  | m + 1 => if s 422 a = 0 then (k, s) else rEmp (f_X8_hour s 422) a (k + 1) m
def rGap (s : jz_St) (w : Int) (k : Nat) : Nat → Int × jz_St
  | 0 => (-1000000, s)
  | m + 1 => if jand (rIF (s 422) (s 422 3).toNat) w = 0 then (k, s) else rGap (f_X8_hour s 422) w (k + 1) m
def rEat (s : jz_St) (c : Nat) : Nat → Int
  | 0 => 0
  | j + 1 => rEat s c j + f_X8_hour (f_X8_hoursOf s 422 j) 422 426 c
theorem rEat_rng {s : jz_St} {b : Int} {c : Nat} (hm : mRw (s 422) b) (hc : (c : Int) < s 422 4) : ∀ j : Nat, (0 ≤ rEat s c j ∧ rEat s c j ≤ 2 * j) ∧ 0 ≤ f_X8_hour (f_X8_hoursOf s 422 j) 422 426 c ∧ f_X8_hour (f_X8_hoursOf s 422 j) 422 426 c ≤ 2 := by
  have hh := mRw_h hm
  have key : ∀ j : Nat, 0 ≤ f_X8_hour (f_X8_hoursOf s 422 j) 422 426 c ∧ f_X8_hour (f_X8_hoursOf s 422 j) 422 426 c ≤ 2 := by
    intro j
    rw [hour_426 _ (Or.inr rfl) (by rw [hoursOf_h (Or.inr rfl) (by decide)]; exact hc)]
    exact vbt_rng (phB_mr (Or.inr rfl) (hoursOf_mr (Or.inr rfl) hm j) c (by omega))
  intro j
  refine ⟨?_, key j⟩
  induction j with
  | zero => simp [rEat]
  | succ j ih => simp only [rEat]; have := key j; omega
def rBi (u : Nat → Int) (l acc : Int) : Nat → Int
  | 0 => acc
  | g + 1 => jor (rBi u l acc g) (if u g = l then jshl 1 g else 0)
def rBs (s : jz_St) (l : Int) : Nat → Int
  | 0 => 0
  | j + 1 => rBi (f_X8_hoursOf s 422 (j + 1) 425) l (rBs s l j) (s 422 4).toNat
def rOp (q : Nat → Int) : Nat → Int
  | 0 => 0
  | j + 1 => jor (rOp q j) (if 0 < q (6 + 5 * j + 4) then jshl 1 j else 0)
theorem rOp_n {q : Nat → Int} : ∀ j : Nat, j ≤ 7 → ∃ a : Nat, rOp q j = a ∧ a < 2 ^ j := by
  intro j
  induction j with
  | zero => intro _; exact ⟨0, rfl, by decide⟩
  | succ j ih =>
    intro hj
    obtain ⟨a, h1, h2⟩ := ih (by omega)
    have hp := Nat.pow_succ 2 j
    have hp7 : 2 ^ j ≤ 2 ^ 7 := Nat.pow_le_pow_right (by decide) (by omega)
    simp only [rOp]
    rw [h1]
    split
    · exact ⟨a + 2 ^ j, jor_bit j (by omega) a h2, by omega⟩
    · exact ⟨a, jor_0 a (by omega), by omega⟩
theorem rOp_r {q : Nat → Int} {j : Nat} (hj : j ≤ 7) : 0 ≤ rOp q j ∧ rOp q j < 128 := by
  obtain ⟨a, h1, h2⟩ := rOp_n (q := q) j hj
  have hp7 : 2 ^ j ≤ 2 ^ 7 := Nat.pow_le_pow_right (by decide) (by omega)
  omega
def f_X8_hg (s : jz_St) (c : Nat) : Nat → jz_St
  | 0 => s
  | j + 1 => jz_su (f_X8_hg s c j) 422 (6 + 5 * j + 2) (if jand (jshr c j) 1 = 1 then 9 else f_X8_hg s c j 420 (6 + 5 * j + 2))
theorem hg_o (s : jz_St) (c : Nat) {x : Nat} (hx : x ≠ 422) : ∀ j, f_X8_hg s c j x = s x := by
  intro j
  induction j with
  | zero => rfl
  | succ j ih => simp only [f_X8_hg]; rw [jz_su_o hx, ih]
theorem hg_mr {s : jz_St} {c : Nat} {b b2 : Int} (h : mRw (s 422) b) (h2 : mRw (s 420) b2) : ∀ j, j ≤ 7 → mRw (f_X8_hg s c j 422) b := by
  intro j
  induction j with
  | zero => intro _; exact h
  | succ j ih =>
    intro hj
    simp only [f_X8_hg]
    have h3 := mRw_l h2 j (by omega)
    refine mRw_su (ih (by omega)) ?_ ?_
    · rw [hg_o _ _ (by decide)]; split <;> omega
    · rw [hi_2 _ _ (by omega), hg_o _ _ (by decide)]; split <;> omega
def rHgA (s : jz_St) (n c : Nat) : jz_St := f_X8_hoursOf (f_X8_hg (f_X8_layThen s) c (s 420 3).toNat) 422 n
def rHg (s : jz_St) (op l : Int) (n : Nat) (best : Int) (c : Nat) : Nat → Int × jz_St
  | 0 => (best, s)
  | m + 1 => if jand c (jxor op (-1)) = 0 ∧ (best = -1000000 ∨ fBC c < fBC best.toNat) then
      rHg (rHgA s n c) op l n (if jand (rIF (rHgA s n c 422) (rHgA s n c 422 3).toNat) l = l then c else best) (c + 1) m
    else rHg s op l n best (c + 1) m
def rDrA (s : jz_St) (n : Int) (c : Int) : jz_St := f_X8_hoursOf (f_X8_layOff s c n) 422 n.toNat
def rDr (s : jz_St) (l : Int) (n : Int) (best : Int) (c : Nat) : Nat → Int × jz_St
  | 0 => (best, s)
  | m + 1 => if best = -1000000 ∨ fBC c < fBC best.toNat then
      rDr (rDrA s n c) l n (if jand (rIF (rDrA s n c 422) (rDrA s n c 422 3).toNat) l = l then c else best) (c + 1) m
    else rDr s l n best (c + 1) m
def rHmS (s : jz_St) (n : Int) : Nat → jz_St
  | 0 => s
  | j + 1 => rDrA (rHmS s n j) n (jshl 1 j)
def rHmV (s : jz_St) (n : Int) (j : Nat) : Int := fBC (rIF (rHmS s n (j + 1) 422) (rHmS s n (j + 1) 422 3).toNat).toNat
def rHm (s : jz_St) (n : Int) : Nat → Int × Int
  | 0 => (-1000000, -1)
  | j + 1 => if (rHm s n j).2 < rHmV s n j then (j, rHmV s n j) else rHm s n j
def rBaA (s : jz_St) (n j : Nat) : jz_St := f_X8_hoursOf (jz_su (f_X8_layThen s) 422 (6 + 5 * j + 3) 19) 422 n
def rBaS (s : jz_St) (l : Int) (n : Nat) : Nat → jz_St
  | 0 => s
  | j + 1 => if (j : Int) ≠ l ∧ 0 < s 420 (6 + 5 * j + 4) then rBaA (rBaS s l n j) n j else rBaS s l n j
def rBa (s : jz_St) (l : Int) (n : Nat) : Nat → Int × Int
  | 0 => (-1000000, -1000000)
  | j + 1 => if ((j : Int) ≠ l ∧ 0 < s 420 (6 + 5 * j + 4)) ∧ (rBa s l n j).2 < rBaS s l n (j + 1) 422 (6 + 5 * l.toNat + 4) then (j, rBaS s l n (j + 1) 422 (6 + 5 * l.toNat + 4)) else rBa s l n j
def rSaA (s : jz_St) (l : Int) (h : Nat) : jz_St := jz_su (f_X8_layThen s) 422 (6 + 5 * l.toNat + 2) h
def rSa (s : jz_St) (l : Int) (n h : Nat) : Nat → Int × jz_St
  | 0 => (-1000000, s)
  | m + 1 => if rBs (rSaA s l h) l n = 0 then (h, f_X8_hoursOf (rSaA s l h) 422 n) else rSa (f_X8_hoursOf (rSaA s l h) 422 n) l n (h + 1) m
theorem hgA_o (s : jz_St) (n c : Nat) {x : Nat} (h1 : x ≠ 422) (h2 : x ≠ 425) (h3 : x ≠ 426) : rHgA s n c x = s x := by
  unfold rHgA
  rw [hoursOf_o h1 h2 h3, hg_o _ _ h1, layThen_o _ h1]
theorem drA_o (s : jz_St) (n c : Int) {x : Nat} (h1 : x ≠ 422) (h2 : x ≠ 425) (h3 : x ≠ 426) : rDrA s n c x = s x := by
  unfold rDrA
  rw [hoursOf_o h1 h2 h3, layOff_o _ _ _ h1]
theorem hmS_o (s : jz_St) (n : Int) {x : Nat} (h1 : x ≠ 422) (h2 : x ≠ 425) (h3 : x ≠ 426) : ∀ j, rHmS s n j x = s x := by
  intro j
  induction j with
  | zero => rfl
  | succ j ih => simp only [rHmS]; rw [drA_o _ _ _ h1 h2 h3, ih]
theorem baA_o (s : jz_St) (n j : Nat) {x : Nat} (h1 : x ≠ 422) (h2 : x ≠ 425) (h3 : x ≠ 426) : rBaA s n j x = s x := by
  unfold rBaA
  rw [hoursOf_o h1 h2 h3, jz_su_o h1, layThen_o _ h1]
theorem baS_o (s : jz_St) (l : Int) (n : Nat) {x : Nat} (h1 : x ≠ 422) (h2 : x ≠ 425) (h3 : x ≠ 426) : ∀ j, rBaS s l n j x = s x := by
  intro j
  induction j with
  | zero => rfl
  | succ j ih =>
    simp only [rBaS]
    split
    · rw [baA_o _ _ _ h1 h2 h3, ih]
    · exact ih
theorem saA_o (s : jz_St) (l : Int) (h : Nat) {x : Nat} (h1 : x ≠ 422) : rSaA s l h x = s x := by
  unfold rSaA
  rw [jz_su_o h1, layThen_o _ h1]
theorem saA_mr {s : jz_St} {l : Int} {h : Nat} {b : Int} (hl : l.toNat < 7) (hh : h ≤ 9) (hm : mRw (s 420) b) : mRw (rSaA s l h 422) b := by
  unfold rSaA
  refine mRw_su (layThen_mr hm) (by omega) ?_
  rw [hi_2 _ _ hl]; omega
