/-! the reference's rows of numbers -/
theorem tRw {r : Nat} (h : r = 420 ∨ r = 422) : jz_t r = .inr (0, 53) := by
  rcases h with rfl | rfl
  · exact tt420
  · exact tt422
def mHi (i : Nat) (b : Int) : Int := if i = 0 then 1 else if i ≤ 2 then 9 else if i = 3 then 7 else if i = 4 then 4 else if i = 5 then b else if i < 41 then (if (i - 6) % 5 = 0 then 5 else if (i - 6) % 5 = 1 then 20 else if (i - 6) % 5 = 2 then 9 else if (i - 6) % 5 = 3 then 19 else 20) else (if (i - 41) % 3 = 0 then 99 else if (i - 41) % 3 = 1 then 9 else 60)
/-- numbers of a row that keep in their bounds: at most b hours -/
def mRw (q : Nat → Int) (b : Int) : Prop := ∀ i, i < 53 → 0 ≤ q i ∧ q i ≤ mHi i b
theorem hi_0 (l : Nat) (b : Int) (h : l < 7) : mHi (6 + 5 * l) b = 5 := by
  unfold mHi
  rw [if_neg (by omega), if_neg (by omega), if_neg (by omega), if_neg (by omega), if_neg (by omega), if_pos (by omega), if_pos (by omega)]
theorem hi_1 (l : Nat) (b : Int) (h : l < 7) : mHi (6 + 5 * l + 1) b = 20 := by
  unfold mHi
  rw [if_neg (by omega), if_neg (by omega), if_neg (by omega), if_neg (by omega), if_neg (by omega), if_pos (by omega), if_neg (by omega), if_pos (by omega)]
theorem hi_2 (l : Nat) (b : Int) (h : l < 7) : mHi (6 + 5 * l + 2) b = 9 := by
  unfold mHi
  rw [if_neg (by omega), if_neg (by omega), if_neg (by omega), if_neg (by omega), if_neg (by omega), if_pos (by omega), if_neg (by omega), if_neg (by omega), if_pos (by omega)]
theorem hi_3 (l : Nat) (b : Int) (h : l < 7) : mHi (6 + 5 * l + 3) b = 19 := by
  unfold mHi
  rw [if_neg (by omega), if_neg (by omega), if_neg (by omega), if_neg (by omega), if_neg (by omega), if_pos (by omega), if_neg (by omega), if_neg (by omega), if_neg (by omega), if_pos (by omega)]
theorem hi_4 (l : Nat) (b : Int) (h : l < 7) : mHi (6 + 5 * l + 4) b = 20 := by
  unfold mHi
  rw [if_neg (by omega), if_neg (by omega), if_neg (by omega), if_neg (by omega), if_neg (by omega), if_pos (by omega), if_neg (by omega), if_neg (by omega), if_neg (by omega), if_neg (by omega)]
theorem hi_g0 (l : Nat) (b : Int) : mHi (41 + 3 * l) b = 99 := by
  unfold mHi
  rw [if_neg (by omega), if_neg (by omega), if_neg (by omega), if_neg (by omega), if_neg (by omega), if_neg (by omega), if_pos (by omega)]
theorem hi_g1 (l : Nat) (b : Int) : mHi (41 + 3 * l + 1) b = 9 := by
  unfold mHi
  rw [if_neg (by omega), if_neg (by omega), if_neg (by omega), if_neg (by omega), if_neg (by omega), if_neg (by omega), if_neg (by omega), if_pos (by omega)]
theorem hi_g2 (l : Nat) (b : Int) : mHi (41 + 3 * l + 2) b = 60 := by
  unfold mHi
  rw [if_neg (by omega), if_neg (by omega), if_neg (by omega), if_neg (by omega), if_neg (by omega), if_neg (by omega), if_neg (by omega), if_neg (by omega)]
theorem mRw_h {q : Nat → Int} {b : Int} (h : mRw q b) : (0 ≤ q 0 ∧ q 0 ≤ 1) ∧ (0 ≤ q 1 ∧ q 1 ≤ 9) ∧ (0 ≤ q 2 ∧ q 2 ≤ 9) ∧ (0 ≤ q 3 ∧ q 3 ≤ 7) ∧ (0 ≤ q 4 ∧ q 4 ≤ 4) ∧ (0 ≤ q 5 ∧ q 5 ≤ b) := ⟨h 0 (by decide), h 1 (by decide), h 2 (by decide), h 3 (by decide), h 4 (by decide), h 5 (by decide)⟩
theorem mRw_l {q : Nat → Int} {b : Int} (h : mRw q b) (l : Nat) (hl : l < 7) : (0 ≤ q (6 + 5 * l) ∧ q (6 + 5 * l) ≤ 5) ∧ (0 ≤ q (6 + 5 * l + 1) ∧ q (6 + 5 * l + 1) ≤ 20) ∧ (0 ≤ q (6 + 5 * l + 2) ∧ q (6 + 5 * l + 2) ≤ 9) ∧ (0 ≤ q (6 + 5 * l + 3) ∧ q (6 + 5 * l + 3) ≤ 19) ∧ (0 ≤ q (6 + 5 * l + 4) ∧ q (6 + 5 * l + 4) ≤ 20) := by
  have h0 := h (6 + 5 * l) (by omega)
  have h1 := h (6 + 5 * l + 1) (by omega)
  have h2 := h (6 + 5 * l + 2) (by omega)
  have h3 := h (6 + 5 * l + 3) (by omega)
  have h4 := h (6 + 5 * l + 4) (by omega)
  rw [hi_0 _ _ hl] at h0
  rw [hi_1 _ _ hl] at h1
  rw [hi_2 _ _ hl] at h2
  rw [hi_3 _ _ hl] at h3
  rw [hi_4 _ _ hl] at h4
  exact ⟨h0, h1, h2, h3, h4⟩
theorem mRw_g {q : Nat → Int} {b : Int} (h : mRw q b) (g : Nat) (hg : g < 4) : (0 ≤ q (41 + 3 * g) ∧ q (41 + 3 * g) ≤ 99) ∧ (0 ≤ q (41 + 3 * g + 1) ∧ q (41 + 3 * g + 1) ≤ 9) ∧ (0 ≤ q (41 + 3 * g + 2) ∧ q (41 + 3 * g + 2) ≤ 60) := by
  have h0 := h (41 + 3 * g) (by omega)
  have h1 := h (41 + 3 * g + 1) (by omega)
  have h2 := h (41 + 3 * g + 2) (by omega)
  rw [hi_g0] at h0
  rw [hi_g1] at h1
  rw [hi_g2] at h2
  exact ⟨h0, h1, h2⟩
theorem mRw_su {s : jz_St} {r : Nat} {b : Int} (h : mRw (s r) b) {i : Nat} {z : Int} (h0 : 0 ≤ z) (h1 : z ≤ mHi i b) : mRw (jz_su s r i z r) b := by
  intro x hx
  by_cases e : x = i
  · subst e; rw [jz_su_s]; exact ⟨h0, h1⟩
  · rw [jz_su_f e]; exact h x hx
theorem mRw_o {s : jz_St} {r k : Nat} {b : Int} (h : mRw (s r) b) {i : Nat} {z : Int} (hk : r ≠ k) : mRw (jz_su s k i z r) b := by
  rw [jz_su_o hk]; exact h
theorem mRw_mono {q : Nat → Int} {b c : Int} (h : mRw q b) (hc : b ≤ c) : mRw q c := by
  intro i hi
  have h1 := h i hi
  refine ⟨h1.1, ?_⟩
  have h2 := h1.2
  unfold mHi at h2 ⊢
  by_cases e : i = 5
  · subst e
    have h3 : q 5 ≤ b := h2
    show q 5 ≤ c
    omega
  · (repeat' split at h2) <;> (repeat' split) <;> omega
theorem bit01 : ∀ z : Nat, z < 128 → ∀ k : Nat, k < 7 → jand (jshr (z : Int) (k : Int)) 1 = 0 ∨ jand (jshr (z : Int) (k : Int)) 1 = 1 := by decide +kernel
def rBt (z : Int) : Nat → Int
  | 0 => 0
  | j + 1 => rBt z j + jand (jshr z j) 1
theorem rBt_rng (z : Nat) (hz : z < 128) : ∀ j, j ≤ 7 → 0 ≤ rBt (z : Int) j ∧ rBt (z : Int) j ≤ j := by
  intro j
  induction j with
  | zero => intro _; simp [rBt]
  | succ j ih =>
    intro hj
    simp only [rBt]
    have := ih (by omega)
    have := bit01 z hz j (by omega)
    omega
theorem rBt_7 : ∀ z : Nat, z < 128 → rBt (z : Int) 7 = fBC z := by decide +kernel
def rLk (q : Nat → Int) (l : Nat) : Int := fLk (q (6 + 5 * l)) (q (6 + 5 * l + 3)) (q (6 + 5 * l + 4)) (q 5) (q 2)
def rLkR (q : Nat → Int) (rc : Int) (l : Nat) : Int := if q (6 + 5 * l + 2) ≤ rc then rLk q l else -1000000
def rChS (q : Nat → Int) (rc : Int) : Nat → Option Nat × Int
  | 0 => (none, -1000000)
  | j + 1 => if (rChS q rc j).2 < rLkR q rc j then (some j, rLkR q rc j) else rChS q rc j
def rCho (q : Nat → Int) (g : Nat) : Option Nat := if q (41 + 3 * g) = 0 ∨ 0 < q (41 + 3 * g + 2) then none else (rChS q (q (41 + 3 * g + 1)) (q 3).toNat).1
theorem rChS_some {q : Nat → Int} {rc : Int} {n j : Nat} (h : (rChS q rc n).1 = some j) : j < n ∧ q (6 + 5 * j + 2) ≤ rc ∧ (rChS q rc n).2 = rLk q j ∧ -1000000 < rLk q j := by
  have key : ∀ n, -1000000 ≤ (rChS q rc n).2 := by
    intro n
    induction n with
    | zero => simp [rChS]
    | succ n ih =>
      simp only [rChS]
      split
      · next h1 => exact Int.le_of_lt (Int.lt_of_le_of_lt ih h1)
      · exact ih
  induction n with
  | zero => simp [rChS] at h
  | succ n ih =>
    simp only [rChS] at h ⊢
    split at h
    · next h1 =>
      rw [if_pos h1]
      simp only [Option.some.injEq] at h
      subst h
      have := key n
      unfold rLkR at h1 ⊢
      by_cases h2 : q (6 + 5 * n + 2) ≤ rc
      · rw [if_pos h2] at h1
        exact ⟨Nat.lt_succ_self _, h2, by simp only [if_pos h2], by omega⟩
      · rw [if_neg h2] at h1
        omega
    · next h1 =>
      rw [if_neg h1]
      obtain ⟨a, b, c, d⟩ := ih h
      exact ⟨Nat.lt_succ_of_lt a, b, c, d⟩
theorem rCho_some {q : Nat → Int} {g j : Nat} (h : rCho q g = some j) : j < (q 3).toNat ∧ 0 < q (6 + 5 * j + 4) ∧ q (41 + 3 * g + 2) ≤ 0 ∧ q (41 + 3 * g) ≠ 0 := by
  unfold rCho at h
  split at h
  · cases h
  · next h1 =>
    obtain ⟨a, b, c, d⟩ := rChS_some h
    exact ⟨a, fLk_big d, by omega, by omega⟩
def f_X8_bt (s : jz_St) (r g : Nat) : jz_St := match rCho (s r) g with
  | none => jz_su (jz_su s 425 g (-1000000)) 426 g 0
  | some j => jz_su (jz_su (jz_su (jz_su (jz_su s 425 g j) 426 g 0) 426 g (fBite (s r (6 + 5 * j)) (s r (6 + 5 * j + 4)))) r (6 + 5 * j + 4) (s r (6 + 5 * j + 4) - fBite (s r (6 + 5 * j)) (s r (6 + 5 * j + 4)))) r (41 + 3 * g) (if fBite (s r (6 + 5 * j)) (s r (6 + 5 * j + 4)) < s r (41 + 3 * g) then s r (41 + 3 * g) - fBite (s r (6 + 5 * j)) (s r (6 + 5 * j + 4)) else 0)
def v_X8_bt (s : jz_St) (r g : Nat) : Int := match rCho (s r) g with
  | none => 0
  | some j => fBite (s r (6 + 5 * j)) (s r (6 + 5 * j + 4))
def f_X8_phB (s : jz_St) (r : Nat) : Nat → jz_St
  | 0 => s
  | g + 1 => f_X8_bt (f_X8_phB s r g) r g
def v_X8_phB (s : jz_St) (r : Nat) : Nat → Int
  | 0 => 0
  | g + 1 => v_X8_phB s r g + v_X8_bt (f_X8_phB s r g) r g
def f_X8_eh (s : jz_St) (r g : Nat) : jz_St := jz_su (jz_su s r (41 + 3 * g) (if 99 < s r (41 + 3 * g) + s r 1 then 99 else s r (41 + 3 * g) + s r 1)) r (41 + 3 * g + 2) (s r (41 + 3 * g + 2) - if 0 < s r (41 + 3 * g + 2) then 1 else 0)
def f_X8_phE (s : jz_St) (r : Nat) : Nat → jz_St
  | 0 => s
  | g + 1 => f_X8_eh (f_X8_phE s r g) r g
def f_X8_hr1 (s : jz_St) (r : Nat) : jz_St := f_X8_phB s r (s r 4).toNat
def f_X8_hr2 (s : jz_St) (r : Nat) : jz_St := f_X8_phE (f_X8_hr1 s r) r (s r 4).toNat
def f_X8_hour (s : jz_St) (r : Nat) : jz_St := jz_su (f_X8_hr2 s r) r 5 (f_X8_hr2 s r r 5 + 1)
def v_X8_hour (s : jz_St) (r : Nat) : Int := v_X8_phB s r (s r 4).toNat
def f_X8_hoursOf (s : jz_St) (r : Nat) : Nat → jz_St
  | 0 => s
  | j + 1 => f_X8_hour (f_X8_hoursOf s r j) r
def v_X8_hoursOf (s : jz_St) (r : Nat) : Nat → Int
  | 0 => 0
  | j + 1 => v_X8_hoursOf s r j + v_X8_hour (f_X8_hoursOf s r j) r
theorem bt_mr {s : jz_St} {r g : Nat} {b : Int} (hr : r = 420 ∨ r = 422) (hg : g < 4) (h : mRw (s r) b) : mRw (f_X8_bt s r g r) b := by
  unfold f_X8_bt
  cases e : rCho (s r) g with
  | none => exact mRw_o (mRw_o h (by omega)) (by omega)
  | some j =>
    have hj := rCho_some e
    have h3 := mRw_h h
    have hl := mRw_l h j (by omega)
    have hq := mRw_g h g hg
    have hb := fBite_rng (s r (6 + 5 * j)) (s r (6 + 5 * j + 4))
    refine mRw_su (mRw_su (mRw_o (mRw_o (mRw_o h (by omega)) (by omega)) (by omega)) ?_ ?_) ?_ ?_
    · omega
    · rw [hi_4 _ _ (by omega)]; omega
    · split <;> omega
    · rw [hi_g0]; split <;> omega
theorem bt_h {s : jz_St} {r g i : Nat} (hr : r = 420 ∨ r = 422) (hi : i < 6) : f_X8_bt s r g r i = s r i := by
  unfold f_X8_bt
  cases e : rCho (s r) g with
  | none => 
    show jz_su (jz_su s 425 g (-1000000)) 426 g 0 r i = s r i
    rw [jz_su_o (by omega), jz_su_o (by omega)]
  | some j =>
    show jz_su (jz_su (jz_su (jz_su (jz_su s 425 g j) 426 g 0) 426 g _) r _ _) r _ _ r i = s r i
    rw [jz_su_f (by omega), jz_su_f (by omega), jz_su_o (by omega), jz_su_o (by omega), jz_su_o (by omega)]
theorem phB_mr {s : jz_St} {r : Nat} {b : Int} (hr : r = 420 ∨ r = 422) (h : mRw (s r) b) : ∀ g, g ≤ 4 → mRw (f_X8_phB s r g r) b := by
  intro g
  induction g with
  | zero => intro _; exact h
  | succ g ih => intro hg; exact bt_mr hr (by omega) (ih (by omega))
theorem phB_h {s : jz_St} {r i : Nat} (hr : r = 420 ∨ r = 422) (hi : i < 6) : ∀ g, f_X8_phB s r g r i = s r i := by
  intro g
  induction g with
  | zero => rfl
  | succ g ih => simp only [f_X8_phB]; rw [bt_h hr hi, ih]
theorem vbt_rng {s : jz_St} {r g : Nat} {b : Int} (h : mRw (s r) b) : 0 ≤ v_X8_bt s r g ∧ v_X8_bt s r g ≤ 2 := by
  unfold v_X8_bt
  cases e : rCho (s r) g with
  | none => simp
  | some j =>
    have hj := rCho_some e
    have h3 := mRw_h h
    have hl := mRw_l h j (by omega)
    have hb := fBite_rng (s r (6 + 5 * j)) (s r (6 + 5 * j + 4))
    show 0 ≤ fBite (s r (6 + 5 * j)) (s r (6 + 5 * j + 4)) ∧ fBite (s r (6 + 5 * j)) (s r (6 + 5 * j + 4)) ≤ 2
    omega
theorem vphB_rng {s : jz_St} {r : Nat} {b : Int} (hr : r = 420 ∨ r = 422) (h : mRw (s r) b) : ∀ g, g ≤ 4 → 0 ≤ v_X8_phB s r g ∧ v_X8_phB s r g ≤ 2 * g := by
  intro g
  induction g with
  | zero => intro _; simp [v_X8_phB]
  | succ g ih =>
    intro hg
    simp only [v_X8_phB]
    have h1 := ih (by omega)
    have h2 := vbt_rng (g := g) (phB_mr hr h g (by omega))
    omega
theorem eh_mr {s : jz_St} {r g : Nat} {b : Int} (hg : g < 4) (h : mRw (s r) b) : mRw (f_X8_eh s r g r) b := by
  have h3 := mRw_h h
  have hq := mRw_g h g hg
  unfold f_X8_eh
  refine mRw_su (mRw_su h ?_ ?_) ?_ ?_
  · split <;> omega
  · rw [hi_g0]; split <;> omega
  · split <;> omega
  · rw [hi_g2]; split <;> omega
theorem eh_h {s : jz_St} {r g i : Nat} (hi : i < 41) : f_X8_eh s r g r i = s r i := by
  unfold f_X8_eh
  rw [jz_su_f (by omega), jz_su_f (by omega)]
theorem phE_mr {s : jz_St} {r : Nat} {b : Int} (h : mRw (s r) b) : ∀ g, g ≤ 4 → mRw (f_X8_phE s r g r) b := by
  intro g
  induction g with
  | zero => intro _; exact h
  | succ g ih => intro hg; exact eh_mr (by omega) (ih (by omega))
theorem mphE_h {s : jz_St} {r i : Nat} (hi : i < 41) : ∀ g, f_X8_phE s r g r i = s r i := by
  intro g
  induction g with
  | zero => rfl
  | succ g ih => simp only [f_X8_phE]; rw [eh_h hi, ih]
theorem hour_mr {s : jz_St} {r : Nat} {b : Int} (hr : r = 420 ∨ r = 422) (h : mRw (s r) b) : mRw (f_X8_hour s r r) (b + 1) := by
  have h3 := mRw_h h
  have h1 : mRw (f_X8_hr1 s r r) b := phB_mr hr h _ (by omega)
  have h2 : mRw (f_X8_hr2 s r r) b := phE_mr h1 _ (by omega)
  have h4 := mRw_h h2
  unfold f_X8_hour
  refine mRw_su (mRw_mono h2 (by omega)) (by omega) ?_
  show _ ≤ b + 1
  omega
theorem hour_h {s : jz_St} {r i : Nat} (hr : r = 420 ∨ r = 422) (hi : i < 5) : f_X8_hour s r r i = s r i := by
  unfold f_X8_hour f_X8_hr2 f_X8_hr1
  rw [jz_su_f (by omega), mphE_h (by omega), phB_h hr (by omega)]
theorem vhour_rng {s : jz_St} {r : Nat} {b : Int} (hr : r = 420 ∨ r = 422) (h : mRw (s r) b) : 0 ≤ v_X8_hour s r ∧ v_X8_hour s r ≤ 8 := by
  have h3 := mRw_h h
  have h1 := vphB_rng hr h (s r 4).toNat (by omega)
  unfold v_X8_hour
  omega
theorem hoursOf_mr {s : jz_St} {r : Nat} {b : Int} (hr : r = 420 ∨ r = 422) (h : mRw (s r) b) : ∀ n : Nat, mRw (f_X8_hoursOf s r n r) (b + n) := by
  intro n
  induction n with
  | zero => simpa [f_X8_hoursOf] using h
  | succ n ih => exact mRw_mono (hour_mr hr ih) (by omega)
theorem hoursOf_h {s : jz_St} {r i : Nat} (hr : r = 420 ∨ r = 422) (hi : i < 5) : ∀ n : Nat, f_X8_hoursOf s r n r i = s r i := by
  intro n
  induction n with
  | zero => rfl
  | succ n ih => simp only [f_X8_hoursOf]; rw [hour_h hr hi, ih]
theorem vhoursOf_rng {s : jz_St} {r : Nat} {b : Int} (hr : r = 420 ∨ r = 422) (h : mRw (s r) b) : ∀ n : Nat, 0 ≤ v_X8_hoursOf s r n ∧ v_X8_hoursOf s r n ≤ 8 * n := by
  intro n
  induction n with
  | zero => simp [v_X8_hoursOf]
  | succ n ih =>
    simp only [v_X8_hoursOf]
    have h2 := vhour_rng hr (hoursOf_mr hr h n)
    omega
def rIF (q : Nat → Int) : Nat → Int
  | 0 => 0
  | j + 1 => jor (rIF q j) (if q (6 + 5 * j + 1) ≤ 2 * q (6 + 5 * j + 4) then jshl 1 j else 0)
def rLA (q : Nat → Int) : Nat → Int
  | 0 => 0
  | j + 1 => rLA q j + q (6 + 5 * j + 4)
theorem rLA_rng {q : Nat → Int} {b : Int} (h : mRw q b) : ∀ n : Nat, n ≤ 7 → 0 ≤ rLA q n ∧ rLA q n ≤ 20 * n := by
  intro n
  induction n with
  | zero => intro _; simp [rLA]
  | succ n ih =>
    intro hn
    simp only [rLA]
    have := ih (by omega)
    have := mRw_l h n (by omega)
    omega
theorem rIF_n {q : Nat → Int} : ∀ j : Nat, j ≤ 7 → ∃ a : Nat, rIF q j = a ∧ a < 2 ^ j := by
  intro j
  induction j with
  | zero => intro _; exact ⟨0, rfl, by decide⟩
  | succ j ih =>
    intro hj
    obtain ⟨a, h1, h2⟩ := ih (by omega)
    have hp := Nat.pow_succ 2 j
    have hp7 : 2 ^ j ≤ 2 ^ 7 := Nat.pow_le_pow_right (by decide) (by omega)
    simp only [rIF]
    rw [h1]
    split
    · exact ⟨a + 2 ^ j, jor_bit j (by omega) a h2, by omega⟩
    · exact ⟨a, jor_0 a (by omega), by omega⟩
theorem rIF_r {q : Nat → Int} {j : Nat} (hj : j ≤ 7) : 0 ≤ rIF q j ∧ rIF q j < 128 := by
  obtain ⟨a, h1, h2⟩ := rIF_n (q := q) j hj
  have hp7 : 2 ^ j ≤ 2 ^ 7 := Nat.pow_le_pow_right (by decide) (by omega)
  omega
def f_X8_layThen (s : jz_St) : jz_St := f_X8_rc s 422 420 0 0 53
def f_X8_lo (s : jz_St) (w n : Int) : Nat → jz_St
  | 0 => s
  | g + 1 => jz_su (f_X8_lo s w n g) 422 (41 + 3 * g + 2) (if jand (jshr w g) 1 = 1 ∧ f_X8_lo s w n g 422 (41 + 3 * g + 2) < n then n else f_X8_lo s w n g 422 (41 + 3 * g + 2))
def f_X8_layOff (s : jz_St) (w n : Int) : jz_St := f_X8_lo (f_X8_layThen s) w n (s 420 4).toNat
def f_X8_kp1 (s : jz_St) : jz_St := if s 416 9 = 24 then jz_su (f_X8_rc s 423 423 0 53 1219) 416 9 (s 416 9 - 1) else s
def f_X8_keep (s : jz_St) : jz_St := jz_su (f_X8_rc (f_X8_kp1 s) 423 420 (53 * (f_X8_kp1 s 416 9).toNat) 0 53) 416 9 (f_X8_kp1 s 416 9 + 1)
theorem layThen_in (s : jz_St) {i : Nat} (hi : i < 53) : f_X8_layThen s 422 i = s 420 i := by
  unfold f_X8_layThen
  rw [rc_in _ _ _ _ _ (by decide), if_pos (by omega), show 0 + (i - 0) = i by omega]
theorem layThen_o (s : jz_St) {x : Nat} (hx : x ≠ 422) : f_X8_layThen s x = s x := rc_o _ _ _ _ _ hx _
theorem layThen_mr {s : jz_St} {b : Int} (h : mRw (s 420) b) : mRw (f_X8_layThen s 422) b := fun i hi => by rw [layThen_in s hi]; exact h i hi
theorem lo_o (s : jz_St) (w n : Int) {x : Nat} (hx : x ≠ 422) : ∀ g, f_X8_lo s w n g x = s x := by
  intro g
  induction g with
  | zero => rfl
  | succ g ih => simp only [f_X8_lo]; rw [jz_su_o hx, ih]
theorem lo_mr {s : jz_St} {w n b : Int} (hn : n ≤ 60) (h : mRw (s 422) b) : ∀ g, g ≤ 4 → mRw (f_X8_lo s w n g 422) b := by
  intro g
  induction g with
  | zero => intro _; exact h
  | succ g ih =>
    intro hg
    have h1 := ih (by omega)
    have h2 := mRw_g h1 g (by omega)
    simp only [f_X8_lo]
    refine mRw_su h1 ?_ ?_
    · split <;> omega
    · rw [hi_g2]; split <;> omega
theorem layOff_mr {s : jz_St} {w n b : Int} (hn : n ≤ 60) (h : mRw (s 420) b) : mRw (f_X8_layOff s w n 422) b := by
  have := mRw_h h
  exact lo_mr hn (layThen_mr h) _ (by omega)
theorem layOff_o (s : jz_St) (w n : Int) {x : Nat} (hx : x ≠ 422) : f_X8_layOff s w n x = s x := by
  unfold f_X8_layOff
  rw [lo_o _ _ _ hx, layThen_o _ hx]
theorem kp1_o (s : jz_St) {x : Nat} (h1 : x ≠ 423) (h2 : x ≠ 416) : f_X8_kp1 s x = s x := by
  unfold f_X8_kp1
  split
  · rw [jz_su_o h2, rc_o _ _ _ _ _ h1]
  · rfl
theorem keep_oo (s : jz_St) {x : Nat} (h1 : x ≠ 423) (h2 : x ≠ 416) : f_X8_keep s x = s x := by
  unfold f_X8_keep
  rw [jz_su_o h2, rc_o _ _ _ _ _ h1, kp1_o s h1 h2]
theorem bt_o {s : jz_St} {r g x : Nat} (h1 : x ≠ r) (h2 : x ≠ 425) (h3 : x ≠ 426) : f_X8_bt s r g x = s x := by
  unfold f_X8_bt
  cases e : rCho (s r) g with
  | none =>
    show jz_su (jz_su s 425 g (-1000000)) 426 g 0 x = s x
    rw [jz_su_o h3, jz_su_o h2]
  | some j =>
    show jz_su (jz_su (jz_su (jz_su (jz_su s 425 g j) 426 g 0) 426 g _) r _ _) r _ _ x = s x
    rw [jz_su_o h1, jz_su_o h1, jz_su_o h3, jz_su_o h3, jz_su_o h2]
theorem mphB_o {s : jz_St} {r x : Nat} (h1 : x ≠ r) (h2 : x ≠ 425) (h3 : x ≠ 426) : ∀ g, f_X8_phB s r g x = s x := by
  intro g
  induction g with
  | zero => rfl
  | succ g ih => simp only [f_X8_phB]; rw [bt_o h1 h2 h3, ih]
theorem mphE_o {s : jz_St} {r x : Nat} (h1 : x ≠ r) : ∀ g, f_X8_phE s r g x = s x := by
  intro g
  induction g with
  | zero => rfl
  | succ g ih => simp only [f_X8_phE, f_X8_eh]; rw [jz_su_o h1, jz_su_o h1, ih]
theorem hour_o {s : jz_St} {r x : Nat} (h1 : x ≠ r) (h2 : x ≠ 425) (h3 : x ≠ 426) : f_X8_hour s r x = s x := by
  unfold f_X8_hour f_X8_hr2 f_X8_hr1
  rw [jz_su_o h1, mphE_o h1, mphB_o h1 h2 h3]
theorem hoursOf_o {s : jz_St} {r x : Nat} (h1 : x ≠ r) (h2 : x ≠ 425) (h3 : x ≠ 426) : ∀ n, f_X8_hoursOf s r n x = s x := by
  intro n
  induction n with
  | zero => rfl
  | succ n ih => simp only [f_X8_hoursOf]; rw [hour_o h1 h2 h3, ih]
theorem keep_acts {s : jz_St} (h : 0 ≤ s 416 9 ∧ s 416 9 ≤ 24) : 0 ≤ f_X8_keep s 416 9 ∧ f_X8_keep s 416 9 ≤ 24 := by
  have h1 : 0 ≤ f_X8_kp1 s 416 9 ∧ f_X8_kp1 s 416 9 ≤ 23 := by
    unfold f_X8_kp1
    split
    · rw [jz_su_s]; omega
    · omega
  unfold f_X8_keep
  rw [jz_su_s]
  omega
def f_X8_hrs (s : jz_St) : Nat → jz_St
  | 0 => s
  | j + 1 => f_X8_hour (f_X8_keep (f_X8_hrs s j)) 420
def v_X8_hrs (s : jz_St) : Nat → Int
  | 0 => 0
  | j + 1 => v_X8_hrs s j + v_X8_hour (f_X8_keep (f_X8_hrs s j)) 420
theorem mhrs_i {s : jz_St} (hm : mRw (s 420) 999) (ha : 0 ≤ s 416 9 ∧ s 416 9 ≤ 24) : ∀ j : Nat, mRw (f_X8_hrs s j 420) (999 + j) ∧ (0 ≤ f_X8_hrs s j 416 9 ∧ f_X8_hrs s j 416 9 ≤ 24) ∧ 0 ≤ v_X8_hrs s j ∧ v_X8_hrs s j ≤ 8 * j := by
  intro j
  induction j with
  | zero => simp only [f_X8_hrs, v_X8_hrs]; exact ⟨mRw_mono hm (by omega), ha, by omega, by omega⟩
  | succ j ih =>
    simp only [f_X8_hrs, v_X8_hrs]
    have hk : mRw (f_X8_keep (f_X8_hrs s j) 420) (999 + j) := by rw [keep_oo _ (by decide) (by decide)]; exact ih.1
    refine ⟨mRw_mono (hour_mr (Or.inl rfl) hk) (by omega), ?_, ?_⟩
    · rw [hour_o (by decide) (by decide) (by decide)]; exact keep_acts ih.2.1
    · have := vhour_rng (Or.inl rfl) hk; have := ih.2.2; omega
/-- what the reference keeps to -/
def mIn (s : jz_St) : Prop := mLn s ∧ mRw (s 420) 999 ∧ (0 ≤ s 416 9 ∧ s 416 9 ≤ 24) ∧ (0 ≤ s 416 24 ∧ s 416 24 ≤ 16)
def mRT (s : jz_St) : Nat → Int
  | 0 => 0
  | j + 1 => mRT s j + if 0 ≤ s 417 j then 1 else 0
theorem mRT_rng (s : jz_St) : ∀ j : Nat, 0 ≤ mRT s j ∧ mRT s j ≤ j := by
  intro j
  induction j with
  | zero => simp [mRT]
  | succ j ih => simp only [mRT]; split <;> omega
