/-! goats driven off, leaves hung on top, torn, and what a draw brings -/
theorem drv_n (s : jz_St) (k : Nat) (c n : Int) {x i : Nat} (h : i ≠ 3) : ∀ j, f_X5_drv s k c n j x i = s x i := by
  intro j
  induction j with
  | zero => rfl
  | succ j ih =>
    simp only [f_X5_drv]
    split
    · exact ih
    · rw [jz_su_f h, ih]
theorem drv_l (s : jz_St) (k : Nat) (c n : Int) {x : Nat} (h : x < k + 10) : ∀ j, f_X5_drv s k c n j x = s x := by
  intro j
  induction j with
  | zero => rfl
  | succ j ih =>
    simp only [f_X5_drv]
    split
    · exact ih
    · rw [jz_su_o (by omega), ih]
theorem drv_3 (s : jz_St) (k : Nat) (c n : Int) (g : Nat) : ∀ j, f_X5_drv s k c n j (k + 10 + g) 3 = if g < j ∧ jand (jshr c g) 1 ≠ 0 then n else s (k + 10 + g) 3 := by
  intro j
  induction j with
  | zero => rw [if_neg (by omega)]; rfl
  | succ j ih =>
    simp only [f_X5_drv]
    by_cases q : jand (jshr c j) 1 = 0
    · rw [if_pos q, ih]
      by_cases q2 : g < j ∧ jand (jshr c g) 1 ≠ 0
      · rw [if_pos q2, if_pos ⟨by omega, q2.2⟩]
      · rw [if_neg q2, if_neg]
        intro q3
        by_cases e : g = j
        · subst e; exact q3.2 q
        · exact q2 ⟨by omega, q3.2⟩
    · rw [if_neg q]
      by_cases e : g = j
      · subst e; rw [jz_su_s, if_pos ⟨by omega, q⟩]
      · rw [jz_su_o (by omega), ih]
        by_cases q2 : g < j ∧ jand (jshr c g) 1 ≠ 0
        · rw [if_pos q2, if_pos ⟨by omega, q2.2⟩]
        · rw [if_neg q2, if_neg (fun q3 => q2 ⟨by omega, q3.2⟩)]
theorem lo_n (t : jz_St) (c n : Int) {i : Nat} (h : i < 41 ∨ (i - 41) % 3 ≠ 2) : ∀ j, f_X8_lo t c n j 422 i = t 422 i := by
  intro j
  induction j with
  | zero => rfl
  | succ j ih => simp only [f_X8_lo]; rw [jz_su_f (by omega), ih]
theorem lo_2 (t : jz_St) (c n : Int) (g : Nat) : ∀ j, f_X8_lo t c n j 422 (41 + 3 * g + 2) = if g < j then (if jand (jshr c g) 1 = 1 ∧ t 422 (41 + 3 * g + 2) < n then n else t 422 (41 + 3 * g + 2)) else t 422 (41 + 3 * g + 2) := by
  intro j
  induction j with
  | zero => rw [if_neg (by omega)]; rfl
  | succ j ih =>
    simp only [f_X8_lo]
    by_cases e : g = j
    · subst e
      rw [jz_su_s, ih, if_neg (show ¬ g < g by omega), if_pos (show g < g + 1 by omega)]
    · rw [jz_su_f (by omega), ih]
      by_cases q : g < j
      · rw [if_pos q, if_pos (show g < j + 1 by omega)]
      · rw [if_neg q, if_neg (show ¬ g < j + 1 by omega)]
theorem jR_drv {m : Nat} {s t : jz_St} {k : Nat} {b n : Int} {c : Nat} (h : jR False m s k (t 422)) (hw : mRw (t 422) b) (hc : c < 128) (hn : 0 ≤ n) :
    jR True n.toNat (f_X5_drv s k c n 4) k (f_X8_lo t c n (t 422 4).toNat 422) := by
  have hh := mRw_h hw
  obtain ⟨h1, h2, h3, h4⟩ := h
  refine ⟨?_, fun l hl hcl => ?_, fun l hl hcl => ?_, fun g hg hcc => ?_⟩
  · rw [drv_l _ _ _ _ (by omega), lo_n _ _ _ (by omega), lo_n _ _ _ (by omega), lo_n _ _ _ (by omega), lo_n _ _ _ (by omega), lo_n _ _ _ (by omega)]
    exact h1
  · rw [lo_n _ _ _ (by omega)] at hcl
    rw [drv_l _ _ _ _ (by omega), lo_n _ _ _ (by omega), lo_n _ _ _ (by omega), lo_n _ _ _ (by omega), lo_n _ _ _ (by omega), lo_n _ _ _ (by omega)]
    exact h2 l hl hcl
  · rw [lo_n _ _ _ (by omega)] at hcl
    rw [drv_l _ _ _ _ (by omega)]
    exact h3 l hl hcl
  · rw [lo_n _ _ _ (by omega)] at hcc
    have h5 := h4 g hg hcc
    have h6 : s (k + 10 + g) 3 = t 422 (41 + 3 * g + 2) := h5.2.2.elim id (fun x => x.1.elim)
    rw [drv_n _ _ _ _ (by decide), drv_n _ _ _ _ (by decide), lo_n _ _ _ (by omega), lo_n _ _ _ (by omega)]
    refine ⟨h5.1, h5.2.1, ?_⟩
    have p1 := drv_3 s k (c : Int) n g 4
    have p2 := lo_2 t (c : Int) n g (t 422 4).toNat
    rw [if_pos (by omega)] at p2
    rw [p1, p2]
    have hb := bit01 c hc g (by omega)
    by_cases q : jand (jshr (c : Int) g) 1 = 0
    · rw [if_neg (by omega), if_neg (by omega)]
      exact Or.inl h6
    · rw [if_pos (by omega)]
      by_cases q2 : t 422 (41 + 3 * g + 2) < n
      · rw [if_pos (by omega)]
        exact Or.inl rfl
      · rw [if_neg (by omega)]
        exact Or.inr ⟨trivial, by omega, by omega⟩
theorem hot_n (s : jz_St) (k : Nat) (c : Int) {x i : Nat} (h : i ≠ 3) : ∀ j, f_X5_hot s k c j x i = s x i := by
  intro j
  induction j with
  | zero => rfl
  | succ j ih =>
    simp only [f_X5_hot]
    split
    · exact ih
    · rw [jz_su_f h, ih]
theorem hot_x (s : jz_St) (k : Nat) (c : Int) {x : Nat} (h : x < k + 3 ∨ k + 10 ≤ x) : ∀ j, j ≤ 7 → f_X5_hot s k c j x = s x := by
  intro j
  induction j with
  | zero => intro _; rfl
  | succ j ih =>
    intro hj
    simp only [f_X5_hot]
    split
    · exact ih (by omega)
    · rw [jz_su_o (by omega), ih (by omega)]
theorem hot_3 (s : jz_St) (k : Nat) (c : Int) (g : Nat) : ∀ j, f_X5_hot s k c j (k + 3 + g) 3 = if g < j ∧ jand (jshr c g) 1 ≠ 0 then 9 else s (k + 3 + g) 3 := by
  intro j
  induction j with
  | zero => rw [if_neg (by omega)]; rfl
  | succ j ih =>
    simp only [f_X5_hot]
    by_cases q : jand (jshr c j) 1 = 0
    · rw [if_pos q, ih]
      by_cases q2 : g < j ∧ jand (jshr c g) 1 ≠ 0
      · rw [if_pos q2, if_pos ⟨by omega, q2.2⟩]
      · rw [if_neg q2, if_neg]
        intro q3
        by_cases e : g = j
        · subst e; exact q3.2 q
        · exact q2 ⟨by omega, q3.2⟩
    · rw [if_neg q]
      by_cases e : g = j
      · subst e; rw [jz_su_s, if_pos ⟨by omega, q⟩]
      · rw [jz_su_o (by omega), ih]
        by_cases q2 : g < j ∧ jand (jshr c g) 1 ≠ 0
        · rw [if_pos q2, if_pos ⟨by omega, q2.2⟩]
        · rw [if_neg q2, if_neg (fun q3 => q2 ⟨by omega, q3.2⟩)]
theorem hg_n (t : jz_St) (c : Nat) {i : Nat} (h : i < 6 ∨ 41 ≤ i ∨ (i - 6) % 5 ≠ 2) : ∀ j, j ≤ 7 → f_X8_hg t c j 422 i = t 422 i := by
  intro j
  induction j with
  | zero => intro _; rfl
  | succ j ih => intro hj; simp only [f_X8_hg]; rw [jz_su_f (by omega), ih (by omega)]
theorem hg_2 (t : jz_St) (c g : Nat) : ∀ j, f_X8_hg t c j 422 (6 + 5 * g + 2) = if g < j then (if jand (jshr c g) 1 = 1 then 9 else t 420 (6 + 5 * g + 2)) else t 422 (6 + 5 * g + 2) := by
  intro j
  induction j with
  | zero => rw [if_neg (by omega)]; rfl
  | succ j ih =>
    simp only [f_X8_hg]
    rw [hg_o _ _ (by decide)]
    by_cases e : g = j
    · subst e
      rw [jz_su_s, if_pos (show g < g + 1 by omega)]
    · rw [jz_su_f (by omega), ih]
      by_cases q : g < j
      · rw [if_pos q, if_pos (show g < j + 1 by omega)]
      · rw [if_neg q, if_neg (show ¬ g < j + 1 by omega)]
theorem jR_hot {e : Prop} {m : Nat} {s t : jz_St} {k : Nat} {b : Int} {c : Nat} (h : jR e m s k (t 422)) (hw : mRw (t 422) b) (ht : ∀ i, i < 53 → t 422 i = t 420 i) (hc : c < 128) :
    jR e m (f_X5_hot s k c 7) k (f_X8_hg t c (t 422 3).toNat 422) := by
  have hh := mRw_h hw
  obtain ⟨h1, h2, h3, h4⟩ := h
  have n0 : ∀ i, (i < 6 ∨ 41 ≤ i ∨ (i - 6) % 5 ≠ 2) → f_X8_hg t c (t 422 3).toNat 422 i = t 422 i := fun i hi => hg_n t c hi _ (by omega)
  refine ⟨?_, fun l hl hcl => ?_, fun l hl hcl => ?_, fun g hg hcc => ?_⟩
  · rw [hot_x _ _ _ (by omega) 7 (by omega), n0 3 (by omega), n0 4 (by omega), n0 1 (by omega), n0 2 (by omega), n0 5 (by omega)]
    exact h1
  · rw [n0 3 (by omega)] at hcl
    have h5 := h2 l hl hcl
    rw [hot_n _ _ _ (i := 1) (by decide), hot_n _ _ _ (i := 2) (by decide), hot_n _ _ _ (i := 4) (by decide), hot_n _ _ _ (i := 5) (by decide), n0 (6 + 5 * l) (by omega), n0 (6 + 5 * l + 1) (by omega), n0 (6 + 5 * l + 3) (by omega), n0 (6 + 5 * l + 4) (by omega)]
    refine ⟨h5.1, h5.2.1, ?_, h5.2.2.2⟩
    have p1 := hot_3 s k (c : Int) l 7
    have p2 := hg_2 t c l (t 422 3).toNat
    rw [if_pos (by omega), ← ht _ (by omega)] at p2
    rw [p1, p2]
    have hb := bit01 c hc l hl
    by_cases q : jand (jshr (c : Int) l) 1 = 0
    · rw [if_neg (by omega), if_neg (by omega)]
      exact h5.2.2.1
    · rw [if_pos (by omega), if_pos (by omega)]
  · rw [n0 3 (by omega)] at hcl
    rw [hot_n _ _ _ (by decide)]
    exact h3 l hl hcl
  · rw [n0 4 (by omega)] at hcc
    rw [hot_x _ _ _ (by omega) 7 (by omega), n0 (41 + 3 * g) (by omega), n0 (41 + 3 * g + 1) (by omega), n0 (41 + 3 * g + 2) (by omega)]
    exact h4 g hg hcc
theorem tea_n (s : jz_St) (k : Nat) (c : Int) {x i : Nat} (h : i ≠ 5) : ∀ j, f_X5_tea s k c j x i = s x i := by
  intro j
  induction j with
  | zero => rfl
  | succ j ih =>
    simp only [f_X5_tea]
    split
    · exact ih
    · rw [jz_su_f h, ih]
theorem tea_x (s : jz_St) (k : Nat) (c : Int) {x : Nat} (h : x < k + 3 ∨ k + 10 ≤ x) : ∀ j, j ≤ 7 → f_X5_tea s k c j x = s x := by
  intro j
  induction j with
  | zero => intro _; rfl
  | succ j ih =>
    intro hj
    simp only [f_X5_tea]
    split
    · exact ih (by omega)
    · rw [jz_su_o (by omega), ih (by omega)]
theorem tea_5 (s : jz_St) (k : Nat) (c : Int) (g : Nat) : ∀ j, f_X5_tea s k c j (k + 3 + g) 5 = if g < j ∧ jand (jshr c g) 1 ≠ 0 then Int.tdiv (s (k + 3 + g) 5) 2 else s (k + 3 + g) 5 := by
  intro j
  induction j with
  | zero => rw [if_neg (by omega)]; rfl
  | succ j ih =>
    simp only [f_X5_tea]
    by_cases q : jand (jshr c j) 1 = 0
    · rw [if_pos q, ih]
      by_cases q2 : g < j ∧ jand (jshr c g) 1 ≠ 0
      · rw [if_pos q2, if_pos ⟨by omega, q2.2⟩]
      · rw [if_neg q2, if_neg]
        intro q3
        by_cases e : g = j
        · subst e; exact q3.2 q
        · exact q2 ⟨by omega, q3.2⟩
    · rw [if_neg q]
      by_cases e : g = j
      · subst e; rw [jz_su_s, ih, if_neg (by omega), if_pos ⟨by omega, q⟩]
      · rw [jz_su_o (by omega), ih]
        by_cases q2 : g < j ∧ jand (jshr c g) 1 ≠ 0
        · rw [if_pos q2, if_pos ⟨by omega, q2.2⟩]
        · rw [if_neg q2, if_neg (fun q3 => q2 ⟨by omega, q3.2⟩)]
theorem wt_n (t : jz_St) (c : Nat) {i : Nat} (h : i < 6 ∨ 41 ≤ i ∨ (i - 6) % 5 ≠ 4) : ∀ j, j ≤ 7 → f_X8_wt t c j 422 i = t 422 i := by
  intro j
  induction j with
  | zero => intro _; rfl
  | succ j ih => intro hj; simp only [f_X8_wt]; rw [jz_su_f (by omega), ih (by omega)]
theorem wt_4 (t : jz_St) (c g : Nat) : ∀ j, f_X8_wt t c j 422 (6 + 5 * g + 4) = if g < j then (if jand (jshr c g) 1 = 1 then Int.tdiv (t 420 (6 + 5 * g + 4)) 2 else t 420 (6 + 5 * g + 4)) else t 422 (6 + 5 * g + 4) := by
  intro j
  induction j with
  | zero => rw [if_neg (by omega)]; rfl
  | succ j ih =>
    simp only [f_X8_wt]
    rw [wt_o _ _ (by decide)]
    by_cases e : g = j
    · subst e
      rw [jz_su_s, if_pos (show g < g + 1 by omega)]
    · rw [jz_su_f (by omega), ih]
      by_cases q : g < j
      · rw [if_pos q, if_pos (show g < j + 1 by omega)]
      · rw [if_neg q, if_neg (show ¬ g < j + 1 by omega)]
theorem jR_tea {e : Prop} {m : Nat} {s t : jz_St} {k : Nat} {b : Int} {c : Nat} (h : jR e m s k (t 422)) (hw : mRw (t 422) b) (ht : ∀ i, i < 53 → t 422 i = t 420 i) (hc : c < 128) :
    jR e m (f_X5_tea s k c 7) k (f_X8_wt t c (t 422 3).toNat 422) := by
  have hh := mRw_h hw
  obtain ⟨h1, h2, h3, h4⟩ := h
  have n0 : ∀ i, (i < 6 ∨ 41 ≤ i ∨ (i - 6) % 5 ≠ 4) → f_X8_wt t c (t 422 3).toNat 422 i = t 422 i := fun i hi => wt_n t c hi _ (by omega)
  refine ⟨?_, fun l hl hcl => ?_, fun l hl hcl => ?_, fun g hg hcc => ?_⟩
  · rw [tea_x _ _ _ (by omega) 7 (by omega), n0 3 (by omega), n0 4 (by omega), n0 1 (by omega), n0 2 (by omega), n0 5 (by omega)]
    exact h1
  · rw [n0 3 (by omega)] at hcl
    have h5 := h2 l hl hcl
    rw [tea_n _ _ _ (by decide), tea_n _ _ _ (by decide), tea_n _ _ _ (by decide), tea_n _ _ _ (by decide), n0 (6 + 5 * l) (by omega), n0 (6 + 5 * l + 1) (by omega), n0 (6 + 5 * l + 2) (by omega), n0 (6 + 5 * l + 3) (by omega)]
    refine ⟨h5.1, h5.2.1, h5.2.2.1, h5.2.2.2.1, ?_⟩
    have p1 := tea_5 s k (c : Int) l 7
    have p2 := wt_4 t c l (t 422 3).toNat
    rw [if_pos (by omega), ← ht _ (by omega)] at p2
    rw [p1, p2, h5.2.2.2.2]
    have hb := bit01 c hc l hl
    by_cases q : jand (jshr (c : Int) l) 1 = 0
    · rw [if_neg (by omega), if_neg (by omega)]
    · rw [if_pos (by omega), if_pos (by omega)]
  · rw [n0 3 (by omega)] at hcl
    rw [tea_5, h3 l hl hcl]
    split <;> rfl
  · rw [n0 4 (by omega)] at hcc
    rw [tea_x _ _ _ (by omega) 7 (by omega), n0 (41 + 3 * g) (by omega), n0 (41 + 3 * g + 1) (by omega), n0 (41 + 3 * g + 2) (by omega)]
    exact h4 g hg hcc
theorem jR_suL {e : Prop} {m : Nat} {s : jz_St} {k : Nat} {t : jz_St} {r l w : Nat} {z : Int} (h : jR e m s k (t r)) (hw : 1 ≤ w ∧ w ≤ 5) (hl : l < 7) (hc : (l : Int) < t r 3) : jR e m (jz_su s (k + 3 + l) w z) k (jz_su t r (6 + 5 * l + (w - 1)) z r) := by
  obtain ⟨h1, h2, h3, h4⟩ := h
  refine ⟨?_, fun a ha hca => ?_, fun a ha hca => ?_, fun g hg hcc => ?_⟩
  · rw [jz_su_o (by omega), jz_su_f (by omega), jz_su_f (by omega), jz_su_f (by omega), jz_su_f (by omega), jz_su_f (by omega)]
    exact h1
  · rw [jz_su_f (by omega)] at hca
    have h5 := h2 a ha hca
    by_cases q : a = l
    · subst q
      have key : ∀ i, 1 ≤ i → i ≤ 5 → s (k + 3 + a) i = t r (6 + 5 * a + (i - 1)) → jz_su s (k + 3 + a) w z (k + 3 + a) i = jz_su t r (6 + 5 * a + (w - 1)) z r (6 + 5 * a + (i - 1)) := by
        intro i i1 i2 i3
        by_cases qi : i = w
        · subst qi; rw [jz_su_s, jz_su_s]
        · rw [jz_su_f qi, jz_su_f (by omega)]; exact i3
      exact ⟨key 1 (by omega) (by omega) h5.1, key 2 (by omega) (by omega) h5.2.1, key 3 (by omega) (by omega) h5.2.2.1, key 4 (by omega) (by omega) h5.2.2.2.1, key 5 (by omega) (by omega) h5.2.2.2.2⟩
    · rw [jz_su_o (by omega), jz_su_f (by omega), jz_su_f (by omega), jz_su_f (by omega), jz_su_f (by omega), jz_su_f (by omega)]
      exact h5
  · rw [jz_su_f (by omega)] at hca
    rw [jz_su_o (by omega)]
    exact h3 a ha hca
  · rw [jz_su_f (by omega)] at hcc
    rw [jz_su_o (by omega), jz_su_f (by omega), jz_su_f (by omega), jz_su_f (by omega)]
    exact h4 g hg hcc
theorem jR_suG {e : Prop} {m : Nat} {s : jz_St} {k : Nat} {t : jz_St} {r l w : Nat} {z : Int} (h : jR e m s k (t r)) (hw : 1 ≤ w ∧ w ≤ 3) (hl : l < 4) (hc : (l : Int) < t r 4) : jR e m (jz_su s (k + 10 + l) w z) k (jz_su t r (41 + 3 * l + (w - 1)) z r) := by
  obtain ⟨h1, h2, h3, h4⟩ := h
  refine ⟨?_, fun a ha hca => ?_, fun a ha hca => ?_, fun a ha hca => ?_⟩
  · rw [jz_su_o (by omega), jz_su_f (by omega), jz_su_f (by omega), jz_su_f (by omega), jz_su_f (by omega), jz_su_f (by omega)]
    exact h1
  · rw [jz_su_f (by omega)] at hca
    rw [jz_su_o (by omega), jz_su_f (by omega), jz_su_f (by omega), jz_su_f (by omega), jz_su_f (by omega), jz_su_f (by omega)]
    exact h2 a ha hca
  · rw [jz_su_f (by omega)] at hca
    rw [jz_su_o (by omega)]
    exact h3 a ha hca
  · rw [jz_su_f (by omega)] at hca
    have h5 := h4 a ha hca
    by_cases q : a = l
    · subst q
      have key : ∀ i, 1 ≤ i → i ≤ 2 → s (k + 10 + a) i = t r (41 + 3 * a + (i - 1)) → jz_su s (k + 10 + a) w z (k + 10 + a) i = jz_su t r (41 + 3 * a + (w - 1)) z r (41 + 3 * a + (i - 1)) := by
        intro i i1 i2 i3
        by_cases qi : i = w
        · subst qi; rw [jz_su_s, jz_su_s]
        · rw [jz_su_f qi, jz_su_f (by omega)]; exact i3
      refine ⟨key 1 (by omega) (by omega) h5.1, key 2 (by omega) (by omega) h5.2.1, ?_⟩
      by_cases qi : w = 3
      · subst qi
        left
        rw [jz_su_s]
        exact (jz_su_s t r (41 + 3 * a + 2) z).symm
      · rw [jz_su_f (by omega), jz_su_f (by omega)]
        exact h5.2.2
    · rw [jz_su_o (by omega), jz_su_f (by omega), jz_su_f (by omega), jz_su_f (by omega)]
      exact h5
theorem jR_bf {m : Nat} {s t : jz_St} {k : Nat} {b x : Int} (h : jR False m s k (t 422)) (hw : mRw (t 422) b) (hg : 1 ≤ t 422 4) (hl : 1 ≤ t 422 3) : jR False m (f_X5_befall s k x) k (rBf t x 422) := by
  have hh := mRw_h hw
  have h1 := h.1
  have i1 : jR False m (f_X5_bfG s k x) k (rBfG t x 422) := by
    unfold f_X5_bfG rBfG
    rw [h1.2.1]
    by_cases q : x % 3 = 0
    · rw [if_pos ⟨q, by omega⟩, if_pos q]
      have hb := em_b (x := x) (y := t 422 4) (by omega)
      exact jR_suG (w := 3) h (by omega) (by omega) (by omega)
    · rw [if_neg (fun a => q a.1), if_neg q]
      exact h
  unfold f_X5_befall rBf f_X5_bfL rBfL
  have h2 := i1.1.1
  rw [h2, bfG_h (s := t) (x := x) (i := 3) (by decide)]
  by_cases q : x % 5 = 0
  · rw [if_pos ⟨q, by omega⟩, if_pos q]
    have hb := em_b (x := x) (y := t 422 3) (by omega)
    have h5 := i1.2.1 (x % t 422 3).toNat (by omega) (by rw [bfG_h (by decide)]; omega)
    rw [h5.2.1]
    exact jR_suL (w := 5) i1 (by omega) (by omega) (by rw [bfG_h (by decide)]; omega)
  · rw [if_neg (fun a => q a.1), if_neg q]
    exact i1
