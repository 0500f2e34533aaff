/-! the class's squares and the reference's rows of numbers -/
def jR (e : Prop) (m : Nat) (s : jz_St) (k : Nat) (q : Nat → Int) : Prop :=
  (s k 2 = q 3 ∧ s k 3 = q 4 ∧ s k 4 = q 1 ∧ s k 5 = q 2 ∧ s k 6 = q 5) ∧
  (∀ l : Nat, l < 7 → (l : Int) < q 3 → s (k + 3 + l) 1 = q (6 + 5 * l) ∧ s (k + 3 + l) 2 = q (6 + 5 * l + 1) ∧ s (k + 3 + l) 3 = q (6 + 5 * l + 2) ∧ s (k + 3 + l) 4 = q (6 + 5 * l + 3) ∧ s (k + 3 + l) 5 = q (6 + 5 * l + 4)) ∧
  (∀ l : Nat, l < 7 → q 3 ≤ (l : Int) → s (k + 3 + l) 5 = 0) ∧
  (∀ g : Nat, g < 4 → (g : Int) < q 4 → s (k + 10 + g) 1 = q (41 + 3 * g) ∧ s (k + 10 + g) 2 = q (41 + 3 * g + 1) ∧ (s (k + 10 + g) 3 = q (41 + 3 * g + 2) ∨ (e ∧ (m : Int) ≤ s (k + 10 + g) 3 ∧ (m : Int) ≤ q (41 + 3 * g + 2))))
/-- what a row of numbers keeps to -/
def mRq (q : Nat → Int) (b : Int) : Prop := mRw q b ∧ (∀ l : Nat, l < 7 → (l : Int) < q 3 → 1 ≤ q (6 + 5 * l + 1) ∧ 1 ≤ q (6 + 5 * l)) ∧ (q 0 = 1 → 1 ≤ q 3 ∧ 1 ≤ q 4) ∧ (q 0 = 0 → q 3 = 0 ∧ q 4 = 0)
theorem jR_sq {e : Prop} {m : Nat} {s s' : jz_St} {k : Nat} {q : Nat → Int} (h : jR e m s k q) (he : ∀ x, k ≤ x → x < k + 14 → s' x = s x) : jR e m s' k q := by
  obtain ⟨h1, h2, h3, h4⟩ := h
  refine ⟨?_, fun l hl hc => ?_, fun l hl hc => ?_, fun g hg hc => ?_⟩
  · rw [he k (by omega) (by omega)]; exact h1
  · rw [he (k + 3 + l) (by omega) (by omega)]; exact h2 l hl hc
  · rw [he (k + 3 + l) (by omega) (by omega)]; exact h3 l hl hc
  · rw [he (k + 10 + g) (by omega) (by omega)]; exact h4 g hg hc
theorem jR_row {e : Prop} {m : Nat} {s : jz_St} {k : Nat} {q q' : Nat → Int} (h : jR e m s k q) (he : ∀ i, i < 53 → q' i = q i) : jR e m s k q' := by
  obtain ⟨h1, h2, h3, h4⟩ := h
  have e3 := he 3 (by decide)
  have e4 := he 4 (by decide)
  refine ⟨?_, fun l hl hc => ?_, fun l hl hc => ?_, fun g hg hc => ?_⟩
  · rw [e3, e4, he 1 (by decide), he 2 (by decide), he 5 (by decide)]; exact h1
  · rw [he _ (by omega), he _ (by omega), he _ (by omega), he _ (by omega), he _ (by omega)]
    exact h2 l hl (by omega)
  · exact h3 l hl (by omega)
  · rw [he _ (by omega), he _ (by omega), he _ (by omega)]
    exact h4 g hg (by omega)
theorem jR_take {e : Prop} {m : Nat} {s : jz_St} {k k2 : Nat} {q : Nat → Int} (hA : k + 14 ≤ k2 ∨ k2 + 14 ≤ k) (h : jR e m s k2 q) : jR e m (f_X5_take s k k2) k q := by
  obtain ⟨h1, h2, h3, h4⟩ := h
  refine ⟨?_, fun l hl hc => ?_, fun l hl hc => ?_, fun g hg hc => ?_⟩
  · rw [take_k s hA (by decide) (by decide), take_k s hA (by decide) (by decide), take_k s hA (by decide) (by decide), take_k s hA (by decide) (by decide), take_k s hA (by decide) (by decide)]
    exact h1
  · rw [take_leaf s hA hl (by decide) (by decide), take_leaf s hA hl (by decide) (by decide), take_leaf s hA hl (by decide) (by decide), take_leaf s hA hl (by decide) (by decide), take_leaf s hA hl (by decide) (by decide)]
    exact h2 l hl hc
  · rw [take_leaf s hA hl (by decide) (by decide)]; exact h3 l hl hc
  · rw [take_goat s hA hg (by decide) (by decide), take_goat s hA hg (by decide) (by decide), take_goat s hA hg (by decide) (by decide)]
    exact h4 g hg hc
theorem jR_lk {e : Prop} {m : Nat} {s : jz_St} {k : Nat} {q : Nat → Int} (h : jR e m s k q) {l : Nat} (hl : l < 7) (hc : (l : Int) < q 3) : fLkA s k l = rLk q l := by
  obtain ⟨h1, h2, -⟩ := h
  have h5 := h2 l hl hc
  unfold fLkA rLk
  rw [h5.1, h5.2.2.2.1, h5.2.2.2.2, h1.2.2.2.1, h1.2.2.2.2]
theorem fLk_0 (kd t h sl : Int) : fLk kd t 0 h sl = -1000000 := by
  unfold fLk
  rw [if_pos (Or.inl (Int.le_refl 0))]
theorem jR_lk0 {e : Prop} {m : Nat} {s : jz_St} {k : Nat} {q : Nat → Int} (h : jR e m s k q) {l : Nat} (hl : l < 7) (hc : q 3 ≤ (l : Int)) : fLkA s k l = -1000000 := by
  unfold fLkA
  rw [h.2.2.1 l hl hc, fLk_0]
theorem rChS_ge (q : Nat → Int) (rc : Int) : ∀ n, -1000000 ≤ (rChS q rc n).2 := by
  intro n
  induction n with
  | zero => simp [rChS]
  | succ n ih =>
    simp only [rChS]
    split
    · next h1 => exact Int.le_of_lt (Int.lt_of_le_of_lt ih h1)
    · exact ih
theorem jR_ch {e : Prop} {m : Nat} {s : jz_St} {k : Nat} {q : Nat → Int} (h : jR e m s k q) (hq : 0 ≤ q 3 ∧ q 3 ≤ 7) (rc : Int) : fChS s k rc 7 = rChS q rc (q 3).toNat := by
  have h1 : ∀ n : Nat, (n : Int) ≤ q 3 → fChS s k rc n = rChS q rc n := by
    intro n
    induction n with
    | zero => intro _; rfl
    | succ n ih =>
      intro hn
      have e : fLkR s k rc n = rLkR q rc n := by
        unfold fLkR rLkR
        rw [jR_lk h (by omega) (by omega), (h.2.1 n (by omega) (by omega)).2.2.1]
      simp only [fChS, rChS]
      rw [ih (by omega), e]
  have h2 : ∀ d : Nat, (q 3).toNat + d ≤ 7 → fChS s k rc ((q 3).toNat + d) = rChS q rc (q 3).toNat := by
    intro d
    induction d with
    | zero => intro _; exact h1 _ (by omega)
    | succ d ih =>
      intro hd
      have e : fLkR s k rc ((q 3).toNat + d) = -1000000 := by
        unfold fLkR
        rw [jR_lk0 h (by omega) (by omega)]
        split <;> rfl
      have hge := rChS_ge q rc (q 3).toNat
      show fChS s k rc ((q 3).toNat + d + 1) = _
      simp only [fChS]
      rw [ih (by omega), e, if_neg (by omega)]
  have := h2 (7 - (q 3).toNat) (by omega)
  rw [show (q 3).toNat + (7 - (q 3).toNat) = 7 by omega] at this
  exact this
theorem jR_cho {e : Prop} {m : Nat} {s : jz_St} {k : Nat} {q : Nat → Int} {b : Int} (h : jR e (m + 1) s k q) (hw : mRw q b) {g : Nat} (hg : g < 4) (hc : (g : Int) < q 4) : fCho s k (k + 10 + g) = rCho q g := by
  have hh := mRw_h hw
  have hgg := mRw_g hw g hg
  have h4 := h.2.2.2 g hg hc
  have h43 : s (k + 10 + g) 3 = q (41 + 3 * g + 2) ∨ (((m + 1 : Nat) : Int) ≤ s (k + 10 + g) 3 ∧ ((m + 1 : Nat) : Int) ≤ q (41 + 3 * g + 2)) := h4.2.2.imp id (fun x => x.2)
  unfold fCho rCho
  rw [h4.1, h4.2.1]
  by_cases c : q (41 + 3 * g) = 0 ∨ 0 < q (41 + 3 * g + 2)
  · rw [if_pos c, if_neg (by omega)]
  · rw [if_neg c, if_pos (by omega), jR_ch h (by omega)]
theorem bt_row {t : jz_St} {r g j : Nat} (hr : r = 420 ∨ r = 422) (e : rCho (t r) g = some j) (i : Nat) : f_X8_bt t r g r i = if i = 41 + 3 * g then (if fBite (t r (6 + 5 * j)) (t r (6 + 5 * j + 4)) < t r (41 + 3 * g) then t r (41 + 3 * g) - fBite (t r (6 + 5 * j)) (t r (6 + 5 * j + 4)) else 0) else if i = 6 + 5 * j + 4 then t r (6 + 5 * j + 4) - fBite (t r (6 + 5 * j)) (t r (6 + 5 * j + 4)) else t r i := by
  unfold f_X8_bt
  simp only [e]
  by_cases h1 : i = 41 + 3 * g
  · subst h1; rw [jz_su_s, if_pos rfl]
  · rw [jz_su_f h1, if_neg h1]
    by_cases h2 : i = 6 + 5 * j + 4
    · subst h2; rw [jz_su_s, if_pos rfl]
    · rw [jz_su_f h2, if_neg h2, jz_su_o (by omega), jz_su_o (by omega), jz_su_o (by omega)]
theorem bt_row0 {t : jz_St} {r g : Nat} (hr : r = 420 ∨ r = 422) (e : rCho (t r) g = none) : f_X8_bt t r g r = t r := by
  unfold f_X8_bt
  simp only [e]
  rw [jz_su_o (by omega), jz_su_o (by omega)]
theorem jR_bt {e : Prop} {m : Nat} {s t : jz_St} {k r g : Nat} {b : Int} (hr : r = 420 ∨ r = 422) (h : jR e (m + 1) s k (t r)) (hw : mRw (t r) b) (hg : g < 4) (hc : (g : Int) < t r 4) :
    jR e (m + 1) (f_X5_letBite s k g) k (f_X8_bt t r g r) ∧ v_X5_letBite s k g = v_X8_bt t r g := by
  have hh := mRw_h hw
  have hcho := jR_cho h hw hg hc
  obtain ⟨h1, h2, h3, h4⟩ := h
  cases eX : rCho (t r) g with
  | none =>
    rw [eX] at hcho
    have e1 : f_X5_letBite s k g = s := by unfold f_X5_letBite; simp only [hcho]
    have e2 : v_X5_letBite s k g = 0 := by unfold v_X5_letBite; simp only [hcho]
    have e3 : v_X8_bt t r g = 0 := by unfold v_X8_bt; simp only [eX]
    rw [e1, e2, e3, bt_row0 hr eX]
    exact ⟨⟨h1, h2, h3, h4⟩, rfl⟩
  | some j =>
    rw [eX] at hcho
    have hj := rCho_some eX
    have hj7 : j < 7 := by omega
    have hjl := h2 j hj7 (by omega)
    have e1 : f_X5_letBite s k g = f_X5_bite s k g j := by unfold f_X5_letBite; simp only [hcho]
    have e2 : v_X5_letBite s k g = fBite (t r (6 + 5 * j)) (t r (6 + 5 * j + 4)) := by unfold v_X5_letBite; simp only [hcho]; rw [hjl.1, hjl.2.2.2.2]
    have e3 : v_X8_bt t r g = fBite (t r (6 + 5 * j)) (t r (6 + 5 * j + 4)) := by unfold v_X8_bt; simp only [eX]
    have hk : ∀ i, i ≠ 7 → f_X5_bite s k g j k i = s k i := by
      intro i hi
      rw [← e1]
      exact letBite_k s k g hg hi
    have hr3 : ∀ i, i < 6 → f_X8_bt t r g r i = t r i := fun i hi => bt_h hr hi
    rw [e2, e3, e1]
    refine ⟨⟨?_, fun l hl hcl => ?_, fun l hl hcl => ?_, fun c hcg hcc => ?_⟩, rfl⟩
    · rw [hk 2 (by decide), hk 3 (by decide), hk 4 (by decide), hk 5 (by decide), hk 6 (by decide), hr3 3 (by decide), hr3 4 (by decide), hr3 1 (by decide), hr3 2 (by decide), hr3 5 (by decide)]
      exact h1
    · rw [hr3 3 (by decide)] at hcl
      have h5 := h2 l hl hcl
      have b1 : ∀ i, i = 1 ∨ i = 2 ∨ i = 3 ∨ i = 4 → f_X5_bite s k g j (k + 3 + l) i = s (k + 3 + l) i := by
        intro i hi
        rw [← e1]
        exact letBite_leaf s k g l i hg hl hi
      have lf : ∀ i, i < 41 → (i < 6 ∨ (i - 6) % 5 ≠ 4) → f_X8_bt t r g r i = t r i := fun i h1 h2 => by rw [bt_row hr eX, if_neg (by omega), if_neg (by omega)]
      rw [b1 1 (by omega), b1 2 (by omega), b1 3 (by omega), b1 4 (by omega), lf (6 + 5 * l) (by omega) (by omega), lf (6 + 5 * l + 1) (by omega) (by omega), lf (6 + 5 * l + 2) (by omega) (by omega), lf (6 + 5 * l + 3) (by omega) (by omega)]
      refine ⟨h5.1, h5.2.1, h5.2.2.1, h5.2.2.2.1, ?_⟩
      rw [bt5]
      by_cases q : l = j
      · subst q
        rw [if_pos rfl, bt_row hr eX, if_neg (by omega), if_pos rfl, h5.1, h5.2.2.2.2]
      · rw [if_neg (by omega), bt_row hr eX, if_neg (by omega), if_neg (by omega)]
        exact h5.2.2.2.2
    · rw [hr3 3 (by decide)] at hcl
      rw [bt5, if_neg (by omega)]
      exact h3 l hl hcl
    · rw [hr3 4 (by decide)] at hcc
      have h5 := h4 c hcg hcc
      have g1 : f_X8_bt t r g r (41 + 3 * c + 1) = t r (41 + 3 * c + 1) := by rw [bt_row hr eX, if_neg (by omega), if_neg (by omega)]
      have g2 : f_X8_bt t r g r (41 + 3 * c + 2) = t r (41 + 3 * c + 2) := by rw [bt_row hr eX, if_neg (by omega), if_neg (by omega)]
      rw [btn s k g j (k + 10 + c) (i := 2) (by decide) (by decide) (by decide) (by decide) (by decide), btn s k g j (k + 10 + c) (i := 3) (by decide) (by decide) (by decide) (by decide) (by decide), g1, g2]
      refine ⟨?_, h5.2.1, h5.2.2⟩
      rw [bt1]
      by_cases q : c = g
      · subst q
        rw [if_pos rfl, bt_row hr eX, if_pos rfl, h5.1, hjl.1, hjl.2.2.2.2]
        (repeat' split) <;> omega
      · rw [if_neg (by omega), bt_row hr eX, if_neg (by omega), if_neg (by omega)]
        exact h5.1
theorem jR_phB {e : Prop} {m : Nat} {s t : jz_St} {k r : Nat} {b : Int} (hr : r = 420 ∨ r = 422) (h : jR e (m + 1) s k (t r)) (hw : mRw (t r) b) : ∀ n : Nat, (n : Int) ≤ t r 4 →
    jR e (m + 1) (f_X5_phB s k n) k (f_X8_phB t r n r) ∧ v_X5_phB s k n = v_X8_phB t r n := by
  have hh := mRw_h hw
  intro n
  induction n with
  | zero => intro _; exact ⟨h, rfl⟩
  | succ n ih =>
    intro hn
    obtain ⟨i1, i2⟩ := ih (by omega)
    have e4 : f_X8_phB t r n r 4 = t r 4 := phB_h hr (by decide) n
    have e3 : f_X5_phB s k n k 3 = t r 4 := by rw [i1.1.2.1, e4]
    have h5 := jR_bt hr i1 (phB_mr hr hw n (by omega)) (g := n) (by omega) (by omega)
    simp only [f_X5_phB, v_X5_phB, f_X8_phB, v_X8_phB]
    rw [if_pos (by omega), if_pos (by omega), i2, h5.2]
    exact ⟨h5.1, rfl⟩
theorem phB_stop {s : jz_St} {k : Nat} : ∀ d n : Nat, s k 3 ≤ (n : Int) → n + d ≤ 4 → f_X5_phB s k (n + d) = f_X5_phB s k n ∧ v_X5_phB s k (n + d) = v_X5_phB s k n := by
  intro d
  induction d with
  | zero => intro n _ _; exact ⟨rfl, rfl⟩
  | succ d ih =>
    intro n hn hd
    obtain ⟨i1, i2⟩ := ih n hn (by omega)
    have e3 : f_X5_phB s k (n + d) k 3 = s k 3 := phB_k s k (by decide) _ (by omega)
    show f_X5_phB s k (n + d + 1) = _ ∧ v_X5_phB s k (n + d + 1) = _
    simp only [f_X5_phB, v_X5_phB]
    rw [if_neg (by omega), if_neg (by omega), i1, i2]
    exact ⟨rfl, by omega⟩
theorem jR_phB4 {e : Prop} {m : Nat} {s t : jz_St} {k r : Nat} {b : Int} (hr : r = 420 ∨ r = 422) (h : jR e (m + 1) s k (t r)) (hw : mRw (t r) b) :
    jR e (m + 1) (f_X5_phB s k 4) k (f_X8_hr1 t r r) ∧ v_X5_phB s k 4 = v_X8_hour t r := by
  have hh := mRw_h hw
  have h1 := jR_phB hr h hw (t r 4).toNat (by omega)
  have h2 := phB_stop (s := s) (k := k) (4 - (t r 4).toNat) (t r 4).toNat (by have := h.1.2.1; omega) (by omega)
  rw [show (t r 4).toNat + (4 - (t r 4).toNat) = 4 by omega] at h2
  rw [h2.1, h2.2]
  exact h1
theorem phE_g1 (s : jz_St) (k g : Nat) (hg : g < 4) : ∀ n : Nat, f_X5_phE s k n (k + 10 + g) 1 = if g < n then (if s (k + 10 + g) 1 + s k 4 < 99 then s (k + 10 + g) 1 + s k 4 else 99) else s (k + 10 + g) 1 := by
  intro n
  induction n with
  | zero => rfl
  | succ n ih =>
    have hk : f_X5_phE s k n k 4 = s k 4 := by
      clear ih
      induction n with
      | zero => rfl
      | succ n ih2 => simp only [f_X5_phE]; rw [eho _ _ _ _ (by omega), ih2]
    simp only [f_X5_phE]
    rw [eh1, hk]
    by_cases q : g = n
    · subst q
      rw [if_pos rfl, if_pos (show g < g + 1 by omega), ih, if_neg (show ¬ g < g by omega)]
    · rw [if_neg (show ¬ k + 10 + g = k + 10 + n by omega), ih]
      by_cases q2 : g < n
      · rw [if_pos q2, if_pos (show g < n + 1 by omega)]
      · rw [if_neg q2, if_neg (show ¬ g < n + 1 by omega)]
theorem phE_g3 (s : jz_St) (k g : Nat) (hg : g < 4) : ∀ n : Nat, f_X5_phE s k n (k + 10 + g) 3 = if g < n then (if 0 < s (k + 10 + g) 3 - 1 then s (k + 10 + g) 3 - 1 else 0) else s (k + 10 + g) 3 := by
  intro n
  induction n with
  | zero => rfl
  | succ n ih =>
    simp only [f_X5_phE]
    rw [eh3]
    by_cases q : g = n
    · subst q
      rw [if_pos rfl, if_pos (show g < g + 1 by omega), ih, if_neg (show ¬ g < g by omega)]
    · rw [if_neg (show ¬ k + 10 + g = k + 10 + n by omega), ih]
      by_cases q2 : g < n
      · rw [if_pos q2, if_pos (show g < n + 1 by omega)]
      · rw [if_neg q2, if_neg (show ¬ g < n + 1 by omega)]
theorem phE_g2 (s : jz_St) (k g : Nat) : ∀ n : Nat, f_X5_phE s k n (k + 10 + g) 2 = s (k + 10 + g) 2 := by
  intro n
  induction n with
  | zero => rfl
  | succ n ih => simp only [f_X5_phE]; rw [ehn _ _ _ _ (by decide) (by decide), ih]
theorem mphE_g0 (t : jz_St) (r g : Nat) : ∀ n : Nat, f_X8_phE t r n r (41 + 3 * g) = if g < n then (if 99 < t r (41 + 3 * g) + t r 1 then 99 else t r (41 + 3 * g) + t r 1) else t r (41 + 3 * g) := by
  intro n
  induction n with
  | zero => rfl
  | succ n ih =>
    have hk : f_X8_phE t r n r 1 = t r 1 := mphE_h (by decide) n
    simp only [f_X8_phE, f_X8_eh]
    rw [jz_su_f (by omega)]
    by_cases q : g = n
    · subst q
      rw [jz_su_s, if_pos (show g < g + 1 by omega), ih, if_neg (show ¬ g < g by omega), hk]
    · rw [jz_su_f (by omega), ih]
      by_cases q2 : g < n
      · rw [if_pos q2, if_pos (show g < n + 1 by omega)]
      · rw [if_neg q2, if_neg (show ¬ g < n + 1 by omega)]
theorem mphE_g2 (t : jz_St) (r g : Nat) : ∀ n : Nat, f_X8_phE t r n r (41 + 3 * g + 2) = if g < n then (t r (41 + 3 * g + 2) - if 0 < t r (41 + 3 * g + 2) then 1 else 0) else t r (41 + 3 * g + 2) := by
  intro n
  induction n with
  | zero => rfl
  | succ n ih =>
    simp only [f_X8_phE, f_X8_eh]
    by_cases q : g = n
    · subst q
      rw [jz_su_s, if_pos (show g < g + 1 by omega), ih, if_neg (show ¬ g < g by omega)]
    · rw [jz_su_f (by omega), jz_su_f (by omega), ih]
      by_cases q2 : g < n
      · rw [if_pos q2, if_pos (show g < n + 1 by omega)]
      · rw [if_neg q2, if_neg (show ¬ g < n + 1 by omega)]
theorem mphE_g1 (t : jz_St) (r g : Nat) : ∀ n : Nat, f_X8_phE t r n r (41 + 3 * g + 1) = t r (41 + 3 * g + 1) := by
  intro n
  induction n with
  | zero => rfl
  | succ n ih => simp only [f_X8_phE, f_X8_eh]; rw [jz_su_f (by omega), jz_su_f (by omega), ih]
theorem jR_phE4 {e : Prop} {m : Nat} {s t : jz_St} {k r : Nat} {b : Int} (h : jR e (m + 1) s k (t r)) (hw : mRw (t r) b) : jR e m (f_X5_phE s k 4) k (f_X8_phE t r (t r 4).toNat r) := by
  have hh := mRw_h hw
  obtain ⟨h1, h2, h3, h4⟩ := h
  have hr3 : ∀ i, i < 41 → f_X8_phE t r (t r 4).toNat r i = t r i := fun i hi => mphE_h hi _
  refine ⟨?_, fun l hl hcl => ?_, fun l hl hcl => ?_, fun c hcg hcc => ?_⟩
  · rw [phE_k _ _ 4 (by omega), hr3 3 (by decide), hr3 4 (by decide), hr3 1 (by decide), hr3 2 (by decide), hr3 5 (by decide)]
    exact h1
  · rw [hr3 3 (by decide)] at hcl
    rw [phE_leaf _ _ _ hl 4 (by omega), hr3 _ (by omega), hr3 _ (by omega), hr3 _ (by omega), hr3 _ (by omega), hr3 _ (by omega)]
    exact h2 l hl hcl
  · rw [hr3 3 (by decide)] at hcl
    rw [phE_leaf _ _ _ hl 4 (by omega)]
    exact h3 l hl hcl
  · rw [hr3 4 (by decide)] at hcc
    have h5 := h4 c hcg hcc
    have hg := mRw_g hw c hcg
    have p1 := phE_g1 s k c hcg 4
    have p3 := phE_g3 s k c hcg 4
    have q0 := mphE_g0 t r c (t r 4).toNat
    have q2 := mphE_g2 t r c (t r 4).toNat
    rw [if_pos (show c < 4 by omega)] at p1 p3
    rw [if_pos (show c < (t r 4).toNat by omega)] at q0 q2
    rw [p1, phE_g2, p3, q0, mphE_g1, q2, h5.1, h1.2.2.1]
    refine ⟨?_, h5.2.1, ?_⟩
    · (repeat' split) <;> omega
    · rcases h5.2.2 with q | ⟨q0, q1, q2⟩
      · rw [q]
        left
        (repeat' split) <;> omega
      · right
        refine ⟨q0, ?_, ?_⟩
        · split <;> omega
        · split <;> omega
theorem jR_hour {e : Prop} {m : Nat} {s t : jz_St} {k r : Nat} {b : Int} (hr : r = 420 ∨ r = 422) (h : jR e (m + 1) s k (t r)) (hw : mRw (t r) b) :
    jR e m (f_X5_passHour s k) k (f_X8_hour t r r) ∧ v_X5_passHour s k = v_X8_hour t r := by
  have hh := mRw_h hw
  obtain ⟨i1, i2⟩ := jR_phB4 hr h hw
  have e4 : f_X8_hr1 t r r 4 = t r 4 := phB_h hr (by decide) _
  have i3 := jR_phE4 i1 (phB_mr hr hw _ (by omega))
  rw [e4] at i3
  refine ⟨?_, i2⟩
  unfold f_X5_passHour f_X8_hour
  (try simp only)
  have i4 : jR e m (f_X5_phE (f_X5_phB s k 4) k 4) k (f_X8_hr2 t r r) := i3
  obtain ⟨h1, h2, h3, h4⟩ := i4
  refine ⟨?_, fun l hl hcl => ?_, fun l hl hcl => ?_, fun c hcg hcc => ?_⟩
  · rw [jz_su_f (by decide), jz_su_f (by decide), jz_su_f (by decide), jz_su_f (by decide), jz_su_s, jz_su_f (by decide), jz_su_f (by decide), jz_su_f (by decide), jz_su_f (by decide), jz_su_s]
    exact ⟨h1.1, h1.2.1, h1.2.2.1, h1.2.2.2.1, by rw [h1.2.2.2.2]⟩
  · rw [jz_su_f (by decide)] at hcl
    rw [jz_su_o (by omega), jz_su_f (by omega), jz_su_f (by omega), jz_su_f (by omega), jz_su_f (by omega), jz_su_f (by omega)]
    exact h2 l hl hcl
  · rw [jz_su_f (by decide)] at hcl
    rw [jz_su_o (by omega)]
    exact h3 l hl hcl
  · rw [jz_su_f (by decide)] at hcc
    rw [jz_su_o (by omega), jz_su_f (by omega), jz_su_f (by omega), jz_su_f (by omega)]
    exact h4 c hcg hcc
theorem jR_hours {e : Prop} {m : Nat} {s t : jz_St} {k r : Nat} {b : Int} (hr : r = 420 ∨ r = 422) : ∀ n : Nat, jR e (m + n) s k (t r) → mRw (t r) b → jR e m (f_X5_passHours s k n) k (f_X8_hoursOf t r n r) := by
  intro n
  induction n generalizing m with
  | zero => intro h _; exact h
  | succ n ih =>
    intro h hw
    have h1 : jR e (m + 1 + n) s k (t r) := by
      rw [show m + 1 + n = m + (n + 1) by omega]; exact h
    exact (jR_hour hr (ih h1 hw) (hoursOf_mr hr hw n)).1
theorem jR_f {m m2 : Nat} {s : jz_St} {k : Nat} {q : Nat → Int} (h : jR False m s k q) : jR False m2 s k q :=
  ⟨h.1, h.2.1, h.2.2.1, fun g hg hc => ⟨(h.2.2.2 g hg hc).1, (h.2.2.2 g hg hc).2.1, Or.inl ((h.2.2.2 g hg hc).2.2.elim id (fun x => x.1.elim))⟩⟩
theorem jR_if {e : Prop} {m : Nat} {s : jz_St} {k : Nat} {q : Nat → Int} {b : Int} (h : jR e m s k q) (hq : mRq q b) : fIF s k 7 = rIF q (q 3).toNat := by
  have hh := mRw_h hq.1
  have h1 : ∀ n : Nat, (n : Int) ≤ q 3 → fIF s k n = rIF q n := by
    intro n
    induction n with
    | zero => intro _; rfl
    | succ n ih =>
      intro hn
      have h5 := h.2.1 n (by omega) (by omega)
      have h6 := hq.2.1 n (by omega) (by omega)
      simp only [fIF, rIF]
      rw [ih (by omega), h5.2.1, h5.2.2.2.2]
      by_cases c : q (6 + 5 * n + 1) ≤ 2 * q (6 + 5 * n + 4)
      · rw [if_pos c, if_pos (by omega)]
      · rw [if_neg c, if_neg (by omega)]
  have h2 : ∀ d : Nat, (q 3).toNat + d ≤ 7 → fIF s k ((q 3).toNat + d) = rIF q (q 3).toNat := by
    intro d
    induction d with
    | zero => intro _; exact h1 _ (by omega)
    | succ d ih =>
      intro hd
      show fIF s k ((q 3).toNat + d + 1) = _
      simp only [fIF]
      obtain ⟨a, e1, e2⟩ := rIF_n (q := q) (q 3).toNat (by omega)
      have h7 : 2 ^ (q 3).toNat ≤ 2 ^ 7 := Nat.pow_le_pow_right (by decide) (by omega)
      rw [ih (by omega), h.2.2.1 _ (by omega) (by omega), if_neg (by omega), e1, jor_0 a (by omega)]
  have := h2 (7 - (q 3).toNat) (by omega)
  rw [show (q 3).toNat + (7 - (q 3).toNat) = 7 by omega] at this
  exact this
theorem jR_nv {e : Prop} {m : Nat} {s : jz_St} {k : Nat} {q : Nat → Int} {b : Int} (h : jR e m s k q) (hq : mRw q b) : fNV s k 7 = rOp q (q 3).toNat := by
  have hh := mRw_h hq
  have h1 : ∀ n : Nat, (n : Int) ≤ q 3 → fNV s k n = rOp q n := by
    intro n
    induction n with
    | zero => intro _; rfl
    | succ n ih =>
      intro hn
      have h5 := h.2.1 n (by omega) (by omega)
      simp only [fNV, rOp]
      rw [ih (by omega), h5.2.2.2.2]
      by_cases c : 0 < q (6 + 5 * n + 4)
      · rw [if_pos c, if_neg (by omega)]
      · rw [if_neg c, if_pos (by omega)]
  have h2 : ∀ d : Nat, (q 3).toNat + d ≤ 7 → fNV s k ((q 3).toNat + d) = rOp q (q 3).toNat := by
    intro d
    induction d with
    | zero => intro _; exact h1 _ (by omega)
    | succ d ih =>
      intro hd
      show fNV s k ((q 3).toNat + d + 1) = _
      simp only [fNV]
      obtain ⟨a, e1, e2⟩ := rOp_n (q := q) (q 3).toNat (by omega)
      have h7 : 2 ^ (q 3).toNat ≤ 2 ^ 7 := Nat.pow_le_pow_right (by decide) (by omega)
      rw [ih (by omega), h.2.2.1 _ (by omega) (by omega), if_pos (by omega), e1, jor_0 a (by omega)]
  have := h2 (7 - (q 3).toNat) (by omega)
  rw [show (q 3).toNat + (7 - (q 3).toNat) = 7 by omega] at this
  exact this
theorem jR_la {e : Prop} {m : Nat} {s : jz_St} {k : Nat} {q : Nat → Int} {b : Int} (h : jR e m s k q) (hq : mRw q b) : fLA s k 7 = rLA q (q 3).toNat := by
  have hh := mRw_h hq
  have h1 : ∀ n : Nat, (n : Int) ≤ q 3 → fLA s k n = rLA q n := by
    intro n
    induction n with
    | zero => intro _; rfl
    | succ n ih =>
      intro hn
      have h5 := h.2.1 n (by omega) (by omega)
      simp only [fLA, rLA]
      rw [ih (by omega), h5.2.2.2.2]
  have h2 : ∀ d : Nat, (q 3).toNat + d ≤ 7 → fLA s k ((q 3).toNat + d) = rLA q (q 3).toNat := by
    intro d
    induction d with
    | zero => intro _; exact h1 _ (by omega)
    | succ d ih =>
      intro hd
      show fLA s k ((q 3).toNat + d + 1) = _
      simp only [fLA]
      rw [ih (by omega), h.2.2.1 _ (by omega) (by omega), Int.add_zero]
  have := h2 (7 - (q 3).toNat) (by omega)
  rw [show (q 3).toNat + (7 - (q 3).toNat) = 7 by omega] at this
  exact this
