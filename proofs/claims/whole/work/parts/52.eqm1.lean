/-! method by method: what is asked of the square that stands -/
theorem jor_z {a : Int} (h : jI a) : jor a 0 = a := by
  unfold jor
  show (Int32.ofInt a ||| 0).toInt = a
  rw [Int32.or_zero]
  exact jz_toInt h
abbrev H3 (s t : jz_St) : Prop := CR s t ∧ MI t ∧ CI s
theorem H3_n {s t : jz_St} (h : H3 s t) : (s 344 2 = t 420 3 ∧ s 344 3 = t 420 4) ∧ (0 ≤ t 420 3 ∧ t 420 3 ≤ 7) ∧ (0 ≤ t 420 4 ∧ t 420 4 ≤ 4) ∧ (t 420 0 = 1 → 1 ≤ t 420 3 ∧ 1 ≤ t 420 4) ∧ (t 420 0 = 0 → t 420 3 = 0 ∧ t 420 4 = 0) ∧ (t 420 0 = 0 ∨ t 420 0 = 1) := by
  have h1 := h.1.2.1.1
  have h2 := h.2.1.2.1
  have h3 := mRw_h h2.1
  exact ⟨⟨h1.1, h1.2.1⟩, h3.2.2.2.1, h3.2.2.2.2.1, h2.2.2.1, h2.2.2.2, by omega⟩
theorem o_leaf {s t : jz_St} (h : H3 s t) (l w : Int) : v_X7_leaf s l w = v_X8_leaf t l w := by
  have hn := H3_n h
  have h1 := h.1.2.1
  have h2 := h.2.1.2.1
  unfold v_X7_leaf v_X8_leaf
  by_cases c : 0 ≤ l ∧ l < t 420 3
  · have h5 := h1.2.1 l.toNat (by omega) (by omega)
    have h6 := h2.2.1 l.toNat (by omega) (by omega)
    have h7 := mRw_l h2.1 l.toNat (by omega)
    have h8 := jR_lk h1 (l := l.toNat) (by omega) (by omega)
    rw [if_pos (show 0 ≤ l ∧ l < s 344 2 ∧ l < 7 by omega), h5.2.1, h5.2.2.1, h5.2.2.2.1, h5.2.2.2.2, h8]
    by_cases cw : 0 ≤ w ∧ w ≤ 5
    · rw [if_pos (show (0 ≤ l ∧ l ≤ t 420 3 - 1) ∧ 0 ≤ w ∧ w ≤ 5 by omega)]
      have hw : w = 0 ∨ w = 1 ∨ w = 2 ∨ w = 3 ∨ w = 4 ∨ w = 5 := by omega
      rcases hw with rfl | rfl | rfl | rfl | rfl | rfl
      · rfl
      · rfl
      · rfl
      · rfl
      · rfl
      · show (if t 420 (6 + 5 * l.toNat + 4) ≤ 0 then (0 : Int) else if 0 < t 420 (6 + 5 * l.toNat + 4) ∧ t 420 (6 + 5 * l.toNat + 1) ≤ 2 * t 420 (6 + 5 * l.toNat + 4) then 2 else 1) = (if t 420 (6 + 5 * l.toNat + 1) ≤ 2 * t 420 (6 + 5 * l.toNat + 4) then 2 else if 0 < t 420 (6 + 5 * l.toNat + 4) then 1 else 0)
        (repeat' split) <;> omega
    · rw [if_neg (show ¬ ((0 ≤ l ∧ l ≤ t 420 3 - 1) ∧ 0 ≤ w ∧ w ≤ 5) by omega), if_neg (show ¬ w = 0 by omega), if_neg (show ¬ w = 1 by omega), if_neg (show ¬ w = 2 by omega), if_neg (show ¬ w = 3 by omega), if_neg (show ¬ w = 4 by omega), if_neg (show ¬ w = 5 by omega)]
  · rw [if_neg (show ¬ (0 ≤ l ∧ l < s 344 2 ∧ l < 7) by omega), if_neg (show ¬ ((0 ≤ l ∧ l ≤ t 420 3 - 1) ∧ 0 ≤ w ∧ w ≤ 5) by omega)]
theorem o_goat {s t : jz_St} (h : H3 s t) (c w : Int) : v_X7_goat s c w = v_X8_goat t c w := by
  have hn := H3_n h
  have h1 := h.1.2.1
  have h2 := h.2.1.2.1
  unfold v_X7_goat v_X8_goat
  by_cases cc : 0 ≤ c ∧ c < t 420 4
  · have h5 := h1.2.2.2 c.toNat (by omega) (by omega)
    have h6 : s (344 + 10 + c.toNat) 3 = t 420 (41 + 3 * c.toNat + 2) := h5.2.2.elim id (fun x => x.1.elim)
    have h8 := jR_cho (m := 0) (jR_f h1) h2.1 (g := c.toNat) (by omega) (by omega)
    rw [if_pos (show 0 ≤ c ∧ c < s 344 3 ∧ c < 4 by omega), h5.1, h5.2.1, h6, h8]
    by_cases cw : 0 ≤ w ∧ w ≤ 3
    · rw [if_pos (show (0 ≤ c ∧ c ≤ t 420 4 - 1) ∧ 0 ≤ w ∧ w ≤ 3 by omega)]
      have hw : w = 0 ∨ w = 1 ∨ w = 2 ∨ w = 3 := by omega
      rcases hw with rfl | rfl | rfl | rfl
      · rfl
      · rfl
      · rfl
      · rfl
    · rw [if_neg (show ¬ ((0 ≤ c ∧ c ≤ t 420 4 - 1) ∧ 0 ≤ w ∧ w ≤ 3) by omega), if_neg (show ¬ w = 0 by omega), if_neg (show ¬ w = 1 by omega), if_neg (show ¬ w = 2 by omega), if_neg (show ¬ w = 3 by omega)]
  · rw [if_neg (show ¬ (0 ≤ c ∧ c < s 344 3 ∧ c < 4) by omega), if_neg (show ¬ ((0 ≤ c ∧ c ≤ t 420 4 - 1) ∧ 0 ≤ w ∧ w ≤ 3) by omega)]
theorem o_kind {s t : jz_St} (h : H3 s t) (l : Int) : v_X7_kind s l = v_X8_kind t l := by
  have hn := H3_n h
  have h1 := h.1.2.1
  unfold v_X7_kind v_X8_kind
  by_cases c : 0 ≤ l ∧ l < t 420 3
  · have h5 := h1.2.1 l.toNat (by omega) (by omega)
    rw [if_pos (show 0 ≤ l ∧ l < s 344 2 ∧ l < 7 by omega), if_pos (show 0 ≤ l ∧ l ≤ t 420 3 - 1 by omega), h5.1]
  · rw [if_neg (show ¬ (0 ≤ l ∧ l < s 344 2 ∧ l < 7) by omega), if_neg (show ¬ (0 ≤ l ∧ l ≤ t 420 3 - 1) by omega)]
theorem o_fault {s t : jz_St} (h : H3 s t) : v_X7_fault s = v_X8_fault t := h.1.1.2
theorem o_status {s t : jz_St} (h : H3 s t) : v_X7_status s = v_X8_status t := h.1.1.1
theorem o_trace {s t : jz_St} (h : H3 s t) (i : Int) : v_X7_trace s i = v_X8_trace t i := by
  have h7 := h.1.2.2.2.2.2.2
  have h8 := h.2.1.1.2.2.2
  unfold v_X7_trace v_X8_trace
  by_cases c : 0 ≤ i ∧ i < t 416 24
  · rw [if_pos (show 0 ≤ i ∧ i < s 342 1 ∧ i < 16 by have := h7.1; omega), if_pos (show 0 ≤ i ∧ i ≤ t 416 24 - 1 by omega), h7.2 i.toNat (by omega)]
  · rw [if_neg (show ¬ (0 ≤ i ∧ i < s 342 1 ∧ i < 16) by have := h7.1; omega), if_neg (show ¬ (0 ≤ i ∧ i ≤ t 416 24 - 1) by omega)]
theorem rt_e {s t : jz_St} (h : cRg s t) : ∀ n, n ≤ 8 → fRT s n = mRT t n := by
  intro n
  induction n with
  | zero => intro _; rfl
  | succ n ih =>
    intro hn
    have h1 := (h n (by omega)).1
    simp only [fRT, mRT]
    rw [ih (by omega), h1]
    by_cases c : t 417 n < 0
    · rw [if_pos c, if_pos rfl, if_neg (by omega)]
    · rw [if_neg c, if_neg (by decide), if_pos (by omega)]
theorem o_count {s t : jz_St} (h : H3 s t) (w : Int) : v_X7_count s w = v_X8_count t w := by
  have h1 := h.1.2.1
  have h2 := h.2.1.2.1
  have e0 := rt_e h.1.2.2.1 8 (by omega)
  have e4 := jR_if h1 h2
  have e5 := jR_la h1 h2.1
  unfold v_X7_count v_X8_count
  rw [e0, e4, e5, h1.1.1, h1.1.2.1, h1.1.2.2.2.2, h.1.2.2.2.2.1.1, h.1.2.2.2.1.1]
theorem o_rivals_c {s t : jz_St} (h : H3 s t) {a b : Nat} (ha : a < 7) (hb : b < 7) : fRvC s a b ↔ a < b ∧ (b : Int) < t 420 3 ∧ rRvE (t 420) a b = 1 := by
  have hn := H3_n h
  have h1 := h.1.2.1
  unfold fRvC rRvE
  by_cases c : a < b ∧ (b : Int) < t 420 3
  · rw [jR_lk h1 (l := a) ha (by omega), jR_lk h1 (l := b) hb (by omega)]
    constructor
    · intro q
      rw [if_pos q.2]
      exact ⟨c.1, c.2, rfl⟩
    · intro q
      refine ⟨c.1, ?_⟩
      by_cases q2 : rLk (t 420) a ≠ -1000000 ∧ rLk (t 420) a = rLk (t 420) b
      · exact q2
      · rw [if_neg q2] at q
        exact absurd q.2.2 (by decide)
  · constructor
    · intro q
      exfalso
      have hb2 : t 420 3 ≤ (b : Int) := by omega
      have e := jR_lk0 h1 (l := b) hb hb2
      rw [e] at q
      exact q.2.1 q.2.2
    · intro q
      exact absurd ⟨q.1, q.2.1⟩ c
