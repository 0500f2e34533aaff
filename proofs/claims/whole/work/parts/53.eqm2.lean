/-! method by method: what is foretold -/
theorem OK_t {s t s' t' : jz_St} (h : H3 s t) (hs : ∀ x, jOff 358 x → s' x = s x) (ht : ∀ x, x ≠ 422 → x ≠ 425 → x ≠ 426 → t' x = t x) : OK s t s' t' :=
  OK_q h (fun x _ hx => hs x hx) (fun x _ h1 h2 h3 => ht x h1 h2 h3) (fun x hx => hs x (by unfold jOff; omega)) (fun x hx => ht x (by omega) (by omega) (by omega))
theorem tk_off (s : jz_St) : ∀ x, jOff 358 x → f_X5_take s 358 344 x = s x := fun x hx => take_off hx
theorem tkh_off (s : jz_St) (n : Nat) : ∀ x, jOff 358 x → f_X5_passHours (f_X5_take s 358 344) 358 n x = s x := fun x hx => by rw [passHours_off hx, take_off hx]
theorem ly_off (t : jz_St) (n : Nat) : ∀ x, x ≠ 422 → x ≠ 425 → x ≠ 426 → f_X8_hoursOf (f_X8_layThen t) 422 n x = t x := fun x h1 h2 h3 => by rw [hoursOf_o h1 h2 h3, layThen_o _ h1]
theorem H3_T {s t : jz_St} (h : H3 s t) : jR False 1 (f_X5_take s 358 344) 358 (f_X8_layThen t 422) ∧ mRq (f_X8_layThen t 422) 999 := ⟨layThen_R h.1.2.1, layThen_mq h.2.1.2.1⟩
theorem H3_h {s t : jz_St} (h : H3 s t) (n : Nat) : jR False 1 (f_X5_passHours (f_X5_take s 358 344) 358 n) 358 (f_X8_hoursOf (f_X8_layThen t) 422 n 422) ∧ mRq (f_X8_hoursOf (f_X8_layThen t) 422 n 422) (999 + n) :=
  ⟨jR_f (jR_hours (m := 0) (Or.inr rfl) n (jR_f (H3_T h).1) (H3_T h).2.1), hoursOf_mq (Or.inr rfl) (H3_T h).2 n⟩
theorem lyh (t : jz_St) (n : Nat) {i : Nat} (hi : i < 5) : f_X8_hoursOf (f_X8_layThen t) 422 n 422 i = t 420 i := by
  rw [hoursOf_h (Or.inr rfl) hi, layThen_in t (by omega)]
theorem o_ahead {s t : jz_St} (h : H3 s t) (l n : Int) : v_X7_ahead s l n = v_X8_ahead t l n ∧ OK s t (f_X7_ahead s l n) (f_X8_ahead t l n) := by
  have hn := H3_n h
  have hh := H3_h h n.toNat
  unfold v_X7_ahead v_X8_ahead f_X7_ahead f_X8_ahead
  by_cases c : (0 ≤ l ∧ l < t 420 3) ∧ 0 ≤ n ∧ n ≤ 60
  · rw [if_pos (show (0 ≤ l ∧ l < s 344 2 ∧ l < 7) ∧ 0 ≤ n ∧ n ≤ 60 by omega), if_pos (show (0 ≤ l ∧ l < s 344 2 ∧ l < 7) ∧ 0 ≤ n ∧ n ≤ 60 by omega), if_pos (show (0 ≤ l ∧ l ≤ t 420 3 - 1) ∧ 0 ≤ n ∧ n ≤ 60 by omega), if_pos (show (0 ≤ l ∧ l ≤ t 420 3 - 1) ∧ 0 ≤ n ∧ n ≤ 60 by omega)]
    exact ⟨(hh.1.2.1 l.toNat (by omega) (by rw [lyh t _ (by decide)]; omega)).2.2.2.2, OK_t h (tkh_off s _) (ly_off t _)⟩
  · rw [if_neg (show ¬ ((0 ≤ l ∧ l < s 344 2 ∧ l < 7) ∧ 0 ≤ n ∧ n ≤ 60) by omega), if_neg (show ¬ ((0 ≤ l ∧ l < s 344 2 ∧ l < 7) ∧ 0 ≤ n ∧ n ≤ 60) by omega), if_neg (show ¬ ((0 ≤ l ∧ l ≤ t 420 3 - 1) ∧ 0 ≤ n ∧ n ≤ 60) by omega), if_neg (show ¬ ((0 ≤ l ∧ l ≤ t 420 3 - 1) ∧ 0 ≤ n ∧ n ≤ 60) by omega)]
    exact ⟨rfl, OK_t h (tk_off s) (fun _ _ _ _ => rfl)⟩
theorem o_force {s t : jz_St} (h : H3 s t) (n : Int) : v_X7_force s n = v_X8_force t n ∧ OK s t (f_X7_force s n) (f_X8_force t n) := by
  have hn := H3_n h
  have hh := H3_h h n.toNat
  unfold v_X7_force v_X8_force f_X7_force f_X8_force
  by_cases c0 : t 420 0 = 1
  · rw [if_pos c0, if_pos c0, if_neg (show ¬ s 344 2 ≤ 0 by omega), if_neg (show ¬ s 344 2 ≤ 0 by omega)]
    by_cases c : 0 ≤ n ∧ n ≤ 60
    · rw [if_pos c, if_pos c, if_pos c, if_pos c]
      exact ⟨jR_if hh.1 hh.2, OK_t h (tkh_off s _) (ly_off t _)⟩
    · rw [if_neg c, if_neg c, if_neg c, if_neg c]
      exact ⟨rfl, OK_id h⟩
  · rw [if_neg c0, if_neg c0, if_pos (show s 344 2 ≤ 0 by omega), if_pos (show s 344 2 ≤ 0 by omega)]
    exact ⟨rfl, OK_id h⟩
theorem emp_off {k a x : Nat} (hx : jOff k x) : ∀ (m i : Nat) (s : jz_St), (fEmp s k a i m).2 x = s x := by
  intro m
  induction m with
  | zero => intro i s; rfl
  | succ m ih =>
    intro i s
    simp only [fEmp]
    split
    · rfl
    · rw [ih, passHour_off hx]
theorem memp_off {a x : Nat} (h1 : x ≠ 422) (h2 : x ≠ 425) (h3 : x ≠ 426) : ∀ (m i : Nat) (t : jz_St), (rEmp t a i m).2 x = t x := by
  intro m
  induction m with
  | zero => intro i s; rfl
  | succ m ih =>
    intro i s
    simp only [rEmp]
    split
    · rfl
    · rw [ih, hour_o h1 h2 h3]
theorem emp_e {l : Nat} (hl : l < 7) : ∀ (m i : Nat) (s t : jz_St) (b : Int), jR False 1 s 358 (t 422) → mRw (t 422) b → (l : Int) < t 422 3 → (fEmp s 358 (358 + 3 + l) i m).1 = (rEmp t (6 + 5 * l + 4) i m).1 := by
  intro m
  induction m with
  | zero => intro i s t b _ _ _; rfl
  | succ m ih =>
    intro i s t b h hw hc
    have h5 := h.2.1 l hl hc
    have h6 := mRw_l hw l hl
    have h7 := jR_hour (m := 0) (Or.inr rfl) (jR_f h) hw
    simp only [fEmp, rEmp]
    rw [h5.2.2.2.2]
    by_cases c : t 422 (6 + 5 * l + 4) = 0
    · rw [if_pos c, if_pos (show t 422 (6 + 5 * l + 4) ≤ 0 by omega)]
    · rw [if_neg c, if_neg (show ¬ t 422 (6 + 5 * l + 4) ≤ 0 by omega)]
      exact ih (i + 1) _ _ (b + 1) (jR_f h7.1) (hour_mr (Or.inr rfl) hw) (by rw [hour_h (Or.inr rfl) (by decide)]; exact hc)
theorem o_emptied {s t : jz_St} (h : H3 s t) (l : Int) : v_X7_emptied s l = v_X8_emptied t l ∧ OK s t (f_X7_emptied s l) (f_X8_emptied t l) := by
  have hn := H3_n h
  have hT := H3_T h
  unfold v_X7_emptied v_X8_emptied f_X7_emptied f_X8_emptied
  by_cases c : 0 ≤ l ∧ l < t 420 3
  · rw [if_pos (show 0 ≤ l ∧ l < s 344 2 ∧ l < 7 by omega), if_pos (show 0 ≤ l ∧ l < s 344 2 ∧ l < 7 by omega), if_pos (show 0 ≤ l ∧ l ≤ t 420 3 - 1 by omega), if_pos (show 0 ≤ l ∧ l ≤ t 420 3 - 1 by omega)]
    exact ⟨emp_e (l := l.toNat) (by omega) 61 0 _ _ 999 hT.1 hT.2.1 (by rw [layThen_in t (by decide)]; omega), OK_t h (fun x hx => by rw [emp_off hx, take_off hx]) (fun x h1 h2 h3 => by rw [memp_off h1 h2 h3, layThen_o _ h1])⟩
  · rw [if_neg (show ¬ (0 ≤ l ∧ l < s 344 2 ∧ l < 7) by omega), if_neg (show ¬ (0 ≤ l ∧ l < s 344 2 ∧ l < 7) by omega), if_neg (show ¬ (0 ≤ l ∧ l ≤ t 420 3 - 1) by omega), if_neg (show ¬ (0 ≤ l ∧ l ≤ t 420 3 - 1) by omega)]
    exact ⟨rfl, OK_t h (tk_off s) (fun _ _ _ _ => rfl)⟩
theorem o_eats {s t : jz_St} (h : H3 s t) (c n : Int) : v_X7_eats s c n = v_X8_eats t c n ∧ OK s t (f_X7_eats s c n) (f_X8_eats t c n) := by
  have hn := H3_n h
  have hT := H3_T h
  unfold v_X7_eats v_X8_eats f_X7_eats f_X8_eats
  by_cases cc : (0 ≤ c ∧ c < t 420 4) ∧ 0 ≤ n ∧ n ≤ 60
  · rw [if_pos (show (0 ≤ c ∧ c < s 344 3 ∧ c < 4) ∧ 0 ≤ n ∧ n ≤ 60 by omega), if_pos (show (0 ≤ c ∧ c < s 344 3 ∧ c < 4) ∧ 0 ≤ n ∧ n ≤ 60 by omega), if_pos (show (0 ≤ c ∧ c ≤ t 420 4 - 1) ∧ 0 ≤ n ∧ n ≤ 60 by omega), if_pos (show (0 ≤ c ∧ c ≤ t 420 4 - 1) ∧ 0 ≤ n ∧ n ≤ 60 by omega)]
    exact ⟨hours4 hT.1 hT.2.1 (c := c.toNat) (by rw [layThen_in t (by decide)]; omega) (take_goat4 s (by omega) (by omega)) n.toNat, OK_t h (tkh_off s _) (ly_off t _)⟩
  · rw [if_neg (show ¬ ((0 ≤ c ∧ c < s 344 3 ∧ c < 4) ∧ 0 ≤ n ∧ n ≤ 60) by omega), if_neg (show ¬ ((0 ≤ c ∧ c < s 344 3 ∧ c < 4) ∧ 0 ≤ n ∧ n ≤ 60) by omega), if_neg (show ¬ ((0 ≤ c ∧ c ≤ t 420 4 - 1) ∧ 0 ≤ n ∧ n ≤ 60) by omega), if_neg (show ¬ ((0 ≤ c ∧ c ≤ t 420 4 - 1) ∧ 0 ≤ n ∧ n ≤ 60) by omega)]
    exact ⟨rfl, OK_t h (tk_off s) (fun _ _ _ _ => rfl)⟩
theorem o_guilt {s t : jz_St} (h : H3 s t) (l n : Int) : v_X7_guilt s l n = v_X8_guilt t l n ∧ OK s t (f_X7_guilt s l n) (f_X8_guilt t l n) := by
  have hn := H3_n h
  have hT := H3_T h
  unfold v_X7_guilt v_X8_guilt f_X7_guilt f_X8_guilt
  by_cases c : (0 ≤ l ∧ l < t 420 3) ∧ 1 ≤ n ∧ n ≤ 60
  · rw [if_pos (show (0 ≤ l ∧ l < s 344 2 ∧ l < 7) ∧ 1 ≤ n ∧ n ≤ 60 by omega), if_pos (show (0 ≤ l ∧ l < s 344 2 ∧ l < 7) ∧ 1 ≤ n ∧ n ≤ 60 by omega), if_pos (show (0 ≤ l ∧ l ≤ t 420 3 - 1) ∧ 1 ≤ n ∧ n ≤ 60 by omega), if_pos (show (0 ≤ l ∧ l ≤ t 420 3 - 1) ∧ 1 ≤ n ∧ n ≤ 60 by omega)]
    have e := (hours6 hT.1 hT.2.1 (l := l.toNat) (by omega) (take_leaf6 s (by omega) (by omega)) n.toNat).1
    rw [show ((l.toNat : Nat) : Int) = l by omega] at e
    exact ⟨e, OK_t h (tkh_off s _) (ly_off t _)⟩
  · rw [if_neg (show ¬ ((0 ≤ l ∧ l < s 344 2 ∧ l < 7) ∧ 1 ≤ n ∧ n ≤ 60) by omega), if_neg (show ¬ ((0 ≤ l ∧ l < s 344 2 ∧ l < 7) ∧ 1 ≤ n ∧ n ≤ 60) by omega), if_neg (show ¬ ((0 ≤ l ∧ l ≤ t 420 3 - 1) ∧ 1 ≤ n ∧ n ≤ 60) by omega), if_neg (show ¬ ((0 ≤ l ∧ l ≤ t 420 3 - 1) ∧ 1 ≤ n ∧ n ≤ 60) by omega)]
    exact ⟨rfl, OK_t h (tk_off s) (fun _ _ _ _ => rfl)⟩
theorem gap_off {k x : Nat} {w : Int} (hx : jOff k x) : ∀ (m i : Nat) (s : jz_St), (fGap s k w i m).2 x = s x := by
  intro m
  induction m with
  | zero => intro i s; rfl
  | succ m ih =>
    intro i s
    simp only [fGap]
    split
    · rfl
    · rw [ih, passHour_off hx]
theorem mgap_off {x : Nat} {w : Int} (h1 : x ≠ 422) (h2 : x ≠ 425) (h3 : x ≠ 426) : ∀ (m i : Nat) (t : jz_St), (rGap t w i m).2 x = t x := by
  intro m
  induction m with
  | zero => intro i s; rfl
  | succ m ih =>
    intro i s
    simp only [rGap]
    split
    · rfl
    · rw [ih, hour_o h1 h2 h3]
theorem gap_e {w : Int} : ∀ (m i : Nat) (s t : jz_St) (b : Int), jR False 1 s 358 (t 422) → mRq (t 422) b → (fGap s 358 w i m).1 = (rGap t w i m).1 := by
  intro m
  induction m with
  | zero => intro i s t b _ _; rfl
  | succ m ih =>
    intro i s t b h hw
    have h7 := jR_hour (m := 0) (Or.inr rfl) (jR_f h) hw.1
    simp only [fGap, rGap]
    rw [jR_if h hw]
    by_cases c : jand (rIF (t 422) (t 422 3).toNat) w = 0
    · rw [if_pos c, if_pos c]
    · rw [if_neg c, if_neg c]
      exact ih (i + 1) _ _ (b + 1) (jR_f h7.1) (hour_mq (Or.inr rfl) hw)
theorem o_gap {s t : jz_St} (h : H3 s t) (w : Int) : v_X7_gap s w = v_X8_gap t w ∧ OK s t (f_X7_gap s w) (f_X8_gap t w) := by
  have hn := H3_n h
  have hT := H3_T h
  unfold v_X7_gap v_X8_gap f_X7_gap f_X8_gap
  by_cases c0 : t 420 0 = 1
  · rw [if_pos c0, if_pos c0, if_neg (show ¬ s 344 2 ≤ 0 by omega), if_neg (show ¬ s 344 2 ≤ 0 by omega), hn.1.1]
    by_cases c : 0 ≤ w ∧ w < jshl 1 (t 420 3)
    · rw [if_pos c, if_pos c, if_pos (show 0 ≤ w ∧ w ≤ jshl 1 (t 420 3) - 1 by omega), if_pos (show 0 ≤ w ∧ w ≤ jshl 1 (t 420 3) - 1 by omega)]
      exact ⟨gap_e 61 0 _ _ 999 hT.1 hT.2, OK_t h (fun x hx => by rw [gap_off hx, take_off hx]) (fun x h1 h2 h3 => by rw [mgap_off h1 h2 h3, layThen_o _ h1])⟩
    · rw [if_neg c, if_neg c, if_neg (show ¬ (0 ≤ w ∧ w ≤ jshl 1 (t 420 3) - 1) by omega), if_neg (show ¬ (0 ≤ w ∧ w ≤ jshl 1 (t 420 3) - 1) by omega)]
      exact ⟨rfl, OK_id h⟩
  · rw [if_neg c0, if_neg c0, if_pos (show s 344 2 ≤ 0 by omega), if_pos (show s 344 2 ≤ 0 by omega)]
    exact ⟨rfl, OK_id h⟩
