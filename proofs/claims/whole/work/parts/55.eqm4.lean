/-! method by method: what was seen of a leaf; draws; rivals -/
theorem hoursOf_s (t : jz_St) (r : Nat) : ∀ j : Nat, f_X8_hoursOf (f_X8_hour t r) r j = f_X8_hoursOf t r (j + 1) := by
  intro j
  induction j with
  | zero => rfl
  | succ j ih =>
    show f_X8_hour (f_X8_hoursOf (f_X8_hour t r) r j) r = f_X8_hour (f_X8_hoursOf t r (j + 1)) r
    rw [ih]
theorem rSo_iff (t : jz_St) (l f : Nat) : ∀ n : Nat, rSo t l f n = 1 ↔ ∀ j, j < n → f_X8_hoursOf t 422 (j + 1) 422 (6 + 5 * l + 4) = t 419 (f + j) := by
  intro n
  induction n with
  | zero => exact ⟨fun _ j hj => absurd hj (Nat.not_lt_zero _), fun _ => rfl⟩
  | succ n ih =>
    simp only [rSo]
    constructor
    · intro h j hj
      by_cases c : rSo t l f n ≠ 0 ∧ f_X8_hoursOf t 422 (n + 1) 422 (6 + 5 * l + 4) = t 419 (f + n)
      · by_cases e : j = n
        · rw [e]; exact c.2
        · have h1 := rSo_01 t l f n
          exact ih.1 (h1.resolve_left c.1) j (by omega)
      · rw [if_neg c] at h
        exact absurd h (by decide)
    · intro h
      rw [if_pos]
      refine ⟨?_, h n (by omega)⟩
      have h1 : rSo t l f n = 1 := ih.2 (fun j hj => h j (by omega))
      rw [h1]
      decide
theorem goes_01 {s : jz_St} {k a r : Nat} {fr : Int} : ∀ (m i : Nat) (s : jz_St), (fGoes s k a r fr i m).1 = 0 ∨ (fGoes s k a r fr i m).1 = 1 := by
  intro m
  induction m with
  | zero => intro i s; exact Or.inr rfl
  | succ m ih =>
    intro i s
    simp only [fGoes]
    by_cases hq : f_X5_passHour s k a 5 = (if 0 ≤ fr + (i : Int) ∧ fr + (i : Int) < 40 then f_X5_passHour s k (r + 1) (fr + (i : Int)).toNat else 0)
    · rw [if_pos hq]; exact ih _ _
    · rw [if_neg hq]; exact Or.inl rfl
theorem goes_iff {e : Prop} {l rr : Nat} (hl : l < 7) (hr : rr < 8) {fr : Int} (hf : 0 ≤ fr) : ∀ (m i : Nat) (s t : jz_St) (b : Int), fr + i + m ≤ 40 → jR e m s 358 (t 422) → mRw (t 422) b → (l : Int) < t 422 3 →
    ((fGoes s 358 (358 + 3 + l) (400 + 2 * rr) fr i m).1 = 1 ↔ ∀ j, j < m → f_X8_hoursOf t 422 (j + 1) 422 (6 + 5 * l + 4) = s (400 + 2 * rr + 1) (fr.toNat + i + j)) := by
  intro m
  induction m with
  | zero => intro i s t b _ _ _ _; exact ⟨fun _ j hj => absurd hj (Nat.not_lt_zero _), fun _ => rfl⟩
  | succ m ih =>
    intro i s t b hb h hw hc
    have h7 := jR_hour (Or.inr rfl) h hw
    have e3 : f_X8_hour t 422 422 3 = t 422 3 := hour_h (Or.inr rfl) (by decide)
    have h5 := (h7.1.2.1 l hl (by rw [e3]; exact hc)).2.2.2.2
    have hrow : f_X5_passHour s 358 (400 + 2 * rr + 1) = s (400 + 2 * rr + 1) := passHour_off (by unfold jOff; omega)
    have hi := ih (i + 1) (f_X5_passHour s 358) (f_X8_hour t 422) (b + 1) (by omega) h7.1 (hour_mr (Or.inr rfl) hw) (by rw [e3]; exact hc)
    rw [hrow] at hi
    simp only [fGoes]
    rw [h5, hrow, if_pos (show 0 ≤ fr + (i : Int) ∧ fr + (i : Int) < 40 by omega), show (fr + (i : Int)).toNat = fr.toNat + i + 0 by omega]
    by_cases c : f_X8_hour t 422 422 (6 + 5 * l + 4) = s (400 + 2 * rr + 1) (fr.toNat + i + 0)
    · rw [if_pos c, hi]
      constructor
      · intro q j hj
        cases j with
        | zero => exact c
        | succ j =>
          have := q j (by omega)
          rw [hoursOf_s] at this
          rw [this, show fr.toNat + (i + 1) + j = fr.toNat + i + (j + 1) by omega]
      · intro q j hj
        have := q (j + 1) (by omega)
        rw [hoursOf_s, this, show fr.toNat + i + (j + 1) = fr.toNat + (i + 1) + j by omega]
    · rw [if_neg c]
      constructor
      · intro q; exact absurd q (show ¬ ((0 : Int) = 1) by decide)
      · intro q; exact absurd (q 0 (by omega)) c
theorem goes_e {e : Prop} {l rr : Nat} (hl : l < 7) (hr : rr < 8) {fr n : Int} (hf : 0 ≤ fr ∧ 0 ≤ n ∧ fr + n ≤ 40) {s t : jz_St} {b : Int} (h : jR e n.toNat s 358 (t 422)) (hw : mRw (t 422) b) (hc : (l : Int) < t 422 3)
    (hit : ∀ i : Nat, i < 40 → s (400 + 2 * rr + 1) i = t 419 (40 * rr + i)) {r : Int} (hrr : r = rr) :
    (fGoes s 358 (358 + 3 + l) (400 + 2 * rr) fr 0 n.toNat).1 = rSo t l (40 * r + fr).toNat n.toNat := by
  have h1 := goes_iff hl hr hf.1 n.toNat 0 s t b (by omega) h hw hc
  have h2 := rSo_iff t l (40 * r + fr).toNat n.toNat
  have h3 : (∀ j, j < n.toNat → f_X8_hoursOf t 422 (j + 1) 422 (6 + 5 * l + 4) = s (400 + 2 * rr + 1) (fr.toNat + 0 + j)) ↔ (∀ j, j < n.toNat → f_X8_hoursOf t 422 (j + 1) 422 (6 + 5 * l + 4) = t 419 ((40 * r + fr).toNat + j)) := by
    have e : ∀ j, j < n.toNat → s (400 + 2 * rr + 1) (fr.toNat + 0 + j) = t 419 ((40 * r + fr).toNat + j) := by
      intro j hj
      rw [hit _ (by omega), show 40 * rr + (fr.toNat + 0 + j) = (40 * r + fr).toNat + j by omega]
    constructor
    · intro q j hj; rw [q j hj, e j hj]
    · intro q j hj; rw [q j hj, e j hj]
  have h4 := goes_01 (s := s) (k := 358) (a := 358 + 3 + l) (r := 400 + 2 * rr) (fr := fr) n.toNat 0 s
  have h5 := rSo_01 t l (40 * r + fr).toNat n.toNat
  by_cases c : rSo t l (40 * r + fr).toNat n.toNat = 1
  · rw [c]; exact h1.2 (h3.2 (h2.1 c))
  · have c2 : ¬ (fGoes s 358 (358 + 3 + l) (400 + 2 * rr) fr 0 n.toNat).1 = 1 := fun q => c (h2.2 (h3.1 (h1.1 q)))
    omega
-- rows of both
theorem H3_row {s t : jz_St} (h : H3 s t) {r : Nat} (hr : r < 8) : (s (400 + 2 * r) 1 = 0 ↔ t 417 r < 0) ∧ (0 ≤ t 417 r → s (400 + 2 * r) 2 = t 417 r ∧ s (400 + 2 * r) 3 = t 418 r ∧ ∀ i : Nat, i < 40 → s (400 + 2 * r + 1) i = t 419 (40 * r + i)) ∧ (0 ≤ t 418 r ∧ t 418 r ≤ 40) := by
  have h1 := h.1.2.2.1 r hr
  have h2 := h.2.1.1.1.2 r hr
  refine ⟨?_, h1.2, h2.2⟩
  rw [h1.1]
  by_cases c : t 417 r < 0
  · rw [if_pos c]; exact ⟨fun _ => c, fun _ => rfl⟩
  · rw [if_neg c]; exact ⟨fun q => absurd q (by decide), fun q => absurd q c⟩
/-- a status is set on both sides -/
theorem CR_st {s t : jz_St} (h : H3 s t) (z : Int) : H3 (jz_su s 0 8 z) (jz_su t 416 1 z) := by
  obtain ⟨⟨h1, h2, h3, h4, h5, h6, h7⟩, m1, c1⟩ := h
  have o : ∀ x, x ≠ 0 → jz_su s 0 8 z x = s x := fun x hx => jz_su_o hx
  have p : ∀ x, x ≠ 416 → jz_su t 416 1 z x = t x := fun x hx => jz_su_o hx
  refine ⟨⟨?_, ?_, ?_, ?_, ?_, ?_, ?_⟩, ?_, ?_⟩
  · rw [jz_su_s, jz_su_s, jz_su_f (by decide), jz_su_f (by decide)]; exact ⟨rfl, h1.2⟩
  · rw [p 420 (by decide)]; exact jR_sq h2 (fun x hx _ => o x (by omega))
  · intro r hr
    rw [p 417 (by decide), p 418 (by decide), p 419 (by decide), o _ (by omega), o _ (by omega)]
    exact h3 r hr
  · unfold cTp; rw [o 2 (by decide), o 3 (by decide), p 424 (by decide), jz_su_f (by decide)]; exact h4
  · unfold cPs
    rw [o 4 (by decide), p 423 (by decide), jz_su_f (by decide)]
    refine ⟨h5.1, h5.2.1, fun i hi => ?_⟩
    rw [slot_e (o 4 (by decide))]
    have := slot_lt s i
    exact jR_sq (h5.2.2 i hi) (fun x hx _ => o x (by omega))
  · intro j hj
    rw [p 427 (by decide), p 428 (by decide), o _ (by omega)]
    exact ⟨(h6 j hj).1, fun q => jR_sq ((h6 j hj).2 q) (fun x hx _ => o x (by omega))⟩
  · unfold cNo; rw [o 342 (by decide), o 343 (by decide), p 429 (by decide), jz_su_f (by decide)]; exact h7
  · unfold MI mIn mLn mTp mWs mIm at m1 ⊢
    rw [p 417 (by decide), p 418 (by decide), p 420 (by decide), p 423 (by decide), p 424 (by decide), p 427 (by decide), p 428 (by decide), jz_su_f (show 0 ≠ 1 by decide), jz_su_f (show 9 ≠ 1 by decide), jz_su_f (show 24 ≠ 1 by decide), jz_su_f (show 11 ≠ 1 by decide)]
    exact m1
  · obtain ⟨⟨i1, i2, i3, i4, i5, i6⟩, i7, i8⟩ := c1
    refine ⟨⟨?_, ?_, ?_, ?_, ?_, ?_⟩, ?_, ?_⟩
    · rw [o 344 (by decide)]; exact jRng_off i1 (fun x hx _ => o x (by omega))
    · rw [o 344 (by decide)]; exact i2
    · rw [o 4 (by decide)]; exact i3
    · rw [o 4 (by decide)]; exact i4
    · unfold jTk; rw [o 2 (by decide)]; exact i5
    · intro j hj; rw [o _ (by omega)]; exact i6 j hj
    · intro i hi
      rw [o 4 (by decide)] at hi
      rw [slot_e (o 4 (by decide))]
      have := slot_lt s i
      exact jRng_off (i7 i hi) (fun x hx _ => o x (by omega))
    · intro j hj hp
      rw [o _ (by omega)] at hp
      exact jRng_off (i8 j hj hp) (fun x hx _ => o x (by omega))
theorem OK_st {s t : jz_St} (h : H3 s t) (z : Int) : OK s t (jz_su s 0 8 z) (jz_su t 416 1 z) := ⟨CR_st h z, fun x hx => jz_su_o (by omega), fun x hx => jz_su_o (by omega)⟩
theorem OK_tr {s t s1 t1 s2 t2 : jz_St} (h1 : OK s t s1 t1) (h2 : OK s1 t1 s2 t2) : OK s t s2 t2 :=
  ⟨h2.1, fun x hx => (h2.2.1 x hx).trans (h1.2.1 x hx), fun x hx => (h2.2.2 x hx).trans (h1.2.2 x hx)⟩
-- who
theorem wh_off {l w o fr : Int} {r n x : Nat} (hl : l < 7) (hx : jOff 358 x) : ∀ (m j : Nat) (acc : Int) (s : jz_St), (fWh l w o r fr n acc s j m).2 x = s x := by
  intro m
  induction m with
  | zero => intro j acc s; rfl
  | succ m ih => intro j acc s; simp only [fWh]; rw [ih, fWhG_off hl hx]
theorem mwh_off {l w : Int} {o fr n x : Nat} (h1 : x ≠ 422) (h2 : x ≠ 425) (h3 : x ≠ 426) : ∀ (m v : Nat) (acc : Int) (t : jz_St), (rWh t l w o fr n acc v m).2 x = t x := by
  intro m
  induction m with
  | zero => intro v acc t; rfl
  | succ m ih => intro v acc t; simp only [rWh]; rw [ih, hoursOf_o h1 h2 h3, whA_o _ _ _ _ h1]
theorem jor_v : ∀ a : Nat, a < 128 → True := fun _ _ => trivial
theorem jI_jor (a b : Int) : jI (jor a b) := jz_rng _
theorem wh_e {s t : jz_St} (h : H3 s t) {l w o fr n : Int} {r : Nat} (hr : r < 8) (hl : 0 ≤ l ∧ l < t 420 3) (ho : 0 ≤ o ∧ o < t 420 3) (hw : 0 ≤ w ∧ w ≤ 2) (hf : 0 ≤ fr ∧ 0 ≤ n ∧ fr + n ≤ 40) (hlv : 0 ≤ t 417 r) {ri : Int} (hri : ri = r) :
    ∀ (m v : Nat) (acc : Int) (s1 t1 : jz_St), rLo w ≤ v → v + m ≤ (fWhi w).toNat + 1 → jI acc → (∀ x, jOff 358 x → s1 x = s x) → (∀ x, x ≠ 422 → x ≠ 425 → x ≠ 426 → t1 x = t x) →
    (fWh l w o (400 + 2 * r) fr n.toNat acc s1 v m).1 = (rWh t1 l w o.toNat (40 * ri + fr).toNat n.toNat acc v m).1 := by
  have hh := H3_n h
  have hrow := H3_row h hr
  intro m
  induction m with
  | zero => intro v acc s1 t1 _ _ _ _ _; rfl
  | succ m ih =>
    intro v acc s1 t1 hv hm ha hs ht
    have hq : rWt w = 0 ∨ rWt w = 2 ∨ rWt w = 3 := by unfold rWt; (repeat' split) <;> simp
    have hz : (v : Int) ≤ mHi (6 + 5 * l.toNat + rWt w) 999 := by
      have : (v : Int) ≤ fWhi w := by have := fWhi_r w; omega
      unfold fWhi at this
      unfold rWt
      by_cases h0 : w = 0
      · rw [if_pos h0] at this ⊢
        show _ ≤ mHi (6 + 5 * l.toNat) 999
        rw [hi_0 _ _ (by omega)]; exact this
      · rw [if_neg h0] at this ⊢
        by_cases h1 : w = 1
        · rw [if_pos h1] at this ⊢; rw [hi_2 _ _ (by omega)]; exact this
        · rw [if_neg h1] at this ⊢; rw [hi_3 _ _ (by omega)]; exact this
    have h1w : rWt w = 0 → (1 : Int) ≤ v := by
      intro q
      unfold rWt at q
      unfold rLo at hv
      by_cases h0 : w = 0
      · rw [if_pos h0] at hv; omega
      · rw [if_neg h0] at q; (repeat' split at q) <;> omega
    have hB := att_B h hs (ht 420 (by decide) (by decide) (by decide)) n.toNat (l := l.toNat) (w := rWt w) (z := (v : Int)) (by omega) (by omega) hq (by omega) hz h1w
    have eC : fWhC s1 l w v = jz_su (f_X5_take s1 358 344) (358 + 3 + l.toNat) (rWt w + 1) v := by
      unfold fWhC rWt
      by_cases h0 : w = 0
      · rw [if_pos h0, if_pos h0]
      · rw [if_neg h0, if_neg h0]
        by_cases h1 : w = 1
        · rw [if_pos h1, if_pos h1]
        · rw [if_neg h1, if_neg h1]
    have e3 : jz_su (f_X8_layThen t1) 422 (6 + 5 * l.toNat + rWt w) v 422 3 = t 420 3 := by
      rw [jz_su_f (by omega), layThen_in _ (by decide), ht 420 (by decide) (by decide) (by decide)]
    have hit : ∀ i : Nat, i < 40 → jz_su (f_X5_take s1 358 344) (358 + 3 + l.toNat) (rWt w + 1) v (400 + 2 * r + 1) i = jz_su (f_X8_layThen t1) 422 (6 + 5 * l.toNat + rWt w) v 419 (40 * r + i) := by
      intro i hi
      rw [jz_su_o (by omega), take_off (by unfold jOff; omega), hs _ (by unfold jOff; omega), jz_su_o (by decide), layThen_o _ (by decide), ht 419 (by decide) (by decide) (by decide)]
      exact (hrow.2.1 hlv).2.2 i hi
    have eG : (fWhG s1 l w o (400 + 2 * r) fr n.toNat v).1 = rSo (rWhA t1 l w v) o.toNat (40 * ri + fr).toNat n.toNat := by
      unfold fWhG
      rw [eC]
      exact goes_e (by omega) hr hf (jR_f hB.1) hB.2.1 (by rw [e3]; omega) hit hri
    simp only [fWh, rWh]
    rw [eG]
    have e0 : jor acc (if rSo (rWhA t1 l w v) o.toNat (40 * ri + fr).toNat n.toNat = 0 then 0 else jshl 1 v) = if rSo (rWhA t1 l w v) o.toNat (40 * ri + fr).toNat n.toNat = 0 then acc else jor acc (jshl 1 v) := by
      by_cases c : rSo (rWhA t1 l w v) o.toNat (40 * ri + fr).toNat n.toNat = 0
      · rw [if_pos c, if_pos c, jor_z ha]
      · rw [if_neg c, if_neg c]
    rw [e0]
    refine ih (v + 1) _ _ _ (by omega) (by omega) ?_ (fun x hx => by rw [fWhG_off (by omega) hx]; exact hs x hx) (fun x h1 h2 h3 => by rw [hoursOf_o h1 h2 h3, whA_o _ _ _ _ h1]; exact ht x h1 h2 h3)
    split
    · exact ha
    · exact jI_jor _ _
theorem o_who {s t : jz_St} (h : H3 s t) (l w o r fr n : Int) : v_X7_who s l w o r fr n = v_X8_who t l w o r fr n ∧ OK s t (f_X7_who s l w o r fr n) (f_X8_who t l w o r fr n) := by
  have hn := H3_n h
  unfold v_X7_who v_X8_who f_X7_who f_X8_who
  by_cases c : (0 ≤ l ∧ l < t 420 3) ∧ (0 ≤ w ∧ w ≤ 2) ∧ (0 ≤ o ∧ o < t 420 3) ∧ (0 ≤ r ∧ r ≤ 7) ∧ 1 ≤ n ∧ n ≤ 12
  · have hrow := H3_row h (r := r.toNat) (by omega)
    have ca : (0 ≤ l ∧ l < s 344 2 ∧ l < 7) ∧ (0 ≤ o ∧ o < s 344 2 ∧ o < 7) ∧ (0 ≤ r ∧ r < 8) ∧ (0 ≤ w ∧ w ≤ 2) ∧ 1 ≤ n ∧ n ≤ 12 := by omega
    have cb : (0 ≤ l ∧ l ≤ t 420 3 - 1) ∧ (0 ≤ w ∧ w ≤ 2) ∧ (0 ≤ o ∧ o ≤ t 420 3 - 1) ∧ (0 ≤ r ∧ r ≤ 7) ∧ 1 ≤ n ∧ n ≤ 12 := by omega
    rw [if_pos ca, if_pos ca, if_pos cb, if_pos cb]
    by_cases c1 : t 417 r.toNat < 0
    · rw [if_pos (hrow.1.2 c1), if_pos (hrow.1.2 c1), if_pos c1, if_pos c1]
      exact ⟨rfl, OK_st h 1⟩
    · have c1' : ¬ s (400 + 2 * r.toNat) 1 = 0 := fun q => c1 (hrow.1.1 q)
      have hl2 := hrow.2.1 (by omega)
      rw [if_neg c1', if_neg c1', if_neg c1, if_neg c1, hl2.2.1]
      by_cases c2 : 0 ≤ fr ∧ fr + n ≤ t 418 r.toNat
      · rw [if_pos (show 0 ≤ fr ∧ 0 ≤ n ∧ fr + n ≤ t 418 r.toNat by omega), if_pos (show 0 ≤ fr ∧ 0 ≤ n ∧ fr + n ≤ t 418 r.toNat by omega), if_pos c2, if_pos c2]
        have h2 := CR_st h 0
        have e : (fWlo w).toNat = rLo w := by unfold fWlo rLo; split <;> rfl
        rw [e]
        refine ⟨wh_e h2 (by omega) (by rw [jz_su_o (by decide)]; omega) (by rw [jz_su_o (by decide)]; omega) (by omega) (by omega) (by rw [jz_su_o (by decide)]; omega) (by omega) _ _ _ _ _ (Nat.le_refl _) (by have : rLo w ≤ 1 := by unfold rLo; split <;> omega
                                                                                                                                                                                                                 have := fWhi_r w; omega) (by decide) (fun _ _ => rfl) (fun _ _ _ _ => rfl), ?_⟩
        refine OK_tr (OK_st h 0) (OK_t h2 (fun x hx => wh_off (by omega) hx _ _ _ _) (fun x h1 h2 h3 => mwh_off h1 h2 h3 _ _ _ _))
      · rw [if_neg (show ¬ (0 ≤ fr ∧ 0 ≤ n ∧ fr + n ≤ t 418 r.toNat) by omega), if_neg (show ¬ (0 ≤ fr ∧ 0 ≤ n ∧ fr + n ≤ t 418 r.toNat) by omega), if_neg c2, if_neg c2]
        exact ⟨rfl, OK_st h 2⟩
  · have ca : ¬ ((0 ≤ l ∧ l < s 344 2 ∧ l < 7) ∧ (0 ≤ o ∧ o < s 344 2 ∧ o < 7) ∧ (0 ≤ r ∧ r < 8) ∧ (0 ≤ w ∧ w ≤ 2) ∧ 1 ≤ n ∧ n ≤ 12) := by omega
    have cb : ¬ ((0 ≤ l ∧ l ≤ t 420 3 - 1) ∧ (0 ≤ w ∧ w ≤ 2) ∧ (0 ≤ o ∧ o ≤ t 420 3 - 1) ∧ (0 ≤ r ∧ r ≤ 7) ∧ 1 ≤ n ∧ n ≤ 12) := by omega
    rw [if_neg ca, if_neg ca, if_neg cb, if_neg cb]
    exact ⟨rfl, OK_id h⟩
