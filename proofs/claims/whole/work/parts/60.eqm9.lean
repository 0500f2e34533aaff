/-! deeds: a square is kept, changed, brought back -/
theorem rc_sh (s : jz_St) (a p : Nat) (hp : 0 < p) : ∀ j i, f_X8_rc s a a 0 p j a i = if i < j then s a (p + i) else s a i := by
  intro j
  induction j with
  | zero => intro i; rw [if_neg (by omega)]; rfl
  | succ j ih =>
    intro i
    simp only [f_X8_rc]
    by_cases e : i = 0 + j
    · subst e
      rw [jz_su_s, ih, if_neg (by omega), if_pos (by omega), show p + (0 + j) = p + j by omega]
    · rw [jz_su_f e, ih]
      by_cases q : i < j
      · rw [if_pos q, if_pos (by omega)]
      · rw [if_neg q, if_neg (by omega)]
theorem kp1_9 {t : jz_St} : f_X8_kp1 t 416 9 = if t 416 9 = 24 then 23 else t 416 9 := by
  unfold f_X8_kp1
  by_cases c : t 416 9 = 24
  · rw [if_pos c, if_pos c, jz_su_s]; omega
  · rw [if_neg c, if_neg c]
theorem kp1_23 {t : jz_St} (i : Nat) : f_X8_kp1 t 423 i = if t 416 9 = 24 ∧ i < 1219 then t 423 (53 + i) else t 423 i := by
  unfold f_X8_kp1
  by_cases c : t 416 9 = 24
  · rw [if_pos c, jz_su_o (by decide), rc_sh _ _ _ (by decide)]
    by_cases q : i < 1219
    · rw [if_pos q, if_pos ⟨c, q⟩]
    · rw [if_neg q, if_neg (fun x => q x.2)]
  · rw [if_neg c, if_neg (fun x => c x.1)]
theorem mkeep_9 {t : jz_St} (ha : 0 ≤ t 416 9 ∧ t 416 9 ≤ 24) : f_X8_keep t 416 9 = if t 416 9 = 24 then 24 else t 416 9 + 1 := by
  unfold f_X8_keep
  rw [jz_su_s, kp1_9]
  split <;> omega
theorem mkeep_n {t : jz_St} {i : Nat} (hi : i ≠ 9) : f_X8_keep t 416 i = t 416 i := by
  unfold f_X8_keep
  rw [jz_su_f hi, rc_o _ _ _ _ _ (by decide)]
  unfold f_X8_kp1
  split
  · rw [jz_su_f hi, rc_o _ _ _ _ _ (by decide)]
  · rfl
/-- the rows kept, behind keep -/
theorem mkeep_row {t : jz_St} (ha : 0 ≤ t 416 9 ∧ t 416 9 ≤ 24) {i x : Nat} (hx : x < 53) (hi : (i : Int) < f_X8_keep t 416 9) :
    f_X8_keep t 423 (53 * i + x) = if (i : Int) + 1 = f_X8_keep t 416 9 then t 420 x else if t 416 9 = 24 then t 423 (53 * (i + 1) + x) else t 423 (53 * i + x) := by
  have h9 := mkeep_9 ha
  have e9 := kp1_9 (t := t)
  rw [h9] at hi ⊢
  unfold f_X8_keep
  have k20 : f_X8_kp1 t 420 = t 420 := kp1_o t (by decide) (by decide)
  rw [jz_su_o (by decide), rc_in _ _ _ _ _ (by decide), k20]
  by_cases c : t 416 9 = 24
  · rw [if_pos c] at e9 hi
    rw [if_pos c, e9, if_pos c]
    by_cases q : i = 23
    · rw [if_pos (show 53 * (23 : Int).toNat ≤ 53 * i + x ∧ 53 * i + x < 53 * (23 : Int).toNat + 53 by omega), if_pos (by omega)]
      rw [show 0 + (53 * i + x - 53 * (23 : Int).toNat) = x by omega]
    · rw [if_neg (show ¬ (53 * (23 : Int).toNat ≤ 53 * i + x ∧ 53 * i + x < 53 * (23 : Int).toNat + 53) by omega), if_neg (by omega), kp1_23, if_pos ⟨c, by omega⟩]
      rw [show 53 + (53 * i + x) = 53 * (i + 1) + x by omega]
  · rw [if_neg c] at e9 hi
    rw [if_neg c, e9, if_neg c]
    by_cases q : (i : Int) = t 416 9
    · rw [if_pos (show 53 * (t 416 9).toNat ≤ 53 * i + x ∧ 53 * i + x < 53 * (t 416 9).toNat + 53 by omega), if_pos (by omega)]
      rw [show 0 + (53 * i + x - 53 * (t 416 9).toNat) = x by omega]
    · rw [if_neg (show ¬ (53 * (t 416 9).toNat ≤ 53 * i + x ∧ 53 * i + x < 53 * (t 416 9).toNat + 53) by omega), if_neg (by omega), kp1_23, if_neg (fun y => c y.1)]
theorem H3_keep {s t : jz_St} (h : H3 s t) : OK s t (f_X3_keep s 344) (f_X8_keep t) := by
  have hn := H3_n h
  obtain ⟨⟨h1, h2, h3, h4, h5, h6, h7⟩, ⟨m1, m2, m3, m4, m5⟩, c1, c2, c3⟩ := h
  have ha := m1.2.2.1
  have hP := h5.2.1
  have hk := h5.1
  have hP2 : 0 ≤ s 4 2 ∧ s 4 2 ≤ 24 := c1.2.2.2.1
  have e1 : f_X3_keep s 344 4 1 = if s 4 1 + 1 < 24 then s 4 1 + 1 else 0 := keep_1 s 344
  have e2 : f_X3_keep s 344 4 2 = if s 4 2 + 1 < 24 then s 4 2 + 1 else 24 := keep_2 s 344
  have o : ∀ x, x ≠ 4 → jOff (6 + 14 * (s 4 1).toNat) x → f_X3_keep s 344 x = s x := by
    intro x hx hj
    unfold f_X3_keep
    (try simp only)
    rw [jz_su_o hx, jz_su_o hx, take_off hj]
  have oN : ∀ x, 6 + 14 * (s 4 1).toNat ≤ x → x < 6 + 14 * (s 4 1).toNat + 14 → f_X3_keep s 344 x = f_X5_take s (6 + 14 * (s 4 1).toNat) 344 x := by
    intro x hx1 hx2
    unfold f_X3_keep
    (try simp only)
    rw [jz_su_o (by omega), jz_su_o (by omega)]
  have m9 := mkeep_9 ha
  have mo : ∀ x, x ≠ 416 → x ≠ 423 → f_X8_keep t x = t x := fun x hx1 hx2 => keep_oo t hx2 hx1
  have hkeep2 : f_X3_keep s 344 4 2 = f_X8_keep t 416 9 := by rw [e2, m9, hk]; (repeat' split) <;> omega
  -- where the squares lie
  have slotN : ∀ i : Nat, (i : Int) + 1 = f_X8_keep t 416 9 → cSlot (f_X3_keep s 344) i = 6 + 14 * (s 4 1).toNat := by
    intro i hi
    unfold cSlot
    rw [hkeep2, e1]
    rw [m9] at hi ⊢
    have : ((if s 4 1 + 1 < 24 then s 4 1 + 1 else 0).toNat + 24 - (if t 416 9 = 24 then 24 else t 416 9 + 1).toNat + i) % 24 = (s 4 1).toNat := by
      by_cases q : t 416 9 = 24
      · rw [if_pos q] at hi ⊢
        by_cases q2 : s 4 1 + 1 < 24
        · rw [if_pos q2]; omega
        · rw [if_neg q2]; omega
      · rw [if_neg q] at hi ⊢
        by_cases q2 : s 4 1 + 1 < 24
        · rw [if_pos q2]; omega
        · rw [if_neg q2]; omega
    rw [this]
  have slotO : ∀ i : Nat, (i : Int) + 1 < f_X8_keep t 416 9 → cSlot (f_X3_keep s 344) i = cSlot s (if t 416 9 = 24 then i + 1 else i) ∧ cSlot (f_X3_keep s 344) i ≠ 6 + 14 * (s 4 1).toNat := by
    intro i hi
    unfold cSlot
    rw [hkeep2, e1, hk]
    rw [m9] at hi ⊢
    by_cases q : t 416 9 = 24
    · rw [if_pos q] at hi ⊢
      rw [if_pos q]
      by_cases q2 : s 4 1 + 1 < 24
      · rw [if_pos q2]; omega
      · rw [if_neg q2]; omega
    · rw [if_neg q] at hi ⊢
      rw [if_neg q]
      by_cases q2 : s 4 1 + 1 < 24
      · rw [if_pos q2]; omega
      · rw [if_neg q2]; omega
  have offO : ∀ i : Nat, (i : Int) + 1 < f_X8_keep t 416 9 → ∀ x, cSlot (f_X3_keep s 344) i ≤ x → x < cSlot (f_X3_keep s 344) i + 14 → f_X3_keep s 344 x = s x := by
    intro i hi x hx1 hx2
    have := slotO i hi
    have h8 := slot_lt (f_X3_keep s 344) i
    have h9 : ∃ q, cSlot (f_X3_keep s 344) i = 6 + 14 * q := ⟨_, rfl⟩
    obtain ⟨q, hq⟩ := h9
    refine o x (by omega) (by unfold jOff; omega)
  have hnow := jNow_keep (s := s) ⟨c1.1, c1.2.2.1, c1.2.2.2.1⟩
  refine ⟨⟨⟨?_, ?_, ?_, ?_, ?_, ?_, ?_⟩, ⟨⟨?_, ?_, ?_, ?_⟩, ?_, ?_, ?_, ?_⟩, ⟨?_, ?_, ?_, ?_, ?_, ?_⟩, ?_, ?_⟩, ?_, ?_⟩
  · rw [o 0 (by decide) (by unfold jOff; omega), mkeep_n (by decide), mkeep_n (by decide)]; exact h1
  · rw [mo 420 (by decide) (by decide)]; exact jR_sq h2 (fun x hx _ => o x (by omega) (by unfold jOff; omega))
  · intro r hr
    rw [mo 417 (by decide) (by decide), mo 418 (by decide) (by decide), mo 419 (by decide) (by decide), o _ (by omega) (by unfold jOff; omega), o _ (by omega) (by unfold jOff; omega)]
    exact h3 r hr
  · unfold cTp; rw [o 2 (by decide) (by unfold jOff; omega), o 3 (by decide) (by unfold jOff; omega), mo 424 (by decide) (by decide), mkeep_n (by decide)]; exact h4
  · refine ⟨hkeep2, ?_, fun i hi => ?_⟩
    · rw [e1]; split <;> omega
    · by_cases q : (i : Int) + 1 = f_X8_keep t 416 9
      · rw [slotN i q]
        have hT := jR_take (k := 6 + 14 * (s 4 1).toNat) (by omega) h2
        refine jR_row (q := t 420) (jR_sq hT oN) (fun x hx => ?_)
        show f_X8_keep t 423 (53 * i + x) = t 420 x
        rw [mkeep_row ha hx hi, if_pos q]
      · have h8 := slotO i (by omega)
        have h10 : ∀ x, x < 53 → (fun x => f_X8_keep t 423 (53 * i + x)) x = (fun x => t 423 (53 * (if t 416 9 = 24 then i + 1 else i) + x)) x := by
          intro x hx
          show f_X8_keep t 423 (53 * i + x) = t 423 (53 * (if t 416 9 = 24 then i + 1 else i) + x)
          rw [mkeep_row ha hx hi, if_neg q]
          split <;> rfl
        refine jR_row (jR_sq (h := ?_) (offO i (by omega))) h10
        rw [h8.1]
        refine h5.2.2 _ ?_
        rw [m9] at hi q
        split <;> (repeat' split at hi) <;> (repeat' split at q) <;> omega
  · intro j hj
    rw [mo 427 (by decide) (by decide), mo 428 (by decide) (by decide), o _ (by omega) (by unfold jOff; omega)]
    exact ⟨(h6 j hj).1, fun q => jR_sq ((h6 j hj).2 q) (fun x hx _ => o x (by omega) (by unfold jOff; omega))⟩
  · unfold cNo; rw [o 342 (by decide) (by unfold jOff; omega), o 343 (by decide) (by unfold jOff; omega), mo 429 (by decide) (by decide), mkeep_n (by decide)]; exact h7
  · unfold mLn; rw [mo 417 (by decide) (by decide), mo 418 (by decide) (by decide), mkeep_n (by decide)]; exact m1.1
  · rw [mo 420 (by decide) (by decide)]; exact m1.2.1
  · exact keep_acts ha
  · rw [mkeep_n (by decide)]; exact m1.2.2.2
  · rw [mo 420 (by decide) (by decide)]; exact m2
  · unfold mTp; rw [mo 424 (by decide) (by decide), mkeep_n (by decide)]; exact m3
  · intro i hi
    by_cases q : (i : Int) + 1 = f_X8_keep t 416 9
    · refine mRq_row m2 (fun x hx => ?_)
      show f_X8_keep t 423 (53 * i + x) = t 420 x
      rw [mkeep_row ha hx hi, if_pos q]
    · have hlt : (((if t 416 9 = 24 then i + 1 else i) : Nat) : Int) < t 416 9 := by
        rw [m9] at hi q
        split <;> (repeat' split at hi) <;> (repeat' split at q) <;> omega
      refine mRq_row (m4 _ hlt) (fun x hx => ?_)
      show f_X8_keep t 423 (53 * i + x) = t 423 (53 * (if t 416 9 = 24 then i + 1 else i) + x)
      rw [mkeep_row ha hx hi, if_neg q]
      split <;> rfl
  · intro j hj
    rw [mo 427 (by decide) (by decide), mo 428 (by decide) (by decide)]
    exact m5 j hj
  · exact hnow.1
  · rw [o 344 (by decide) (by unfold jOff; omega)]; exact c1.2.1
  · exact hnow.2.1
  · exact hnow.2.2
  · unfold jTk; rw [o 2 (by decide) (by unfold jOff; omega)]; exact c1.2.2.2.2.1
  · intro j hj
    rw [o _ (by omega) (by unfold jOff; omega)]
    exact c1.2.2.2.2.2 j hj
  · intro i hi
    rw [hkeep2] at hi
    by_cases q : (i : Int) + 1 = f_X8_keep t 416 9
    · rw [slotN i q]
      have h11 := take_rng (k := 6 + 14 * (s 4 1).toNat) (by omega) c1.1
      exact jRng_off (jRng_mono h11 (by have := c1.2.1; omega)) oN
    · refine jRng_off (h := ?_) (offO i (by omega))
      rw [(slotO i (by omega)).1]
      refine c2 _ ?_
      rw [hk]
      rw [m9] at hi q
      split <;> (repeat' split at hi) <;> (repeat' split at q) <;> omega
  · intro j hj hp
    rw [o _ (by omega) (by unfold jOff; omega)] at hp
    exact jRng_off (c3 j hj hp) (fun x hx _ => o x (by omega) (by unfold jOff; omega))
  · intro x hx; exact o x (by omega) (by unfold jOff; omega)
  · intro x hx; exact mo x (by omega) (by omega)
