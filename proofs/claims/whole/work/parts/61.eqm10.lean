theorem OK_now {s t s' t' : jz_St} (h : H3 s t) (hs : ∀ x, jOff 344 x → s' x = s x) (ht : ∀ x, x ≠ 420 → x ≠ 425 → x ≠ 426 → t' x = t x) (hR : jR False 1 s' 344 (t' 420)) (hq : mRq (t' 420) 999) (hj : jRng s' 344 (9 * s' 344 6)) : OK s t s' t' := by
  obtain ⟨⟨h1, h2, h3, h4, h5, h6, h7⟩, ⟨m1, m2, m3, m4, m5⟩, c1, c2, c3⟩ := h
  have o : ∀ x, x < 344 ∨ 358 ≤ x → s' x = s x := fun x hx => hs x (by unfold jOff; omega)
  have p : ∀ x, x ≠ 420 → x ≠ 425 → x ≠ 426 → t' x = t x := ht
  have p416 := p 416 (by decide) (by decide) (by decide)
  have hh6 : s' 344 6 ≤ 999 := by
    have a1 := hR.1.2.2.2.2
    have a2 := (mRw_h hq.1).2.2.2.2.2
    omega
  refine ⟨⟨⟨?_, hR, ?_, ?_, ?_, ?_, ?_⟩, ⟨⟨?_, hq.1, ?_, ?_⟩, hq, ?_, ?_, ?_⟩, ⟨hj, hh6, ?_, ?_, ?_, ?_⟩, ?_, ?_⟩, ?_, ?_⟩
  · rw [o 0 (by decide), p416]; exact h1
  · intro r hr
    rw [p 417 (by decide) (by decide) (by decide), p 418 (by decide) (by decide) (by decide), p 419 (by decide) (by decide) (by decide), o _ (by omega), o _ (by omega)]
    exact h3 r hr
  · unfold cTp; rw [o 2 (by decide), o 3 (by decide), p416, p 424 (by decide) (by decide) (by decide)]; exact h4
  · unfold cPs
    rw [o 4 (by decide), p416, p 423 (by decide) (by decide) (by decide)]
    refine ⟨h5.1, h5.2.1, fun i hi => ?_⟩
    rw [slot_e (o 4 (by decide))]
    have := slot_lt s i
    exact jR_sq (h5.2.2 i hi) (fun x hx hx2 => o x (by omega))
  · intro j hj
    rw [p 427 (by decide) (by decide) (by decide), p 428 (by decide) (by decide) (by decide), o _ (by omega)]
    exact ⟨(h6 j hj).1, fun q => jR_sq ((h6 j hj).2 q) (fun x hx _ => o x (by omega))⟩
  · unfold cNo; rw [o 342 (by decide), o 343 (by decide), p416, p 429 (by decide) (by decide) (by decide)]; exact h7
  · unfold mLn; rw [p 417 (by decide) (by decide) (by decide), p 418 (by decide) (by decide) (by decide), p416]; exact m1.1
  · rw [p416]; exact m1.2.2.1
  · rw [p416]; exact m1.2.2.2
  · unfold mTp; rw [p416, p 424 (by decide) (by decide) (by decide)]; exact m3
  · unfold mWs; rw [p416, p 423 (by decide) (by decide) (by decide)]; exact m4
  · unfold mIm; rw [p 427 (by decide) (by decide) (by decide), p 428 (by decide) (by decide) (by decide)]; exact m5
  · rw [o 4 (by decide)]; exact c1.2.2.1
  · rw [o 4 (by decide)]; exact c1.2.2.2.1
  · unfold jTk; rw [o 2 (by decide)]; exact c1.2.2.2.2.1
  · intro j hj; rw [o _ (by omega)]; exact c1.2.2.2.2.2 j hj
  · intro i hi
    rw [o 4 (by decide)] at hi
    rw [slot_e (o 4 (by decide))]
    have := slot_lt s i
    exact jRng_off (c2 i hi) (fun x hx hx2 => o x (by omega))
  · intro j hj hp
    rw [o _ (by omega)] at hp
    exact jRng_off (c3 j hj hp) (fun x hx _ => o x (by omega))
  · intro x hx; exact o x (by omega)
  · intro x hx; exact p x (by omega) (by omega) (by omega)
theorem rng5 {s : jz_St} {k j : Nat} {b z : Int} (h : jRng s k b) (hj : j < 7) (hz : 0 ≤ z ∧ z ≤ 1000) (ht : 0 ≤ s (k + 3 + j) 4 ∧ s (k + 3 + j) 4 ≤ 1000) : jRng (jz_su s (k + 3 + j) 5 z) k b := by
  obtain ⟨h1, h2, h3, h4, h5, h6, h7, h8⟩ := h
  unfold jRng
  rw [jz_su_o (by omega)]
  refine ⟨h1, h2, h3, h4, h5, h6, fun i hi => ?_, fun i hi => ?_⟩
  · by_cases q : i = j
    · subst q
      rw [jz_su_s, jz_su_f (by decide)]
      exact ⟨hz, fun _ => ht⟩
    · rw [jz_su_o (by omega)]; exact h7 i hi
  · rw [jz_su_o (by omega)]; exact h8 i hi
theorem rngG {s : jz_St} {k j w : Nat} {b z : Int} (h : jRng s k b) (hj : j < 4) (hw : (w = 1 ∧ 0 ≤ z ∧ z ≤ 99) ∨ (w = 3 ∧ 0 ≤ z ∧ z ≤ 60)) : jRng (jz_su s (k + 10 + j) w z) k b := by
  obtain ⟨h1, h2, h3, h4, h5, h6, h7, h8⟩ := h
  unfold jRng
  rw [jz_su_o (by omega)]
  refine ⟨h1, h2, h3, h4, h5, h6, fun i hi => ?_, fun i hi => ?_⟩
  · rw [jz_su_o (by omega)]; exact h7 i hi
  · by_cases q : i = j
    · subst q
      have h9 := h8 i hi
      rcases hw with ⟨rfl, hz⟩ | ⟨rfl, hz⟩
      · rw [jz_su_s, jz_su_f (by decide), jz_su_f (by decide)]
        exact ⟨hz, h9.2⟩
      · rw [jz_su_s, jz_su_f (by decide), jz_su_f (by decide)]
        exact ⟨h9.1, hz, h9.2.2⟩
    · rw [jz_su_o (by omega)]; exact h8 i hi
theorem su_mq {t : jz_St} {i : Nat} {z b : Int} (h : mRq (t 420) b) (h0 : 0 ≤ z) (hz : z ≤ mHi i b) (hi : 6 ≤ i ∧ (41 ≤ i ∨ (i - 6) % 5 = 2 ∨ (i - 6) % 5 = 3 ∨ (i - 6) % 5 = 4)) : mRq (jz_su t 420 i z 420) b :=
  mRq_of h (mRw_su h.1 h0 hz) (jz_su_f (by omega)) (jz_su_f (by omega)) (jz_su_f (by omega)) (fun l hl => ⟨jz_su_f (by omega), fun q => by rw [jz_su_f (by omega)]; exact q⟩)
theorem OK_suL {s t : jz_St} (h : H3 s t) {l w : Nat} {z : Int} (hl : l < 7) (hc : (l : Int) < t 420 3) (hw : w = 3 ∨ w = 4 ∨ w = 5) (h0 : 0 ≤ z) (hz : z ≤ mHi (6 + 5 * l + (w - 1)) 999) : OK s t (jz_su s (344 + 3 + l) w z) (jz_su t 420 (6 + 5 * l + (w - 1)) z) := by
  have h5 := h.1.2.1.2.1 l hl hc
  have h6 := mRw_l h.2.1.2.1.1 l hl
  have hr := h.2.2.1.1
  have e6 : jz_su s (344 + 3 + l) w z 344 6 = s 344 6 := by rw [jz_su_o (by omega)]
  refine OK_now h (fun x hx => jz_su_o (by unfold jOff at hx; omega)) (fun x h1 _ _ => jz_su_o h1) (jR_suL h.1.2.1 (by omega) hl hc) (su_mq h.2.1.2.1 h0 hz (by omega)) ?_
  rw [e6]
  rcases hw with rfl | rfl | rfl
  · exact su_rng hr hl (by decide) (fun q => absurd q (by decide))
  · have e : mHi (6 + 5 * l + (4 - 1)) 999 = 19 := hi_3 l 999 hl
    exact su_rng hr hl (by decide) (fun _ => by omega)
  · have e : mHi (6 + 5 * l + (5 - 1)) 999 = 20 := hi_4 l 999 hl
    exact rng5 hr hl (by omega) (by omega)
theorem OK_suG {s t : jz_St} (h : H3 s t) {l w : Nat} {z : Int} (hl : l < 4) (hc : (l : Int) < t 420 4) (hw : w = 1 ∨ w = 3) (h0 : 0 ≤ z) (hz : z ≤ mHi (41 + 3 * l + (w - 1)) 999) : OK s t (jz_su s (344 + 10 + l) w z) (jz_su t 420 (41 + 3 * l + (w - 1)) z) := by
  have hr := h.2.2.1.1
  have e6 : jz_su s (344 + 10 + l) w z 344 6 = s 344 6 := by rw [jz_su_o (by omega)]
  refine OK_now h (fun x hx => jz_su_o (by unfold jOff at hx; omega)) (fun x h1 _ _ => jz_su_o h1) (jR_suG h.1.2.1 (by omega) hl hc) (su_mq h.2.1.2.1 h0 hz (by omega)) ?_
  rw [e6]
  rcases hw with rfl | rfl
  · have e : mHi (41 + 3 * l + (1 - 1)) 999 = 99 := hi_g0 l 999
    exact rngG hr hl (Or.inl ⟨rfl, by omega⟩)
  · have e : mHi (41 + 3 * l + (3 - 1)) 999 = 60 := hi_g2 l 999
    exact rngG hr hl (Or.inr ⟨rfl, by omega⟩)
theorem H3_of {s t s' t' : jz_St} (h : OK s t s' t') : H3 s' t' := h.1
theorem keep_now {s t : jz_St} (h : H3 s t) {x : Nat} (hx : 344 ≤ x ∧ x < 358) : f_X3_keep s 344 x = s x := by
  have hP := h.1.2.2.2.2.1.2.1
  unfold f_X3_keep
  (try simp only)
  rw [jz_su_o (by omega), jz_su_o (by omega), take_off (by unfold jOff; omega)]
theorem mkeep_420 (t : jz_St) : f_X8_keep t 420 = t 420 := keep_oo t (by decide) (by decide)
theorem o_hang {s t : jz_St} (h : H3 s t) (l z : Int) : v_X7_hang s l z = v_X8_hang t l z ∧ OK s t (f_X7_hang s l z) (f_X8_hang t l z) := by
  have hn := H3_n h
  unfold v_X7_hang v_X8_hang f_X7_hang f_X8_hang
  by_cases c : (0 ≤ l ∧ l < t 420 3) ∧ 0 ≤ z ∧ z ≤ 9
  · have h5 := h.1.2.1.2.1 l.toNat (by omega) (by omega)
    have h6 := mRw_l h.2.1.2.1.1 l.toNat (by omega)
    have ca : (0 ≤ l ∧ l < s 344 2 ∧ l < 7) ∧ 0 ≤ z ∧ z ≤ 9 := by omega
    have cb : (0 ≤ l ∧ l ≤ t 420 3 - 1) ∧ 0 ≤ z ∧ z ≤ 9 := by omega
    rw [if_pos ca, if_pos ca, if_pos cb, if_pos cb, h5.2.2.2.2, h5.2.2.1]
    by_cases c2 : t 420 (6 + 5 * l.toNat + 4) = 0
    · rw [if_pos (show t 420 (6 + 5 * l.toNat + 4) ≤ 0 by omega), if_pos (show t 420 (6 + 5 * l.toNat + 4) ≤ 0 by omega), if_pos c2, if_pos c2]
      exact ⟨rfl, OK_id h⟩
    · rw [if_neg (show ¬ t 420 (6 + 5 * l.toNat + 4) ≤ 0 by omega), if_neg (show ¬ t 420 (6 + 5 * l.toNat + 4) ≤ 0 by omega), if_neg c2, if_neg c2]
      have hk := H3_keep h
      exact ⟨rfl, OK_tr hk (OK_suL (w := 3) hk.1 (by omega) (by rw [mkeep_420]; omega) (by omega) (by omega) (by rw [show 6 + 5 * l.toNat + (3 - 1) = 6 + 5 * l.toNat + 2 from rfl, hi_2 _ _ (by omega)]; omega))⟩
  · have ca : ¬ ((0 ≤ l ∧ l < s 344 2 ∧ l < 7) ∧ 0 ≤ z ∧ z ≤ 9) := by omega
    have cb : ¬ ((0 ≤ l ∧ l ≤ t 420 3 - 1) ∧ 0 ≤ z ∧ z ≤ 9) := by omega
    rw [if_neg ca, if_neg ca, if_neg cb, if_neg cb]
    exact ⟨rfl, OK_id h⟩
theorem o_salt {s t : jz_St} (h : H3 s t) (l : Int) : v_X7_salt s l = v_X8_salt t l ∧ OK s t (f_X7_salt s l) (f_X8_salt t l) := by
  have hn := H3_n h
  unfold v_X7_salt v_X8_salt f_X7_salt f_X8_salt
  by_cases c : 0 ≤ l ∧ l < t 420 3
  · have h5 := h.1.2.1.2.1 l.toNat (by omega) (by omega)
    have h6 := mRw_l h.2.1.2.1.1 l.toNat (by omega)
    have ca : 0 ≤ l ∧ l < s 344 2 ∧ l < 7 := by omega
    have cb : 0 ≤ l ∧ l ≤ t 420 3 - 1 := by omega
    rw [if_pos ca, if_pos ca, if_pos cb, if_pos cb, h5.2.2.2.1]
    by_cases c2 : t 420 (6 + 5 * l.toNat + 3) = 19
    · rw [if_pos (show 19 ≤ t 420 (6 + 5 * l.toNat + 3) by omega), if_pos (show 19 ≤ t 420 (6 + 5 * l.toNat + 3) by omega), if_pos c2, if_pos c2]
      exact ⟨rfl, OK_id h⟩
    · rw [if_neg (show ¬ 19 ≤ t 420 (6 + 5 * l.toNat + 3) by omega), if_neg (show ¬ 19 ≤ t 420 (6 + 5 * l.toNat + 3) by omega), if_neg c2, if_neg c2]
      have hk := H3_keep h
      exact ⟨rfl, OK_tr hk (OK_suL (w := 4) hk.1 (by omega) (by rw [mkeep_420]; omega) (by omega) (by omega) (by rw [show 6 + 5 * l.toNat + (4 - 1) = 6 + 5 * l.toNat + 3 from rfl, hi_3 _ _ (by omega)]; omega))⟩
  · have ca : ¬ (0 ≤ l ∧ l < s 344 2 ∧ l < 7) := by omega
    have cb : ¬ (0 ≤ l ∧ l ≤ t 420 3 - 1) := by omega
    rw [if_neg ca, if_neg ca, if_neg cb, if_neg cb]
    exact ⟨rfl, OK_id h⟩
theorem o_transcribe {s t : jz_St} (h : H3 s t) (l : Int) : v_X7_transcribe s l = v_X8_transcribe t l ∧ OK s t (f_X7_transcribe s l) (f_X8_transcribe t l) := by
  have hn := H3_n h
  unfold v_X7_transcribe v_X8_transcribe f_X7_transcribe f_X8_transcribe
  by_cases c : 0 ≤ l ∧ l < t 420 3
  · have h5 := h.1.2.1.2.1 l.toNat (by omega) (by omega)
    have h6 := mRw_l h.2.1.2.1.1 l.toNat (by omega)
    have ca : 0 ≤ l ∧ l < s 344 2 ∧ l < 7 := by omega
    have cb : 0 ≤ l ∧ l ≤ t 420 3 - 1 := by omega
    rw [if_pos ca, if_pos ca, if_pos cb, if_pos cb, h5.2.2.2.2, h5.2.1]
    have hk := H3_keep h
    exact ⟨rfl, OK_tr hk (OK_suL (w := 5) hk.1 (by omega) (by rw [mkeep_420]; omega) (by omega) (by omega) (by rw [show 6 + 5 * l.toNat + (5 - 1) = 6 + 5 * l.toNat + 4 from rfl, hi_4 _ _ (by omega)]; omega))⟩
  · have ca : ¬ (0 ≤ l ∧ l < s 344 2 ∧ l < 7) := by omega
    have cb : ¬ (0 ≤ l ∧ l ≤ t 420 3 - 1) := by omega
    rw [if_neg ca, if_neg ca, if_neg cb, if_neg cb]
    exact ⟨rfl, OK_id h⟩
theorem o_drive {s t : jz_St} (h : H3 s t) (c n : Int) : v_X7_drive s c n = v_X8_drive t c n ∧ OK s t (f_X7_drive s c n) (f_X8_drive t c n) := by
  have hn := H3_n h
  unfold v_X7_drive v_X8_drive f_X7_drive f_X8_drive
  by_cases cc : (0 ≤ c ∧ c < t 420 4) ∧ 0 ≤ n ∧ n ≤ 60
  · have h5 := h.1.2.1.2.2.2 c.toNat (by omega) (by omega)
    have h6 : s (344 + 10 + c.toNat) 3 = t 420 (41 + 3 * c.toNat + 2) := h5.2.2.elim id (fun x => x.1.elim)
    have ca : (0 ≤ c ∧ c < s 344 3 ∧ c < 4) ∧ 0 ≤ n ∧ n ≤ 60 := by omega
    have cb : (0 ≤ c ∧ c ≤ t 420 4 - 1) ∧ 0 ≤ n ∧ n ≤ 60 := by omega
    rw [if_pos ca, if_pos ca, if_pos cb, if_pos cb, h6]
    have hk := H3_keep h
    exact ⟨rfl, OK_tr hk (OK_suG (w := 3) hk.1 (by omega) (by rw [mkeep_420]; omega) (by omega) (by omega) (by rw [show 41 + 3 * c.toNat + (3 - 1) = 41 + 3 * c.toNat + 2 from rfl, hi_g2]; omega))⟩
  · have ca : ¬ ((0 ≤ c ∧ c < s 344 3 ∧ c < 4) ∧ 0 ≤ n ∧ n ≤ 60) := by omega
    have cb : ¬ ((0 ≤ c ∧ c ≤ t 420 4 - 1) ∧ 0 ≤ n ∧ n ≤ 60) := by omega
    rw [if_neg ca, if_neg ca, if_neg cb, if_neg cb]
    exact ⟨rfl, OK_id h⟩
theorem o_fodder {s t : jz_St} (h : H3 s t) (c : Int) : v_X7_fodder s c = v_X8_fodder t c ∧ OK s t (f_X7_fodder s c) (f_X8_fodder t c) := by
  have hn := H3_n h
  unfold v_X7_fodder v_X8_fodder f_X7_fodder f_X8_fodder
  by_cases cc : 0 ≤ c ∧ c < t 420 4
  · have h5 := h.1.2.1.2.2.2 c.toNat (by omega) (by omega)
    have ca : 0 ≤ c ∧ c < s 344 3 ∧ c < 4 := by omega
    have cb : 0 ≤ c ∧ c ≤ t 420 4 - 1 := by omega
    rw [if_pos ca, if_pos ca, if_pos cb, if_pos cb, h5.1]
    have hk := H3_keep h
    exact ⟨rfl, OK_tr hk (OK_suG (w := 1) hk.1 (by omega) (by rw [mkeep_420]; omega) (by omega) (by omega) (by rw [show 41 + 3 * c.toNat + (1 - 1) = 41 + 3 * c.toNat from rfl, hi_g0]; omega))⟩
  · have ca : ¬ (0 ≤ c ∧ c < s 344 3 ∧ c < 4) := by omega
    have cb : ¬ (0 ≤ c ∧ c ≤ t 420 4 - 1) := by omega
    rw [if_neg ca, if_neg ca, if_neg cb, if_neg cb]
    exact ⟨rfl, OK_id h⟩
theorem OK_hour {s t : jz_St} (h : H3 s t) (h9 : t 420 5 + 1 ≤ 999) : OK s t (f_X5_passHour s 344) (f_X8_hour t 420) ∧ v_X5_passHour s 344 = v_X8_hour t 420 := by
  have h1 := jR_hour (m := 0) (Or.inl rfl) (jR_f h.1.2.1) h.2.1.2.1.1
  have h2 := hour_mq (Or.inl rfl) h.2.1.2.1
  have h3 := jNow_hour (s := s) ⟨h.2.2.1.1, h.2.2.1.2.2.1, h.2.2.1.2.2.2.1⟩
  refine ⟨OK_now h (fun x hx => passHour_off hx) (fun x h1 h2 h3 => hour_o h1 h2 h3) (jR_f h1.1) ?_ h3.1, h1.2⟩
  refine mRq_of h2 (fun i hi => ?_) rfl rfl rfl (fun l hl => ⟨rfl, id⟩)
  have h4 := h2.1 i hi
  refine ⟨h4.1, ?_⟩
  by_cases e : i = 5
  · subst e
    show f_X8_hour t 420 420 5 ≤ 999
    have e5 : f_X8_hour t 420 420 5 = t 420 5 + 1 := by
      unfold f_X8_hour f_X8_hr2 f_X8_hr1
      rw [jz_su_s, mphE_h (by decide), phB_h (Or.inl rfl) (by decide)]
    omega
  · have h5 := h4.2
    unfold mHi at h5 ⊢
    (repeat' split at h5) <;> (repeat' split) <;> omega
theorem hrs_e {s t : jz_St} (h : H3 s t) : ∀ j : Nat, t 420 5 + j ≤ 999 → OK s t (f_hrs s j) (f_X8_hrs t j) ∧ v_hrs s j = v_X8_hrs t j ∧ f_X8_hrs t j 420 5 = t 420 5 + j := by
  intro j
  induction j with
  | zero => intro _; exact ⟨OK_id h, rfl, by show t 420 5 = t 420 5 + ((0 : Nat) : Int); omega⟩
  | succ j ih =>
    intro hj
    obtain ⟨i1, i2, i3⟩ := ih (by omega)
    have hk := H3_keep i1.1
    have e5 : f_X8_keep (f_X8_hrs t j) 420 5 = t 420 5 + j := by rw [mkeep_420]; exact i3
    have hh := OK_hour hk.1 (by omega)
    refine ⟨OK_tr i1 (OK_tr hk hh.1), ?_, ?_⟩
    · simp only [v_hrs, v_X8_hrs]; rw [i2, hh.2]
    · simp only [f_X8_hrs]
      unfold f_X8_hour f_X8_hr2 f_X8_hr1
      rw [jz_su_s, mphE_h (by decide), phB_h (Or.inl rfl) (by decide)]
      omega
theorem o_hours {s t : jz_St} (h : H3 s t) (n : Int) : v_X7_hours s n = v_X8_hours t n ∧ OK s t (f_X7_hours s n) (f_X8_hours t n) := by
  have hn := H3_n h
  unfold v_X7_hours v_X8_hours f_X7_hours f_X8_hours
  rw [h.1.2.1.1.2.2.2.2]
  by_cases c0 : t 420 0 = 1
  · rw [if_pos c0, if_pos c0, if_neg (show ¬ s 344 2 ≤ 0 by omega), if_neg (show ¬ s 344 2 ≤ 0 by omega)]
    by_cases c : 1 ≤ n ∧ n ≤ 24
    · rw [if_pos c, if_pos c, if_pos c, if_pos c]
      by_cases c2 : 999 < t 420 5 + n
      · rw [if_pos c2, if_pos c2, if_pos c2, if_pos c2]; exact ⟨rfl, OK_id h⟩
      · rw [if_neg c2, if_neg c2, if_neg c2, if_neg c2]
        have e := hrs_e h n.toNat (by omega)
        exact ⟨e.2.1, e.1⟩
    · rw [if_neg c, if_neg c, if_neg c, if_neg c]; exact ⟨rfl, OK_id h⟩
  · rw [if_neg c0, if_neg c0, if_pos (show s 344 2 ≤ 0 by omega), if_pos (show s 344 2 ≤ 0 by omega)]
    exact ⟨rfl, OK_id h⟩
theorem o_as {s t : jz_St} (h : H3 s t) (l c : Int) : v_X7_as s l c = v_X8_as t l c ∧ OK s t (f_X7_as s l c) (f_X8_as t l c) := by
  have hn := H3_n h
  unfold v_X7_as v_X8_as f_X7_as f_X8_as
  by_cases cc : (0 ≤ l ∧ l < t 420 3) ∧ 0 ≤ c ∧ c ≤ 5
  · have h5 := h.1.2.1.2.1 l.toNat (by omega) (by omega)
    have h6 := mRw_l h.2.1.2.1.1 l.toNat (by omega)
    have h7 := h.2.1.2.1.2.1 l.toNat (by omega) (by omega)
    have ca : (0 ≤ l ∧ l < s 344 2 ∧ l < 7) ∧ 0 ≤ c ∧ c ≤ 5 := by omega
    have cb : (0 ≤ l ∧ l ≤ t 420 3 - 1) ∧ 0 ≤ c ∧ c ≤ 5 := by omega
    rw [if_pos ca, if_pos ca, if_pos cb, if_pos cb, h5.1]
    have eb : (c = 0 ∨ c = t 420 (6 + 5 * l.toNat) ∨ c = fBroad (t 420 (6 + 5 * l.toNat))) ↔ (c = 0 ∨ t 420 (6 + 5 * l.toNat) = c ∨ (c = 1 ∧ t 420 (6 + 5 * l.toNat) < 4) ∨ (c = 4 ∧ t 420 (6 + 5 * l.toNat) = 5)) := by
      unfold fBroad
      (repeat' split) <;> omega
    by_cases q : c = 0 ∨ c = t 420 (6 + 5 * l.toNat) ∨ c = fBroad (t 420 (6 + 5 * l.toNat))
    · rw [if_pos q, if_pos q, if_pos (eb.1 q), if_pos (eb.1 q)]
      exact ⟨rfl, OK_st h 0⟩
    · rw [if_neg q, if_neg q, if_neg (fun x => q (eb.2 x)), if_neg (fun x => q (eb.2 x)), jz_su_su]
      exact ⟨rfl, OK_st h 3⟩
  · have ca : ¬ ((0 ≤ l ∧ l < s 344 2 ∧ l < 7) ∧ 0 ≤ c ∧ c ≤ 5) := by omega
    have cb : ¬ ((0 ≤ l ∧ l ≤ t 420 3 - 1) ∧ 0 ≤ c ∧ c ≤ 5) := by omega
    rw [if_neg ca, if_neg ca, if_neg cb, if_neg cb]
    exact ⟨rfl, OK_id h⟩
