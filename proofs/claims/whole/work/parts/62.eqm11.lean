/-! undo, images -/
theorem OK_set {s t s' t' : jz_St} (h : H3 s t) (hs : ∀ x, jOff 344 x → x ≠ 4 → s' x = s x) (h9 : s' 4 2 = t' 416 9) (h91 : 0 ≤ t' 416 9 ∧ t' 416 9 ≤ t 416 9) (h41 : 0 ≤ s' 4 1 ∧ s' 4 1 < 24) (hsl : ∀ i : Nat, (i : Int) < t' 416 9 → cSlot s' i = cSlot s i)
    (ht : ∀ x, x ≠ 420 → x ≠ 416 → t' x = t x) (ht16 : ∀ i, i ≠ 9 → t' 416 i = t 416 i) (hR : jR False 1 s' 344 (t' 420)) (hq : mRq (t' 420) 999) (hj : jRng s' 344 (9 * s' 344 6)) : OK s t s' t' := by
  obtain ⟨⟨h1, h2, h3, h4, h5, h6, h7⟩, ⟨m1, m2, m3, m4, m5⟩, c1, c2, c3⟩ := h
  have o : ∀ x, x < 344 ∨ 358 ≤ x → x ≠ 4 → s' x = s x := fun x hx hx4 => hs x (by unfold jOff; omega) hx4
  have hh6 : s' 344 6 ≤ 999 := by
    have a1 := hR.1.2.2.2.2
    have a2 := (mRw_h hq.1).2.2.2.2.2
    omega
  have ha := m1.2.2.1
  refine ⟨⟨⟨?_, hR, ?_, ?_, ?_, ?_, ?_⟩, ⟨⟨?_, hq.1, ?_, ?_⟩, hq, ?_, ?_, ?_⟩, ⟨hj, hh6, h41, ?_, ?_, ?_⟩, ?_, ?_⟩, ?_, ?_⟩
  · rw [o 0 (by decide) (by decide), ht16 1 (by decide), ht16 18 (by decide)]; exact h1
  · intro r hr
    rw [ht 417 (by decide) (by decide), ht 418 (by decide) (by decide), ht 419 (by decide) (by decide), o _ (by omega) (by omega), o _ (by omega) (by omega)]
    exact h3 r hr
  · unfold cTp; rw [o 2 (by decide) (by decide), o 3 (by decide) (by decide), ht16 11 (by decide), ht 424 (by decide) (by decide)]; exact h4
  · refine ⟨h9, h41, fun i hi => ?_⟩
    rw [hsl i hi, ht 423 (by decide) (by decide)]
    have := slot_lt s i
    exact jR_sq (h5.2.2 i (by omega)) (fun x hx hx2 => o x (by omega) (by omega))
  · intro j hj
    rw [ht 427 (by decide) (by decide), ht 428 (by decide) (by decide), o _ (by omega) (by omega)]
    exact ⟨(h6 j hj).1, fun q => jR_sq ((h6 j hj).2 q) (fun x hx _ => o x (by omega) (by omega))⟩
  · unfold cNo; rw [o 342 (by decide) (by decide), o 343 (by decide) (by decide), ht16 24 (by decide), ht 429 (by decide) (by decide)]; exact h7
  · unfold mLn; rw [ht 417 (by decide) (by decide), ht 418 (by decide) (by decide), ht16 0 (by decide)]; exact m1.1
  · omega
  · rw [ht16 24 (by decide)]; exact m1.2.2.2
  · unfold mTp; rw [ht16 11 (by decide), ht 424 (by decide) (by decide)]; exact m3
  · intro i hi; rw [ht 423 (by decide) (by decide)]; exact m4 i (by omega)
  · unfold mIm; rw [ht 427 (by decide) (by decide), ht 428 (by decide) (by decide)]; exact m5
  · omega
  · unfold jTk; rw [o 2 (by decide) (by decide)]; exact c1.2.2.2.2.1
  · intro j hj; rw [o _ (by omega) (by omega)]; exact c1.2.2.2.2.2 j hj
  · intro i hi
    rw [hsl i (by omega)]
    have := slot_lt s i
    have e4 := h5.1
    exact jRng_off (c2 i (by omega)) (fun x hx hx2 => o x (by omega) (by omega))
  · intro j hj hp
    rw [o _ (by omega) (by omega)] at hp
    exact jRng_off (c3 j hj hp) (fun x hx _ => o x (by omega) (by omega))
  · intro x hx; exact o x (by omega) (by omega)
  · intro x hx; exact ht x (by omega) (by omega)
theorem o_undo {s t : jz_St} (h : H3 s t) : v_X7_undo s = v_X8_undo t ∧ OK s t (f_X7_undo s) (f_X8_undo t) := by
  have hn := H3_n h
  have hP := h.1.2.2.2.2.1
  have hk := hP.1
  have ha := h.2.1.1.2.2.1
  unfold v_X7_undo v_X8_undo f_X7_undo f_X8_undo f_X3_back
  rw [hk]
  by_cases c : t 416 9 = 0
  · rw [if_pos c, if_pos c, if_pos (show t 416 9 ≤ 0 by omega), if_pos (show t 416 9 ≤ 0 by omega)]
    exact ⟨rfl, OK_id h⟩
  · rw [if_neg c, if_neg c, if_neg (show ¬ t 416 9 ≤ 0 by omega), if_neg (show ¬ t 416 9 ≤ 0 by omega)]
    refine ⟨rfl, ?_⟩
    obtain ⟨i, hi⟩ : ∃ i : Nat, (i : Int) = t 416 9 - 1 := ⟨(t 416 9 - 1).toNat, by omega⟩
    have hi2 : (t 416 9 - 1).toNat = i := by omega
    have hp1 := hP.2.1
    have hL : 0 ≤ fLat s ∧ fLat s < 24 := by unfold fLat; split <;> omega
    have hslot : cSlot s i = 6 + 14 * (fLat s).toNat := by
      unfold cSlot fLat
      rw [hk]
      split
      · have : ((s 4 1).toNat + 24 - (t 416 9).toNat + i) % 24 = (s 4 1 - 1).toNat := by omega
        rw [this]
      · have : ((s 4 1).toNat + 24 - (t 416 9).toNat + i) % 24 = (23 : Int).toNat := by omega
        rw [this]
    have hlt := slot_lt s i
    have hRi := hP.2.2 i (by omega)
    rw [hslot] at hRi hlt
    have hTk := jR_take (k := 344) (by omega) hRi
    have e420 : ∀ x, x < 53 → f_X8_rc (jz_su t 416 9 (t 416 9 - 1)) 420 423 0 (53 * (t 416 9 - 1).toNat) 53 420 x = t 423 (53 * i + x) := by
      intro x hx
      rw [rc_in _ _ _ _ _ (by decide), if_pos (by omega), jz_su_o (by decide), hi2, show 53 * i + (x - 0) = 53 * i + x by omega]
    have e344 : ∀ x, 344 ≤ x → x < 344 + 14 → jz_su (jz_su (f_X5_take s 344 (6 + 14 * (fLat s).toNat)) 4 1 (fLat s)) 4 2 (t 416 9 - 1) x = f_X5_take s 344 (6 + 14 * (fLat s).toNat) x := by
      intro x h1 h2
      rw [jz_su_o (by omega), jz_su_o (by omega)]
    have hrng := take_rng (k := 344) (k2 := 6 + 14 * (fLat s).toNat) (by omega) (h.2.2.2.1 i (by omega) |> fun x => by rw [hslot] at x; exact x)
    have hq9 := h.2.1.2.2.2.1 i (by omega)
    refine OK_set h (fun x hx h4 => ?_) ?_ ?_ ?_ ?_ ?_ ?_ ?_ ?_ ?_
    · rw [jz_su_o h4, jz_su_o h4, take_off hx]
    · rw [jz_su_s, rc_o _ _ _ _ _ (by decide), jz_su_s]
    · rw [rc_o _ _ _ _ _ (by decide), jz_su_s]; omega
    · rw [jz_su_f (by decide), jz_su_s]; exact hL
    · intro j hj
      rw [rc_o _ _ _ _ _ (by decide), jz_su_s] at hj
      unfold cSlot
      rw [jz_su_s, jz_su_f (show 1 ≠ 2 by decide), jz_su_s, hk]
      have : ((fLat s).toNat + 24 - (t 416 9 - 1).toNat + j) % 24 = ((s 4 1).toNat + 24 - (t 416 9).toNat + j) % 24 := by
        unfold fLat
        split <;> omega
      rw [this]
    · intro x hx1 hx2; rw [rc_o _ _ _ _ _ hx1, jz_su_o hx2]
    · intro i hi; rw [rc_o _ _ _ _ _ (by decide), jz_su_f hi]
    · exact jR_row (jR_sq hTk e344) (fun x hx => e420 x hx)
    · exact mRq_row hq9 (fun x hx => e420 x hx)
    · refine jRng_off (jRng_mono hrng ?_) e344
      rw [e344 344 (by decide) (by decide)]
      have a1 : f_X5_take s 344 (6 + 14 * (fLat s).toNat) 344 6 = t 423 (53 * i + 5) := hTk.1.2.2.2.2
      have a2 : s (6 + 14 * (fLat s).toNat) 6 = t 423 (53 * i + 5) := hRi.1.2.2.2.2
      have a3 : 0 ≤ t 423 (53 * i + 5) ∧ t 423 (53 * i + 5) ≤ 999 := (mRw_h hq9.1).2.2.2.2.2
      omega
theorem slotI (j : Nat) : 372 + 14 * j = 372 + 14 * j := rfl
theorem o_restore {s t : jz_St} (h : H3 s t) (k : Int) : v_X7_restore s k = v_X8_restore t k ∧ OK s t (f_X7_restore s k) (f_X8_restore t k) := by
  have hIm := h.1.2.2.2.2.2.1
  have key : ∀ j : Nat, j < 2 → ¬ t 427 j = 0 → OK s t (jz_su (f_X5_take s 344 (372 + 14 * j)) 4 2 0) (jz_su (f_X8_rc t 420 428 0 (53 * j) 53) 416 9 0) := by
    intro j hj hk
    have hm := h.2.1.2.2.2.2 j hj
    have hm2 := hm.2 hk
    have hi := hIm j hj
    have hRi := hi.2 hk
    have hTk := jR_take (k := 344) (by omega) hRi
    have e420 : ∀ x, x < 53 → jz_su (f_X8_rc t 420 428 0 (53 * j) 53) 416 9 0 420 x = t 428 (53 * j + x) := by
      intro x hx
      rw [jz_su_o (by decide), rc_in _ _ _ _ _ (by decide), if_pos (by omega), show 53 * j + (x - 0) = 53 * j + x by omega]
    have e344 : ∀ x, 344 ≤ x → x < 344 + 14 → jz_su (f_X5_take s 344 (372 + 14 * j)) 4 2 0 x = f_X5_take s 344 (372 + 14 * j) x := by
      intro x h1 h2
      rw [jz_su_o (by omega)]
    have hp : 0 < s (372 + 14 * j) 2 := by
      have := hi.1
      have q : ¬ s (372 + 14 * j) 2 ≤ 0 := fun x => hk (this.1 x)
      omega
    have hrng := take_rng (k := 344) (k2 := 372 + 14 * j) (by omega) (h.2.2.2.2 j hj hp)
    have hP := h.1.2.2.2.2.1
    have ha := h.2.1.1.2.2.1
    refine OK_set h (fun x hx h4 => ?_) ?_ ?_ ?_ ?_ ?_ ?_ ?_ ?_ ?_
    · rw [jz_su_o h4, take_off hx]
    · rw [jz_su_s, jz_su_s]
    · rw [jz_su_s]; omega
    · rw [jz_su_f (by decide), take_off (by unfold jOff; omega)]; exact hP.2.1
    · intro i hi; rw [jz_su_s] at hi; omega
    · intro x hx1 hx2; rw [jz_su_o hx2, rc_o _ _ _ _ _ hx1]
    · intro i hi; rw [jz_su_f hi, rc_o _ _ _ _ _ (by decide)]
    · exact jR_row (jR_sq hTk e344) (fun x hx => e420 x hx)
    · exact mRq_row hm2.1 (fun x hx => e420 x hx)
    · refine jRng_off (jRng_mono hrng ?_) e344
      rw [e344 344 (by decide) (by decide)]
      have a1 : f_X5_take s 344 (372 + 14 * j) 344 6 = t 428 (53 * j + 5) := hTk.1.2.2.2.2
      have a2 : s (372 + 14 * j) 6 = t 428 (53 * j + 5) := hRi.1.2.2.2.2
      have a3 : 0 ≤ t 428 (53 * j + 5) ∧ t 428 (53 * j + 5) ≤ 999 := (mRw_h hm2.1.1).2.2.2.2.2
      omega
  unfold v_X7_restore v_X8_restore f_X7_restore f_X8_restore
  by_cases c : 0 ≤ k ∧ k ≤ 1
  · rw [if_pos c, if_pos c]
    have hk : k = 0 ∨ k = 1 := by omega
    rcases hk with rfl | rfl
    · rw [if_pos rfl, if_pos rfl]
      have h0 := (hIm 0 (by decide)).1
      show ((if s 372 2 ≤ 0 then (-1000002 : Int) else 1) = if t 427 0 = 0 then -1000002 else 1) ∧ OK s t (if s 372 2 ≤ 0 then s else jz_su (f_X5_take s 344 372) 4 2 0) (if t 427 0 = 0 then t else jz_su (f_X8_rc t 420 428 0 (53 * 0) 53) 416 9 0)
      by_cases q : t 427 0 = 0
      · rw [if_pos q, if_pos q, if_pos (h0.2 q), if_pos (h0.2 q)]; exact ⟨rfl, OK_id h⟩
      · rw [if_neg q, if_neg q, if_neg (fun x => q (h0.1 x)), if_neg (fun x => q (h0.1 x))]
        exact ⟨rfl, key 0 (by decide) q⟩
    · rw [if_neg (show ¬ ((1 : Int) = 0) by decide), if_pos (show (1 : Int) = 1 from rfl), if_neg (show ¬ ((1 : Int) = 0) by decide), if_pos (show (1 : Int) = 1 from rfl)]
      have h0 := (hIm 1 (by decide)).1
      show ((if s 386 2 ≤ 0 then (-1000002 : Int) else 1) = if t 427 1 = 0 then -1000002 else 1) ∧ OK s t (if s 386 2 ≤ 0 then s else jz_su (f_X5_take s 344 386) 4 2 0) (if t 427 1 = 0 then t else jz_su (f_X8_rc t 420 428 0 (53 * 1) 53) 416 9 0)
      by_cases q : t 427 1 = 0
      · rw [if_pos q, if_pos q, if_pos (h0.2 q), if_pos (h0.2 q)]; exact ⟨rfl, OK_id h⟩
      · rw [if_neg q, if_neg q, if_neg (fun x => q (h0.1 x)), if_neg (fun x => q (h0.1 x))]
        exact ⟨rfl, key 1 (by decide) q⟩
  · rw [if_neg c, if_neg c, if_neg (show ¬ k = 0 by omega), if_neg (show ¬ k = 1 by omega), if_neg (show ¬ k = 0 by omega), if_neg (show ¬ k = 1 by omega)]
    exact ⟨rfl, OK_id h⟩
theorem OK_img {s t s' t' : jz_St} (h : H3 s t) {j : Nat} (hj : j < 2) (hs : ∀ x, jOff (372 + 14 * j) x → s' x = s x) (ht : ∀ x, x ≠ 427 → x ≠ 428 → t' x = t x) (hti : ∀ i, i ≠ j → t' 427 i = t 427 i) (htx : ∀ x, x < 53 * j ∨ 53 * j + 53 ≤ x → t' 428 x = t 428 x) (h1 : t' 427 j = 1)
    (hR : jR False 1 s' (372 + 14 * j) (fun x => t' 428 (53 * j + x))) (hq : mRq (fun x => t' 428 (53 * j + x)) 999) (h0 : t' 428 (53 * j) = 1) (hg : jRng s' (372 + 14 * j) 9000) : OK s t s' t' := by
  obtain ⟨⟨h1', h2, h3, h4, h5, h6, h7⟩, ⟨m1, m2, m3, m4, m5⟩, c1, c2, c3⟩ := h
  have o : ∀ x, x < 372 ∨ 400 ≤ x → s' x = s x := fun x hx => hs x (by unfold jOff; omega)
  have oj : ∀ i : Nat, i < 2 → i ≠ j → ∀ x, 372 + 14 * i ≤ x → x < 372 + 14 * i + 14 → s' x = s x := fun i hi hij x hx hx2 => hs x (by unfold jOff; omega)
  have p : ∀ x, x < 427 ∨ 429 ≤ x → t' x = t x := fun x hx => ht x (by omega) (by omega)
  have p416 := p 416 (by decide)
  have hpos : 0 < s' (372 + 14 * j) 2 := by
    have a1 := hR.1.1
    have a2 := hq.2.2.1 h0
    omega
  refine ⟨⟨⟨?_, ?_, ?_, ?_, ?_, ?_, ?_⟩, ⟨⟨?_, ?_, ?_, ?_⟩, ?_, ?_, ?_, ?_⟩, ⟨?_, ?_, ?_, ?_, ?_, ?_⟩, ?_, ?_⟩, ?_, ?_⟩
  · rw [o 0 (by decide), p416]; exact h1'
  · rw [p 420 (by decide)]; exact jR_sq h2 (fun x hx _ => o x (by omega))
  · intro r hr
    rw [p 417 (by decide), p 418 (by decide), p 419 (by decide), o _ (by omega), o _ (by omega)]
    exact h3 r hr
  · unfold cTp; rw [o 2 (by decide), o 3 (by decide), p416, p 424 (by decide)]; exact h4
  · unfold cPs
    rw [o 4 (by decide), p416, p 423 (by decide)]
    refine ⟨h5.1, h5.2.1, fun i hi => ?_⟩
    rw [slot_e (o 4 (by decide))]
    have := slot_lt s i
    exact jR_sq (h5.2.2 i hi) (fun x hx hx2 => o x (by omega))
  · intro i hi
    by_cases e : i = j
    · subst e
      rw [h1]
      exact ⟨⟨fun q => by omega, fun q => absurd q (by decide)⟩, fun _ => hR⟩
    · rw [hti i e, oj i hi e (372 + 14 * i) (by omega) (by omega)]
      refine ⟨(h6 i hi).1, fun q => ?_⟩
      refine jR_row (jR_sq ((h6 i hi).2 q) (oj i hi e)) (fun x hx => ?_)
      show t' 428 (53 * i + x) = t 428 (53 * i + x)
      exact htx _ (by omega)
  · unfold cNo; rw [o 342 (by decide), o 343 (by decide), p416, p 429 (by decide)]; exact h7
  · unfold mLn; rw [p 417 (by decide), p 418 (by decide), p416]; exact m1.1
  · rw [p 420 (by decide)]; exact m1.2.1
  · rw [p416]; exact m1.2.2.1
  · rw [p416]; exact m1.2.2.2
  · rw [p 420 (by decide)]; exact m2
  · unfold mTp; rw [p416, p 424 (by decide)]; exact m3
  · unfold mWs; rw [p416, p 423 (by decide)]; exact m4
  · intro i hi
    by_cases e : i = j
    · subst e
      rw [h1]
      exact ⟨Or.inr rfl, fun _ => ⟨hq, h0⟩⟩
    · rw [hti i e]
      refine ⟨(m5 i hi).1, fun q => ?_⟩
      have := (m5 i hi).2 q
      refine ⟨mRq_row this.1 (fun x hx => ?_), ?_⟩
      · show t' 428 (53 * i + x) = t 428 (53 * i + x)
        exact htx _ (by omega)
      · rw [htx _ (by omega)]; exact this.2
  · rw [o 344 (by decide)]; exact jRng_off c1.1 (fun x hx _ => o x (by omega))
  · rw [o 344 (by decide)]; exact c1.2.1
  · rw [o 4 (by decide)]; exact c1.2.2.1
  · rw [o 4 (by decide)]; exact c1.2.2.2.1
  · unfold jTk; rw [o 2 (by decide)]; exact c1.2.2.2.2.1
  · intro i hi; rw [o _ (by omega)]; exact c1.2.2.2.2.2 i hi
  · intro i hi
    rw [o 4 (by decide)] at hi
    rw [slot_e (o 4 (by decide))]
    have := slot_lt s i
    exact jRng_off (c2 i hi) (fun x hx hx2 => o x (by omega))
  · intro i hi hp
    by_cases e : i = j
    · subst e; exact hg
    · rw [oj i hi e (372 + 14 * i) (by omega) (by omega)] at hp
      exact jRng_off (c3 i hi hp) (oj i hi e)
  · intro x hx; exact o x (by omega)
  · intro x hx; exact p x (by omega)
theorem o_image {s t : jz_St} (h : H3 s t) (k : Int) : v_X7_image s k = v_X8_image t k ∧ OK s t (f_X7_image s k) (f_X8_image t k) := by
  have hn := H3_n h
  have key : ∀ j : Nat, j < 2 → t 420 0 = 1 → OK s t (f_X5_take s (372 + 14 * j) 344) (jz_su (f_X8_rc t 428 420 (53 * j) 0 53) 427 j 1) := by
    intro j hj h1
    have e428 : ∀ x, x < 53 → jz_su (f_X8_rc t 428 420 (53 * j) 0 53) 427 j 1 428 (53 * j + x) = t 420 x := by
      intro x hx
      rw [jz_su_o (by decide), rc_in _ _ _ _ _ (by decide), if_pos (by omega), show 0 + (53 * j + x - 53 * j) = x by omega]
    have hrng := take_rng (k := 372 + 14 * j) (k2 := 344) (by omega) h.2.2.1.1
    refine OK_img h hj (fun x hx => take_off hx) (fun x h1 h2 => ?_) (fun i hi => ?_) (fun x hx => ?_) (jz_su_s _ _ _ _) ?_ ?_ ?_ ?_
    · rw [jz_su_o h1, rc_o _ _ _ _ _ h2]
    · rw [jz_su_f hi, rc_o _ _ _ _ _ (by decide)]
    · rw [jz_su_o (by decide), rc_in _ _ _ _ _ (by decide), if_neg (by omega)]
    · exact jR_row (jR_take (by omega) h.1.2.1) (fun x hx => e428 x hx)
    · exact mRq_row h.2.1.2.1 (fun x hx => e428 x hx)
    · have := e428 0 (by decide)
      rw [Nat.add_zero] at this
      rw [this]; exact h1
    · exact jRng_mono hrng (by have := h.2.2.1.2.1; omega)
  unfold v_X7_image v_X8_image f_X7_image f_X8_image
  by_cases c : 0 ≤ k ∧ k ≤ 1
  · have hk : k = 0 ∨ k = 1 := by omega
    by_cases c0 : t 420 0 = 1
    · rw [if_pos c, if_pos c, if_pos c0, if_pos c0, if_pos (show k = 0 ∨ k = 1 by omega), if_neg (show ¬ s 344 2 ≤ 0 by omega)]
      rcases hk with rfl | rfl
      · rw [if_pos rfl, if_neg (show ¬ s 344 2 ≤ 0 by omega)]; exact ⟨rfl, key 0 (by decide) c0⟩
      · rw [if_neg (show ¬ ((1 : Int) = 0) by decide), if_pos (show (1 : Int) = 1 from rfl), if_neg (show ¬ s 344 2 ≤ 0 by omega)]; exact ⟨rfl, key 1 (by decide) c0⟩
    · rw [if_pos c, if_pos c, if_neg c0, if_neg c0, if_pos (show k = 0 ∨ k = 1 by omega), if_pos (show s 344 2 ≤ 0 by omega)]
      rcases hk with rfl | rfl
      · rw [if_pos rfl, if_pos (show s 344 2 ≤ 0 by omega)]; exact ⟨rfl, OK_id h⟩
      · rw [if_neg (show ¬ ((1 : Int) = 0) by decide), if_pos (show (1 : Int) = 1 from rfl), if_pos (show s 344 2 ≤ 0 by omega)]; exact ⟨rfl, OK_id h⟩
  · rw [if_neg c, if_neg c, if_neg (show ¬ (k = 0 ∨ k = 1) by omega), if_neg (show ¬ k = 0 by omega), if_neg (show ¬ k = 1 by omega)]
    exact ⟨rfl, OK_id h⟩
