theorem H3_u {s t : jz_St} (h : H3 s t) : mBn t = fBn s ∧ ∀ p, fBn s p = -1 ∨ 0 ≤ fBn s p := by
  have hT := h.1.2.2.2.1
  have hm := h.2.1.2.2.1
  have e : mBn t = fBn s := by
    funext p
    unfold mBn fBn
    rw [hT.1]
    by_cases c : (p : Int) < t 416 11 ∧ p < 120
    · rw [if_pos c, if_pos c, hT.2 p c.1]
    · rw [if_neg c, if_neg c]
  refine ⟨e, fun p => ?_⟩
  rw [← e]
  unfold mBn
  by_cases c : (p : Int) < t 416 11 ∧ p < 120
  · rw [if_pos c]; exact Or.inr (hm.2 p c.2).1
  · rw [if_neg c]; exact Or.inl rfl
theorem sqR {s t : jz_St} (h : H3 s t) (hT : cT s) : gB (fBn s) (f_X6_readInto s 358) (f_X8_fail1 (f_X8_sqG t)) ∧ (f_X6_readInto s 358 2 6 = 0 → 1 ≤ f_X8_fail1 (f_X8_sqG t) 421 4 ∧ 1 ≤ f_X8_fail1 (f_X8_sqG t) 421 3) := by
  have hu := H3_u h
  exact gB_all hu.2 rfl hu.1 hT
theorem sq_place {s t : jz_St} (h : H3 s t) (hT : cT s) : (0 ≤ f_X6_readInto s 358 2 2 ∧ f_X6_readInto s 358 2 2 ≤ 1000) ∧ (0 ≤ f_X8_sqH t 416 17 ∧ f_X8_sqH t 416 17 ≤ 1000) ∨ f_X6_readInto s 358 2 6 = 0 := by
  by_cases c : f_X6_readInto s 358 2 6 = 0
  · exact Or.inr c
  · left
    have hR := (sqR h hT).1.1.1
    have h1 := pS_pl hR
    rcases hR.2.2 with ⟨q1, q2⟩ | q
    · exact absurd q1 c
    · have e : f_X8_sqH t 416 17 = f_X8_fail1 (f_X8_sqG t) 416 17 := by
        unfold f_X8_sqH f_X8_failed
        rw [jz_su_f (by decide), jz_su_f (by decide)]
      rw [e, ← q.2.2.1]
      omega
theorem sq_pl1 {s t : jz_St} (h : H3 s t) (hT : cT s) : 0 ≤ f_X6_readInto s 358 2 2 ∧ f_X6_readInto s 358 2 2 ≤ 1000 := by
  have h1 := pS_pl (sqR h hT).1.1.1
  omega
theorem sq_pl2 {s t : jz_St} (h : H3 s t) (hT : cT s) : 0 ≤ f_X8_sqH t 416 17 ∧ f_X8_sqH t 416 17 ≤ 1000 ∨ f_X6_readInto s 358 2 6 = 0 := (sq_place h hT).imp (fun x => x.2) id
theorem rng_new {s1 t : jz_St} (hQ : gQ s1 t) (hG : cG2 s1 t) : jRng (f_X5_take s1 344 358) 344 0 := by
  have hA : (344 : Nat) + 14 ≤ 358 ∨ 358 + 14 ≤ 344 := by omega
  have h1 := hQ.1
  have hw := mRw_h hQ.2.1
  have h3 := h1.1
  unfold jRng
  rw [take_k s1 hA (by decide) (by decide), take_k s1 hA (by decide) (by decide), take_k s1 hA (by decide) (by decide), take_k s1 hA (by decide) (by decide), take_k s1 hA (by decide) (by decide), take_k7, h3.1, h3.2.1, h3.2.2.1, h3.2.2.2.1, h3.2.2.2.2, hQ.2.2.2.2]
  refine ⟨by omega, by omega, by omega, by omega, by omega, by omega, fun j hj => ?_, fun j hj => ?_⟩
  · rw [take_leaf s1 hA hj (by decide) (by decide), take_leaf s1 hA hj (by decide) (by decide)]
    by_cases c : (j : Int) < t 421 3
    · have h5 := h1.2.1 j hj c
      have h6 := mRw_l hQ.2.1 j hj
      rw [h5.2.2.2.2, h5.2.2.2.1]
      omega
    · rw [h1.2.2.1 j hj (by omega)]
      omega
  · rw [take_goat s1 hA hj (by decide) (by decide), take_goat s1 hA hj (by decide) (by decide), take_goat4 s1 hA hj, hG.2.1 j hj]
    have := hG.1.2 j hj
    omega
theorem o_square {s t : jz_St} (h : H3 s t) (hT : cT s) : v_X7_square s = v_X8_square t ∧ OK s t (f_X7_square s) (f_X8_square t) ∧ cT (f_X7_square s) := by
  have hR := sqR h hT
  have hp := hR.1.1.1
  have hf := pS_f0 hp
  have hm := h.2.1.2.2.1
  have hjt := rI_tk h.2.2.1.2.2.2.2.1
  have hH : ∀ x, x ≠ 416 → f_X8_sqH t x = f_X8_fail1 (f_X8_sqG t) x := by
    intro x hx
    unfold f_X8_sqH f_X8_failed
    rw [jz_su_o hx, jz_su_o hx]
  have hHo : ∀ x, x ≠ 416 → x ≠ 421 → f_X8_sqH t x = t x := fun x h1 h2 => by rw [hH x h1, fail1_o _ h1, sqG_o t h1 h2]
  have hHi : ∀ i, i = 0 ∨ i = 1 ∨ i = 9 ∨ i = 24 → f_X8_sqH t 416 i = t 416 i := by
    intro i hi
    have hmf : mfr i := by unfold mfr; omega
    unfold f_X8_sqH f_X8_failed
    rw [jz_su_f (by omega), jz_su_f (by omega), fail1_m _ hmf, sqG_m t hmf]
  have hH11 : f_X8_sqH t 416 11 = 0 := by
    unfold f_X8_sqH f_X8_failed
    rw [jz_su_f (by decide), jz_su_s]
  have hH18 : f_X8_sqH t 416 18 = if 0 < f_X8_fail1 (f_X8_sqG t) 416 16 then f_X8_fail1 (f_X8_sqG t) 416 16 else t 416 18 := by
    have hmf : mfr 18 := by unfold mfr; omega
    unfold f_X8_sqH f_X8_failed
    rw [jz_su_s, sqG_m t hmf]
  have hH17 : f_X8_sqH t 416 17 = f_X8_fail1 (f_X8_sqG t) 416 17 := by
    unfold f_X8_sqH f_X8_failed
    rw [jz_su_f (by decide), jz_su_f (by decide)]
  have rx : ∀ x, x ≠ 2 → jOff 358 x → f_X6_readInto s 358 x = s x := fun x h2 hx => rIx h2 hx
  have r0 : f_X6_readInto s 358 0 = s 0 := rx 0 (by decide) (by unfold jOff; omega)
  have hmT : mTp (f_X8_sqH t) := by
    refine ⟨by rw [hH11]; decide, fun p hp2 => ?_⟩
    rw [hHo 424 (by decide) (by decide)]; exact hm.2 p hp2
  unfold v_X7_square v_X8_square f_X7_square f_X8_square
  by_cases c : f_X6_readInto s 358 2 6 = 0
  · have c16 : ¬ 0 < f_X8_fail1 (f_X8_sqG t) 416 16 := by omega
    rw [if_pos c, if_pos c, if_neg c16, if_neg c16, hH 421 (by decide)]
    have hQ := hR.1.1.2 c
    have hcn := hR.2 c
    rw [if_neg c16] at hH18
    -- the text is read
    have ok1 : OK s t (jz_su (f_X6_readInto s 358) 2 1 0) (f_X8_sqH t) := by
      refine OK_tape h (fun x h0 h2 h3 hx => ?_) ?_ ?_ (fun x h1 h2 h3 => hHo x h1 h2) hHi ⟨?_, fun p hp2 => ?_⟩ hmT ⟨?_, ?_⟩
      · rw [jz_su_o h2, rx x h2 hx]
      · rw [jz_su_o (by decide), r0]
      · rw [jz_su_o (by decide), r0, hH18]; exact h.1.1.2
      · rw [jz_su_s, hH11]
      · rw [hH11] at hp2; omega
      · rw [jz_su_f (by decide)]; exact hjt.1
      · rw [jz_su_s]; omega
    have e358 : ∀ x, 358 ≤ x → x < 372 → jz_su (f_X6_readInto s 358) 2 1 0 x = f_X6_readInto s 358 x := fun x h1 _ => jz_su_o (by omega)
    have hQ1 : gQ (jz_su (f_X6_readInto s 358) 2 1 0) (f_X8_fail1 (f_X8_sqG t)) := gQ_fr hQ e358 rfl
    have hG1 : cG2 (jz_su (f_X6_readInto s 358) 2 1 0) (f_X8_fail1 (f_X8_sqG t)) := cG2_fr hR.1.2.1 e358 rfl
    have hrng := rng_new hQ1 hG1
    have hTk := jR_take (k := 344) (k2 := 358) (by omega) hQ1.1
    generalize hS : jz_su (f_X6_readInto s 358) 2 1 0 = S at ok1 hQ1 hG1 hrng hTk ⊢
    have hP := ok1.1.1.2.2.2.2.1
    have e420 : ∀ x, x < 53 → f_X8_rc (jz_su (f_X8_sqH t) 416 9 0) 420 421 0 0 53 420 x = f_X8_fail1 (f_X8_sqG t) 421 x := by
      intro x hx
      rw [rc_in _ _ _ _ _ (by decide), if_pos (by omega), jz_su_o (by decide), hH 421 (by decide), show 0 + (x - 0) = x by omega]
    have e344 : ∀ x, 344 ≤ x → x < 344 + 14 → jz_su (f_X5_take S 344 358) 4 2 0 x = f_X5_take S 344 358 x := fun x h1 h2 => jz_su_o (by omega)
    have hqn : mRq (f_X8_fail1 (f_X8_sqG t) 421) 999 := ⟨hQ.2.1, hQ.2.2.1, fun _ => ⟨hcn.2, hcn.1⟩, fun x => by have := hQ.2.2.2.1; omega⟩
    refine ⟨?_, ?_, ?_⟩
    · exact hQ.1.1.1
    · refine OK_tr ok1 (OK_set ok1.1 (fun x hx h4 => ?_) ?_ ?_ ?_ ?_ ?_ ?_ ?_ ?_ ?_)
      · rw [jz_su_o h4, take_off hx]
      · rw [jz_su_s, rc_o _ _ _ _ _ (by decide), jz_su_s]
      · rw [rc_o _ _ _ _ _ (by decide), jz_su_s]
        have := ok1.1.2.1.1.2.2.1
        omega
      · rw [jz_su_f (by decide), take_off (by unfold jOff; omega)]; exact hP.2.1
      · intro i hi
        rw [rc_o _ _ _ _ _ (by decide), jz_su_s] at hi
        omega
      · intro x hx1 hx2; rw [rc_o _ _ _ _ _ hx1, jz_su_o hx2]
      · intro i hi; rw [rc_o _ _ _ _ _ (by decide), jz_su_f hi]
      · exact jR_row (jR_sq hTk e344) (fun x hx => e420 x hx)
      · exact mRq_row hqn (fun x hx => e420 x hx)
      · refine jRng_off (jRng_mono hrng ?_) e344
        rw [e344 344 (by decide) (by decide)]
        have a1 := hTk.1.2.2.2.2
        have a2 := hQ.2.2.2.2
        omega
    · refine cT_eq hG1.1 (fun x h1 h2 => ?_)
      rw [jz_su_o (by omega), take_off (by unfold jOff; omega)]
  · have c16 : 0 < f_X8_fail1 (f_X8_sqG t) 416 16 := by
      rcases hp.2.2 with ⟨q1, q2⟩ | q
      · exact absurd q1 c
      · have := q.1; omega
    have hq : f_X6_readInto s 358 2 2 = f_X8_fail1 (f_X8_sqG t) 416 17 := by
      rcases hp.2.2 with ⟨q1, q2⟩ | q
      · exact absurd q1 c
      · exact q.2.2.1
    rw [if_neg c, if_neg c, if_pos c16, if_pos c16, hH17, hq]
    rw [if_pos c16] at hH18
    refine ⟨rfl, ?_, ?_⟩
    · refine OK_tape h (fun x h0 h2 h3 hx => ?_) ?_ ?_ (fun x h1 h2 h3 => hHo x h1 h2) hHi ⟨?_, fun p hp2 => ?_⟩ hmT ⟨?_, ?_⟩
      · rw [jz_su_o h0, jz_su_o h2, rx x h2 hx]
      · rw [jz_su_f (by decide), jz_su_o (by decide), r0]
      · rw [jz_su_s, hH18]; exact hf
      · rw [jz_su_o (by decide), jz_su_s, hH11]
      · rw [hH11] at hp2; omega
      · rw [jz_su_o (by decide), jz_su_f (by decide)]; exact hjt.1
      · rw [jz_su_o (by decide), jz_su_s]; omega
    · refine cT_eq hR.1.2.1.1 (fun x h1 h2 => ?_)
      rw [jz_su_o (by omega), jz_su_o (by omega)]
