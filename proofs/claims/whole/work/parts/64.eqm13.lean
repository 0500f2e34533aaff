/-! the tape, the notes -/
theorem OK_tape {s t s' t' : jz_St} (h : H3 s t) (hs : ∀ x, x ≠ 0 → x ≠ 2 → x ≠ 3 → jOff 358 x → s' x = s x) (h08 : s' 0 8 = s 0 8) (h09 : s' 0 9 = t' 416 18) (ht : ∀ x, x ≠ 416 → x ≠ 421 → x ≠ 424 → t' x = t x)
    (ht16 : ∀ i, i = 0 ∨ i = 1 ∨ i = 9 ∨ i = 24 → t' 416 i = t 416 i) (hT : cTp s' t') (hm : mTp t') (hj : jTk s') : OK s t s' t' := by
  obtain ⟨⟨h1, h2, h3, h4, h5, h6, h7⟩, ⟨m1, m2, m3, m4, m5⟩, c1, c2, c3⟩ := h
  have o : ∀ x, 4 ≤ x → (x < 358 ∨ 372 ≤ x) → s' x = s x := fun x hx hx2 => hs x (by omega) (by omega) (by omega) (by unfold jOff; omega)
  have p : ∀ x, x ≠ 416 → x ≠ 421 → x ≠ 424 → t' x = t x := ht
  refine ⟨⟨⟨?_, ?_, ?_, hT, ?_, ?_, ?_⟩, ⟨⟨?_, ?_, ?_, ?_⟩, ?_, hm, ?_, ?_⟩, ⟨?_, ?_, ?_, ?_, hj, ?_⟩, ?_, ?_⟩, ?_, ?_⟩
  · rw [h08, ht16 1 (by omega)]; exact ⟨h1.1, h09⟩
  · rw [p 420 (by decide) (by decide) (by decide)]; exact jR_sq h2 (fun x hx hx2 => o x (by omega) (by omega))
  · intro r hr
    rw [p 417 (by decide) (by decide) (by decide), p 418 (by decide) (by decide) (by decide), p 419 (by decide) (by decide) (by decide), o _ (by omega) (by omega), o _ (by omega) (by omega)]
    exact h3 r hr
  · unfold cPs
    rw [o 4 (by decide) (by decide), ht16 9 (by omega), p 423 (by decide) (by decide) (by decide)]
    refine ⟨h5.1, h5.2.1, fun i hi => ?_⟩
    rw [slot_e (o 4 (by decide) (by decide))]
    have := slot_lt s i
    exact jR_sq (h5.2.2 i hi) (fun x hx hx2 => o x (by omega) (by omega))
  · intro j hj
    rw [p 427 (by decide) (by decide) (by decide), p 428 (by decide) (by decide) (by decide), o _ (by omega) (by omega)]
    exact ⟨(h6 j hj).1, fun q => jR_sq ((h6 j hj).2 q) (fun x hx hx2 => o x (by omega) (by omega))⟩
  · unfold cNo; rw [o 342 (by decide) (by decide), o 343 (by decide) (by decide), ht16 24 (by omega), p 429 (by decide) (by decide) (by decide)]; exact h7
  · unfold mLn; rw [p 417 (by decide) (by decide) (by decide), p 418 (by decide) (by decide) (by decide), ht16 0 (by omega)]; exact m1.1
  · rw [p 420 (by decide) (by decide) (by decide)]; exact m1.2.1
  · rw [ht16 9 (by omega)]; exact m1.2.2.1
  · rw [ht16 24 (by omega)]; exact m1.2.2.2
  · rw [p 420 (by decide) (by decide) (by decide)]; exact m2
  · unfold mWs; rw [ht16 9 (by omega), p 423 (by decide) (by decide) (by decide)]; exact m4
  · unfold mIm; rw [p 427 (by decide) (by decide) (by decide), p 428 (by decide) (by decide) (by decide)]; exact m5
  · rw [o 344 (by decide) (by decide)]; exact jRng_off c1.1 (fun x hx hx2 => o x (by omega) (by omega))
  · rw [o 344 (by decide) (by decide)]; exact c1.2.1
  · rw [o 4 (by decide) (by decide)]; exact c1.2.2.1
  · rw [o 4 (by decide) (by decide)]; exact c1.2.2.2.1
  · intro j hj; rw [o _ (by omega) (by omega)]; exact c1.2.2.2.2.2 j hj
  · intro i hi
    rw [o 4 (by decide) (by decide)] at hi
    rw [slot_e (o 4 (by decide) (by decide))]
    have := slot_lt s i
    exact jRng_off (c2 i hi) (fun x hx hx2 => o x (by omega) (by omega))
  · intro i hi hp
    rw [o _ (by omega) (by omega)] at hp
    exact jRng_off (c3 i hi hp) (fun x hx hx2 => o x (by omega) (by omega))
  · intro x hx; exact o x (by omega) (by omega)
  · intro x hx; exact p x (by omega) (by omega) (by omega)
theorem o_feed {s t : jz_St} (h : H3 s t) (z : Int) : v_X7_feed s z = v_X8_feed t z ∧ OK s t (f_X7_feed s z) (f_X8_feed t z) := by
  have hT := h.1.2.2.2.1
  have hm := h.2.1.2.2.1
  have hj := h.2.2.1.2.2.2.2.1
  unfold v_X7_feed v_X8_feed f_X7_feed f_X8_feed f_X6_add
  rw [hT.1]
  by_cases c : 0 ≤ z ∧ z ≤ 255
  · rw [if_pos c, if_pos c, if_pos c, if_pos c]
    have hl := hm.1
    by_cases c2 : t 416 11 = 120
    · rw [if_pos c2, if_pos c2, if_neg (show ¬ t 416 11 < 120 by omega), if_neg (show ¬ (0 ≤ t 416 11 ∧ t 416 11 < 120) by omega)]; exact ⟨rfl, OK_id h⟩
    · rw [if_neg c2, if_neg c2, if_pos (show t 416 11 < 120 by omega), if_pos (show 0 ≤ t 416 11 ∧ t 416 11 < 120 by omega)]
      refine ⟨rfl, OK_tape h (fun x h0 h2 h3 _ => ?_) ?_ ?_ (fun x h1 h2 h3 => ?_) (fun i hi => ?_) ⟨?_, fun p hp => ?_⟩ ⟨?_, fun p hp => ?_⟩ ⟨?_, ?_⟩⟩
      · rw [jz_su_o h2, jz_su_o h3]
      · rw [jz_su_o (by decide), jz_su_o (by decide)]
      · rw [jz_su_o (by decide), jz_su_o (by decide), jz_su_f (by decide), jz_su_o (by decide)]; exact h.1.1.2
      · rw [jz_su_o h1, jz_su_o h3]
      · rw [jz_su_f (by omega), jz_su_o (by decide)]
      · rw [jz_su_s, jz_su_s]
      · rw [jz_su_s] at hp
        rw [jz_su_o (show 3 ≠ 2 by decide), jz_su_o (show 424 ≠ 416 by decide)]
        by_cases e : p = (t 416 11).toNat
        · subst e; rw [jz_su_s, jz_su_s]
        · rw [jz_su_f e, jz_su_f e]; exact hT.2 p (by omega)
      · rw [jz_su_s]; omega
      · rw [jz_su_o (by decide)]
        by_cases e : p = (t 416 11).toNat
        · subst e; rw [jz_su_s]; exact c
        · rw [jz_su_f e]; exact hm.2 p hp
      · rw [jz_su_f (by decide), jz_su_o (by decide)]; exact hj.1
      · rw [jz_su_s]; omega
  · rw [if_neg c, if_neg c, if_neg c, if_neg c]; exact ⟨rfl, OK_id h⟩
def nR (s t : jz_St) : Prop := cNo s t ∧ (0 ≤ t 416 24 ∧ t 416 24 ≤ 16)
theorem OK_no {s t s' t' : jz_St} (h : H3 s t) (hs : ∀ x, x ≠ 342 → x ≠ 343 → s' x = s x) (ht : ∀ x, x ≠ 416 → x ≠ 429 → t' x = t x) (ht16 : ∀ i, i ≠ 24 → t' 416 i = t 416 i) (hN : nR s' t') : OK s t s' t' := by
  obtain ⟨⟨h1, h2, h3, h4, h5, h6, h7⟩, ⟨m1, m2, m3, m4, m5⟩, c1, c2, c3⟩ := h
  have o : ∀ x, x < 342 ∨ 344 ≤ x → s' x = s x := fun x hx => hs x (by omega) (by omega)
  have p : ∀ x, x ≠ 416 → x ≠ 429 → t' x = t x := ht
  refine ⟨⟨⟨?_, ?_, ?_, ?_, ?_, ?_, hN.1⟩, ⟨⟨?_, ?_, ?_, hN.2⟩, ?_, ?_, ?_, ?_⟩, ⟨?_, ?_, ?_, ?_, ?_, ?_⟩, ?_, ?_⟩, ?_, ?_⟩
  · rw [o 0 (by decide), ht16 1 (by decide), ht16 18 (by decide)]; exact h1
  · rw [p 420 (by decide) (by decide)]; exact jR_sq h2 (fun x hx hx2 => o x (by omega))
  · intro r hr
    rw [p 417 (by decide) (by decide), p 418 (by decide) (by decide), p 419 (by decide) (by decide), o _ (by omega), o _ (by omega)]
    exact h3 r hr
  · unfold cTp; rw [o 2 (by decide), o 3 (by decide), ht16 11 (by decide), p 424 (by decide) (by decide)]; exact h4
  · unfold cPs
    rw [o 4 (by decide), ht16 9 (by decide), p 423 (by decide) (by decide)]
    refine ⟨h5.1, h5.2.1, fun i hi => ?_⟩
    rw [slot_e (o 4 (by decide))]
    have := slot_lt s i
    exact jR_sq (h5.2.2 i hi) (fun x hx hx2 => o x (by omega))
  · intro j hj
    rw [p 427 (by decide) (by decide), p 428 (by decide) (by decide), o _ (by omega)]
    exact ⟨(h6 j hj).1, fun q => jR_sq ((h6 j hj).2 q) (fun x hx hx2 => o x (by omega))⟩
  · unfold mLn; rw [p 417 (by decide) (by decide), p 418 (by decide) (by decide), ht16 0 (by decide)]; exact m1.1
  · rw [p 420 (by decide) (by decide)]; exact m1.2.1
  · rw [ht16 9 (by decide)]; exact m1.2.2.1
  · rw [p 420 (by decide) (by decide)]; exact m2
  · unfold mTp; rw [ht16 11 (by decide), p 424 (by decide) (by decide)]; exact m3
  · unfold mWs; rw [ht16 9 (by decide), p 423 (by decide) (by decide)]; exact m4
  · unfold mIm; rw [p 427 (by decide) (by decide), p 428 (by decide) (by decide)]; exact m5
  · rw [o 344 (by decide)]; exact jRng_off c1.1 (fun x hx hx2 => o x (by omega))
  · rw [o 344 (by decide)]; exact c1.2.1
  · rw [o 4 (by decide)]; exact c1.2.2.1
  · rw [o 4 (by decide)]; exact c1.2.2.2.1
  · unfold jTk; rw [o 2 (by decide)]; exact c1.2.2.2.2.1
  · intro j hj; rw [o _ (by omega)]; exact c1.2.2.2.2.2 j hj
  · intro i hi
    rw [o 4 (by decide)] at hi
    rw [slot_e (o 4 (by decide))]
    have := slot_lt s i
    exact jRng_off (c2 i hi) (fun x hx hx2 => o x (by omega))
  · intro i hi hp
    rw [o _ (by omega)] at hp
    exact jRng_off (c3 i hi hp) (fun x hx hx2 => o x (by omega))
  · intro x hx; exact o x (by omega)
  · intro x hx; exact p x (by omega) (by omega)
theorem nR_add {s t : jz_St} (h : nR s t) (z : Int) : nR (f_X2_add s z) (f_X8_bg t z) := by
  obtain ⟨⟨h1, h2⟩, h3⟩ := h
  unfold f_X2_add f_X8_bg
  rw [h1]
  by_cases c : t 416 24 < 16
  · rw [if_pos c, if_pos (show 0 ≤ t 416 24 ∧ t 416 24 < 16 by omega)]
    refine ⟨⟨by rw [jz_su_s, jz_su_s], fun i hi => ?_⟩, by rw [jz_su_s]; omega⟩
    rw [jz_su_s] at hi
    rw [jz_su_o (show 343 ≠ 342 by decide), jz_su_o (show 429 ≠ 416 by decide)]
    by_cases e : i = (t 416 24).toNat
    · subst e; rw [jz_su_s, jz_su_s]
    · rw [jz_su_f e, jz_su_f e]; exact h2 i (by omega)
  · rw [if_neg c, if_neg (show ¬ (0 ≤ t 416 24 ∧ t 416 24 < 16) by omega)]
    exact ⟨⟨h1, h2⟩, h3⟩
theorem bg_16 (t : jz_St) (z : Int) {i : Nat} (hi : i ≠ 24) : f_X8_bg t z 416 i = t 416 i := by
  unfold f_X8_bg
  split
  · rw [jz_su_f hi, jz_su_o (by decide)]
  · rfl
theorem bs_16 (t : jz_St) (l : Nat) {i : Nat} (hi : i ≠ 24) : f_X8_bs t l 416 i = t 416 i := by
  unfold f_X8_bs f_X8_bs1
  rw [bg_16 _ _ hi, bg_16 _ _ hi]
  split
  · exact bg_16 _ _ hi
  · rfl
theorem mk_16 (t : jz_St) (l : Nat) {i : Nat} (hi : i ≠ 24) : f_X8_mk t l 416 i = t 416 i := by
  unfold f_X8_mk f_X8_mk1
  split
  · rw [bs_16 _ _ hi, bg_16 _ _ hi, bg_16 _ _ hi]
  · rw [bg_16 _ _ hi, bg_16 _ _ hi]
    split
    · rfl
    · exact bg_16 _ _ hi
theorem sz_16 (t : jz_St) (l : Nat) {i : Nat} (hi : i ≠ 24) : f_X8_sz t l 416 i = t 416 i := by
  unfold f_X8_sz f_X8_sz1
  split
  · exact bs_16 _ _ hi
  · rw [mk_16 _ _ hi, bg_16 _ _ hi, bg_16 _ _ hi]
    split
    · exact bg_16 _ _ hi
    · rfl
theorem bs_K {t : jz_St} {l : Nat} {K : Int} (hK : t 420 (6 + 5 * l) = K) (hk : K = 4 ∨ K = 5) : f_X8_bs t l = if K = 5 then f_X8_bg (f_X8_bg (f_X8_bg t 14) 13) 10 else f_X8_bg (f_X8_bg t 13) 10 := by
  unfold f_X8_bs f_X8_bs1
  rw [hK]
  split <;> rfl
theorem mk_K {t : jz_St} {l : Nat} {K : Int} (hK : t 420 (6 + 5 * l) = K) : f_X8_mk t l = if 4 ≤ K then f_X8_bs (f_X8_bg (f_X8_bg t 23) 20) l else f_X8_bg (f_X8_bg (if K = 1 then t else f_X8_bg t (if K = 3 then 22 else 24)) 21) 20 := by
  unfold f_X8_mk f_X8_mk1
  rw [hK]
theorem sz_K {t : jz_St} {l : Nat} {K : Int} (hK : t 420 (6 + 5 * l) = K) : f_X8_sz t l = if 4 ≤ K then f_X8_bs t l else f_X8_mk (f_X8_bg (f_X8_bg (if K = 2 then f_X8_bg t 12 else t) 11) 10) l := by
  unfold f_X8_sz f_X8_sz1
  rw [hK]
theorem bgK {t : jz_St} {l : Nat} {K z : Int} (hK : t 420 (6 + 5 * l) = K) : f_X8_bg t z 420 (6 + 5 * l) = K := by rw [bg_o _ _ (by decide) (by decide)]; exact hK
theorem ask_mk {s t : jz_St} (h : nR s t) {l : Nat} {K : Int} (hK : t 420 (6 + 5 * l) = K) (hk : 1 ≤ K ∧ K ≤ 5) : nR (fGiS K 17 (fBody K 1) s) (f_X8_mk t l) := by
  rw [mk_K hK]
  have hk5 : K = 1 ∨ K = 2 ∨ K = 3 ∨ K = 4 ∨ K = 5 := by omega
  rcases hk5 with rfl | rfl | rfl | rfl | rfl
  · exact nR_add (nR_add h 21) 20
  · exact nR_add (nR_add (nR_add h 24) 21) 20
  · exact nR_add (nR_add (nR_add h 22) 21) 20
  · have e := bs_K (t := f_X8_bg (f_X8_bg t 23) 20) (l := l) (K := 4) (bgK (bgK hK)) (by decide)
    rw [if_pos (by decide), e]
    exact nR_add (nR_add (nR_add (nR_add h 23) 20) 13) 10
  · have e := bs_K (t := f_X8_bg (f_X8_bg t 23) 20) (l := l) (K := 5) (bgK (bgK hK)) (by decide)
    rw [if_pos (by decide), e]
    exact nR_add (nR_add (nR_add (nR_add (nR_add h 23) 20) 14) 13) 10
theorem ask_sz {s t : jz_St} (h : nR s t) {l : Nat} {K : Int} (hK : t 420 (6 + 5 * l) = K) (hk : 1 ≤ K ∧ K ≤ 5) : nR (fGiS K 17 (fBody K 0) s) (f_X8_sz t l) := by
  rw [sz_K hK]
  have hk5 : K = 1 ∨ K = 2 ∨ K = 3 ∨ K = 4 ∨ K = 5 := by omega
  rcases hk5 with rfl | rfl | rfl | rfl | rfl
  · have e := mk_K (t := f_X8_bg (f_X8_bg t 11) 10) (l := l) (K := 1) (bgK (bgK hK))
    show nR _ (f_X8_mk (f_X8_bg (f_X8_bg t 11) 10) l)
    rw [e]
    exact nR_add (nR_add (nR_add (nR_add h 11) 10) 21) 20
  · have e := mk_K (t := f_X8_bg (f_X8_bg (f_X8_bg t 12) 11) 10) (l := l) (K := 2) (bgK (bgK (bgK hK)))
    show nR _ (f_X8_mk (f_X8_bg (f_X8_bg (f_X8_bg t 12) 11) 10) l)
    rw [e]
    exact nR_add (nR_add (nR_add (nR_add (nR_add (nR_add h 12) 11) 10) 24) 21) 20
  · have e := mk_K (t := f_X8_bg (f_X8_bg t 11) 10) (l := l) (K := 3) (bgK (bgK hK))
    show nR _ (f_X8_mk (f_X8_bg (f_X8_bg t 11) 10) l)
    rw [e]
    exact nR_add (nR_add (nR_add (nR_add (nR_add h 11) 10) 22) 21) 20
  · have e := bs_K (t := t) (l := l) (K := 4) hK (by decide)
    rw [if_pos (by decide), e]
    exact nR_add (nR_add h 13) 10
  · have e := bs_K (t := t) (l := l) (K := 5) hK (by decide)
    rw [if_pos (by decide), e]
    exact nR_add (nR_add (nR_add h 14) 13) 10
theorem askv {t : jz_St} {l : Nat} {K Z F : Int} (hK : t 420 (6 + 5 * l) = K) (hZ : t 420 (6 + 5 * l + 1) = Z) (hF : t 420 (6 + 5 * l + 4) = F) (hk : 1 ≤ K ∧ K ≤ 5) : fGiV K Z F l 17 (fBody K 0) = v_X8_sz t l ∧ fGiV K Z F l 17 (fBody K 1) = v_X8_mk t l := by
  unfold v_X8_sz v_X8_mk v_X8_bs
  rw [hK, hZ, hF]
  have hk5 : K = 1 ∨ K = 2 ∨ K = 3 ∨ K = 4 ∨ K = 5 := by omega
  rcases hk5 with rfl | rfl | rfl | rfl | rfl
  · refine ⟨?_, rfl⟩
    show Z + ((l : Int) + F) = Z + ((l : Int) + F)
    rfl
  · refine ⟨?_, rfl⟩
    show -(Z + 2 * ((l : Int) + F)) = -(Z + 2 * ((l : Int) + F))
    rfl
  · refine ⟨?_, rfl⟩
    show Z + ((l : Int) + F - 1000) = Z + ((l : Int) + F - 1000)
    rfl
  · exact ⟨rfl, rfl⟩
  · exact ⟨rfl, rfl⟩
theorem o_ask {s t : jz_St} (h : H3 s t) (l w : Int) : v_X7_ask s l w = v_X8_ask t l w ∧ OK s t (f_X7_ask s l w) (f_X8_ask t l w) := by
  have hn := H3_n h
  unfold v_X7_ask v_X8_ask f_X7_ask f_X8_ask
  by_cases c : (0 ≤ l ∧ l < t 420 3) ∧ 0 ≤ w ∧ w ≤ 1
  · have h5 := h.1.2.1.2.1 l.toNat (by omega) (by omega)
    have h6 := mRw_l h.2.1.2.1.1 l.toNat (by omega)
    have h7 := h.2.1.2.1.2.1 l.toNat (by omega) (by omega)
    have ca : (0 ≤ l ∧ l < s 344 2 ∧ l < 7) ∧ 0 ≤ w ∧ w ≤ 1 := by omega
    have cb : (0 ≤ l ∧ l ≤ t 420 3 - 1) ∧ 0 ≤ w ∧ w ≤ 1 := by omega
    rw [if_pos ca, if_pos ca, if_pos cb, if_pos cb, h5.1, h5.2.1, h5.2.2.2.2]
    have e20 : jz_su t 416 24 0 420 = t 420 := jz_su_o (by decide)
    have hv := askv (t := jz_su t 416 24 0) (l := l.toNat) (K := t 420 (6 + 5 * l.toNat)) (Z := t 420 (6 + 5 * l.toNat + 1)) (F := t 420 (6 + 5 * l.toNat + 4)) (by rw [e20]) (by rw [e20]) (by rw [e20]) (by omega)
    rw [show ((l.toNat : Nat) : Int) = l by omega] at hv
    have hN : nR (jz_su s 342 1 0) (jz_su t 416 24 0) := ⟨⟨by rw [jz_su_s, jz_su_s], fun i hi => by rw [jz_su_s] at hi; omega⟩, by rw [jz_su_s]; decide⟩
    have hw : w = 0 ∨ w = 1 := by omega
    rcases hw with rfl | rfl
    · rw [if_pos (show (0 : Int) = 0 from rfl), if_pos (show (0 : Int) = 0 from rfl)]
      refine ⟨hv.1, OK_no h (fun x h1 h2 => by rw [fGiS_off h1 h2, jz_su_o h1]) (fun x h1 h2 => by rw [sz_o _ _ h1 h2, jz_su_o h1]) (fun i hi => by rw [sz_16 _ _ hi, jz_su_f hi]) (ask_sz hN (by rw [e20]) (by omega))⟩
    · rw [if_neg (show ¬ ((1 : Int) = 0) by decide), if_neg (show ¬ ((1 : Int) = 0) by decide)]
      refine ⟨hv.2, OK_no h (fun x h1 h2 => by rw [fGiS_off h1 h2, jz_su_o h1]) (fun x h1 h2 => by rw [mk_o _ _ h1 h2, jz_su_o h1]) (fun i hi => by rw [mk_16 _ _ hi, jz_su_f hi]) (ask_mk hN (by rw [e20]) (by omega))⟩
  · have ca : ¬ ((0 ≤ l ∧ l < s 344 2 ∧ l < 7) ∧ 0 ≤ w ∧ w ≤ 1) := by omega
    have cb : ¬ ((0 ≤ l ∧ l ≤ t 420 3 - 1) ∧ 0 ≤ w ∧ w ≤ 1) := by omega
    rw [if_neg ca, if_neg ca, if_neg cb, if_neg cb]
    exact ⟨rfl, OK_id h⟩
