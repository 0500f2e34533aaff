/-! method by method: trials -/
theorem seg_344 {s1 s : jz_St} (hs : ∀ x, jOff 358 x → s1 x = s x) : ∀ x, 344 ≤ x → x < 344 + 14 → s1 x = s x := fun x h1 h2 => hs x (by unfold jOff; omega)
theorem att_T {s t s1 t1 : jz_St} (h : H3 s t) (hs : ∀ x, jOff 358 x → s1 x = s x) (ht : t1 420 = t 420) : jR False 1 (f_X5_take s1 358 344) 358 (f_X8_layThen t1 422) ∧ mRq (f_X8_layThen t1 422) 999 :=
  ⟨layThen_R (by rw [ht]; exact jR_sq h.1.2.1 (seg_344 hs)), layThen_mq (by rw [ht]; exact h.2.1.2.1)⟩
theorem lo_mq {t : jz_St} {w n b : Int} (hn : n ≤ 60) (h : mRq (t 422) b) {g : Nat} (hg : g ≤ 4) : mRq (f_X8_lo t w n g 422) b :=
  mRq_of h (lo_mr hn h.1 g hg) (lo_n _ _ _ (by omega) g) (lo_n _ _ _ (by omega) g) (lo_n _ _ _ (by omega) g) (fun l hl => ⟨lo_n _ _ _ (by omega) g, fun q => by rw [lo_n _ _ _ (by omega) g]; exact q⟩)
theorem att_D {s t s1 t1 : jz_St} (h : H3 s t) (hs : ∀ x, jOff 358 x → s1 x = s x) (ht : t1 420 = t 420) {n : Int} (hn : 0 ≤ n ∧ n ≤ 60) {c : Nat} (hc : c < 128) :
    jR True n.toNat (f_X5_drv (f_X5_take s1 358 344) 358 c n 4) 358 (f_X8_layOff t1 c n 422) ∧ mRq (f_X8_layOff t1 c n 422) 999 := by
  have hT := att_T h hs ht
  have hh := H3_n h
  have e : (f_X8_layThen t1 422 4) = t1 420 4 := layThen_in t1 (by decide)
  have h1 := jR_drv (n := n) (c := c) hT.1 hT.2.1 hc hn.1
  rw [e] at h1
  exact ⟨h1, lo_mq hn.2 hT.2 (by rw [ht]; omega)⟩
theorem att_H {s t s1 t1 : jz_St} (h : H3 s t) (hs : ∀ x, jOff 358 x → s1 x = s x) (ht : t1 420 = t 420) {n : Int} (hn : 0 ≤ n ∧ n ≤ 60) {c : Nat} (hc : c < 128) :
    jR True 0 (f_X5_passHours (f_X5_drv (f_X5_take s1 358 344) 358 c n 4) 358 n.toNat) 358 (rDrA t1 n c 422) ∧ mRq (rDrA t1 n c 422) (999 + n.toNat) := by
  have hD := att_D h hs ht hn hc
  refine ⟨jR_hours (m := 0) (Or.inr rfl) n.toNat (by rw [Nat.zero_add]; exact hD.1) hD.2.1, hoursOf_mq (Or.inr rfl) hD.2 n.toNat⟩
theorem p2n {j : Nat} (hj : j ≤ 4) : ∃ c : Nat, jshl 1 (j : Int) = ((c : Nat) : Int) ∧ c < 128 := by
  refine ⟨2 ^ j, shl_7 j (by omega), ?_⟩
  have : 2 ^ j ≤ 2 ^ 4 := Nat.pow_le_pow_right (by decide) hj
  omega
theorem haS_e {s t : jz_St} (h : H3 s t) {n : Int} (hn : 0 ≤ n ∧ n ≤ 60) {j : Nat} (hj : j < 4) : fBC (fIF (fHaS s n (j + 1)) 358 7).toNat = rHmV t n j := by
  obtain ⟨c, h1, h2⟩ := p2n (j := j) (by omega)
  have e := att_H h (fun x hx => fHaS_off (n := n) hx j) (hmS_o t n (by decide) (by decide) (by decide) j) hn h2
  unfold rHmV
  simp only [fHaS, rHmS]
  rw [h1, jR_if e.1 e.2]
theorem ha_e {s t : jz_St} (h : H3 s t) {n : Int} (hn : 0 ≤ n ∧ n ≤ 60) : ∀ j : Nat, j ≤ 4 → (fHa s n j).1 = (rHm t n j).1 ∧ (0 < j → (fHa s n j).2 = (rHm t n j).2) ∧ ((fHa s n j).2 = (rHm t n j).2 ∨ ((fHa s n j).2 < 0 ∧ (rHm t n j).2 < 0)) := by
  intro j
  induction j with
  | zero => intro _; exact ⟨rfl, fun q => absurd q (by decide), Or.inr ⟨show (-1000000 : Int) < 0 by decide, show (-1 : Int) < 0 by decide⟩⟩
  | succ j ih =>
    intro hj
    obtain ⟨i1, i2, i3⟩ := ih (by omega)
    have e := haS_e h hn (j := j) (by omega)
    have hv : 0 ≤ rHmV t n j := by
      rw [← e]
      have := fIF_r (fHaS s n (j + 1)) 358
      exact (fBC_r _ this).1
    simp only [fHa, rHm]
    rw [e]
    rcases i3 with q | q
    · rw [q]
      by_cases c : (rHm t n j).2 < rHmV t n j
      · rw [if_pos c, if_pos c]; exact ⟨rfl, fun _ => rfl, Or.inl rfl⟩
      · rw [if_neg c, if_neg c]; exact ⟨i1, fun _ => q, Or.inl q⟩
    · rw [if_pos (show (fHa s n j).2 < rHmV t n j by omega), if_pos (show (rHm t n j).2 < rHmV t n j by omega)]
      exact ⟨rfl, fun _ => rfl, Or.inl rfl⟩
theorem o_harm {s t : jz_St} (h : H3 s t) (n w : Int) : v_X7_harm s n w = v_X8_harm t n w ∧ OK s t (f_X7_harm s n w) (f_X8_harm t n w) := by
  have hn := H3_n h
  unfold v_X7_harm v_X8_harm f_X7_harm f_X8_harm
  by_cases c0 : t 420 0 = 1
  · rw [if_pos c0, if_pos c0, if_neg (show ¬ s 344 2 ≤ 0 by omega), if_neg (show ¬ s 344 2 ≤ 0 by omega)]
    by_cases c : (1 ≤ n ∧ n ≤ 60) ∧ 0 ≤ w ∧ w ≤ 1
    · rw [if_pos c, if_pos c, if_pos c, if_pos c, hn.1.2]
      have e := ha_e h (n := n) (by omega) (t 420 4).toNat (by omega)
      rw [e.1, e.2.1 (by have := hn.2.2.2.1 c0; omega)]
      exact ⟨rfl, OK_t h (fun x hx => fHaS_off hx _) (fun x h1 h2 h3 => hmS_o t n h1 h2 h3 _)⟩
    · rw [if_neg c, if_neg c, if_neg c, if_neg c]
      exact ⟨rfl, OK_id h⟩
  · rw [if_neg c0, if_neg c0, if_pos (show s 344 2 ≤ 0 by omega), if_pos (show s 344 2 ≤ 0 by omega)]
    exact ⟨rfl, OK_id h⟩
-- bait
theorem suL_mq {t : jz_St} {l w : Nat} {z b : Int} (h : mRq (t 422) b) (hl : l < 7) (hw : w = 0 ∨ w = 2 ∨ w = 3) (h0 : 0 ≤ z) (hz : z ≤ mHi (6 + 5 * l + w) b) (h1 : w = 0 → 1 ≤ z) : mRq (jz_su t 422 (6 + 5 * l + w) z 422) b := by
  refine mRq_of h (mRw_su h.1 h0 hz) (jz_su_f (by omega)) (jz_su_f (by omega)) (jz_su_f (by omega)) (fun a ha => ⟨jz_su_f (by omega), fun q => ?_⟩)
  by_cases e : a = l ∧ w = 0
  · obtain ⟨rfl, rfl⟩ := e
    show 1 ≤ jz_su t 422 (6 + 5 * a) z 422 (6 + 5 * a)
    rw [jz_su_s]; exact h1 rfl
  · rw [jz_su_f (by omega)]; exact q
theorem att_B {s t s1 t1 : jz_St} (h : H3 s t) (hs : ∀ x, jOff 358 x → s1 x = s x) (ht : t1 420 = t 420) (n : Nat) {l w : Nat} {z : Int} (hl : l < 7) (hc : (l : Int) < t 420 3) (hw : w = 0 ∨ w = 2 ∨ w = 3) (h0 : 0 ≤ z) (hz : z ≤ mHi (6 + 5 * l + w) 999) (h1 : w = 0 → 1 ≤ z) :
    jR False 1 (jz_su (f_X5_take s1 358 344) (358 + 3 + l) (w + 1) z) 358 (jz_su (f_X8_layThen t1) 422 (6 + 5 * l + w) z 422) ∧ mRq (jz_su (f_X8_layThen t1) 422 (6 + 5 * l + w) z 422) 999 := by
  have hT := att_T h hs ht
  have e : (f_X8_layThen t1 422 3) = t 420 3 := by rw [layThen_in t1 (by decide), ht]
  exact ⟨jR_suL (w := w + 1) hT.1 (by omega) hl (by rw [e]; exact hc), suL_mq hT.2 hl hw h0 hz h1⟩
theorem baS_e {s t : jz_St} (h : H3 s t) {l n : Int} (hl : 0 ≤ l ∧ l < t 420 3) (hn : 0 ≤ n ∧ n ≤ 60) : ∀ j : Nat, (j : Int) ≤ t 420 3 → (fBa s l n j) = (rBa t l n.toNat j) := by
  have hh := H3_n h
  intro j
  induction j with
  | zero => intro _; rfl
  | succ j ih =>
    intro hj
    have i0 := ih (by omega)
    have hge : -1000000 ≤ (rBa t l n.toNat j).2 := by
      clear i0 ih
      have key : ∀ i : Nat, (i : Int) ≤ t 420 3 → -1000000 ≤ (rBa t l n.toNat i).2 := by
        intro i
        induction i with
        | zero => intro _; exact Int.le_refl _
        | succ i ih2 =>
          intro hi
          simp only [rBa]
          split
          · next q => exact Int.le_of_lt (Int.lt_of_le_of_lt (ih2 (by omega)) q.2)
          · exact ih2 (by omega)
      exact key j (by omega)
    have h5 := h.1.2.1.2.1 j (by omega) (by omega)
    have hoff : ∀ x, jOff 358 x → fBaS s l n j x = s x := fun x hx => fBaS_off hx j
    have e344 : fBaS s l n j 344 = s 344 := hoff 344 (by unfold jOff; omega)
    have elj : f_X5_take (fBaS s l n j) 358 344 (358 + 3 + j) 5 = t 420 (6 + 5 * j + 4) := by
      rw [take_leaf _ (by omega) (by omega) (by decide) (by decide), hoff (344 + 3 + j) (by unfold jOff; omega), h5.2.2.2.2]
    simp only [fBa, rBa]
    rw [i0]
    by_cases c1 : (j : Int) = l
    · have ev : fBaV s l n j = -1000000 := by unfold fBaV; rw [if_pos c1]
      rw [ev, if_neg (by omega), if_neg (fun q => q.1.1 c1)]
    · by_cases c2 : 0 < t 420 (6 + 5 * j + 4)
      · have hLB : fLB (fBaS s l n j) l j := by
          refine ⟨by rw [e344]; omega, by rw [e344]; omega, ?_⟩
          show ¬ f_X5_take (fBaS s l n j) 358 344 (358 + 3 + j) 5 ≤ 0
          rw [elj]; omega
        have hB := att_B h hoff (baS_o t l n.toNat (by decide) (by decide) (by decide) j) n.toNat (l := j) (w := 3) (z := 19) (by omega) (by omega) (by omega) (by decide) (by rw [hi_3 _ _ (by omega)]; decide) (by omega)
        have hH := jR_hours (m := 0) (Or.inr rfl) n.toNat (jR_f hB.1) hB.2.1
        have e3 : f_X8_hoursOf (jz_su (f_X8_layThen (rBaS t l n.toNat j)) 422 (6 + 5 * j + 3) 19) 422 n.toNat 422 3 = t 420 3 := by
          rw [hoursOf_h (Or.inr rfl) (by decide), jz_su_f (by omega), layThen_in _ (by decide), baS_o t l n.toNat (by decide) (by decide) (by decide) j]
        have ev : fBaV s l n j = rBaS t l n.toNat (j + 1) 422 (6 + 5 * l.toNat + 4) := by
          unfold fBaV v_lbb f_lbb
          rw [if_neg c1, if_pos hLB, if_pos hLB]
          simp only [rBaS]
          rw [if_pos ⟨c1, c2⟩]
          exact (hH.2.1 l.toNat (by omega) (by rw [e3]; omega)).2.2.2.2
        rw [ev]
        by_cases c3 : (rBa t l n.toNat j).2 < rBaS t l n.toNat (j + 1) 422 (6 + 5 * l.toNat + 4)
        · rw [if_pos c3, if_pos ⟨⟨c1, c2⟩, c3⟩]
        · rw [if_neg c3, if_neg (fun q => c3 q.2)]
      · have hLB : ¬ fLB (fBaS s l n j) l j := by
          intro q
          apply q.2.2
          show f_X5_take (fBaS s l n j) 358 344 (358 + 3 + j) 5 ≤ 0
          rw [elj]; omega
        have ev : fBaV s l n j = -1000000 := by
          unfold fBaV v_lbb
          rw [if_neg c1, if_neg hLB]
        rw [ev, if_neg (by omega), if_neg (fun q => c2 q.1.2)]
theorem o_bait {s t : jz_St} (h : H3 s t) (l n w : Int) : v_X7_bait s l n w = v_X8_bait t l n w ∧ OK s t (f_X7_bait s l n w) (f_X8_bait t l n w) := by
  have hn := H3_n h
  unfold v_X7_bait v_X8_bait f_X7_bait f_X8_bait
  by_cases c : (0 ≤ l ∧ l < t 420 3) ∧ (1 ≤ n ∧ n ≤ 30) ∧ 0 ≤ w ∧ w ≤ 1
  · rw [if_pos (show (0 ≤ l ∧ l < s 344 2 ∧ l < 7) ∧ (1 ≤ n ∧ n ≤ 30) ∧ 0 ≤ w ∧ w ≤ 1 by omega), if_pos (show (0 ≤ l ∧ l < s 344 2 ∧ l < 7) ∧ (1 ≤ n ∧ n ≤ 30) ∧ 0 ≤ w ∧ w ≤ 1 by omega), if_pos (show (0 ≤ l ∧ l ≤ t 420 3 - 1) ∧ (1 ≤ n ∧ n ≤ 30) ∧ 0 ≤ w ∧ w ≤ 1 by omega), if_pos (show (0 ≤ l ∧ l ≤ t 420 3 - 1) ∧ (1 ≤ n ∧ n ≤ 30) ∧ 0 ≤ w ∧ w ≤ 1 by omega)]
    have e := baS_e h (l := l) (n := n) (by omega) (by omega) (t 420 3).toNat (by omega)
    rw [hn.1.1, e]
    exact ⟨rfl, OK_t h (fun x hx => fBaS_off hx _) (fun x h1 h2 h3 => baS_o t l _ h1 h2 h3 _)⟩
  · rw [if_neg (show ¬ ((0 ≤ l ∧ l < s 344 2 ∧ l < 7) ∧ (1 ≤ n ∧ n ≤ 30) ∧ 0 ≤ w ∧ w ≤ 1) by omega), if_neg (show ¬ ((0 ≤ l ∧ l < s 344 2 ∧ l < 7) ∧ (1 ≤ n ∧ n ≤ 30) ∧ 0 ≤ w ∧ w ≤ 1) by omega), if_neg (show ¬ ((0 ≤ l ∧ l ≤ t 420 3 - 1) ∧ (1 ≤ n ∧ n ≤ 30) ∧ 0 ≤ w ∧ w ≤ 1) by omega), if_neg (show ¬ ((0 ≤ l ∧ l ≤ t 420 3 - 1) ∧ (1 ≤ n ∧ n ≤ 30) ∧ 0 ≤ w ∧ w ≤ 1) by omega)]
    exact ⟨rfl, OK_id h⟩
-- safe heights
theorem sa_off {l n : Int} {x : Nat} (hl : l < 7) (hx : jOff 358 x) : ∀ (m i : Nat) (s : jz_St), (fSa l n s i m).2 x = s x := by
  intro m
  induction m with
  | zero => intro i s; rfl
  | succ m ih =>
    intro i s
    simp only [fSa]
    split
    · exact fSaS_off hl hx
    · rw [ih, fSaS_off hl hx]
theorem msa_off {l : Int} {n x : Nat} (h1 : x ≠ 422) (h2 : x ≠ 425) (h3 : x ≠ 426) : ∀ (m i : Nat) (t : jz_St), (rSa t l n i m).2 x = t x := by
  intro m
  induction m with
  | zero => intro i s; rfl
  | succ m ih =>
    intro i s
    simp only [rSa]
    split
    · show f_X8_hoursOf (rSaA s l i) 422 n x = s x
      rw [hoursOf_o h1 h2 h3, saA_o _ _ _ h1]
    · rw [ih, hoursOf_o h1 h2 h3, saA_o _ _ _ h1]
theorem sa_e {s t : jz_St} (h : H3 s t) {l n : Int} (hl : 0 ≤ l ∧ l < t 420 3) : ∀ (m i : Nat) (s1 t1 : jz_St), i + m ≤ 10 → (∀ x, jOff 358 x → s1 x = s x) → t1 420 = t 420 → (fSa l n s1 i m).1 = (rSa t1 l n.toNat i m).1 := by
  have hh := H3_n h
  intro m
  induction m with
  | zero => intro i s1 t1 _ _ _; rfl
  | succ m ih =>
    intro i s1 t1 hi hs ht
    have hB := att_B h hs ht n.toNat (l := l.toNat) (w := 2) (z := (i : Int)) (by omega) (by omega) (by omega) (by omega) (by rw [hi_2 _ _ (by omega)]; omega) (by omega)
    have e6 : jz_su (f_X5_take s1 358 344) (358 + 3 + l.toNat) 3 (i : Int) (358 + 3 + l.toNat) 6 = 0 := by
      rw [jz_su_f (by decide)]; exact take_leaf6 s1 (by omega) (by omega)
    have e := (hours6 hB.1 hB.2.1 (l := l.toNat) (by omega) e6 n.toNat).1
    rw [show ((l.toNat : Nat) : Int) = l by omega] at e
    have e2 : fSaS s1 l n i (358 + 3 + l.toNat) 6 = rBs (rSaA t1 l i) l n.toNat := e
    simp only [fSa, rSa]
    rw [e2]
    by_cases c : rBs (rSaA t1 l i) l n.toNat = 0
    · rw [if_pos c, if_pos c]
    · rw [if_neg c, if_neg c]
      exact ih (i + 1) _ _ (by omega) (fun x hx => by rw [fSaS_off (by omega) hx]; exact hs x hx) (by rw [hoursOf_o (by decide) (by decide) (by decide), saA_o _ _ _ (by decide)]; exact ht)
theorem o_safeHeight {s t : jz_St} (h : H3 s t) (l n : Int) : v_X7_safeHeight s l n = v_X8_safeHeight t l n ∧ OK s t (f_X7_safeHeight s l n) (f_X8_safeHeight t l n) := by
  have hn := H3_n h
  unfold v_X7_safeHeight v_X8_safeHeight f_X7_safeHeight f_X8_safeHeight
  by_cases c : (0 ≤ l ∧ l < t 420 3) ∧ 1 ≤ n ∧ n ≤ 60
  · have h5 := h.1.2.1.2.1 l.toNat (by omega) (by omega)
    have h6 := mRw_l h.2.1.2.1.1 l.toNat (by omega)
    rw [if_pos (show (0 ≤ l ∧ l < s 344 2 ∧ l < 7) ∧ 1 ≤ n ∧ n ≤ 60 by omega), if_pos (show (0 ≤ l ∧ l < s 344 2 ∧ l < 7) ∧ 1 ≤ n ∧ n ≤ 60 by omega), if_pos (show (0 ≤ l ∧ l ≤ t 420 3 - 1) ∧ 1 ≤ n ∧ n ≤ 60 by omega), if_pos (show (0 ≤ l ∧ l ≤ t 420 3 - 1) ∧ 1 ≤ n ∧ n ≤ 60 by omega), h5.2.2.2.2]
    by_cases c2 : t 420 (6 + 5 * l.toNat + 4) = 0
    · rw [if_pos (show t 420 (6 + 5 * l.toNat + 4) ≤ 0 by omega), if_pos (show t 420 (6 + 5 * l.toNat + 4) ≤ 0 by omega), if_pos c2, if_pos c2]
      exact ⟨rfl, OK_id h⟩
    · rw [if_neg (show ¬ t 420 (6 + 5 * l.toNat + 4) ≤ 0 by omega), if_neg (show ¬ t 420 (6 + 5 * l.toNat + 4) ≤ 0 by omega), if_neg c2, if_neg c2]
      exact ⟨sa_e h (by omega) 10 0 s t (by omega) (fun _ _ => rfl) rfl, OK_t h (fun x hx => sa_off (by omega) hx _ _ _) (fun x h1 h2 h3 => msa_off h1 h2 h3 _ _ _)⟩
  · rw [if_neg (show ¬ ((0 ≤ l ∧ l < s 344 2 ∧ l < 7) ∧ 1 ≤ n ∧ n ≤ 60) by omega), if_neg (show ¬ ((0 ≤ l ∧ l < s 344 2 ∧ l < 7) ∧ 1 ≤ n ∧ n ≤ 60) by omega), if_neg (show ¬ ((0 ≤ l ∧ l ≤ t 420 3 - 1) ∧ 1 ≤ n ∧ n ≤ 60) by omega), if_neg (show ¬ ((0 ≤ l ∧ l ≤ t 420 3 - 1) ∧ 1 ≤ n ∧ n ≤ 60) by omega)]
    exact ⟨rfl, OK_id h⟩
