theorem bad_no {t : jz_St} {k : Int} (h : t 416 16 ≠ 0) : f_X8_bad t k = t := by
  unfold f_X8_bad
  rw [if_neg h]
theorem rL_f {s : jz_St} (h : ¬ s 2 6 = 0) (i m : Nat) : f_X6_rL s 358 i m = s := by
  cases m with
  | zero => rfl
  | succ m => simp only [f_X6_rL]; rw [if_neg (fun x => h x.1)]
theorem rG_f {s : jz_St} (h : ¬ s 2 6 = 0) (i m : Nat) : f_X6_rG s 358 i m = s := by
  cases m with
  | zero => rfl
  | succ m => simp only [f_X6_rG]; rw [if_neg (fun x => h x.1)]
theorem gB_all {u : Nat → Int} {s t : jz_St} (hu : ∀ p, u p = -1 ∨ 0 ≤ u p) (h1 : fBn s = u) (h2 : mBn t = u) (hT : cT s) :
    gB u (f_X6_readInto s 358) (f_X8_fail1 (f_X8_sqG t)) ∧ (f_X6_readInto s 358 2 6 = 0 → 1 ≤ f_X8_fail1 (f_X8_sqG t) 421 4 ∧ 1 ≤ f_X8_fail1 (f_X8_sqG t) 421 3) := by
  have hd := gS_head hu h1 h2 hT
  have hB : gB u (f_X6_rH s 358) (f_X8_sqD t) := ⟨hd.1, hd.2.1, rH_ct (by decide), by rw [hd.2.2.1]; decide, by rw [hd.2.2.2]; decide⟩
  have h3 := hd.2.2.1
  have h4 := hd.2.2.2
  unfold f_X6_readInto f_X8_sqG
  have hL : gB u (f_X6_rL (f_X6_rH s 358) 358 0 8) (f_X8_rL (f_X8_sqE t) 9) ∧ (f_X6_rL (f_X6_rH s 358) 358 0 8 2 6 = 0 → 1 ≤ f_X8_rL (f_X8_sqE t) 9 421 3) ∧ f_X8_rL (f_X8_sqE t) 9 421 4 = 0 := by
    unfold f_X8_sqE
    generalize f_X6_rH s 358 = a at hB ⊢
    generalize f_X8_sqD t = b at hB h3 h4 ⊢
    by_cases h6 : a 2 6 = 0
    · have hs := isSort_e hB.1.1 h6
      by_cases e : fSort (a 2 4) = 0
      · have hb := gB_bad hB h6 (k := 1) (by decide)
        have hb16 : f_X8_bad b 1 416 16 ≠ 0 := bad_16 b 1 (by decide)
        have ec : f_X6_readLeaf a 358 = jz_su a 2 6 1 := by
          unfold f_X6_readLeaf
          simp only
          rw [if_pos e]
        rw [if_pos (hs.2 e), rL_m0 (isSort_0 hb16), show f_X6_rL a 358 0 8 = if a 2 6 = 0 ∧ (0 = 0 ∨ fSort (a 2 4) ≠ 0) then f_X6_rL (f_X6_readLeaf a 358) 358 1 7 else a from rfl, if_pos ⟨h6, Or.inl rfl⟩, ec, rL_f (by rw [jz_su_s]; decide)]
        exact ⟨hb, fun x => by rw [jz_su_s] at x; exact absurd x (by decide), by rw [bad_o _ _ (by decide)]; exact h4⟩
      · have hl := gB_leaf hu hB h6 e
        have hr := gB_rL hu 7 1 _ _ (by omega) (by omega) hl.1 (fun x => by have := hl.2.1 x; omega) (by rw [hl.2.2]; exact h4)
        rw [if_neg (fun x => e (hs.1 x)), show f_X6_rL a 358 0 8 = if a 2 6 = 0 ∧ (0 = 0 ∨ fSort (a 2 4) ≠ 0) then f_X6_rL (f_X6_readLeaf a 358) 358 1 7 else a from rfl, if_pos ⟨h6, Or.inl rfl⟩, show f_X8_rL b 9 = if v_X8_isSort b = 0 then b else f_X8_rL (f_X8_readLeaf b) 8 from rfl, if_neg (fun x => e (hs.1 x))]
        exact hr
    · have h16 : b 416 16 ≠ 0 := by have := pS_f0 hB.1.1; omega
      rw [if_pos (isSort_0 h16), bad_no h16, rL_m0 (isSort_0 h16), rL_f h6]
      exact ⟨hB, fun x => absurd x h6, h4⟩
  unfold f_X8_sqF
  generalize f_X6_rL (f_X6_rH s 358) 358 0 8 = a at hL ⊢
  generalize f_X8_rL (f_X8_sqE t) 9 = b at hL ⊢
  obtain ⟨hB, hc, h4⟩ := hL
  by_cases h6 : a 2 6 = 0
  · have h16 : b 416 16 = 0 := by have := pS_f0 hB.1.1; omega
    have hs := isG_e hB.1.1 h6
    have e3 := hc h6
    by_cases e : a 2 4 = 103
    · have hl := gB_goat hu hB h6 e
      have hr := gB_rG hu 4 1 _ _ (by omega) (by omega) hl.1 (fun x => by have := hl.2.1 x; rw [hl.2.2]; omega)
      rw [if_neg (fun x => hs.1.1 x e), show f_X6_rG a 358 0 5 = if a 2 6 = 0 ∧ (0 = 0 ∨ a 2 4 ≠ -1) then f_X6_rG (f_X6_readGoat a 358) 358 1 4 else a from rfl, if_pos ⟨h6, Or.inl rfl⟩, show f_X8_rG b 6 = if v_X8_isLetter b 103 = 0 then b else f_X8_rG (f_X8_readGoat b) 5 from rfl, if_neg (fun x => hs.1.1 x e)]
      exact hr
    · have hb := gB_bad hB h6 (k := 1) (by decide)
      have hb16 : f_X8_bad b 1 416 16 ≠ 0 := bad_16 b 1 (by decide)
      have ec : f_X6_readGoat a 358 = jz_su a 2 6 1 := by
        unfold f_X6_readGoat
        simp only
        rw [if_neg e]
      rw [if_pos (hs.1.2 e), rG_m0 (isG_0 hb16), fail1_0 (fun x => hb16 x.1), show f_X6_rG a 358 0 5 = if a 2 6 = 0 ∧ (0 = 0 ∨ a 2 4 ≠ -1) then f_X6_rG (f_X6_readGoat a 358) 358 1 4 else a from rfl, if_pos ⟨h6, Or.inl rfl⟩, ec, rG_f (by rw [jz_su_s]; decide)]
      exact ⟨hb, fun x => by rw [jz_su_s] at x; exact absurd x (by decide)⟩
  · have h16 : b 416 16 ≠ 0 := by have := pS_f0 hB.1.1; omega
    rw [if_pos (isG_0 h16), bad_no h16, rG_m0 (isG_0 h16), fail1_0 (fun x => h16 x.1), rG_f h6]
    exact ⟨hB, fun x => absurd x h6⟩
/-! what reading leaves alone -/
theorem rLx {x : Nat} (h2 : x ≠ 2) (hx : jOff 358 x) : ∀ (m i : Nat) (s : jz_St), jCt s 358 → f_X6_rL s 358 i m x = s x ∧ jCt (f_X6_rL s 358 i m) 358 := by
  intro m
  induction m with
  | zero => intro i s h; exact ⟨rfl, h⟩
  | succ m ih =>
    intro i s h
    simp only [f_X6_rL]
    split
    · have h1 := ih (i + 1) _ (readLeaf_ct (by decide) h)
      exact ⟨h1.1.trans (rl_x h h2 (by unfold jOff at hx; omega)), h1.2⟩
    · exact ⟨rfl, h⟩
theorem rGx {x : Nat} (h2 : x ≠ 2) (hx : jOff 358 x) : ∀ (m i : Nat) (s : jz_St), jCt s 358 → f_X6_rG s 358 i m x = s x := by
  intro m
  induction m with
  | zero => intro i s h; rfl
  | succ m ih =>
    intro i s h
    simp only [f_X6_rG]
    split
    · exact (ih (i + 1) _ (readGoat_ct (by decide) h)).trans (rg_x h h2 (by unfold jOff at hx; omega))
    · rfl
theorem rHx {s : jz_St} {x : Nat} (h2 : x ≠ 2) (hx : jOff 358 x) : f_X6_rH s 358 x = s x := by
  have h358 : x ≠ 358 := by unfold jOff at hx; omega
  unfold f_X6_rH
  (try simp only)
  rw [tS_o _ _ h2, jz_su_o h358, tN_o _ _ _ h2, tS_o _ _ h2, jz_su_o h358, tN_o _ _ _ h2, tS_o _ _ h2, adv_o _ h2, jz_su_o h2, jz_su_o h2, clear_o s 358 (by unfold jOff at hx; omega)]
theorem rIx {s : jz_St} {x : Nat} (h2 : x ≠ 2) (hx : jOff 358 x) : f_X6_readInto s 358 x = s x := by
  unfold f_X6_readInto
  have h1 := rLx h2 hx 8 0 (f_X6_rH s 358) (rH_ct (by decide))
  rw [rGx h2 hx 5 0 _ h1.2, h1.1, rHx h2 hx]
theorem rI_tk {s : jz_St} (h : jTk s) : jTk (f_X6_readInto s 358) := by
  have hL : ∀ (m i : Nat) (s : jz_St), jTk s → jTk (f_X6_rL s 358 i m) := by
    intro m
    induction m with
    | zero => intro i s h; exact h
    | succ m ih =>
      intro i s h
      simp only [f_X6_rL]
      split
      · exact ih _ _ (readLeaf_tk (by decide) h)
      · exact h
  have hG : ∀ (m i : Nat) (s : jz_St), jTk s → jTk (f_X6_rG s 358 i m) := by
    intro m
    induction m with
    | zero => intro i s h; exact h
    | succ m ih =>
      intro i s h
      simp only [f_X6_rG]
      split
      · exact ih _ _ (readGoat_tk (by decide) h)
      · exact h
  unfold f_X6_readInto
  exact hG _ _ _ (hL _ _ _ (rH_tk (by decide) h))
def mfr (i : Nat) : Prop := i ≠ 12 ∧ i ≠ 13 ∧ i ≠ 14 ∧ i ≠ 15 ∧ i ≠ 16 ∧ i ≠ 17
theorem next_m (t : jz_St) {i : Nat} (h : mfr i) : f_X8_next t 416 i = t 416 i := next_n t (by unfold mfr at h; omega)
theorem bad_m (t : jz_St) (k : Int) {i : Nat} (h : mfr i) : f_X8_bad t k 416 i = t 416 i := by
  unfold mfr at h
  unfold f_X8_bad
  split
  · rw [jz_su_f (by omega), jz_su_f (by omega)]
  · rfl
theorem must_m (t : jz_St) (k : Int) {i : Nat} (h : mfr i) : f_X8_must t k 416 i = t 416 i := by
  unfold f_X8_must
  (repeat' split) <;> first | rfl | exact bad_m t 1 h | exact next_m t h
theorem sign_m (t : jz_St) (k : Int) {i : Nat} (h : mfr i) : f_X8_sign t k 416 i = t 416 i := must_m t _ h
theorem number_m (t : jz_St) (lo hi : Int) {i : Nat} (h : mfr i) : f_X8_number t lo hi 416 i = t 416 i := by
  unfold f_X8_number
  (repeat' split) <;> first | rfl | exact bad_m t _ h | exact next_m t h
theorem rlD_m (t : jz_St) {i : Nat} (h : mfr i) : f_X8_rlD t 416 i = t 416 i := by
  unfold f_X8_rlD f_X8_rlC f_X8_rlB f_X8_rlA
  rw [sign_m _ _ h, number_m _ _ _ h, sign_m _ _ h, number_m _ _ _ h, sign_m _ _ h, number_m _ _ _ h, must_m _ _ h]
  split
  · exact bad_m t 3 h
  · rfl
theorem rgC_m (t : jz_St) {i : Nat} (h : mfr i) : f_X8_rgC t 416 i = t 416 i := by
  unfold f_X8_rgC f_X8_rgB f_X8_rgA f_X8_gt0
  rw [sign_m _ _ h, number_m _ _ _ h, sign_m _ _ h, number_m _ _ _ h, must_m _ _ h]
  split
  · exact bad_m t 3 h
  · rfl
theorem readLeaf_m (t : jz_St) {i : Nat} (h : mfr i) : f_X8_readLeaf t 416 i = t 416 i := by
  unfold f_X8_readLeaf
  split
  · unfold f_X8_lfW
    (try simp only)
    rw [jz_su_o (by decide), jz_su_o (by decide), jz_su_o (by decide), jz_su_o (by decide), jz_su_o (by decide), jz_su_o (by decide), rlD_m t h]
  · exact rlD_m t h
theorem readGoat_m (t : jz_St) {i : Nat} (h : mfr i) : f_X8_readGoat t 416 i = t 416 i := by
  unfold f_X8_readGoat
  split
  · unfold f_X8_gtW
    (try simp only)
    rw [jz_su_o (by decide), jz_su_o (by decide), jz_su_o (by decide), rgC_m t h]
  · exact rgC_m t h
theorem readLeaf_oo (t : jz_St) {x : Nat} (h : x ≠ 416) (h2 : x ≠ 421) : f_X8_readLeaf t x = t x := by
  unfold f_X8_readLeaf
  split
  · unfold f_X8_lfW
    (try simp only)
    rw [jz_su_o h2, jz_su_o h2, jz_su_o h2, jz_su_o h2, jz_su_o h2, jz_su_o h2, rlD_o t h]
  · exact rlD_o t h
theorem readGoat_oo (t : jz_St) {x : Nat} (h : x ≠ 416) (h2 : x ≠ 421) : f_X8_readGoat t x = t x := by
  unfold f_X8_readGoat
  split
  · unfold f_X8_gtW
    (try simp only)
    rw [jz_su_o h2, jz_su_o h2, jz_su_o h2, rgC_o t h]
  · exact rgC_o t h
theorem rLm {i : Nat} (h : mfr i) : ∀ (m : Nat) (t : jz_St), f_X8_rL t m 416 i = t 416 i := by
  intro m
  induction m with
  | zero => intro t; rfl
  | succ m ih =>
    intro t
    simp only [f_X8_rL]
    split
    · rfl
    · rw [ih, readLeaf_m t h]
theorem rGm {i : Nat} (h : mfr i) : ∀ (m : Nat) (t : jz_St), f_X8_rG t m 416 i = t 416 i := by
  intro m
  induction m with
  | zero => intro t; rfl
  | succ m ih =>
    intro t
    simp only [f_X8_rG]
    split
    · rfl
    · rw [ih, readGoat_m t h]
theorem rLoo {x : Nat} (h : x ≠ 416) (h2 : x ≠ 421) : ∀ (m : Nat) (t : jz_St), f_X8_rL t m x = t x := by
  intro m
  induction m with
  | zero => intro t; rfl
  | succ m ih =>
    intro t
    simp only [f_X8_rL]
    split
    · rfl
    · rw [ih, readLeaf_oo t h h2]
theorem rGoo {x : Nat} (h : x ≠ 416) (h2 : x ≠ 421) : ∀ (m : Nat) (t : jz_St), f_X8_rG t m x = t x := by
  intro m
  induction m with
  | zero => intro t; rfl
  | succ m ih =>
    intro t
    simp only [f_X8_rG]
    split
    · rfl
    · rw [ih, readGoat_oo t h h2]
theorem sqG_m (t : jz_St) {i : Nat} (h : mfr i) : f_X8_sqG t 416 i = t 416 i := by
  have hE : f_X8_sqE t 416 i = t 416 i := by
    have hD : f_X8_sqD t 416 i = t 416 i := by
      unfold f_X8_sqD
      rw [sign_m _ _ h, jz_su_o (by decide), number_m _ _ _ h]
      unfold f_X8_sqC
      rw [sign_m _ _ h, jz_su_o (by decide), number_m _ _ _ h]
      unfold f_X8_sqB
      rw [must_m _ _ h]
      unfold f_X8_sqA f_X8_begin
      rw [jz_su_o (by decide), zf_o _ (by decide), next_m _ h]
      unfold mfr at h
      rw [jz_su_f (by omega), jz_su_f (by omega)]
    unfold f_X8_sqE
    split
    · rw [bad_m _ _ h]; exact hD
    · exact hD
  unfold f_X8_sqG
  rw [rGm h]
  unfold f_X8_sqF
  split
  · rw [bad_m _ _ h, rLm h]; exact hE
  · rw [rLm h]; exact hE
theorem sqG_o (t : jz_St) {x : Nat} (h : x ≠ 416) (h2 : x ≠ 421) : f_X8_sqG t x = t x := by
  have hE : f_X8_sqE t x = t x := by
    have hD : f_X8_sqD t x = t x := by
      unfold f_X8_sqD
      rw [sign_o _ _ h, jz_su_o h2, number_o _ _ _ h]
      unfold f_X8_sqC
      rw [sign_o _ _ h, jz_su_o h2, number_o _ _ _ h]
      unfold f_X8_sqB
      rw [must_o _ _ h]
      unfold f_X8_sqA f_X8_begin
      rw [jz_su_o h2, zf_o _ h2, next_o _ h, jz_su_o h, jz_su_o h]
    unfold f_X8_sqE
    split
    · rw [bad_o _ _ h]; exact hD
    · exact hD
  unfold f_X8_sqG
  rw [rGoo h h2]
  unfold f_X8_sqF
  split
  · rw [bad_o _ _ h, rLoo h h2]; exact hE
  · rw [rLoo h h2]; exact hE
theorem fail1_m (t : jz_St) {i : Nat} (h : mfr i) : f_X8_fail1 t 416 i = t 416 i := by
  unfold f_X8_fail1
  split
  · exact bad_m t 1 h
  · rfl
theorem fail1_o (t : jz_St) {x : Nat} (h : x ≠ 416) : f_X8_fail1 t x = t x := by
  unfold f_X8_fail1
  split
  · exact bad_o t 1 h
  · rfl
