/-! rows -/
theorem OK_rows {s t s' t' : jz_St} (h : H3 s t) (hs : ∀ x, x < 400 ∨ 416 ≤ x → s' x = s x) (ht : ∀ x, x ≠ 417 → x ≠ 418 → x ≠ 419 → t' x = t x) (hr : cRg s' t') (hl : mLn t') (hlen : ∀ j, j < 8 → 0 ≤ s' (400 + 2 * j) 3 ∧ s' (400 + 2 * j) 3 ≤ 40) : OK s t s' t' := by
  obtain ⟨⟨h1, h2, h3, h4, h5, h6, h7⟩, ⟨m1, m2, m3, m4, m5⟩, c1, c2, c3⟩ := h
  have p : ∀ x, x < 417 ∨ 420 ≤ x → t' x = t x := fun x hx => ht x (by omega) (by omega) (by omega)
  have p416 := p 416 (by decide)
  refine ⟨⟨⟨?_, ?_, hr, ?_, ?_, ?_, ?_⟩, ⟨⟨hl, ?_, ?_, ?_⟩, ?_, ?_, ?_, ?_⟩, ⟨?_, ?_, ?_, ?_, ?_, hlen⟩, ?_, ?_⟩, ?_, ?_⟩
  · rw [hs 0 (by decide), p416]; exact h1
  · rw [p 420 (by decide)]; exact jR_sq h2 (fun x hx hx2 => hs x (by omega))
  · unfold cTp; rw [hs 2 (by decide), hs 3 (by decide), p416, p 424 (by decide)]; exact h4
  · unfold cPs
    rw [hs 4 (by decide), p416, p 423 (by decide)]
    refine ⟨h5.1, h5.2.1, fun i hi => ?_⟩
    rw [slot_e (hs 4 (by decide))]
    have := slot_lt s i
    exact jR_sq (h5.2.2 i hi) (fun x hx hx2 => hs x (by omega))
  · intro j hj
    rw [p 427 (by decide), p 428 (by decide), hs _ (by omega)]
    exact ⟨(h6 j hj).1, fun q => jR_sq ((h6 j hj).2 q) (fun x hx hx2 => hs x (by omega))⟩
  · unfold cNo; rw [hs 342 (by decide), hs 343 (by decide), p416, p 429 (by decide)]; exact h7
  · rw [p 420 (by decide)]; exact m1.2.1
  · rw [p416]; exact m1.2.2.1
  · rw [p416]; exact m1.2.2.2
  · rw [p 420 (by decide)]; exact m2
  · unfold mTp; rw [p416, p 424 (by decide)]; exact m3
  · unfold mWs; rw [p416, p 423 (by decide)]; exact m4
  · unfold mIm; rw [p 427 (by decide), p 428 (by decide)]; exact m5
  · rw [hs 344 (by decide)]; exact jRng_off c1.1 (fun x hx hx2 => hs x (by omega))
  · rw [hs 344 (by decide)]; exact c1.2.1
  · rw [hs 4 (by decide)]; exact c1.2.2.1
  · rw [hs 4 (by decide)]; exact c1.2.2.2.1
  · unfold jTk; rw [hs 2 (by decide)]; exact c1.2.2.2.2.1
  · intro i hi
    rw [hs 4 (by decide)] at hi
    rw [slot_e (hs 4 (by decide))]
    have := slot_lt s i
    exact jRng_off (c2 i hi) (fun x hx hx2 => hs x (by omega))
  · intro i hi hp
    rw [hs _ (by omega)] at hp
    exact jRng_off (c3 i hi hp) (fun x hx hx2 => hs x (by omega))
  · intro x hx; exact hs x (by omega)
  · intro x hx; exact p x (by omega)
theorem beginL_o (s : jz_St) (a : Nat) {x : Nat} (hx : x ≠ a + 1) : ∀ j, f_X4_beginL s a j x = s x := by
  intro j
  induction j with
  | zero => rfl
  | succ j ih => simp only [f_X4_beginL]; rw [jz_su_o hx, ih]
theorem beginL_in (s : jz_St) (a : Nat) : ∀ j i, i < j → f_X4_beginL s a j (a + 1) i = 0 := by
  intro j
  induction j with
  | zero => intro i hi; omega
  | succ j ih =>
    intro i hi
    simp only [f_X4_beginL]
    by_cases e : i = j
    · subst e; rw [jz_su_s]
    · rw [jz_su_f e]; exact ih i (by omega)
theorem zr_in (s : jz_St) (a : Nat) : ∀ j i, f_X8_zr s a j 419 i = if a ≤ i ∧ i < a + j then 0 else s 419 i := by
  intro j
  induction j with
  | zero => intro i; rw [if_neg (by omega)]; rfl
  | succ j ih =>
    intro i
    simp only [f_X8_zr]
    by_cases e : i = a + j
    · subst e; rw [jz_su_s, if_pos (by omega)]
    · rw [jz_su_f e, ih]
      by_cases q : a ≤ i ∧ i < a + j
      · rw [if_pos q, if_pos (by omega)]
      · rw [if_neg q, if_neg (by omega)]
theorem o_row {s t : jz_St} (h : H3 s t) (r l n : Int) : v_X7_row s r l n = v_X8_row t r l n ∧ OK s t (f_X7_row s r l n) (f_X8_row t r l n) := by
  unfold v_X7_row v_X8_row f_X7_row f_X8_row
  by_cases c : (0 ≤ r ∧ r < 8) ∧ (0 ≤ l ∧ l ≤ 2) ∧ n ≤ 40
  · have c' : (0 ≤ r ∧ r ≤ 7) ∧ (0 ≤ l ∧ l ≤ 2) ∧ n ≤ 40 := by omega
    rw [if_pos c, if_pos c, if_pos c', if_pos c']
    by_cases c2 : n < 0
    · rw [if_pos c2, if_pos c2, if_pos c2, jz_su_su]; exact ⟨rfl, OK_st h 4⟩
    · rw [if_neg c2, if_neg c2, if_neg c2]
      refine ⟨rfl, OK_tr (OK_st h 0) ?_⟩
      have h2 := CR_st h 0
      obtain ⟨R, hR⟩ : ∃ R : Nat, R = r.toNat := ⟨_, rfl⟩
      have hR8 : R < 8 := by omega
      rw [← hR]
      have b0 : ∀ i, i ≠ 1 → i ≠ 2 → i ≠ 3 → f_X4_begin (jz_su s 0 8 0) (400 + 2 * R) l n (400 + 2 * R) i = jz_su s 0 8 0 (400 + 2 * R) i := by
        intro i i1 i2 i3
        unfold f_X4_begin
        rw [beginL_o _ _ (by omega), jz_su_f i3, jz_su_f i2, jz_su_f i1]
      have bo : ∀ x, x ≠ 400 + 2 * R → x ≠ 400 + 2 * R + 1 → f_X4_begin (jz_su s 0 8 0) (400 + 2 * R) l n x = jz_su s 0 8 0 x := by
        intro x h1 h2
        unfold f_X4_begin
        rw [beginL_o _ _ h2, jz_su_o h1, jz_su_o h1, jz_su_o h1]
      have b1 : f_X4_begin (jz_su s 0 8 0) (400 + 2 * R) l n (400 + 2 * R) 1 = 1 := by
        unfold f_X4_begin
        rw [beginL_o _ _ (by omega), jz_su_f (by decide), jz_su_f (by decide), jz_su_s]
      have b2 : f_X4_begin (jz_su s 0 8 0) (400 + 2 * R) l n (400 + 2 * R) 2 = l := by
        unfold f_X4_begin
        rw [beginL_o _ _ (by omega), jz_su_f (by decide), jz_su_s]
      have b3 : f_X4_begin (jz_su s 0 8 0) (400 + 2 * R) l n (400 + 2 * R) 3 = n := by
        unfold f_X4_begin
        rw [beginL_o _ _ (by omega), jz_su_s]
      have m17 : ∀ i, f_X8_zr (jz_su (jz_su (jz_su t 416 1 0) 417 R l) 418 R n) (40 * R) 40 417 i = if i = R then l else t 417 i := by
        intro i
        rw [f_X8_zr_o _ _ (by decide), jz_su_o (by decide)]
        by_cases e : i = R
        · subst e; rw [jz_su_s, if_pos rfl]
        · rw [jz_su_f e, if_neg e, jz_su_o (by decide)]
      have m18 : ∀ i, f_X8_zr (jz_su (jz_su (jz_su t 416 1 0) 417 R l) 418 R n) (40 * R) 40 418 i = if i = R then n else t 418 i := by
        intro i
        rw [f_X8_zr_o _ _ (by decide)]
        by_cases e : i = R
        · subst e; rw [jz_su_s, if_pos rfl]
        · rw [jz_su_f e, if_neg e, jz_su_o (by decide), jz_su_o (by decide)]
      have m19 : ∀ i, f_X8_zr (jz_su (jz_su (jz_su t 416 1 0) 417 R l) 418 R n) (40 * R) 40 419 i = if 40 * R ≤ i ∧ i < 40 * R + 40 then 0 else t 419 i := by
        intro i
        rw [zr_in, jz_su_o (by decide), jz_su_o (by decide), jz_su_o (by decide)]
      refine OK_rows h2 (fun x hx => bo x (by omega) (by omega)) (fun x h1 h2 h3 => by rw [f_X8_zr_o _ _ h3, jz_su_o h2, jz_su_o h1]) ?_ ?_ ?_
      · intro i hi
        rw [m17, m18]
        by_cases e : i = R
        · subst e
          rw [if_pos rfl, if_pos rfl, b1, b2, b3, if_neg (by omega)]
          refine ⟨rfl, fun _ => ⟨rfl, rfl, fun j hj => ?_⟩⟩
          rw [m19, if_pos (by omega)]
          unfold f_X4_begin
          exact beginL_in _ _ 40 j hj
        · rw [if_neg e, if_neg e, bo _ (by omega) (by omega), bo (400 + 2 * i + 1) (by omega) (by omega), jz_su_o (by omega), jz_su_o (by omega)]
          have h3 := h.1.2.2.1 i hi
          refine ⟨h3.1, fun q => ⟨(h3.2 q).1, (h3.2 q).2.1, fun j hj => ?_⟩⟩
          rw [m19, if_neg (by omega)]
          exact (h3.2 q).2.2 j hj
      · refine ⟨?_, fun i hi => ?_⟩
        · rw [f_X8_zr_o _ _ (by decide), jz_su_o (by decide), jz_su_o (by decide), jz_su_f (by decide)]
          exact h.2.1.1.1.1
        · rw [m17, m18]
          have h3 := h.2.1.1.1.2 i hi
          by_cases e : i = R
          · rw [if_pos e, if_pos e]; omega
          · rw [if_neg e, if_neg e]; exact h3
      · intro i hi
        by_cases e : i = R
        · subst e; rw [b3]; omega
        · rw [bo _ (by omega) (by omega), jz_su_o (by omega)]; exact h.2.2.1.2.2.2.2.2 i hi
  · have c' : ¬ ((0 ≤ r ∧ r ≤ 7) ∧ (0 ≤ l ∧ l ≤ 2) ∧ n ≤ 40) := by omega
    rw [if_neg c, if_neg c, if_neg c', if_neg c']; exact ⟨rfl, OK_id h⟩
/-- items of one row change alike -/
theorem OK_items {s t s' t' : jz_St} (h : H3 s t) {R : Nat} (hR : R < 8) (hs : ∀ x, x ≠ 400 + 2 * R + 1 → s' x = s x) (ht : ∀ x, x ≠ 419 → t' x = t x) (hi : 0 ≤ t 417 R → ∀ i, i < 40 → s' (400 + 2 * R + 1) i = t' 419 (40 * R + i)) (ho : ∀ i, i < 40 * R ∨ 40 * R + 40 ≤ i → t' 419 i = t 419 i) : OK s t s' t' := by
  refine OK_rows h (fun x hx => hs x (by omega)) (fun x h1 h2 h3 => ht x h3) ?_ ?_ ?_
  · intro r hr
    have h3 := h.1.2.2.1 r hr
    rw [ht 417 (by decide), ht 418 (by decide), hs (400 + 2 * r) (by omega)]
    refine ⟨h3.1, fun q => ⟨(h3.2 q).1, (h3.2 q).2.1, fun i hi2 => ?_⟩⟩
    by_cases e : r = R
    · subst e; exact hi q i hi2
    · rw [hs _ (by omega), ho _ (by omega)]; exact (h3.2 q).2.2 i hi2
  · unfold mLn; rw [ht 416 (by decide), ht 417 (by decide), ht 418 (by decide)]; exact h.2.1.1.1
  · intro j hj; rw [hs _ (by omega)]; exact h.2.2.1.2.2.2.2.2 j hj
theorem o_set {s t : jz_St} (h : H3 s t) (r i z : Int) : v_X7_set s r i z = v_X8_set t r i z ∧ OK s t (f_X7_set s r i z) (f_X8_set t r i z) := by
  unfold v_X7_set v_X8_set f_X7_set f_X8_set
  by_cases c : 0 ≤ r ∧ r < 8
  · have c' : 0 ≤ r ∧ r ≤ 7 := by omega
    have hrow := H3_row h (r := r.toNat) (by omega)
    rw [if_pos c, if_pos c, if_pos c', if_pos c']
    by_cases c1 : t 417 r.toNat < 0
    · rw [if_pos (hrow.1.2 c1), if_pos (hrow.1.2 c1), if_pos c1, if_pos c1, jz_su_su]; exact ⟨rfl, OK_st h 1⟩
    · have c1' : ¬ s (400 + 2 * r.toNat) 1 = 0 := fun q => c1 (hrow.1.1 q)
      have hl := hrow.2.1 (by omega)
      rw [if_neg c1', if_neg c1', if_neg c1, if_neg c1, hl.1, hl.2.1]
      by_cases c2 : 0 ≤ i ∧ i < t 418 r.toNat
      · rw [if_pos c2, if_pos c2, if_pos (show 0 ≤ i ∧ i ≤ t 418 r.toNat - 1 by omega), if_pos (show 0 ≤ i ∧ i ≤ t 418 r.toNat - 1 by omega)]
        refine ⟨rfl, OK_tr (OK_st h 0) ?_⟩
        unfold f_X4_put
        rw [if_pos (show 0 ≤ i ∧ i < 40 by omega), jz_su_o (show 400 + 2 * r.toNat ≠ 0 by omega), hl.1]
        refine OK_items (CR_st h 0) (R := r.toNat) (by omega) (fun x hx => jz_su_o hx) (fun x hx => jz_su_o hx) (fun _ j hj => ?_) (fun j hj => ?_)
        · by_cases e : j = i.toNat
          · subst e; rw [jz_su_s, jz_su_s]
          · have k1 : 40 * r.toNat + j ≠ 40 * r.toNat + i.toNat := by omega
            rw [jz_su_f e, jz_su_f k1, jz_su_o (show 400 + 2 * r.toNat + 1 ≠ 0 by omega), jz_su_o (show 419 ≠ 416 by decide)]; exact hl.2.2 j hj
        · have k2 : j ≠ 40 * r.toNat + i.toNat := by omega
          rw [jz_su_f k2]
      · rw [if_neg c2, if_neg c2, if_neg (show ¬ (0 ≤ i ∧ i ≤ t 418 r.toNat - 1) by omega), if_neg (show ¬ (0 ≤ i ∧ i ≤ t 418 r.toNat - 1) by omega), jz_su_su]
        exact ⟨rfl, OK_st h 2⟩
  · have c' : ¬ (0 ≤ r ∧ r ≤ 7) := by omega
    rw [if_neg c, if_neg c, if_neg c', if_neg c']; exact ⟨rfl, OK_id h⟩
theorem o_drop {s t : jz_St} (h : H3 s t) (r : Int) : v_X7_drop s r = v_X8_drop t r ∧ OK s t (f_X7_drop s r) (f_X8_drop t r) := by
  unfold v_X7_drop v_X8_drop f_X7_drop f_X8_drop
  by_cases c : 0 ≤ r ∧ r < 8
  · have c' : 0 ≤ r ∧ r ≤ 7 := by omega
    have hrow := H3_row h (r := r.toNat) (by omega)
    rw [if_pos c, if_pos c, if_pos c', if_pos c']
    by_cases c1 : t 417 r.toNat < 0
    · rw [if_pos (hrow.1.2 c1), if_pos (hrow.1.2 c1), if_pos c1, if_pos c1, jz_su_su]; exact ⟨rfl, OK_st h 1⟩
    · have c1' : ¬ s (400 + 2 * r.toNat) 1 = 0 := fun q => c1 (hrow.1.1 q)
      have hl := hrow.2.1 (by omega)
      rw [if_neg c1', if_neg c1', if_neg c1, if_neg c1, hl.2.1]
      refine ⟨rfl, OK_tr (OK_st h 0) ?_⟩
      refine OK_rows (CR_st h 0) (fun x hx => jz_su_o (by omega)) (fun x h1 h2 h3 => jz_su_o h1) ?_ ?_ ?_
      · intro i hi
        have h3 := (CR_st h 0).1.2.2.1 i hi
        by_cases e : i = r.toNat
        · subst e
          rw [jz_su_s, jz_su_s, if_pos (by decide)]
          exact ⟨rfl, fun q => absurd q (by decide)⟩
        · rw [jz_su_o (by omega), jz_su_f e, jz_su_o (show 400 + 2 * i + 1 ≠ 400 + 2 * r.toNat by omega), jz_su_o (show 418 ≠ 417 by decide), jz_su_o (show 419 ≠ 417 by decide)]
          exact h3
      · refine ⟨?_, fun i hi => ?_⟩
        · rw [jz_su_o (by decide), jz_su_f (by decide)]; exact h.2.1.1.1.1
        · have h3 := h.2.1.1.1.2 i hi
          rw [jz_su_o (show 418 ≠ 417 by decide), jz_su_o (show 418 ≠ 416 by decide)]
          by_cases e : i = r.toNat
          · subst e; rw [jz_su_s]; omega
          · rw [jz_su_f e, jz_su_o (by decide)]; exact h3
      · intro i hi
        by_cases e : i = r.toNat
        · subst e; rw [jz_su_f (by decide), jz_su_o (by omega)]; exact h.2.2.1.2.2.2.2.2 _ hi
        · rw [jz_su_o (by omega), jz_su_o (by omega)]; exact h.2.2.1.2.2.2.2.2 i hi
  · have c' : ¬ (0 ≤ r ∧ r ≤ 7) := by omega
    rw [if_neg c, if_neg c, if_neg c', if_neg c']; exact ⟨rfl, OK_id h⟩
theorem cp_up (s : jz_St) {a b n : Nat} {up : Int} (hu : up ≠ 0) (hab : b ≤ a ∨ a + n ≤ b) : ∀ k, k ≤ n → ∀ x, f_X8_cp s a b up n k 419 x = if b ≤ x ∧ x < b + k then s 419 (a + (x - b)) else s 419 x := by
  intro k
  induction k with
  | zero => intro _ x; rw [if_neg (by omega)]; rfl
  | succ k ih =>
    intro hk x
    simp only [f_X8_cp]
    rw [if_neg hu]
    by_cases e : x = b + k
    · subst e
      rw [jz_su_s, ih (by omega), if_neg (by omega), if_pos (by omega), show a + (b + k - b) = a + k by omega]
    · rw [jz_su_f e, ih (by omega)]
      by_cases q : b ≤ x ∧ x < b + k
      · rw [if_pos q, if_pos (by omega)]
      · rw [if_neg q, if_neg (by omega)]
theorem cp_dn (s : jz_St) {a b n : Nat} (hab : a ≤ b ∨ b + n ≤ a) : ∀ k, k ≤ n → ∀ x, f_X8_cp s a b 0 n k 419 x = if b + (n - k) ≤ x ∧ x < b + n then s 419 (a + (x - b)) else s 419 x := by
  intro k
  induction k with
  | zero => intro _ x; rw [if_neg (by omega)]; rfl
  | succ k ih =>
    intro hk x
    simp only [f_X8_cp]
    rw [if_pos trivial]
    by_cases e : x = b + (n - 1 - k)
    · subst e
      rw [jz_su_s, ih (by omega), if_neg (by omega), if_pos (by omega), show a + (b + (n - 1 - k) - b) = a + (n - 1 - k) by omega]
    · rw [jz_su_f e, ih (by omega)]
      by_cases q : b + (n - k) ≤ x ∧ x < b + n
      · rw [if_pos q, if_pos (by omega)]
      · rw [if_neg q, if_neg (by omega)]
theorem o_copy {s t : jz_St} (h : H3 s t) (a i c j n : Int) : v_X7_copy s a i c j n = v_X8_copy t a i c j n ∧ OK s t (f_X7_copy s a i c j n) (f_X8_copy t a i c j n) := by
  unfold v_X7_copy v_X8_copy f_X7_copy f_X8_copy
  by_cases cc : (0 ≤ a ∧ a < 8) ∧ 0 ≤ c ∧ c < 8
  · have cc' : (0 ≤ a ∧ a ≤ 7) ∧ 0 ≤ c ∧ c ≤ 7 := by omega
    have hA := H3_row h (r := a.toNat) (by omega)
    have hC := H3_row h (r := c.toNat) (by omega)
    rw [if_pos cc, if_pos cc, if_pos cc', if_pos cc']
    by_cases c1 : t 417 a.toNat < 0 ∨ t 417 c.toNat < 0
    · have c1' : s (400 + 2 * a.toNat) 1 = 0 ∨ s (400 + 2 * c.toNat) 1 = 0 := c1.imp hA.1.2 hC.1.2
      rw [if_pos c1', if_pos c1', if_pos c1, if_pos c1, jz_su_su]; exact ⟨rfl, OK_st h 1⟩
    · have c1' : ¬ (s (400 + 2 * a.toNat) 1 = 0 ∨ s (400 + 2 * c.toNat) 1 = 0) := fun q => c1 (q.imp hA.1.1 hC.1.1)
      have hl := hA.2.1 (by omega)
      have hl2 := hC.2.1 (by omega)
      rw [if_neg c1', if_neg c1', if_neg c1, if_neg c1, hl.1, hl.2.1, hl2.1, hl2.2.1]
      by_cases c2 : t 417 a.toNat ≠ t 417 c.toNat
      · rw [if_pos c2, if_pos c2, if_pos c2, if_pos c2, jz_su_su]; exact ⟨rfl, OK_st h 5⟩
      · rw [if_neg c2, if_neg c2, if_neg c2, if_neg c2]
        by_cases c3 : (0 ≤ i ∧ 0 ≤ n ∧ i + n ≤ t 418 a.toNat) ∧ 0 ≤ j ∧ j + n ≤ t 418 c.toNat
        · have c3' : (0 ≤ i ∧ 0 ≤ j ∧ 0 ≤ n) ∧ i + n ≤ t 418 a.toNat ∧ j + n ≤ t 418 c.toNat := by omega
          rw [if_pos c3, if_pos c3, if_pos c3', if_pos c3']
          refine ⟨rfl, OK_tr (OK_st h 0) ?_⟩
          have key : ∀ x, f_X8_cp (jz_su t 416 1 0) (40 * a.toNat + i.toNat) (40 * c.toNat + j.toNat) (if j ≤ i then 1 else 0) n.toNat n.toNat 419 x = if 40 * c.toNat + j.toNat ≤ x ∧ x < 40 * c.toNat + j.toNat + n.toNat then t 419 (40 * a.toNat + i.toNat + (x - (40 * c.toNat + j.toNat))) else t 419 x := by
            intro x
            have e19 : jz_su t 416 1 0 419 = t 419 := jz_su_o (by decide)
            by_cases q : j ≤ i
            · rw [if_pos q, cp_up _ (by decide) (by omega) n.toNat (Nat.le_refl _), e19]
            · rw [if_neg q, cp_dn _ (by omega) n.toNat (Nat.le_refl _), e19, show 40 * c.toNat + j.toNat + (n.toNat - n.toNat) = 40 * c.toNat + j.toNat by omega]
          refine OK_items (CR_st h 0) (R := c.toNat) (by omega) (fun x hx => ?_) (fun x hx => f_X8_cp_o _ _ _ _ _ hx _) (fun _ k hk => ?_) (fun k hk => ?_)
          · funext y
            unfold jz_scp
            rw [if_neg (fun q => hx q.1)]
          · rw [key]
            unfold jz_scp
            by_cases q : j.toNat ≤ k ∧ k < j.toNat + n.toNat
            · rw [if_pos ⟨rfl, q.1, q.2⟩, if_pos (by omega), jz_su_o (by omega), hl.2.2 _ (by omega), show 40 * a.toNat + (i.toNat + (k - j.toNat)) = 40 * a.toNat + i.toNat + (40 * c.toNat + k - (40 * c.toNat + j.toNat)) by omega]
            · rw [if_neg (fun x => q x.2), if_neg (by omega), jz_su_o (by omega)]
              exact hl2.2.2 k hk
          · rw [key, if_neg (by omega), jz_su_o (by decide)]
        · have c3' : ¬ ((0 ≤ i ∧ 0 ≤ j ∧ 0 ≤ n) ∧ i + n ≤ t 418 a.toNat ∧ j + n ≤ t 418 c.toNat) := by omega
          rw [if_neg c3, if_neg c3, if_neg c3', if_neg c3', jz_su_su]
          exact ⟨rfl, OK_st h 2⟩
  · have cc' : ¬ ((0 ≤ a ∧ a ≤ 7) ∧ 0 ≤ c ∧ c ≤ 7) := by omega
    rw [if_neg cc, if_neg cc, if_neg cc', if_neg cc']; exact ⟨rfl, OK_id h⟩
