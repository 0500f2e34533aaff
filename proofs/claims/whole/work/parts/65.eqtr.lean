/-! the trial square keeps in bounds, whatever was tried -/
def cT (s : jz_St) : Prop := 0 ≤ s 358 4 ∧ ∀ g : Nat, g < 4 → 0 ≤ s (358 + 10 + g) 1 ∧ s (358 + 10 + g) 1 ≤ 99
theorem cT_of {s s' : jz_St} (h : cT s) (h4 : s' 358 4 = s 358 4) (h1 : ∀ g : Nat, g < 4 → s' (358 + 10 + g) 1 = s (358 + 10 + g) 1) : cT s' := by
  refine ⟨by rw [h4]; exact h.1, fun g hg => ?_⟩
  rw [h1 g hg]; exact h.2 g hg
theorem cT_eq {s s' : jz_St} (h : cT s) (he : ∀ x, 358 ≤ x → x < 372 → s' x = s x) : cT s' := cT_of h (by rw [he 358 (by omega) (by omega)]) (fun g hg => by rw [he _ (by omega) (by omega)])
theorem cT_take {s : jz_St} (hj : jRng s 344 (9 * s 344 6)) : cT (f_X5_take s 358 344) := by
  have h := take_rng (k := 358) (by omega) hj
  exact ⟨h.2.2.1.1, fun g hg => (h.2.2.2.2.2.2.2 g hg).1⟩
theorem cT_bite {s : jz_St} (h : cT s) {g : Nat} (hg : g < 4) : cT (f_X5_letBite s 358 g) := by
  refine ⟨by rw [letBite_k s 358 g hg (by decide)]; exact h.1, fun c hc => ?_⟩
  unfold f_X5_letBite
  cases hX : fCho s 358 (358 + 10 + g) with
  | none => exact h.2 c hc
  | some j =>
    have hj := fCho_some hX
    have hb := fBite_rng (s (358 + 3 + j) 1) (s (358 + 3 + j) 5)
    have h2 := h.2 c hc
    show 0 ≤ f_X5_bite s 358 g j (358 + 10 + c) 1 ∧ f_X5_bite s 358 g j (358 + 10 + c) 1 ≤ 99
    rw [bt1]
    by_cases e : c = g
    · subst e
      rw [if_pos (rfl : 358 + 10 + c = 358 + 10 + c)]
      split <;> omega
    · rw [if_neg (show ¬ 358 + 10 + c = 358 + 10 + g by omega)]
      exact h2
theorem cT_phB {s : jz_St} (h : cT s) : ∀ g, g ≤ 4 → cT (f_X5_phB s 358 g) := by
  intro g
  induction g with
  | zero => intro _; exact h
  | succ g ih =>
    intro hg
    simp only [f_X5_phB]
    split
    · exact cT_bite (ih (by omega)) (by omega)
    · exact ih (by omega)
theorem cT_hour {s : jz_St} (h : cT s) : cT (f_X5_passHour s 358) := by
  have h1 := cT_phB h 4 (by omega)
  unfold f_X5_passHour
  (try simp only)
  refine ⟨?_, fun g hg => ?_⟩
  · rw [jz_su_f (by decide), phE_k _ _ 4 (by omega)]; exact h1.1
  · rw [jz_su_o (by omega), phE_g1 _ _ _ hg, if_pos hg]
    have h2 := h1.2 g hg
    have h3 := h1.1
    split <;> omega
theorem cT_hours {s : jz_St} (h : cT s) : ∀ n, cT (f_X5_passHours s 358 n) := by
  intro n
  induction n with
  | zero => exact h
  | succ n ih => exact cT_hour ih
theorem cT_drv {s : jz_St} (h : cT s) (c n : Int) (j : Nat) : cT (f_X5_drv s 358 c n j) := cT_of h (by rw [drv_l _ _ _ _ (by omega)]) (fun g hg => drv_n _ _ _ _ (by decide) j)
theorem cT_hot {s : jz_St} (h : cT s) (c : Int) : cT (f_X5_hot s 358 c 7) := cT_of h (hot_n _ _ _ (by decide) 7) (fun g hg => hot_n _ _ _ (by decide) 7)
theorem cT_tea {s : jz_St} (h : cT s) (c : Int) : cT (f_X5_tea s 358 c 7) := cT_of h (tea_n _ _ _ (by decide) 7) (fun g hg => tea_n _ _ _ (by decide) 7)
theorem cT_suL {s : jz_St} (h : cT s) {l w : Nat} {z : Int} (hl : l < 7) : cT (jz_su s (358 + 3 + l) w z) := cT_of h (by rw [jz_su_o (by omega)]) (fun g hg => by rw [jz_su_o (by omega)])
theorem cT_bef {s : jz_St} (h : cT s) (x : Int) : cT (f_X5_befall s 358 x) := by
  refine cT_of h ?_ (fun g hg => ?_)
  · unfold f_X5_befall f_X5_bfL
    split
    · rw [jz_su_f (by decide), bfG_n _ _ _ _ _ (by decide)]
    · rw [bfG_n _ _ _ _ _ (by decide)]
  · unfold f_X5_befall f_X5_bfL
    split
    · rw [jz_su_f (by decide), bfG_n _ _ _ _ _ (by decide)]
    · rw [bfG_n _ _ _ _ _ (by decide)]
theorem cT_keep {told : Int} : ∀ (n : Nat) (s : jz_St), cT s → cT (fKeep s 358 told n).2 := by
  intro n
  induction n with
  | zero => intro s h; exact h
  | succ n ih =>
    intro s h
    simp only [fKeep]
    split
    · exact ih _ (cT_hour h)
    · exact h
theorem cT_goes {a r : Nat} {fr : Int} : ∀ (n i : Nat) (s : jz_St), cT s → cT (fGoes s 358 a r fr i n).2 := by
  intro n
  induction n with
  | zero => intro i s h; exact h
  | succ n ih =>
    intro i s h
    simp only [fGoes]
    by_cases hq : f_X5_passHour s 358 a 5 = (if 0 ≤ fr + (i : Int) ∧ fr + (i : Int) < 40 then f_X5_passHour s 358 (r + 1) (fr + (i : Int)).toNat else 0)
    · rw [if_pos hq]; exact ih _ _ (cT_hour h)
    · rw [if_neg hq]; exact cT_hour h
/-- a square that stands, as before -/
def cN (s0 s : jz_St) : Prop := jRng s0 344 (9 * s0 344 6) ∧ ∀ x, jOff 358 x → s x = s0 x
theorem cN_T {s0 s : jz_St} (h : cN s0 s) : cT (f_X5_take s 358 344) := by
  have e : s 344 6 = s0 344 6 := by rw [h.2 344 (by unfold jOff; omega)]
  refine cT_take ?_
  rw [e]
  exact jRng_off h.1 (seg_344 h.2)
theorem cN_off {s0 s s' : jz_St} (h : cN s0 s) (hs : ∀ x, jOff 358 x → s' x = s x) : cN s0 s' := ⟨h.1, fun x hx => (hs x hx).trans (h.2 x hx)⟩
theorem cT_att {s0 s : jz_St} {dr : Bool} {told : Int} {n c : Nat} (h : cN s0 s) : cT (fAtt s dr told n c).2 := by
  unfold fAtt
  refine cT_keep n _ ?_
  split
  · exact cT_drv (cN_T h) _ _ _
  · exact cT_hot (cN_T h) _
theorem cT_fwI {s0 : jz_St} {al : Nat} {dr : Bool} {told : Int} {n : Nat} {many : Int} : ∀ (m c : Nat) (s : jz_St), cN s0 s → cT s → cT (fFwI s al dr told n many c m).2 := by
  intro m
  induction m with
  | zero => intro c s _ h; exact h
  | succ m ih =>
    intro c s hN h
    simp only [fFwI]
    split
    · split
      · exact ih _ _ (cN_off hN (fun x hx => att_off hx)) (cT_att hN)
      · exact cT_att hN
    · exact ih _ _ hN h
theorem cT_fwO {s0 : jz_St} {al : Nat} {dr : Bool} {told : Int} {n : Nat} : ∀ (m many : Nat) (s : jz_St), cN s0 s → cT s → cT (fFwO s al dr told n many m).2 := by
  intro m
  induction m with
  | zero => intro many s _ h; exact h
  | succ m ih =>
    intro many s hN h
    simp only [fFwO]
    split
    · exact cT_fwI _ _ _ hN h
    · exact ih _ _ (cN_off hN (fun x hx => fwI_off hx _ _ _)) (cT_fwI _ _ _ hN h)
theorem cT_haS {s0 : jz_St} {n : Int} (hN : cN s0 s0) (h : cT s0) : ∀ j, cT (fHaS s0 n j) := by
  intro j
  induction j with
  | zero => exact h
  | succ j ih =>
    simp only [fHaS]
    exact cT_hours (cT_drv (cN_T (cN_off hN (fun x hx => fHaS_off hx j))) _ _ _) _
theorem cT_lbb {s0 s : jz_St} {l o n : Int} (ho : o.toNat < 7) (hN : cN s0 s) : cT (f_lbb s l o n) := by
  unfold f_lbb
  split
  · exact cT_hours (cT_suL (cN_T hN) ho) _
  · exact cN_T hN
theorem cT_baS {s0 : jz_St} {l n : Int} (hN : cN s0 s0) (h : cT s0) : ∀ j, j ≤ 7 → cT (fBaS s0 l n j) := by
  intro j
  induction j with
  | zero => intro _; exact h
  | succ j ih =>
    intro hj
    simp only [fBaS]
    split
    · exact ih (by omega)
    · exact cT_lbb (by omega) (cN_off hN (fun x hx => fBaS_off hx j))
theorem cT_sa {s0 : jz_St} {l n : Int} (hl : l < 7) : ∀ (m i : Nat) (s : jz_St), cN s0 s → cT s → cT (fSa l n s i m).2 := by
  have key : ∀ (s : jz_St) (i : Nat), cN s0 s → cT (fSaS s l n i) := by
    intro s i hN
    unfold fSaS
    exact cT_hours (cT_suL (cN_T hN) (by omega)) _
  intro m
  induction m with
  | zero => intro i s _ h; exact h
  | succ m ih =>
    intro i s hN h
    simp only [fSa]
    split
    · exact key s i hN
    · exact ih _ _ (cN_off hN (fun x hx => fSaS_off hl hx)) (key s i hN)
theorem cT_wh {s0 : jz_St} {l w o : Int} {r : Nat} {fr : Int} {n : Nat} (hl : l < 7) : ∀ (m j : Nat) (acc : Int) (s : jz_St), cN s0 s → cT s → cT (fWh l w o r fr n acc s j m).2 := by
  intro m
  induction m with
  | zero => intro j acc s _ h; exact h
  | succ m ih =>
    intro j acc s hN h
    simp only [fWh]
    refine ih _ _ _ (cN_off hN (fun x hx => fWhG_off hl hx)) ?_
    unfold fWhG fWhC
    exact cT_goes _ _ _ (cT_suL (cN_T hN) (by omega))
theorem cT_stG {s0 s : jz_St} {l : Int} {r : Nat} {fr : Int} {n : Nat} {c : Option Nat} (hN : cN s0 s) : cT (fStG s l r fr n c).2 := by
  unfold fStG
  refine cT_goes _ _ _ ?_
  split
  · exact cN_T hN
  · exact cT_drv (cN_T hN) _ _ _
theorem cT_stS {s0 : jz_St} {l : Int} {r : Nat} {fr : Int} {n : Nat} (hN : cN s0 s0) : ∀ j, cT (fStS s0 l r fr n j) := by
  intro j
  cases j with
  | zero => exact cT_stG hN
  | succ j => exact cT_stG (cN_off hN (fun x hx => fStS_off hx j))
theorem cT_wiS {s0 : jz_St} {al : Int} (hN : cN s0 s0) (h : cT s0) : ∀ c, cT (fWiS s0 al c) := by
  intro c
  induction c with
  | zero => exact h
  | succ c ih =>
    simp only [fWiS]
    split
    · unfold fWiC
      exact cT_hour (cT_tea (cN_T (cN_off hN (fun x hx => fWiS_off hx c))) _)
    · exact ih
theorem cT_drS {s0 : jz_St} {d : Int} (hN : cN s0 s0) : ∀ j, cT (fDrS s0 d j) := by
  intro j
  induction j with
  | zero => exact cN_T hN
  | succ j ih => exact cT_hour (cT_bef ih _)
theorem cT_emp {a : Nat} : ∀ (m i : Nat) (s : jz_St), cT s → cT (fEmp s 358 a i m).2 := by
  intro m
  induction m with
  | zero => intro i s h; exact h
  | succ m ih =>
    intro i s h
    simp only [fEmp]
    split
    · exact h
    · exact ih _ _ (cT_hour h)
theorem cT_gap {w : Int} : ∀ (m i : Nat) (s : jz_St), cT s → cT (fGap s 358 w i m).2 := by
  intro m
  induction m with
  | zero => intro i s h; exact h
  | succ m ih =>
    intro i s h
    simp only [fGap]
    split
    · exact h
    · exact ih _ _ (cT_hour h)
theorem H3_N {s t : jz_St} (h : H3 s t) : cN s s := ⟨h.2.2.1.1, fun _ _ => rfl⟩
theorem t_ahead {s t : jz_St} (h : H3 s t) (l n : Int) : cT (f_X7_ahead s l n) := by
  unfold f_X7_ahead
  split
  · exact cT_hours (cN_T (H3_N h)) _
  · exact cN_T (H3_N h)
theorem t_force {s t : jz_St} (h : H3 s t) (hT : cT s) (n : Int) : cT (f_X7_force s n) := by
  unfold f_X7_force
  (repeat' split) <;> first | exact hT | exact cT_hours (cN_T (H3_N h)) _
theorem t_emptied {s t : jz_St} (h : H3 s t) (l : Int) : cT (f_X7_emptied s l) := by
  unfold f_X7_emptied
  split
  · exact cT_emp _ _ _ (cN_T (H3_N h))
  · exact cN_T (H3_N h)
theorem t_eats {s t : jz_St} (h : H3 s t) (c n : Int) : cT (f_X7_eats s c n) := by
  unfold f_X7_eats
  split
  · exact cT_hours (cN_T (H3_N h)) _
  · exact cN_T (H3_N h)
theorem t_guilt {s t : jz_St} (h : H3 s t) (l n : Int) : cT (f_X7_guilt s l n) := by
  unfold f_X7_guilt
  split
  · exact cT_hours (cN_T (H3_N h)) _
  · exact cN_T (H3_N h)
theorem t_gap {s t : jz_St} (h : H3 s t) (hT : cT s) (w : Int) : cT (f_X7_gap s w) := by
  unfold f_X7_gap
  (repeat' split) <;> first | exact hT | exact cT_gap _ _ _ (cN_T (H3_N h))
theorem t_hangs {s t : jz_St} (h : H3 s t) (hT : cT s) (l n w : Int) : cT (f_X7_hangs s l n w) := by
  unfold f_X7_hangs
  (repeat' split) <;> first | exact hT | exact cT_fwO _ _ _ (H3_N h) hT
theorem t_drives {s t : jz_St} (h : H3 s t) (hT : cT s) (l n w : Int) : cT (f_X7_drives s l n w) := by
  unfold f_X7_drives
  (repeat' split) <;> first | exact hT | exact cT_fwO _ _ _ (H3_N h) hT
theorem t_harm {s t : jz_St} (h : H3 s t) (hT : cT s) (n w : Int) : cT (f_X7_harm s n w) := by
  unfold f_X7_harm
  (repeat' split) <;> first | exact hT | exact cT_haS (H3_N h) hT _
theorem t_bait {s t : jz_St} (h : H3 s t) (hT : cT s) (l n w : Int) : cT (f_X7_bait s l n w) := by
  have hn := H3_n h
  unfold f_X7_bait
  split
  · exact cT_baS (H3_N h) hT _ (by omega)
  · exact hT
theorem t_safeHeight {s t : jz_St} (h : H3 s t) (hT : cT s) (l n : Int) : cT (f_X7_safeHeight s l n) := by
  unfold f_X7_safeHeight
  by_cases c : (0 ≤ l ∧ l < s 344 2 ∧ l < 7) ∧ 1 ≤ n ∧ n ≤ 60
  · rw [if_pos c]
    split
    · exact hT
    · exact cT_sa (by omega) _ _ _ (H3_N h) hT
  · rw [if_neg c]; exact hT
theorem cT_st {s : jz_St} (h : cT s) (z : Int) : cT (jz_su s 0 8 z) := cT_eq h (fun x hx _ => jz_su_o (by omega))
theorem t_who {s t : jz_St} (h : H3 s t) (hT : cT s) (l w o r fr n : Int) : cT (f_X7_who s l w o r fr n) := by
  unfold f_X7_who
  by_cases c : (0 ≤ l ∧ l < s 344 2 ∧ l < 7) ∧ (0 ≤ o ∧ o < s 344 2 ∧ o < 7) ∧ (0 ≤ r ∧ r < 8) ∧ (0 ≤ w ∧ w ≤ 2) ∧ 1 ≤ n ∧ n ≤ 12
  · rw [if_pos c]
    (repeat' split) <;> first | exact cT_st hT _ | exact cT_wh (by omega) _ _ _ _ (H3_N (CR_st h 0)) (cT_st hT 0)
  · rw [if_neg c]; exact hT
theorem t_strayed {s t : jz_St} (h : H3 s t) (hT : cT s) (l r fr n : Int) : cT (f_X7_strayed s l r fr n) := by
  unfold f_X7_strayed
  (repeat' split) <;> first | exact hT | exact cT_st hT _ | exact cT_stS (H3_N (CR_st h 0)) _
theorem t_wind {s t : jz_St} (h : H3 s t) (hT : cT s) (k p w : Int) : cT (f_X7_wind s k p w) := by
  unfold f_X7_wind
  (repeat' split) <;> first | exact hT | exact cT_wiS (H3_N h) hT _
theorem t_drawn {s t : jz_St} (h : H3 s t) (hT : cT s) (n d w : Int) : cT (f_X7_drawn s n d w) := by
  unfold f_X7_drawn
  (repeat' split) <;> first | exact hT | exact cT_drS (H3_N h) _
