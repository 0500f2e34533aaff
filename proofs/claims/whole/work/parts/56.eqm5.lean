/-! strayed -/
theorem st_H {s t : jz_St} (h : H3 s t) {l fr n : Int} {r : Nat} (hr : r < 8) (hl : 0 ≤ l ∧ l < t 420 3) (hf : 0 ≤ fr ∧ 0 ≤ n ∧ fr + n ≤ 40) (hlv : 0 ≤ t 417 r) {ri : Int} (hri : ri = r) {e : Prop} {s1 t1 : jz_St} {b : Int}
    (hR : jR e n.toNat s1 358 (t1 422)) (hw : mRw (t1 422) b) (h3 : t1 422 3 = t 420 3) (hs : ∀ x, jOff 358 x → s1 x = s x) (h419 : t1 419 = t 419) :
    (fGoes s1 358 (358 + 3 + l.toNat) (400 + 2 * r) fr 0 n.toNat).1 = rSo t1 l.toNat (40 * ri + fr).toNat n.toNat := by
  have hh := H3_n h
  have hrow := H3_row h hr
  refine goes_e (by omega) hr hf hR hw (by rw [h3]; omega) (fun i hi => ?_) hri
  rw [hs _ (by unfold jOff; omega), h419]
  exact (hrow.2.1 hlv).2.2 i hi
theorem st_e {s t : jz_St} (h : H3 s t) {l fr n : Int} {r : Nat} (hr : r < 8) (hl : 0 ≤ l ∧ l < t 420 3) (hf : 0 ≤ fr ∧ 0 ≤ n ∧ fr + n ≤ 40) (hlv : 0 ≤ t 417 r) {ri : Int} (hri : ri = r) :
    ∀ j : Nat, j ≤ 4 → fSt s l (400 + 2 * r) fr n.toNat j = rSt t l.toNat (40 * ri + fr).toNat n j ∧ jI (fSt s l (400 + 2 * r) fr n.toNat j) := by
  have hh := H3_n h
  intro j
  induction j with
  | zero =>
    intro _
    have hT := H3_T h
    have e := st_H h hr hl hf hlv hri (jR_f hT.1 (m2 := n.toNat)) hT.2.1 (layThen_in t (by decide)) (tk_off s) (layThen_o t (by decide))
    have eG0 : (fStG s l (400 + 2 * r) fr n.toNat none).1 = rSo (f_X8_layThen t) l.toNat (40 * ri + fr).toNat n.toNat := e
    simp only [fSt, rSt]
    rw [eG0]
    refine ⟨rfl, ?_⟩
    split <;> decide
  | succ j ih =>
    intro hj
    obtain ⟨i1, i2⟩ := ih (by omega)
    obtain ⟨c, h1, h2⟩ := p2n (j := j) (by omega)
    have hoff : ∀ x, jOff 358 x → fStS s l (400 + 2 * r) fr n.toNat j x = s x := fun x hx => fStS_off hx j
    have h420 : rStS t n j 420 = t 420 := stS_o t n (by decide) (by decide) (by decide) j
    have hD := att_D h hoff h420 (n := n) (by omega) h2
    have e3 : f_X8_layOff (rStS t n j) c n 422 3 = t 420 3 := by
      unfold f_X8_layOff
      rw [lo_n _ _ _ (by omega), layThen_in _ (by decide), h420]
    have e := st_H h hr hl hf hlv hri hD.1 hD.2.1 e3 (fun x hx => by rw [drv_off hx 4 (by omega), take_off hx]; exact hoff x hx) (by rw [layOff_o _ _ _ (by decide), stS_o t n (by decide) (by decide) (by decide) j])
    have eG : (fStG (fStS s l (400 + 2 * r) fr n.toNat j) l (400 + 2 * r) fr n.toNat (some j)).1 = rSo (rStT (rStS t n j) n j) l.toNat (40 * ri + fr).toNat n.toNat := by
      unfold fStG rStT
      simp only
      rw [h1, show ((n.toNat : Nat) : Int) = n by omega]
      exact e
    simp only [fSt, rSt]
    rw [eG, ← i1]
    by_cases q : rSo (rStT (rStS t n j) n j) l.toNat (40 * ri + fr).toNat n.toNat = 0
    · rw [if_pos q, if_pos q, jor_z i2]; exact ⟨rfl, i2⟩
    · rw [if_neg q, if_neg q]; exact ⟨rfl, jI_jor _ _⟩
theorem o_strayed {s t : jz_St} (h : H3 s t) (l r fr n : Int) : v_X7_strayed s l r fr n = v_X8_strayed t l r fr n ∧ OK s t (f_X7_strayed s l r fr n) (f_X8_strayed t l r fr n) := by
  have hn := H3_n h
  unfold v_X7_strayed v_X8_strayed f_X7_strayed f_X8_strayed
  by_cases c : (0 ≤ l ∧ l < t 420 3) ∧ (0 ≤ r ∧ r ≤ 7) ∧ 1 ≤ n ∧ n ≤ 12
  · have hrow := H3_row h (r := r.toNat) (by omega)
    have ca : (0 ≤ l ∧ l < s 344 2 ∧ l < 7) ∧ (0 ≤ r ∧ r < 8) ∧ 1 ≤ n ∧ n ≤ 12 := by omega
    have cb : (0 ≤ l ∧ l ≤ t 420 3 - 1) ∧ (0 ≤ r ∧ r ≤ 7) ∧ 1 ≤ n ∧ n ≤ 12 := by omega
    rw [if_pos ca, if_pos ca, if_pos cb, if_pos cb]
    by_cases c1 : t 417 r.toNat < 0
    · rw [if_pos (hrow.1.2 c1), if_pos (hrow.1.2 c1), if_pos c1, if_pos c1]
      exact ⟨rfl, OK_st h 1⟩
    · have c1' : ¬ s (400 + 2 * r.toNat) 1 = 0 := fun q => c1 (hrow.1.1 q)
      have hl2 := hrow.2.1 (by omega)
      rw [if_neg c1', if_neg c1', if_neg c1, if_neg c1, hl2.2.1]
      by_cases c2 : 0 ≤ fr ∧ fr + n ≤ t 418 r.toNat
      · rw [if_pos (show 0 ≤ fr ∧ 0 ≤ n ∧ fr + n ≤ t 418 r.toNat by omega), if_pos (show 0 ≤ fr ∧ 0 ≤ n ∧ fr + n ≤ t 418 r.toNat by omega), if_pos c2, if_pos c2, hn.1.2]
        have h2 := CR_st h 0
        refine ⟨(st_e h2 (by omega) (by rw [jz_su_o (by decide)]; omega) (by omega) (by rw [jz_su_o (by decide)]; omega) (by omega) _ (by omega)).1, ?_⟩
        refine OK_tr (OK_st h 0) (OK_t h2 (fun x hx => fStS_off hx _) (fun x h1 h2 h3 => stS_o _ n h1 h2 h3 _))
      · rw [if_neg (show ¬ (0 ≤ fr ∧ 0 ≤ n ∧ fr + n ≤ t 418 r.toNat) by omega), if_neg (show ¬ (0 ≤ fr ∧ 0 ≤ n ∧ fr + n ≤ t 418 r.toNat) by omega), if_neg c2, if_neg c2]
        exact ⟨rfl, OK_st h 2⟩
  · have ca : ¬ ((0 ≤ l ∧ l < s 344 2 ∧ l < 7) ∧ (0 ≤ r ∧ r < 8) ∧ 1 ≤ n ∧ n ≤ 12) := by omega
    have cb : ¬ ((0 ≤ l ∧ l ≤ t 420 3 - 1) ∧ (0 ≤ r ∧ r ≤ 7) ∧ 1 ≤ n ∧ n ≤ 12) := by omega
    rw [if_neg ca, if_neg ca, if_neg cb, if_neg cb]
    exact ⟨rfl, OK_id h⟩
/-! draws -/
theorem bf_lf {t : jz_St} {x b : Int} {i : Nat} (hw : mRw (t 422) b) (hl : 1 ≤ t 422 3) (hi : i < 41 ∧ (i < 6 ∨ (i - 6) % 5 ≠ 4)) : rBf t x 422 i = t 422 i := by
  unfold rBf rBfL
  split
  · rw [jz_su_f (by omega), bfG_h (by omega)]
  · exact bfG_h (by omega)
theorem bf_mq {t : jz_St} {x b : Int} (hg : 1 ≤ t 422 4) (hl : 1 ≤ t 422 3) (h : mRq (t 422) b) : mRq (rBf t x 422) b :=
  mRq_of h (bf_mr hg hl h.1) (bf_h (by decide)) (bf_h (by decide)) (bf_h (by decide)) (fun l hl7 => ⟨bf_lf h.1 hl (by omega), fun q => by rw [bf_lf h.1 hl (by omega)]; exact q⟩)
theorem befall_7 (s : jz_St) (k : Nat) (x : Int) : f_X5_befall s k x k 7 = s k 7 := by
  unfold f_X5_befall f_X5_bfL f_X5_bfG
  (repeat' split) <;> first | rfl | (rw [jz_su_o (by omega)]; done) | (rw [jz_su_o (by omega), jz_su_o (by omega)]; done)
theorem dr_e {s t : jz_St} (h : H3 s t) (d : Int) (h0 : t 420 0 = 1) : ∀ j : Nat, jR False 1 (fDrS s d j) 358 (rDrS t d j 422) ∧ mRq (rDrS t d j 422) (999 + j) ∧ fDrS s d j 358 7 = rDrG t d j := by
  have hh := H3_n h
  have hc := hh.2.2.2.1 h0
  have hS := drS_i (d := d) hc.2 hc.1 h.2.1.2.1.1
  intro j
  induction j with
  | zero =>
    have hT := H3_T h
    exact ⟨hT.1, mRq_of hT.2 (mRw_mono hT.2.1 (by omega)) rfl rfl rfl (fun l hl => ⟨rfl, id⟩), take_k7 s 358 344⟩
  | succ j ih =>
    obtain ⟨i1, i2, i3⟩ := ih
    have g4 : 1 ≤ rDrS t d j 422 4 := by rw [(hS j).2 4 (by decide)]; omega
    have g3 : 1 ≤ rDrS t d j 422 3 := by rw [(hS j).2 3 (by decide)]; omega
    have b1 := jR_bf (x := fDrX d (j + 1)) i1 i2.1 g4 g3
    have b2 := bf_mq (x := fDrX d (j + 1)) g4 g3 i2
    have k1 := jR_hour (m := 0) (Or.inr rfl) (jR_f b1) b2.1
    have k2 := hour_mq (Or.inr rfl) b2
    have k3 := hour7 b1 b2.1
    refine ⟨jR_f k1.1, ?_, ?_⟩
    · rw [show (999 : Int) + ((j + 1 : Nat) : Int) = 999 + (j : Int) + 1 by omega]; exact k2
    · simp only [fDrS, rDrG]
      rw [k3, befall_7, i3]
      rfl
theorem dr_off {s : jz_St} {d : Int} {x : Nat} (h : H3 s s) : True := trivial
theorem mdr_off {t : jz_St} {d : Int} {x : Nat} (h1 : x ≠ 422) (h2 : x ≠ 425) (h3 : x ≠ 426) : ∀ j : Nat, rDrS t d j x = t x := by
  intro j
  induction j with
  | zero => exact layThen_o t h1
  | succ j ih =>
    simp only [rDrS]
    rw [hour_o h1 h2 h3]
    unfold rBf rBfL rBfG
    (repeat' split) <;> (try rw [jz_su_o h1]) <;> (try rw [jz_su_o h1]) <;> exact ih
theorem H3_sz {s t : jz_St} (h : H3 s t) : jSz s 344 := by
  intro j hj hc
  have hn := H3_n h
  have h5 := h.1.2.1.2.1 j hj (by omega)
  have h6 := mRw_l h.2.1.2.1.1 j hj
  rw [h5.2.1, h5.2.2.2.1]
  omega
theorem o_drawn {s t : jz_St} (h : H3 s t) (n d w : Int) : v_X7_drawn s n d w = v_X8_drawn t n d w ∧ OK s t (f_X7_drawn s n d w) (f_X8_drawn t n d w) := by
  have hn := H3_n h
  unfold v_X7_drawn v_X8_drawn f_X7_drawn f_X8_drawn
  by_cases c0 : t 420 0 = 1
  · rw [if_pos c0, if_pos c0, if_neg (show ¬ s 344 2 ≤ 0 by omega), if_neg (show ¬ s 344 2 ≤ 0 by omega)]
    by_cases c : (0 ≤ n ∧ n ≤ 60) ∧ (1 ≤ d ∧ d ≤ 999999) ∧ 0 ≤ w ∧ w ≤ 1
    · rw [if_pos c, if_pos c, if_pos c, if_pos c]
      have e := dr_e h d c0 n.toNat
      rw [jR_la e.1 e.2.1.1, e.2.2]
      exact ⟨rfl, OK_t h (fun x hx => (fDrS_off h.2.2.1.1 (H3_sz h) hx _).1) (fun x h1 h2 h3 => mdr_off h1 h2 h3 _)⟩
    · rw [if_neg c, if_neg c, if_neg c, if_neg c]
      exact ⟨rfl, OK_id h⟩
  · rw [if_neg c0, if_neg c0, if_pos (show s 344 2 ≤ 0 by omega), if_pos (show s 344 2 ≤ 0 by omega)]
    exact ⟨rfl, OK_id h⟩
/-! rivals -/
def cb (p q : Int × Int) : Int × Int := (p.1 + q.1, if p.1 = 0 then q.2 else p.2)
def cE : Int × Int := (0, -1000000)
def cG (p : Int × Int) : Prop := 0 ≤ p.1 ∧ (p.1 = 0 → p.2 = -1000000)
theorem cb_E (p : Int × Int) (h : cG p) : cb p cE = p := by
  obtain ⟨a, b⟩ := p
  unfold cb cE
  simp only [Int.add_zero]
  by_cases c : a = 0
  · have h2 : b = -1000000 := h.2 c
    rw [if_pos c, h2]
  · rw [if_neg c]
theorem E_cb (p : Int × Int) : cb cE p = p := by
  obtain ⟨a, b⟩ := p
  unfold cb cE
  simp
theorem cb_G {p q : Int × Int} (hp : cG p) (hq : cG q) : cG (cb p q) := by
  obtain ⟨a, b⟩ := p
  obtain ⟨c, d⟩ := q
  obtain ⟨h1, h2⟩ := hp
  obtain ⟨h3, h4⟩ := hq
  refine ⟨Int.add_nonneg h1 h3, fun e => ?_⟩
  have e2 : a + c = 0 := e
  have h1' : 0 ≤ a := h1
  have h3' : 0 ≤ c := h3
  show (if a = 0 then d else b) = -1000000
  rw [if_pos (show a = 0 by omega)]
  exact h4 (show c = 0 by omega)
theorem cb_as {p q r : Int × Int} (hp : cG p) (hq : cG q) : cb (cb p q) r = cb p (cb q r) := by
  obtain ⟨a, b⟩ := p
  obtain ⟨c, d⟩ := q
  obtain ⟨x, y⟩ := r
  have h1 : 0 ≤ a := hp.1
  have h3 : 0 ≤ c := hq.1
  unfold cb
  simp only
  rw [Int.add_assoc]
  congr 1
  by_cases ca : a = 0
  · rw [if_pos ca, if_pos ca]
    by_cases cc : c = 0
    · rw [if_pos (show a + c = 0 by omega), if_pos cc]
    · rw [if_neg (show ¬ a + c = 0 by omega), if_neg cc]
  · rw [if_neg ca, if_neg ca, if_neg (show ¬ a + c = 0 by omega)]
def cS (q : Nat → Int) (a b : Nat) : Int × Int := if a < b ∧ (b : Int) < q 3 ∧ rRvE q a b = 1 then (1, 10 * a + b) else cE
theorem cS_G (q : Nat → Int) (a b : Nat) : cG (cS q a b) := by
  unfold cS
  split
  · exact ⟨show (0 : Int) ≤ 1 by decide, fun e => absurd (show (1 : Int) = 0 from e) (by decide)⟩
  · exact ⟨Int.le_refl 0, fun _ => rfl⟩
def cR (q : Nat → Int) (a : Nat) : Nat → Int × Int
  | 0 => cE
  | b + 1 => cb (cR q a b) (cS q a b)
theorem cR_G (q : Nat → Int) (a : Nat) : ∀ b, cG (cR q a b) := by
  intro b
  induction b with
  | zero => exact ⟨Int.le_refl 0, fun _ => rfl⟩
  | succ b ih => exact cb_G ih (cS_G q a b)
theorem cR_0 (q : Nat → Int) (a : Nat) : ∀ b, b ≤ a + 1 → cR q a b = cE := by
  intro b
  induction b with
  | zero => intro _; rfl
  | succ b ih =>
    intro h
    simp only [cR]
    rw [ih (by omega), E_cb]
    unfold cS
    rw [if_neg (by omega)]
theorem cR_L (q : Nat → Int) (a : Nat) : ∀ d : Nat, cR q a ((q 3).toNat + d) = cR q a (q 3).toNat := by
  intro d
  induction d with
  | zero => rfl
  | succ d ih =>
    show cb (cR q a ((q 3).toNat + d)) (cS q a ((q 3).toNat + d)) = _
    have e : cS q a ((q 3).toNat + d) = cE := by unfold cS; rw [if_neg (by omega)]
    rw [e, cb_E _ (cR_G q a _), ih]
def cO (q : Nat → Int) : Nat → Int × Int
  | 0 => cE
  | a + 1 => cb (cO q a) (cR q a (q 3).toNat)
theorem cO_G (q : Nat → Int) : ∀ a, cG (cO q a) := by
  intro a
  induction a with
  | zero => exact ⟨Int.le_refl 0, fun _ => rfl⟩
  | succ a ih => exact cb_G ih (cR_G q a _)
theorem cO_L (q : Nat → Int) : ∀ d : Nat, cO q ((q 3).toNat + d) = cO q (q 3).toNat := by
  intro d
  induction d with
  | zero => rfl
  | succ d ih =>
    show cb (cO q ((q 3).toNat + d)) (cR q ((q 3).toNat + d) (q 3).toNat) = _
    rw [cR_0 q _ _ (by omega), cb_E _ (cO_G q _), ih]
theorem rvE_01 (q : Nat → Int) (a b : Nat) : rRvE q a b = 0 ∨ rRvE q a b = 1 := by
  unfold rRvE
  split <;> simp
theorem rI_e (q : Nat → Int) (a : Nat) : ∀ (b : Nat) (p : Int × Int), (b : Int) ≤ q 3 → rI q a b p = cb (cR q a b) p := by
  intro b
  induction b with
  | zero => intro p _; exact (E_cb p).symm
  | succ b ih =>
    intro p hb
    simp only [rI, cR]
    by_cases c : a < b
    · rw [if_pos c, ih _ (by omega), cb_as (cR_G q a b) (cS_G q a b)]
      congr 1
      unfold rRvP cS cb
      rcases rvE_01 q a b with e | e
      · rw [e, if_pos rfl, if_neg (by omega)]
        simp [cE]
      · rw [e, if_neg (by decide), if_pos ⟨c, by omega, rfl⟩]
        simp only
        rw [if_neg (by decide), Int.add_comm]
    · rw [if_neg c, cR_0 q a b (by omega), E_cb]
      have e : cS q a b = cE := by unfold cS; rw [if_neg (fun x => c x.1)]
      rw [e, E_cb]
theorem rO_e (q : Nat → Int) (h0 : 0 ≤ q 3) : ∀ (a : Nat) (p : Int × Int), rO q (q 3).toNat a p = cb (cO q a) p := by
  intro a
  induction a with
  | zero => intro p; exact (E_cb p).symm
  | succ a ih =>
    intro p
    simp only [rO, cO]
    rw [ih, rI_e q a _ p (by omega), cb_as (cO_G q a) (cR_G q a _)]
theorem rvI_e {s t : jz_St} (h : H3 s t) {a : Nat} (ha : a < 7) {p : Int × Int} (hp : cG p) : ∀ b, b ≤ 7 → fRvI s a p b = cb p (cR (t 420) a b) := by
  intro b
  induction b with
  | zero => intro _; exact (cb_E p hp).symm
  | succ b ih =>
    intro hb
    simp only [fRvI, cR]
    rw [ih (by omega), ← cb_as hp (cR_G _ a b)]
    have hG := cb_G hp (cR_G (t 420) a b)
    have hc := o_rivals_c h ha (show b < 7 by omega)
    by_cases c : fRvC s a b
    · rw [if_pos c]
      unfold cS
      rw [if_pos (hc.1 c)]
      rfl
    · rw [if_neg c]
      unfold cS
      rw [if_neg (fun x => c (hc.2 x)), cb_E _ hG]
theorem rvO_e {s t : jz_St} (h : H3 s t) : ∀ a, a ≤ 7 → fRvO s a = cO (t 420) a := by
  have hn := H3_n h
  intro a
  induction a with
  | zero => intro _; rfl
  | succ a ih =>
    intro ha
    simp only [fRvO, cO]
    rw [ih (by omega), rvI_e h (by omega) (cO_G _ a) 7 (by omega)]
    have e := cR_L (t 420) a (7 - (t 420 3).toNat)
    rw [show (t 420 3).toNat + (7 - (t 420 3).toNat) = 7 by omega] at e
    rw [e]
theorem o_rivals {s t : jz_St} (h : H3 s t) (w : Int) : v_X7_rivals s w = v_X8_rivals t w := by
  have hn := H3_n h
  have e1 := rvO_e h 7 (by omega)
  have e2 := cO_L (t 420) (7 - (t 420 3).toNat)
  rw [show (t 420 3).toNat + (7 - (t 420 3).toNat) = 7 by omega] at e2
  have e3 := rO_e (t 420) (by omega) (t 420 3).toNat (0, -1000000)
  have e4 : cb (cO (t 420) (t 420 3).toNat) (0, -1000000) = cO (t 420) (t 420 3).toNat := cb_E _ (cO_G _ _)
  unfold v_X7_rivals v_X8_rivals
  rw [e1, e2, e3, e4]
  by_cases c0 : t 420 0 = 1
  · rw [if_pos c0, if_neg (show ¬ s 344 2 ≤ 0 by omega)]
  · rw [if_neg c0, if_pos (show s 344 2 ≤ 0 by omega)]
