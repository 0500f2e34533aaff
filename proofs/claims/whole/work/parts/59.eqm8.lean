/-! hangs and drives -/
theorem hg_mq {t : jz_St} {c : Nat} {b b2 : Int} (h : mRq (t 422) b) (h2 : mRw (t 420) b2) {j : Nat} (hj : j ≤ 7) : mRq (f_X8_hg t c j 422) b :=
  mRq_of h (hg_mr h.1 h2 j hj) (hg_n _ _ (by omega) j hj) (hg_n _ _ (by omega) j hj) (hg_n _ _ (by omega) j hj) (fun l hl => ⟨hg_n _ _ (by omega) j hj, fun q => by rw [hg_n _ _ (by omega) j hj]; exact q⟩)
theorem hgs_att {s t s1 t1 : jz_St} (h : H3 s t) (hs : ∀ x, jOff 358 x → s1 x = s x) (ht : t1 420 = t 420) {u n c : Nat} (hu : u < 128) (hc : c < 128) :
    (fAtt s1 false (u : Int) n c).1 = if jand (rIF (rHgA t1 n c 422) (rHgA t1 n c 422 3).toNat) (u : Int) = u then 1 else 0 := by
  have hn := H3_n h
  have hT := att_T h hs ht
  have e3 : f_X8_layThen t1 422 3 = t1 420 3 := layThen_in t1 (by decide)
  have e20 : f_X8_layThen t1 420 = t1 420 := layThen_o t1 (by decide)
  have h1 := jR_hot (c := c) hT.1 hT.2.1 (fun i hi => by rw [layThen_in t1 hi, e20]) hc
  rw [e3] at h1
  have h2 := hg_mq (t := f_X8_layThen t1) (c := c) hT.2 (b2 := 999) (by rw [e20, ht]; exact h.2.1.2.1.1) (j := (t1 420 3).toNat) (by rw [ht]; omega)
  exact keep_e hu (jR_f h1 (m2 := n)) h2
theorem drs_att {s t s1 t1 : jz_St} (h : H3 s t) (hs : ∀ x, jOff 358 x → s1 x = s x) (ht : t1 420 = t 420) {u c : Nat} {n : Int} (hn : 0 ≤ n ∧ n ≤ 60) (hu : u < 128) (hc : c < 128) :
    (fAtt s1 true (u : Int) n.toNat c).1 = if jand (rIF (rDrA t1 n c 422) (rDrA t1 n c 422 3).toNat) (u : Int) = u then 1 else 0 := by
  have hD := att_D h hs ht hn hc
  have e := keep_e hu hD.1 hD.2
  rw [show (fAtt s1 true (u : Int) n.toNat c).1 = (fKeep (f_X5_drv (f_X5_take s1 358 344) 358 c ((n.toNat : Nat) : Int) 4) 358 (u : Int) n.toNat).1 from rfl, show ((n.toNat : Nat) : Int) = n by omega]
  exact e
theorem hgs_bst {s t : jz_St} (h : H3 s t) {u n al : Nat} (hu : u < 128) (hal : al < 128) : ∀ (m c : Nat) (t1 : jz_St) (best : Int), c + m = al + 1 → t1 420 = t 420 → bst (fun c => (fAtt s false (u : Int) n c).1 ≠ 0) al c best →
    bst (fun c => (fAtt s false (u : Int) n c).1 ≠ 0) al (al + 1) (rHg t1 (al : Int) (u : Int) n best c m).1 := by
  intro m
  induction m with
  | zero =>
    intro c t1 best hc _ hb
    obtain rfl : c = al + 1 := by omega
    exact hb
  | succ m ih =>
    intro c t1 best hc ht hb
    have e := hgs_att h (fun _ _ => rfl) ht (n := n) hu (show c < 128 by omega)
    have ht2 : rHgA t1 n c 420 = t 420 := by rw [hgA_o _ _ _ (by decide) (by decide) (by decide)]; exact ht
    simp only [rHg]
    by_cases q : jand (c : Int) (jxor (al : Int) (-1)) = 0 ∧ (best = -1000000 ∨ fBC c < fBC best.toNat)
    · rw [if_pos q]
      have q2 := (sub_t al hal c (by omega)).1 q.1
      by_cases q3 : jand (rIF (rHgA t1 n c 422) (rHgA t1 n c 422 3).toNat) (u : Int) = u
      · rw [if_pos q3] at e ⊢
        exact ih (c + 1) _ _ (by omega) ht2 (bst_yes hb ⟨by omega, q2, by show (fAtt s false (u : Int) n c).1 ≠ 0; rw [e]; decide⟩ q.2)
      · rw [if_neg q3] at e ⊢
        exact ih (c + 1) _ _ (by omega) ht2 (bst_no hb (Or.inl (fun g => g.2.2 e)))
    · rw [if_neg q]
      refine ih (c + 1) _ _ (by omega) ht (bst_no hb ?_)
      by_cases q2 : jand (c : Int) (jxor (al : Int) (-1)) = 0
      · right
        have q3 : ¬ (best = -1000000 ∨ fBC c < fBC best.toNat) := fun x => q ⟨q2, x⟩
        exact ⟨fun x => q3 (Or.inl x), Int.not_lt.1 (fun x => q3 (Or.inr x))⟩
      · left
        intro g
        exact q2 ((sub_t al hal c (by omega)).2 g.2.1)
theorem drs_bst {s t : jz_St} (h : H3 s t) {u al : Nat} {n : Int} (hn : 0 ≤ n ∧ n ≤ 60) (hu : u < 128) (hal : al < 128) : ∀ (m c : Nat) (t1 : jz_St) (best : Int), (∀ x : Nat, x ≤ al → x &&& al = x) → c + m = al + 1 → t1 420 = t 420 → bst (fun c => (fAtt s true (u : Int) n.toNat c).1 ≠ 0) al c best →
    bst (fun c => (fAtt s true (u : Int) n.toNat c).1 ≠ 0) al (al + 1) (rDr t1 (u : Int) n best c m).1 := by
  intro m
  induction m with
  | zero =>
    intro c t1 best _ hc _ hb
    obtain rfl : c = al + 1 := by omega
    exact hb
  | succ m ih =>
    intro c t1 best hsub hc ht hb
    have e := drs_att h (fun _ _ => rfl) ht hn hu (show c < 128 by omega)
    have ht2 : rDrA t1 n c 420 = t 420 := by rw [drA_o _ _ _ (by decide) (by decide) (by decide)]; exact ht
    simp only [rDr]
    by_cases q : best = -1000000 ∨ fBC c < fBC best.toNat
    · rw [if_pos q]
      by_cases q3 : jand (rIF (rDrA t1 n c 422) (rDrA t1 n c 422 3).toNat) (u : Int) = u
      · rw [if_pos q3] at e ⊢
        exact ih (c + 1) _ _ hsub (by omega) ht2 (bst_yes hb ⟨by omega, hsub c (by omega), by show (fAtt s true (u : Int) n.toNat c).1 ≠ 0; rw [e]; decide⟩ q)
      · rw [if_neg q3] at e ⊢
        exact ih (c + 1) _ _ hsub (by omega) ht2 (bst_no hb (Or.inl (fun g => g.2.2 e)))
    · rw [if_neg q]
      exact ih (c + 1) _ _ hsub (by omega) ht (bst_no hb (Or.inr ⟨fun x => q (Or.inl x), Int.not_lt.1 (fun x => q (Or.inr x))⟩))
theorem mhg_off {op l : Int} {n x : Nat} (h1 : x ≠ 422) (h2 : x ≠ 425) (h3 : x ≠ 426) : ∀ (m c : Nat) (t : jz_St) (best : Int), (rHg t op l n best c m).2 x = t x := by
  intro m
  induction m with
  | zero => intro c t best; rfl
  | succ m ih =>
    intro c t best
    simp only [rHg]
    split
    · rw [ih, hgA_o _ _ _ h1 h2 h3]
    · exact ih _ _ _
theorem mdr_offs {l n : Int} {x : Nat} (h1 : x ≠ 422) (h2 : x ≠ 425) (h3 : x ≠ 426) : ∀ (m c : Nat) (t : jz_St) (best : Int), (rDr t l n best c m).2 x = t x := by
  intro m
  induction m with
  | zero => intro c t best; rfl
  | succ m ih =>
    intro c t best
    simp only [rDr]
    split
    · rw [ih, drA_o _ _ _ h1 h2 h3]
    · exact ih _ _ _
theorem rBst_e {b w : Int} (hw : 0 ≤ w ∧ w ≤ 1) : (if w = 0 ∧ b ≠ -1000000 then fBC b.toNat else b) = rBst b w := by
  unfold rBst
  by_cases c : b = -1000000 ∨ w = 1
  · rw [if_pos c, if_neg (by omega)]
  · rw [if_neg c, if_pos (by omega)]
theorem o_hangs {s t : jz_St} (h : H3 s t) (l n w : Int) : v_X7_hangs s l n w = v_X8_hangs t l n w ∧ OK s t (f_X7_hangs s l n w) (f_X8_hangs t l n w) := by
  have hn := H3_n h
  have hnv := jR_nv h.1.2.1 h.2.1.2.1.1
  unfold v_X7_hangs v_X8_hangs f_X7_hangs f_X8_hangs
  rw [hnv, hn.1.1]
  obtain ⟨a, e1, e2⟩ := rOp_n (q := t 420) (t 420 3).toNat (by omega)
  rw [e1]
  have h7 : 2 ^ (t 420 3).toNat ≤ 2 ^ 7 := Nat.pow_le_pow_right (by decide) (by omega)
  have hsh := shl_r hn.2.1
  by_cases c0 : t 420 0 = 1
  · rw [if_pos c0, if_pos c0, if_neg (show ¬ t 420 3 ≤ 0 by omega), if_neg (show ¬ t 420 3 ≤ 0 by omega)]
    by_cases c : (0 ≤ l ∧ l < jshl 1 (t 420 3)) ∧ (1 ≤ n ∧ n ≤ 30) ∧ 0 ≤ w ∧ w ≤ 1
    · have c' : (0 ≤ l ∧ l ≤ jshl 1 (t 420 3) - 1) ∧ (1 ≤ n ∧ n ≤ 30) ∧ 0 ≤ w ∧ w ≤ 1 := by omega
      rw [if_pos c, if_pos c, if_pos c', if_pos c', show ((a : Int)).toNat = a by omega, rBst_e c.2.2]
      have hu : l.toNat < 128 := by omega
      have hP : ∀ (s1 : jz_St) (c : Nat), (∀ x, jOff 358 x → s1 x = s x) → c ≤ a → ((fAtt s1 false ((l.toNat : Nat) : Int) n.toNat c).1 ≠ 0 ↔ (fAtt s false ((l.toNat : Nat) : Int) n.toNat c).1 ≠ 0) := by
        intro s1 c hs hc
        rw [hgs_att h hs rfl (n := n.toNat) hu (show c < 128 by omega), hgs_att h (fun _ _ => rfl) rfl (n := n.toNat) hu (show c < 128 by omega)]
      have hO := fwO_s (dr := false) (told := ((l.toNat : Nat) : Int)) (n := n.toNat) (fun c => (fAtt s false ((l.toNat : Nat) : Int) n.toNat c).1 ≠ 0) (show a < 128 by omega) s hP 8 0 s (fun _ _ => rfl)
      have hB := hgs_bst h (n := n.toNat) hu (show a < 128 by omega) (a + 1) 0 t (-1000000) (by omega) rfl (Or.inl ⟨rfl, fun x hx => absurd hx (Nat.not_lt_zero x)⟩)
      rw [show ((l.toNat : Nat) : Int) = l by omega] at hO hB
      have e := bst_eq (show a < 128 by omega) hB hO.1 hO.2
      rw [e]
      exact ⟨rfl, OK_t h (fun x hx => fwO_off hx _ _ _) (fun x h1 h2 h3 => mhg_off h1 h2 h3 _ _ _ _)⟩
    · have c' : ¬ ((0 ≤ l ∧ l ≤ jshl 1 (t 420 3) - 1) ∧ (1 ≤ n ∧ n ≤ 30) ∧ 0 ≤ w ∧ w ≤ 1) := by omega
      rw [if_neg c, if_neg c, if_neg c', if_neg c']
      exact ⟨rfl, OK_id h⟩
  · rw [if_neg c0, if_neg c0, if_pos (show t 420 3 ≤ 0 by omega), if_pos (show t 420 3 ≤ 0 by omega)]
    exact ⟨rfl, OK_id h⟩
theorem sub_all : ∀ g : Nat, g ≤ 4 → ∀ x : Nat, x < 2 ^ g → x &&& (2 ^ g - 1) = x := by decide +kernel
theorem o_drives {s t : jz_St} (h : H3 s t) (l n w : Int) : v_X7_drives s l n w = v_X8_drives t l n w ∧ OK s t (f_X7_drives s l n w) (f_X8_drives t l n w) := by
  have hn := H3_n h
  unfold v_X7_drives v_X8_drives f_X7_drives f_X8_drives
  rw [hn.1.1, hn.1.2]
  have hsh := shl_r hn.2.1
  have hg := shl_7 (t 420 4).toNat (by omega)
  rw [show (((t 420 4).toNat : Nat) : Int) = t 420 4 by omega] at hg
  have hp4 : 2 ^ (t 420 4).toNat ≤ 2 ^ 4 := Nat.pow_le_pow_right (by decide) (by omega)
  have hp0 : 0 < 2 ^ (t 420 4).toNat := Nat.pow_pos (by decide)
  have hall := sub_all (t 420 4).toNat (by omega)
  obtain ⟨al, hal⟩ : ∃ al, al + 1 = 2 ^ (t 420 4).toNat := ⟨2 ^ (t 420 4).toNat - 1, by omega⟩
  have ea : (jshl 1 (t 420 4) - 1).toNat = al := by omega
  have eb : (jshl 1 (t 420 4)).toNat = al + 1 := by omega
  rw [ea, eb]
  by_cases c0 : t 420 0 = 1
  · rw [if_pos c0, if_pos c0, if_neg (show ¬ t 420 3 ≤ 0 by omega), if_neg (show ¬ t 420 3 ≤ 0 by omega)]
    by_cases c : (0 ≤ l ∧ l < jshl 1 (t 420 3)) ∧ (1 ≤ n ∧ n ≤ 30) ∧ 0 ≤ w ∧ w ≤ 1
    · have c' : (0 ≤ l ∧ l ≤ jshl 1 (t 420 3) - 1) ∧ (1 ≤ n ∧ n ≤ 30) ∧ 0 ≤ w ∧ w ≤ 1 := by omega
      rw [if_pos c, if_pos c, if_pos c', if_pos c', rBst_e c.2.2]
      have hu : l.toNat < 128 := by omega
      have hP : ∀ (s1 : jz_St) (c : Nat), (∀ x, jOff 358 x → s1 x = s x) → c ≤ al → ((fAtt s1 true ((l.toNat : Nat) : Int) n.toNat c).1 ≠ 0 ↔ (fAtt s true ((l.toNat : Nat) : Int) n.toNat c).1 ≠ 0) := by
        intro s1 c hs hc
        rw [drs_att h hs rfl (n := n) (by omega) hu (show c < 128 by omega), drs_att h (fun _ _ => rfl) rfl (n := n) (by omega) hu (show c < 128 by omega)]
      have hO := fwO_s (dr := true) (told := ((l.toNat : Nat) : Int)) (n := n.toNat) (fun c => (fAtt s true ((l.toNat : Nat) : Int) n.toNat c).1 ≠ 0) (show al < 128 by omega) s hP 8 0 s (fun _ _ => rfl)
      have hB := drs_bst h (n := n) (by omega) hu (show al < 128 by omega) (al + 1) 0 t (-1000000) (fun x hx => by have := hall x (by omega); rw [show 2 ^ (t 420 4).toNat - 1 = al by omega] at this; exact this) (by omega) rfl (Or.inl ⟨rfl, fun x hx => absurd hx (Nat.not_lt_zero x)⟩)
      rw [show ((l.toNat : Nat) : Int) = l by omega] at hO hB
      have e := bst_eq (show al < 128 by omega) hB hO.1 hO.2
      rw [e]
      exact ⟨rfl, OK_t h (fun x hx => fwO_off hx _ _ _) (fun x h1 h2 h3 => mdr_offs h1 h2 h3 _ _ _ _)⟩
    · have c' : ¬ ((0 ≤ l ∧ l ≤ jshl 1 (t 420 3) - 1) ∧ (1 ≤ n ∧ n ≤ 30) ∧ 0 ≤ w ∧ w ≤ 1) := by omega
      rw [if_neg c, if_neg c, if_neg c', if_neg c']
      exact ⟨rfl, OK_id h⟩
  · rw [if_neg c0, if_neg c0, if_pos (show t 420 3 ≤ 0 by omega), if_pos (show t 420 3 ≤ 0 by omega)]
    exact ⟨rfl, OK_id h⟩
