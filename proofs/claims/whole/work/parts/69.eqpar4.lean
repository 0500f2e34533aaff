theorem clL_5 (s : jz_St) (k : Nat) : ∀ j l, l < j → f_X5_clL s k j (k + 3 + l) 5 = 0 := by
  intro j
  induction j with
  | zero => intro l hl; omega
  | succ j ih =>
    intro l hl
    simp only [f_X5_clL]
    by_cases e : l = j
    · subst e; rw [jz_su_s]
    · rw [jz_su_o (by omega)]; exact ih l (by omega)
theorem clG_3 (s : jz_St) (k : Nat) : ∀ j g, g < j → f_X5_clG s k j (k + 10 + g) 3 = 0 := by
  intro j
  induction j with
  | zero => intro l hl; omega
  | succ j ih =>
    intro l hl
    simp only [f_X5_clG]
    by_cases e : l = j
    · subst e; rw [jz_su_s]
    · rw [jz_su_o (by omega)]; exact ih l (by omega)
theorem clG_n (s : jz_St) (k : Nat) {x i : Nat} (hi : i ≠ 3) : ∀ j, f_X5_clG s k j x i = s x i := by
  intro j
  induction j with
  | zero => rfl
  | succ j ih => simp only [f_X5_clG]; rw [jz_su_f hi, ih]
theorem clear_5 (s : jz_St) (k : Nat) {l : Nat} (hl : l < 7) : f_X5_clear s k (k + 3 + l) 5 = 0 := by
  unfold f_X5_clear
  rw [clG_n _ _ (by decide), clL_5 _ _ 7 l hl]
theorem clear_g3 (s : jz_St) (k : Nat) {g : Nat} (hg : g < 4) : f_X5_clear s k (k + 10 + g) 3 = 0 := by
  unfold f_X5_clear
  exact clG_3 _ _ 4 g hg
theorem clear_g1 (s : jz_St) (k : Nat) {g : Nat} (hg : g < 4) : f_X5_clear s k (k + 10 + g) 1 = s (k + 10 + g) 1 := by
  unfold f_X5_clear
  rw [clG_n _ _ (by decide), clL_2 _ _ _ _ (fun m hm => by omega), jz_su_o (by omega), jz_su_o (by omega), jz_su_o (by omega)]
theorem gS_head {u : Nat → Int} {s t : jz_St} (hu : ∀ p, u p = -1 ∨ 0 ≤ u p) (h1 : fBn s = u) (h2 : mBn t = u) (hT : cT s) :
    gS u (f_X6_rH s 358) (f_X8_sqD t) ∧ cG2 (f_X6_rH s 358) (f_X8_sqD t) ∧ f_X8_sqD t 421 3 = 0 ∧ f_X8_sqD t 421 4 = 0 := by
  unfold f_X6_rH
  simp only
  have c2 : f_X5_clear s 358 2 = s 2 := clear_o s 358 (by omega)
  have c3 : f_X5_clear s 358 3 = s 3 := clear_o s 358 (by omega)
  have pA : pS u (f_X6_adv (jz_su (jz_su (f_X5_clear s 358) 2 6 0) 2 3 0)) (f_X8_sqA t) := by
    have p0 : pS u (f_X6_adv (jz_su (jz_su (f_X5_clear s 358) 2 6 0) 2 3 0)) (f_X8_next (jz_su (jz_su t 416 12 0) 416 16 0)) := by
      refine pS_go (q := 0) ?_ ?_ ?_ ?_ ?_ ?_ (by omega)
      · rw [fBn_e (s := s) (by rw [jz_su_f (by decide), jz_su_f (by decide), c2]) (by rw [jz_su_o (by decide), jz_su_o (by decide), c3])]; exact h1
      · rw [mBn_e (s := t) (by rw [jz_su_f (by decide), jz_su_f (by decide)]) (by rw [jz_su_o (by decide), jz_su_o (by decide)])]; exact h2
      · rw [jz_su_f (by decide), jz_su_s]
      · rw [jz_su_s]
      · rw [jz_su_s]; rfl
      · rw [jz_su_f (by decide), jz_su_s]; rfl
    refine pS_fr p0 rfl rfl ?_ ?_
    · unfold f_X8_sqA f_X8_begin; rw [jz_su_o (by decide), zf_o _ (by decide)]
    · unfold f_X8_sqA f_X8_begin; rw [jz_su_o (by decide), zf_o _ (by decide)]
  have oA : ∀ x, x ≠ 2 → f_X6_adv (jz_su (jz_su (f_X5_clear s 358) 2 6 0) 2 3 0) x = f_X5_clear s 358 x := by
    intro x hx
    rw [adv_o _ hx, jz_su_o hx, jz_su_o hx]
  generalize f_X6_adv (jz_su (jz_su (f_X5_clear s 358) 2 6 0) 2 3 0) = s0 at pA oA ⊢
  have pB : pS u (f_X6_tS s0 118) (f_X8_sqB t) := by
    unfold f_X8_sqB
    exact pS_tL pA (by decide)
  have oB : ∀ x, x ≠ 2 → f_X6_tS s0 118 x = f_X5_clear s 358 x := fun x hx => by rw [tS_o _ _ hx, oA x hx]
  generalize f_X6_tS s0 118 = s1 at pB oB ⊢
  have n1 := pS_tN pB hu 0 9
  have r1 := tN_v s1 (lo := 0) (hi := 9) (by decide) (by decide)
  have pC' : pS u (f_X6_tS (jz_su (f_X6_tN s1 0 9) 358 4 (v_X6_tN s1 0 9)) 44) (f_X8_sqC t) := by
    unfold f_X8_sqC
    exact pS_tS (pS_fr n1.1 (jz_su_o (by decide)) (jz_su_o (by decide)) (jz_su_o (by decide)) (jz_su_o (by decide))) (Or.inl rfl)
  generalize hs2 : f_X6_tS (jz_su (f_X6_tN s1 0 9) 358 4 (v_X6_tN s1 0 9)) 44 = s2 at pC' ⊢
  have n2 := pS_tN pC' hu 1 9
  have pD : pS u (f_X6_tS (jz_su (f_X6_tN s2 1 9) 358 5 (v_X6_tN s2 1 9)) 59) (f_X8_sqD t) := by
    unfold f_X8_sqD
    exact pS_tS (pS_fr n2.1 (jz_su_o (by decide)) (jz_su_o (by decide)) (jz_su_o (by decide)) (jz_su_o (by decide))) (Or.inr rfl)
  generalize hs3 : f_X6_tS (jz_su (f_X6_tN s2 1 9) 358 5 (v_X6_tN s2 1 9)) 59 = s3 at pD ⊢
  have o3 : ∀ x, x ≠ 2 → s3 x = jz_su (jz_su (f_X5_clear s 358) 358 4 (v_X6_tN s1 0 9)) 358 5 (v_X6_tN s2 1 9) x := by
    intro x hx
    rw [← hs3, tS_o _ _ hx]
    funext y
    unfold jz_su
    rw [tN_o _ _ _ hx, ← hs2, tS_o _ _ hx]
    unfold jz_su
    rw [tN_o _ _ _ hx, oB x hx]
  have ox : ∀ x, x ≠ 2 → x ≠ 358 → s3 x = f_X5_clear s 358 x := fun x hx hx2 => by rw [o3 x hx, jz_su_o hx2, jz_su_o hx2]
  have m : ∀ i, i < 53 → f_X8_sqD t 421 i = if i = 2 then v_X8_number (f_X8_sqC t) 1 9 else if i = 1 then v_X8_number (f_X8_sqB t) 0 9 else if i = 0 then 1 else 0 := by
    intro i hi
    unfold f_X8_sqD
    rw [sign_o _ _ (by decide)]
    by_cases e2 : i = 2
    · subst e2; rw [jz_su_s, if_pos rfl]
    · rw [jz_su_f e2, if_neg e2, number_o _ _ _ (by decide)]
      show f_X8_sqC t 421 i = _
      unfold f_X8_sqC
      rw [sign_o _ _ (by decide)]
      by_cases e1 : i = 1
      · subst e1; rw [jz_su_s, if_pos rfl]
      · rw [jz_su_f e1, if_neg e1, number_o _ _ _ (by decide)]
        show f_X8_sqB t 421 i = _
        unfold f_X8_sqB
        rw [must_o _ _ (by decide)]
        show f_X8_sqA t 421 i = _
        unfold f_X8_sqA
        by_cases e0 : i = 0
        · subst e0; rw [jz_su_s, if_pos rfl]
        · rw [jz_su_f e0, if_neg e0, zf_in, if_pos hi]
  have m3 : f_X8_sqD t 421 3 = 0 := m 3 (by decide)
  have m4 : f_X8_sqD t 421 4 = 0 := m 4 (by decide)
  have ck := clear_k s 358
  have k2 : s3 358 2 = 0 := by
    rw [o3 358 (by decide), jz_su_f (by decide), jz_su_f (by decide), ck, jz_su_f (by decide), jz_su_f (by decide), jz_su_s]
  have k3 : s3 358 3 = 0 := by
    rw [o3 358 (by decide), jz_su_f (by decide), jz_su_f (by decide), ck, jz_su_f (by decide), jz_su_s]
  have k4 : s3 358 4 = v_X6_tN s1 0 9 := by
    rw [o3 358 (by decide), jz_su_f (by decide), jz_su_s]
  have k5 : s3 358 5 = v_X6_tN s2 1 9 := by
    rw [o3 358 (by decide), jz_su_s]
  have k6 : s3 358 6 = 0 := by
    rw [o3 358 (by decide), jz_su_f (by decide), jz_su_f (by decide), ck, jz_su_s]
  refine ⟨⟨pD, fun h36 => ?_⟩, ⟨⟨by rw [k4]; exact r1.1, fun g hg => ?_⟩, fun g hg => ?_, fun g hg => ?_⟩, m3, m4⟩
  · have a2 : f_X6_tN s2 1 9 2 6 = 0 := by
      rw [← hs3] at h36
      have := tS_6 h36
      rwa [jz_su_o (by decide)] at this
    have b2 := n2.2 a2
    have a1 : f_X6_tN s1 0 9 2 6 = 0 := by
      have h26 := b2.1
      rw [← hs2] at h26
      have := tS_6 h26
      rwa [jz_su_o (by decide)] at this
    have b1 := n1.2 a1
    have m1 : f_X8_sqD t 421 1 = v_X6_tN s1 0 9 := by rw [m 1 (by decide), b1.2.1]; rfl
    have m2 : f_X8_sqD t 421 2 = v_X6_tN s2 1 9 := by rw [m 2 (by decide), b2.2.1]; rfl
    refine ⟨⟨?_, fun l hl hcl => ?_, fun l hl hcl => ?_, fun g hg hcg => ?_⟩, fun i hi => ?_, fun l hl hcl => ?_, ?_, ?_⟩
    · rw [k2, k3, k4, k5, k6, m3, m4, m1, m2, m 5 (by decide)]
      exact ⟨rfl, rfl, rfl, rfl, rfl⟩
    · omega
    · rw [ox _ (by omega) (by omega)]; exact clear_5 s 358 hl
    · omega
    · by_cases e2 : i = 2
      · subst e2; rw [m2]; show 0 ≤ _ ∧ _ ≤ (9 : Int); omega
      · by_cases e1 : i = 1
        · subst e1; rw [m1]; show 0 ≤ _ ∧ _ ≤ (9 : Int); omega
        · by_cases e0 : i = 0
          · subst e0; rw [m 0 (by decide)]; show (0 : Int) ≤ 1 ∧ (1 : Int) ≤ 1; omega
          · rw [m i hi, if_neg e2, if_neg e1, if_neg e0]
            unfold mHi
            (repeat' split) <;> omega
    · omega
    · rw [m 0 (by decide)]; rfl
    · rw [m 5 (by decide)]; rfl
  · rw [ox _ (by omega) (by omega), clear_g1 s 358 hg]; exact hT.2 g hg
  · rw [ox _ (by omega) (by omega)]; exact clear_g3 s 358 hg
  · rw [m _ (by omega), if_neg (by omega), if_neg (by omega), if_neg (by omega)]
/-! the loops -/
def gB (u : Nat → Int) (s t : jz_St) : Prop := gS u s t ∧ cG2 s t ∧ jCt s 358 ∧ (0 ≤ t 421 3 ∧ t 421 3 ≤ 7) ∧ (0 ≤ t 421 4 ∧ t 421 4 ≤ 4)
theorem isSort_e {u : Nat → Int} {s t : jz_St} (h : pS u s t) (h6 : s 2 6 = 0) : v_X8_isSort t = 0 ↔ fSort (s 2 4) = 0 := by
  have h16 : t 416 16 = 0 := by have := pS_f0 h; omega
  rcases h.2.2 with ⟨q1, q2, p, hp, q3⟩ | q
  · have ts := (tok_sort u p).1
    rw [← q3.2.2.2.2.1, ← q3.2.2.2.2.2.2.1, ← q3.2.2.2.2.2.2.2] at ts
    unfold v_X8_isSort
    by_cases e : fSort (s 2 4) = 0
    · rw [if_neg (fun x => (ts.2 x.2) e)]; exact ⟨fun _ => e, fun _ => rfl⟩
    · rw [if_pos ⟨h16, ts.1 e⟩]; exact ⟨fun x => absurd x (by decide), fun x => absurd x e⟩
  · exact absurd h6 (by have := q.1; omega)
theorem isSort_0 {t : jz_St} (h : t 416 16 ≠ 0) : v_X8_isSort t = 0 := by
  unfold v_X8_isSort
  rw [if_neg (fun x => h x.1)]
theorem isG_e {u : Nat → Int} {s t : jz_St} (h : pS u s t) (h6 : s 2 6 = 0) : (v_X8_isLetter t 103 = 0 ↔ ¬ s 2 4 = 103) ∧ (t 416 14 ≠ 1 ↔ s 2 4 ≠ -1) := by
  have h16 : t 416 16 = 0 := by have := pS_f0 h; omega
  rcases h.2.2 with ⟨q1, q2, p, hp, q3⟩ | q
  · have hk := tok_let u p (c := 103) (by decide)
    have he := tok_end u p
    rw [← q3.2.2.2.2.1, ← q3.2.2.2.2.2.2.1, ← q3.2.2.2.2.2.2.2] at hk
    rw [← q3.2.2.2.2.1, ← q3.2.2.2.2.2.2.1] at he
    refine ⟨?_, fun x y => x (he.1 y), fun x y => x (he.2 y)⟩
    unfold v_X8_isLetter
    by_cases e : s 2 4 = 103
    · rw [if_pos ⟨h16, hk.1 e⟩]; exact ⟨fun x => absurd x (by decide), fun x => absurd e x⟩
    · rw [if_neg (fun x => e (hk.2 x.2))]; exact ⟨fun _ => e, fun _ => rfl⟩
  · exact absurd h6 (by have := q.1; omega)
theorem isG_0 {t : jz_St} (h : t 416 16 ≠ 0) : v_X8_isLetter t 103 = 0 := by
  unfold v_X8_isLetter
  rw [if_neg (fun x => h x.1)]
theorem rL_m0 {t : jz_St} (h : v_X8_isSort t = 0) (m : Nat) : f_X8_rL t m = t := by
  cases m with
  | zero => rfl
  | succ m => simp only [f_X8_rL]; rw [if_pos h]
theorem rG_m0 {t : jz_St} (h : v_X8_isLetter t 103 = 0) (m : Nat) : f_X8_rG t m = t := by
  cases m with
  | zero => rfl
  | succ m => simp only [f_X8_rG]; rw [if_pos h]
theorem cG2_fr {s t s' t' : jz_St} (h : cG2 s t) (hs : ∀ x, 358 ≤ x → x < 372 → s' x = s x) (ht : t' 421 = t 421) : cG2 s' t' := by
  refine ⟨cT_eq h.1 hs, fun g hg => by rw [hs _ (by omega) (by omega)]; exact h.2.1 g hg, fun g hg => by rw [ht]; exact h.2.2 g hg⟩
theorem gB_bad {u : Nat → Int} {s t : jz_St} (h : gB u s t) (h6 : s 2 6 = 0) {k : Int} (hk : 0 < k) : gB u (jz_su s 2 6 k) (f_X8_bad t k) := by
  refine ⟨⟨pS_bad h.1.1 h6 hk, fun x => by rw [jz_su_s] at x; omega⟩, cG2_fr h.2.1 (fun x _ _ => jz_su_o (by omega)) (bad_o t k (by decide)), ?_, by rw [bad_o _ _ (by decide)]; exact h.2.2.2.1, by rw [bad_o _ _ (by decide)]; exact h.2.2.2.2⟩
  unfold jCt
  rw [jz_su_o (by decide)]
  exact h.2.2.1
theorem gB_leaf {u : Nat → Int} {s t : jz_St} (hu : ∀ p, u p = -1 ∨ 0 ≤ u p) (h : gB u s t) (h6 : s 2 6 = 0) (hso : fSort (s 2 4) ≠ 0) :
    gB u (f_X6_readLeaf s 358) (f_X8_readLeaf t) ∧ (f_X6_readLeaf s 358 2 6 = 0 → f_X8_readLeaf t 421 3 = t 421 3 + 1) ∧ f_X8_readLeaf t 421 4 = t 421 4 := by
  have hl := gS_leaf hu h.1 h6 hso
  have hc := readLeaf_c (s := t) (j := t 421 3) rfl h.2.2.2.1
  refine ⟨⟨hl.1, rl_g h.2.2.1 h.2.2.2.1 h.2.1, readLeaf_ct (by decide) h.2.2.1, ?_, by rw [hc.1]; exact h.2.2.2.2⟩, fun x => (hl.2 x).1, hc.1⟩
  have := h.2.2.2.1
  omega
theorem gB_goat {u : Nat → Int} {s t : jz_St} (hu : ∀ p, u p = -1 ∨ 0 ≤ u p) (h : gB u s t) (h6 : s 2 6 = 0) (hso : s 2 4 = 103) :
    gB u (f_X6_readGoat s 358) (f_X8_readGoat t) ∧ (f_X6_readGoat s 358 2 6 = 0 → f_X8_readGoat t 421 4 = t 421 4 + 1) ∧ f_X8_readGoat t 421 3 = t 421 3 := by
  have hl := gS_goat hu h.1 h.2.1 h6 hso
  have hc := readGoat_c (s := t) (j := t 421 4) rfl h.2.2.2.2
  refine ⟨⟨hl.1, hl.2.1, readGoat_ct (by decide) h.2.2.1, by rw [hc.1]; exact h.2.2.2.1, ?_⟩, fun x => (hl.2.2 x).1, hc.1⟩
  have := h.2.2.2.2
  omega
theorem gB_rL {u : Nat → Int} (hu : ∀ p, u p = -1 ∨ 0 ≤ u p) : ∀ (m i : Nat) (s t : jz_St), 1 ≤ i → i + m = 8 → gB u s t → (s 2 6 = 0 → t 421 3 = i) → t 421 4 = 0 →
    gB u (f_X6_rL s 358 i m) (f_X8_rL t (m + 1)) ∧ (f_X6_rL s 358 i m 2 6 = 0 → 1 ≤ f_X8_rL t (m + 1) 421 3) ∧ f_X8_rL t (m + 1) 421 4 = 0 := by
  intro m
  induction m with
  | zero =>
    intro i s t hi him h hc h4
    have h6 : ¬ s 2 6 = 0 := by
      intro x
      have := hc x
      have := h.2.2.2.1
      omega
    have h16 : t 416 16 ≠ 0 := by have := pS_f0 h.1.1; omega
    rw [rL_m0 (isSort_0 h16)]
    exact ⟨h, fun x => absurd x h6, h4⟩
  | succ m ih =>
    intro i s t hi him h hc h4
    by_cases h6 : s 2 6 = 0
    · have hs := isSort_e h.1.1 h6
      by_cases e : fSort (s 2 4) = 0
      · rw [rL_m0 (hs.2 e)]
        simp only [f_X6_rL]
        rw [if_neg (show ¬ (s 2 6 = 0 ∧ (i = 0 ∨ fSort (s 2 4) ≠ 0)) by omega)]
        exact ⟨h, fun x => by have := hc x; omega, h4⟩
      · have hl := gB_leaf hu h h6 e
        have hr := ih (i + 1) _ _ (by omega) (by omega) hl.1 (fun x => by have a := hl.2.1 x; have b := hc h6; omega) (by rw [hl.2.2]; exact h4)
        simp only [f_X6_rL]
        rw [if_pos ⟨h6, Or.inr e⟩, show f_X8_rL t (m + 1 + 1) = if v_X8_isSort t = 0 then t else f_X8_rL (f_X8_readLeaf t) (m + 1) from rfl, if_neg (fun x => e (hs.1 x))]
        exact hr
    · have h16 : t 416 16 ≠ 0 := by have := pS_f0 h.1.1; omega
      rw [rL_m0 (isSort_0 h16)]
      simp only [f_X6_rL]
      rw [if_neg (fun x => h6 x.1)]
      exact ⟨h, fun x => absurd x h6, h4⟩
theorem fail1_0 {t : jz_St} (h : ¬ (t 416 16 = 0 ∧ t 416 14 ≠ 1)) : f_X8_fail1 t = t := by
  unfold f_X8_fail1
  rw [if_neg h]
theorem gB_rG {u : Nat → Int} (hu : ∀ p, u p = -1 ∨ 0 ≤ u p) : ∀ (m i : Nat) (s t : jz_St), 1 ≤ i → i + m = 5 → gB u s t → (s 2 6 = 0 → t 421 4 = i ∧ 1 ≤ t 421 3) →
    gB u (f_X6_rG s 358 i m) (f_X8_fail1 (f_X8_rG t (m + 1))) ∧ (f_X6_rG s 358 i m 2 6 = 0 → 1 ≤ f_X8_fail1 (f_X8_rG t (m + 1)) 421 4 ∧ 1 ≤ f_X8_fail1 (f_X8_rG t (m + 1)) 421 3) := by
  intro m
  induction m with
  | zero =>
    intro i s t hi him h hc
    have h6 : ¬ s 2 6 = 0 := by
      intro x
      have := hc x
      have := h.2.2.2.2
      omega
    have h16 : t 416 16 ≠ 0 := by have := pS_f0 h.1.1; omega
    rw [rG_m0 (isG_0 h16), fail1_0 (fun x => h16 x.1)]
    exact ⟨h, fun x => absurd x h6⟩
  | succ m ih =>
    intro i s t hi him h hc
    by_cases h6 : s 2 6 = 0
    · have h16 : t 416 16 = 0 := by have := pS_f0 h.1.1; omega
      have hs := isG_e h.1.1 h6
      have hci := hc h6
      simp only [f_X6_rG]
      by_cases e : s 2 4 = 103
      · have hl := gB_goat hu h h6 e
        have hr := ih (i + 1) _ _ (by omega) (by omega) hl.1 (fun x => by have a := hl.2.1 x; rw [hl.2.2]; omega)
        rw [if_pos ⟨h6, Or.inr (by omega)⟩, show f_X8_rG t (m + 1 + 1) = if v_X8_isLetter t 103 = 0 then t else f_X8_rG (f_X8_readGoat t) (m + 1) from rfl, if_neg (fun x => hs.1.1 x e)]
        exact hr
      · rw [rG_m0 (hs.1.2 e)]
        by_cases e2 : s 2 4 = -1
        · rw [if_neg (show ¬ (s 2 6 = 0 ∧ (i = 0 ∨ s 2 4 ≠ -1)) by omega), fail1_0 (fun x => (hs.2.1 x.2) e2)]
          exact ⟨h, fun _ => ⟨by omega, hci.2⟩⟩
        · have hb := gB_bad h h6 (k := 1) (by decide)
          have ec : f_X6_readGoat s 358 = jz_su s 2 6 1 := by
            unfold f_X6_readGoat
            simp only
            rw [if_neg e]
          have ef : f_X8_fail1 t = f_X8_bad t 1 := by
            unfold f_X8_fail1
            rw [if_pos ⟨h16, hs.2.2 e2⟩]
          have er : f_X6_rG (jz_su s 2 6 1) 358 (i + 1) m = jz_su s 2 6 1 := by
            cases m with
            | zero => rfl
            | succ m =>
              simp only [f_X6_rG]
              rw [jz_su_s, if_neg (fun x => absurd x.1 (by decide))]
          rw [if_pos ⟨h6, Or.inr e2⟩, ec, er, ef]
          exact ⟨hb, fun x => by rw [jz_su_s] at x; exact absurd x (by decide)⟩
    · have h16 : t 416 16 ≠ 0 := by have := pS_f0 h.1.1; omega
      rw [rG_m0 (isG_0 h16), fail1_0 (fun x => h16 x.1)]
      simp only [f_X6_rG]
      rw [if_neg (fun x => h6 x.1)]
      exact ⟨h, fun x => absurd x h6⟩
