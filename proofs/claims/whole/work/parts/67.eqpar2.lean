theorem must_1 {t : jz_St} (h : t 416 16 = 0) : f_X8_must t 1 = f_X8_next t := by
  unfold f_X8_must
  rw [if_pos h, if_neg (by decide)]
theorem rlD_is7 {t : jz_St} (h : t 421 3 = 7) : f_X8_rlD t = f_X8_bad t 3 := by
  have hb := bad_16 t 3 (by decide)
  have eA : f_X8_rlA t = f_X8_bad t 3 := by unfold f_X8_rlA; rw [if_pos h, must_16 hb]
  have eB : f_X8_rlB t = f_X8_bad t 3 := by unfold f_X8_rlB; rw [eA, number_16 hb, sign_16 hb]
  have eC : f_X8_rlC t = f_X8_bad t 3 := by unfold f_X8_rlC; rw [eB, number_16 hb, sign_16 hb]
  unfold f_X8_rlD
  rw [eC, number_16 hb, sign_16 hb]
theorem rgC_is4 {t : jz_St} (h : t 421 4 = 4) : f_X8_rgC t = f_X8_bad t 3 := by
  have hb := bad_16 t 3 (by decide)
  have e0 : f_X8_gt0 t = f_X8_bad t 3 := by unfold f_X8_gt0; rw [if_pos h]
  have eA : f_X8_rgA t = f_X8_bad t 3 := by unfold f_X8_rgA; rw [e0, must_16 hb]
  have eB : f_X8_rgB t = f_X8_bad t 3 := by unfold f_X8_rgB; rw [eA, number_16 hb, sign_16 hb]
  unfold f_X8_rgC
  rw [eB, number_16 hb, sign_16 hb]
theorem gQ_3 {s t : jz_St} (h : gQ s t) : (s 358 2 = t 421 3 ∧ 0 ≤ t 421 3 ∧ t 421 3 ≤ 7) ∧ (s 358 3 = t 421 4 ∧ 0 ≤ t 421 4 ∧ t 421 4 ≤ 4) := by
  have h1 := mRw_h h.2.1
  exact ⟨⟨h.1.1.1, h1.2.2.2.1⟩, h.1.1.2.1, h1.2.2.2.2.1⟩
theorem gS_leaf {u : Nat → Int} {s t : jz_St} (hu : ∀ p, u p = -1 ∨ 0 ≤ u p) (h : gS u s t) (h6 : s 2 6 = 0) (hso : fSort (s 2 4) ≠ 0) :
    gS u (f_X6_readLeaf s 358) (f_X8_readLeaf t) ∧ (f_X6_readLeaf s 358 2 6 = 0 → f_X8_readLeaf t 421 3 = t 421 3 + 1 ∧ f_X8_readLeaf t 421 4 = t 421 4) := by
  have hp := h.1
  have hq := h.2 h6
  have hc := gQ_3 hq
  have h16 : t 416 16 = 0 := by have := pS_f0 hp; omega
  obtain ⟨K, hK, hK1, hK5⟩ : ∃ K, fSort (s 2 4) = K ∧ 1 ≤ K ∧ K ≤ 5 ∧ fKb (t 416 15) = K := by
    rcases hp.2.2 with ⟨q1, q2, p, hpp, q3⟩ | q
    · have ts := (tok_sort u p).2
      rw [← q3.2.2.2.2.1, ← q3.2.2.2.2.2.2.2] at ts
      have := ts hso
      exact ⟨_, rfl, this.2.1, this.2.2, this.1.symm⟩
    · exact absurd h6 (by have := q.1; omega)
  unfold f_X6_readLeaf f_X8_readLeaf
  simp only
  rw [if_neg hso]
  by_cases c7 : t 421 3 = 7
  · rw [if_pos (show 7 ≤ s 358 2 by omega), rlD_is7 c7, if_neg (bad_16 t 3 (by decide))]
    refine ⟨⟨pS_bad hp h6 (by decide), fun x => ?_⟩, fun x => ?_⟩ <;> (rw [jz_su_s] at x; exact absurd x (by decide))
  · rw [if_neg (show ¬ 7 ≤ s 358 2 by omega)]
    obtain ⟨c, hcn, hc7⟩ : ∃ c : Nat, t 421 3 = (c : Int) ∧ c < 7 := ⟨(t 421 3).toNat, by omega, by omega⟩
    have hcs : (s 358 2).toNat = c := by omega
    rw [hcs, hK]
    have eA : f_X8_rlA t = f_X8_next t := by unfold f_X8_rlA; rw [if_neg c7, must_1 h16]
    have pA : pS u (jz_su (f_X6_adv s) (358 + 3 + c) 1 K) (f_X8_rlA t) := by rw [eA]; exact pS_fr (pS_adv hp h6) (jz_su_o (by omega)) (jz_su_o (by omega)) rfl rfl
    generalize hs1 : jz_su (f_X6_adv s) (358 + 3 + c) 1 K = s1 at pA ⊢
    have n1 := pS_tN pA hu 1 20
    have pB : pS u (f_X6_tS (jz_su (jz_su (f_X6_tN s1 1 20) (358 + 3 + c) 2 (v_X6_tN s1 1 20)) (358 + 3 + c) 5 (v_X6_tN s1 1 20)) 44) (f_X8_rlB t) := by
      unfold f_X8_rlB
      exact pS_tS (pS_fr n1.1 (by rw [jz_su_o (by omega), jz_su_o (by omega)]) (by rw [jz_su_o (by omega), jz_su_o (by omega)]) rfl rfl) (Or.inl rfl)
    generalize hs3 : f_X6_tS (jz_su (jz_su (f_X6_tN s1 1 20) (358 + 3 + c) 2 (v_X6_tN s1 1 20)) (358 + 3 + c) 5 (v_X6_tN s1 1 20)) 44 = s3 at pB ⊢
    have n2 := pS_tN pB hu 0 9
    have pC' : pS u (f_X6_tS (jz_su (f_X6_tN s3 0 9) (358 + 3 + c) 3 (v_X6_tN s3 0 9)) 44) (f_X8_rlC t) := by
      unfold f_X8_rlC
      exact pS_tS (pS_fr n2.1 (jz_su_o (by omega)) (jz_su_o (by omega)) rfl rfl) (Or.inl rfl)
    generalize hs4 : f_X6_tS (jz_su (f_X6_tN s3 0 9) (358 + 3 + c) 3 (v_X6_tN s3 0 9)) 44 = s4 at pC' ⊢
    have n3 := pS_tN pC' hu 0 9
    have pD : pS u (f_X6_tS (jz_su (f_X6_tN s4 0 9) (358 + 3 + c) 4 (v_X6_tN s4 0 9)) 59) (f_X8_rlD t) := by
      unfold f_X8_rlD
      exact pS_tS (pS_fr n3.1 (jz_su_o (by omega)) (jz_su_o (by omega)) rfl rfl) (Or.inr rfl)
    generalize hs5 : f_X6_tS (jz_su (f_X6_tN s4 0 9) (358 + 3 + c) 4 (v_X6_tN s4 0 9)) 59 = s5 at pD ⊢
    have hD21 : f_X8_rlD t 421 = t 421 := rlD_o t (by decide)
    by_cases h56 : s5 2 6 = 0
    · have hD0 : f_X8_rlD t 416 16 = 0 := by have := pS_f0 pD; omega
      rw [if_pos hD0]
      have a4 : f_X6_tN s4 0 9 2 6 = 0 := by
        rw [← hs5] at h56
        have := tS_6 h56
        rwa [jz_su_o (by omega)] at this
      have b3 := n3.2 a4
      have a3 : f_X6_tN s3 0 9 2 6 = 0 := by
        have h46 := b3.1
        rw [← hs4] at h46
        have := tS_6 h46
        rwa [jz_su_o (by omega)] at this
      have b2 := n2.2 a3
      have a1 : f_X6_tN s1 1 20 2 6 = 0 := by
        have h36 := b2.1
        rw [← hs3] at h36
        have := tS_6 h36
        rwa [jz_su_o (by omega), jz_su_o (by omega)] at this
      have b1 := n1.2 a1
      rw [hK5.2, ← b1.2.1, ← b2.2.1, ← b3.2.1]
      generalize hv1 : v_X6_tN s1 1 20 = v1 at b1 hs3
      generalize hv2 : v_X6_tN s3 0 9 = v2 at b2 hs4
      generalize hv3 : v_X6_tN s4 0 9 = v3 at b3 hs5
      -- the class's cells
      have o5 : ∀ x, x ≠ 2 → s5 x = jz_su s4 (358 + 3 + c) 4 v3 x := by
        intro x hx
        rw [← hs5, tS_o _ _ hx]
        funext y
        unfold jz_su
        rw [tN_o _ _ _ hx]
      have o4 : ∀ x, x ≠ 2 → s4 x = jz_su s3 (358 + 3 + c) 3 v2 x := by
        intro x hx
        rw [← hs4, tS_o _ _ hx]
        funext y
        unfold jz_su
        rw [tN_o _ _ _ hx]
      have o3 : ∀ x, x ≠ 2 → s3 x = jz_su (jz_su s1 (358 + 3 + c) 2 v1) (358 + 3 + c) 5 v1 x := by
        intro x hx
        rw [← hs3, tS_o _ _ hx]
        funext y
        unfold jz_su
        rw [tN_o _ _ _ hx]
      have o1 : ∀ x, x ≠ 2 → s1 x = jz_su s (358 + 3 + c) 1 K x := by
        intro x hx
        rw [← hs1]
        funext y
        unfold jz_su
        rw [adv_o _ hx]
      have cx : ∀ x, x ≠ 2 → x ≠ 358 + 3 + c → s5 x = s x := by
        intro x hx hx2
        rw [o5 x hx, jz_su_o hx2, o4 x hx, jz_su_o hx2, o3 x hx, jz_su_o hx2, jz_su_o hx2, o1 x hx, jz_su_o hx2]
      have cl : s5 (358 + 3 + c) 1 = K ∧ s5 (358 + 3 + c) 2 = v1 ∧ s5 (358 + 3 + c) 3 = v2 ∧ s5 (358 + 3 + c) 4 = v3 ∧ s5 (358 + 3 + c) 5 = v1 := by
        have ha : 358 + 3 + c ≠ 2 := by omega
        refine ⟨?_, ?_, ?_, ?_, ?_⟩
        · rw [o5 _ ha, jz_su_f (by decide), o4 _ ha, jz_su_f (by decide), o3 _ ha, jz_su_f (by decide), jz_su_f (by decide), o1 _ ha, jz_su_s]
        · rw [o5 _ ha, jz_su_f (by decide), o4 _ ha, jz_su_f (by decide), o3 _ ha, jz_su_f (by decide), jz_su_s]
        · rw [o5 _ ha, jz_su_f (by decide), o4 _ ha, jz_su_s]
        · rw [o5 _ ha, jz_su_s]
        · rw [o5 _ ha, jz_su_f (by decide), o4 _ ha, jz_su_f (by decide), o3 _ ha, jz_su_s]
      have m : ∀ i, f_X8_lfW (f_X8_rlD t) K v1 v2 v3 421 i = if i = 3 then (c : Int) + 1 else if i = 6 + 5 * c + 4 then v1 else if i = 6 + 5 * c + 3 then v3 else if i = 6 + 5 * c + 2 then v2 else if i = 6 + 5 * c + 1 then v1 else if i = 6 + 5 * c then K else t 421 i := by
        intro i
        unfold f_X8_lfW
        (try simp only)
        rw [hD21, hcn, show ((c : Int)).toNat = c by omega]
        unfold jz_su
        rw [hD21]
        simp only [true_and]
      have mo : f_X8_lfW (f_X8_rlD t) K v1 v2 v3 416 = f_X8_rlD t 416 ∧ f_X8_lfW (f_X8_rlD t) K v1 v2 v3 424 = f_X8_rlD t 424 := by
        unfold f_X8_lfW
        (try simp only)
        constructor
        · rw [jz_su_o (by decide), jz_su_o (by decide), jz_su_o (by decide), jz_su_o (by decide), jz_su_o (by decide), jz_su_o (by decide)]
        · rw [jz_su_o (by decide), jz_su_o (by decide), jz_su_o (by decide), jz_su_o (by decide), jz_su_o (by decide), jz_su_o (by decide)]
      have m3 : f_X8_lfW (f_X8_rlD t) K v1 v2 v3 421 3 = (c : Int) + 1 := by rw [m, if_pos rfl]
      have mn : ∀ i, i ≠ 3 → (i < 6 + 5 * c ∨ 6 + 5 * c + 5 ≤ i) → f_X8_lfW (f_X8_rlD t) K v1 v2 v3 421 i = t 421 i := by
        intro i h1 h2
        rw [m, if_neg h1, if_neg (by omega), if_neg (by omega), if_neg (by omega), if_neg (by omega), if_neg (by omega)]
      have ml : f_X8_lfW (f_X8_rlD t) K v1 v2 v3 421 (6 + 5 * c) = K ∧ f_X8_lfW (f_X8_rlD t) K v1 v2 v3 421 (6 + 5 * c + 1) = v1 ∧ f_X8_lfW (f_X8_rlD t) K v1 v2 v3 421 (6 + 5 * c + 2) = v2 ∧ f_X8_lfW (f_X8_rlD t) K v1 v2 v3 421 (6 + 5 * c + 3) = v3 ∧ f_X8_lfW (f_X8_rlD t) K v1 v2 v3 421 (6 + 5 * c + 4) = v1 := by
        refine ⟨?_, ?_, ?_, ?_, ?_⟩
        · rw [m, if_neg (by omega), if_neg (by omega), if_neg (by omega), if_neg (by omega), if_neg (by omega), if_pos rfl]
        · rw [m, if_neg (by omega), if_neg (by omega), if_neg (by omega), if_neg (by omega), if_pos rfl]
        · rw [m, if_neg (by omega), if_neg (by omega), if_neg (by omega), if_pos rfl]
        · rw [m, if_neg (by omega), if_neg (by omega), if_pos rfl]
        · rw [m, if_neg (by omega), if_pos rfl]
      have s58 : ∀ i, s5 358 i = s 358 i := fun i => by rw [cx 358 (by omega) (by omega)]
      refine ⟨⟨pS_fr pD (jz_su_o (by omega)) (jz_su_o (by omega)) mo.1 mo.2, fun _ => ⟨⟨?_, fun l hl hcl => ?_, fun l hl hcl => ?_, fun g hg hcg => ?_⟩, fun i hi => ?_, fun l hl hcl => ?_, ?_, ?_⟩⟩, fun _ => ⟨?_, ?_⟩⟩
      · have h1 := hq.1.1
        rw [jz_su_s, jz_su_f (by decide), jz_su_f (by decide), jz_su_f (by decide), jz_su_f (by decide), s58, s58, s58, s58, s58, m3, mn 4 (by decide) (by omega), mn 1 (by decide) (by omega), mn 2 (by decide) (by omega), mn 5 (by decide) (by omega)]
        exact ⟨by omega, h1.2⟩
      · rw [m3] at hcl
        rw [jz_su_o (by omega)]
        by_cases e : l = c
        · subst e
          rw [ml.1, ml.2.1, ml.2.2.1, ml.2.2.2.1, ml.2.2.2.2]
          exact cl
        · rw [cx _ (by omega) (by omega), mn _ (by omega) (by omega), mn _ (by omega) (by omega), mn _ (by omega) (by omega), mn _ (by omega) (by omega), mn _ (by omega) (by omega)]
          exact hq.1.2.1 l hl (by omega)
      · rw [m3] at hcl
        rw [jz_su_o (by omega), cx _ (by omega) (by omega)]
        exact hq.1.2.2.1 l hl (by omega)
      · rw [mn 4 (by decide) (by omega)] at hcg
        rw [jz_su_o (by omega), cx _ (by omega) (by omega), mn _ (by omega) (by omega), mn _ (by omega) (by omega), mn _ (by omega) (by omega)]
        exact hq.1.2.2.2 g hg hcg
      · by_cases e : i = 3
        · subst e; rw [m3]; show 0 ≤ _ ∧ _ ≤ (7 : Int); omega
        · by_cases e2 : i < 6 + 5 * c ∨ 6 + 5 * c + 5 ≤ i
          · rw [mn i e e2]; exact hq.2.1 i hi
          · have hi5 : i = 6 + 5 * c ∨ i = 6 + 5 * c + 1 ∨ i = 6 + 5 * c + 2 ∨ i = 6 + 5 * c + 3 ∨ i = 6 + 5 * c + 4 := by omega
            rcases hi5 with rfl | rfl | rfl | rfl | rfl
            · rw [ml.1, hi_0 _ _ hc7]; omega
            · rw [ml.2.1, hi_1 _ _ hc7]; omega
            · rw [ml.2.2.1, hi_2 _ _ hc7]; omega
            · rw [ml.2.2.2.1, hi_3 _ _ hc7]; omega
            · rw [ml.2.2.2.2, hi_4 _ _ hc7]; omega
      · rw [m3] at hcl
        by_cases e : l = c
        · subst e
          rw [ml.1, ml.2.1]; omega
        · rw [mn _ (by omega) (by omega), mn _ (by omega) (by omega)]
          exact hq.2.2.1 l hl (by omega)
      · rw [mn 0 (by decide) (by omega)]; exact hq.2.2.2.1
      · rw [mn 5 (by decide) (by omega)]; exact hq.2.2.2.2
      · rw [m3, hcn]
      · exact mn 4 (by decide) (by omega)
    · have hD0 : ¬ f_X8_rlD t 416 16 = 0 := by have := pS_f0 pD; omega
      rw [if_neg hD0]
      refine ⟨⟨pS_fr pD (jz_su_o (by omega)) (jz_su_o (by omega)) rfl rfl, fun x => ?_⟩, fun x => ?_⟩ <;> (rw [jz_su_o (by omega)] at x; exact absurd x h56)
