theorem rl_x {s : jz_St} (hc : jCt s 358) {x : Nat} (h2 : x ≠ 2) (hx : x < 358 ∨ 368 ≤ x) : f_X6_readLeaf s 358 x = s x := by
  unfold f_X6_readLeaf
  simp only
  split
  · rw [jz_su_o h2]
  · split
    · rw [jz_su_o h2]
    · have ha : x ≠ 358 + 3 + (s 358 2).toNat := by have := hc.1; omega
      rw [jz_su_o (by omega), tS_o _ _ h2, jz_su_o ha, tN_o _ _ _ h2, tS_o _ _ h2, jz_su_o ha, tN_o _ _ _ h2, tS_o _ _ h2, jz_su_o ha, jz_su_o ha, tN_o _ _ _ h2, jz_su_o ha, adv_o _ h2]
theorem tN_v (s : jz_St) {lo hi : Int} (h0 : 0 ≤ lo) (h1 : 0 ≤ hi) : 0 ≤ v_X6_tN s lo hi ∧ v_X6_tN s lo hi ≤ hi := by
  unfold v_X6_tN
  split
  · omega
  · omega
theorem rg_x {s : jz_St} (hc : jCt s 358) {x : Nat} (h2 : x ≠ 2) (hx : x < 358 ∨ 372 ≤ x) : f_X6_readGoat s 358 x = s x := by
  unfold f_X6_readGoat
  simp only
  split
  · split
    · rw [jz_su_o h2]
    · have ha : x ≠ 358 + 10 + (s 358 3).toNat := by have := hc.2; omega
      rw [jz_su_o (by omega), tS_o _ _ h2, jz_su_o ha, tN_o _ _ _ h2, tS_o _ _ h2, jz_su_o ha, tN_o _ _ _ h2, adv_o _ h2]
  · rw [jz_su_o h2]
/-- the goats of a text that stands aside -/
def cG2 (s t : jz_St) : Prop := cT s ∧ (∀ g : Nat, g < 4 → s (358 + 10 + g) 3 = 0) ∧ (∀ g : Nat, g < 4 → t 421 (41 + 3 * g + 2) = 0)
theorem rl_g {s t : jz_St} (hc : jCt s 358) (h3 : 0 ≤ t 421 3 ∧ t 421 3 ≤ 7) (h : cG2 s t) : cG2 (f_X6_readLeaf s 358) (f_X8_readLeaf t) := by
  have k4 : f_X6_readLeaf s 358 358 4 = s 358 4 := by
    rcases readLeaf_k (by decide) hc 4 with q | q
    · exact q
    · exact absurd q.1 (by decide)
  refine ⟨⟨by rw [k4]; exact h.1.1, fun g hg => by rw [rl_x hc (by omega) (by omega)]; exact h.1.2 g hg⟩, fun g hg => by rw [rl_x hc (by omega) (by omega)]; exact h.2.1 g hg, fun g hg => ?_⟩
  unfold f_X8_readLeaf
  by_cases q : f_X8_rlD t 416 16 = 0
  · have h7 := rlD_7 q
    rw [if_pos q]
    unfold f_X8_lfW
    (try simp only)
    rw [rlD_o t (by decide), jz_su_f (by omega), jz_su_f (by omega), jz_su_f (by omega), jz_su_f (by omega), jz_su_f (by omega), jz_su_f (by omega), rlD_o t (by decide)]
    exact h.2.2 g hg
  · rw [if_neg q, rlD_o t (by decide)]; exact h.2.2 g hg
theorem gQ_ct {s t : jz_St} (h : gQ s t) : jCt s 358 := by
  have := gQ_3 h
  unfold jCt
  omega
theorem gS_goat {u : Nat → Int} {s t : jz_St} (hu : ∀ p, u p = -1 ∨ 0 ≤ u p) (h : gS u s t) (hG : cG2 s t) (h6 : s 2 6 = 0) (hso : s 2 4 = 103) :
    gS u (f_X6_readGoat s 358) (f_X8_readGoat t) ∧ cG2 (f_X6_readGoat s 358) (f_X8_readGoat t) ∧ (f_X6_readGoat s 358 2 6 = 0 → f_X8_readGoat t 421 4 = t 421 4 + 1 ∧ f_X8_readGoat t 421 3 = t 421 3) := by
  have hp := h.1
  have hq := h.2 h6
  have hc := gQ_3 hq
  have hjc := gQ_ct hq
  have h16 : t 416 16 = 0 := by have := pS_f0 hp; omega
  have hL : v_X8_isLetter t 103 = 1 := by
    unfold v_X8_isLetter
    rcases hp.2.2 with ⟨q1, q2, p, hpp, q3⟩ | q
    · have hk := tok_let u p (c := 103) (by decide)
      rw [← q3.2.2.2.2.1, ← q3.2.2.2.2.2.2.1, ← q3.2.2.2.2.2.2.2] at hk
      exact if_pos ⟨h16, hk.1 hso⟩
    · exact absurd h6 (by have := q.1; omega)
  unfold f_X6_readGoat f_X8_readGoat
  simp only
  rw [if_pos hso]
  by_cases c4 : t 421 4 = 4
  · rw [if_pos (show 4 ≤ s 358 3 by omega), rgC_is4 c4, if_neg (bad_16 t 3 (by decide))]
    refine ⟨⟨pS_bad hp h6 (by decide), fun x => ?_⟩, ⟨cT_eq hG.1 (fun x _ _ => jz_su_o (by omega)), fun g hg => by rw [jz_su_o (by omega)]; exact hG.2.1 g hg, fun g hg => by rw [bad_o _ _ (by decide)]; exact hG.2.2 g hg⟩, fun x => ?_⟩ <;> (rw [jz_su_s] at x; exact absurd x (by decide))
  · rw [if_neg (show ¬ 4 ≤ s 358 3 by omega)]
    obtain ⟨c, hcn, hc4⟩ : ∃ c : Nat, t 421 4 = (c : Int) ∧ c < 4 := ⟨(t 421 4).toNat, by omega, by omega⟩
    have hcs : (s 358 3).toNat = c := by omega
    rw [hcs]
    have eA : f_X8_rgA t = f_X8_next t := by
      unfold f_X8_rgA f_X8_gt0
      rw [if_neg c4, hL, must_1 h16]
    have pA : pS u (f_X6_adv s) (f_X8_rgA t) := by rw [eA]; exact pS_adv hp h6
    generalize hs1 : f_X6_adv s = s1 at pA ⊢
    have n1 := pS_tN pA hu 0 40
    have pB : pS u (f_X6_tS (jz_su (f_X6_tN s1 0 40) (358 + 10 + c) 1 (v_X6_tN s1 0 40)) 44) (f_X8_rgB t) := by
      unfold f_X8_rgB
      exact pS_tS (pS_fr n1.1 (jz_su_o (by omega)) (jz_su_o (by omega)) rfl rfl) (Or.inl rfl)
    have r1 := tN_v s1 (lo := 0) (hi := 40) (by decide) (by decide)
    generalize hs3 : f_X6_tS (jz_su (f_X6_tN s1 0 40) (358 + 10 + c) 1 (v_X6_tN s1 0 40)) 44 = s3 at pB ⊢
    have n2 := pS_tN pB hu 0 9
    have pD : pS u (f_X6_tS (jz_su (f_X6_tN s3 0 9) (358 + 10 + c) 2 (v_X6_tN s3 0 9)) 59) (f_X8_rgC t) := by
      unfold f_X8_rgC
      exact pS_tS (pS_fr n2.1 (jz_su_o (by omega)) (jz_su_o (by omega)) rfl rfl) (Or.inr rfl)
    generalize hs5 : f_X6_tS (jz_su (f_X6_tN s3 0 9) (358 + 10 + c) 2 (v_X6_tN s3 0 9)) 59 = s5 at pD ⊢
    have hD21 : f_X8_rgC t 421 = t 421 := rgC_o t (by decide)
    have o5 : ∀ x, x ≠ 2 → s5 x = jz_su s3 (358 + 10 + c) 2 (v_X6_tN s3 0 9) x := by
      intro x hx
      rw [← hs5, tS_o _ _ hx]
      funext y
      unfold jz_su
      rw [tN_o _ _ _ hx]
    have o3 : ∀ x, x ≠ 2 → s3 x = jz_su s (358 + 10 + c) 1 (v_X6_tN s1 0 40) x := by
      intro x hx
      rw [← hs3, tS_o _ _ hx]
      funext y
      unfold jz_su
      rw [tN_o _ _ _ hx, ← hs1, adv_o _ hx]
    have cx : ∀ x, x ≠ 2 → x ≠ 358 + 10 + c → s5 x = s x := by
      intro x hx hx2
      rw [o5 x hx, jz_su_o hx2, o3 x hx, jz_su_o hx2]
    have cl : s5 (358 + 10 + c) 1 = v_X6_tN s1 0 40 ∧ s5 (358 + 10 + c) 2 = v_X6_tN s3 0 9 ∧ s5 (358 + 10 + c) 3 = 0 := by
      have ha : 358 + 10 + c ≠ 2 := by omega
      refine ⟨?_, ?_, ?_⟩
      · rw [o5 _ ha, jz_su_f (by decide), o3 _ ha, jz_su_s]
      · rw [o5 _ ha, jz_su_s]
      · rw [o5 _ ha, jz_su_f (by decide), o3 _ ha, jz_su_f (by decide)]; exact hG.2.1 c hc4
    have s58 : ∀ i, s5 358 i = s 358 i := fun i => by rw [cx 358 (by omega) (by omega)]
    have gT : cT (jz_su s5 358 3 (s5 358 3 + 1)) := by
      refine ⟨by rw [jz_su_f (by decide), s58]; exact hG.1.1, fun g hg => ?_⟩
      rw [jz_su_o (by omega)]
      by_cases e : g = c
      · subst e; rw [cl.1]; omega
      · rw [cx _ (by omega) (by omega)]; exact hG.1.2 g hg
    have g3 : ∀ g : Nat, g < 4 → jz_su s5 358 3 (s5 358 3 + 1) (358 + 10 + g) 3 = 0 := by
      intro g hg
      rw [jz_su_o (by omega)]
      by_cases e : g = c
      · subst e; exact cl.2.2
      · rw [cx _ (by omega) (by omega)]; exact hG.2.1 g hg
    by_cases h56 : s5 2 6 = 0
    · have hD0 : f_X8_rgC t 416 16 = 0 := by have := pS_f0 pD; omega
      rw [if_pos hD0]
      have a3 : f_X6_tN s3 0 9 2 6 = 0 := by
        rw [← hs5] at h56
        have := tS_6 h56
        rwa [jz_su_o (by omega)] at this
      have b2 := n2.2 a3
      have a1 : f_X6_tN s1 0 40 2 6 = 0 := by
        have h36 := b2.1
        rw [← hs3] at h36
        have := tS_6 h36
        rwa [jz_su_o (by omega)] at this
      have b1 := n1.2 a1
      rw [← b1.2.1, ← b2.2.1]
      generalize v_X6_tN s1 0 40 = v1 at b1 cl
      generalize v_X6_tN s3 0 9 = v2 at b2 cl
      have m : ∀ i, f_X8_gtW (f_X8_rgC t) v1 v2 421 i = if i = 4 then (c : Int) + 1 else if i = 41 + 3 * c + 1 then v2 else if i = 41 + 3 * c then v1 else t 421 i := by
        intro i
        unfold f_X8_gtW
        (try simp only)
        rw [hD21, hcn, show ((c : Int)).toNat = c by omega]
        unfold jz_su
        rw [hD21]
        simp only [true_and]
      have mo : f_X8_gtW (f_X8_rgC t) v1 v2 416 = f_X8_rgC t 416 ∧ f_X8_gtW (f_X8_rgC t) v1 v2 424 = f_X8_rgC t 424 := by
        unfold f_X8_gtW
        (try simp only)
        constructor
        · rw [jz_su_o (by decide), jz_su_o (by decide), jz_su_o (by decide)]
        · rw [jz_su_o (by decide), jz_su_o (by decide), jz_su_o (by decide)]
      have m4 : f_X8_gtW (f_X8_rgC t) v1 v2 421 4 = (c : Int) + 1 := by rw [m, if_pos rfl]
      have mn : ∀ i, i ≠ 4 → i ≠ 41 + 3 * c → i ≠ 41 + 3 * c + 1 → f_X8_gtW (f_X8_rgC t) v1 v2 421 i = t 421 i := by
        intro i h1 h2 h3
        rw [m, if_neg h1, if_neg h3, if_neg h2]
      have ml : f_X8_gtW (f_X8_rgC t) v1 v2 421 (41 + 3 * c) = v1 ∧ f_X8_gtW (f_X8_rgC t) v1 v2 421 (41 + 3 * c + 1) = v2 := by
        refine ⟨?_, ?_⟩
        · rw [m, if_neg (by omega), if_neg (by omega), if_pos rfl]
        · rw [m, if_neg (by omega), if_pos rfl]
      refine ⟨⟨pS_fr pD (jz_su_o (by omega)) (jz_su_o (by omega)) mo.1 mo.2, fun _ => ⟨⟨?_, fun l hl hcl => ?_, fun l hl hcl => ?_, fun g hg hcg => ?_⟩, fun i hi => ?_, fun l hl hcl => ?_, ?_, ?_⟩⟩, ⟨gT, g3, fun g hg => ?_⟩, fun _ => ⟨?_, ?_⟩⟩
      · have h1 := hq.1.1
        rw [jz_su_s, jz_su_f (by decide), jz_su_f (by decide), jz_su_f (by decide), jz_su_f (by decide), s58, s58, s58, s58, s58, m4, mn 3 (by decide) (by omega) (by omega), mn 1 (by decide) (by omega) (by omega), mn 2 (by decide) (by omega) (by omega), mn 5 (by decide) (by omega) (by omega)]
        exact ⟨h1.1, by omega, h1.2.2⟩
      · rw [mn 3 (by decide) (by omega) (by omega)] at hcl
        rw [jz_su_o (by omega), cx _ (by omega) (by omega), mn _ (by omega) (by omega) (by omega), mn _ (by omega) (by omega) (by omega), mn _ (by omega) (by omega) (by omega), mn _ (by omega) (by omega) (by omega), mn _ (by omega) (by omega) (by omega)]
        exact hq.1.2.1 l hl hcl
      · rw [mn 3 (by decide) (by omega) (by omega)] at hcl
        rw [jz_su_o (by omega), cx _ (by omega) (by omega)]
        exact hq.1.2.2.1 l hl hcl
      · rw [m4] at hcg
        rw [jz_su_o (by omega)]
        by_cases e : g = c
        · subst e
          rw [ml.1, ml.2, cl.1, cl.2.1, cl.2.2, mn (41 + 3 * g + 2) (by omega) (by omega) (by omega), hG.2.2 g hg]
          exact ⟨rfl, rfl, Or.inl rfl⟩
        · rw [cx _ (by omega) (by omega), mn (41 + 3 * g) (by omega) (by omega) (by omega), mn (41 + 3 * g + 1) (by omega) (by omega) (by omega), mn (41 + 3 * g + 2) (by omega) (by omega) (by omega)]
          exact hq.1.2.2.2 g hg (by omega)
      · by_cases e : i = 4
        · subst e; rw [m4]; show 0 ≤ _ ∧ _ ≤ (4 : Int); omega
        · by_cases e1 : i = 41 + 3 * c
          · subst e1; rw [ml.1, hi_g0]; omega
          · by_cases e2 : i = 41 + 3 * c + 1
            · subst e2; rw [ml.2, hi_g1]; omega
            · rw [mn i e e1 e2]; exact hq.2.1 i hi
      · rw [mn 3 (by decide) (by omega) (by omega)] at hcl
        rw [mn _ (by omega) (by omega) (by omega), mn _ (by omega) (by omega) (by omega)]
        exact hq.2.2.1 l hl hcl
      · rw [mn 0 (by decide) (by omega) (by omega)]; exact hq.2.2.2.1
      · rw [mn 5 (by decide) (by omega) (by omega)]; exact hq.2.2.2.2
      · rw [mn _ (by omega) (by omega) (by omega)]; exact hG.2.2 g hg
      · rw [m4, hcn]
      · exact mn 3 (by decide) (by omega) (by omega)
    · have hD0 : ¬ f_X8_rgC t 416 16 = 0 := by have := pS_f0 pD; omega
      rw [if_neg hD0]
      refine ⟨⟨pS_fr pD (jz_su_o (by omega)) (jz_su_o (by omega)) rfl rfl, fun x => ?_⟩, ⟨gT, g3, fun g hg => by rw [hD21]; exact hG.2.2 g hg⟩, fun x => ?_⟩ <;> (rw [jz_su_o (by omega)] at x; exact absurd x h56)
