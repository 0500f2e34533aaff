/-! wind -/
theorem fGC_e : ∀ (k m a b : Nat), 2 * k + 1 ≤ m → b < 2 ^ k → fGC m (a : Int) (b : Int) = ((Nat.gcd a b : Nat) : Int) := by
  have tm : ∀ a b : Nat, Int.tmod (a : Int) (b : Int) = ((a % b : Nat) : Int) := by
    intro a b
    rw [Int.tmod_eq_emod_of_nonneg (by omega)]
    rfl
  have st : ∀ (m a b : Nat), b ≠ 0 → fGC (m + 1) (a : Int) (b : Int) = fGC m (b : Int) ((a % b : Nat) : Int) := by
    intro m a b hb
    simp only [fGC]
    rw [if_neg (by omega), tm]
  have z : ∀ (m a : Nat), fGC (m + 1) (a : Int) ((0 : Nat) : Int) = (a : Int) := by
    intro m a
    simp [fGC]
  have gs : ∀ a b : Nat, Nat.gcd a b = Nat.gcd b (a % b) := by
    intro a b
    rw [Nat.gcd_comm a b, Nat.gcd_rec b a, Nat.gcd_comm]
  intro k
  induction k with
  | zero =>
    intro m a b hm hb
    obtain rfl : b = 0 := by simp at hb; exact hb
    obtain ⟨m2, rfl⟩ : ∃ m2, m = m2 + 1 := ⟨m - 1, by omega⟩
    rw [z, Nat.gcd_zero_right]
  | succ k ih =>
    intro m a b hm hb
    obtain ⟨m2, rfl⟩ : ∃ m2, m = m2 + 2 := ⟨m - 2, by omega⟩
    by_cases h0 : b = 0
    · subst h0
      rw [z, Nat.gcd_zero_right]
    · rw [st _ a b h0, gs a b]
      by_cases h1 : a % b = 0
      · rw [h1, z, Nat.gcd_zero_right]
      · rw [st _ b (a % b) h1, gs b (a % b)]
        refine ih m2 _ _ (by omega) ?_
        have hlt : a % b < b := Nat.mod_lt _ (by omega)
        have h2 : b % (a % b) < a % b := Nat.mod_lt _ (by omega)
        have h3 : 2 ^ (k + 1) = 2 ^ k * 2 := Nat.pow_succ 2 k
        by_cases c : 2 * (a % b) ≤ b
        · omega
        · have e : b % (a % b) = (b - a % b) % (a % b) := Nat.mod_eq_sub_mod (by omega)
          have e2 : (b - a % b) % (a % b) = b - a % b := Nat.mod_eq_of_lt (by omega)
          omega
theorem wt_mq {t : jz_St} {c : Nat} {b : Int} (h : mRq (t 422) b) (h2 : mRw (t 420) b) {j : Nat} (hj : j ≤ 7) : mRq (f_X8_wt t c j 422) b :=
  mRq_of h (wt_mr h.1 h2 j hj) (wt_n _ _ (by omega) j hj) (wt_n _ _ (by omega) j hj) (wt_n _ _ (by omega) j hj) (fun l hl => ⟨wt_n _ _ (by omega) j hj, fun q => by rw [wt_n _ _ (by omega) j hj]; exact q⟩)
theorem wiC_e {s t s1 t1 : jz_St} (h : H3 s t) (hs : ∀ x, jOff 358 x → s1 x = s x) (ht : t1 420 = t 420) {c : Nat} (hc : c < 128) : fWiV s1 c = fBC (rIF (rWiC t1 c 422) (rWiC t1 c 422 3).toNat).toNat := by
  have hn := H3_n h
  have hT := att_T h hs ht
  have e3 : f_X8_layThen t1 422 3 = t1 420 3 := layThen_in t1 (by decide)
  have e20 : f_X8_layThen t1 420 = t1 420 := layThen_o t1 (by decide)
  have h1 := jR_tea (c := c) hT.1 hT.2.1 (fun i hi => by rw [layThen_in t1 hi, e20]) hc
  rw [e3] at h1
  have h2 := wt_mq (t := f_X8_layThen t1) (c := c) hT.2 (by rw [e20, ht]; exact h.2.1.2.1.1) (j := (t1 420 3).toNat) (by rw [ht]; omega)
  have h3 := jR_hour (m := 0) (Or.inr rfl) (jR_f h1) h2.1
  have h4 := hour_mq (Or.inr rfl) h2
  unfold fWiV fWiC rWiC
  rw [jR_if h3.1 h4]
theorem bc_p {c : Nat} (hc : c < 128) : (fBC c).toNat = rPc c 7 := by
  rw [← rPc_7 c hc]
  omega
theorem wi_e {s t : jz_St} (h : H3 s t) {k p : Int} (hp : 0 ≤ p ∧ p ≤ 10) {a L : Nat} (hL : L ≤ 7) (ha : a < 2 ^ L) : ∀ c : Nat, c ≤ a + 1 → fWi s (a : Int) k p c = rWiA t (a : Int) k p L c := by
  have h7 : 2 ^ L ≤ 2 ^ 7 := Nat.pow_le_pow_right (by decide) (by omega)
  intro c
  induction c with
  | zero => intro _; rfl
  | succ c ih =>
    intro hc
    have hV : fWiV (fWiS s (a : Int) c) c = rWiV t (a : Int) c := wiC_e h (fun x hx => fWiS_off hx c) (wiS_o t (a : Int) (by decide) (by decide) (by decide) c) (by omega)
    simp only [fWi, rWiA]
    rw [ih (by omega), hV]
    by_cases q : jand (c : Int) (jxor (a : Int) (-1)) = 0
    · have q2 := (sub_t a (by omega) c (by omega)).1 q
      have e : fPow p (fBC c).toNat * fPow (10 - p) (fBC ((a : Int)).toNat - fBC c).toNat = rWy (a : Int) p c L := by
        rw [← rWy_L hL ha 7 (by omega) (by omega), rWy_pow (by omega) (by omega) q2 7 (by omega), show ((a : Int)).toNat = a by omega, bc_p (by omega)]
        have e1 := rPc_7 a (by omega)
        have e2 := rPc_7 c (by omega)
        rw [show (fBC a - fBC c).toNat = rPc a 7 - rPc c 7 by omega]
      rw [if_pos q]
      by_cases q3 : k ≤ rWiV t (a : Int) c
      · rw [if_pos ⟨q, q3⟩, if_pos q3, e]
      · rw [if_neg (fun x => q3 x.2), if_neg q3, Int.add_zero]
    · rw [if_neg (fun x => q x.1), if_neg q]
theorem o_wind {s t : jz_St} (h : H3 s t) (k p w : Int) : v_X7_wind s k p w = v_X8_wind t k p w ∧ OK s t (f_X7_wind s k p w) (f_X8_wind t k p w) := by
  have hn := H3_n h
  have hnv := jR_nv h.1.2.1 h.2.1.2.1.1
  unfold v_X7_wind v_X8_wind f_X7_wind f_X8_wind
  rw [hnv]
  obtain ⟨a, e1, e2⟩ := rOp_n (q := t 420) (t 420 3).toNat (by omega)
  rw [e1]
  have h7 : 2 ^ (t 420 3).toNat ≤ 2 ^ 7 := Nat.pow_le_pow_right (by decide) (by omega)
  by_cases c0 : t 420 0 = 1
  · rw [if_pos c0, if_pos c0, if_neg (show ¬ s 344 2 ≤ 0 by omega), if_neg (show ¬ s 344 2 ≤ 0 by omega)]
    by_cases c : (0 ≤ k ∧ k ≤ 7) ∧ (0 ≤ p ∧ p ≤ 10) ∧ 0 ≤ w ∧ w ≤ 1
    · rw [if_pos c, if_pos c, if_pos c, if_pos c]
      refine ⟨?_, OK_t h (fun x hx => fWiS_off hx _) (fun x h1 h2 h3 => wiS_o t _ h1 h2 h3 _)⟩
      have eA := wi_e h (k := k) c.2.1 (L := (t 420 3).toNat) (by omega) e2 (a + 1) (by omega)
      have eB : fPow 10 (fBC a).toNat = rWiB (a : Int) p (t 420 3).toNat (a + 1) := by
        have e3 := wiB_all (a := a) (p := p.toNat) (L := (t 420 3).toNat) (by omega) (by omega) e2
        rw [show ((p.toNat : Nat) : Int) = p by omega] at e3
        rw [e3, bc_p (by omega)]
        exact fPow_nat 10 (rPc a 7)
      rw [show ((a : Int)).toNat = a by omega, eA, eB]
      have rA := wiA_rng (s := t) (op := (a : Int)) (k := k) (p := p) (L := (t 420 3).toNat) c.2.1 (by omega) (a + 1)
      have rB := wiB_rng (op := (a : Int)) (p := p) (L := (t 420 3).toNat) c.2.1 (by omega) (a + 1)
      have rP := wiB_pos (q := t 420) (p := p) (L := (t 420 3).toNat) c.2.1 (by omega)
      rw [e1, show ((a : Int)).toNat = a by omega] at rP
      generalize rWiA t (a : Int) k p (t 420 3).toNat (a + 1) = A at rA ⊢
      generalize rWiB (a : Int) p (t 420 3).toNat (a + 1) = B at rB rP ⊢
      have eG : fGC 100 A B = ((Nat.gcd A.toNat B.toNat : Nat) : Int) := by
        have e4 := fGC_e 40 100 A.toNat B.toNat (by omega) (by
          have : (2 : Nat) ^ 40 = 1099511627776 := by decide
          omega)
        rw [show ((A.toNat : Nat) : Int) = A by omega, show ((B.toNat : Nat) : Int) = B by omega] at e4
        exact e4
      rw [eG]
      have hg : 0 < Nat.gcd A.toNat B.toNat := gc_pos rP
      by_cases c1 : 1 < ((Nat.gcd A.toNat B.toNat : Nat) : Int)
      · rw [if_pos c1]
      · rw [if_neg c1, show ((Nat.gcd A.toNat B.toNat : Nat) : Int) = 1 by omega, Int.tdiv_one]
    · rw [if_neg c, if_neg c, if_neg c, if_neg c]
      exact ⟨rfl, OK_id h⟩
  · rw [if_neg c0, if_neg c0, if_pos (show s 344 2 ≤ 0 by omega), if_pos (show s 344 2 ≤ 0 by omega)]
    exact ⟨rfl, OK_id h⟩
