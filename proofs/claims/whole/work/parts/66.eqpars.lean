/-! the text, read on both sides -/
def pC (u : Nat → Int) (s t : jz_St) (p : Nat) : Prop := s 2 2 = (p : Int) ∧ t 416 13 = (p : Int) ∧ s 2 3 = ((lxN u p : Nat) : Int) ∧ t 416 12 = ((lxN u p : Nat) : Int) ∧ s 2 4 = lxT u p ∧ s 2 5 = lxW u p ∧ t 416 14 = mxT u p ∧ t 416 15 = mxV u p
def pS (u : Nat → Int) (s t : jz_St) : Prop := fBn s = u ∧ mBn t = u ∧ ((s 2 6 = 0 ∧ t 416 16 = 0 ∧ ∃ p : Nat, p ≤ 120 ∧ pC u s t p) ∨ (0 < s 2 6 ∧ s 2 6 = t 416 16 ∧ s 2 2 = t 416 17 ∧ 0 ≤ s 2 2 ∧ s 2 2 ≤ 120))
theorem fBn_e {s s' : jz_St} (h1 : s' 2 1 = s 2 1) (h3 : s' 3 = s 3) : fBn s' = fBn s := by
  funext p
  unfold fBn
  rw [h1, h3]
theorem mBn_e {s s' : jz_St} (h1 : s' 416 11 = s 416 11) (h3 : s' 424 = s 424) : mBn s' = mBn s := by
  funext p
  unfold mBn
  rw [h1, h3]
theorem pS_fr {u : Nat → Int} {s t s' t' : jz_St} (h : pS u s t) (h2 : s' 2 = s 2) (h3 : s' 3 = s 3) (h4 : t' 416 = t 416) (h5 : t' 424 = t 424) : pS u s' t' := by
  unfold pS pC at h ⊢
  rw [fBn_e (by rw [h2]) h3, mBn_e (by rw [h4]) h5, h2, h4]
  exact h
theorem pS_f0 {u : Nat → Int} {s t : jz_St} (h : pS u s t) : s 2 6 = t 416 16 := by
  rcases h.2.2 with q | q
  · rw [q.1, q.2.1]
  · exact q.2.1
theorem pS_pl {u : Nat → Int} {s t : jz_St} (h : pS u s t) : 0 ≤ s 2 2 ∧ s 2 2 ≤ 120 := by
  rcases h.2.2 with ⟨q1, q2, p, hp, q3⟩ | q
  · rw [q3.1]; omega
  · exact q.2.2.2
theorem adv_f (s : jz_St) : f_X6_adv s 2 2 = s 2 3 ∧ f_X6_adv s 2 5 = lxW (fBn s) (s 2 3).toNat ∧ f_X6_adv s 2 4 = lxT (fBn s) (s 2 3).toNat ∧ f_X6_adv s 2 3 = ((lxN (fBn s) (s 2 3).toNat : Nat) : Int) ∧ f_X6_adv s 2 6 = s 2 6 ∧ f_X6_adv s 2 1 = s 2 1 := by
  unfold f_X6_adv
  refine ⟨?_, ?_, ?_, ?_, ?_, ?_⟩
  · rw [jz_su_f (by decide), jz_su_f (by decide), jz_su_f (by decide), jz_su_s]
  · rw [jz_su_f (by decide), jz_su_f (by decide), jz_su_s]
  · rw [jz_su_f (by decide), jz_su_s]
  · rw [jz_su_s]
  · rw [jz_su_f (by decide), jz_su_f (by decide), jz_su_f (by decide), jz_su_f (by decide)]
  · rw [jz_su_f (by decide), jz_su_f (by decide), jz_su_f (by decide), jz_su_f (by decide)]
theorem nxt_f (s : jz_St) : f_X8_next s 416 13 = s 416 12 ∧ f_X8_next s 416 15 = mxV (mBn s) (s 416 12).toNat ∧ f_X8_next s 416 14 = mxT (mBn s) (s 416 12).toNat ∧ f_X8_next s 416 12 = ((lxN (mBn s) (s 416 12).toNat : Nat) : Int) := by
  unfold f_X8_next
  refine ⟨?_, ?_, ?_, ?_⟩
  · rw [jz_su_f (by decide), jz_su_f (by decide), jz_su_f (by decide), jz_su_s]
  · rw [jz_su_f (by decide), jz_su_f (by decide), jz_su_s]
  · rw [jz_su_f (by decide), jz_su_s]
  · rw [jz_su_s]
theorem pS_go {u : Nat → Int} {s t : jz_St} {q : Nat} (h1 : fBn s = u) (h2 : mBn t = u) (h6 : s 2 6 = 0) (h16 : t 416 16 = 0) (hq : s 2 3 = (q : Int)) (hq2 : t 416 12 = (q : Int)) (hq3 : q ≤ 120) : pS u (f_X6_adv s) (f_X8_next t) := by
  have a := adv_f s
  have b := nxt_f t
  refine ⟨by rw [fBn_e a.2.2.2.2.2 (adv_o s (by decide))]; exact h1, by rw [mBn_e (next_n t (by decide)) (next_o t (by decide))]; exact h2, Or.inl ⟨by rw [a.2.2.2.2.1]; exact h6, by rw [next_n t (by decide)]; exact h16, q, hq3, ?_⟩⟩
  unfold pC
  rw [a.1, a.2.1, a.2.2.1, a.2.2.2.1, b.1, b.2.1, b.2.2.1, b.2.2.2, h1, h2, hq, hq2]
  exact ⟨rfl, rfl, rfl, rfl, rfl, rfl, rfl, rfl⟩
theorem u_hi {u : Nat → Int} {s : jz_St} (h : fBn s = u) : ∀ q, 120 ≤ q → u q = -1 := by
  intro q hq
  rw [← h]
  unfold fBn
  rw [if_neg (by omega)]
theorem pS_adv {u : Nat → Int} {s t : jz_St} (h : pS u s t) (h6 : s 2 6 = 0) : pS u (f_X6_adv s) (f_X8_next t) := by
  rcases h.2.2 with ⟨q1, q2, p, hp, q3⟩ | q
  · exact pS_go h.1 h.2.1 q1 q2 q3.2.2.1 q3.2.2.2.1 (lxN_ub _ (u_hi h.1) hp)
  · exact absurd h6 (by have := q.1; omega)
theorem bad_f {t : jz_St} (k : Int) (h : t 416 16 = 0) : f_X8_bad t k 416 16 = k ∧ f_X8_bad t k 416 17 = t 416 13 ∧ f_X8_bad t k 416 11 = t 416 11 := by
  unfold f_X8_bad
  rw [if_pos h]
  refine ⟨?_, ?_, ?_⟩
  · rw [jz_su_f (by decide), jz_su_s]
  · rw [jz_su_s]
  · rw [jz_su_f (by decide), jz_su_f (by decide)]
theorem pS_bad {u : Nat → Int} {s t : jz_St} (h : pS u s t) (h6 : s 2 6 = 0) {k : Int} (hk : 0 < k) : pS u (jz_su s 2 6 k) (f_X8_bad t k) := by
  rcases h.2.2 with ⟨q1, q2, p, hp, q3⟩ | q
  · have b := bad_f k q2
    refine ⟨by rw [fBn_e (jz_su_f (by decide)) (jz_su_o (by decide))]; exact h.1, by rw [mBn_e b.2.2 (bad_o t k (by decide))]; exact h.2.1, Or.inr ⟨?_, ?_, ?_, ?_⟩⟩
    · rw [jz_su_s]; exact hk
    · rw [jz_su_s, b.1]
    · rw [jz_su_f (by decide), b.2.1, q3.1, q3.2.1]
    · rw [jz_su_f (by decide), q3.1]; omega
  · exact absurd h6 (by have := q.1; omega)
-- tokens
theorem lxT_c {u : Nat → Int} {p : Nat} (h : 0 < lxC u p 120) : (lxT u p = -2 ∧ mxT u p = 3) ∨ (lxT u p = -3 ∧ mxT u p = 0) := by
  unfold lxT mxT
  rw [if_pos h, if_pos h]
  by_cases c : lxC u p 120 ≤ 2
  · rw [if_pos c, if_pos c]; exact Or.inl ⟨rfl, rfl⟩
  · rw [if_neg c, if_neg c]; exact Or.inr ⟨rfl, rfl⟩
theorem lxT_n {u : Nat → Int} {p : Nat} (h : ¬ 0 < lxC u p 120) : lxT u p = u p ∧ mxT u p = (if u p = -1 then 1 else if 97 ≤ u p ∧ u p ≤ 122 then 2 else if u p = 44 ∨ u p = 59 then 4 else 0) ∧ mxV u p = (if u p = -1 then -1000000 else u p) := by
  unfold lxT mxT mxV
  rw [if_neg h, if_neg h, if_neg h]
  exact ⟨rfl, rfl, rfl⟩
theorem tok_sign (u : Nat → Int) (p : Nat) {c : Int} (hc : c = 44 ∨ c = 59) : lxT u p = c ↔ mxT u p = 4 ∧ mxV u p = c := by
  by_cases h : 0 < lxC u p 120
  · have := lxT_c h
    omega
  · obtain ⟨a, b, d⟩ := lxT_n h
    rw [a, b, d]
    (repeat' split) <;> omega
theorem tok_let (u : Nat → Int) (p : Nat) {c : Int} (hc : 97 ≤ c ∧ c ≤ 122) : lxT u p = c ↔ mxT u p = 2 ∧ mxV u p = c := by
  by_cases h : 0 < lxC u p 120
  · have := lxT_c h
    omega
  · obtain ⟨a, b, d⟩ := lxT_n h
    rw [a, b, d]
    (repeat' split) <;> omega
theorem tok_end (u : Nat → Int) (p : Nat) : lxT u p = -1 ↔ mxT u p = 1 := by
  by_cases h : 0 < lxC u p 120
  · have := lxT_c h
    omega
  · obtain ⟨a, b, d⟩ := lxT_n h
    rw [a, b]
    (repeat' split) <;> omega
theorem tok_num {u : Nat → Int} {p : Nat} (hu : ∀ p, u p = -1 ∨ 0 ≤ u p) : (lxT u p = -2 ↔ mxT u p = 3) ∧ (mxT u p = 3 → lxW u p = mxV u p) := by
  by_cases h : 0 < lxC u p 120
  · have := lxT_c h
    refine ⟨by omega, fun _ => ?_⟩
    unfold mxV
    rw [if_pos h]
  · obtain ⟨a, b, d⟩ := lxT_n h
    have := hu p
    rw [a, b]
    refine ⟨by (repeat' split) <;> omega, fun q => ?_⟩
    exfalso
    (repeat' split at q) <;> omega
theorem tok_sort (u : Nat → Int) (p : Nat) : (fSort (lxT u p) ≠ 0 ↔ mxT u p = 2 ∧ fKb (mxV u p) ≠ -1000000) ∧ (fSort (lxT u p) ≠ 0 → fSort (lxT u p) = fKb (mxV u p) ∧ 1 ≤ fSort (lxT u p) ∧ fSort (lxT u p) ≤ 5) := by
  by_cases h : 0 < lxC u p 120
  · have h2 := lxT_c h
    have e : fSort (lxT u p) = 0 := by unfold fSort; (repeat' split) <;> omega
    rw [e]
    exact ⟨⟨fun q => absurd rfl q, fun q => by omega⟩, fun q => absurd rfl q⟩
  · obtain ⟨a, b, d⟩ := lxT_n h
    rw [a, b, d]
    unfold fSort fKb
    constructor
    · (repeat' split) <;> omega
    · (repeat' split) <;> omega
theorem pS_tS {u : Nat → Int} {s t : jz_St} (h : pS u s t) {c : Int} (hc : c = 44 ∨ c = 59) : pS u (f_X6_tS s c) (f_X8_sign t c) := by
  have hf := pS_f0 h
  unfold f_X6_tS f_X8_sign f_X8_must
  by_cases h6 : s 2 6 = 0
  · rw [if_pos h6, if_pos (show t 416 16 = 0 by omega)]
    rcases h.2.2 with ⟨q1, q2, p, hp, q3⟩ | q
    · have hk := tok_sign u p hc
      rw [← q3.2.2.2.2.1, ← q3.2.2.2.2.2.2.1, ← q3.2.2.2.2.2.2.2] at hk
      by_cases e : s 2 4 = c
      · rw [if_pos e, if_pos (hk.1 e), if_neg (by decide)]; exact pS_adv h h6
      · rw [if_neg e, if_neg (fun x => e (hk.2 x)), if_pos rfl]; exact pS_bad h h6 (by decide)
    · exact absurd h6 (by have := q.1; omega)
  · rw [if_neg h6, if_neg (show ¬ t 416 16 = 0 by omega)]; exact h
theorem pS_tL {u : Nat → Int} {s t : jz_St} (h : pS u s t) {c : Int} (hc : 97 ≤ c ∧ c ≤ 122) : pS u (f_X6_tS s c) (f_X8_must t (v_X8_isLetter t c)) := by
  have hf := pS_f0 h
  unfold f_X6_tS f_X8_must v_X8_isLetter
  by_cases h6 : s 2 6 = 0
  · have h16 : t 416 16 = 0 := by omega
    rw [if_pos h6, if_pos h16]
    rcases h.2.2 with ⟨q1, q2, p, hp, q3⟩ | q
    · have hk := tok_let u p hc
      rw [← q3.2.2.2.2.1, ← q3.2.2.2.2.2.2.1, ← q3.2.2.2.2.2.2.2] at hk
      by_cases e : s 2 4 = c
      · have eb : (if t 416 16 = 0 ∧ t 416 14 = 2 ∧ t 416 15 = c then (1 : Int) else 0) = 1 := if_pos ⟨h16, hk.1 e⟩
        rw [if_pos e, eb, if_neg (show ¬ ((1 : Int) = 0) by decide)]; exact pS_adv h h6
      · have eb : (if t 416 16 = 0 ∧ t 416 14 = 2 ∧ t 416 15 = c then (1 : Int) else 0) = 0 := if_neg (fun x => e (hk.2 x.2))
        rw [if_neg e, eb, if_pos (show (0 : Int) = 0 from rfl)]; exact pS_bad h h6 (by decide)
    · exact absurd h6 (by have := q.1; omega)
  · rw [if_neg h6, if_neg (show ¬ t 416 16 = 0 by omega)]; exact h
theorem pS_tN {u : Nat → Int} {s t : jz_St} (h : pS u s t) (hu : ∀ p, u p = -1 ∨ 0 ≤ u p) (lo hi : Int) : pS u (f_X6_tN s lo hi) (f_X8_number t lo hi) ∧ (f_X6_tN s lo hi 2 6 = 0 → s 2 6 = 0 ∧ v_X6_tN s lo hi = v_X8_number t lo hi ∧ lo ≤ v_X6_tN s lo hi ∧ v_X6_tN s lo hi ≤ hi) := by
  have hf := pS_f0 h
  unfold f_X6_tN f_X8_number v_X6_tN v_X8_number
  by_cases h6 : s 2 6 = 0
  · have h16 : t 416 16 = 0 := by omega
    rw [if_pos h6, if_pos h16]
    rcases h.2.2 with ⟨q1, q2, p, hp, q3⟩ | q
    · have hk := tok_num (u := u) (p := p) hu
      rw [← q3.2.2.2.2.1, ← q3.2.2.2.2.2.1, ← q3.2.2.2.2.2.2.1, ← q3.2.2.2.2.2.2.2] at hk
      by_cases e : s 2 4 = -2
      · have e3 := hk.1.1 e
        have ev := hk.2 e3
        rw [if_pos e, if_pos e3]
        by_cases r : lo ≤ s 2 5 ∧ s 2 5 ≤ hi
        · rw [if_neg (show ¬ (s 2 5 < lo ∨ hi < s 2 5) by omega), if_pos (show lo ≤ t 416 15 ∧ t 416 15 ≤ hi by omega), if_pos ⟨h6, e, r⟩, if_pos ⟨h16, e3, by omega⟩]
          exact ⟨pS_adv h h6, fun _ => ⟨h6, ev, r⟩⟩
        · rw [if_pos (show s 2 5 < lo ∨ hi < s 2 5 by omega), if_neg (show ¬ (lo ≤ t 416 15 ∧ t 416 15 ≤ hi) by omega)]
          exact ⟨pS_bad h h6 (by decide), fun x => by rw [jz_su_s] at x; exact absurd x (by decide)⟩
      · rw [if_neg e, if_neg (fun x => e (hk.1.2 x))]
        exact ⟨pS_bad h h6 (by decide), fun x => by rw [jz_su_s] at x; exact absurd x (by decide)⟩
    · exact absurd h6 (by have := q.1; omega)
  · rw [if_neg h6, if_neg (show ¬ t 416 16 = 0 by omega)]
    exact ⟨h, fun x => absurd x h6⟩
theorem tS_6 {s : jz_St} {c : Int} (h : f_X6_tS s c 2 6 = 0) : s 2 6 = 0 := by
  unfold f_X6_tS at h
  by_cases q : s 2 6 = 0
  · exact q
  · rw [if_neg q] at h; exact h
/-! the square that is read -/
def gQ (s t : jz_St) : Prop := jR False 1 s 358 (t 421) ∧ mRw (t 421) 999 ∧ (∀ l : Nat, l < 7 → (l : Int) < t 421 3 → 1 ≤ t 421 (6 + 5 * l + 1) ∧ 1 ≤ t 421 (6 + 5 * l)) ∧ t 421 0 = 1 ∧ t 421 5 = 0
def gS (u : Nat → Int) (s t : jz_St) : Prop := pS u s t ∧ (s 2 6 = 0 → gQ s t)
theorem gQ_fr {s t s' t' : jz_St} (h : gQ s t) (hs : ∀ x, 358 ≤ x → x < 372 → s' x = s x) (ht : t' 421 = t 421) : gQ s' t' := by
  unfold gQ
  rw [ht]
  exact ⟨jR_sq h.1 (fun x h1 h2 => hs x h1 h2), h.2⟩
