/-! the searches: how to hang leaves, the fewest goats to drive off -/
theorem and_t : ∀ a : Nat, a < 128 → ∀ c : Nat, c < 128 → (jand (a : Int) (c : Int) = (c : Int) ↔ c &&& a = c) := by decide +kernel
theorem or_b : ∀ j : Nat, j < 7 → ∀ a : Nat, a < 2 ^ j → ∀ i : Nat, i < 7 → ((a + 2 ^ j).testBit i = true ↔ (i = j ∨ a.testBit i = true)) := by decide +kernel
theorem rIF_t {q : Nat → Int} : ∀ j : Nat, j ≤ 7 → ∃ a : Nat, rIF q j = a ∧ a < 2 ^ j ∧ ∀ i : Nat, i < 7 → (a.testBit i = true ↔ i < j ∧ q (6 + 5 * i + 1) ≤ 2 * q (6 + 5 * i + 4)) := by
  intro j
  induction j with
  | zero => intro _; exact ⟨0, rfl, by decide, fun i _ => by simp⟩
  | succ j ih =>
    intro hj
    obtain ⟨a, h1, h2, h3⟩ := ih (by omega)
    have hp := Nat.pow_succ 2 j
    have hp7 : 2 ^ j ≤ 2 ^ 7 := Nat.pow_le_pow_right (by decide) (by omega)
    simp only [rIF]
    rw [h1]
    by_cases c : q (6 + 5 * j + 1) ≤ 2 * q (6 + 5 * j + 4)
    · rw [if_pos c]
      refine ⟨a + 2 ^ j, jor_bit j (by omega) a h2, by omega, fun i hi => ?_⟩
      rw [or_b j (by omega) a h2 i hi, h3 i hi]
      constructor
      · intro x
        rcases x with x | x
        · subst x; exact ⟨by omega, c⟩
        · exact ⟨by omega, x.2⟩
      · intro x
        by_cases e : i = j
        · exact Or.inl e
        · exact Or.inr ⟨by omega, x.2⟩
    · rw [if_neg c]
      refine ⟨a, jor_0 a (by omega), by omega, fun i hi => ?_⟩
      rw [h3 i hi]
      constructor
      · intro x; exact ⟨by omega, x.2⟩
      · intro x
        by_cases e : i = j
        · subst e; exact absurd x.2 c
        · exact ⟨by omega, x.2⟩
theorem bt_left {t : jz_St} {r g l : Nat} {b : Int} (hr : r = 420 ∨ r = 422) (hw : mRw (t r) b) (hl : l < 7) : f_X8_bt t r g r (6 + 5 * l + 4) ≤ t r (6 + 5 * l + 4) := by
  have hh := mRw_h hw
  cases e : rCho (t r) g with
  | none => rw [bt_row0 hr e]; exact Int.le_refl _
  | some j =>
    have hj := rCho_some e
    have hb := fBite_rng (t r (6 + 5 * j)) (t r (6 + 5 * j + 4))
    rw [bt_row hr e, if_neg (show ¬ 6 + 5 * l + 4 = 41 + 3 * g by omega)]
    by_cases q : l = j
    · subst q
      rw [if_pos (rfl : 6 + 5 * l + 4 = 6 + 5 * l + 4)]
      omega
    · rw [if_neg (show ¬ 6 + 5 * l + 4 = 6 + 5 * j + 4 by omega)]
      exact Int.le_refl _
theorem phB_left {t : jz_St} {r l : Nat} {b : Int} (hr : r = 420 ∨ r = 422) (hw : mRw (t r) b) (hl : l < 7) : ∀ g, g ≤ 4 → f_X8_phB t r g r (6 + 5 * l + 4) ≤ t r (6 + 5 * l + 4) := by
  intro g
  induction g with
  | zero => intro _; exact Int.le_refl _
  | succ g ih => intro hg; exact Int.le_trans (bt_left hr (phB_mr hr hw g (by omega)) hl) (ih (by omega))
theorem hour_left {t : jz_St} {r l : Nat} {b : Int} (hr : r = 420 ∨ r = 422) (hw : mRw (t r) b) (hl : l < 7) : f_X8_hour t r r (6 + 5 * l + 4) ≤ t r (6 + 5 * l + 4) := by
  have hh := mRw_h hw
  unfold f_X8_hour f_X8_hr2 f_X8_hr1
  rw [jz_su_f (by omega), mphE_h (by omega)]
  exact phB_left hr hw hl _ (by omega)
/-- a law not in force in an hour is not in force behind it -/
def rSub (u : Nat) (q : Nat → Int) : Prop := ∃ a : Nat, rIF q (q 3).toNat = a ∧ a < 128 ∧ u &&& a = u
theorem and_sub {u a : Nat} (h : ∀ i : Nat, u.testBit i = true → a.testBit i = true) : u &&& a = u := by
  apply Nat.eq_of_testBit_eq
  intro i
  rw [Nat.testBit_and]
  cases hu : u.testBit i with
  | false => rfl
  | true => rw [h i hu]; rfl
theorem sub_and {u a : Nat} (h : u &&& a = u) {i : Nat} (hu : u.testBit i = true) : a.testBit i = true := by
  rw [← h, Nat.testBit_and] at hu
  simp only [Bool.and_eq_true] at hu
  exact hu.2
theorem rSub_back {u : Nat} {t : jz_St} {b : Int} (hu : u < 128) (hq : mRq (t 422) b) (h : rSub u (f_X8_hour t 422 422)) : rSub u (t 422) := by
  have hh := mRw_h hq.1
  obtain ⟨a, h1, h2, h3⟩ := h
  have e3 : f_X8_hour t 422 422 3 = t 422 3 := hour_h (Or.inr rfl) (by decide)
  rw [e3] at h1
  obtain ⟨a1, k1, k2, k3⟩ := rIF_t (q := f_X8_hour t 422 422) (t 422 3).toNat (by omega)
  obtain ⟨a2, m1, m2, m3⟩ := rIF_t (q := t 422) (t 422 3).toNat (by omega)
  have h7 : 2 ^ (t 422 3).toNat ≤ 2 ^ 7 := Nat.pow_le_pow_right (by decide) (by omega)
  obtain rfl : a = a1 := by omega
  refine ⟨a2, m1, by omega, and_sub (fun i hi => ?_)⟩
  have hi7 : i < 7 := by
    rcases Nat.lt_or_ge i 7 with q | q
    · exact q
    · exfalso
      have h8 : 2 ^ 7 ≤ 2 ^ i := Nat.pow_le_pow_right (by decide) q
      rw [Nat.testBit_lt_two_pow (by omega)] at hi
      exact absurd hi (by decide)
  have x := (k3 i hi7).1 (sub_and h3 hi)
  rw [hour_lf (Or.inr rfl) (by omega) (by omega)] at x
  have y := hour_left (Or.inr rfl) hq.1 hi7
  exact (m3 i hi7).2 ⟨x.1, by omega⟩
theorem keep_iff {e : Prop} {u : Nat} (hu : u < 128) : ∀ (n : Nat) (s t : jz_St) (b : Int), jR e n s 358 (t 422) → mRq (t 422) b →
    ((fKeep s 358 (u : Int) n).1 = 1 ↔ rSub u (f_X8_hoursOf t 422 n 422)) ∧ ((fKeep s 358 (u : Int) n).1 = 0 ∨ (fKeep s 358 (u : Int) n).1 = 1) := by
  have cond : ∀ (e : Prop) (n : Nat) (s t : jz_St) (b : Int), jR e n s 358 (t 422) → mRq (t 422) b → (jand (u : Int) (jxor (fIF s 358 7) (-1)) = 0 ↔ rSub u (t 422)) := by
    intro e n s t b h hq
    have hh := mRw_h hq.1
    rw [jR_if h hq]
    obtain ⟨a, h1, h2⟩ := rIF_n (q := t 422) (t 422 3).toNat (by omega)
    have h7 : 2 ^ (t 422 3).toNat ≤ 2 ^ 7 := Nat.pow_le_pow_right (by decide) (by omega)
    rw [h1, sub_t a (by omega) u hu]
    constructor
    · intro q; exact ⟨a, h1, by omega, q⟩
    · intro q
      obtain ⟨a2, k1, k2, k3⟩ := q
      have : a2 = a := by omega
      rw [← this]; exact k3
  intro n
  induction n with
  | zero =>
    intro s t b h hq
    have hc := cond e 0 s t b h hq
    simp only [fKeep]
    show (((if jand (u : Int) (jxor (fIF s 358 7) (-1)) = 0 then (1 : Int) else 0) = 1 ↔ rSub u (t 422)) ∧ _)
    by_cases q : jand (u : Int) (jxor (fIF s 358 7) (-1)) = 0
    · rw [if_pos q]; exact ⟨⟨fun _ => hc.1 q, fun _ => rfl⟩, Or.inr rfl⟩
    · rw [if_neg q]; exact ⟨⟨fun x => absurd x (by decide), fun x => absurd (hc.2 x) q⟩, Or.inl rfl⟩
  | succ n ih =>
    intro s t b h hq
    have hc := cond e (n + 1) s t b h hq
    have h7 := jR_hour (Or.inr rfl) h hq.1
    have hi := ih _ _ (b + 1) h7.1 (hour_mq (Or.inr rfl) hq)
    rw [hoursOf_s] at hi
    simp only [fKeep]
    by_cases q : jand (u : Int) (jxor (fIF s 358 7) (-1)) = 0
    · rw [if_pos q]; exact hi
    · rw [if_neg q]
      refine ⟨⟨fun x => absurd x (show ¬ ((0 : Int) = 1) by decide), fun x => ?_⟩, Or.inl rfl⟩
      exfalso
      apply q
      apply hc.2
      have key : ∀ i : Nat, rSub u (f_X8_hoursOf t 422 i 422) → rSub u (t 422) := by
        intro i
        induction i with
        | zero => intro x; exact x
        | succ i ih2 => intro x; exact ih2 (rSub_back hu (hoursOf_mq (Or.inr rfl) hq i) x)
      exact key (n + 1) x
theorem keep_e {e : Prop} {u : Nat} (hu : u < 128) {n : Nat} {s t : jz_St} {b : Int} (h : jR e n s 358 (t 422)) (hq : mRq (t 422) b) :
    (fKeep s 358 (u : Int) n).1 = if jand (rIF (f_X8_hoursOf t 422 n 422) (f_X8_hoursOf t 422 n 422 3).toNat) (u : Int) = u then 1 else 0 := by
  have hk := keep_iff hu n s t b h hq
  have hq2 := hoursOf_mq (Or.inr rfl) hq n
  have hh := mRw_h hq2.1
  obtain ⟨a, h1, h2⟩ := rIF_n (q := f_X8_hoursOf t 422 n 422) (f_X8_hoursOf t 422 n 422 3).toNat (by omega)
  have h7 : 2 ^ (f_X8_hoursOf t 422 n 422 3).toNat ≤ 2 ^ 7 := Nat.pow_le_pow_right (by decide) (by omega)
  have hs : jand (rIF (f_X8_hoursOf t 422 n 422) (f_X8_hoursOf t 422 n 422 3).toNat) (u : Int) = u ↔ rSub u (f_X8_hoursOf t 422 n 422) := by
    rw [h1, and_t a (by omega) u hu]
    constructor
    · intro q; exact ⟨a, h1, by omega, q⟩
    · intro q
      obtain ⟨a2, k1, k2, k3⟩ := q
      have : a2 = a := by omega
      rw [← this]; exact k3
  by_cases c : jand (rIF (f_X8_hoursOf t 422 n 422) (f_X8_hoursOf t 422 n 422 3).toNat) (u : Int) = u
  · rw [if_pos c]; exact hk.1.2 (hs.1 c)
  · rw [if_neg c]
    exact hk.2.resolve_right (fun x => c (hs.2 (hk.1.1 x)))
/-! a search in itself -/
def gd (P : Nat → Prop) (al x : Nat) : Prop := x ≤ al ∧ x &&& al = x ∧ P x
theorem fwI_s {al : Nat} {dr : Bool} {told : Int} {n many : Nat} (P : Nat → Prop) (hal : al < 128) (s0 : jz_St) (hP : ∀ (s1 : jz_St) (c : Nat), (∀ x, jOff 358 x → s1 x = s0 x) → c ≤ al → ((fAtt s1 dr told n c).1 ≠ 0 ↔ P c)) :
    ∀ (m c : Nat) (s1 : jz_St), (∀ x, jOff 358 x → s1 x = s0 x) → c + m = al + 1 →
    (∀ r, (fFwI s1 al dr told n many c m).1 = some r → gd P al r ∧ fBC r = many ∧ ∀ x, c ≤ x → x < r → ¬ (gd P al x ∧ fBC x = many)) ∧
    ((fFwI s1 al dr told n many c m).1 = none → ∀ x, c ≤ x → ¬ (gd P al x ∧ fBC x = many)) := by
  intro m
  induction m with
  | zero =>
    intro c s1 _ hc
    exact ⟨fun r hr => by simp [fFwI] at hr, fun _ x hx hg => by have := hg.1.1; omega⟩
  | succ m ih =>
    intro c s1 hs hc
    have hPc := hP s1 c hs (by omega)
    have step : ∀ (s2 : jz_St), (∀ x, jOff 358 x → s2 x = s0 x) → ¬ (gd P al c ∧ fBC c = many) →
        (∀ r, (fFwI s2 al dr told n many (c + 1) m).1 = some r → gd P al r ∧ fBC r = many ∧ ∀ x, c ≤ x → x < r → ¬ (gd P al x ∧ fBC x = many)) ∧
        ((fFwI s2 al dr told n many (c + 1) m).1 = none → ∀ x, c ≤ x → ¬ (gd P al x ∧ fBC x = many)) := by
      intro s2 hs2 hne
      have hi := ih (c + 1) s2 hs2 (by omega)
      refine ⟨fun r hr => ?_, fun hr x hx => ?_⟩
      · have h1 := hi.1 r hr
        refine ⟨h1.1, h1.2.1, fun x hx hxr => ?_⟩
        by_cases e : x = c
        · rw [e]; exact hne
        · exact h1.2.2 x (by omega) hxr
      · by_cases e : x = c
        · rw [e]; exact hne
        · exact hi.2 hr x (by omega)
    simp only [fFwI]
    by_cases q : fBC c = (many : Int) ∧ jand (c : Int) (jxor (al : Int) (-1)) = 0
    · rw [if_pos q]
      have q2 := (sub_t al hal c (by omega)).1 q.2
      by_cases q3 : (fAtt s1 dr told n c).1 = 0
      · rw [if_pos q3]
        exact step _ (fun x hx => by rw [att_off hx]; exact hs x hx) (fun g => (hPc.2 g.1.2.2) q3)
      · rw [if_neg q3]
        refine ⟨fun r hr => ?_, fun hr => by simp at hr⟩
        have hr2 : c = r := by simpa using hr
        subst hr2
        exact ⟨⟨by omega, q2, hPc.1 q3⟩, q.1, fun x hx hxr => by omega⟩
    · rw [if_neg q]
      exact step s1 hs (fun g => q ⟨g.2, (sub_t al hal c (by omega)).2 g.1.2.1⟩)
theorem fwO_s {al : Nat} {dr : Bool} {told : Int} {n : Nat} (P : Nat → Prop) (hal : al < 128) (s0 : jz_St) (hP : ∀ (s1 : jz_St) (c : Nat), (∀ x, jOff 358 x → s1 x = s0 x) → c ≤ al → ((fAtt s1 dr told n c).1 ≠ 0 ↔ P c)) :
    ∀ (m many : Nat) (s1 : jz_St), (∀ x, jOff 358 x → s1 x = s0 x) →
    (∀ r, (fFwO s1 al dr told n many m).1 = some r → gd P al r ∧ ∀ x, gd P al x → (many : Int) ≤ fBC x → (fBC r < fBC x ∨ (fBC r = fBC x ∧ r ≤ x))) ∧
    ((fFwO s1 al dr told n many m).1 = none → ∀ x, gd P al x → ¬ ((many : Int) ≤ fBC x ∧ fBC x < many + m)) := by
  intro m
  induction m with
  | zero => intro many s1 _; exact ⟨fun r hr => by simp [fFwO] at hr, fun _ x _ hx => by omega⟩
  | succ m ih =>
    intro many s1 hs
    have hI := fwI_s (many := many) P hal s0 hP (al + 1) 0 s1 hs (by omega)
    simp only [fFwO]
    cases e : (fFwI s1 al dr told n many 0 (al + 1)).1 with
    | some c =>
      have h1 := hI.1 c e
      simp only
      refine ⟨fun r hr => ?_, fun hr => by simp at hr⟩
      have hr2 : c = r := by simpa using hr
      subst hr2
      refine ⟨h1.1, fun x hx hm => ?_⟩
      by_cases q : fBC x = (many : Int)
      · right
        refine ⟨by omega, ?_⟩
        rcases Nat.lt_or_ge x c with q2 | q2
        · exact absurd ⟨hx, q⟩ (h1.2.2 x (by omega) q2)
        · exact q2
      · left; omega
    | none =>
      have h1 := hI.2 e
      have h2 := ih (many + 1) ((fFwI s1 al dr told n many 0 (al + 1)).2) (fun x hx => by rw [fwI_off hx]; exact hs x hx)
      simp only
      refine ⟨fun r hr => ?_, fun hr x hx hm => ?_⟩
      · have h3 := h2.1 r hr
        refine ⟨h3.1, fun x hx hm => h3.2 x hx ?_⟩
        have := h1 x (by omega)
        have hne : ¬ fBC x = (many : Int) := fun q => this ⟨hx, q⟩
        omega
      · have := h1 x (by omega)
        have hne : ¬ fBC x = (many : Int) := fun q => this ⟨hx, q⟩
        exact h2.2 hr x hx (by omega)
/-- the best so far: none, or the one of fewest bits, the smallest of these -/
def bst (P : Nat → Prop) (al c : Nat) (best : Int) : Prop := (best = -1000000 ∧ ∀ x, x < c → ¬ gd P al x) ∨ ∃ r : Nat, best = (r : Int) ∧ gd P al r ∧ r < c ∧ ∀ x, x < c → gd P al x → (fBC r < fBC x ∨ (fBC r = fBC x ∧ r ≤ x))
theorem bst_no {P : Nat → Prop} {al c : Nat} {best : Int} (h : bst P al c best) (hn : ¬ gd P al c ∨ (best ≠ -1000000 ∧ fBC best.toNat ≤ fBC c)) : bst P al (c + 1) best := by
  rcases h with ⟨h1, h2⟩ | ⟨r, h1, h2, h3, h4⟩
  · left
    refine ⟨h1, fun x hx => ?_⟩
    by_cases e : x = c
    · rw [e]
      rcases hn with q | q
      · exact q
      · exact absurd h1 q.1
    · exact h2 x (by omega)
  · right
    refine ⟨r, h1, h2, by omega, fun x hx hg => ?_⟩
    by_cases e : x = c
    · subst e
      rcases hn with q | q
      · exact absurd hg q
      · have e2 : best.toNat = r := by omega
        rw [e2] at q
        omega
    · exact h4 x (by omega) hg
theorem bst_yes {P : Nat → Prop} {al c : Nat} {best : Int} (h : bst P al c best) (hg : gd P al c) (hn : best = -1000000 ∨ fBC c < fBC best.toNat) : bst P al (c + 1) c := by
  right
  refine ⟨c, rfl, hg, by omega, fun x hx hgx => ?_⟩
  by_cases e : x = c
  · subst e; exact Or.inr ⟨rfl, Nat.le_refl _⟩
  · rcases h with ⟨h1, h2⟩ | ⟨r, h1, h2, h3, h4⟩
    · exact absurd hgx (h2 x (by omega))
    · have h5 := h4 x (by omega) hgx
      have e2 : best.toNat = r := by omega
      rw [e2] at hn
      left
      omega
theorem bst_eq {P : Nat → Prop} {al : Nat} (hal : al < 128) {best : Int} (h : bst P al (al + 1) best) {o : Option Nat}
    (h1 : ∀ r, o = some r → gd P al r ∧ ∀ x, gd P al x → ((0 : Nat) : Int) ≤ fBC x → (fBC r < fBC x ∨ (fBC r = fBC x ∧ r ≤ x))) (h2 : o = none → ∀ x, gd P al x → ¬ (((0 : Nat) : Int) ≤ fBC x ∧ fBC x < ((0 : Nat) : Int) + ((8 : Nat) : Int))) : fON o = best := by
  have rng : ∀ x, gd P al x → 0 ≤ fBC x ∧ fBC x ≤ 7 := fun x hx => fBC_rng x (by have := hx.1; omega)
  cases e : o with
  | none =>
    rw [fON_none]
    rcases h with ⟨k1, k2⟩ | ⟨r, k1, k2, k3, k4⟩
    · exact k1.symm
    · have := rng r k2
      exact absurd ⟨by omega, by omega⟩ (h2 e r k2)
  | some c =>
    rw [fON_some]
    have hc := h1 c e
    rcases h with ⟨k1, k2⟩ | ⟨r, k1, k2, k3, k4⟩
    · exact absurd hc.1 (k2 c (by have := hc.1.1; omega))
    · have a1 := hc.2 r k2 (by have := rng r k2; omega)
      have a2 := k4 c (by have := hc.1.1; omega) hc.1
      rw [k1]
      omega
