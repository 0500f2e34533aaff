/-! sizes and kinds stay; biters, what was eaten, what was emptied -/
theorem bt_lf {t : jz_St} {r g i : Nat} (hr : r = 420 ∨ r = 422) (hi : i < 41 ∧ (i < 6 ∨ (i - 6) % 5 ≠ 4)) : f_X8_bt t r g r i = t r i := by
  cases e : rCho (t r) g with
  | none => rw [bt_row0 hr e]
  | some j => rw [bt_row hr e, if_neg (by omega), if_neg (by omega)]
theorem phB_lf {t : jz_St} {r i : Nat} (hr : r = 420 ∨ r = 422) (hi : i < 41 ∧ (i < 6 ∨ (i - 6) % 5 ≠ 4)) : ∀ g, f_X8_phB t r g r i = t r i := by
  intro g
  induction g with
  | zero => rfl
  | succ g ih => simp only [f_X8_phB]; rw [bt_lf hr hi, ih]
theorem hour_lf {t : jz_St} {r i : Nat} (hr : r = 420 ∨ r = 422) (hi : i < 41 ∧ (i < 6 ∨ (i - 6) % 5 ≠ 4)) (h5 : i ≠ 5) : f_X8_hour t r r i = t r i := by
  unfold f_X8_hour f_X8_hr2 f_X8_hr1
  rw [jz_su_f h5, mphE_h hi.1, phB_lf hr hi]
theorem mRq_of {q q' : Nat → Int} {b c : Int} (h : mRq q b) (hw : mRw q' c) (h0 : q' 0 = q 0) (h3 : q' 3 = q 3) (h4 : q' 4 = q 4) (hl : ∀ l : Nat, l < 7 → q' (6 + 5 * l + 1) = q (6 + 5 * l + 1) ∧ (1 ≤ q (6 + 5 * l) → 1 ≤ q' (6 + 5 * l))) : mRq q' c := by
  refine ⟨hw, fun l hl1 hl2 => ?_, ?_, ?_⟩
  · rw [h3] at hl2
    have h5 := h.2.1 l hl1 hl2
    have h6 := hl l hl1
    exact ⟨by rw [h6.1]; exact h5.1, h6.2 h5.2⟩
  · rw [h0, h3, h4]; exact h.2.2.1
  · rw [h0, h3, h4]; exact h.2.2.2
theorem hour_mq {t : jz_St} {r : Nat} {b : Int} (hr : r = 420 ∨ r = 422) (h : mRq (t r) b) : mRq (f_X8_hour t r r) (b + 1) :=
  mRq_of h (hour_mr hr h.1) (hour_h hr (by decide)) (hour_h hr (by decide)) (hour_h hr (by decide)) (fun l hl => ⟨hour_lf hr (by omega) (by omega), fun q => by rw [hour_lf hr (by omega) (by omega)]; exact q⟩)
theorem hoursOf_mq {t : jz_St} {r : Nat} {b : Int} (hr : r = 420 ∨ r = 422) (h : mRq (t r) b) : ∀ n : Nat, mRq (f_X8_hoursOf t r n r) (b + n) := by
  intro n
  induction n with
  | zero => simpa [f_X8_hoursOf] using h
  | succ n ih =>
    have h1 := hour_mq hr ih
    show mRq (f_X8_hour (f_X8_hoursOf t r n) r r) _
    rw [show b + ((n + 1 : Nat) : Int) = b + (n : Int) + 1 by omega]
    exact h1
theorem mRq_row {q q' : Nat → Int} {b : Int} (h : mRq q b) (he : ∀ i, i < 53 → q' i = q i) : mRq q' b := by
  refine mRq_of h (fun i hi => by rw [he i hi]; exact h.1 i hi) (he 0 (by decide)) (he 3 (by decide)) (he 4 (by decide)) (fun l hl => ⟨he _ (by omega), fun q => by rw [he _ (by omega)]; exact q⟩)
theorem layThen_mq {t : jz_St} {b : Int} (h : mRq (t 420) b) : mRq (f_X8_layThen t 422) b := mRq_row h (fun i hi => layThen_in t hi)
theorem layThen_R {s t : jz_St} (h : jR False 1 s 344 (t 420)) : jR False 1 (f_X5_take s 358 344) 358 (f_X8_layThen t 422) := jR_row (jR_take (by omega) h) (fun i hi => layThen_in t hi)
-- biters
theorem jor_c : ∀ a : Nat, a < 16 → ∀ g : Nat, g < 4 → ∃ c : Nat, jor ((a : Nat) : Int) (jshl 1 (g : Int)) = ((c : Nat) : Int) ∧ c < 16 := by
  have h : ∀ a : Nat, a < 16 → ∀ g : Nat, g < 4 → jor ((a : Nat) : Int) (jshl 1 (g : Int)) = (((jor ((a : Nat) : Int) (jshl 1 (g : Int))).toNat : Nat) : Int) ∧ (jor ((a : Nat) : Int) (jshl 1 (g : Int))).toNat < 16 := by decide +kernel
  intro a ha g hg
  exact ⟨_, (h a ha g hg).1, (h a ha g hg).2⟩
def jB4 (z : Int) : Prop := ∃ a : Nat, z = ((a : Nat) : Int) ∧ a < 16
theorem jB4_or {z : Int} {g : Nat} (h : jB4 z) (hg : g < 4) : jB4 (jor z (jshl 1 g)) := by
  obtain ⟨a, rfl, h2⟩ := h
  obtain ⟨c, h3, h4⟩ := jor_c a h2 g hg
  exact ⟨c, h3, h4⟩
theorem jB4_0 {z : Int} (h : jB4 z) : jor z 0 = z := by
  obtain ⟨a, rfl, h2⟩ := h
  exact jor_0 a (by omega)
theorem rBi_4 {u : Nat → Int} {l acc : Int} (h : jB4 acc) : ∀ g, g ≤ 4 → jB4 (rBi u l acc g) := by
  intro g
  induction g with
  | zero => intro _; exact h
  | succ g ih =>
    intro hg
    simp only [rBi]
    split
    · exact jB4_or (ih (by omega)) (by omega)
    · rw [jB4_0 (ih (by omega))]; exact ih (by omega)
theorem fON_some (j : Nat) : fON (some j) = (j : Int) := rfl
theorem fON_none : fON none = -1000000 := rfl
theorem lB6 {s t : jz_St} {k r g : Nat} {b : Int} (hr : r = 420 ∨ r = 422) (h : jR False 1 s k (t r)) (hw : mRw (t r) b) (hg : g < 4) (hc : (g : Int) < t r 4) {l : Nat} (hl : l < 7) (hB : jB4 (s (k + 3 + l) 6)) :
    f_X5_letBite s k g (k + 3 + l) 6 = jor (s (k + 3 + l) 6) (if fON (rCho (t r) g) = (l : Int) then jshl 1 g else 0) := by
  have hcho := jR_cho h hw hg hc
  cases e : rCho (t r) g with
  | none =>
    rw [e] at hcho
    have e1 : f_X5_letBite s k g = s := by unfold f_X5_letBite; simp only [hcho]
    rw [e1, fON_none, if_neg (by omega), jB4_0 hB]
  | some j =>
    rw [e] at hcho
    have e1 : f_X5_letBite s k g = f_X5_bite s k g j := by unfold f_X5_letBite; simp only [hcho]
    rw [e1, fON_some, bt6]
    by_cases q : l = j
    · subst q; rw [if_pos rfl, if_pos rfl]
    · rw [if_neg (by omega), if_neg (by omega), jB4_0 hB]
theorem phB6 {s t : jz_St} {k r : Nat} {b : Int} (hr : r = 420 ∨ r = 422) (h : jR False 1 s k (t r)) (hw : mRw (t r) b) {l : Nat} (hl : l < 7) (hB : jB4 (s (k + 3 + l) 6)) : ∀ n : Nat, (n : Int) ≤ t r 4 →
    f_X5_phB s k n (k + 3 + l) 6 = rBi (f_X8_hour t r 425) l (s (k + 3 + l) 6) n := by
  have hh := mRw_h hw
  intro n
  induction n with
  | zero => intro _; rfl
  | succ n ih =>
    intro hn
    have i0 := ih (by omega)
    obtain ⟨i1, i2⟩ := jR_phB hr h hw n (by omega)
    have e4 : f_X8_phB t r n r 4 = t r 4 := phB_h hr (by decide) n
    have e3 : f_X5_phB s k n k 3 = t r 4 := by rw [i1.1.2.1, e4]
    have hB2 : jB4 (f_X5_phB s k n (k + 3 + l) 6) := by rw [i0]; exact rBi_4 hB n (by omega)
    have h5 := lB6 hr i1 (phB_mr hr hw n (by omega)) (g := n) (by omega) (by omega) hl hB2
    simp only [f_X5_phB, rBi]
    rw [if_pos (by omega), h5, i0, hour_425 t hr (by omega)]
theorem hour6 {s t : jz_St} {k r : Nat} {b : Int} (hr : r = 420 ∨ r = 422) (h : jR False 1 s k (t r)) (hw : mRw (t r) b) {l : Nat} (hl : l < 7) (hB : jB4 (s (k + 3 + l) 6)) :
    f_X5_passHour s k (k + 3 + l) 6 = rBi (f_X8_hour t r 425) l (s (k + 3 + l) 6) (t r 4).toNat := by
  have hh := mRw_h hw
  have h2 := phB_stop (s := s) (k := k) (4 - (t r 4).toNat) (t r 4).toNat (by have := h.1.2.1; omega) (by omega)
  rw [show (t r 4).toNat + (4 - (t r 4).toNat) = 4 by omega] at h2
  unfold f_X5_passHour
  (try simp only)
  rw [jz_su_o (by omega), phE_leaf _ _ _ hl 4 (by omega), h2.1]
  exact phB6 hr h hw hl hB _ (by omega)
theorem hours6 {s t : jz_St} {k : Nat} {b : Int} (h : jR False 1 s k (t 422)) (hw : mRw (t 422) b) {l : Nat} (hl : l < 7) (h0 : s (k + 3 + l) 6 = 0) : ∀ n : Nat,
    f_X5_passHours s k n (k + 3 + l) 6 = rBs t l n ∧ jB4 (rBs t l n) := by
  have hh := mRw_h hw
  intro n
  induction n with
  | zero => exact ⟨h0, 0, rfl, by decide⟩
  | succ n ih =>
    have i1 := jR_f (m2 := 1) (jR_hours (m := 0) (Or.inr rfl) n (jR_f h) hw)
    have i2 := hoursOf_mr (Or.inr rfl) hw n
    have e := hour6 (Or.inr rfl) i1 i2 hl (by rw [ih.1]; exact ih.2)
    rw [hoursOf_h (Or.inr rfl) (by decide), ih.1] at e
    simp only [f_X5_passHours, rBs]
    exact ⟨e, rBi_4 ih.2 _ (by omega)⟩
-- what was eaten
theorem lB4 {s t : jz_St} {k r g : Nat} {b : Int} (hr : r = 420 ∨ r = 422) (h : jR False 1 s k (t r)) (hw : mRw (t r) b) (hg : g < 4) (hc : (g : Int) < t r 4) (c : Nat) :
    f_X5_letBite s k g (k + 10 + c) 4 = s (k + 10 + c) 4 + if c = g then v_X8_bt t r g else 0 := by
  have hv := (jR_bt hr h hw hg hc).2
  have hcho := jR_cho h hw hg hc
  have hh := mRw_h hw
  rw [← hv]
  cases e : rCho (t r) g with
  | none =>
    rw [e] at hcho
    have e1 : f_X5_letBite s k g = s := by unfold f_X5_letBite; simp only [hcho]
    have e2 : v_X5_letBite s k g = 0 := by unfold v_X5_letBite; simp only [hcho]
    rw [e1, e2]
    split <;> omega
  | some j =>
    rw [e] at hcho
    have hj := rCho_some e
    have e1 : f_X5_letBite s k g = f_X5_bite s k g j := by unfold f_X5_letBite; simp only [hcho]
    have e2 : v_X5_letBite s k g = fBite (s (k + 3 + j) 1) (s (k + 3 + j) 5) := by unfold v_X5_letBite; simp only [hcho]
    rw [e1, e2, bt4]
    by_cases q : c = g
    · subst q; rw [if_pos rfl, if_pos rfl]
    · rw [if_neg (by omega), if_neg q, Int.add_zero]
theorem phB4' {s t : jz_St} {k r : Nat} {b : Int} (hr : r = 420 ∨ r = 422) (h : jR False 1 s k (t r)) (hw : mRw (t r) b) (c : Nat) : ∀ n : Nat, (n : Int) ≤ t r 4 →
    f_X5_phB s k n (k + 10 + c) 4 = s (k + 10 + c) 4 + if c < n then f_X8_hour t r 426 c else 0 := by
  have hh := mRw_h hw
  intro n
  induction n with
  | zero => intro _; rw [if_neg (by omega), Int.add_zero]; rfl
  | succ n ih =>
    intro hn
    have i0 := ih (by omega)
    obtain ⟨i1, i2⟩ := jR_phB hr h hw n (by omega)
    have e4 : f_X8_phB t r n r 4 = t r 4 := phB_h hr (by decide) n
    have e3 : f_X5_phB s k n k 3 = t r 4 := by rw [i1.1.2.1, e4]
    have h5 := lB4 hr i1 (phB_mr hr hw n (by omega)) (g := n) (by omega) (by omega) c
    simp only [f_X5_phB]
    rw [if_pos (by omega), h5, i0]
    by_cases q : c = n
    · subst q
      rw [if_neg (by omega), if_pos rfl, if_pos (by omega), hour_426 t hr (by omega)]
      omega
    · rw [if_neg q]
      by_cases q2 : c < n
      · rw [if_pos q2, if_pos (by omega)]; omega
      · rw [if_neg q2, if_neg (by omega)]; omega
theorem phE_g4 (s : jz_St) (k c : Nat) : ∀ g, f_X5_phE s k g (k + 10 + c) 4 = s (k + 10 + c) 4 := by
  intro g
  induction g with
  | zero => rfl
  | succ g ih => simp only [f_X5_phE]; rw [ehn _ _ _ _ (by decide) (by decide), ih]
theorem hour4 {s t : jz_St} {k r : Nat} {b : Int} (hr : r = 420 ∨ r = 422) (h : jR False 1 s k (t r)) (hw : mRw (t r) b) {c : Nat} (hc : (c : Int) < t r 4) :
    f_X5_passHour s k (k + 10 + c) 4 = s (k + 10 + c) 4 + f_X8_hour t r 426 c := by
  have hh := mRw_h hw
  have h2 := phB_stop (s := s) (k := k) (4 - (t r 4).toNat) (t r 4).toNat (by have := h.1.2.1; omega) (by omega)
  rw [show (t r 4).toNat + (4 - (t r 4).toNat) = 4 by omega] at h2
  unfold f_X5_passHour
  (try simp only)
  rw [jz_su_o (by omega), phE_g4, h2.1, phB4' hr h hw c _ (by omega), if_pos (by omega)]
theorem hours4 {s t : jz_St} {k : Nat} {b : Int} (h : jR False 1 s k (t 422)) (hw : mRw (t 422) b) {c : Nat} (hc : (c : Int) < t 422 4) (h0 : s (k + 10 + c) 4 = 0) : ∀ n : Nat,
    f_X5_passHours s k n (k + 10 + c) 4 = rEat t c n := by
  intro n
  induction n with
  | zero => exact h0
  | succ n ih =>
    have i1 := jR_f (m2 := 1) (jR_hours (m := 0) (Or.inr rfl) n (jR_f h) hw)
    have i2 := hoursOf_mr (Or.inr rfl) hw n
    have e := hour4 (Or.inr rfl) i1 i2 (c := c) (by rw [hoursOf_h (Or.inr rfl) (by decide)]; exact hc)
    simp only [f_X5_passHours, rEat]
    rw [e, ih]
-- what was emptied
theorem rVo_up {q q' : Nat → Int} {j : Nat} (he : ∀ l, l < 7 → l ≠ j → q' (6 + 5 * l + 4) = q (6 + 5 * l + 4)) : ∀ n : Nat, n ≤ 7 → rVo q' n = rVo q n + if j < n then (if q' (6 + 5 * j + 4) = 0 then 1 else 0) - (if q (6 + 5 * j + 4) = 0 then 1 else 0) else 0 := by
  intro n
  induction n with
  | zero => intro _; simp [rVo]
  | succ n ih =>
    intro hn
    simp only [rVo]
    rw [ih (by omega)]
    by_cases e : n = j
    · subst e
      rw [if_neg (show ¬ n < n by omega), if_pos (show n < n + 1 by omega)]
      omega
    · rw [he n (by omega) e]
      by_cases e2 : j < n
      · rw [if_pos e2, if_pos (show j < n + 1 by omega)]; omega
      · rw [if_neg e2, if_neg (show ¬ j < n + 1 by omega)]; omega
theorem lB7 {s t : jz_St} {k r g : Nat} {b : Int} (hr : r = 420 ∨ r = 422) (h : jR False 1 s k (t r)) (hw : mRw (t r) b) (hg : g < 4) (hc : (g : Int) < t r 4) :
    f_X5_letBite s k g k 7 = s k 7 + (rVo (f_X8_bt t r g r) (t r 3).toNat - rVo (t r) (t r 3).toNat) := by
  have hcho := jR_cho h hw hg hc
  have hh := mRw_h hw
  cases e : rCho (t r) g with
  | none =>
    rw [e] at hcho
    have e1 : f_X5_letBite s k g = s := by unfold f_X5_letBite; simp only [hcho]
    rw [e1, bt_row0 hr e]
    omega
  | some j =>
    rw [e] at hcho
    have hj := rCho_some e
    have hjl := h.2.1 j (by omega) (by omega)
    have hb := fBite_rng (t r (6 + 5 * j)) (t r (6 + 5 * j + 4))
    have e1 : f_X5_letBite s k g = f_X5_bite s k g j := by unfold f_X5_letBite; simp only [hcho]
    have hup := rVo_up (q := t r) (q' := f_X8_bt t r g r) (j := j) (fun l hl7 hl => by rw [bt_row hr e, if_neg (by omega), if_neg (by omega)]) (t r 3).toNat (by omega)
    have e5 : f_X8_bt t r g r (6 + 5 * j + 4) = t r (6 + 5 * j + 4) - fBite (t r (6 + 5 * j)) (t r (6 + 5 * j + 4)) := by
      rw [bt_row hr e, if_neg (show ¬ 6 + 5 * j + 4 = 41 + 3 * g by omega), if_pos (rfl : 6 + 5 * j + 4 = 6 + 5 * j + 4)]
    rw [if_pos hj.1, e5] at hup
    rw [e1, bt7, if_pos (rfl : k = k), hup, hjl.1, hjl.2.2.2.2]
    (repeat' split) <;> omega
theorem phB7 {s t : jz_St} {k r : Nat} {b : Int} (hr : r = 420 ∨ r = 422) (h : jR False 1 s k (t r)) (hw : mRw (t r) b) : ∀ n : Nat, (n : Int) ≤ t r 4 →
    f_X5_phB s k n k 7 = s k 7 + (rVo (f_X8_phB t r n r) (t r 3).toNat - rVo (t r) (t r 3).toNat) := by
  have hh := mRw_h hw
  intro n
  induction n with
  | zero => intro _; show s k 7 = s k 7 + (rVo (t r) (t r 3).toNat - rVo (t r) (t r 3).toNat); omega
  | succ n ih =>
    intro hn
    have i0 := ih (by omega)
    obtain ⟨i1, i2⟩ := jR_phB hr h hw n (by omega)
    have e4 : f_X8_phB t r n r 4 = t r 4 := phB_h hr (by decide) n
    have e33 : f_X8_phB t r n r 3 = t r 3 := phB_h hr (by decide) n
    have e3 : f_X5_phB s k n k 3 = t r 4 := by rw [i1.1.2.1, e4]
    have h5 := lB7 hr i1 (phB_mr hr hw n (by omega)) (g := n) (by omega) (by omega)
    rw [e33] at h5
    simp only [f_X5_phB, f_X8_phB]
    rw [if_pos (by omega), h5, i0]
    omega
theorem rVo_ext {q q' : Nat → Int} : ∀ n : Nat, (∀ l, l < n → q' (6 + 5 * l + 4) = q (6 + 5 * l + 4)) → rVo q' n = rVo q n := by
  intro n
  induction n with
  | zero => intro _; rfl
  | succ n ih =>
    intro h
    simp only [rVo]
    rw [ih (fun l hl => h l (by omega)), h n (by omega)]
theorem hour7 {s t : jz_St} {k : Nat} {b : Int} (h : jR False 1 s k (t 422)) (hw : mRw (t 422) b) :
    f_X5_passHour s k k 7 = s k 7 + (rVoL (f_X8_hour t 422) - rVoL t) := by
  have hh := mRw_h hw
  have h2 := phB_stop (s := s) (k := k) (4 - (t 422 4).toNat) (t 422 4).toNat (by have := h.1.2.1; omega) (by omega)
  rw [show (t 422 4).toNat + (4 - (t 422 4).toNat) = 4 by omega] at h2
  have e3 : f_X8_hour t 422 422 3 = t 422 3 := hour_h (Or.inr rfl) (by decide)
  unfold rVoL
  rw [e3]
  have e : rVo (f_X8_hour t 422 422) (t 422 3).toNat = rVo (f_X8_phB t 422 (t 422 4).toNat 422) (t 422 3).toNat := by
    refine rVo_ext _ (fun l hl => ?_)
    unfold f_X8_hour f_X8_hr2 f_X8_hr1
    rw [jz_su_f (by omega), mphE_h (by omega)]
  rw [e]
  unfold f_X5_passHour
  (try simp only)
  rw [jz_su_f (by decide), phE_k _ _ 4 (by omega), h2.1]
  exact phB7 (Or.inr rfl) h hw _ (by omega)
