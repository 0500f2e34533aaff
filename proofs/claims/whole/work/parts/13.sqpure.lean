theorem fLk_big {kd t l h sl : Int} (h0 : -1000000 < fLk kd t l h sl) : 0 < l := by
  unfold fLk at h0
  split at h0
  · omega
  · omega
theorem fChS_some {s : jz_St} {k : Nat} {rc : Int} {n j : Nat} (h : (fChS s k rc n).1 = some j) : j < n ∧ s (k + 3 + j) 3 ≤ rc ∧ (fChS s k rc n).2 = fLkA s k j ∧ -1000000 < fLkA s k j := by
  have key : ∀ n, -1000000 ≤ (fChS s k rc n).2 := by
    intro n
    induction n with
    | zero => simp [fChS]
    | succ n ih =>
      simp only [fChS]
      split
      · next h1 => exact Int.le_of_lt (Int.lt_of_le_of_lt ih h1)
      · exact ih
  induction n with
  | zero => simp [fChS] at h
  | succ n ih =>
    simp only [fChS] at h ⊢
    split at h
    · next h1 =>
      rw [if_pos h1]
      simp only [Option.some.injEq] at h
      subst h
      have := key n
      unfold fLkR at h1 ⊢
      by_cases h2 : s (k + 3 + n) 3 ≤ rc
      · rw [if_pos h2] at h1
        exact ⟨Nat.lt_succ_self _, h2, by simp only [if_pos h2], by omega⟩
      · rw [if_neg h2] at h1
        omega
    · next h1 =>
      rw [if_neg h1]
      obtain ⟨a, b, c, d⟩ := ih h
      exact ⟨Nat.lt_succ_of_lt a, b, c, d⟩
theorem fCho_some {s : jz_St} {k a j : Nat} (h : fCho s k a = some j) : j < 7 ∧ s (k + 3 + j) 3 ≤ s a 2 ∧ 0 < s (k + 3 + j) 5 ∧ s a 3 ≤ 0 ∧ 0 < s a 1 := by
  unfold fCho at h
  split at h
  · next h1 =>
    obtain ⟨a, b, c, d⟩ := fChS_some h
    exact ⟨a, b, fLk_big d, h1⟩
  · cases h
theorem bt5 (s : jz_St) (k g j x : Nat) : f_X5_bite s k g j x 5 = if x = k + 3 + j then s (k + 3 + j) 5 - fBite (s (k + 3 + j) 1) (s (k + 3 + j) 5) else s x 5 := by
  simp [f_X5_bite, f_X1_loseBite, f_X0_swallow, jz_su]
theorem bt6 (s : jz_St) (k g j x : Nat) : f_X5_bite s k g j x 6 = if x = k + 3 + j then jor (s (k + 3 + j) 6) (jshl 1 g) else s x 6 := by
  simp [f_X5_bite, f_X1_loseBite, f_X0_swallow, jz_su]
theorem bt1 (s : jz_St) (k g j x : Nat) : f_X5_bite s k g j x 1 = if x = k + 10 + g then (if 0 < s (k + 10 + g) 1 - fBite (s (k + 3 + j) 1) (s (k + 3 + j) 5) then s (k + 10 + g) 1 - fBite (s (k + 3 + j) 1) (s (k + 3 + j) 5) else 0) else s x 1 := by
  simp [f_X5_bite, f_X1_loseBite, f_X0_swallow, jz_su]
theorem bt4 (s : jz_St) (k g j x : Nat) : f_X5_bite s k g j x 4 = if x = k + 10 + g then s (k + 10 + g) 4 + fBite (s (k + 3 + j) 1) (s (k + 3 + j) 5) else s x 4 := by
  simp [f_X5_bite, f_X1_loseBite, f_X0_swallow, jz_su]
theorem bt7 (s : jz_St) (k g j x : Nat) : f_X5_bite s k g j x 7 = if x = k then s k 7 + (if s (k + 3 + j) 5 - fBite (s (k + 3 + j) 1) (s (k + 3 + j) 5) ≤ 0 then 1 else 0) else s x 7 := by
  simp [f_X5_bite, f_X1_loseBite, f_X0_swallow, jz_su]
theorem btn (s : jz_St) (k g j x : Nat) {i : Nat} (h1 : i ≠ 1) (h4 : i ≠ 4) (h5 : i ≠ 5) (h6 : i ≠ 6) (h7 : i ≠ 7) : f_X5_bite s k g j x i = s x i := by
  simp [f_X5_bite, f_X1_loseBite, f_X0_swallow, jz_su, h1, h4, h5, h6, h7]
theorem bto (s : jz_St) (k g j x : Nat) (h1 : x ≠ k) (h2 : x ≠ k + 3 + j) (h3 : x ≠ k + 10 + g) : f_X5_bite s k g j x = s x := by
  funext i
  simp [f_X5_bite, f_X1_loseBite, f_X0_swallow, jz_su, h1, h2, h3]
theorem jRng_mono {s : jz_St} {k : Nat} {b c : Int} (h : jRng s k b) (hc : b ≤ c) : jRng s k c := by
  obtain ⟨h1, h2, h3, h4, h5, h6, h7, h8⟩ := h
  exact ⟨h1, h2, h3, h4, ⟨h5.1, by omega⟩, ⟨h6.1, by omega⟩, h7, fun j hj => ⟨(h8 j hj).1, (h8 j hj).2.1, (h8 j hj).2.2.1, by have := (h8 j hj).2.2.2; omega⟩⟩
theorem bite_rng {s : jz_St} {k g j : Nat} {b : Int} (hg : g < 4) (hj : j < 7) (hl : 0 < s (k + 3 + j) 5) (h : jRng s k b) : jRng (f_X5_bite s k g j) k (b + 2) := by
  obtain ⟨h1, h2, h3, h4, h5, h6, h7, h8⟩ := h
  have hb := fBite_rng (s (k + 3 + j) 1) (s (k + 3 + j) 5)
  have hb0 := hb.2.2.2 hl
  have hbl := (h7 j hj).1
  have e4 : f_X5_bite s k g j k 4 = s k 4 := by rw [bt4, if_neg (by omega)]
  have e5 : f_X5_bite s k g j k 5 = s k 5 := by rw [bt5, if_neg (by omega)]
  have e6 : f_X5_bite s k g j k 6 = s k 6 := by rw [bt6, if_neg (by omega)]
  refine ⟨?_, ?_, ?_, ?_, ?_, ?_, ?_, ?_⟩
  · rw [btn s k g j k (i := 2) (by decide) (by decide) (by decide) (by decide) (by decide)]; exact h1
  · rw [btn s k g j k (i := 3) (by decide) (by decide) (by decide) (by decide) (by decide)]; exact h2
  · rw [e4]; exact h3
  · rw [e5]; exact h4
  · rw [e6]; omega
  · rw [bt7, if_pos rfl]
    split <;> omega
  · intro i hi
    have h9 := h7 i hi
    rw [bt5, bt4, if_neg (show ¬ k + 3 + i = k + 10 + g by omega)]
    by_cases hij : i = j
    · subst hij
      rw [if_pos rfl]
      exact ⟨by omega, fun _ => h9.2 hl⟩
    · rw [if_neg (by omega)]
      exact h9
  · intro i hi
    have h9 := h8 i hi
    rw [bt1, bt4, btn s k g j (k + 10 + i) (i := 3) (by decide) (by decide) (by decide) (by decide) (by decide)]
    by_cases hij : i = g
    · subst hij
      rw [if_pos rfl, if_pos rfl]
      refine ⟨?_, h9.2.1, by omega⟩
      split <;> omega
    · rw [if_neg (by omega), if_neg (by omega)]
      exact ⟨h9.1, h9.2.1, by omega⟩
theorem letBite_rng {s : jz_St} {k g : Nat} {b : Int} (hg : g < 4) (h : jRng s k b) : jRng (f_X5_letBite s k g) k (b + 2) := by
  unfold f_X5_letBite
  split
  · exact jRng_mono h (by omega)
  · next j hj =>
    obtain ⟨a1, a2, a3, -⟩ := fCho_some hj
    exact bite_rng hg a1 a3 h
theorem phB_rng {s : jz_St} {k : Nat} {b : Int} (h : jRng s k b) : ∀ g, g ≤ 4 → jRng (f_X5_phB s k g) k (b + 2 * g) := by
  intro g
  induction g with
  | zero => intro _; simpa [f_X5_phB] using h
  | succ g ih =>
    intro hg
    simp only [f_X5_phB]
    have := ih (by omega)
    split
    · exact jRng_mono (letBite_rng (by omega) this) (by omega)
    · exact jRng_mono this (by omega)
theorem eh1 (s : jz_St) (a : Nat) (z : Int) (x : Nat) : f_X0_endHour s a z x 1 = if x = a then (if s a 1 + z < 99 then s a 1 + z else 99) else s x 1 := by
  simp [f_X0_endHour, jz_su]
theorem eh3 (s : jz_St) (a : Nat) (z : Int) (x : Nat) : f_X0_endHour s a z x 3 = if x = a then (if 0 < s a 3 - 1 then s a 3 - 1 else 0) else s x 3 := by
  simp [f_X0_endHour, jz_su]
theorem ehn (s : jz_St) (a : Nat) (z : Int) (x : Nat) {i : Nat} (h1 : i ≠ 1) (h3 : i ≠ 3) : f_X0_endHour s a z x i = s x i := by
  simp [f_X0_endHour, jz_su, h1, h3]
theorem eho (s : jz_St) (a : Nat) (z : Int) (x : Nat) (h : x ≠ a) : f_X0_endHour s a z x = s x := by
  funext i
  simp [f_X0_endHour, jz_su, h]
theorem endHour_rng {s : jz_St} {k g : Nat} {b : Int} (hg : g < 4) (h : jRng s k b) : jRng (f_X0_endHour s (k + 10 + g) (s k 4)) k b := by
  obtain ⟨h1, h2, h3, h4, h5, h6, h7, h8⟩ := h
  have ek := eho s (k + 10 + g) (s k 4) k (by omega)
  refine ⟨?_, ?_, ?_, ?_, ?_, ?_, ?_, ?_⟩
  · rw [ek]; exact h1
  · rw [ek]; exact h2
  · rw [ek]; exact h3
  · rw [ek]; exact h4
  · rw [ek]; exact h5
  · rw [ek]; exact h6
  · intro i hi
    rw [eho s (k + 10 + g) (s k 4) (k + 3 + i) (by omega)]
    exact h7 i hi
  · intro i hi
    have h9 := h8 i hi
    by_cases hij : i = g
    · subst hij
      rw [eh1, eh3, if_pos rfl, if_pos rfl, ehn _ _ _ _ (by decide) (by decide)]
      refine ⟨?_, ?_, h9.2.2⟩
      · split <;> omega
      · split <;> omega
    · rw [eho s (k + 10 + g) (s k 4) (k + 10 + i) (by omega)]
      exact h9
theorem phE_rng {s : jz_St} {k : Nat} {b : Int} (h : jRng s k b) : ∀ g, g ≤ 4 → jRng (f_X5_phE s k g) k b := by
  intro g
  induction g with
  | zero => intro _; exact h
  | succ g ih =>
    intro hg
    simp only [f_X5_phE]
    exact endHour_rng (by omega) (ih (by omega))
theorem passHour_rng {s : jz_St} {k : Nat} {b : Int} (h : jRng s k b) : jRng (f_X5_passHour s k) k (b + 9) := by
  have h0 := phE_rng (phB_rng h 4 (by omega)) 4 (by omega)
  unfold f_X5_passHour
  obtain ⟨h1, h2, h3, h4, h5, h6, h7, h8⟩ := h0
  refine ⟨?_, ?_, ?_, ?_, ?_, ?_, ?_, ?_⟩
  · simp only [jz_su_f (show 2 ≠ 6 by decide)]; exact h1
  · simp only [jz_su_f (show 3 ≠ 6 by decide)]; exact h2
  · simp only [jz_su_f (show 4 ≠ 6 by decide)]; exact h3
  · simp only [jz_su_f (show 5 ≠ 6 by decide)]; exact h4
  · simp only [jz_su_s]; omega
  · simp only [jz_su_f (show 7 ≠ 6 by decide)]; omega
  · intro i hi
    simp only [jz_su_f (show 5 ≠ 6 by decide), jz_su_f (show 4 ≠ 6 by decide)]; exact h7 i hi
  · intro i hi
    simp only [jz_su_f (show 1 ≠ 6 by decide), jz_su_f (show 3 ≠ 6 by decide), jz_su_f (show 4 ≠ 6 by decide)]
    have := h8 i hi
    omega
theorem passHours_rng {s : jz_St} {k : Nat} {b : Int} (h : jRng s k b) : ∀ n : Nat, jRng (f_X5_passHours s k n) k (b + 9 * n) := by
  intro n
  induction n with
  | zero => simpa [f_X5_passHours] using h
  | succ n ih =>
    simp only [f_X5_passHours]
    exact jRng_mono (passHour_rng ih) (by omega)
