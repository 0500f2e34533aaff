/-! the class's part of a store, and the reference's part of another -/
def cRg (s t : jz_St) : Prop := ∀ r : Nat, r < 8 → (s (400 + 2 * r) 1 = if t 417 r < 0 then 0 else 1) ∧ (0 ≤ t 417 r → s (400 + 2 * r) 2 = t 417 r ∧ s (400 + 2 * r) 3 = t 418 r ∧ ∀ i : Nat, i < 40 → s (400 + 2 * r + 1) i = t 419 (40 * r + i))
def cTp (s t : jz_St) : Prop := s 2 1 = t 416 11 ∧ ∀ p : Nat, (p : Int) < t 416 11 → s 3 p = t 424 p
def cSlot (s : jz_St) (i : Nat) : Nat := 6 + 14 * (((s 4 1).toNat + 24 - (s 4 2).toNat + i) % 24)
def cPs (s t : jz_St) : Prop := s 4 2 = t 416 9 ∧ (0 ≤ s 4 1 ∧ s 4 1 < 24) ∧ ∀ i : Nat, (i : Int) < t 416 9 → jR False 1 s (cSlot s i) (fun x => t 423 (53 * i + x))
def cIm (s t : jz_St) : Prop := ∀ j : Nat, j < 2 → (s (372 + 14 * j) 2 ≤ 0 ↔ t 427 j = 0) ∧ (t 427 j ≠ 0 → jR False 1 s (372 + 14 * j) (fun x => t 428 (53 * j + x)))
def cNo (s t : jz_St) : Prop := s 342 1 = t 416 24 ∧ ∀ i : Nat, (i : Int) < t 416 24 → s 343 i = t 429 i
def CR (s t : jz_St) : Prop := (s 0 8 = t 416 1 ∧ s 0 9 = t 416 18) ∧ jR False 1 s 344 (t 420) ∧ cRg s t ∧ cTp s t ∧ cPs s t ∧ cIm s t ∧ cNo s t
/-- what the reference's part keeps to -/
def mWs (t : jz_St) : Prop := ∀ i : Nat, (i : Int) < t 416 9 → mRq (fun x => t 423 (53 * i + x)) 999
def mIm (t : jz_St) : Prop := ∀ j : Nat, j < 2 → (t 427 j = 0 ∨ t 427 j = 1) ∧ (t 427 j ≠ 0 → mRq (fun x => t 428 (53 * j + x)) 999 ∧ t 428 (53 * j) = 1)
def MI (t : jz_St) : Prop := mIn t ∧ mRq (t 420) 999 ∧ mTp t ∧ mWs t ∧ mIm t
/-- what the class's part keeps to beside -/
def cRn (s : jz_St) : Prop := ∀ i : Nat, (i : Int) < s 4 2 → jRng s (cSlot s i) 9000
def cRi (s : jz_St) : Prop := ∀ j : Nat, j < 2 → 0 < s (372 + 14 * j) 2 → jRng s (372 + 14 * j) 9000
def CI (s : jz_St) : Prop := jInv s ∧ cRn s ∧ cRi s
/-- nothing but the trial square, and the reference's row and notes of an hour, may differ -/
def qS (s s' : jz_St) : Prop := ∀ x, x < 416 → jOff 358 x → s' x = s x
def qT (t t' : jz_St) : Prop := ∀ x, 416 ≤ x → x ≠ 422 → x ≠ 425 → x ≠ 426 → t' x = t x
theorem slot_lt (s : jz_St) (i : Nat) : 6 ≤ cSlot s i ∧ cSlot s i + 14 ≤ 342 := by
  unfold cSlot
  have : ((s 4 1).toNat + 24 - (s 4 2).toNat + i) % 24 < 24 := Nat.mod_lt _ (by decide)
  omega
theorem slot_e {s s' : jz_St} (h : s' 4 = s 4) (i : Nat) : cSlot s' i = cSlot s i := by
  unfold cSlot
  rw [h]
theorem CR_q {s s' t t' : jz_St} (h : CR s t) (hs : qS s s') (ht : qT t t') : CR s' t' := by
  have e0 := hs 0 (by decide) (by unfold jOff; omega)
  have e2 := hs 2 (by decide) (by unfold jOff; omega)
  have e3 := hs 3 (by decide) (by unfold jOff; omega)
  have e4 := hs 4 (by decide) (by unfold jOff; omega)
  have e342 := hs 342 (by decide) (by unfold jOff; omega)
  have e343 := hs 343 (by decide) (by unfold jOff; omega)
  have m416 := ht 416 (by decide) (by decide) (by decide) (by decide)
  have m417 := ht 417 (by decide) (by decide) (by decide) (by decide)
  have m418 := ht 418 (by decide) (by decide) (by decide) (by decide)
  have m419 := ht 419 (by decide) (by decide) (by decide) (by decide)
  have m420 := ht 420 (by decide) (by decide) (by decide) (by decide)
  have m423 := ht 423 (by decide) (by decide) (by decide) (by decide)
  have m424 := ht 424 (by decide) (by decide) (by decide) (by decide)
  have m427 := ht 427 (by decide) (by decide) (by decide) (by decide)
  have m428 := ht 428 (by decide) (by decide) (by decide) (by decide)
  have m429 := ht 429 (by decide) (by decide) (by decide) (by decide)
  obtain ⟨h1, h2, h3, h4, h5, h6, h7⟩ := h
  refine ⟨?_, ?_, ?_, ?_, ?_, ?_, ?_⟩
  · rw [e0, m416]; exact h1
  · rw [m420]; exact jR_sq h2 (fun x h1 h2 => hs x (by omega) (by unfold jOff; omega))
  · intro r hr
    rw [m417, m418, m419, hs (400 + 2 * r) (by omega) (by unfold jOff; omega), hs (400 + 2 * r + 1) (by omega) (by unfold jOff; omega)]
    exact h3 r hr
  · unfold cTp; rw [e2, e3, m416, m424]; exact h4
  · unfold cPs
    rw [e4, m416, m423]
    refine ⟨h5.1, h5.2.1, fun i hi => ?_⟩
    rw [slot_e e4]
    have := slot_lt s i
    exact jR_sq (h5.2.2 i hi) (fun x h1 h2 => hs x (by omega) (by unfold jOff; omega))
  · intro j hj
    rw [m427, m428, hs (372 + 14 * j) (by omega) (by unfold jOff; omega)]
    exact ⟨(h6 j hj).1, fun q => jR_sq ((h6 j hj).2 q) (fun x h1 h2 => hs x (by omega) (by unfold jOff; omega))⟩
  · unfold cNo; rw [e342, e343, m416, m429]; exact h7
theorem MI_q {t t' : jz_St} (h : MI t) (ht : qT t t') : MI t' := by
  have m416 := ht 416 (by decide) (by decide) (by decide) (by decide)
  have m417 := ht 417 (by decide) (by decide) (by decide) (by decide)
  have m418 := ht 418 (by decide) (by decide) (by decide) (by decide)
  have m420 := ht 420 (by decide) (by decide) (by decide) (by decide)
  have m423 := ht 423 (by decide) (by decide) (by decide) (by decide)
  have m424 := ht 424 (by decide) (by decide) (by decide) (by decide)
  have m427 := ht 427 (by decide) (by decide) (by decide) (by decide)
  have m428 := ht 428 (by decide) (by decide) (by decide) (by decide)
  unfold MI mIn mLn mTp mWs mIm at h ⊢
  rw [m416, m417, m418, m420, m423, m424, m427, m428]
  exact h
theorem CI_q {s s' : jz_St} (h : CI s) (hs : qS s s') : CI s' := by
  have e2 := hs 2 (by decide) (by unfold jOff; omega)
  have e4 := hs 4 (by decide) (by unfold jOff; omega)
  have e344 := hs 344 (by decide) (by unfold jOff; omega)
  obtain ⟨⟨h1, h2, h3, h4, h5, h6⟩, h7, h8⟩ := h
  refine ⟨⟨?_, ?_, ?_, ?_, ?_, ?_⟩, ?_, ?_⟩
  · rw [e344]; exact jRng_off h1 (fun x h1 h2 => hs x (by omega) (by unfold jOff; omega))
  · rw [e344]; exact h2
  · rw [e4]; exact h3
  · rw [e4]; exact h4
  · unfold jTk; rw [e2]; exact h5
  · intro j hj
    rw [hs (400 + 2 * j) (by omega) (by unfold jOff; omega)]
    exact h6 j hj
  · intro i hi
    rw [e4] at hi
    rw [slot_e e4]
    have := slot_lt s i
    exact jRng_off (h7 i hi) (fun x h1 h2 => hs x (by omega) (by unfold jOff; omega))
  · intro j hj hp
    rw [hs (372 + 14 * j) (by omega) (by unfold jOff; omega)] at hp
    exact jRng_off (h8 j hj hp) (fun x h1 h2 => hs x (by omega) (by unfold jOff; omega))
/-- what a pair of methods must show: the same answer, and the same care -/
def OK (s t s' t' : jz_St) : Prop := (CR s' t' ∧ MI t' ∧ CI s') ∧ (∀ x, 416 ≤ x → s' x = s x) ∧ (∀ x, x < 416 → t' x = t x)
theorem OK_q {s t s' t' : jz_St} (h : CR s t ∧ MI t ∧ CI s) (hs : qS s s') (ht : qT t t') (h1 : ∀ x, 416 ≤ x → s' x = s x) (h2 : ∀ x, x < 416 → t' x = t x) : OK s t s' t' :=
  ⟨⟨CR_q h.1 hs ht, MI_q h.2.1 ht, CI_q h.2.2 hs⟩, h1, h2⟩
theorem OK_id {s t : jz_St} (h : CR s t ∧ MI t ∧ CI s) : OK s t s t := ⟨h, fun _ _ => rfl, fun _ _ => rfl⟩
