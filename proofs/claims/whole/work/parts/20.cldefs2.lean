/-! bits of leaves as numbers -/
theorem jor_bit : ∀ j : Nat, j < 7 → ∀ a : Nat, a < 2 ^ j → jor ((a : Nat) : Int) (jshl 1 j) = ((a + 2 ^ j : Nat) : Int) := by decide +kernel
theorem jor_0 : ∀ a : Nat, a < 128 → jor ((a : Nat) : Int) 0 = a := by decide +kernel
theorem p2le : ∀ j : Nat, j ≤ 7 → (2 : Nat) ^ j ≤ 128 := by decide
theorem fIF_n (s : jz_St) (k : Nat) : ∀ j, j ≤ 7 → ∃ a : Nat, a < 2 ^ j ∧ fIF s k j = a := by
  intro j
  induction j with
  | zero => intro _; exact ⟨0, by decide, rfl⟩
  | succ j ih =>
    intro hj
    obtain ⟨a, ha, e⟩ := ih (by omega)
    have h2 := p2le j (by omega)
    have h3 : (2 : Nat) ^ (j + 1) = 2 ^ j * 2 := Nat.pow_succ ..
    simp only [fIF]
    split
    · exact ⟨a + 2 ^ j, by omega, by rw [e, jor_bit j (by omega) a ha]⟩
    · exact ⟨a, by omega, by rw [e, jor_0 a (by omega)]⟩
theorem fNV_n (s : jz_St) (k : Nat) : ∀ j, j ≤ 7 → ∃ a : Nat, a < 2 ^ j ∧ fNV s k j = a := by
  intro j
  induction j with
  | zero => intro _; exact ⟨0, by decide, rfl⟩
  | succ j ih =>
    intro hj
    obtain ⟨a, ha, e⟩ := ih (by omega)
    have h2 := p2le j (by omega)
    have h3 : (2 : Nat) ^ (j + 1) = 2 ^ j * 2 := Nat.pow_succ ..
    simp only [fNV]
    split
    · exact ⟨a, by omega, by rw [e, jor_0 a (by omega)]⟩
    · exact ⟨a + 2 ^ j, by omega, by rw [e, jor_bit j (by omega) a ha]⟩
theorem fIF_r (s : jz_St) (k : Nat) : 0 ≤ fIF s k 7 ∧ fIF s k 7 < 128 := by
  obtain ⟨a, ha, e⟩ := fIF_n s k 7 (by decide)
  have := p2le 7 (by decide)
  omega
theorem fNV_r (s : jz_St) (k : Nat) : 0 ≤ fNV s k 7 ∧ fNV s k 7 < 128 := by
  obtain ⟨a, ha, e⟩ := fNV_n s k 7 (by decide)
  have := p2le 7 (by decide)
  omega
theorem c_bitc (g : jz_G) (s : jz_St) (z : Int) (hz : 0 ≤ z ∧ z < 128) : jz_C g mJ6_bitCount_0f7a4 [ji z] s (jq_ie (fBC z.toNat) s) := by
  have q := c_J6_bitCount g s z.toNat (by omega)
  rw [Int.toNat_of_nonneg hz.1] at q
  exact q
theorem fBC_r (z : Int) (hz : 0 ≤ z ∧ z < 128) : 0 ≤ fBC z.toNat ∧ fBC z.toNat ≤ 7 := fBC_rng z.toNat (by omega)
theorem gcb : ∀ j : Int, 0 ≤ j → j ≤ 4 → 0 ≤ jshl 1 j - 1 ∧ jshl 1 j - 1 < 128 ∧ jI (jshl 1 j - 1) := by
  intro j h0 h4
  have : j = 0 ∨ j = 1 ∨ j = 2 ∨ j = 3 ∨ j = 4 := by omega
  rcases this with rfl | rfl | rfl | rfl | rfl <;> decide +kernel
theorem fwI_le {al : Nat} {dr : Bool} {told : Int} {n : Nat} {many : Int} {r : Nat} : ∀ (m c : Nat) (s : jz_St), c + m ≤ al + 1 → (fFwI s al dr told n many c m).1 = some r → r ≤ al := by
  intro m
  induction m with
  | zero => intro c s _ h; exact absurd h (by simp [fFwI])
  | succ m ih =>
    intro c s hc h
    simp only [fFwI] at h
    split at h
    · split at h
      · exact ih _ _ (by omega) h
      · have : c = r := Option.some.inj h
        omega
    · exact ih _ _ (by omega) h
theorem fwO_le {al : Nat} {dr : Bool} {told : Int} {n r : Nat} : ∀ (m many : Nat) (s : jz_St), (fFwO s al dr told n many m).1 = some r → r ≤ al := by
  intro m
  induction m with
  | zero => intro many s h; exact absurd h (by simp [fFwO])
  | succ m ih =>
    intro many s h
    simp only [fFwO] at h
    split at h
    · next c hc =>
      have : c = r := Option.some.inj h
      subst this
      exact fwI_le _ _ _ (by omega) hc
    · exact ih _ _ h
theorem fwO_on {s : jz_St} {al : Nat} {dr : Bool} {told : Int} {n m many : Nat} (ha : al < 128) : fON (fFwO s al dr told n many m).1 = -1000000 ∨ (0 ≤ fON (fFwO s al dr told n many m).1 ∧ fON (fFwO s al dr told n many m).1 < 128) := by
  cases hX : (fFwO s al dr told n many m).1 with
  | none => exact Or.inl rfl
  | some r =>
    right
    have := fwO_le _ _ _ hX
    simp only [fON]
    omega
/-! harm -/
def fHaS (s : jz_St) (n : Int) : Nat → jz_St
  | 0 => s
  | j + 1 => f_X5_passHours (f_X5_drv (f_X5_take (fHaS s n j) 358 344) 358 (jshl 1 j) n 4) 358 n.toNat
def fHa (s : jz_St) (n : Int) : Nat → Int × Int
  | 0 => (-1000000, -1000000)
  | j + 1 => if (fHa s n j).2 < fBC (fIF (fHaS s n (j + 1)) 358 7).toNat then ((j : Int), fBC (fIF (fHaS s n (j + 1)) 358 7).toNat) else fHa s n j
theorem fHaS_off {s : jz_St} {n : Int} {x : Nat} (h : jOff 358 x) : ∀ j, fHaS s n j x = s x := by
  intro j
  induction j with
  | zero => rfl
  | succ j ih =>
    simp only [fHaS]
    rw [passHours_off h, drv_off h 4 (by omega), take_off h, ih]
/-! bait -/
abbrev fLB (s : jz_St) (l o : Int) : Prop := (0 ≤ l ∧ l < s 344 2 ∧ l < 7) ∧ (0 ≤ o ∧ o < s 344 2 ∧ o < 7) ∧ ¬ f_X5_take s 358 344 (358 + 3 + o.toNat) 5 ≤ 0
def f_lbb (s : jz_St) (l o n : Int) : jz_St := if fLB s l o then f_X5_passHours (jz_su (f_X5_take s 358 344) (358 + 3 + o.toNat) 4 19) 358 n.toNat else f_X5_take s 358 344
def v_lbb (s : jz_St) (l o n : Int) : Int := if fLB s l o then f_lbb s l o n (358 + 3 + l.toNat) 5 else -1000000
def fBaS (s : jz_St) (l n : Int) : Nat → jz_St
  | 0 => s
  | j + 1 => if (j : Int) = l then fBaS s l n j else f_lbb (fBaS s l n j) l j n
def fBaV (s : jz_St) (l n : Int) (j : Nat) : Int := if (j : Int) = l then -1000000 else v_lbb (fBaS s l n j) l j n
def fBa (s : jz_St) (l n : Int) : Nat → Int × Int
  | 0 => (-1000000, -1000000)
  | j + 1 => if (fBa s l n j).2 < fBaV s l n j then ((j : Int), fBaV s l n j) else fBa s l n j
theorem su_rng {s : jz_St} {k j i : Nat} {b z : Int} (h : jRng s k b) (hj : j < 7) (hi : i ≠ 5) (hz : i = 4 → 0 ≤ z ∧ z ≤ 1000) : jRng (jz_su s (k + 3 + j) i z) k b := by
  obtain ⟨h1, h2, h3, h4, h5, h6, h7, h8⟩ := h
  have e : ∀ i2, jz_su s (k + 3 + j) i z k i2 = s k i2 := fun i2 => jz_su_n (Or.inl (by omega))
  unfold jRng
  simp only [e]
  refine ⟨h1, h2, h3, h4, h5, h6, fun j2 hj2 => ?_, fun j2 hj2 => ?_⟩
  · rw [jz_su_f (fun q => hi q.symm)]
    have := h7 j2 hj2
    refine ⟨this.1, fun q => ?_⟩
    unfold jz_su
    split
    · next q2 => exact hz q2.2.symm
    · exact this.2 q
  · rw [jz_su_o (by omega)]; exact h8 j2 hj2
theorem lbb_off {s : jz_St} {l o n : Int} {x : Nat} (h : jOff 358 x) : f_lbb s l o n x = s x := by
  unfold f_lbb
  split
  · next q =>
    rw [passHours_off h, jz_su_o (by unfold jOff at h; omega), take_off h]
  · exact take_off h
theorem fBaS_off {s : jz_St} {l n : Int} {x : Nat} (h : jOff 358 x) : ∀ j, fBaS s l n j x = s x := by
  intro j
  induction j with
  | zero => rfl
  | succ j ih =>
    simp only [fBaS]
    split
    · exact ih
    · rw [lbb_off h, ih]
/-! safeHeight -/
def fSaS (s : jz_St) (l n : Int) (h : Nat) : jz_St := f_X5_passHours (jz_su (f_X5_take s 358 344) (358 + 3 + l.toNat) 3 h) 358 n.toNat
def fSa (l n : Int) : jz_St → Nat → Nat → Int × jz_St
  | s, _, 0 => (-1000000, s)
  | s, h, m + 1 => if fSaS s l n h (358 + 3 + l.toNat) 6 = 0 then ((h : Int), fSaS s l n h) else fSa l n (fSaS s l n h) (h + 1) m
theorem fSaS_off {s : jz_St} {l n : Int} {h x : Nat} (hl : l < 7) (hx : jOff 358 x) : fSaS s l n h x = s x := by
  unfold fSaS
  rw [passHours_off hx, jz_su_o (by unfold jOff at hx; omega), take_off hx]
/-! who -/
def fWlo (w : Int) : Int := if w = 0 then 1 else 0
def fWhi (w : Int) : Int := if w = 0 then 5 else if w = 1 then 9 else 19
def fWhC (s : jz_St) (l w : Int) (j : Nat) : jz_St := jz_su (f_X5_take s 358 344) (358 + 3 + l.toNat) (if w = 0 then 1 else if w = 1 then 3 else 4) j
def fWhG (s : jz_St) (l w o : Int) (r : Nat) (fr : Int) (n j : Nat) : Int × jz_St := fGoes (fWhC s l w j) 358 (358 + 3 + o.toNat) r fr 0 n
def fWh (l w o : Int) (r : Nat) (fr : Int) (n : Nat) : Int → jz_St → Nat → Nat → Int × jz_St
  | acc, s, _, 0 => (acc, s)
  | acc, s, j, m + 1 => fWh l w o r fr n (if (fWhG s l w o r fr n j).1 = 0 then acc else jor acc (jshl 1 j)) (fWhG s l w o r fr n j).2 (j + 1) m
theorem fWhG_off {s : jz_St} {l w o : Int} {r : Nat} {fr : Int} {n j x : Nat} (hl : l < 7) (hx : jOff 358 x) : (fWhG s l w o r fr n j).2 x = s x := by
  unfold fWhG fWhC
  rw [goes_off hx, jz_su_o (by unfold jOff at hx; omega), take_off hx]
/-! strayed -/
def fStG (s : jz_St) (l : Int) (r : Nat) (fr : Int) (n : Nat) (c : Option Nat) : Int × jz_St :=
  fGoes (match c with | none => f_X5_take s 358 344 | some j => f_X5_drv (f_X5_take s 358 344) 358 (jshl 1 j) n 4) 358 (358 + 3 + l.toNat) r fr 0 n
def fStS (s : jz_St) (l : Int) (r : Nat) (fr : Int) (n : Nat) : Nat → jz_St
  | 0 => (fStG s l r fr n none).2
  | j + 1 => (fStG (fStS s l r fr n j) l r fr n (some j)).2
def fSt (s : jz_St) (l : Int) (r : Nat) (fr : Int) (n : Nat) : Nat → Int
  | 0 => if (fStG s l r fr n none).1 = 0 then 0 else 16
  | j + 1 => if (fStG (fStS s l r fr n j) l r fr n (some j)).1 = 0 then fSt s l r fr n j else jor (fSt s l r fr n j) (jshl 1 j)
theorem fStG_off {s : jz_St} {l : Int} {r : Nat} {fr : Int} {n : Nat} {c : Option Nat} {x : Nat} (hx : jOff 358 x) : (fStG s l r fr n c).2 x = s x := by
  unfold fStG
  cases c with
  | none => rw [goes_off hx]; exact take_off hx
  | some j => rw [goes_off hx]; exact (drv_off hx 4 (by omega)).trans (take_off hx)
theorem fStS_off {s : jz_St} {l : Int} {r : Nat} {fr : Int} {n x : Nat} (hx : jOff 358 x) : ∀ j, fStS s l r fr n j x = s x := by
  intro j
  induction j with
  | zero => exact fStG_off hx
  | succ j ih =>
    simp only [fStS]
    rw [fStG_off hx, ih]
/-! rivals -/
abbrev fRvC (s : jz_St) (i j : Nat) : Prop := i < j ∧ fLkA s 344 i ≠ -1000000 ∧ fLkA s 344 i = fLkA s 344 j
def fRvI (s : jz_St) (i : Nat) (p : Int × Int) : Nat → Int × Int
  | 0 => p
  | j + 1 => if fRvC s i j then ((fRvI s i p j).1 + 1, if (fRvI s i p j).1 = 0 then 10 * i + j else (fRvI s i p j).2) else fRvI s i p j
def fRvO (s : jz_St) : Nat → Int × Int
  | 0 => (0, -1000000)
  | i + 1 => fRvI s i (fRvO s i) 7
theorem fRvI_r (s : jz_St) (i : Nat) (p : Int × Int) : ∀ j : Nat, p.1 ≤ (fRvI s i p j).1 ∧ (fRvI s i p j).1 ≤ p.1 + j := by
  intro j
  induction j with
  | zero => simp [fRvI]
  | succ j ih =>
    simp only [fRvI]
    split
    · (try simp only); omega
    · omega
theorem fRvO_r (s : jz_St) : ∀ i : Nat, 0 ≤ (fRvO s i).1 ∧ (fRvO s i).1 ≤ 7 * i := by
  intro i
  induction i with
  | zero => simp [fRvO]
  | succ i ih =>
    have := fRvI_r s i (fRvO s i) 7
    simp only [fRvO]
    omega
/-! wind -/
def fWiC (s : jz_St) (c : Int) : jz_St := f_X5_passHour (f_X5_tea (f_X5_take s 358 344) 358 c 7) 358
def fWiV (s : jz_St) (c : Int) : Int := fBC (fIF (fWiC s c) 358 7).toNat
abbrev fWiT (al c : Int) : Prop := jand c (jxor al (-1)) = 0
def fWiS (s : jz_St) (al : Int) : Nat → jz_St
  | 0 => s
  | c + 1 => if fWiT al c then fWiC (fWiS s al c) c else fWiS s al c
def fWi (s : jz_St) (al k p : Int) : Nat → Int
  | 0 => 0
  | c + 1 => if fWiT al c ∧ k ≤ fWiV (fWiS s al c) c then fWi s al k p c + fPow p (fBC c).toNat * fPow (10 - p) (fBC al.toNat - fBC c).toNat else fWi s al k p c
theorem fWiC_off {s : jz_St} {c : Int} {x : Nat} (hx : jOff 358 x) : fWiC s c x = s x := by
  unfold fWiC
  rw [passHour_off hx, tea_off hx, take_off hx]
theorem fWiS_off {s : jz_St} {al : Int} {x : Nat} (hx : jOff 358 x) : ∀ c, fWiS s al c x = s x := by
  intro c
  induction c with
  | zero => rfl
  | succ c ih =>
    simp only [fWiS]
    split
    · rw [fWiC_off hx, ih]
    · exact ih
theorem fPP_r {p : Int} (hp : 0 ≤ p ∧ p ≤ 10) {a b : Nat} (ha : a ≤ 7) (hb : b ≤ 7) : 0 ≤ fPow p a * fPow (10 - p) b ∧ fPow p a * fPow (10 - p) b ≤ 100000000000000 := by
  have h1 := fPow_7 hp ha
  have h2 := fPow_7 (b := 10 - p) (by omega) hb
  have h3 : 0 ≤ fPow p a * fPow (10 - p) b := Int.mul_nonneg h1.1 h2.1
  have h4 : fPow p a * fPow (10 - p) b ≤ 10000000 * 10000000 := Int.mul_le_mul h1.2 h2.2 h2.1 (by decide)
  omega
theorem fWi_r {s : jz_St} {al k p : Int} (hp : 0 ≤ p ∧ p ≤ 10) (ha : 0 ≤ al ∧ al < 128) : ∀ c : Nat, c ≤ 128 → 0 ≤ fWi s al k p c ∧ fWi s al k p c ≤ 100000000000000 * c := by
  intro c
  induction c with
  | zero => intro _; simp [fWi]
  | succ c ih =>
    intro hc
    have h1 := ih (by omega)
    have h2 := fBC_rng c (by omega)
    have h3 := fBC_r al ha
    have h4 := fPP_r hp (a := (fBC c).toNat) (b := (fBC al.toNat - fBC c).toNat) (by omega) (by omega)
    simp only [fWi]
    split
    · omega
    · omega
/-- a torn set's number of leaves is no greater than that of all that can be torn -/
theorem fWiT_bc : ∀ al, al < 128 → ∀ c, c ≤ al → fWiT ((al : Nat) : Int) ((c : Nat) : Int) → fBC c ≤ fBC al := by decide +kernel
/-! drawn -/
def fDrX (x : Int) : Nat → Int
  | 0 => x
  | j + 1 => Int.tmod (fDrX x j * 16807) 2147483647
def fDrS (s : jz_St) (x : Int) : Nat → jz_St
  | 0 => f_X5_take s 358 344
  | j + 1 => f_X5_passHour (f_X5_befall (fDrS s x j) 358 (fDrX x (j + 1))) 358
theorem fDrX_r {x : Int} (hx : 0 ≤ x ∧ x < 2147483647) : ∀ j, 0 ≤ fDrX x j ∧ fDrX x j < 2147483647 := by
  intro j
  induction j with
  | zero => exact hx
  | succ j ih =>
    simp only [fDrX]
    rw [Int.tmod_eq_emod_of_nonneg (by omega)]
    omega
/-! sizes and tastes of the leaves that hang -/
theorem letBite_leaf (s : jz_St) (k g j i : Nat) (hg : g < 4) (hj : j < 7) (hi : i = 1 ∨ i = 2 ∨ i = 3 ∨ i = 4) : f_X5_letBite s k g (k + 3 + j) i = s (k + 3 + j) i := by
  unfold f_X5_letBite
  cases hX : fCho s k (k + 10 + g) with
  | none => rfl
  | some j2 =>
    show f_X5_bite s k g j2 (k + 3 + j) i = s (k + 3 + j) i
    rcases hi with rfl | rfl | rfl | rfl
    · rw [bt1, if_neg (by omega)]
    · exact btn s k g j2 _ (by decide) (by decide) (by decide) (by decide) (by decide)
    · exact btn s k g j2 _ (by decide) (by decide) (by decide) (by decide) (by decide)
    · rw [bt4, if_neg (by omega)]
theorem phB_leaf (s : jz_St) (k j i : Nat) (hj : j < 7) (hi : i = 1 ∨ i = 2 ∨ i = 3 ∨ i = 4) : ∀ g, g ≤ 4 → f_X5_phB s k g (k + 3 + j) i = s (k + 3 + j) i := by
  intro g
  induction g with
  | zero => intro _; rfl
  | succ g ih =>
    intro hg
    simp only [f_X5_phB]
    split
    · rw [letBite_leaf _ _ _ _ _ (by omega) hj hi, ih (by omega)]
    · exact ih (by omega)
theorem phE_leaf (s : jz_St) (k j : Nat) (hj : j < 7) : ∀ g, g ≤ 4 → f_X5_phE s k g (k + 3 + j) = s (k + 3 + j) := by
  intro g
  induction g with
  | zero => intro _; rfl
  | succ g ih =>
    intro hg
    simp only [f_X5_phE]
    rw [eho _ _ _ _ (by omega), ih (by omega)]
theorem passHour_leaf (s : jz_St) (k j i : Nat) (hj : j < 7) (hi : i = 1 ∨ i = 2 ∨ i = 3 ∨ i = 4) : f_X5_passHour s k (k + 3 + j) i = s (k + 3 + j) i := by
  unfold f_X5_passHour
  (try simp only)
  rw [jz_su_o (by omega), phE_leaf _ _ _ hj 4 (by omega), phB_leaf _ _ _ _ hj hi 4 (by omega)]
def jSz (s : jz_St) (k : Nat) : Prop := ∀ j : Nat, j < 7 → (j : Int) < s k 2 → (0 ≤ s (k + 3 + j) 2 ∧ s (k + 3 + j) 2 ≤ 20) ∧ 0 ≤ s (k + 3 + j) 4 ∧ s (k + 3 + j) 4 ≤ 19
theorem sz_hour {s : jz_St} {k : Nat} (h : jSz s k) : jSz (f_X5_passHour s k) k := by
  intro j hj hc
  rw [passHour_k _ _ (by decide) (by decide)] at hc
  rw [passHour_leaf _ _ _ _ hj (by omega), passHour_leaf _ _ _ _ hj (by omega)]
  exact h j hj hc
theorem sz_take {s : jz_St} {k k2 : Nat} (hA : k + 14 ≤ k2 ∨ k2 + 14 ≤ k) (h : jSz s k2) : jSz (f_X5_take s k k2) k := by
  intro j hj hc
  rw [take_k s hA (by decide) (by decide)] at hc
  rw [take_leaf s hA hj (by decide) (by decide), take_leaf s hA hj (by decide) (by decide)]
  exact h j hj hc
theorem sz_off {s s' : jz_St} {k : Nat} (h : jSz s k) (he : ∀ x, k ≤ x → x < k + 14 → s' x = s x) : jSz s' k := by
  intro j hj hc
  rw [he k (by omega) (by omega)] at hc
  rw [he (k + 3 + j) (by omega) (by omega)]
  exact h j hj hc
theorem bfG_n (s : jz_St) (k : Nat) (x : Int) (y i : Nat) (h : i ≠ 3) : f_X5_bfG s k x y i = s y i := by
  unfold f_X5_bfG
  split
  · exact jz_su_f h
  · rfl
theorem bfG_l (s : jz_St) (k : Nat) (x : Int) (y i : Nat) (h : y < k + 10) : f_X5_bfG s k x y i = s y i := by
  unfold f_X5_bfG
  split
  · exact jz_su_n (Or.inl (by omega))
  · rfl
theorem bfG_rng {s : jz_St} {k : Nat} {b x : Int} (h : jRng s k b) : jRng (f_X5_bfG s k x) k b := by
  obtain ⟨h1, h2, h3, h4, h5, h6, h7, h8⟩ := h
  refine ⟨?_, ?_, ?_, ?_, ?_, ?_, fun j hj => ?_, fun j hj => ?_⟩
  · rw [bfG_l _ _ _ _ _ (by omega)]; exact h1
  · rw [bfG_l _ _ _ _ _ (by omega)]; exact h2
  · rw [bfG_l _ _ _ _ _ (by omega)]; exact h3
  · rw [bfG_l _ _ _ _ _ (by omega)]; exact h4
  · rw [bfG_l _ _ _ _ _ (by omega)]; exact h5
  · rw [bfG_l _ _ _ _ _ (by omega)]; exact h6
  · rw [bfG_l _ _ _ _ _ (by omega), bfG_l _ _ _ _ _ (by omega)]; exact h7 j hj
  · rw [bfG_n s k x (k + 10 + j) 1 (by decide), bfG_n s k x (k + 10 + j) 4 (by decide)]
    refine ⟨(h8 j hj).1, ?_, (h8 j hj).2.2⟩
    unfold f_X5_bfG
    split
    · unfold jz_su
      split
      · omega
      · exact (h8 j hj).2.1
    · exact (h8 j hj).2.1
theorem befall_rng {s : jz_St} {k : Nat} {b x : Int} (h : jRng s k b) (hs : jSz s k) : jRng (f_X5_befall s k x) k b ∧ jSz (f_X5_befall s k x) k := by
  have h0 := bfG_rng (x := x) h
  have hs0 : jSz (f_X5_bfG s k x) k := by
    intro j hj hc
    rw [bfG_l _ _ _ _ _ (by omega)] at hc
    rw [bfG_l _ _ _ _ _ (by omega), bfG_l _ _ _ _ _ (by omega)]
    exact hs j hj hc
  unfold f_X5_befall
  generalize f_X5_bfG s k x = t at h0 hs0 ⊢
  unfold f_X5_bfL
  split
  · next q =>
    have hb := em_b (x := x) q.2
    obtain ⟨h1, h2, h3, h4, h5, h6, h7, h8⟩ := h0
    have hj0 : (x % t k 2).toNat < 7 := by omega
    have hz := hs0 _ hj0 (by omega)
    generalize (x % t k 2).toNat = m at hj0 hz ⊢
    have e : ∀ i2, jz_su t (k + 3 + m) 5 (t (k + 3 + m) 2) k i2 = t k i2 := fun i2 => jz_su_n (Or.inl (by omega))
    constructor
    · unfold jRng
      simp only [e]
      refine ⟨h1, h2, h3, h4, h5, h6, fun j hj => ?_, fun j hj => ?_⟩
      · rw [jz_su_f (show 4 ≠ 5 by decide)]
        by_cases ej : j = m
        · subst ej
          rw [jz_su_s]
          omega
        · rw [jz_su_o (by omega)]
          exact h7 j hj
      · rw [jz_su_o (by omega)]; exact h8 j hj
    · intro j hj hc
      rw [e] at hc
      rw [jz_su_f (show 2 ≠ 5 by decide), jz_su_f (show 4 ≠ 5 by decide)]
      exact hs0 j hj hc
  · exact ⟨h0, hs0⟩
theorem fDrS_off {s : jz_St} {x : Int} {y : Nat} (hI : jRng s 344 (9 * s 344 6)) (hZ : jSz s 344) (hx : jOff 358 y) : ∀ j : Nat, (fDrS s x j y = s y) ∧ jRng (fDrS s x j) 358 (s 344 6 + 9 * j) ∧ jSz (fDrS s x j) 358 := by
  intro j
  induction j with
  | zero => exact ⟨take_off hx, by simpa [fDrS] using take_rng (k := 358) (by decide) hI, sz_take (by decide) hZ⟩
  | succ j ih =>
    have h2 := befall_rng (x := fDrX x (j + 1)) ih.2.1 ih.2.2
    simp only [fDrS]
    refine ⟨?_, jRng_mono (passHour_rng h2.1) (by omega), sz_hour h2.2⟩
    rw [passHour_off hx, befall_off (by have := ih.2.1; unfold jRng at this; omega) (by have := ih.2.1; unfold jRng at this; omega) hx, ih.1]
/-! ask -/
def fGiV (kd sz lf nr : Int) : Nat → Int → Int
  | 0, _ => 0
  | m + 1, b => if b = 10 then sz else if b = 11 then fGiV kd sz lf nr m 10 + fGiV kd sz lf nr m (fBody kd 1) else if b = 12 then -fGiV kd sz lf nr m 11
    else if b = 13 then fGiV kd sz lf nr m 10 - 100 else if b = 14 then 2 * fGiV kd sz lf nr m 13 else if b = 20 then nr else if b = 21 then fGiV kd sz lf nr m 20 + lf
    else if b = 22 then fGiV kd sz lf nr m 21 - 1000 else if b = 23 then fGiV kd sz lf nr m 20 - fGiV kd sz lf nr m (fBody kd 0) else if b = 24 then 2 * fGiV kd sz lf nr m 21 else 0
def fGiS (kd : Int) : Nat → Int → jz_St → jz_St
  | 0, _, s => s
  | m + 1, b, s => if b = 11 then fGiS kd m (fBody kd 1) (fGiS kd m 10 (f_X2_add s b)) else if b = 12 then fGiS kd m 11 (f_X2_add s b)
    else if b = 13 then fGiS kd m 10 (f_X2_add s b) else if b = 14 then fGiS kd m 13 (f_X2_add s b) else if b = 21 then fGiS kd m 20 (f_X2_add s b)
    else if b = 22 then fGiS kd m 21 (f_X2_add s b) else if b = 23 then fGiS kd m (fBody kd 0) (fGiS kd m 20 (f_X2_add s b)) else if b = 24 then fGiS kd m 21 (f_X2_add s b) else f_X2_add s b
theorem fGiV_r {kd sz lf nr : Int} (h1 : -1000 ≤ sz ∧ sz ≤ 1000) (h2 : -1000 ≤ lf ∧ lf ≤ 1000) (h3 : -1000 ≤ nr ∧ nr ≤ 1000) : ∀ (m : Nat) (b : Int), -(1000 * 2 ^ m - 1000) ≤ fGiV kd sz lf nr m b ∧ fGiV kd sz lf nr m b ≤ 1000 * 2 ^ m - 1000 := by
  intro m
  induction m with
  | zero => intro b; simp [fGiV]
  | succ m ih =>
    intro b
    have e : (2 : Int) ^ (m + 1) = 2 ^ m * 2 := Int.pow_succ 2 m
    have e1 : (1 : Int) ≤ 2 ^ m := by
      have : (0 : Int) < 2 ^ m := Int.pow_pos (by decide)
      omega
    have i10 := ih 10
    have i11 := ih 11
    have i13 := ih 13
    have i20 := ih 20
    have i21 := ih 21
    have ib1 := ih (fBody kd 1)
    have ib0 := ih (fBody kd 0)
    simp only [fGiV]
    rw [e]
    generalize (2 : Int) ^ m = P at *
    (repeat' split) <;> omega
theorem add_off (s : jz_St) (z : Int) {x : Nat} (h : x ≠ 342) (h2 : x ≠ 343) : f_X2_add s z x = s x := by
  unfold f_X2_add
  (try simp only)
  split
  · funext i
    simp [jz_su, h, h2]
  · rfl
theorem fGiS_off {kd : Int} {x : Nat} (h : x ≠ 342) (h2 : x ≠ 343) : ∀ (m : Nat) (b : Int) (s : jz_St), fGiS kd m b s x = s x := by
  intro m
  induction m with
  | zero => intro b s; rfl
  | succ m ih =>
    intro b s
    simp only [fGiS]
    (repeat' split) <;> simp only [ih, add_off s b h h2]
