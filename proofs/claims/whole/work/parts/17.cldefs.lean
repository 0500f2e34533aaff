/-! what a square's doings leave alone -/
def jOff (k x : Nat) : Prop := x < k ∨ k + 14 ≤ x
theorem bite_off {s : jz_St} {k g j x : Nat} (hg : g < 4) (hj : j < 7) (h : jOff k x) : f_X5_bite s k g j x = s x := bto s k g j x (by unfold jOff at h; omega) (by unfold jOff at h; omega) (by unfold jOff at h; omega)
theorem letBite_off {s : jz_St} {k g x : Nat} (hg : g < 4) (h : jOff k x) : f_X5_letBite s k g x = s x := by
  unfold f_X5_letBite
  cases hX : fCho s k (k + 10 + g) with
  | none => rfl
  | some j => exact bite_off hg (fCho_some hX).1 h
theorem phB_off {s : jz_St} {k x : Nat} (h : jOff k x) : ∀ g, g ≤ 4 → f_X5_phB s k g x = s x := by
  intro g
  induction g with
  | zero => intro _; rfl
  | succ g ih =>
    intro hg
    simp only [f_X5_phB]
    split
    · rw [letBite_off (by omega) h, ih (by omega)]
    · exact ih (by omega)
theorem phE_off {s : jz_St} {k x : Nat} (h : jOff k x) : ∀ g, g ≤ 4 → f_X5_phE s k g x = s x := by
  intro g
  induction g with
  | zero => intro _; rfl
  | succ g ih =>
    intro hg
    simp only [f_X5_phE]
    rw [eho _ _ _ _ (by unfold jOff at h; omega), ih (by omega)]
theorem passHour_off {s : jz_St} {k x : Nat} (h : jOff k x) : f_X5_passHour s k x = s x := by
  unfold f_X5_passHour
  (try simp only)
  rw [jz_su_o (by unfold jOff at h; omega), phE_off h 4 (by omega), phB_off h 4 (by omega)]
theorem passHours_off {s : jz_St} {k x : Nat} (h : jOff k x) : ∀ n, f_X5_passHours s k n x = s x := by
  intro n
  induction n with
  | zero => rfl
  | succ n ih =>
    simp only [f_X5_passHours]
    rw [passHour_off h, ih]
theorem keep_off {k x : Nat} {told : Int} (h : jOff k x) : ∀ (n : Nat) (s : jz_St), (fKeep s k told n).2 x = s x := by
  intro n
  induction n with
  | zero => intro s; rfl
  | succ n ih =>
    intro s
    simp only [fKeep]
    split
    · rw [ih, passHour_off h]
    · rfl
theorem goes_off {k x a r : Nat} {fr : Int} (h : jOff k x) : ∀ (n i : Nat) (s : jz_St), (fGoes s k a r fr i n).2 x = s x := by
  intro n
  induction n with
  | zero => intro i s; rfl
  | succ n ih =>
    intro i s
    simp only [fGoes]
    by_cases hq : f_X5_passHour s k a 5 = (if 0 ≤ fr + (i : Int) ∧ fr + (i : Int) < 40 then f_X5_passHour s k (r + 1) (fr + (i : Int)).toNat else 0)
    · rw [if_pos hq, ih, passHour_off h]
    · rw [if_neg hq]; exact passHour_off h
theorem drv_off {s : jz_St} {k x : Nat} {bits n : Int} (h : jOff k x) : ∀ j, j ≤ 4 → f_X5_drv s k bits n j x = s x := by
  intro j
  induction j with
  | zero => intro _; rfl
  | succ j ih =>
    intro hj
    simp only [f_X5_drv]
    split
    · exact ih (by omega)
    · rw [jz_su_o (by unfold jOff at h; omega), ih (by omega)]
theorem hot_off {s : jz_St} {k x : Nat} {bits : Int} (h : jOff k x) : ∀ j, j ≤ 7 → f_X5_hot s k bits j x = s x := by
  intro j
  induction j with
  | zero => intro _; rfl
  | succ j ih =>
    intro hj
    simp only [f_X5_hot]
    split
    · exact ih (by omega)
    · rw [jz_su_o (by unfold jOff at h; omega), ih (by omega)]
theorem tea_off {s : jz_St} {k x : Nat} {bits : Int} (h : jOff k x) : f_X5_tea s k bits 7 x = s x := by
  funext i
  exact tea_o s k bits 7 x i (fun m hm => by unfold jOff at h; omega)
theorem befall_off {s : jz_St} {k x : Nat} {z : Int} (hL : s k 2 ≤ 7) (hG : s k 3 ≤ 4) (h : jOff k x) : f_X5_befall s k z x = s x := by
  have e : f_X5_bfG s k z x = s x := by
    unfold f_X5_bfG
    split
    · next q =>
      have := em_b (x := z) q.2
      exact jz_su_o (by unfold jOff at h; omega)
    · rfl
  unfold f_X5_befall f_X5_bfL
  split
  · next q =>
    have h2 := bfG_2 s k z
    have := em_b (x := z) q.2
    rw [jz_su_o (by unfold jOff at h; omega), e]
  · exact e
theorem take_off {s : jz_St} {k k2 x : Nat} (h : jOff k x) : f_X5_take s k k2 x = s x := take_o s k k2 h
/-! what take leaves -/
theorem tk1_i (s : jz_St) (a b : Nat) {i : Nat} (h0 : i ≠ 0) (h6 : i ≤ 5) (hab : a ≠ b) : f_X1_take s a b a i = s b i := by
  have : i = 1 ∨ i = 2 ∨ i = 3 ∨ i = 4 ∨ i = 5 := by omega
  have hba : ¬ b = a := fun q => hab q.symm
  rcases this with rfl | rfl | rfl | rfl | rfl <;> simp [f_X1_take, jz_su, hba]
theorem tk1_6 (s : jz_St) (a b : Nat) : f_X1_take s a b a 6 = 0 := by simp [f_X1_take, jz_su]
theorem tk0_i (s : jz_St) (a b : Nat) {i : Nat} (h0 : i ≠ 0) (h6 : i ≤ 3) (hab : a ≠ b) : f_X0_take s a b a i = s b i := by
  have : i = 1 ∨ i = 2 ∨ i = 3 := by omega
  have hba : ¬ b = a := fun q => hab q.symm
  rcases this with rfl | rfl | rfl <;> simp [f_X0_take, jz_su, hba]
theorem tk0_4 (s : jz_St) (a b : Nat) : f_X0_take s a b a 4 = 0 := by simp [f_X0_take, jz_su]
theorem tkL_in (s : jz_St) (k k2 : Nat) (hA : k + 14 ≤ k2 ∨ k2 + 14 ≤ k) : ∀ n, n ≤ 7 → ∀ j, j < n → (∀ i, i ≠ 0 → i ≤ 5 → f_X5_tkL s k k2 n (k + 3 + j) i = s (k2 + 3 + j) i) ∧ f_X5_tkL s k k2 n (k + 3 + j) 6 = 0 := by
  intro n
  induction n with
  | zero => intro _ j hj; omega
  | succ n ih =>
    intro hn j hj
    simp only [f_X5_tkL]
    by_cases e : j = n
    · subst e
      refine ⟨fun i h0 h5 => ?_, tk1_6 _ _ _⟩
      rw [tk1_i _ _ _ h0 h5 (by omega), tkL_o s k k2 j (k2 + 3 + j) (fun m hm => by omega)]
    · rw [tk1_o _ _ _ (show k + 3 + j ≠ k + 3 + n by omega)]
      exact ih (by omega) j (by omega)
theorem tkG_in (s : jz_St) (k k2 : Nat) (hA : k + 14 ≤ k2 ∨ k2 + 14 ≤ k) : ∀ n, n ≤ 4 → ∀ j, j < n → (∀ i, i ≠ 0 → i ≤ 3 → f_X5_tkG s k k2 n (k + 10 + j) i = s (k2 + 10 + j) i) ∧ f_X5_tkG s k k2 n (k + 10 + j) 4 = 0 := by
  intro n
  induction n with
  | zero => intro _ j hj; omega
  | succ n ih =>
    intro hn j hj
    simp only [f_X5_tkG]
    by_cases e : j = n
    · subst e
      refine ⟨fun i h0 h5 => ?_, tk0_4 _ _ _⟩
      rw [tk0_i _ _ _ h0 h5 (by omega), tkG_o s k k2 j (k2 + 10 + j) (fun m hm => by omega)]
    · rw [tk0_o _ _ _ (show k + 10 + j ≠ k + 10 + n by omega)]
      exact ih (by omega) j (by omega)
theorem take_leaf (s : jz_St) {k k2 j : Nat} (hA : k + 14 ≤ k2 ∨ k2 + 14 ≤ k) (hj : j < 7) {i : Nat} (h0 : i ≠ 0) (h5 : i ≤ 5) : f_X5_take s k k2 (k + 3 + j) i = s (k2 + 3 + j) i := by
  unfold f_X5_take
  rw [tkG_o _ _ _ _ _ (fun m hm => by omega), (tkL_in (f_X5_hdr s k k2) k k2 hA 7 (by omega) j hj).1 i h0 h5, hdr_o _ _ _ (by omega)]
theorem take_leaf6 (s : jz_St) {k k2 j : Nat} (hA : k + 14 ≤ k2 ∨ k2 + 14 ≤ k) (hj : j < 7) : f_X5_take s k k2 (k + 3 + j) 6 = 0 := by
  unfold f_X5_take
  rw [tkG_o _ _ _ _ _ (fun m hm => by omega), (tkL_in (f_X5_hdr s k k2) k k2 hA 7 (by omega) j hj).2]
theorem take_goat (s : jz_St) {k k2 j : Nat} (hA : k + 14 ≤ k2 ∨ k2 + 14 ≤ k) (hj : j < 4) {i : Nat} (h0 : i ≠ 0) (h5 : i ≤ 3) : f_X5_take s k k2 (k + 10 + j) i = s (k2 + 10 + j) i := by
  unfold f_X5_take
  rw [(tkG_in _ k k2 hA 4 (by omega) j hj).1 i h0 h5, tkL_o _ _ _ _ _ (fun m hm => by omega), hdr_o _ _ _ (by omega)]
theorem take_goat4 (s : jz_St) {k k2 j : Nat} (hA : k + 14 ≤ k2 ∨ k2 + 14 ≤ k) (hj : j < 4) : f_X5_take s k k2 (k + 10 + j) 4 = 0 := by
  unfold f_X5_take
  rw [(tkG_in _ k k2 hA 4 (by omega) j hj).2]
theorem take_k (s : jz_St) {k k2 : Nat} (hA : k + 14 ≤ k2 ∨ k2 + 14 ≤ k) {i : Nat} (h2 : 2 ≤ i) (h6 : i ≤ 6) : f_X5_take s k k2 k i = s k2 i := by
  unfold f_X5_take
  rw [tkG_o _ _ _ _ _ (fun m hm => by omega), tkL_o _ _ _ _ _ (fun m hm => by omega)]
  have : i = 2 ∨ i = 3 ∨ i = 4 ∨ i = 5 ∨ i = 6 := by omega
  rcases this with rfl | rfl | rfl | rfl | rfl <;> simp [f_X5_hdr, jz_su]
theorem take_k7 (s : jz_St) (k k2 : Nat) : f_X5_take s k k2 k 7 = 0 := by
  unfold f_X5_take
  rw [tkG_o _ _ _ _ _ (fun m hm => by omega), tkL_o _ _ _ _ _ (fun m hm => by omega)]
  simp [f_X5_hdr, jz_su]
theorem take_rng {s : jz_St} {k k2 : Nat} {b : Int} (hA : k + 14 ≤ k2 ∨ k2 + 14 ≤ k) (h : jRng s k2 b) : jRng (f_X5_take s k k2) k (s k2 6) := by
  obtain ⟨h1, h2, h3, h4, h5, h6, h7, h8⟩ := h
  refine ⟨?_, ?_, ?_, ?_, ?_, ?_, fun j hj => ?_, fun j hj => ?_⟩
  · rw [take_k s hA (by decide) (by decide)]; exact h1
  · rw [take_k s hA (by decide) (by decide)]; exact h2
  · rw [take_k s hA (by decide) (by decide)]; exact h3
  · rw [take_k s hA (by decide) (by decide)]; exact h4
  · rw [take_k s hA (by decide) (by decide)]; omega
  · rw [take_k7]; omega
  · rw [take_leaf s hA hj (by decide) (by decide), take_leaf s hA hj (by decide) (by decide)]
    exact h7 j hj
  · rw [take_goat s hA hj (by decide) (by decide), take_goat s hA hj (by decide) (by decide), take_goat4 s hA hj]
    have := h8 j hj
    omega
/-! numbers of the class -/
def fBC (n : Nat) : Int := (if n.testBit 0 then 1 else 0) + (if n.testBit 1 then 1 else 0) + (if n.testBit 2 then 1 else 0) + (if n.testBit 3 then 1 else 0) + (if n.testBit 4 then 1 else 0) + (if n.testBit 5 then 1 else 0) + (if n.testBit 6 then 1 else 0)
def fPow (b : Int) : Nat → Int
  | 0 => 1
  | n + 1 => fPow b n * b
def fGC : Nat → Int → Int → Int
  | 0, a, _ => a
  | m + 1, a, b => if b = 0 then a else fGC m b (Int.tmod a b)
def fBroad (k : Int) : Int := if k = 2 ∨ k = 3 then 1 else if k = 5 then 4 else 0
def fBody (k w : Int) : Int := if w = 0 then (if k = 1 ∨ k = 3 then 11 else if k = 2 then 12 else if k = 4 then 13 else if k = 5 then 14 else 10) else (if k = 1 then 21 else if k = 2 then 24 else if k = 3 then 22 else if k = 4 ∨ k = 5 then 23 else 20)
def fRT (s : jz_St) : Nat → Int
  | 0 => 0
  | j + 1 => fRT s j + if s (400 + 2 * j) 1 = 0 then 0 else 1
def fAtt (s : jz_St) (dr : Bool) (told : Int) (n c : Nat) : Int × jz_St :=
  fKeep (if dr then f_X5_drv (f_X5_take s 358 344) 358 c n 4 else f_X5_hot (f_X5_take s 358 344) 358 c 7) 358 told n
def fFwI (s : jz_St) (al : Nat) (dr : Bool) (told : Int) (n : Nat) (many : Int) (c : Nat) : Nat → Option Nat × jz_St
  | 0 => (none, s)
  | m + 1 => if fBC c = many ∧ jand c (jxor al (-1)) = 0 then
      (if (fAtt s dr told n c).1 = 0 then fFwI (fAtt s dr told n c).2 al dr told n many (c + 1) m else (some c, (fAtt s dr told n c).2))
    else fFwI s al dr told n many (c + 1) m
def fFwO (s : jz_St) (al : Nat) (dr : Bool) (told : Int) (n : Nat) (many : Nat) : Nat → Option Nat × jz_St
  | 0 => (none, s)
  | m + 1 => match (fFwI s al dr told n many 0 (al + 1)).1 with
    | some c => (some c, (fFwI s al dr told n many 0 (al + 1)).2)
    | none => fFwO (fFwI s al dr told n many 0 (al + 1)).2 al dr told n (many + 1) m
def fON (o : Option Nat) : Int := match o with
  | none => -1000000
  | some c => c
theorem att_off {s : jz_St} {dr : Bool} {told : Int} {n c x : Nat} (h : jOff 358 x) : (fAtt s dr told n c).2 x = s x := by
  unfold fAtt
  rw [keep_off h]
  split
  · rw [drv_off h 4 (by omega), take_off h]
  · rw [hot_off h 7 (by omega), take_off h]
theorem fwI_off {al : Nat} {dr : Bool} {told : Int} {n : Nat} {many : Int} {x : Nat} (h : jOff 358 x) : ∀ (m c : Nat) (s : jz_St), (fFwI s al dr told n many c m).2 x = s x := by
  intro m
  induction m with
  | zero => intro c s; rfl
  | succ m ih =>
    intro c s
    simp only [fFwI]
    split
    · split
      · rw [ih, att_off h]
      · exact att_off h
    · exact ih _ _
theorem fwO_off {al : Nat} {dr : Bool} {told : Int} {n x : Nat} (h : jOff 358 x) : ∀ (m many : Nat) (s : jz_St), (fFwO s al dr told n many m).2 x = s x := by
  intro m
  induction m with
  | zero => intro many s; rfl
  | succ m ih =>
    intro many s
    simp only [fFwO]
    split
    · exact fwI_off h _ _ _
    · rw [ih, fwI_off h]
theorem jRng_off {s s' : jz_St} {k : Nat} {b : Int} (h : jRng s k b) (he : ∀ x, k ≤ x → x < k + 14 → s' x = s x) : jRng s' k b := by
  unfold jRng at h ⊢
  rw [he k (by omega) (by omega)]
  refine ⟨h.1, h.2.1, h.2.2.1, h.2.2.2.1, h.2.2.2.2.1, h.2.2.2.2.2.1, fun j hj => ?_, fun j hj => ?_⟩
  · rw [he (k + 3 + j) (by omega) (by omega)]; exact h.2.2.2.2.2.2.1 j hj
  · rw [he (k + 10 + j) (by omega) (by omega)]; exact h.2.2.2.2.2.2.2 j hj
theorem drv_rng {s : jz_St} {k : Nat} {b bits n : Int} (h : jRng s k b) (hn : 0 ≤ n ∧ n ≤ 60) : ∀ j, j ≤ 4 → jRng (f_X5_drv s k bits n j) k b := by
  intro j
  induction j with
  | zero => intro _; exact h
  | succ j ih =>
    intro hj
    simp only [f_X5_drv]
    have h0 := ih (by omega)
    split
    · exact h0
    · obtain ⟨h1, h2, h3, h4, h5, h6, h7, h8⟩ := h0
      have e : ∀ i, jz_su (f_X5_drv s k bits n j) (k + 10 + j) 3 n k i = f_X5_drv s k bits n j k i := fun i => jz_su_n (Or.inl (by omega))
      unfold jRng
      simp only [e]
      refine ⟨h1, h2, h3, h4, h5, h6, fun i hi => ?_, fun i hi => ?_⟩
      · rw [jz_su_o (by omega)]; exact h7 i hi
      · rw [jz_su_f (show 1 ≠ 3 by decide), jz_su_f (show 4 ≠ 3 by decide)]
        refine ⟨(h8 i hi).1, ?_, (h8 i hi).2.2⟩
        unfold jz_su
        split
        · exact hn
        · exact (h8 i hi).2.1
theorem hot_rng {s : jz_St} {k : Nat} {b bits : Int} (h : jRng s k b) : ∀ j, j ≤ 7 → jRng (f_X5_hot s k bits j) k b := by
  intro j
  induction j with
  | zero => intro _; exact h
  | succ j ih =>
    intro hj
    simp only [f_X5_hot]
    have h0 := ih (by omega)
    split
    · exact h0
    · obtain ⟨h1, h2, h3, h4, h5, h6, h7, h8⟩ := h0
      have e : ∀ i, jz_su (f_X5_hot s k bits j) (k + 3 + j) 3 9 k i = f_X5_hot s k bits j k i := fun i => jz_su_n (Or.inl (by omega))
      unfold jRng
      simp only [e]
      refine ⟨h1, h2, h3, h4, h5, h6, fun i hi => ?_, fun i hi => ?_⟩
      · rw [jz_su_f (show 5 ≠ 3 by decide), jz_su_f (show 4 ≠ 3 by decide)]; exact h7 i hi
      · rw [jz_su_o (by omega)]; exact h8 i hi
theorem bz_t {C : Prop} [Decidable C] (h : ¬ (if C then (1 : Int) else 0) = 0) : C := by
  by_cases q : C
  · exact q
  · rw [if_neg q] at h; exact absurd rfl h
theorem bz_f {C : Prop} [Decidable C] (h : (if C then (1 : Int) else 0) = 0) : ¬ C := fun q => by
  rw [if_pos q] at h; exact absurd h (by decide)
theorem by_t {C : Prop} [Decidable C] (h : ¬ (if C then (0 : Int) else 1) = 0) : ¬ C := fun q => by
  rw [if_pos q] at h; exact absurd rfl h
theorem by_f {C : Prop} [Decidable C] (h : (if C then (0 : Int) else 1) = 0) : C := by
  by_cases q : C
  · exact q
  · rw [if_neg q] at h; exact absurd h (by decide)
theorem letBite_k (s : jz_St) (k g : Nat) (hg : g < 4) {i : Nat} (hi : i ≠ 7) : f_X5_letBite s k g k i = s k i := by
  unfold f_X5_letBite
  cases hX : fCho s k (k + 10 + g) with
  | none => rfl
  | some j =>
    show f_X5_bite s k g j k i = s k i
    have := (fCho_some hX).1
    by_cases h1 : i = 1
    · subst h1; rw [bt1, if_neg (by omega)]
    · by_cases h4 : i = 4
      · subst h4; rw [bt4, if_neg (by omega)]
      · by_cases h5 : i = 5
        · subst h5; rw [bt5, if_neg (by omega)]
        · by_cases h6 : i = 6
          · subst h6; rw [bt6, if_neg (by omega)]
          · exact btn s k g j k h1 h4 h5 h6 hi
theorem phB_k (s : jz_St) (k : Nat) {i : Nat} (hi : i ≠ 7) : ∀ g, g ≤ 4 → f_X5_phB s k g k i = s k i := by
  intro g
  induction g with
  | zero => intro _; rfl
  | succ g ih =>
    intro hg
    simp only [f_X5_phB]
    split
    · rw [letBite_k _ _ _ (by omega) hi, ih (by omega)]
    · exact ih (by omega)
theorem phE_k (s : jz_St) (k : Nat) : ∀ g, g ≤ 4 → f_X5_phE s k g k = s k := by
  intro g
  induction g with
  | zero => intro _; rfl
  | succ g ih =>
    intro hg
    simp only [f_X5_phE]
    rw [eho _ _ _ _ (by omega), ih (by omega)]
theorem passHour_k (s : jz_St) (k : Nat) {i : Nat} (h6 : i ≠ 6) (h7 : i ≠ 7) : f_X5_passHour s k k i = s k i := by
  unfold f_X5_passHour
  (try simp only)
  rw [jz_su_f h6, phE_k _ _ 4 (by omega), phB_k _ _ h7 4 (by omega)]
theorem passHour_k6 (s : jz_St) (k : Nat) : f_X5_passHour s k k 6 = s k 6 + 1 := by
  unfold f_X5_passHour
  (try simp only)
  rw [jz_su_s, phE_k _ _ 4 (by omega), phB_k _ _ (by decide) 4 (by omega)]
theorem jRng_re {s : jz_St} {k : Nat} {b : Int} (h : jRng s k b) : jRng s k b := h
theorem pv_rng {s : jz_St} {k : Nat} {b : Int} (h : jRng s k b) : 0 ≤ v_X5_passHour s k ∧ v_X5_passHour s k ≤ 8 := by
  have := phv_rng h 4 (by omega)
  unfold v_X5_passHour
  omega
theorem keep_o {s : jz_St} {k x : Nat} (hn : 0 ≤ s 4 1 ∧ s 4 1 < 24) (h4 : x ≠ 4) (hx : x < 6 ∨ 342 ≤ x) : f_X3_keep s k x = s x := by
  unfold f_X3_keep
  (try simp only)
  rw [jz_su_o h4, jz_su_o h4, take_off (by unfold jOff; omega)]
theorem keep_1 (s : jz_St) (k : Nat) : f_X3_keep s k 4 1 = if s 4 1 + 1 < 24 then s 4 1 + 1 else 0 := by
  unfold f_X3_keep
  (try simp only)
  rw [jz_su_f (by decide), jz_su_s]
theorem keep_2 (s : jz_St) (k : Nat) : f_X3_keep s k 4 2 = if s 4 2 + 1 < 24 then s 4 2 + 1 else 24 := by
  unfold f_X3_keep
  (try simp only)
  rw [jz_su_s]
/-- what the class keeps to -/
def jInv (s : jz_St) : Prop := jRng s 344 (9 * s 344 6) ∧ s 344 6 ≤ 999 ∧ (0 ≤ s 4 1 ∧ s 4 1 < 24) ∧ (0 ≤ s 4 2 ∧ s 4 2 ≤ 24) ∧ jTk s ∧ ∀ j, j < 8 → 0 ≤ s (400 + 2 * j) 3 ∧ s (400 + 2 * j) 3 ≤ 40
def jNow (s : jz_St) : Prop := jRng s 344 (9 * s 344 6) ∧ (0 ≤ s 4 1 ∧ s 4 1 < 24) ∧ (0 ≤ s 4 2 ∧ s 4 2 ≤ 24)
theorem jNow_keep {s : jz_St} (h : jNow s) : jNow (f_X3_keep s 344) := by
  obtain ⟨h1, h2, h3⟩ := h
  refine ⟨?_, ?_, ?_⟩
  · rw [keep_o h2 (by decide) (by decide)]
    exact jRng_off h1 fun x hx1 hx2 => keep_o h2 (by omega) (by omega)
  · rw [keep_1]; split <;> omega
  · rw [keep_2]; split <;> omega
theorem jNow_hour {s : jz_St} (h : jNow s) : jNow (f_X5_passHour s 344) := by
  obtain ⟨h1, h2, h3⟩ := h
  refine ⟨?_, ?_, ?_⟩
  · rw [passHour_k6]
    exact jRng_mono (passHour_rng h1) (by omega)
  · rw [passHour_off (by unfold jOff; omega)]; exact h2
  · rw [passHour_off (by unfold jOff; omega)]; exact h3
def f_hrs (s : jz_St) : Nat → jz_St
  | 0 => s
  | j + 1 => f_X5_passHour (f_X3_keep (f_hrs s j) 344) 344
def v_hrs (s : jz_St) : Nat → Int
  | 0 => 0
  | j + 1 => v_hrs s j + v_X5_passHour (f_X3_keep (f_hrs s j) 344) 344
theorem hrs_now {s : jz_St} (h : jNow s) : ∀ j, jNow (f_hrs s j) := by
  intro j
  induction j with
  | zero => exact h
  | succ j ih => exact jNow_hour (jNow_keep ih)
theorem hrs_6 {s : jz_St} (h : jNow s) : ∀ j : Nat, f_hrs s j 344 6 = s 344 6 + j := by
  intro j
  induction j with
  | zero => simp [f_hrs]
  | succ j ih =>
    simp only [f_hrs]
    rw [passHour_k6, keep_o (hrs_now h j).2.1 (by decide) (by decide), ih]
    omega
theorem hrs_v {s : jz_St} (h : jNow s) : ∀ j : Nat, 0 ≤ v_hrs s j ∧ v_hrs s j ≤ 8 * j := by
  intro j
  induction j with
  | zero => simp [v_hrs]
  | succ j ih =>
    simp only [v_hrs]
    have := pv_rng (jNow_keep (hrs_now h j)).1
    omega
