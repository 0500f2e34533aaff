section JO
variable {g : jz_G} {x : jz_M} {n0 : Nat} {Q : jz_Q} {pc : Nat} {ls : List (Option jz_V)} {st : List jz_V} {n : Nat} {V : jz_S}
theorem jj_aload_nO {k : Fin 4} {o : Option Nat} (hd : decode (jm_c x) pc = .ok (.aload_n k, 1)) (hv : ls[(k : Nat)]? = some (some (.inr (.inr o)))) (kk : jz_J g x n0 Q (pc + 1) ls (.inr (.inr o) :: st) n V) : jz_J g x n0 Q pc ls st n V := by
  intro p e R s m args below meth c Qf C H locs lsA hP hS hn hn2 hL hst hls
  have h2 := kk p e R s m args below meth c Qf C H locs lsA hP hS hn hn2 hL (jz_consv trivial hst) hls
  have h3 := hL.2.2 _ _ hv
  rcases o with _ | a
  · exact lv_aload_nN C.1 C.2.1 hd rfl h3 h2
  · exact lv_aload_n C.1 C.2.1 hd rfl h3 h2
theorem jj_aloadO {i : Nat} {o : Option Nat} (hd : decode (jm_c x) pc = .ok (.aload i, 2)) (hv : ls[i]? = some (some (.inr (.inr o)))) (kk : jz_J g x n0 Q (pc + 2) ls (.inr (.inr o) :: st) n V) : jz_J g x n0 Q pc ls st n V := by
  intro p e R s m args below meth c Qf C H locs lsA hP hS hn hn2 hL hst hls
  have h2 := kk p e R s m args below meth c Qf C H locs lsA hP hS hn hn2 hL (jz_consv trivial hst) hls
  have h3 := hL.2.2 _ _ hv
  rcases o with _ | a
  · exact lv_aloadN C.1 C.2.1 hd h3 h2
  · exact lv_aload C.1 C.2.1 hd h3 h2
theorem jj_astore_nO {k : Fin 4} {o : Option Nat} {ls' : List (Option jz_V)} (hd : decode (jm_c x) pc = .ok (.astore_n k, 1)) (hi : (k : Nat) < jm_L x) (hn : jz_nl ls k = true) (hs : ls.set k (some (.inr (.inr o))) = ls') (kk : jz_J g x n0 Q (pc + 1) ls' st n V) : jz_J g x n0 Q pc ls (.inr (.inr o) :: st) n V := by
  intro p e R s m args below meth c Qf C H locs lsA hP hS hn1 hn2 hL hst hls
  subst hs
  have h2 := fun ls1 h1 => kk p e R s m args below meth c Qf C H locs ls1 hP hS hn1 hn2 (jz_Lh_set (v := .inr (.inr o)) hn h1) (jz_tl hst) (jz_setok trivial hls)
  rcases o with _ | a
  · exact lv_astore_nN C.1 C.2.1 hd rfl (jz_has hL) hi rfl h2
  · exact lv_astore_n C.1 C.2.1 hd rfl (jz_has hL) hi rfl h2
theorem jj_astoreO {i : Nat} {o : Option Nat} {ls' : List (Option jz_V)} (hd : decode (jm_c x) pc = .ok (.astore i, 2)) (hi : i < jm_L x) (hn : jz_nl ls i = true) (hs : ls.set i (some (.inr (.inr o))) = ls') (kk : jz_J g x n0 Q (pc + 2) ls' st n V) : jz_J g x n0 Q pc ls (.inr (.inr o) :: st) n V := by
  intro p e R s m args below meth c Qf C H locs lsA hP hS hn1 hn2 hL hst hls
  subst hs
  have h2 := fun ls1 h1 => kk p e R s m args below meth c Qf C H locs ls1 hP hS hn1 hn2 (jz_Lh_set (v := .inr (.inr o)) hn h1) (jz_tl hst) (jz_setok trivial hls)
  rcases o with _ | a
  · exact lv_astoreN C.1 C.2.1 hd (jz_has hL) hi rfl h2
  · exact lv_astore C.1 C.2.1 hd (jz_has hL) hi rfl h2
theorem jj_fgt {i : Nat} {ls' : List (Option jz_V)} (hs : ls.set i none = ls') (kk : jz_J g x n0 Q pc ls' st n V) : jz_J g x n0 Q pc ls st n V := by
  subst hs
  refine jj_less (fun a v h => ?_) kk
  by_cases e : i = a
  · subst e
    rw [List.getElem?_set] at h
    split at h
    · split at h <;> cases h
    · exact absurd rfl ‹_›
  · rwa [List.getElem?_set_ne e] at h
theorem jj_topO {o o' : Option Nat} (h : o = o') (kk : jz_J g x n0 Q pc ls (.inr (.inr o') :: st) n V) : jz_J g x n0 Q pc ls (.inr (.inr o) :: st) n V := by
  subst h
  exact kk
end JO
/-! squares, as functions of the store -/
def f_X5_hdr (s : jz_St) (k k2 : Nat) : jz_St := jz_su (jz_su (jz_su (jz_su (jz_su (jz_su s k 2 (s k2 2)) k 3 (s k2 3)) k 4 (s k2 4)) k 5 (s k2 5)) k 6 (s k2 6)) k 7 0
def f_X5_tkL (s : jz_St) (k k2 : Nat) : Nat → jz_St
  | 0 => s
  | j + 1 => f_X1_take (f_X5_tkL s k k2 j) (k + 3 + j) (k2 + 3 + j)
def f_X5_tkG (s : jz_St) (k k2 : Nat) : Nat → jz_St
  | 0 => s
  | j + 1 => f_X0_take (f_X5_tkG s k k2 j) (k + 10 + j) (k2 + 10 + j)
def f_X5_take (s : jz_St) (k k2 : Nat) : jz_St := f_X5_tkG (f_X5_tkL (f_X5_hdr s k k2) k k2 7) k k2 4
def f_X5_clL (s : jz_St) (k : Nat) : Nat → jz_St
  | 0 => s
  | j + 1 => jz_su (f_X5_clL s k j) (k + 3 + j) 5 0
def f_X5_clG (s : jz_St) (k : Nat) : Nat → jz_St
  | 0 => s
  | j + 1 => jz_su (f_X5_clG s k j) (k + 10 + j) 3 0
def f_X5_clear (s : jz_St) (k : Nat) : jz_St := f_X5_clG (f_X5_clL (jz_su (jz_su (jz_su s k 2 0) k 3 0) k 6 0) k 7) k 4
def fLfO (s : jz_St) (k : Nat) (z : Int) : Option Nat := if 0 ≤ z ∧ z < s k 2 ∧ z < 7 then some (k + 3 + z.toNat) else none
def fGtO (s : jz_St) (k : Nat) (z : Int) : Option Nat := if 0 ≤ z ∧ z < s k 3 ∧ z < 4 then some (k + 10 + z.toNat) else none
/-- in force, of a leaf's cell -/
def fFo (s : jz_St) (a : Nat) : Prop := 0 < s a 5 ∧ s a 2 ≤ 2 * s a 5
def fIF (s : jz_St) (k : Nat) : Nat → Int
  | 0 => 0
  | j + 1 => jor (fIF s k j) (if 0 < s (k + 3 + j) 5 ∧ s (k + 3 + j) 2 ≤ 2 * s (k + 3 + j) 5 then jshl 1 j else 0)
def fNV (s : jz_St) (k : Nat) : Nat → Int
  | 0 => 0
  | j + 1 => jor (fNV s k j) (if s (k + 3 + j) 5 ≤ 0 then 0 else jshl 1 j)
def fLA (s : jz_St) (k : Nat) : Nat → Int
  | 0 => 0
  | j + 1 => fLA s k j + s (k + 3 + j) 5
def fLkA (s : jz_St) (k j : Nat) : Int := fLk (s (k + 3 + j) 1) (s (k + 3 + j) 4) (s (k + 3 + j) 5) (s k 6) (s k 5)
def fLkR (s : jz_St) (k : Nat) (rc : Int) (j : Nat) : Int := if s (k + 3 + j) 3 ≤ rc then fLkA s k j else -1000000
def fChS (s : jz_St) (k : Nat) (rc : Int) : Nat → Option Nat × Int
  | 0 => (none, -1000000)
  | j + 1 => if (fChS s k rc j).2 < fLkR s k rc j then (some j, fLkR s k rc j) else fChS s k rc j
def fCho (s : jz_St) (k a : Nat) : Option Nat := if s a 3 ≤ 0 ∧ 0 < s a 1 then (fChS s k (s a 2) 7).1 else none
def fChoA (s : jz_St) (k a : Nat) : Option Nat := (fCho s k a).map fun j => k + 3 + j
/-- goat g bites (its cell k + 10 + g) -/
def f_X5_bite (s : jz_St) (k g j : Nat) : jz_St :=
  let s1 := f_X1_loseBite s (k + 3 + j) g
  let s2 := f_X0_swallow s1 (k + 10 + g) (fBite (s (k + 3 + j) 1) (s (k + 3 + j) 5))
  jz_su s2 k 7 (s2 k 7 + if s2 (k + 3 + j) 5 ≤ 0 then 1 else 0)
def f_X5_letBite (s : jz_St) (k g : Nat) : jz_St := match fCho s k (k + 10 + g) with
  | none => s
  | some j => f_X5_bite s k g j
def v_X5_letBite (s : jz_St) (k g : Nat) : Int := match fCho s k (k + 10 + g) with
  | none => 0
  | some j => fBite (s (k + 3 + j) 1) (s (k + 3 + j) 5)
def f_X5_phB (s : jz_St) (k : Nat) : Nat → jz_St
  | 0 => s
  | g + 1 => if (g : Int) < f_X5_phB s k g k 3 then f_X5_letBite (f_X5_phB s k g) k g else f_X5_phB s k g
def v_X5_phB (s : jz_St) (k : Nat) : Nat → Int
  | 0 => 0
  | g + 1 => v_X5_phB s k g + if (g : Int) < f_X5_phB s k g k 3 then v_X5_letBite (f_X5_phB s k g) k g else 0
def f_X5_phE (s : jz_St) (k : Nat) : Nat → jz_St
  | 0 => s
  | g + 1 => f_X0_endHour (f_X5_phE s k g) (k + 10 + g) (f_X5_phE s k g k 4)
def f_X5_passHour (s : jz_St) (k : Nat) : jz_St :=
  let s2 := f_X5_phE (f_X5_phB s k 4) k 4
  jz_su s2 k 6 (s2 k 6 + 1)
def v_X5_passHour (s : jz_St) (k : Nat) : Int := v_X5_phB s k 4
def f_X5_passHours (s : jz_St) (k : Nat) : Nat → jz_St
  | 0 => s
  | j + 1 => f_X5_passHour (f_X5_passHours s k j) k
/-- numbers that keep in their bounds: b hours or bites so far -/
def jRng (s : jz_St) (k : Nat) (b : Int) : Prop :=
  (0 ≤ s k 2 ∧ s k 2 ≤ 7) ∧ (0 ≤ s k 3 ∧ s k 3 ≤ 4) ∧ (0 ≤ s k 4 ∧ s k 4 ≤ 9) ∧ (0 ≤ s k 5 ∧ s k 5 ≤ 9) ∧ (0 ≤ s k 6 ∧ s k 6 ≤ b) ∧ (0 ≤ s k 7 ∧ s k 7 ≤ b) ∧
  (∀ j, j < 7 → (0 ≤ s (k + 3 + j) 5 ∧ s (k + 3 + j) 5 ≤ 1000) ∧ (0 < s (k + 3 + j) 5 → 0 ≤ s (k + 3 + j) 4 ∧ s (k + 3 + j) 4 ≤ 1000)) ∧
  (∀ j, j < 4 → (0 ≤ s (k + 10 + j) 1 ∧ s (k + 10 + j) 1 ≤ 99) ∧ (0 ≤ s (k + 10 + j) 3 ∧ s (k + 10 + j) 3 ≤ 60) ∧ (0 ≤ s (k + 10 + j) 4 ∧ s (k + 10 + j) 4 ≤ b))
