/-! numbers -/
theorem jz_toInt {z : Int} (h : jI z) : (Int32.ofInt z).toInt = z := Int32.toInt_ofInt_of_le (by omega) (by omega)
theorem jz_toIntL {z : Int} (h : jL z) : (Int64.ofInt z).toInt = z := Int64.toInt_ofInt_of_le (by omega) (by omega)
theorem jz_rng (x : Int32) : jI x.toInt := ⟨by have := x.le_toInt; omega, by have := x.toInt_lt; omega⟩
theorem jz_rngL (x : Int64) : jL x.toInt := ⟨by have := x.le_toInt; omega, by have := x.toInt_lt; omega⟩
theorem jz_eqI {a b : Int} (ha : jI a) (hb : jI b) : Int32.ofInt a = Int32.ofInt b ↔ a = b := by
  rw [← Int32.toInt_inj, jz_toInt ha, jz_toInt hb]
theorem jz_ltI {a b : Int} (ha : jI a) (hb : jI b) : Int32.ofInt a < Int32.ofInt b ↔ a < b := by
  rw [Int32.lt_iff_toInt_lt, jz_toInt ha, jz_toInt hb]
theorem jz_leI {a b : Int} (ha : jI a) (hb : jI b) : Int32.ofInt a ≤ Int32.ofInt b ↔ a ≤ b := by
  rw [Int32.le_iff_toInt_le, jz_toInt ha, jz_toInt hb]
theorem jz_eqL {a b : Int} (ha : jL a) (hb : jL b) : Int64.ofInt a = Int64.ofInt b ↔ a = b := by
  rw [← Int64.toInt_inj, jz_toIntL ha, jz_toIntL hb]
theorem jz_ltL {a b : Int} (ha : jL a) (hb : jL b) : Int64.ofInt a < Int64.ofInt b ↔ a < b := by
  rw [Int64.lt_iff_toInt_lt, jz_toIntL ha, jz_toIntL hb]
theorem jz_o0 : Int32.ofInt 0 = 0 := rfl
theorem jz_in' {z : Int} {n : Nat} (h : jI z) (h0 : 0 ≤ z) (h1 : z < n) : vp_in (Int32.ofInt z) n := vp_in_iff.mpr (by rw [jz_toInt h]; exact ⟨h0, h1⟩)
theorem jz_cl {z : Int} (h : jI z) : (Int32.ofInt z).toNatClampNeg = z.toNat := by
  show (Int32.ofInt z).toInt.toNat = _
  rw [jz_toInt h]
def jand (a b : Int) : Int := (Int32.ofInt a &&& Int32.ofInt b).toInt
def jor (a b : Int) : Int := (Int32.ofInt a ||| Int32.ofInt b).toInt
def jxor (a b : Int) : Int := (Int32.ofInt a ^^^ Int32.ofInt b).toInt
def jshl (a b : Int) : Int := (Int32.ofInt a <<< (Int32.ofInt b &&& 31)).toInt
def jshr (a b : Int) : Int := (Int32.ofInt a >>> (Int32.ofInt b &&& 31)).toInt
def jushr (a b : Int) : Int := ((Int32.ofInt a).toUInt32 >>> ((Int32.ofInt b).toUInt32 &&& Int32.toUInt32 31)).toInt32.toInt
def jb (a : Int) : Int := (Int32.ofInt a).toInt8.toInt32.toInt
def js (a : Int) : Int := (Int32.ofInt a).toInt16.toInt32.toInt
def jcmp (a b : Int) : Int := if a > b then 1 else if a = b then 0 else -1
/-! lists of held locals -/
def jz_as (g : jz_G) (ls : List (Option jz_V)) : List (Nat × Value) := ls.zipIdx.filterMap fun q => q.1.map fun v => (q.2, jz_cv g v)
theorem jz_as_mem {g : jz_G} {ls : List (Option jz_V)} {i : Nat} {w : Value} : (i, w) ∈ jz_as g ls ↔ ∃ v, ls[i]? = some (some v) ∧ w = jz_cv g v := by
  unfold jz_as
  rw [List.mem_filterMap]
  constructor
  · rintro ⟨⟨o, j⟩, h1, h2⟩
    cases o with
    | none => simp at h2
    | some v =>
      simp only [Option.map_some, Option.some.injEq, Prod.mk.injEq] at h2
      obtain ⟨rfl, rfl⟩ := h2
      exact ⟨v, List.mem_zipIdx_iff_getElem?.mp h1, rfl⟩
  · rintro ⟨v, h1, rfl⟩
    exact ⟨(some v, i), List.mem_zipIdx_iff_getElem?.mpr h1, rfl⟩
theorem jz_has {g : jz_G} {lsA : Array Slot} {nL : Nat} {ls : List (Option jz_V)} (h : jz_Lh g lsA nL ls) : lv_has lsA nL (jz_as g ls) := by
  refine ⟨h.1, h.2.1, fun q hq => ?_⟩
  obtain ⟨i, w⟩ := q
  obtain ⟨v, h1, rfl⟩ := jz_as_mem.mp hq
  exact h.2.2 i v h1
/-- the local before i holds no long -/
def jz_nl (ls : List (Option jz_V)) (i : Nat) : Bool := match i with
  | 0 => true
  | i + 1 => match ls[i]? with
    | some (some (.inr (.inl _))) => false
    | _ => true
def jz_c1 (v : jz_V) : Bool := match v with
  | .inr (.inl _) => false
  | _ => true
theorem jz_c1_cat {g : jz_G} {v : jz_V} (h : jz_c1 v = true) : (jz_cv g v).category = 1 := by
  rcases v with z | z | (_ | k)
  · rfl
  · cases h
  · rfl
  · rfl
theorem jz_nl_of {g : jz_G} {ls : List (Option jz_V)} {i j : Nat} {w : jz_V} (h : jz_nl ls i = true) (hj : ls[j]? = some (some w)) (e : j + 1 = i) (hc : (jz_cv g w).category = 2) : False := by
  subst e
  obtain ⟨z, rfl⟩ := jz_cat.mp hc
  simp only [jz_nl, hj] at h
  cases h
theorem jz_Lh_set {g : jz_G} {lsA : Array Slot} {nL i : Nat} {ls : List (Option jz_V)} {v : jz_V} (hn : jz_nl ls i = true) (h : lv_has lsA nL ((i, jz_cv g v) :: (jz_as g ls).filter (fun q => !(q.1 == i) && !(q.1 + 1 == i && q.2.category == 2)))) : jz_Lh g lsA nL (ls.set i (some v)) := by
  refine ⟨h.1, h.2.1, fun j w hj => ?_⟩
  by_cases e : i = j
  · subst e
    rw [List.getElem?_set] at hj
    split at hj
    · split at hj
      · simp only [Option.some.injEq] at hj
        subst hj
        exact h.2.2 (i, jz_cv g v) List.mem_cons_self
      · cases hj
    · exact absurd rfl ‹_›
  · rw [List.getElem?_set_ne e] at hj
    refine h.2.2 (j, jz_cv g w) (List.mem_cons_of_mem _ (List.mem_filter.mpr ⟨jz_as_mem.mpr ⟨w, hj, rfl⟩, ?_⟩))
    have e1 : (j == i) = false := by simp; exact fun q => e q.symm
    have e2 : (j + 1 == i && (jz_cv g w).category == 2) = false := by
      rw [Bool.and_eq_false_iff]
      by_cases q : j + 1 = i
      · right
        simp only [beq_eq_false_iff_ne, ne_eq]
        exact fun hc => jz_nl_of hn hj q hc
      · left
        simpa using q
    simp only [e1, e2]
    rfl
theorem jz_Lh_set2 {g : jz_G} {lsA : Array Slot} {nL i : Nat} {ls : List (Option jz_V)} {v : jz_V} (hn : jz_nl ls i = true) (h : lv_has lsA nL ((i, jz_cv g v) :: (jz_as g ls).filter (fun q => !(q.1 == i) && (!(q.1 == i + 1) && !(q.1 + 1 == i && q.2.category == 2))))) : jz_Lh g lsA nL ((ls.set i (some v)).set (i + 1) none) := by
  refine ⟨h.1, h.2.1, fun j w hj => ?_⟩
  by_cases e1 : i + 1 = j
  · subst e1
    rw [List.getElem?_set] at hj
    split at hj
    · split at hj <;> cases hj
    · exact absurd rfl ‹_›
  · rw [List.getElem?_set_ne e1] at hj
    by_cases e : i = j
    · subst e
      rw [List.getElem?_set] at hj
      split at hj
      · split at hj
        · simp only [Option.some.injEq] at hj
          subst hj
          exact h.2.2 (i, jz_cv g v) List.mem_cons_self
        · cases hj
      · exact absurd rfl ‹_›
    · rw [List.getElem?_set_ne e] at hj
      refine h.2.2 (j, jz_cv g w) (List.mem_cons_of_mem _ (List.mem_filter.mpr ⟨jz_as_mem.mpr ⟨w, hj, rfl⟩, ?_⟩))
      have a1 : (j == i) = false := by simp; exact fun q => e q.symm
      have a2 : (j == i + 1) = false := by simp; exact fun q => e1 q.symm
      have a3 : (j + 1 == i && (jz_cv g w).category == 2) = false := by
        rw [Bool.and_eq_false_iff]
        by_cases q : j + 1 = i
        · right
          simp only [beq_eq_false_iff_ne, ne_eq]
          exact fun hc => jz_nl_of hn hj q hc
        · left
          simpa using q
      simp only [a1, a2, a3]
      rfl
theorem jz_consv {v : jz_V} {st : List jz_V} (h : jz_ok v) (hs : ∀ u ∈ st, jz_ok u) : ∀ u ∈ v :: st, jz_ok u := fun u hu => (List.mem_cons.mp hu).elim (fun q => q ▸ h) (hs u)
theorem jz_hd {v : jz_V} {st : List jz_V} (hs : ∀ u ∈ v :: st, jz_ok u) : jz_ok v := hs v List.mem_cons_self
theorem jz_tl {v : jz_V} {st : List jz_V} (hs : ∀ u ∈ v :: st, jz_ok u) : ∀ u ∈ st, jz_ok u := fun u hu => hs u (List.mem_cons_of_mem _ hu)
theorem jz_setok {ls : List (Option jz_V)} {i : Nat} {v : jz_V} (h : jz_ok v) (hl : ∀ u, some u ∈ ls → jz_ok u) : ∀ u, some u ∈ ls.set i (some v) → jz_ok u := fun u hu => by
  rcases List.mem_or_eq_of_mem_set hu with q | q
  · exact hl u q
  · rw [Option.some.inj q]; exact h
theorem jz_setnone {ls : List (Option jz_V)} {i : Nat} (hl : ∀ u, some u ∈ ls → jz_ok u) : ∀ u, some u ∈ ls.set i none → jz_ok u := fun u hu => by
  rcases List.mem_or_eq_of_mem_set hu with q | q
  · exact hl u q
  · cases q
section NUL
variable {p : Program} {l : Launch} {e : Env} {R : Room} {s : State} {m : MethodId} {args : Array Value} {below : List Frame} {meth : Method} {c : Code} {H : Heap} {locs : List Loc} {cells slots : Nat} {Q : State → Prop}
variable {cc : ByteArray} {pc : Nat} {ls : Array Slot} {rest : List Value}
theorem jz_null1 (hexec : p.tables.exec = Jvm.exec) (hb : c.code = cc) {off : Int} {tgt : Nat} (hdg : decode cc pc = .ok (.ifnull off, 3)) (ht : (pc : Int) + off = (tgt : Int)) (k : W p l e R s m args below meth c H locs cells slots Q (F0 m tgt ls rest)) : W p l e R s m args below meth c H locs cells slots Q (F0 m pc ls (.null :: rest)) := by
  intro T hT X
  obtain ⟨t, a, b⟩ := k T hT X
  refine ⟨t, ?_, b⟩
  jvm_step X.here [X.here.top, hexec, hb, hdg, ht, Value.isRef]
  exact a
theorem jz_null2 (hexec : p.tables.exec = Jvm.exec) (hb : c.code = cc) {off : Int} (hdg : decode cc pc = .ok (.ifnonnull off, 3)) (k : W p l e R s m args below meth c H locs cells slots Q (F0 m (pc + 3) ls rest)) : W p l e R s m args below meth c H locs cells slots Q (F0 m pc ls (.null :: rest)) := by
  intro T hT X
  obtain ⟨t, a, b⟩ := k T hT X
  refine ⟨t, ?_, b⟩
  jvm_step X.here [X.here.top, hexec, hb, hdg, Value.isRef]
  exact a
end NUL
section JR
variable {g : jz_G} {x : jz_M} {n0 : Nat} {Q : jz_Q} {pc : Nat} {ls : List (Option jz_V)} {st : List jz_V} {n : Nat} {V : jz_S}
/-- a step that moves no cell and no local -/
theorem jj_step {pc' : Nat} {st' : List jz_V}
    (h : ∀ (p : Program) (e : Env) (R : Room) (s : State) (m : MethodId) (args : Array Value) (below : List Frame) (meth : Method) (c : Code) (Qf : State → Prop) (H : Heap) (locs : List Loc) (cells slots : Nat) (lsA : Array Slot), p.tables.exec = Jvm.exec → c.code = jm_c x → s.vm.findClass (jm_o x) = some m.cls → (∀ w ∈ jz_GW, w.before args s = true) → (∀ v ∈ st, jz_ok v) →
      W p (jz_l g) e R s m args below meth c H locs cells slots Qf (F0 m pc' lsA (st'.map (jz_cv g))) → W p (jz_l g) e R s m args below meth c H locs cells slots Qf (F0 m pc lsA (st.map (jz_cv g))))
    (hok : (∀ v ∈ st, jz_ok v) → ∀ v ∈ st', jz_ok v) (kk : jz_J g x n0 Q pc' ls st' n V) : jz_J g x n0 Q pc ls st n V := by
  intro p e R s m args below meth c Qf C H locs lsA hP hS hn hn2 hL hst hls
  exact h p e R s m args below meth c Qf H locs _ _ lsA C.1 C.2.1 C.2.2.2.1 C.2.2.2.2.1 hst (kk p e R s m args below meth c Qf C H locs lsA hP hS hn hn2 hL (hok hst) hls)
theorem jj_iload_n {k : Fin 4} {z : Int} (hd : decode (jm_c x) pc = .ok (.iload_n k, 1)) (hv : ls[(k : Nat)]? = some (some (ji z))) (kk : jz_J g x n0 Q (pc + 1) ls (ji z :: st) n V) : jz_J g x n0 Q pc ls st n V := by
  intro p e R s m args below meth c Qf C H locs lsA hP hS hn hn2 hL hst hls
  exact lv_iload_n C.1 C.2.1 hd rfl (hL.2.2 _ _ hv) (kk p e R s m args below meth c Qf C H locs lsA hP hS hn hn2 hL (jz_consv (hls _ (List.mem_of_getElem? hv)) hst) hls)
theorem jj_iload {i : Nat} {z : Int} (hd : decode (jm_c x) pc = .ok (.iload i, 2)) (hv : ls[i]? = some (some (ji z))) (kk : jz_J g x n0 Q (pc + 2) ls (ji z :: st) n V) : jz_J g x n0 Q pc ls st n V := by
  intro p e R s m args below meth c Qf C H locs lsA hP hS hn hn2 hL hst hls
  exact lv_iload C.1 C.2.1 hd (hL.2.2 _ _ hv) (kk p e R s m args below meth c Qf C H locs lsA hP hS hn hn2 hL (jz_consv (hls _ (List.mem_of_getElem? hv)) hst) hls)
theorem jj_lload_n {k : Fin 4} {z : Int} (hd : decode (jm_c x) pc = .ok (.lload_n k, 1)) (hv : ls[(k : Nat)]? = some (some (jl z))) (kk : jz_J g x n0 Q (pc + 1) ls (jl z :: st) n V) : jz_J g x n0 Q pc ls st n V := by
  intro p e R s m args below meth c Qf C H locs lsA hP hS hn hn2 hL hst hls
  exact lv_lload_n C.1 C.2.1 hd rfl (hL.2.2 _ _ hv) (kk p e R s m args below meth c Qf C H locs lsA hP hS hn hn2 hL (jz_consv (hls _ (List.mem_of_getElem? hv)) hst) hls)
theorem jj_lload {i : Nat} {z : Int} (hd : decode (jm_c x) pc = .ok (.lload i, 2)) (hv : ls[i]? = some (some (jl z))) (kk : jz_J g x n0 Q (pc + 2) ls (jl z :: st) n V) : jz_J g x n0 Q pc ls st n V := by
  intro p e R s m args below meth c Qf C H locs lsA hP hS hn hn2 hL hst hls
  exact lv_lload C.1 C.2.1 hd (hL.2.2 _ _ hv) (kk p e R s m args below meth c Qf C H locs lsA hP hS hn hn2 hL (jz_consv (hls _ (List.mem_of_getElem? hv)) hst) hls)
theorem jj_aload_n {k : Fin 4} {a : Nat} (hd : decode (jm_c x) pc = .ok (.aload_n k, 1)) (hv : ls[(k : Nat)]? = some (some (jr a))) (kk : jz_J g x n0 Q (pc + 1) ls (jr a :: st) n V) : jz_J g x n0 Q pc ls st n V := by
  intro p e R s m args below meth c Qf C H locs lsA hP hS hn hn2 hL hst hls
  exact lv_aload_n C.1 C.2.1 hd rfl (hL.2.2 _ _ hv) (kk p e R s m args below meth c Qf C H locs lsA hP hS hn hn2 hL (jz_consv (hls _ (List.mem_of_getElem? hv)) hst) hls)
theorem jj_aload {i a : Nat} (hd : decode (jm_c x) pc = .ok (.aload i, 2)) (hv : ls[i]? = some (some (jr a))) (kk : jz_J g x n0 Q (pc + 2) ls (jr a :: st) n V) : jz_J g x n0 Q pc ls st n V := by
  intro p e R s m args below meth c Qf C H locs lsA hP hS hn hn2 hL hst hls
  exact lv_aload C.1 C.2.1 hd (hL.2.2 _ _ hv) (kk p e R s m args below meth c Qf C H locs lsA hP hS hn hn2 hL (jz_consv (hls _ (List.mem_of_getElem? hv)) hst) hls)
theorem jj_istore_n {k : Fin 4} {z : Int} {ls' : List (Option jz_V)} (hd : decode (jm_c x) pc = .ok (.istore_n k, 1)) (hi : (k : Nat) < jm_L x) (hn : jz_nl ls k = true) (hs : ls.set k (some (ji z)) = ls') (kk : jz_J g x n0 Q (pc + 1) ls' st n V) : jz_J g x n0 Q pc ls (ji z :: st) n V := by
  intro p e R s m args below meth c Qf C H locs lsA hP hS hn1 hn2 hL hst hls
  subst hs
  exact lv_istore_n C.1 C.2.1 hd rfl (jz_has hL) hi rfl (fun ls1 h1 => kk p e R s m args below meth c Qf C H locs ls1 hP hS hn1 hn2 (jz_Lh_set (v := ji z) hn h1) (jz_tl hst) (jz_setok (jz_hd hst) hls))
theorem jj_istore {i : Nat} {z : Int} {ls' : List (Option jz_V)} (hd : decode (jm_c x) pc = .ok (.istore i, 2)) (hi : i < jm_L x) (hn : jz_nl ls i = true) (hs : ls.set i (some (ji z)) = ls') (kk : jz_J g x n0 Q (pc + 2) ls' st n V) : jz_J g x n0 Q pc ls (ji z :: st) n V := by
  intro p e R s m args below meth c Qf C H locs lsA hP hS hn1 hn2 hL hst hls
  subst hs
  exact lv_istore C.1 C.2.1 hd (jz_has hL) hi rfl (fun ls1 h1 => kk p e R s m args below meth c Qf C H locs ls1 hP hS hn1 hn2 (jz_Lh_set (v := ji z) hn h1) (jz_tl hst) (jz_setok (jz_hd hst) hls))
theorem jj_astore_n {k : Fin 4} {a : Nat} {ls' : List (Option jz_V)} (hd : decode (jm_c x) pc = .ok (.astore_n k, 1)) (hi : (k : Nat) < jm_L x) (hn : jz_nl ls k = true) (hs : ls.set k (some (jr a)) = ls') (kk : jz_J g x n0 Q (pc + 1) ls' st n V) : jz_J g x n0 Q pc ls (jr a :: st) n V := by
  intro p e R s m args below meth c Qf C H locs lsA hP hS hn1 hn2 hL hst hls
  subst hs
  exact lv_astore_n C.1 C.2.1 hd rfl (jz_has hL) hi rfl (fun ls1 h1 => kk p e R s m args below meth c Qf C H locs ls1 hP hS hn1 hn2 (jz_Lh_set (v := jr a) hn h1) (jz_tl hst) (jz_setok (jz_hd hst) hls))
theorem jj_astore {i a : Nat} {ls' : List (Option jz_V)} (hd : decode (jm_c x) pc = .ok (.astore i, 2)) (hi : i < jm_L x) (hn : jz_nl ls i = true) (hs : ls.set i (some (jr a)) = ls') (kk : jz_J g x n0 Q (pc + 2) ls' st n V) : jz_J g x n0 Q pc ls (jr a :: st) n V := by
  intro p e R s m args below meth c Qf C H locs lsA hP hS hn1 hn2 hL hst hls
  subst hs
  exact lv_astore C.1 C.2.1 hd (jz_has hL) hi rfl (fun ls1 h1 => kk p e R s m args below meth c Qf C H locs ls1 hP hS hn1 hn2 (jz_Lh_set (v := jr a) hn h1) (jz_tl hst) (jz_setok (jz_hd hst) hls))
theorem jj_lstore_n {k : Fin 4} {z : Int} {ls' : List (Option jz_V)} (hd : decode (jm_c x) pc = .ok (.lstore_n k, 1)) (hi : (k : Nat) + 1 < jm_L x) (hn : jz_nl ls k = true) (hs : (ls.set k (some (jl z))).set ((k : Nat) + 1) none = ls') (kk : jz_J g x n0 Q (pc + 1) ls' st n V) : jz_J g x n0 Q pc ls (jl z :: st) n V := by
  intro p e R s m args below meth c Qf C H locs lsA hP hS hn1 hn2 hL hst hls
  subst hs
  exact lv_lstore_n C.1 C.2.1 hd rfl (jz_has hL) hi rfl (fun ls1 h1 => kk p e R s m args below meth c Qf C H locs ls1 hP hS hn1 hn2 (jz_Lh_set2 (v := jl z) hn h1) (jz_tl hst) (jz_setnone (jz_setok (jz_hd hst) hls)))
theorem jj_lstore {i : Nat} {z : Int} {ls' : List (Option jz_V)} (hd : decode (jm_c x) pc = .ok (.lstore i, 2)) (hi : i + 1 < jm_L x) (hn : jz_nl ls i = true) (hs : (ls.set i (some (jl z))).set (i + 1) none = ls') (kk : jz_J g x n0 Q (pc + 2) ls' st n V) : jz_J g x n0 Q pc ls (jl z :: st) n V := by
  intro p e R s m args below meth c Qf C H locs lsA hP hS hn1 hn2 hL hst hls
  subst hs
  exact lv_lstore C.1 C.2.1 hd (jz_has hL) hi rfl (fun ls1 h1 => kk p e R s m args below meth c Qf C H locs ls1 hP hS hn1 hn2 (jz_Lh_set2 (v := jl z) hn h1) (jz_tl hst) (jz_setnone (jz_setok (jz_hd hst) hls)))
theorem jj_iinc {i : Nat} {z c0 : Int} {ls' : List (Option jz_V)} (hd : decode (jm_c x) pc = .ok (.iinc i c0, 3)) (hv : ls[i]? = some (some (ji z))) (hi : i < jm_L x) (hn : jz_nl ls i = true) (hr : jI (z + c0)) (hs : ls.set i (some (ji (z + c0))) = ls') (kk : jz_J g x n0 Q (pc + 3) ls' st n V) : jz_J g x n0 Q pc ls st n V := by
  intro p e R s m args below meth c Qf C H locs lsA hP hS hn1 hn2 hL hst hls
  subst hs
  obtain ⟨k, hk⟩ := List.getElem?_of_mem (jz_as_mem (g := g).mpr ⟨ji z, hv, rfl⟩)
  exact lv_iinc C.1 C.2.1 hd (jz_has hL) hk (v := Int32.ofInt (z + c0)) (Int32.ofInt_add z c0).symm hi rfl (fun ls1 h1 => kk p e R s m args below meth c Qf C H locs ls1 hP hS hn1 hn2 (jz_Lh_set (v := ji (z + c0)) hn h1) hst (jz_setok (v := ji (z + c0)) hr hls))
theorem jj_iconst {c0 : Int} (hd : decode (jm_c x) pc = .ok (.iconst c0, 1)) (hr : jI c0 := by decide) (kk : jz_J g x n0 Q (pc + 1) ls (ji c0 :: st) n V) : jz_J g x n0 Q pc ls st n V :=
  jj_step (fun _ _ _ _ _ _ _ _ _ _ _ _ _ _ _ hx hb _ _ _ k => lv_iconst hx hb hd rfl k) (jz_consv (v := ji c0) hr) kk
theorem jj_bipush {c0 : Int} (hd : decode (jm_c x) pc = .ok (.bipush c0, 2)) (hv : (Int8.ofInt c0).toInt32 = Int32.ofInt c0 := by decide +kernel) (hr : jI c0 := by decide) (kk : jz_J g x n0 Q (pc + 2) ls (ji c0 :: st) n V) : jz_J g x n0 Q pc ls st n V :=
  jj_step (fun _ _ _ _ _ _ _ _ _ _ _ _ _ _ _ hx hb _ _ _ k => lv_bipush hx hb hd hv k) (jz_consv (v := ji c0) hr) kk
theorem jj_sipush {c0 : Int} (hd : decode (jm_c x) pc = .ok (.sipush c0, 3)) (hv : (Int16.ofInt c0).toInt32 = Int32.ofInt c0 := by decide +kernel) (hr : jI c0 := by decide) (kk : jz_J g x n0 Q (pc + 3) ls (ji c0 :: st) n V) : jz_J g x n0 Q pc ls st n V :=
  jj_step (fun _ _ _ _ _ _ _ _ _ _ _ _ _ _ _ hx hb _ _ _ k => lv_sipush hx hb hd hv k) (jz_consv (v := ji c0) hr) kk
theorem jj_lconst {c0 : Fin 2} {z : Int} (hd : decode (jm_c x) pc = .ok (.lconst c0, 1)) (hz : (c0 : Nat) = z := by rfl) (hr : jL z := by decide) (kk : jz_J g x n0 Q (pc + 1) ls (jl z :: st) n V) : jz_J g x n0 Q pc ls st n V :=
  jj_step (fun _ _ _ _ _ _ _ _ _ _ _ _ _ _ _ hx hb _ _ _ k => lv_lconst hx hb hd (v := Int64.ofInt z) (by rw [← hz, Int64.ofInt_eq_ofNat]) k) (jz_consv (v := jl z) hr) kk
theorem jj_ldc {idx : Nat} {z : Int} (hd : decode (jm_c x) pc = .ok (.ldc idx, 2)) (hw : Cond.constant (jm_o x) idx (Int32.ofInt z) ∈ jz_GW) (hr : jI z := by decide) (kk : jz_J g x n0 Q (pc + 2) ls (ji z :: st) n V) : jz_J g x n0 Q pc ls st n V :=
  jj_step (fun _ _ _ _ _ _ _ _ _ _ _ _ _ _ _ hx hb ho ht _ k => lv_ldc hx hb ho (ht _ hw) hd k) (jz_consv (v := ji z) hr) kk
theorem jj_ldcw {idx : Nat} {z : Int} (hd : decode (jm_c x) pc = .ok (.ldc_w idx, 3)) (hw : Cond.constant (jm_o x) idx (Int32.ofInt z) ∈ jz_GW) (hr : jI z := by decide) (kk : jz_J g x n0 Q (pc + 3) ls (ji z :: st) n V) : jz_J g x n0 Q pc ls st n V :=
  jj_step (fun _ _ _ _ _ _ _ _ _ _ _ _ _ _ _ hx hb ho ht _ k => lv_ldcw hx hb ho (ht _ hw) hd k) (jz_consv (v := ji z) hr) kk
theorem jj_ldc2 {idx : Nat} {z : Int} (hd : decode (jm_c x) pc = .ok (.ldc2_w idx, 3)) (hw : Cond.constantLong (jm_o x) idx (Int64.ofInt z) ∈ jz_GW) (hr : jL z := by decide) (kk : jz_J g x n0 Q (pc + 3) ls (jl z :: st) n V) : jz_J g x n0 Q pc ls st n V :=
  jj_step (fun _ _ _ _ _ _ _ _ _ _ _ _ _ _ _ hx hb ho ht _ k => lv_ldc2 hx hb ho (ht _ hw) hd k) (jz_consv (v := jl z) hr) kk
theorem jj_null (hd : decode (jm_c x) pc = .ok (.aconst_null, 1)) (kk : jz_J g x n0 Q (pc + 1) ls (jn :: st) n V) : jz_J g x n0 Q pc ls st n V :=
  jj_step (fun _ _ _ _ _ _ _ _ _ _ _ _ _ _ _ hx hb _ _ _ k => lv_null hx hb hd k) (jz_consv (v := jn) trivial) kk
theorem jj_iadd {a b : Int} (hd : decode (jm_c x) pc = .ok (.iadd, 1)) (hr : jI (a + b)) (kk : jz_J g x n0 Q (pc + 1) ls (ji (a + b) :: st) n V) : jz_J g x n0 Q pc ls (ji b :: ji a :: st) n V :=
  jj_step (fun _ _ _ _ _ _ _ _ _ _ _ _ _ _ _ hx hb _ _ _ k => lv_iadd hx hb hd (by rw [← Int32.ofInt_add]; exact k)) (fun h => jz_consv (v := ji (a + b)) hr (jz_tl (jz_tl h))) kk
theorem jj_isub {a b : Int} (hd : decode (jm_c x) pc = .ok (.isub, 1)) (hr : jI (a - b)) (kk : jz_J g x n0 Q (pc + 1) ls (ji (a - b) :: st) n V) : jz_J g x n0 Q pc ls (ji b :: ji a :: st) n V :=
  jj_step (fun _ _ _ _ _ _ _ _ _ _ _ _ _ _ _ hx hb _ _ _ k => lv_isub hx hb hd (by rw [← Int32.ofInt_sub]; exact k)) (fun h => jz_consv (v := ji (a - b)) hr (jz_tl (jz_tl h))) kk
theorem jj_imul {a b : Int} (hd : decode (jm_c x) pc = .ok (.imul, 1)) (hr : jI (a * b)) (kk : jz_J g x n0 Q (pc + 1) ls (ji (a * b) :: st) n V) : jz_J g x n0 Q pc ls (ji b :: ji a :: st) n V :=
  jj_step (fun _ _ _ _ _ _ _ _ _ _ _ _ _ _ _ hx hb _ _ _ k => lv_imul hx hb hd (by rw [← Int32.ofInt_mul]; exact k)) (fun h => jz_consv (v := ji (a * b)) hr (jz_tl (jz_tl h))) kk
theorem jj_ineg {a : Int} (hd : decode (jm_c x) pc = .ok (.ineg, 1)) (hr : jI (-a)) (kk : jz_J g x n0 Q (pc + 1) ls (ji (-a) :: st) n V) : jz_J g x n0 Q pc ls (ji a :: st) n V :=
  jj_step (fun _ _ _ _ _ _ _ _ _ _ _ _ _ _ _ hx hb _ _ _ k => lv_ineg hx hb hd (by rw [← Int32.ofInt_neg]; exact k)) (fun h => jz_consv (v := ji (-a)) hr (jz_tl h)) kk
theorem jz_tdI {a b : Int} (ha : jI a) (hb : jI b) : Int32.ofInt a / Int32.ofInt b = Int32.ofInt (a.tdiv b) :=
  (Int32.ofInt_tdiv (by rw [Int32.toInt_minValue]; omega) (by rw [Int32.toInt_maxValue]; omega) (by rw [Int32.toInt_minValue]; omega) (by rw [Int32.toInt_maxValue]; omega)).symm
theorem jz_tdL {a b : Int} (ha : jL a) (hb : jL b) : Int64.ofInt a / Int64.ofInt b = Int64.ofInt (a.tdiv b) :=
  (Int64.ofInt_tdiv (by rw [Int64.toInt_minValue]; omega) (by rw [Int64.toInt_maxValue]; omega) (by rw [Int64.toInt_minValue]; omega) (by rw [Int64.toInt_maxValue]; omega)).symm
theorem jz_ne0 {b : Int} (hb : jI b) (h : b ≠ 0) : ¬ Int32.ofInt b = 0 := fun q => h ((jz_eqI hb (by decide)).mp (q.trans jz_o0.symm))
theorem jz_ne0L {b : Int} (hb : jL b) (h : b ≠ 0) : ¬ Int64.ofInt b = 0 := fun q => h ((jz_eqL hb (by decide)).mp (q.trans (rfl : Int64.ofInt 0 = 0).symm))
theorem jj_idiv {a b : Int} (hd : decode (jm_c x) pc = .ok (.idiv, 1)) (hb0 : b ≠ 0) (hr : jI (a.tdiv b)) (kk : jz_J g x n0 Q (pc + 1) ls (ji (a.tdiv b) :: st) n V) : jz_J g x n0 Q pc ls (ji b :: ji a :: st) n V :=
  jj_step (fun _ _ _ _ _ _ _ _ _ _ _ _ _ _ _ hx hb _ _ hs k => lv_idiv hx hb hd (jz_ne0 (jz_hd hs) hb0) (by rw [jz_tdI (jz_hd (jz_tl hs)) (jz_hd hs)]; exact k)) (fun h => jz_consv (v := ji (a.tdiv b)) hr (jz_tl (jz_tl h))) kk
theorem jj_irem {a b : Int} (hd : decode (jm_c x) pc = .ok (.irem, 1)) (hb0 : b ≠ 0) (hr : jI (a.tmod b)) (kk : jz_J g x n0 Q (pc + 1) ls (ji (a.tmod b) :: st) n V) : jz_J g x n0 Q pc ls (ji b :: ji a :: st) n V :=
  jj_step (fun _ _ _ _ _ _ _ _ _ _ _ _ _ _ _ hx hb _ _ hs k => lv_irem hx hb hd (jz_ne0 (jz_hd hs) hb0) (by
    rw [jz_tdI (jz_hd (jz_tl hs)) (jz_hd hs), ← Int32.ofInt_mul, ← Int32.ofInt_sub]
    rw [show a - a.tdiv b * b = a.tmod b by rw [Int.tmod_def, Int.mul_comm]]
    exact k)) (fun h => jz_consv (v := ji (a.tmod b)) hr (jz_tl (jz_tl h))) kk
theorem jj_ladd {a b : Int} (hd : decode (jm_c x) pc = .ok (.ladd, 1)) (hr : jL (a + b)) (kk : jz_J g x n0 Q (pc + 1) ls (jl (a + b) :: st) n V) : jz_J g x n0 Q pc ls (jl b :: jl a :: st) n V :=
  jj_step (fun _ _ _ _ _ _ _ _ _ _ _ _ _ _ _ hx hb _ _ _ k => lv_ladd hx hb hd (by rw [← Int64.ofInt_add]; exact k)) (fun h => jz_consv (v := jl (a + b)) hr (jz_tl (jz_tl h))) kk
theorem jj_lsub {a b : Int} (hd : decode (jm_c x) pc = .ok (.lsub, 1)) (hr : jL (a - b)) (kk : jz_J g x n0 Q (pc + 1) ls (jl (a - b) :: st) n V) : jz_J g x n0 Q pc ls (jl b :: jl a :: st) n V :=
  jj_step (fun _ _ _ _ _ _ _ _ _ _ _ _ _ _ _ hx hb _ _ _ k => lv_lsub hx hb hd (by rw [← Int64.ofInt_sub]; exact k)) (fun h => jz_consv (v := jl (a - b)) hr (jz_tl (jz_tl h))) kk
theorem jj_lmul {a b : Int} (hd : decode (jm_c x) pc = .ok (.lmul, 1)) (hr : jL (a * b)) (kk : jz_J g x n0 Q (pc + 1) ls (jl (a * b) :: st) n V) : jz_J g x n0 Q pc ls (jl b :: jl a :: st) n V :=
  jj_step (fun _ _ _ _ _ _ _ _ _ _ _ _ _ _ _ hx hb _ _ _ k => lv_lmul hx hb hd (by rw [← Int64.ofInt_mul]; exact k)) (fun h => jz_consv (v := jl (a * b)) hr (jz_tl (jz_tl h))) kk
theorem jj_ldiv {a b : Int} (hd : decode (jm_c x) pc = .ok (.ldiv, 1)) (hb0 : b ≠ 0) (hr : jL (a.tdiv b)) (kk : jz_J g x n0 Q (pc + 1) ls (jl (a.tdiv b) :: st) n V) : jz_J g x n0 Q pc ls (jl b :: jl a :: st) n V :=
  jj_step (fun _ _ _ _ _ _ _ _ _ _ _ _ _ _ _ hx hb _ _ hs k => lv_ldiv hx hb hd (jz_ne0L (jz_hd hs) hb0) (by rw [jz_tdL (jz_hd (jz_tl hs)) (jz_hd hs)]; exact k)) (fun h => jz_consv (v := jl (a.tdiv b)) hr (jz_tl (jz_tl h))) kk
theorem jj_lrem {a b : Int} (hd : decode (jm_c x) pc = .ok (.lrem, 1)) (hb0 : b ≠ 0) (hr : jL (a.tmod b)) (kk : jz_J g x n0 Q (pc + 1) ls (jl (a.tmod b) :: st) n V) : jz_J g x n0 Q pc ls (jl b :: jl a :: st) n V :=
  jj_step (fun _ _ _ _ _ _ _ _ _ _ _ _ _ _ _ hx hb _ _ hs k => lv_lrem hx hb hd (jz_ne0L (jz_hd hs) hb0) (by
    rw [jz_tdL (jz_hd (jz_tl hs)) (jz_hd hs), ← Int64.ofInt_mul, ← Int64.ofInt_sub]
    rw [show a - a.tdiv b * b = a.tmod b by rw [Int.tmod_def, Int.mul_comm]]
    exact k)) (fun h => jz_consv (v := jl (a.tmod b)) hr (jz_tl (jz_tl h))) kk
theorem jj_iand {a b : Int} (hd : decode (jm_c x) pc = .ok (.iand, 1)) (kk : jz_J g x n0 Q (pc + 1) ls (ji (jand a b) :: st) n V) : jz_J g x n0 Q pc ls (ji b :: ji a :: st) n V :=
  jj_step (fun _ _ _ _ _ _ _ _ _ _ _ _ _ _ _ hx hb _ _ _ k => lv_iand hx hb hd (by rw [← Int32.ofInt_toInt (Int32.ofInt a &&& Int32.ofInt b)]; exact k)) (fun h => jz_consv (v := ji (jand a b)) (jz_rng _) (jz_tl (jz_tl h))) kk
theorem jj_ior {a b : Int} (hd : decode (jm_c x) pc = .ok (.ior, 1)) (kk : jz_J g x n0 Q (pc + 1) ls (ji (jor a b) :: st) n V) : jz_J g x n0 Q pc ls (ji b :: ji a :: st) n V :=
  jj_step (fun _ _ _ _ _ _ _ _ _ _ _ _ _ _ _ hx hb _ _ _ k => lv_ior hx hb hd (by rw [← Int32.ofInt_toInt (Int32.ofInt a ||| Int32.ofInt b)]; exact k)) (fun h => jz_consv (v := ji (jor a b)) (jz_rng _) (jz_tl (jz_tl h))) kk
theorem jj_ixor {a b : Int} (hd : decode (jm_c x) pc = .ok (.ixor, 1)) (kk : jz_J g x n0 Q (pc + 1) ls (ji (jxor a b) :: st) n V) : jz_J g x n0 Q pc ls (ji b :: ji a :: st) n V :=
  jj_step (fun _ _ _ _ _ _ _ _ _ _ _ _ _ _ _ hx hb _ _ _ k => lv_ixor hx hb hd (by rw [← Int32.ofInt_toInt (Int32.ofInt a ^^^ Int32.ofInt b)]; exact k)) (fun h => jz_consv (v := ji (jxor a b)) (jz_rng _) (jz_tl (jz_tl h))) kk
theorem jj_ishl {a b : Int} (hd : decode (jm_c x) pc = .ok (.ishl, 1)) (kk : jz_J g x n0 Q (pc + 1) ls (ji (jshl a b) :: st) n V) : jz_J g x n0 Q pc ls (ji b :: ji a :: st) n V :=
  jj_step (fun _ _ _ _ _ _ _ _ _ _ _ _ _ _ _ hx hb _ _ _ k => lv_ishl hx hb hd (by rw [← Int32.ofInt_toInt (Int32.ofInt a <<< (Int32.ofInt b &&& 31))]; exact k)) (fun h => jz_consv (v := ji (jshl a b)) (jz_rng _) (jz_tl (jz_tl h))) kk
theorem jj_ishr {a b : Int} (hd : decode (jm_c x) pc = .ok (.ishr, 1)) (kk : jz_J g x n0 Q (pc + 1) ls (ji (jshr a b) :: st) n V) : jz_J g x n0 Q pc ls (ji b :: ji a :: st) n V :=
  jj_step (fun _ _ _ _ _ _ _ _ _ _ _ _ _ _ _ hx hb _ _ _ k => lv_ishr hx hb hd (by rw [← Int32.ofInt_toInt (Int32.ofInt a >>> (Int32.ofInt b &&& 31))]; exact k)) (fun h => jz_consv (v := ji (jshr a b)) (jz_rng _) (jz_tl (jz_tl h))) kk
theorem jj_iushr {a b : Int} (hd : decode (jm_c x) pc = .ok (.iushr, 1)) (kk : jz_J g x n0 Q (pc + 1) ls (ji (jushr a b) :: st) n V) : jz_J g x n0 Q pc ls (ji b :: ji a :: st) n V :=
  jj_step (fun _ _ _ _ _ _ _ _ _ _ _ _ _ _ _ hx hb _ _ _ k => lv_iushr hx hb hd (v := Int32.ofInt (jushr a b)) (by unfold jushr; rw [Int32.ofInt_toInt]) k) (fun h => jz_consv (v := ji (jushr a b)) (jz_rng _) (jz_tl (jz_tl h))) kk
theorem jj_i2b {a : Int} (hd : decode (jm_c x) pc = .ok (.i2b, 1)) (kk : jz_J g x n0 Q (pc + 1) ls (ji (jb a) :: st) n V) : jz_J g x n0 Q pc ls (ji a :: st) n V :=
  jj_step (fun _ _ _ _ _ _ _ _ _ _ _ _ _ _ _ hx hb _ _ _ k => lv_i2b hx hb hd (v := Int32.ofInt (jb a)) (by unfold jb; rw [Int32.ofInt_toInt]) k) (fun h => jz_consv (v := ji (jb a)) (jz_rng _) (jz_tl h)) kk
theorem jj_i2s {a : Int} (hd : decode (jm_c x) pc = .ok (.i2s, 1)) (kk : jz_J g x n0 Q (pc + 1) ls (ji (js a) :: st) n V) : jz_J g x n0 Q pc ls (ji a :: st) n V :=
  jj_step (fun _ _ _ _ _ _ _ _ _ _ _ _ _ _ _ hx hb _ _ _ k => lv_i2s hx hb hd (v := Int32.ofInt (js a)) (by unfold js; rw [Int32.ofInt_toInt]) k) (fun h => jz_consv (v := ji (js a)) (jz_rng _) (jz_tl h)) kk
theorem jj_i2l {a : Int} (hd : decode (jm_c x) pc = .ok (.i2l, 1)) (kk : jz_J g x n0 Q (pc + 1) ls (jl a :: st) n V) : jz_J g x n0 Q pc ls (ji a :: st) n V :=
  jj_step (fun _ _ _ _ _ _ _ _ _ _ _ _ _ _ _ hx hb _ _ hs k => lv_i2l hx hb hd (v := Int64.ofInt a) (by
    have h : jI a := jz_hd hs
    rw [← Int64.toInt_inj, Int32.toInt_toInt64, jz_toInt h, jz_toIntL (by omega)]) k) (fun h => jz_consv (v := jl a) (by have h1 : jI a := jz_hd h; show jL a; omega) (jz_tl h)) kk
theorem jj_l2i {a : Int} (hd : decode (jm_c x) pc = .ok (.l2i, 1)) (hr : jI a) (kk : jz_J g x n0 Q (pc + 1) ls (ji a :: st) n V) : jz_J g x n0 Q pc ls (jl a :: st) n V :=
  jj_step (fun _ _ _ _ _ _ _ _ _ _ _ _ _ _ _ hx hb _ _ _ k => lv_l2i hx hb hd (v := Int32.ofInt a) Int64.toInt32_ofInt k) (fun h => jz_consv (v := ji a) hr (jz_tl h)) kk
theorem jz_lcmp {a b : Int} (ha : jL a) (hb : jL b) : lg_cmp (Int64.ofInt a) (Int64.ofInt b) = Int32.ofInt (jcmp a b) := by
  unfold lg_cmp jcmp
  simp only [gt_iff_lt, jz_ltL hb ha, jz_eqL ha hb]
  split
  · rfl
  · split <;> rfl
theorem jz_cmp_rng (a b : Int) : jI (jcmp a b) := by
  unfold jcmp
  split
  · decide
  · split <;> decide
theorem jj_lcmp {a b : Int} (hd : decode (jm_c x) pc = .ok (.lcmp, 1)) (kk : jz_J g x n0 Q (pc + 1) ls (ji (jcmp a b) :: st) n V) : jz_J g x n0 Q pc ls (jl b :: jl a :: st) n V :=
  jj_step (fun _ _ _ _ _ _ _ _ _ _ _ _ _ _ _ hx hb _ _ hs k => W.lcmp hx hb hd (by rw [jz_lcmp (jz_hd (jz_tl hs)) (jz_hd hs)]; exact k)) (fun h => jz_consv (v := ji (jcmp a b)) (jz_cmp_rng a b) (jz_tl (jz_tl h))) kk
theorem jj_dup {v : jz_V} (hd : decode (jm_c x) pc = .ok (.dup, 1)) (hc : jz_c1 v = true := by rfl) (kk : jz_J g x n0 Q (pc + 1) ls (v :: v :: st) n V) : jz_J g x n0 Q pc ls (v :: st) n V :=
  jj_step (fun _ _ _ _ _ _ _ _ _ _ _ _ _ _ _ hx hb _ _ _ k => lv_dup hx hb hd (jz_c1_cat hc) k) (fun h => jz_consv (jz_hd h) h) kk
theorem jj_pop {v : jz_V} (hd : decode (jm_c x) pc = .ok (.pop, 1)) (hc : jz_c1 v = true := by rfl) (kk : jz_J g x n0 Q (pc + 1) ls st n V) : jz_J g x n0 Q pc ls (v :: st) n V :=
  jj_step (fun _ _ _ _ _ _ _ _ _ _ _ _ _ _ _ hx hb _ _ _ k => lv_pop hx hb hd (jz_c1_cat hc) k) (fun h => jz_tl h) kk
theorem jj_dup_x1 {v w : jz_V} (hd : decode (jm_c x) pc = .ok (.dup_x1, 1)) (hc : jz_c1 v = true := by rfl) (hc2 : jz_c1 w = true := by rfl) (kk : jz_J g x n0 Q (pc + 1) ls (v :: w :: v :: st) n V) : jz_J g x n0 Q pc ls (v :: w :: st) n V :=
  jj_step (fun _ _ _ _ _ _ _ _ _ _ _ _ _ _ _ hx hb _ _ _ k => lv_dup_x1 hx hb hd (jz_c1_cat hc) (jz_c1_cat hc2) k) (fun h => jz_consv (jz_hd h) (jz_consv (jz_hd (jz_tl h)) (jz_consv (jz_hd h) (jz_tl (jz_tl h))))) kk
theorem jj_dup2 {v w : jz_V} (hd : decode (jm_c x) pc = .ok (.dup2, 1)) (hc : jz_c1 v = true := by rfl) (hc2 : jz_c1 w = true := by rfl) (kk : jz_J g x n0 Q (pc + 1) ls (v :: w :: v :: w :: st) n V) : jz_J g x n0 Q pc ls (v :: w :: st) n V :=
  jj_step (fun _ _ _ _ _ _ _ _ _ _ _ _ _ _ _ hx hb _ _ _ k => lv_dup2_11 hx hb hd (jz_c1_cat hc) (jz_c1_cat hc2) k) (fun h => jz_consv (jz_hd h) (jz_consv (jz_hd (jz_tl h)) h)) kk
theorem jj_goto {off : Int} {tgt : Nat} (hd : decode (jm_c x) pc = .ok (.goto off, 3)) (ht : (pc : Int) + off = (tgt : Int)) (kk : jz_J g x n0 Q tgt ls st n V) : jz_J g x n0 Q pc ls st n V :=
  jj_step (fun _ _ _ _ _ _ _ _ _ _ _ _ _ _ _ hx hb _ _ _ k => lv_goto hx hb hd ht k) (fun h => h) kk
theorem jj_icmp_eq {a b : Int} {off : Int} {tgt : Nat} (hd : decode (jm_c x) pc = .ok (.if_icmp .eq off, 3)) (ht : (pc : Int) + off = (tgt : Int)) (kt : a = b → jz_J g x n0 Q tgt ls st n V) (kf : ¬ a = b → jz_J g x n0 Q (pc + 3) ls st n V) : jz_J g x n0 Q pc ls (ji b :: ji a :: st) n V := by
  intro p e R s m args below meth c Qf C H locs lsA hP hS hn hn2 hL hst hls
  have he : (Int32.ofInt a = Int32.ofInt b) ↔ (a = b) := jz_eqI (jz_hd (jz_tl hst)) (jz_hd hst)
  exact lv_icmp_eq C.1 C.2.1 hd ht (fun q => kt (he.mp q) p e R s m args below meth c Qf C H locs lsA hP hS hn hn2 hL (jz_tl (jz_tl hst)) hls) (fun q => kf (fun z => q (he.mpr z)) p e R s m args below meth c Qf C H locs lsA hP hS hn hn2 hL (jz_tl (jz_tl hst)) hls)
theorem jj_if_eq {a : Int} {off : Int} {tgt : Nat} (hd : decode (jm_c x) pc = .ok (.ifCond .eq off, 3)) (ht : (pc : Int) + off = (tgt : Int)) (kt : a = 0 → jz_J g x n0 Q tgt ls st n V) (kf : ¬ a = 0 → jz_J g x n0 Q (pc + 3) ls st n V) : jz_J g x n0 Q pc ls (ji a :: st) n V := by
  intro p e R s m args below meth c Qf C H locs lsA hP hS hn hn2 hL hst hls
  have he : (Int32.ofInt a = Int32.ofInt 0) ↔ (a = 0) := jz_eqI (jz_hd hst) (by decide)
  exact lv_if_eq C.1 C.2.1 hd ht (fun q => kt (he.mp q) p e R s m args below meth c Qf C H locs lsA hP hS hn hn2 hL (jz_tl hst) hls) (fun q => kf (fun z => q (he.mpr z)) p e R s m args below meth c Qf C H locs lsA hP hS hn hn2 hL (jz_tl hst) hls)
theorem jj_icmp_ne {a b : Int} {off : Int} {tgt : Nat} (hd : decode (jm_c x) pc = .ok (.if_icmp .ne off, 3)) (ht : (pc : Int) + off = (tgt : Int)) (kt : ¬ a = b → jz_J g x n0 Q tgt ls st n V) (kf : a = b → jz_J g x n0 Q (pc + 3) ls st n V) : jz_J g x n0 Q pc ls (ji b :: ji a :: st) n V := by
  intro p e R s m args below meth c Qf C H locs lsA hP hS hn hn2 hL hst hls
  have he : (Int32.ofInt a = Int32.ofInt b) ↔ (a = b) := jz_eqI (jz_hd (jz_tl hst)) (jz_hd hst)
  exact lv_icmp_ne C.1 C.2.1 hd ht (fun q => kt (fun z => q (he.mpr z)) p e R s m args below meth c Qf C H locs lsA hP hS hn hn2 hL (jz_tl (jz_tl hst)) hls) (fun q => kf (he.mp q) p e R s m args below meth c Qf C H locs lsA hP hS hn hn2 hL (jz_tl (jz_tl hst)) hls)
theorem jj_if_ne {a : Int} {off : Int} {tgt : Nat} (hd : decode (jm_c x) pc = .ok (.ifCond .ne off, 3)) (ht : (pc : Int) + off = (tgt : Int)) (kt : ¬ a = 0 → jz_J g x n0 Q tgt ls st n V) (kf : a = 0 → jz_J g x n0 Q (pc + 3) ls st n V) : jz_J g x n0 Q pc ls (ji a :: st) n V := by
  intro p e R s m args below meth c Qf C H locs lsA hP hS hn hn2 hL hst hls
  have he : (Int32.ofInt a = Int32.ofInt 0) ↔ (a = 0) := jz_eqI (jz_hd hst) (by decide)
  exact lv_if_ne C.1 C.2.1 hd ht (fun q => kt (fun z => q (he.mpr z)) p e R s m args below meth c Qf C H locs lsA hP hS hn hn2 hL (jz_tl hst) hls) (fun q => kf (he.mp q) p e R s m args below meth c Qf C H locs lsA hP hS hn hn2 hL (jz_tl hst) hls)
theorem jj_icmp_lt {a b : Int} {off : Int} {tgt : Nat} (hd : decode (jm_c x) pc = .ok (.if_icmp .lt off, 3)) (ht : (pc : Int) + off = (tgt : Int)) (kt : a < b → jz_J g x n0 Q tgt ls st n V) (kf : b ≤ a → jz_J g x n0 Q (pc + 3) ls st n V) : jz_J g x n0 Q pc ls (ji b :: ji a :: st) n V := by
  intro p e R s m args below meth c Qf C H locs lsA hP hS hn hn2 hL hst hls
  have he : (Int32.ofInt a < Int32.ofInt b) ↔ (a < b) := jz_ltI (jz_hd (jz_tl hst)) (jz_hd hst)
  exact lv_icmp_lt C.1 C.2.1 hd ht (fun q => kt (he.mp q) p e R s m args below meth c Qf C H locs lsA hP hS hn hn2 hL (jz_tl (jz_tl hst)) hls) (fun q => kf (Int.not_lt.mp (fun z => q (he.mpr z))) p e R s m args below meth c Qf C H locs lsA hP hS hn hn2 hL (jz_tl (jz_tl hst)) hls)
theorem jj_if_lt {a : Int} {off : Int} {tgt : Nat} (hd : decode (jm_c x) pc = .ok (.ifCond .lt off, 3)) (ht : (pc : Int) + off = (tgt : Int)) (kt : a < 0 → jz_J g x n0 Q tgt ls st n V) (kf : 0 ≤ a → jz_J g x n0 Q (pc + 3) ls st n V) : jz_J g x n0 Q pc ls (ji a :: st) n V := by
  intro p e R s m args below meth c Qf C H locs lsA hP hS hn hn2 hL hst hls
  have he : (Int32.ofInt a < Int32.ofInt 0) ↔ (a < 0) := jz_ltI (jz_hd hst) (by decide)
  exact lv_if_lt C.1 C.2.1 hd ht (fun q => kt (he.mp q) p e R s m args below meth c Qf C H locs lsA hP hS hn hn2 hL (jz_tl hst) hls) (fun q => kf (Int.not_lt.mp (fun z => q (he.mpr z))) p e R s m args below meth c Qf C H locs lsA hP hS hn hn2 hL (jz_tl hst) hls)
theorem jj_icmp_ge {a b : Int} {off : Int} {tgt : Nat} (hd : decode (jm_c x) pc = .ok (.if_icmp .ge off, 3)) (ht : (pc : Int) + off = (tgt : Int)) (kt : b ≤ a → jz_J g x n0 Q tgt ls st n V) (kf : a < b → jz_J g x n0 Q (pc + 3) ls st n V) : jz_J g x n0 Q pc ls (ji b :: ji a :: st) n V := by
  intro p e R s m args below meth c Qf C H locs lsA hP hS hn hn2 hL hst hls
  have he : (Int32.ofInt b ≤ Int32.ofInt a) ↔ (b ≤ a) := jz_leI (jz_hd hst) (jz_hd (jz_tl hst))
  exact lv_icmp_ge C.1 C.2.1 hd ht (fun q => kt (he.mp q) p e R s m args below meth c Qf C H locs lsA hP hS hn hn2 hL (jz_tl (jz_tl hst)) hls) (fun q => kf (Int.not_le.mp (fun z => q (he.mpr z))) p e R s m args below meth c Qf C H locs lsA hP hS hn hn2 hL (jz_tl (jz_tl hst)) hls)
theorem jj_if_ge {a : Int} {off : Int} {tgt : Nat} (hd : decode (jm_c x) pc = .ok (.ifCond .ge off, 3)) (ht : (pc : Int) + off = (tgt : Int)) (kt : 0 ≤ a → jz_J g x n0 Q tgt ls st n V) (kf : a < 0 → jz_J g x n0 Q (pc + 3) ls st n V) : jz_J g x n0 Q pc ls (ji a :: st) n V := by
  intro p e R s m args below meth c Qf C H locs lsA hP hS hn hn2 hL hst hls
  have he : (Int32.ofInt 0 ≤ Int32.ofInt a) ↔ (0 ≤ a) := jz_leI (by decide) (jz_hd hst)
  exact lv_if_ge C.1 C.2.1 hd ht (fun q => kt (he.mp q) p e R s m args below meth c Qf C H locs lsA hP hS hn hn2 hL (jz_tl hst) hls) (fun q => kf (Int.not_le.mp (fun z => q (he.mpr z))) p e R s m args below meth c Qf C H locs lsA hP hS hn hn2 hL (jz_tl hst) hls)
theorem jj_icmp_gt {a b : Int} {off : Int} {tgt : Nat} (hd : decode (jm_c x) pc = .ok (.if_icmp .gt off, 3)) (ht : (pc : Int) + off = (tgt : Int)) (kt : b < a → jz_J g x n0 Q tgt ls st n V) (kf : a ≤ b → jz_J g x n0 Q (pc + 3) ls st n V) : jz_J g x n0 Q pc ls (ji b :: ji a :: st) n V := by
  intro p e R s m args below meth c Qf C H locs lsA hP hS hn hn2 hL hst hls
  have he : (Int32.ofInt b < Int32.ofInt a) ↔ (b < a) := jz_ltI (jz_hd hst) (jz_hd (jz_tl hst))
  exact lv_icmp_gt C.1 C.2.1 hd ht (fun q => kt (he.mp q) p e R s m args below meth c Qf C H locs lsA hP hS hn hn2 hL (jz_tl (jz_tl hst)) hls) (fun q => kf (Int.not_lt.mp (fun z => q (he.mpr z))) p e R s m args below meth c Qf C H locs lsA hP hS hn hn2 hL (jz_tl (jz_tl hst)) hls)
theorem jj_if_gt {a : Int} {off : Int} {tgt : Nat} (hd : decode (jm_c x) pc = .ok (.ifCond .gt off, 3)) (ht : (pc : Int) + off = (tgt : Int)) (kt : 0 < a → jz_J g x n0 Q tgt ls st n V) (kf : a ≤ 0 → jz_J g x n0 Q (pc + 3) ls st n V) : jz_J g x n0 Q pc ls (ji a :: st) n V := by
  intro p e R s m args below meth c Qf C H locs lsA hP hS hn hn2 hL hst hls
  have he : (Int32.ofInt 0 < Int32.ofInt a) ↔ (0 < a) := jz_ltI (by decide) (jz_hd hst)
  exact lv_if_gt C.1 C.2.1 hd ht (fun q => kt (he.mp q) p e R s m args below meth c Qf C H locs lsA hP hS hn hn2 hL (jz_tl hst) hls) (fun q => kf (Int.not_lt.mp (fun z => q (he.mpr z))) p e R s m args below meth c Qf C H locs lsA hP hS hn hn2 hL (jz_tl hst) hls)
theorem jj_icmp_le {a b : Int} {off : Int} {tgt : Nat} (hd : decode (jm_c x) pc = .ok (.if_icmp .le off, 3)) (ht : (pc : Int) + off = (tgt : Int)) (kt : a ≤ b → jz_J g x n0 Q tgt ls st n V) (kf : b < a → jz_J g x n0 Q (pc + 3) ls st n V) : jz_J g x n0 Q pc ls (ji b :: ji a :: st) n V := by
  intro p e R s m args below meth c Qf C H locs lsA hP hS hn hn2 hL hst hls
  have he : (Int32.ofInt a ≤ Int32.ofInt b) ↔ (a ≤ b) := jz_leI (jz_hd (jz_tl hst)) (jz_hd hst)
  exact lv_icmp_le C.1 C.2.1 hd ht (fun q => kt (he.mp q) p e R s m args below meth c Qf C H locs lsA hP hS hn hn2 hL (jz_tl (jz_tl hst)) hls) (fun q => kf (Int.not_le.mp (fun z => q (he.mpr z))) p e R s m args below meth c Qf C H locs lsA hP hS hn hn2 hL (jz_tl (jz_tl hst)) hls)
theorem jj_if_le {a : Int} {off : Int} {tgt : Nat} (hd : decode (jm_c x) pc = .ok (.ifCond .le off, 3)) (ht : (pc : Int) + off = (tgt : Int)) (kt : a ≤ 0 → jz_J g x n0 Q tgt ls st n V) (kf : 0 < a → jz_J g x n0 Q (pc + 3) ls st n V) : jz_J g x n0 Q pc ls (ji a :: st) n V := by
  intro p e R s m args below meth c Qf C H locs lsA hP hS hn hn2 hL hst hls
  have he : (Int32.ofInt a ≤ Int32.ofInt 0) ↔ (a ≤ 0) := jz_leI (jz_hd hst) (by decide)
  exact lv_if_le C.1 C.2.1 hd ht (fun q => kt (he.mp q) p e R s m args below meth c Qf C H locs lsA hP hS hn hn2 hL (jz_tl hst) hls) (fun q => kf (Int.not_le.mp (fun z => q (he.mpr z))) p e R s m args below meth c Qf C H locs lsA hP hS hn hn2 hL (jz_tl hst) hls)
theorem jj_ifnull {o : Option Nat} {off : Int} {tgt : Nat} (hd : decode (jm_c x) pc = .ok (.ifnull off, 3)) (ht : (pc : Int) + off = (tgt : Int)) (kt : o = none → jz_J g x n0 Q tgt ls st n V) (kf : ∀ a, o = some a → jz_J g x n0 Q (pc + 3) ls st n V) : jz_J g x n0 Q pc ls (.inr (.inr o) :: st) n V := by
  intro p e R s m args below meth c Qf C H locs lsA hP hS hn hn2 hL hst hls
  rcases o with _ | a
  · exact jz_null1 C.1 C.2.1 hd ht (kt rfl p e R s m args below meth c Qf C H locs lsA hP hS hn hn2 hL (jz_tl hst) hls)
  · exact lv_ifnull C.1 C.2.1 hd (kf a rfl p e R s m args below meth c Qf C H locs lsA hP hS hn hn2 hL (jz_tl hst) hls)
theorem jj_ifnonnull {o : Option Nat} {off : Int} {tgt : Nat} (hd : decode (jm_c x) pc = .ok (.ifnonnull off, 3)) (ht : (pc : Int) + off = (tgt : Int)) (kt : ∀ a, o = some a → jz_J g x n0 Q tgt ls st n V) (kf : o = none → jz_J g x n0 Q (pc + 3) ls st n V) : jz_J g x n0 Q pc ls (.inr (.inr o) :: st) n V := by
  intro p e R s m args below meth c Qf C H locs lsA hP hS hn hn2 hL hst hls
  rcases o with _ | a
  · exact jz_null2 C.1 C.2.1 hd (kf rfl p e R s m args below meth c Qf C H locs lsA hP hS hn hn2 hL (jz_tl hst) hls)
  · exact lv_ifnonnull C.1 C.2.1 hd ht (kt a rfl p e R s m args below meth c Qf C H locs lsA hP hS hn hn2 hL (jz_tl hst) hls)
theorem jj_tswO {a dflt lo hi : Int} {offs : Array Int} {len tgt : Nat} (hd : decode (jm_c x) pc = .ok (.tableswitch dflt lo hi offs, len)) (h : a < lo ∨ hi < a) (ht : (pc : Int) + dflt = (tgt : Int)) (kk : jz_J g x n0 Q tgt ls st n V) : jz_J g x n0 Q pc ls (ji a :: st) n V :=
  jj_step (fun _ _ _ _ _ _ _ _ _ _ _ _ _ _ _ hx hb _ _ hs k => lv_tableOut hx hb hd (by rw [jz_toInt (jz_hd hs)]; exact h) ht k) (fun h => jz_tl h) kk
theorem jj_tswI {a dflt lo hi off : Int} {offs : Array Int} {len tgt : Nat} (hd : decode (jm_c x) pc = .ok (.tableswitch dflt lo hi offs, len)) (h1 : ¬ a < lo) (h2 : ¬ hi < a) (ho : offs[(a - lo).toNat]? = some off) (ht : (pc : Int) + off = (tgt : Int)) (kk : jz_J g x n0 Q tgt ls st n V) : jz_J g x n0 Q pc ls (ji a :: st) n V :=
  jj_step (fun _ _ _ _ _ _ _ _ _ _ _ _ _ _ _ hx hb _ _ hs k => lv_tableIn hx hb hd (by rw [jz_toInt (jz_hd hs)]; exact h1) (by rw [jz_toInt (jz_hd hs)]; exact h2) (by rw [jz_toInt (jz_hd hs)]; exact ho) ht k) (fun h => jz_tl h) kk
theorem jj_lsw {a dflt off : Int} {ps : Array (Int × Int)} {len tgt : Nat} (hd : decode (jm_c x) pc = .ok (.lookupswitch dflt ps, len)) (hp : (ps.toList.zip (ps.toList.drop 1)).all (fun (a, next) => a.1 < next.1) = true) (ho : Op.lookupswitch.offset ps.toList dflt a = off) (ht : (pc : Int) + off = (tgt : Int)) (kk : jz_J g x n0 Q tgt ls st n V) : jz_J g x n0 Q pc ls (ji a :: st) n V :=
  jj_step (fun _ _ _ _ _ _ _ _ _ _ _ _ _ _ _ hx hb _ _ hs k => lv_lookup hx hb hd hp (by rw [jz_toInt (jz_hd hs)]; exact ho) ht k) (fun h => jz_tl h) kk
/-- the end -/
theorem jj_ret {v : Option jz_V} {st0 : List jz_V} (hd : decode (jm_c x) pc = .ok (jz_rv v, 1)) (hs : st0 = v.toList) (hr : jz_rok (jm_r x) v) (hn : n = n0 + jm_k x) (hq : (∀ u, v = some u → jz_ok u) → Q v n V) : jz_J g x n0 Q pc ls st0 n V := by
  intro p e R s m args below meth c Qf C H locs lsA hP hS hn1 hn2 hL hst hls
  subst hs
  have hv : ∀ u, v = some u → jz_ok u := fun u hu => hst u (by rw [hu]; exact List.mem_cons_self)
  exact C.2.2.2.2.2.2.2.2.2.2.2 v n V H locs pc lsA hP hS hn hv hr (hq hv) hd
/-- fewer locals known -/
theorem jj_less {ls' : List (Option jz_V)} (h : ∀ (i : Nat) (v : jz_V), ls'[i]? = some (some v) → ls[i]? = some (some v)) (kk : jz_J g x n0 Q pc ls' st n V) : jz_J g x n0 Q pc ls st n V := by
  intro p e R s m args below meth c Qf C H locs lsA hP hS hn1 hn2 hL hst hls
  refine kk p e R s m args below meth c Qf C H locs lsA hP hS hn1 hn2 ⟨hL.1, hL.2.1, fun i v hv => hL.2.2 i v (h i v hv)⟩ hst (fun v hv => ?_)
  obtain ⟨i, hi⟩ := List.getElem?_of_mem hv
  exact hls v (List.mem_of_getElem? (h i v hi))
/-- what is known of the numbers -/
theorem jj_rng (kk : (∀ k i, jz_ok (V k i)) → (∀ v ∈ st, jz_ok v) → (∀ v, some v ∈ ls → jz_ok v) → jz_J g x n0 Q pc ls st n V) : jz_J g x n0 Q pc ls st n V := by
  intro p e R s m args below meth c Qf C H locs lsA hP hS hn1 hn2 hL hst hls
  exact kk hP.2 hst hls p e R s m args below meth c Qf C H locs lsA hP hS hn1 hn2 hL hst hls
theorem jj_mono {Q' : jz_Q} (h : ∀ v n V, Q' v n V → Q v n V) (kk : jz_J g x n0 Q' pc ls st n V) : jz_J g x n0 Q pc ls st n V := by
  intro p e R s m args below meth c Qf C H locs lsA hP hS hn1 hn2 hL hst hls
  refine kk p e R s m args below meth c Qf ⟨C.1, C.2.1, C.2.2.1, C.2.2.2.1, C.2.2.2.2.1, C.2.2.2.2.2.1, C.2.2.2.2.2.2.1, C.2.2.2.2.2.2.2.1, C.2.2.2.2.2.2.2.2.1, C.2.2.2.2.2.2.2.2.2.1, C.2.2.2.2.2.2.2.2.2.2.1, ?_⟩ H locs lsA hP hS hn1 hn2 hL hst hls
  intro v n V H locs pc lsA h1 h2 h3 h4 h5 h6 h7
  exact C.2.2.2.2.2.2.2.2.2.2.2 v n V H locs pc lsA h1 h2 h3 h4 h5 (h v n V h6) h7
end JR
