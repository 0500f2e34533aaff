/-! values -/
abbrev jz_V : Type := Int ⊕ Int ⊕ Option Nat
abbrev ji (z : Int) : jz_V := Sum.inl z
abbrev jl (z : Int) : jz_V := Sum.inr (Sum.inl z)
abbrev jr (k : Nat) : jz_V := Sum.inr (Sum.inr (some k))
abbrev jn : jz_V := Sum.inr (Sum.inr none)
abbrev jI (z : Int) : Prop := -2147483648 ≤ z ∧ z < 2147483648
abbrev jL (z : Int) : Prop := -9223372036854775808 ≤ z ∧ z < 9223372036854775808
def jz_ok (v : jz_V) : Prop := match v with
  | .inl z => jI z
  | .inr (.inl z) => jL z
  | .inr (.inr _) => True
theorem jz_ok_i {z : Int} : jz_ok (ji z) = jI z := rfl
theorem jz_ok_l {z : Int} : jz_ok (jl z) = jL z := rfl
theorem jz_ok_r {o : Option Nat} : jz_ok (Sum.inr (Sum.inr o)) := trivial
/-! the numbers of a run: launch, tables, array classes, first cell, the script's cell, length, contents -/
abbrev jz_G : Type := Launch × va_G × (Nat → ClassId) × Nat × Nat × Nat × (Nat → Int)
def jz_l (g : jz_G) : Launch := g.1
def jz_D (g : jz_G) : va_G := g.2.1
def jz_c (g : jz_G) : Nat → ClassId := g.2.2.1
def jz_B (g : jz_G) : Nat := g.2.2.2.1
def jz_b (g : jz_G) : Nat := g.2.2.2.2.1
def jz_L (g : jz_G) : Nat := g.2.2.2.2.2.1
def jz_x (g : jz_G) : Nat → Int := g.2.2.2.2.2.2
def jz_ad (g : jz_G) (k : Nat) : Nat := if k = 1000 then jz_b g else jz_B g + k
def jz_cv (g : jz_G) (v : jz_V) : Value := match v with
  | .inl z => .int (Int32.ofInt z)
  | .inr (.inl z) => .long (Int64.ofInt z)
  | .inr (.inr none) => .null
  | .inr (.inr (some k)) => .ref (jz_ad g k)
/-! what the cells are: class number, or array kind and length -/
abbrev jz_T : Type := Nat ⊕ (Nat × Nat)
def jz_sqt (r : Nat) : jz_T := if r = 0 then .inl 5 else if r = 1 then .inr (2, 7) else if r = 2 then .inr (3, 4) else if r < 10 then .inl 1 else .inl 0
def jz_loT (k : Nat) : jz_T := match k with
  | 0 => .inl 7
  | 1 => .inr (5, 8)
  | 2 => .inl 6
  | 3 => .inr (0, 120)
  | 4 => .inl 3
  | _ => .inr (4, 24)
def jz_hiT (k : Nat) : jz_T := match k with
  | 0 => .inl 8
  | 1 => .inr (0, 8)
  | 2 => .inr (0, 8)
  | 3 => .inr (0, 320)
  | 4 => .inr (0, 53)
  | 5 => .inr (0, 53)
  | 6 => .inr (0, 53)
  | 7 => .inr (0, 1272)
  | 8 => .inr (0, 120)
  | 9 => .inr (0, 4)
  | 10 => .inr (0, 4)
  | 11 => .inr (1, 2)
  | 12 => .inr (0, 106)
  | 13 => .inr (0, 16)
  | _ => .inr (9, 0)
def jz_t (k : Nat) : jz_T :=
  if k < 6 then jz_loT k
  else if k < 342 then jz_sqt ((k - 6) % 14)
  else if k = 342 then .inl 2
  else if k = 343 then .inr (0, 16)
  else if k < 400 then jz_sqt ((k - 344) % 14)
  else if k < 416 then (if k % 2 = 0 then .inl 4 else .inr (0, 40))
  else jz_hiT (k - 416)
theorem jz_hiT_big (j : Nat) : jz_hiT (j + 14) = .inr (9, 0) := rfl
theorem jz_t_lt {k : Nat} (h : jz_t k ≠ .inr (9, 0)) : k < 430 := by
  rcases Nat.lt_or_ge k 430 with q | q
  · exact q
  · refine absurd ?_ h
    obtain ⟨j, rfl⟩ : ∃ j, k = j + 430 := ⟨k - 430, by omega⟩
    unfold jz_t
    rw [if_neg (by omega), if_neg (by omega), if_neg (by omega), if_neg (by omega), if_neg (by omega), if_neg (by omega), show j + 430 - 416 = j + 14 by omega]
    exact jz_hiT_big j
/-- how many fields -/
def jz_f (ci : Nat) : Nat := match ci with
  | 0 => 5
  | 1 => 7
  | 2 => 2
  | 3 => 3
  | 4 => 4
  | 5 => 8
  | 6 => 7
  | 7 => 10
  | _ => 25
abbrev jz_S : Type := Nat → Nat → jz_V
def jz_toI (v : jz_V) : Int32 := match v with
  | .inl z => Int32.ofInt z
  | _ => 0
def jz_toR (g : jz_G) (v : jz_V) : Option Nat := match v with
  | .inr (.inr (some k)) => some (jz_ad g k)
  | _ => none
def jz_ar (g : jz_G) (t n : Nat) (f : Nat → jz_V) : vp_A := match t with
  | 0 => (n, .inl fun i => jz_toI (f i))
  | 1 => (n, .inl fun i => jz_toI (f i))
  | _ => (n, .inr (.inr (.inr (.inr fun i => jz_toR g (f i)))))
def jz_e (g : jz_G) (V : jz_S) (k : Nat) : va_E := match jz_t k with
  | .inl ci => .inr (ci, (List.range (jz_f ci)).map fun i => jz_cv g (V k i))
  | .inr (t, n) => .inl (jz_c g t, jz_ar g t n (V k))
def jz_w (g : jz_G) (n : Nat) (V : jz_S) : va_W := (List.range n).map fun k => (jz_B g + k, jz_e g V k)
theorem jz_w_at {g : jz_G} {n k : Nat} {V : jz_S} (h : k < n) : (jz_w g n V)[k]? = some (jz_B g + k, jz_e g V k) := by
  simp [jz_w, h]
theorem jz_w_some {g : jz_G} {n k : Nat} {V : jz_S} {q : Nat × va_E} (h : (jz_w g n V)[k]? = some q) : k < n ∧ q = (jz_B g + k, jz_e g V k) := by
  have hk : k < n := by
    have := (List.getElem?_eq_some_iff.mp h).1
    simpa [jz_w] using this
  rw [jz_w_at hk] at h
  exact ⟨hk, (Option.some.inj h).symm⟩
theorem jz_w_set {g : jz_G} {n k : Nat} {V V' : jz_S} {e : va_E} (he : jz_e g V' k = e) (ho : ∀ j, j ≠ k → V' j = V j) : (jz_w g n V).set k (jz_B g + k, e) = jz_w g n V' := by
  apply List.ext_getElem?
  intro j
  by_cases hjn : j < n
  · by_cases hjk : j = k
    · subst hjk
      rw [List.getElem?_set_self (by simpa [jz_w] using hjn), jz_w_at hjn, he]
    · rw [List.getElem?_set_ne (Ne.symm hjk), jz_w_at hjn, jz_w_at hjn]
      simp only [jz_e, ho j hjk]
  · rw [List.getElem?_eq_none (by simp [jz_w]; omega), List.getElem?_eq_none (by simp [jz_w]; omega)]
theorem jz_w_D {g : jz_G} {n : Nat} {V : jz_S} : va_D (fun q => jz_B g ≤ q) (jz_w g n V) := by
  refine ⟨fun i j p q hi hj h => ?_, fun k q h => ?_⟩
  · obtain ⟨-, rfl⟩ := jz_w_some hi
    obtain ⟨-, rfl⟩ := jz_w_some hj
    exact Nat.add_left_cancel h
  · obtain ⟨-, rfl⟩ := jz_w_some h
    exact Nat.le_add_right _ _
theorem jz_w_snoc {g : jz_G} {n : Nat} {V : jz_S} : jz_w g (n + 1) V = jz_w g n V ++ [(jz_B g + n, jz_e g V n)] := by
  simp [jz_w, List.range_succ]
/-! words -/
def jz_GW : List Cond := lw_tbl.filter goodWord
theorem jz_in {w : Cond} (i : Nat) (h : lw_tbl[i]? = some w) (hg : goodWord w = true) : w ∈ jz_GW := List.mem_filter.mpr ⟨List.mem_of_getElem? h, hg⟩
theorem jz_good : ∀ w ∈ jz_GW, (w.onTables && w.keeps) = true ∨ ∃ ty, w = .arrayClass ty := fun w h => good_of_word (List.mem_filter.mp h).2
def jz_isN (w : Cond) : Bool := match w with
  | .fieldLinkNest .. => true
  | .methodLinkNest .. => true
  | .arrayOver (.object _) => true
  | _ => false
def jz_NW : List Cond := lw_tbl.filter jz_isN
theorem jz_inN {w : Cond} (i : Nat) (h : lw_tbl[i]? = some w) (hg : jz_isN w = true) : w ∈ jz_NW := List.mem_filter.mpr ⟨List.mem_of_getElem? h, hg⟩
theorem jz_nw_warm {s U : State} (hW : s.WarmedH U.vm) (h : ∀ w ∈ jz_NW, va_Nw w s) : ∀ w ∈ jz_NW, va_Nw w U := by
  intro w hw
  have h1 := h w hw
  have h2 := (List.mem_filter.mp hw).2
  cases w <;> first | (simp [jz_isN] at h2; done) | exact va_Nw.warmF hW h1 | exact va_Nw.warmM hW h1 | skip
  rename_i ty
  cases ty <;> first | exact va_AO.moved hW.alike h1 | (simp [jz_isN] at h2; done)
/-! a method: class, code, locals, return type, name, depth, cells -/
abbrev jz_M : Type := String × ByteArray × Nat × Option FieldType × MethodName × Nat × Nat
def jm_o (x : jz_M) : String := x.1
def jm_c (x : jz_M) : ByteArray := x.2.1
def jm_L (x : jz_M) : Nat := x.2.2.1
def jm_r (x : jz_M) : Option FieldType := x.2.2.2.1
def jm_y (x : jz_M) : MethodName := x.2.2.2.2.1
def jm_d (x : jz_M) : Nat := x.2.2.2.2.2.1
def jm_k (x : jz_M) : Nat := x.2.2.2.2.2.2
def jm_ws (x : jz_M) : List Cond := Cond.code (jm_y x) (jm_c x) (jm_L x) (jm_r x) :: jz_GW
def jm_rm (x : jz_M) : Room := { frames := jm_d x, cells := jm_k x, slots := 1300 * jm_k x, locals := 64 * jm_d x }
def jz_tys (g : jz_G) : List (ClassId × FieldType) := [(jz_c g 0, .int), (jz_c g 1, .boolean), (jz_c g 2, .object RX1), (jz_c g 3, .object RX0), (jz_c g 4, .object RX5), (jz_c g 5, .object RX4)]
/-- the world -/
def jz_P (g : jz_G) (n : Nat) (V : jz_S) (H : Heap) : Prop := va_P (jz_D g) vwCl (jz_w g n V) H ∧ ∀ k i, jz_ok (V k i)
def jz_A (g : jz_G) : Nat → Prop := fun q => jz_B g ≤ q
def jz_rv (v : Option jz_V) : Instr := match v with
  | none => .return_
  | some (.inl _) => .ireturn
  | some (.inr (.inl _)) => .lreturn
  | some (.inr (.inr _)) => .areturn
def jz_rok (r : Option FieldType) (v : Option jz_V) : Prop := match r, v with
  | none, none => True
  | some .int, some (.inl _) => True
  | some .boolean, some (.inl z) => z = 0 ∨ z = 1
  | some .long, some (.inr (.inl _)) => True
  | some (.object _), some (.inr (.inr _)) => True
  | _, _ => False
abbrev jz_Q : Type := Option jz_V → Nat → jz_S → Prop
def jz_Lh (g : jz_G) (lsA : Array Slot) (nL : Nat) (ls : List (Option jz_V)) : Prop := lsA.size = nL ∧ lv_wf lsA ∧ ∀ (i : Nat) (v : jz_V), ls[i]? = some (some v) → lsA[i]? = some (.val (jz_cv g v))
def jz_X (g : jz_G) (x : jz_M) (Q : jz_Q) (n0 : Nat) (p : Program) (e : Env) (R : Room) (s : State) (m : MethodId) (args : Array Value) (below : List Frame) (meth : Method) (c : Code) (Qf : State → Prop) : Prop :=
  p.tables.exec = Jvm.exec ∧ c.code = jm_c x ∧ c.maxLocals = jm_L x ∧ s.vm.findClass (jm_o x) = some m.cls ∧ (∀ w ∈ jz_GW, w.before args s = true) ∧ (∀ w ∈ jz_NW, va_Nw w s) ∧ va_K (jz_D g) vwCl (jz_tys g) s ∧
  (jm_d x ≤ R.frames ∧ 64 * jm_d x ≤ R.locals ∧ jm_k x ≤ R.cells ∧ 1300 * jm_k x ≤ R.slots) ∧ meth.name = (jm_y x).name ∧ s.heap.size = jz_B g + n0 ∧
  ((jm_o x = RL) → va_X (jz_b g) (jz_L g) (fun i => Int32.ofInt (jz_x g i)) s s.heap ∧ jz_b g < jz_B g ∧ jz_L g < 2147483648 ∧ ∀ i, jI (jz_x g i)) ∧
  (∀ (v : Option jz_V) (n : Nat) (V : jz_S) (H : Heap) (locs : List Loc) (pc : Nat) (lsA : Array Slot), jz_P g n V H → va_S (jz_A g) s.heap H locs → n = n0 + jm_k x → (∀ u, v = some u → jz_ok u) → jz_rok (jm_r x) v → Q v n V →
    decode (jm_c x) pc = .ok (jz_rv v, 1) → W p (jz_l g) e R s m args below meth c H locs (n - n0) (1300 * (n - n0)) Qf (F0 m pc lsA (v.toList.map (jz_cv g))))
def jz_J (g : jz_G) (x : jz_M) (n0 : Nat) (Q : jz_Q) (pc : Nat) (ls : List (Option jz_V)) (st : List jz_V) (n : Nat) (V : jz_S) : Prop :=
  ∀ p e R s m args below meth c Qf, jz_X g x Q n0 p e R s m args below meth c Qf → ∀ H locs lsA, jz_P g n V H → va_S (jz_A g) s.heap H locs → n0 ≤ n → n ≤ n0 + jm_k x → jz_Lh g lsA (jm_L x) ls → (∀ v ∈ st, jz_ok v) → (∀ v, some v ∈ ls → jz_ok v) →
    W p (jz_l g) e R s m args below meth c H locs (n - n0) (1300 * (n - n0)) Qf (F0 m pc lsA (st.map (jz_cv g)))
/-- a contract: from the store V with n cells, at these arguments -/
def jz_Pc (g : jz_G) (n : Nat) (V : jz_S) : State → Prop := fun U => jz_P g n V U.heap ∧ U.heap.size = jz_B g + n ∧ va_K (jz_D g) vwCl (jz_tys g) U ∧ ∀ w ∈ jz_NW, va_Nw w U
def jz_Qc (g : jz_G) (n : Nat) (Q : jz_Q) : Array Value → State → Outcome → State → Prop := fun _ st o t =>
  (∃ (v : Option jz_V) (V' : jz_S), o = .returned (v.map (jz_cv g)) ∧ (∀ u, v = some u → jz_ok u) ∧ jz_P g n V' t.heap ∧ Q v n V') ∧ va_F (jz_A g) st t
def jz_K (g : jz_G) (x : jz_M) (n0 : Nat) (av : List jz_V) (V : jz_S) (Q : jz_Q) : Prop :=
  (∀ v ∈ av, jz_ok v) → Met (jz_l g) (jm_y x) (jm_ws x) (jm_rm x) (va_Pc (av.map (jz_cv g)) (jz_Pc g n0 V)) (jz_Qc g (n0 + jm_k x) Q) (jm_k x) (1300 * jm_k x) (jz_A g)
def jz_ent : List jz_V → List (Option jz_V)
  | [] => []
  | .inr (.inl z) :: r => some (jl z) :: none :: jz_ent r
  | v :: r => some v :: jz_ent r
theorem jz_ent_cons1 {v : jz_V} {r : List jz_V} (h : ∀ z, v ≠ jl z) : jz_ent (v :: r) = some v :: jz_ent r := by
  rcases v with z | z | o
  · rfl
  · exact absurd rfl (h z)
  · rfl
theorem jz_cat {g : jz_G} {v : jz_V} : (jz_cv g v).category = 2 ↔ ∃ z, v = jl z := by
  rcases v with z | z | (_ | k)
  · simp [jz_cv, Value.category]
  · simp [jz_cv, Value.category]
  · simp [jz_cv, Value.category]
  · simp [jz_cv, Value.category]
theorem jz_ent_args (g : jz_G) : ∀ (av : List jz_V) (i j : Nat) (v : jz_V), (jz_ent av)[j]? = some (some v) → (i + j, jz_cv g v) ∈ lv_args i (av.map (jz_cv g)) := by
  intro av
  induction av with
  | nil => intro i j v h; simp [jz_ent] at h
  | cons a r ih =>
    intro i j v h
    by_cases ha : ∃ z, a = jl z
    · obtain ⟨z, rfl⟩ := ha
      have hc : (jz_cv g (jl z)).category = 2 := rfl
      simp only [List.map_cons, lv_args, hc, if_true]
      match j, h with
      | 0, h =>
        simp only [jz_ent, List.getElem?_cons_zero, Option.some.injEq] at h
        subst h
        exact List.mem_cons_self
      | 1, h => simp [jz_ent] at h
      | j + 2, h =>
        simp only [jz_ent, List.getElem?_cons_succ] at h
        have := ih (i + 2) j v h
        rw [show i + (j + 2) = i + 2 + j by omega]
        exact List.mem_cons_of_mem _ this
    · rw [jz_ent_cons1 (fun z hz => ha ⟨z, hz⟩)] at h
      have hc : ¬ (jz_cv g a).category = 2 := fun q => ha (jz_cat.mp q)
      simp only [List.map_cons, lv_args, hc, if_false]
      match j, h with
      | 0, h =>
        simp only [List.getElem?_cons_zero, Option.some.injEq] at h
        subst h
        exact List.mem_cons_self
      | j + 1, h =>
        simp only [List.getElem?_cons_succ] at h
        have := ih (i + 1) j v h
        rw [show i + (j + 1) = i + 1 + j by omega]
        exact List.mem_cons_of_mem _ this
theorem jz_ent_mem : ∀ (av : List jz_V) (v : jz_V), some v ∈ jz_ent av → v ∈ av := by
  intro av
  induction av with
  | nil => intro v h; simp [jz_ent] at h
  | cons a r ih =>
    intro v h
    by_cases ha : ∃ z, a = jl z
    · obtain ⟨z, rfl⟩ := ha
      simp only [jz_ent, List.mem_cons, Option.some.injEq, reduceCtorEq, false_or] at h
      rcases h with h | h
      · rw [h]; exact List.mem_cons_self
      · exact List.mem_cons_of_mem _ (ih v h)
    · rw [jz_ent_cons1 (fun z hz => ha ⟨z, hz⟩)] at h
      simp only [List.mem_cons, Option.some.injEq] at h
      rcases h with h | h
      · rw [h]; exact List.mem_cons_self
      · exact List.mem_cons_of_mem _ (ih v h)
/-- what is asked of a method's numbers, once -/
def jz_mok (x : jz_M) : Prop := plainName (jm_y x).cls = true ∧ (jm_y x).cls = jm_o x ∧ jm_o x ≠ RL
theorem jz_entryN {g : jz_G} {m : MethodId} {av : List jz_V} {n : Nat} (h : (lg_sl (av.map (jz_cv g))).length ≤ n) : ∃ lsA, entryFrame m ((av.map (jz_cv g)).toArray) n = F0 m 0 lsA [] ∧ jz_Lh g lsA n (jz_ent av) := by
  have hl := lv_entry (av.map (jz_cv g)) (n := n) h
  refine ⟨_, lg_entry_eq .., hl.1, hl.2.1, fun i v hv => ?_⟩
  have := jz_ent_args g av 0 i v hv
  rw [Nat.zero_add] at this
  exact hl.2.2 _ this
theorem jz_slen {g : jz_G} : ∀ (av : List jz_V), (lg_sl (av.map (jz_cv g))).length = (jz_ent av).length := by
  intro av
  induction av with
  | nil => rfl
  | cons a r ih =>
    rcases a with z | z | (_ | k)
    · simpa [lg_sl, jz_ent, jz_cv, Value.category] using ih
    · simpa [lg_sl, jz_ent, jz_cv, Value.category] using ih
    · simpa [lg_sl, jz_ent, jz_cv, Value.category] using ih
    · simpa [lg_sl, jz_ent, jz_cv, Value.category] using ih
theorem jz_retv {p : Program} {l : Launch} {e : Env} {R : Room} {s : State} {m : MethodId} {args : Array Value} {below : List Frame} {meth : Method} {c : Code} {H : Heap} {locs : List Loc} {cells slots : Nat} {cc : ByteArray} {Qc : Array Value → State → Outcome → State → Prop} {free : Addr → Prop}
    {g : jz_G} {r : Option FieldType} {v : Option jz_V} (hexec : p.tables.exec = Jvm.exec) (hb : c.code = cc) (hr : meth.sig.returnType = r) (hlocks : meth.locks = false) (hv : jz_rok r v)
    (hq : ∀ t : State, t.heap = H → s.WarmedH t.vm → Qc args s (.returned (v.map (jz_cv g))) t) (hf : ∀ q ∈ locs, free q.base) {pc : Nat} {ls : Array Slot} (hdg : decode cc pc = .ok (jz_rv v, 1)) :
    W p l e R s m args below meth c H locs cells slots (MQ below Qc args s cells slots free) (F0 m pc ls (v.toList.map (jz_cv g))) := by
  rcases v with _ | z | z | o
  · cases r with
    | none => exact W.vret hexec hb hr hq hf hdg hlocks
    | some r => cases r <;> exact hv.elim
  · cases r with
    | none => exact hv.elim
    | some r =>
      cases r with
      | int => exact W.iret hexec hb hr hq hf hdg hlocks
      | boolean =>
        rcases hv with rfl | rfl
        · exact W.zret (ty := .boolean) hexec hb hr narrow_b0 hq hf hdg hlocks
        · exact W.zret (ty := .boolean) hexec hb hr narrow_b1 hq hf hdg hlocks
      | _ => exact hv.elim
  · cases r with
    | none => exact hv.elim
    | some r =>
      cases r with
      | long => exact W.lret hexec hb hr hq hf hdg hlocks
      | _ => exact hv.elim
  · cases r with
    | none => exact hv.elim
    | some r =>
      cases r with
      | object C =>
        refine W.aret (v := jz_cv g (.inr (.inr o))) hexec hb hr (Or.inl ⟨_, rfl⟩) ?_ hq hf hdg hlocks
        rcases o with _ | k
        · exact Or.inl rfl
        · exact Or.inr ⟨_, rfl⟩
      | _ => exact hv.elim
/-- A METHOD's CONTRACT out of the walk of its body -/
theorem jz_K_of {g : jz_G} {x : jz_M} {n0 : Nat} {av : List jz_V} {V : jz_S} {Q : jz_Q} (hm : jz_mok x) (hlen : (jz_ent av).length ≤ jm_L x) (h : jz_J g x n0 Q 0 (jz_ent av) [] n0 V) : jz_K g x n0 av V Q := by
  intro hav
  refine Met.ofW (cc := jm_c x) (maxL := jm_L x) (ret := jm_r x) hm.1 rfl ?_
  intro p e s m args below meth c s₁ B hml hv
  obtain ⟨rfl, hP, hz, hK, hN⟩ := hv
  have hts := atoms_spec (ws := jm_ws x) B.pre
  obtain ⟨lsA, e1, hL⟩ := jz_entryN (g := g) (m := m) (av := av) (n := jm_L x) (by rw [jz_slen]; exact hlen)
  rw [e1]
  have hown : s.vm.findClass (jm_o x) = some m.cls := by rw [← hm.2.1]; exact findClass_of_methodNamed B.named
  have hX : jz_X g x Q n0 p e (headSpec (jm_ws x) (jm_rm x)).room s m ((av.map (jz_cv g)).toArray) below meth c (MQ below (jz_Qc g (n0 + jm_k x) Q) ((av.map (jz_cv g)).toArray) s (jm_k x) (1300 * jm_k x) (jz_A g)) := by
    refine ⟨B.exec, B.bytes, hml, hown, fun w hw => hts w (List.mem_cons_of_mem _ hw), hN, hK, ⟨Nat.le_refl _, Nat.le_refl _, Nat.le_refl _, Nat.le_refl _⟩, (name_of_methodNamed B.named B.method).1, hz, fun hh => absurd hh hm.2.2, ?_⟩
    intro v n V' H locs pc lsA' hP' hS' hn hvo hro hq hd
    have e2 : n - n0 = jm_k x := by omega
    rw [e2]
    refine jz_retv B.exec B.bytes B.returns B.notSynchronized hro (fun t ht hW => ⟨⟨v, V', rfl, hvo, ?_, ?_⟩, hS'.F ht⟩) (fun q hq' => hS'.2.2 q hq') hd
    · rw [ht, ← hn]; exact hP'
    · rw [← hn]; exact hq
  have := h p e _ s m _ below meth c _ hX s.heap [] lsA hP va_S.rf (Nat.le_refl _) (Nat.le_add_right _ _) hL (fun v hv => by simp at hv) (fun v hv => hav v (jz_ent_mem av v hv))
  rw [Nat.sub_self, Nat.mul_zero] at this
  exact this
