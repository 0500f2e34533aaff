def jz_dv (ty : FieldType) : jz_V := match ty with
  | .int => ji 0
  | .boolean => ji 0
  | .object _ => jn
  | .array _ => jn
  | _ => jl 0
def jz_dvt (ty : FieldType) : Bool := match ty with
  | .int => true
  | .boolean => true
  | .object _ => true
  | .array _ => true
  | _ => false
theorem jz_dv_cv {g : jz_G} {ty : FieldType} (h : jz_dvt ty = true) : jz_cv g (jz_dv ty) = defaultValue ty := by
  cases ty <;> first | rfl | cases h
theorem jz_P_lt {g : jz_G} {n k : Nat} {V : jz_S} {H : Heap} (h : jz_P g n V H) (hk : k < n) : jz_B g + k < H.size := (h.1 k _ (jz_w_at hk)).lt
section JC
variable {g : jz_G} {x : jz_M} {n0 : Nat} {Q : jz_Q} {pc : Nat} {ls : List (Option jz_V)} {st : List jz_V} {n : Nat} {V : jz_S}
theorem jz_size {p : Program} {e : Env} {R : Room} {s : State} {m : MethodId} {args : Array Value} {below : List Frame} {meth : Method} {c : Code} {Qf : State → Prop} {H : Heap} {locs : List Loc} {slots : Nat} {f : JFrame}
    (hs0 : s.heap.size = jz_B g + n0) (hP : jz_P g n V H) (hS : va_S (jz_A g) s.heap H locs) (hn : n0 ≤ n)
    (k : H.size = jz_B g + n → W p (jz_l g) e R s m args below meth c H locs (n - n0) slots Qf f) : W p (jz_l g) e R s m args below meth c H locs (n - n0) slots Qf f := by
  intro T hT X
  have h1 := X.heapSize
  rw [hT, hs0] at h1
  have h2 : jz_B g + n ≤ H.size := by
    rcases Nat.eq_or_lt_of_le hn with q | q
    · have := hS.1
      omega
    · have := jz_P_lt hP (k := n - 1) (by omega)
      omega
  exact k (by omega) T hT X
/-- behind a call -/
theorem jz_after {p : Program} {e : Env} {R : Room} {s : State} {m : MethodId} {args a : Array Value} {below : List Frame} {meth : Method} {c : Code} {Qf : State → Prop} {H : Heap} {locs : List Loc} {cells slots mc ms : Nat} {lsA : Array Slot} {rest st0 : List Value} {n' : Nat} {Q1 : jz_Q}
    (hr : va_Run p (jz_l g) e R s m args below meth c H locs cells slots mc ms (F0 m pc lsA st0) rest (jz_Qc g n' Q1 a) (jz_A g)) (hS : va_S (jz_A g) s.heap H locs)
    (kk : ∀ (v : Option jz_V) (V' : jz_S) (H1 : Heap) (locs1 : List Loc), (∀ u, v = some u → jz_ok u) → jz_P g n' V' H1 → Q1 v n' V' → va_S (jz_A g) s.heap H1 locs1 → W p (jz_l g) e R s m args below meth c H1 locs1 (cells + mc) (slots + ms) Qf (F0 m (pc + 3) lsA (v.toList.map (jz_cv g) ++ rest))) :
    W p (jz_l g) e R s m args below meth c H locs cells slots Qf (F0 m pc lsA st0) := by
  intro T hT X
  obtain ⟨v, st₀, t, T', L, h0, X', hL, e1, e2, ⟨⟨u, V', hv, hok, hp, hq⟩, hz, hk⟩, st⟩ := hr T hT X
  cases hv
  rw [h0] at hz hk
  have hS1 : va_S (jz_A g) s.heap T'.heap (locs ++ L) := ⟨Nat.le_trans hS.1 (by rw [e1]; exact hz), fun q h1 h2 => by rw [e1, hk q (Nat.lt_of_lt_of_le h1 hS.1) h2]; exact hS.2.1 q h1 h2, fun q hq => by
      rcases List.mem_append.mp hq with h | h
      · exact hS.2.2 q h
      · exact hL q h⟩
  obtain ⟨t2, a1, b1⟩ := kk u V' T'.heap (locs ++ L) hok (by rw [e1]; exact hp) hq hS1 T' rfl X'
  refine ⟨t2, st t2 ?_, b1⟩
  have e3 : (u.map (jz_cv g)).toList = u.toList.map (jz_cv g) := by cases u <;> rfl
  rw [← e3] at a1
  exact a1
def jz_ln (own : String) (idx : Nat) (y : jz_M) : Prop := Cond.methodLink own idx (jm_y y) ∈ jz_GW ∨ ∃ host : String, Cond.methodLinkNest own idx (jm_y y) host ∈ jz_NW
/-- a method's own words -/
def jz_my (y : jz_M) (np : Nat) : Prop := Cond.initialized (jm_y y).cls ∈ jz_GW ∧ Cond.code (jm_y y) (jm_c y) (jm_L y) (jm_r y) ∈ jz_GW ∧ ((jm_y y).cls ≠ "java/lang/invoke/MethodHandle" ∧ (jm_y y).cls ≠ "java/lang/invoke/VarHandle") ∧ (parseMethodDescriptor (jm_y y).desc).map (fun d => d.parameters.length) = some np ∧ jm_L y ≤ 45
def jz_myV (y : jz_M) (np : Nat) : Prop := jz_my y np ∧ Cond.instanceMethod (jm_y y) ∈ jz_GW ∧ Cond.selects (jm_y y).cls (jm_y y) (jm_y y) ∈ jz_GW
def jz_myS (y : jz_M) (np : Nat) : Prop := jz_my y np ∧ Cond.static (jm_y y) ∈ jz_GW
def jz_myI (y : jz_M) (np : Nat) : Prop := jz_my y np ∧ Cond.instanceMethod (jm_y y) ∈ jz_GW ∧ (jm_y y).name = "<init>" ∧ jm_r y = none
def jz_ct (v : jz_V) : Nat := match v with
  | .inr (.inl _) => 2
  | _ => 1
theorem jz_ct_sum : ∀ (st : List jz_V), ((st.map (jz_cv g)).map fun v => v.category).sum = (st.map jz_ct).sum := by
  intro st
  induction st with
  | nil => rfl
  | cons a r ih =>
    simp only [List.map_cons, List.sum_cons]
    rw [ih]
    congr 1
    rcases a with z | z | (_ | k) <;> rfl
theorem jz_blind {n : Nat} {av : List Value} : FrameBlind (va_Pc av (jz_Pc g n V)) := fun a U f mk q => ⟨q.1, q.2.1, q.2.2.1, va_K.moved (u := U) (U := U.calling f mk a) (Vm.Alike.refl U.vm) q.2.2.2.1, jz_nw_same (u := U) (U := U.calling f mk a) rfl q.2.2.2.2⟩
theorem jz_callB {s : State} {args : Array Value} {R : Room} {idx np : Nat} {y : jz_M} {own : String} (hts : ∀ w ∈ jz_GW, w.before args s = true) (hm : jz_my y np) (hR : jm_d y + 1 ≤ R.frames) (hL : 64 * (jm_d y + 1) ≤ R.locals) (hl : (Cond.methodLink own idx (jm_y y)).before args s = true) :
    CallB R s args own idx (jm_y y) (jm_c y) (jm_L y) (jm_r y) (jm_ws y) (jm_rm y) (jm_k y) (1300 * jm_k y) np := by
  obtain ⟨h1, h2, h3, h4, h5⟩ := hm
  refine callB_of (ws' := jz_GW) np hts ?_ rfl rfl rfl (hts _ h1) hl ⟨h3.1, h3.2, h4⟩ ⟨hR, ?_⟩
  · intro w hw
    rcases List.mem_cons.mp hw with rfl | hw
    · exact ⟨h2, jz_good _ h2⟩
    · exact ⟨hw, jz_good _ hw⟩
  · show 8 + (jm_L y + 11) + 64 * jm_d y ≤ R.locals
    omega
theorem jz_callN {s : State} {args : Array Value} {R : Room} {idx np : Nat} {y : jz_M} {own host : String} (hts : ∀ w ∈ jz_GW, w.before args s = true) (hm : jz_my y np) (hR : jm_d y + 1 ≤ R.frames) (hL : 64 * (jm_d y + 1) ≤ R.locals) (hl : va_Nw (.methodLinkNest own idx (jm_y y) host) s) :
    va_CN R s args own idx (jm_y y) host (jm_c y) (jm_L y) (jm_r y) (jm_ws y) (jm_rm y) (jm_k y) (1300 * jm_k y) np := by
  obtain ⟨h1, h2, h3, h4, h5⟩ := hm
  refine va_cnB (ws' := jz_GW) np hts ?_ rfl rfl rfl hl (hts _ h1) ⟨h3.1, h3.2, h4⟩ ⟨hR, ?_⟩
  · intro w hw
    rcases List.mem_cons.mp hw with rfl | hw
    · exact ⟨h2, jz_good _ h2⟩
    · exact ⟨hw, jz_good _ hw⟩
  · show 8 + (jm_L y + 11) + 64 * jm_d y ≤ R.locals
    omega
theorem jj_callV {idx k ci np : Nat} {y : jz_M} {av st' : List jz_V} {Q1 : jz_Q} (hd : decode (jm_c x) pc = .ok (.invokevirtual idx, 3)) (hl : jz_ln (jm_o x) idx y) (hm : jz_myV y np) (hk : jz_t k = .inl ci) (hkn : k < n) (hC : (vwCl[ci]?).map (fun q => q.1) = some (jm_y y).cls) (hnp : av.length = np) (hst0 : st = av.reverse ++ jr k :: st') (hcat : (st'.map jz_ct).sum ≤ 8) (hdp : jm_d y + 1 ≤ jm_d x) (hcl : n + jm_k y ≤ n0 + jm_k x) (hc : jz_K g y n (jr k :: av) V Q1)
    (kk : ∀ (v : Option jz_V) (V' : jz_S), (∀ u, v = some u → jz_ok u) → (∀ k i, jz_ok (V' k i)) → Q1 v (n + jm_k y) V' → jz_J g x n0 Q (pc + 3) ls (v.toList ++ st') (n + jm_k y) V') : jz_J g x n0 Q pc ls st n V := by
  intro p e R s m args below meth c Qf C H locs lsA hP hS hn hn2 hL hst hls
  subst hst0
  have hav : ∀ v ∈ jr k :: av, jz_ok v := fun v hv => by
    rcases List.mem_cons.mp hv with rfl | hv
    · trivial
    · exact hst v (List.mem_append.mpr (Or.inl (List.mem_reverse.mpr hv)))
  have hrest : ∀ v ∈ st', jz_ok v := fun v hv => hst v (List.mem_append.mpr (Or.inr (List.mem_cons_of_mem _ hv)))
  obtain ⟨r1, r2, r3, r4⟩ := C.2.2.2.2.2.2.2.1
  refine jz_size C.2.2.2.2.2.2.2.2.2.1 hP hS hn fun hz => ?_
  have he : (jz_w g n V)[k]? = some (jz_B g + k, .inr (ci, (List.range (jz_f ci)).map fun i => jz_cv g (V k i))) := by
    rw [jz_w_at hkn, jz_e_obj hk]
  obtain ⟨q, hq1, hq2⟩ := Option.map_eq_some_iff.mp hC
  have hrecv := va_recv C.2.2.2.2.2.2.1 hP.1 hq1 he
  rw [hq2] at hrecv
  have hpre : PreV s H (jm_y y).cls (jz_B g + k) (va_Pc ((jr k :: av).map (jz_cv g)) (jz_Pc g n V)) (av.map (jz_cv g)) := by
    refine ⟨jz_blind, hrecv, fun U hU hW => ⟨?_, by rw [hU]; exact hP, by rw [hU]; exact hz, va_K.moved hW.alike C.2.2.2.2.2.2.1, jz_nw_warm hW C.2.2.2.2.2.1⟩⟩
    show (Value.ref (jz_B g + k) :: av.map (jz_cv g)).toArray = (Value.ref (jz_ad g k) :: av.map (jz_cv g)).toArray
    rw [jz_ad_lo hk (by simp)]
  have hstack : (av.reverse ++ jr k :: st').map (jz_cv g) = (av.map (jz_cv g)).reverse ++ .ref (jz_B g + k) :: st'.map (jz_cv g) := by
    rw [List.map_append, List.map_reverse]
    show _ ++ Value.ref (jz_ad g k) :: _ = _
    rw [jz_ad_lo hk (by simp)]
  have hfit : n - n0 + jm_k y ≤ R.cells ∧ 1300 * (n - n0) + 1300 * jm_k y ≤ R.slots := ⟨by omega, by omega⟩
  have hnL : lsA.size = jm_L x := hL.1
  have hroom : 2 * (F0 m pc lsA ((av.reverse ++ jr k :: st').map (jz_cv g))).monitorRoom + ((st'.map (jz_cv g)).map fun v => v.category).sum ≤ 8 := lv_room (by rw [jz_ct_sum]; exact hcat)
  have hfix : CallFix p m c (jm_c x) (jm_L x) s args jz_GW (jm_o x) := ⟨C.1, C.2.1, C.2.2.1, C.2.2.2.1, C.2.2.2.2.1⟩
  have hrun : va_Run p (jz_l g) e R s m args below meth c H locs (n - n0) (1300 * (n - n0)) (jm_k y) (1300 * jm_k y) (F0 m pc lsA ((av.reverse ++ jr k :: st').map (jz_cv g))) (st'.map (jz_cv g)) (jz_Qc g (n + jm_k y) Q1 (Value.ref (jz_B g + k) :: av.map (jz_cv g)).toArray) (jz_A g) := by
    rcases hl with hl | ⟨host, hl⟩
    · exact va_runV hfix (hc hav) ⟨jz_callB C.2.2.2.2.1 hm.1 (by omega) (by omega) (C.2.2.2.2.1 _ hl), C.2.2.2.2.1 _ hm.2.1, C.2.2.2.2.1 _ hm.2.2⟩ hpre rfl (by simpa using hnp) hnL hstack hroom hd hfit
    · exact va_runVN hfix (hc hav) ⟨jz_callN C.2.2.2.2.1 hm.1 (by omega) (by omega) (C.2.2.2.2.2.1 _ hl), C.2.2.2.2.1 _ hm.2.1, C.2.2.2.2.1 _ hm.2.2⟩ hpre rfl (by simpa using hnp) hnL hstack hroom hd hfit
  refine jz_after hrun hS fun v V' H1 locs1 hok hP1 hq1 hS1 => ?_
  have h2 := kk v V' hok hP1.2 hq1 p e R s m args below meth c Qf C H1 locs1 lsA hP1 hS1 (by omega) hcl hL (fun w hw => by
    rcases List.mem_append.mp hw with h | h
    · exact hok w (by cases v with | none => simp at h | some u => simp at h; rw [h])
    · exact hrest w h) hls
  rw [show n + jm_k y - n0 = n - n0 + jm_k y by omega, Nat.mul_add, List.map_append] at h2
  exact h2
theorem jj_callS {idx np : Nat} {y : jz_M} {av st' : List jz_V} {Q1 : jz_Q} (hd : decode (jm_c x) pc = .ok (.invokestatic idx, 3)) (hl : jz_ln (jm_o x) idx y) (hm : jz_myS y np) (hnp : av.length = np) (hst0 : st = av.reverse ++ st') (hcat : (st'.map jz_ct).sum ≤ 8) (hdp : jm_d y + 1 ≤ jm_d x) (hcl : n + jm_k y ≤ n0 + jm_k x) (hc : jz_K g y n av V Q1)
    (kk : ∀ (v : Option jz_V) (V' : jz_S), (∀ u, v = some u → jz_ok u) → (∀ k i, jz_ok (V' k i)) → Q1 v (n + jm_k y) V' → jz_J g x n0 Q (pc + 3) ls (v.toList ++ st') (n + jm_k y) V') : jz_J g x n0 Q pc ls st n V := by
  intro p e R s m args below meth c Qf C H locs lsA hP hS hn hn2 hL hst hls
  subst hst0
  have hav : ∀ v ∈ av, jz_ok v := fun v hv => hst v (List.mem_append.mpr (Or.inl (List.mem_reverse.mpr hv)))
  have hrest : ∀ v ∈ st', jz_ok v := fun v hv => hst v (List.mem_append.mpr (Or.inr hv))
  obtain ⟨r1, r2, r3, r4⟩ := C.2.2.2.2.2.2.2.1
  refine jz_size C.2.2.2.2.2.2.2.2.2.1 hP hS hn fun hz => ?_
  have hpre : PreS s H (va_Pc (av.map (jz_cv g)) (jz_Pc g n V)) (av.map (jz_cv g)) :=
    ⟨jz_blind, fun U hU hW => ⟨rfl, by rw [hU]; exact hP, by rw [hU]; exact hz, va_K.moved hW.alike C.2.2.2.2.2.2.1, jz_nw_warm hW C.2.2.2.2.2.1⟩⟩
  have hstack : (av.reverse ++ st').map (jz_cv g) = (av.map (jz_cv g)).reverse ++ st'.map (jz_cv g) := by
    rw [List.map_append, List.map_reverse]
  have hfit : n - n0 + jm_k y ≤ R.cells ∧ 1300 * (n - n0) + 1300 * jm_k y ≤ R.slots := ⟨by omega, by omega⟩
  have hnL : lsA.size = jm_L x := hL.1
  have hroom : 2 * (F0 m pc lsA ((av.reverse ++ st').map (jz_cv g))).monitorRoom + ((st'.map (jz_cv g)).map fun v => v.category).sum ≤ 8 := lv_room (by rw [jz_ct_sum]; exact hcat)
  have hfix : CallFix p m c (jm_c x) (jm_L x) s args jz_GW (jm_o x) := ⟨C.1, C.2.1, C.2.2.1, C.2.2.2.1, C.2.2.2.2.1⟩
  have hrun : va_Run p (jz_l g) e R s m args below meth c H locs (n - n0) (1300 * (n - n0)) (jm_k y) (1300 * jm_k y) (F0 m pc lsA ((av.reverse ++ st').map (jz_cv g))) (st'.map (jz_cv g)) (jz_Qc g (n + jm_k y) Q1 (av.map (jz_cv g)).toArray) (jz_A g) := by
    rcases hl with hl | ⟨host, hl⟩
    · exact va_runS hfix (hc hav) ⟨jz_callB C.2.2.2.2.1 hm.1 (by omega) (by omega) (C.2.2.2.2.1 _ hl), C.2.2.2.2.1 _ hm.2⟩ hpre rfl (by simpa using hnp) hnL hstack hroom hd hfit
    · exact va_runSN hfix (hc hav) ⟨jz_callN C.2.2.2.2.1 hm.1 (by omega) (by omega) (C.2.2.2.2.2.1 _ hl), C.2.2.2.2.1 _ hm.2, trivial⟩ hpre rfl (by simpa using hnp) hnL hstack hroom hd hfit
  refine jz_after hrun hS fun v V' H1 locs1 hok hP1 hq1 hS1 => ?_
  have h2 := kk v V' hok hP1.2 hq1 p e R s m args below meth c Qf C H1 locs1 lsA hP1 hS1 (by omega) hcl hL (fun w hw => by
    rcases List.mem_append.mp hw with h | h
    · exact hok w (by cases v with | none => simp at h | some u => simp at h; rw [h])
    · exact hrest w h) hls
  rw [show n + jm_k y - n0 = n - n0 + jm_k y by omega, Nat.mul_add, List.map_append] at h2
  exact h2
theorem jj_callI {idx k ci np : Nat} {y : jz_M} {av st' : List jz_V} {Q1 : jz_Q} (hd : decode (jm_c x) pc = .ok (.invokespecial idx, 3)) (hl : jz_ln (jm_o x) idx y) (hm : jz_myI y np) (hk : jz_t k = .inl ci) (hnp : av.length = np) (hst0 : st = av.reverse ++ jr k :: st') (hcat : (st'.map jz_ct).sum ≤ 8) (hdp : jm_d y + 1 ≤ jm_d x) (hcl : n + jm_k y ≤ n0 + jm_k x) (hc : jz_K g y n (jr k :: av) V Q1)
    (kk : ∀ (v : Option jz_V) (V' : jz_S), (∀ u, v = some u → jz_ok u) → (∀ k i, jz_ok (V' k i)) → Q1 v (n + jm_k y) V' → jz_J g x n0 Q (pc + 3) ls (v.toList ++ st') (n + jm_k y) V') : jz_J g x n0 Q pc ls st n V := by
  intro p e R s m args below meth c Qf C H locs lsA hP hS hn hn2 hL hst hls
  subst hst0
  have hav : ∀ v ∈ jr k :: av, jz_ok v := fun v hv => by
    rcases List.mem_cons.mp hv with rfl | hv
    · trivial
    · exact hst v (List.mem_append.mpr (Or.inl (List.mem_reverse.mpr hv)))
  have hrest : ∀ v ∈ st', jz_ok v := fun v hv => hst v (List.mem_append.mpr (Or.inr (List.mem_cons_of_mem _ hv)))
  obtain ⟨r1, r2, r3, r4⟩ := C.2.2.2.2.2.2.2.1
  obtain ⟨hm0, hmi, hmn, hmr⟩ := hm
  refine jz_size C.2.2.2.2.2.2.2.2.2.1 hP hS hn fun hz => ?_
  have hpre : PreS s H (va_Pc ((jr k :: av).map (jz_cv g)) (jz_Pc g n V)) (.ref (jz_B g + k) :: av.map (jz_cv g)) := by
    refine ⟨jz_blind, fun U hU hW => ⟨?_, by rw [hU]; exact hP, by rw [hU]; exact hz, va_K.moved hW.alike C.2.2.2.2.2.2.1, jz_nw_warm hW C.2.2.2.2.2.1⟩⟩
    show (Value.ref (jz_B g + k) :: av.map (jz_cv g)).toArray = (Value.ref (jz_ad g k) :: av.map (jz_cv g)).toArray
    rw [jz_ad_lo hk (by simp)]
  have hstack : (av.reverse ++ jr k :: st').map (jz_cv g) = (av.map (jz_cv g)).reverse ++ .ref (jz_B g + k) :: st'.map (jz_cv g) := by
    rw [List.map_append, List.map_reverse]
    show _ ++ Value.ref (jz_ad g k) :: _ = _
    rw [jz_ad_lo hk (by simp)]
  have hfit : n - n0 + jm_k y ≤ R.cells ∧ 1300 * (n - n0) + 1300 * jm_k y ≤ R.slots := ⟨by omega, by omega⟩
  have hnL : lsA.size = jm_L x := hL.1
  have hroom : 2 * (F0 m pc lsA ((av.reverse ++ jr k :: st').map (jz_cv g))).monitorRoom + ((st'.map (jz_cv g)).map fun v => v.category).sum ≤ 8 := lv_room (by rw [jz_ct_sum]; exact hcat)
  have hfix : CallFix p m c (jm_c x) (jm_L x) s args jz_GW (jm_o x) := ⟨C.1, C.2.1, C.2.2.1, C.2.2.2.1, C.2.2.2.2.1⟩
  have hrun : va_Run p (jz_l g) e R s m args below meth c H locs (n - n0) (1300 * (n - n0)) (jm_k y) (1300 * jm_k y) (F0 m pc lsA ((av.reverse ++ jr k :: st').map (jz_cv g))) (st'.map (jz_cv g)) (jz_Qc g (n + jm_k y) Q1 (Value.ref (jz_B g + k) :: av.map (jz_cv g)).toArray) (jz_A g) := by
    rcases hl with hl | ⟨host, hl⟩
    · have hb := jz_callB (R := R) (own := jm_o x) (idx := idx) C.2.2.2.2.1 hm0 (by omega) (by omega) (C.2.2.2.2.1 _ hl)
      rw [hmr] at hb
      exact va_runI hfix (hc hav) ⟨hb, hmn, C.2.2.2.2.1 _ hmi⟩ hpre rfl (by simpa using hnp) hnL hstack hroom hd hfit
    · have hb := jz_callN (R := R) (own := jm_o x) (idx := idx) C.2.2.2.2.1 hm0 (by omega) (by omega) (C.2.2.2.2.2.1 _ hl)
      rw [hmr] at hb
      exact va_runIN hfix (hc hav) ⟨hb, hmn, C.2.2.2.2.1 _ hmi⟩ hpre rfl (by simpa using hnp) hnL hstack hroom hd hfit
  refine jz_after hrun hS fun v V' H1 locs1 hok hP1 hq1 hS1 => ?_
  have h2 := kk v V' hok hP1.2 hq1 p e R s m args below meth c Qf C H1 locs1 lsA hP1 hS1 (by omega) hcl hL (fun w hw => by
    rcases List.mem_append.mp hw with h | h
    · exact hok w (by cases v with | none => simp at h | some u => simp at h; rw [h])
    · exact hrest w h) hls
  rw [show n + jm_k y - n0 = n - n0 + jm_k y by omega, Nat.mul_add, List.map_append] at h2
  exact h2
/-- making a cell -/
theorem jz_push {a : Cell} {H : Heap} (hP : jz_P g n V H) (hz : H.size = jz_B g + n) (he : ∀ H1 : Heap, H1[H.size]? = some a → va_at (jz_D g) vwCl (jz_B g + n, jz_e g V n) H1) : jz_P g (n + 1) V (H.push a) := by
  refine ⟨?_, hP.2⟩
  rw [jz_w_snoc]
  have hk : ∀ (k : Nat) (q : Nat × va_E), (jz_w g n V)[k]? = some q → (H.push a)[q.1]? = H[q.1]? := fun k q hq => by
    rw [Array.getElem?_push, if_neg (Nat.ne_of_lt (hP.1 k q hq).lt)]
  refine (hP.1.kept hk).app (fun k q hq => ?_)
  have hk0 : k < 1 := (List.getElem?_eq_some_iff.mp hq).1
  rw [show k = 0 by omega] at hq
  cases hq
  exact he _ (by simp)
theorem jz_pushS {a : Cell} {H H0 : Heap} {locs : List Loc} (hS : va_S (jz_A g) H0 H locs) : va_S (jz_A g) H0 (H.push a) locs :=
  ⟨Nat.le_trans hS.1 (by simp), fun q h1 h2 => by rw [Array.getElem?_push, if_neg (Nat.ne_of_lt (Nat.lt_of_lt_of_le h1 hS.1))]; exact hS.2.1 q h1 h2, hS.2.2⟩
theorem jj_new {idx ci N : Nat} {Cn : String} {T : u_T} (ty : Nat → FieldType) (hd : decode (jm_c x) pc = .ok (.new idx, 3)) (hcl : Cond.classLink (jm_o x) idx Cn ∈ jz_GW) (hinst : Cond.instantiable Cn N ∈ jz_GW) (hini : Cond.initialized Cn ∈ jz_GW) (hc : vwCl[ci]? = some (Cn, T, N)) (hN : N = jz_f ci) (hin : ∀ w ∈ u_ws Cn T N, w ∈ jz_GW) (hty : ∀ k, k < N → parseFieldDescriptor (T k).2.2.1 = some (ty k)) (hk : jz_t n = .inl ci) (hdv : ∀ k, k < N → V n k = jz_dv (ty k) ∧ jz_dvt (ty k) = true) (hN2 : N ≤ 1300) (hroom : n + 1 ≤ n0 + jm_k x)
    (kk : jz_J g x n0 Q (pc + 3) ls (jr n :: st) (n + 1) V) : jz_J g x n0 Q pc ls st n V := by
  intro p e R s m args below meth c Qf C H locs lsA hP hS hn hn2 hL hst hls
  obtain ⟨r1, r2, r3, r4⟩ := C.2.2.2.2.2.2.2.1
  refine jz_size C.2.2.2.2.2.2.2.2.2.1 hP hS hn fun hz => ?_
  have hKn := C.2.2.2.2.2.2.1.1 ci _ hc
  refine W.newc C.1 C.2.1 C.2.2.2.1 (C.2.2.2.2.1 _ hcl) (C.2.2.2.2.1 _ hinst) (C.2.2.2.2.1 _ hini) rfl hd (by omega) (by omega) fun cC kC h1 h2 h3 h4 => ?_
  have hcC : cC = (jz_D g).1 ci := Option.some.inj (h1.symm.trans hKn.2.1)
  subst hcC
  have hP1 : jz_P g (n + 1) V (H.push { cls := (jz_D g).1 ci, slots := kC.instanceTypes.map defaultValue, vm := .none }) := by
    refine jz_push hP hz fun H1 he => ?_
    rw [hz] at he
    rw [jz_e_obj hk]
    refine ⟨_, hc, (u_born ty C.2.2.2.2.1 hin hKn h2 he hty).to fun k hk1 => ?_⟩
    show defaultValue (ty k) = vp_V _ k
    rw [← jz_dv_cv (g := g) (hdv k hk1).2, ← (hdv k hk1).1]
    simp [vp_V, ← hN, hk1]
  have h5 := kk p e R s m args below meth c Qf C _ locs lsA hP1 (jz_pushS hS) (by omega) hroom hL (jz_consv trivial hst) hls
  refine W.widen (k := n + 1 - n0) (n := 1300 * (n + 1 - n0)) (by omega) (by omega) ?_
  have h6 : (List.map (jz_cv g) (jr n :: st)) = .ref H.size :: st.map (jz_cv g) := by
    show Value.ref (jz_ad g n) :: _ = _
    rw [jz_ad_lo hk (by simp), hz]
  rw [h6] at h5
  exact h5
theorem jz_tys_K {s : State} {t : Nat} {ty : FieldType} (hK : va_K (jz_D g) vwCl (jz_tys g) s) (h : (jz_tys g)[t]? = some (jz_c g t, ty)) : va_RA s (jz_c g t) ty := (hK.2 t _ h).2
theorem jj_newa {t len : Nat} {at0 : ArrayType} {ty : FieldType} {z : Int} (hd : decode (jm_c x) pc = .ok (.newarray at0, 2)) (hty : newarray.typeOf at0 = ty) (hw : Cond.arrayClass ty ∈ jz_GW) (ht : (jz_tys g)[t]? = some (jz_c g t, ty)) (hp : ty = .int ∨ ty = .boolean) (ht1 : t ≤ 1) (hk : jz_t n = .inr (t, len)) (hz : z = len) (hlen : len ≤ 1300) (hdv : ∀ i, V n i = ji 0) (hroom : n + 1 ≤ n0 + jm_k x)
    (kk : jz_J g x n0 Q (pc + 2) ls (jr n :: st) (n + 1) V) : jz_J g x n0 Q pc ls (ji z :: st) n V := by
  intro p e R s m args below meth c Qf C H locs lsA hP hS hn hn2 hL hst hls
  obtain ⟨r1, r2, r3, r4⟩ := C.2.2.2.2.2.2.2.1
  refine jz_size C.2.2.2.2.2.2.2.2.2.1 hP hS hn fun hsz => ?_
  subst hz
  subst hty
  have hI : jI (len : Int) := jz_hd hst
  have hcl : (Int32.ofInt len).toNatClampNeg = len := by rw [jz_cl hI]; simp
  have hbytes : (Int32.ofInt (len : Int)).toNatClampNeg * componentBytes (newarray.typeOf at0) ≤ 536870912 := by
    rw [hcl]
    rcases hp with h | h <;> rw [h] <;> simp only [componentBytes] <;> omega
  refine W.newa C.1 C.2.1 (C.2.2.2.2.1 _ hw) rfl hd rfl (fun q => ?_) hbytes (by omega) (by rw [hcl]; omega) fun cA kA comp h1 h2 h3 => ?_
  · have := (jz_ltI hI (by decide : jI 0)).mp q
    omega
  · rw [hcl]
    have hR := jz_tys_K C.2.2.2.2.2.2.1 ht
    have hcA : cA = jz_c g t := by
      have h5 : s.vm.findClass ("[" ++ (newarray.typeOf at0).toString) = some (jz_c g t) := by
        rcases hp with h | h
        · rw [h] at hR ⊢; exact hR
        · rw [h] at hR ⊢; exact hR
      exact Option.some.inj (h1.symm.trans h5)
    subst hcA
    have hP1 : jz_P g (n + 1) V (H.push { cls := jz_c g t, slots := Array.replicate len (defaultValue (newarray.typeOf at0)), vm := .none }) := by
      refine jz_push hP hsz fun H1 he => ?_
      rw [hsz] at he
      rw [jz_e_arr hk]
      show H1[jz_B g + n]? = some (vp_cell (jz_c g t) (jz_ar g t len (V n)))
      rw [he, arrV_new]
      have e1 : jz_ar g t len (V n) = (len, .inl fun _ => 0) := by
        match t, ht1 with
        | 0, _ => simp only [jz_ar, hdv]; rfl
        | 1, _ => simp only [jz_ar, hdv]; rfl
      have e2 : defaultValue (newarray.typeOf at0) = .int 0 := by rcases hp with h | h <;> rw [h] <;> rfl
      rw [e1, e2]
      rfl
    have h5 := kk p e R s m args below meth c Qf C _ locs lsA hP1 (jz_pushS hS) (by omega) hroom hL (jz_consv trivial (jz_tl hst)) hls
    refine W.widen (k := n + 1 - n0) (n := 1300 * (n + 1 - n0)) (by omega) (by omega) ?_
    have h6 : (List.map (jz_cv g) (jr n :: st)) = .ref H.size :: st.map (jz_cv g) := by
      show Value.ref (jz_ad g n) :: _ = _
      rw [jz_ad_lo hk (by intro q; cases q; omega), hsz]
    rw [h6] at h5
    exact h5
theorem jj_anew {idx t len : Nat} {Cn : String} {z : Int} (hd : decode (jm_c x) pc = .ok (.anewarray idx, 3)) (hcl0 : Cond.classLink (jm_o x) idx Cn ∈ jz_GW) (hov : Cond.arrayOver (.object Cn) ∈ jz_NW) (ht : (jz_tys g)[t]? = some (jz_c g t, .object Cn)) (ht2 : 2 ≤ t) (hk : jz_t n = .inr (t, len)) (hk9 : t ≤ 5) (hz : z = len) (hlen : len ≤ 1300) (hdv : ∀ i, V n i = jn) (hroom : n + 1 ≤ n0 + jm_k x)
    (kk : jz_J g x n0 Q (pc + 3) ls (jr n :: st) (n + 1) V) : jz_J g x n0 Q pc ls (ji z :: st) n V := by
  intro p e R s m args below meth c Qf C H locs lsA hP hS hn hn2 hL hst hls
  obtain ⟨r1, r2, r3, r4⟩ := C.2.2.2.2.2.2.2.1
  refine jz_size C.2.2.2.2.2.2.2.2.2.1 hP hS hn fun hsz => ?_
  subst hz
  have hI : jI (len : Int) := jz_hd hst
  have hcl : (Int32.ofInt len).toNatClampNeg = len := by rw [jz_cl hI]; simp
  refine W.anew C.1 C.2.1 C.2.2.2.1 (C.2.2.2.2.1 _ hcl0) (va_AO.use (C.2.2.2.2.2.1 _ hov)) rfl hd rfl (fun q => ?_) (by rw [hcl]; omega) (by omega) (by rw [hcl]; omega) fun cA kA comp h1 h2 h3 h4 => ?_
  · have := (jz_ltI hI (by decide : jI 0)).mp q
    omega
  · rw [hcl]
    obtain ⟨kA', comp', k1, k2, k3, k4⟩ := jz_tys_K C.2.2.2.2.2.2.1 ht
    have hcA : cA = jz_c g t := Option.some.inj (h1.symm.trans k4)
    subst hcA
    have hP1 : jz_P g (n + 1) V (H.push { cls := jz_c g t, slots := Array.replicate len .null, vm := .none }) := by
      refine jz_push hP hsz fun H1 he => ?_
      rw [hsz] at he
      rw [jz_e_arr hk]
      show H1[jz_B g + n]? = some (vp_cell (jz_c g t) (jz_ar g t len (V n)))
      rw [he, arrV_new, jz_ar_q ht2, vp_cell_q]
      simp only [hdv]
      rfl
    have h5 := kk p e R s m args below meth c Qf C _ locs lsA hP1 (jz_pushS hS) (by omega) hroom hL (jz_consv trivial (jz_tl hst)) hls
    refine W.widen (k := n + 1 - n0) (n := 1300 * (n + 1 - n0)) (by omega) (by omega) ?_
    have h6 : (List.map (jz_cv g) (jr n :: st)) = .ref H.size :: st.map (jz_cv g) := by
      show Value.ref (jz_ad g n) :: _ = _
      rw [jz_ad_lo hk (by intro q; cases q; omega), hsz]
    rw [h6] at h5
    exact h5
theorem jj_objInit {idx k : Nat} (hd : decode (jm_c x) pc = .ok (.invokespecial idx, 3)) (hl : Cond.methodLink (jm_o x) idx Lib.objectInit ∈ jz_GW) (hi : Cond.instanceMethod Lib.objectInit ∈ jz_GW) (hco : Cond.code Lib.objectInit ⟨#[0xb1]⟩ 1 none ∈ jz_GW) (hst8 : (st.map jz_ct).sum ≤ 8) (hdp : 1 ≤ jm_d x) (kk : jz_J g x n0 Q (pc + 3) ls st n V) : jz_J g x n0 Q pc ls (jr k :: st) n V := by
  intro p e R s m args below meth c Qf C H locs lsA hP hS hn hn2 hL hst hls
  obtain ⟨r1, r2, r3, r4⟩ := C.2.2.2.2.2.2.2.1
  refine W.objInit C.1 C.2.1 C.2.2.2.1 (C.2.2.2.2.1 _ hl) (C.2.2.2.2.1 _ hi) (C.2.2.2.2.1 _ hco) rfl (hL.1.trans C.2.2.1.symm) rfl hd (by omega) ?_ (kk p e R s m args below meth c Qf C H locs lsA hP hS hn hn2 hL (jz_tl hst) hls)
  have := lv_room (m := m) (pc := pc) (ls := lsA) (rest := (jr k :: st).map (jz_cv g)) (st := st.map (jz_cv g)) (by rw [jz_ct_sum]; exact hst8)
  omega
/-- the script -/
theorem jj_sld {j : Int} (hd : decode (jm_c x) pc = .ok (.iaload, 1)) (ho : jm_o x = RL) (h0 : 0 ≤ j) (h1 : j < jz_L g) (kk : jz_J g x n0 Q (pc + 1) ls (ji (jz_x g j.toNat) :: st) n V) : jz_J g x n0 Q pc ls (ji j :: jr 1000 :: st) n V := by
  intro p e R s m args below meth c Qf C H locs lsA hP hS hn hn2 hL hst hls
  obtain ⟨hX, hb, hLl, hxi⟩ := C.2.2.2.2.2.2.2.2.2.2.1 ho
  have hj : jI j := jz_hd hst
  have hkk := kk p e R s m args below meth c Qf C H locs lsA hP hS hn hn2 hL (jz_consv (v := ji (jz_x g j.toNat)) (hxi _) (jz_tl (jz_tl hst))) hls
  refine va_sld (b := jz_b g) C.1 C.2.1 hX (by rw [C.2.2.2.2.2.2.2.2.2.1]; omega) (by show ¬ (jz_B g ≤ jz_b g); omega) hS (jz_in' hj h0 h1) hd ?_
  rw [jz_cl hj]
  exact hkk
theorem jj_slen (hd : decode (jm_c x) pc = .ok (.arraylength, 1)) (ho : jm_o x = RL) (kk : jz_J g x n0 Q (pc + 1) ls (ji (jz_L g) :: st) n V) : jz_J g x n0 Q pc ls (jr 1000 :: st) n V := by
  intro p e R s m args below meth c Qf C H locs lsA hP hS hn hn2 hL hst hls
  obtain ⟨hX, hb, hLl, hxi⟩ := C.2.2.2.2.2.2.2.2.2.2.1 ho
  have hkk := kk p e R s m args below meth c Qf C H locs lsA hP hS hn hn2 hL (jz_consv (v := ji (jz_L g)) (by show jI _; omega) (jz_tl hst)) hls
  refine va_slen (b := jz_b g) C.1 C.2.1 hX (by rw [C.2.2.2.2.2.2.2.2.2.1]; omega) (by show ¬ (jz_B g ≤ jz_b g); omega) hS hd ?_
  rw [← Int32.ofInt_eq_ofNat]
  exact hkk
end JC
