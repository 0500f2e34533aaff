/-! a run: all cells are there, references stand, numbers change -/
abbrev jz_St : Type := Nat → Nat → Int
def jz_rfc (t : jz_T) (k i : Nat) : Option Nat := match t with
  | .inl 2 => if i = 0 then some (k + 1) else none
  | .inl 3 => if i = 0 then some (k + 1) else none
  | .inl 4 => if i = 0 then some (k + 1) else none
  | .inl 5 => if i = 0 then some (k + 1) else if i = 1 then some (k + 2) else none
  | .inl 6 => if i = 0 then some (k + 1) else none
  | .inl 7 => match i with
    | 0 => some 1
    | 1 => some 2
    | 2 => some 4
    | 3 => some 342
    | 4 => some 344
    | 5 => some 358
    | 6 => some 372
    | 7 => some 386
    | _ => none
  | .inl 8 => match i with
    | 2 => some 417
    | 3 => some 418
    | 4 => some 419
    | 5 => some 420
    | 6 => some 421
    | 7 => some 422
    | 8 => some 423
    | 10 => some 424
    | 19 => some 425
    | 20 => some 426
    | 21 => some 427
    | 22 => some 428
    | 23 => some 429
    | _ => none
  | .inr (2, _) => some (k + 2 + i)
  | .inr (3, _) => some (k + 8 + i)
  | .inr (4, _) => some (6 + 14 * i)
  | .inr (5, _) => some (400 + 2 * i)
  | _ => none
def jz_rf (k i : Nat) : Option Nat := jz_rfc (jz_t k) k i
/-- the number of a leaf, of a goat: it never changes -/
def jz_fxc (t : jz_T) (i : Nat) : Bool := match t, i with
  | .inl 0, 0 => true
  | .inl 1, 0 => true
  | _, _ => false
def jz_nm (k : Nat) : Int :=
  let r := if k < 342 then (k - 6) % 14 else (k - 344) % 14
  if r < 10 then (r : Int) - 3 else (r : Int) - 10
def jz_mk (s : jz_St) : jz_S := fun k i => match jz_rf k i with
  | some r => jr r
  | none => if jz_fxc (jz_t k) i then ji (jz_nm k) else ji (s k i)
def jz_su (s : jz_St) (k i : Nat) (z : Int) : jz_St := fun a b => if a = k ∧ b = i then z else s a b
def jz_sok (s : jz_St) : Prop := ∀ k i, jz_rf k i = none → jz_fxc (jz_t k) i = false → jI (s k i)
theorem jz_mk_i {s : jz_St} {k i : Nat} (h : jz_rf k i = none) (h2 : jz_fxc (jz_t k) i = false) : jz_mk s k i = ji (s k i) := by simp [jz_mk, h, h2]
theorem jz_mk_n {s : jz_St} {k i : Nat} (h : jz_rf k i = none) (h2 : jz_fxc (jz_t k) i = true) : jz_mk s k i = ji (jz_nm k) := by simp [jz_mk, h, h2]
theorem jz_mk_r {s : jz_St} {k i r : Nat} (h : jz_rf k i = some r) : jz_mk s k i = jr r := by simp only [jz_mk, h]
theorem jz_mk_up {s : jz_St} {k i : Nat} {z : Int} (h : jz_rf k i = none) (h2 : jz_fxc (jz_t k) i = false) : jz_up (jz_mk s) k i (ji z) = jz_mk (jz_su s k i z) := by
  funext a b
  by_cases e : a = k ∧ b = i
  · obtain ⟨rfl, rfl⟩ := e
    simp [jz_up, jz_mk, jz_su, h, h2]
  · simp [jz_up, jz_mk, jz_su, e]
theorem jz_mk_ok {s : jz_St} (h : ∀ k i, jz_ok (jz_mk s k i)) : jz_sok s := fun k i hr hx => by
  have := h k i
  rw [jz_mk_i hr hx] at this
  exact this
theorem jz_su_s (s : jz_St) (k i : Nat) (z : Int) : jz_su s k i z k i = z := by simp [jz_su]
theorem jz_su_n {s : jz_St} {k i a b : Nat} {z : Int} (h : a ≠ k ∨ b ≠ i) : jz_su s k i z a b = s a b := by
  unfold jz_su
  rw [if_neg]
  rintro ⟨h1, h2⟩
  rcases h with h | h
  · exact h h1
  · exact h h2
theorem jz_su_o {s : jz_St} {k i a : Nat} {z : Int} (h : a ≠ k) : jz_su s k i z a = s a := by
  funext b
  exact jz_su_n (Or.inl h)
theorem jz_su_f {s : jz_St} {k i b : Nat} {z : Int} (h : b ≠ i) {a : Nat} : jz_su s k i z a b = s a b := jz_su_n (Or.inr h)
def jz_zq (Q : Option jz_V → jz_St → Prop) : jz_Q := fun v n V => n = 430 ∧ ∃ s, V = jz_mk s ∧ Q v s
abbrev jz_Z (g : jz_G) (x : jz_M) (Q : Option jz_V → jz_St → Prop) (pc : Nat) (ls : List (Option jz_V)) (st : List jz_V) (s : jz_St) : Prop := jz_J g x (430 - jm_k x) (jz_zq Q) pc ls st 430 (jz_mk s)
def jz_C (g : jz_G) (x : jz_M) (av : List jz_V) (s : jz_St) (Q : Option jz_V → jz_St → Prop) : Prop := jz_K g x 430 av (jz_mk s) (jz_zq Q)
def jq_i (P : Int → jz_St → Prop) : Option jz_V → jz_St → Prop := fun v s => ∃ z, v = some (ji z) ∧ P z s
def jq_l (P : Int → jz_St → Prop) : Option jz_V → jz_St → Prop := fun v s => ∃ z, v = some (jl z) ∧ P z s
def jq_v (P : jz_St → Prop) : Option jz_V → jz_St → Prop := fun v s => v = none ∧ P s
def jq_r (P : Option Nat → jz_St → Prop) : Option jz_V → jz_St → Prop := fun v s => ∃ o, v = some (.inr (.inr o)) ∧ P o s
section ZZ
variable {g : jz_G} {x : jz_M} {Q : Option jz_V → jz_St → Prop} {pc : Nat} {ls : List (Option jz_V)} {st : List jz_V} {s : jz_St}
theorem zz_C_of {av : List jz_V} (hm : jz_mok x) (hk : jm_k x = 0) (hlen : (jz_ent av).length ≤ jm_L x) (h : jz_Z g x Q 0 (jz_ent av) [] s) : jz_C g x av s Q := by
  refine jz_K_of hm hlen ?_
  unfold jz_Z at h
  rw [hk] at h
  exact h
theorem zz_rng (kk : jz_sok s → (∀ v ∈ st, jz_ok v) → (∀ v, some v ∈ ls → jz_ok v) → jz_Z g x Q pc ls st s) : jz_Z g x Q pc ls st s :=
  jj_rng fun h1 h2 h3 => kk (jz_mk_ok h1) h2 h3
theorem zz_ret {v : Option jz_V} {st0 : List jz_V} (hd : decode (jm_c x) pc = .ok (jz_rv v, 1)) (hs : st0 = v.toList) (hr : jz_rok (jm_r x) v) (hk : jm_k x ≤ 430) (hq : Q v s) : jz_Z g x Q pc ls st0 s :=
  jj_ret hd hs hr (by omega) (fun _ => ⟨rfl, s, rfl, hq⟩)
theorem zz_reti {P : Int → jz_St → Prop} {z : Int} (hd : decode (jm_c x) pc = .ok (.ireturn, 1)) (hr : jm_r x = some .int) (hk : jm_k x ≤ 430) (hq : P z s) : jz_Z g x (jq_i P) pc ls [ji z] s :=
  zz_ret (v := some (ji z)) hd rfl (by rw [hr]; trivial) hk ⟨z, rfl, hq⟩
theorem zz_retz {P : Int → jz_St → Prop} {z : Int} (hd : decode (jm_c x) pc = .ok (.ireturn, 1)) (hr : jm_r x = some .boolean) (hz : z = 0 ∨ z = 1) (hk : jm_k x ≤ 430) (hq : P z s) : jz_Z g x (jq_i P) pc ls [ji z] s :=
  zz_ret (v := some (ji z)) hd rfl (by rw [hr]; exact hz) hk ⟨z, rfl, hq⟩
theorem zz_retl {P : Int → jz_St → Prop} {z : Int} (hd : decode (jm_c x) pc = .ok (.lreturn, 1)) (hr : jm_r x = some .long) (hk : jm_k x ≤ 430) (hq : P z s) : jz_Z g x (jq_l P) pc ls [jl z] s :=
  zz_ret (v := some (jl z)) hd rfl (by rw [hr]; trivial) hk ⟨z, rfl, hq⟩
theorem zz_retr {P : Option Nat → jz_St → Prop} {o : Option Nat} {C : String} (hd : decode (jm_c x) pc = .ok (.areturn, 1)) (hr : jm_r x = some (.object C)) (hk : jm_k x ≤ 430) (hq : P o s) : jz_Z g x (jq_r P) pc ls [.inr (.inr o)] s :=
  zz_ret (v := some (.inr (.inr o))) hd rfl (by rw [hr]; trivial) hk ⟨o, rfl, hq⟩
theorem zz_retv {P : jz_St → Prop} (hd : decode (jm_c x) pc = .ok (.return_, 1)) (hr : jm_r x = none) (hk : jm_k x ≤ 430) (hq : P s) : jz_Z g x (jq_v P) pc ls [] s :=
  zz_ret (v := none) hd rfl (by rw [hr]; trivial) hk ⟨rfl, hq⟩
theorem zz_getI {idx ci i k : Nat} (hd : decode (jm_c x) pc = .ok (.getfield idx, 3)) (hF : jz_Fd (jm_o x) idx ci i) (hk : jz_t k = .inl ci) (hr : jz_rfc (.inl ci) k i = none) (hx : jz_fxc (.inl ci) i = false) (kk : jz_Z g x Q (pc + 3) ls (ji (s k i) :: st) s) : jz_Z g x Q pc ls (jr k :: st) s :=
  jj_getf hd hF hk (jz_t_lt (by rw [hk]; simp)) (jz_mk_i (by unfold jz_rf; rw [hk]; exact hr) (by rw [hk]; exact hx)) kk
theorem zz_getN {idx ci k : Nat} {z : Int} (hd : decode (jm_c x) pc = .ok (.getfield idx, 3)) (hF : jz_Fd (jm_o x) idx ci 0) (hk : jz_t k = .inl ci) (hr : jz_rfc (.inl ci) k 0 = none) (hx : jz_fxc (.inl ci) 0 = true) (hz : jz_nm k = z) (kk : jz_Z g x Q (pc + 3) ls (ji z :: st) s) : jz_Z g x Q pc ls (jr k :: st) s :=
  jj_getf hd hF hk (jz_t_lt (by rw [hk]; simp)) (by rw [jz_mk_n (by unfold jz_rf; rw [hk]; exact hr) (by rw [hk]; exact hx), hz]) kk
theorem zz_getR {idx ci i k r : Nat} (hd : decode (jm_c x) pc = .ok (.getfield idx, 3)) (hF : jz_Fd (jm_o x) idx ci i) (hk : jz_t k = .inl ci) (hr : jz_rfc (.inl ci) k i = some r) (kk : jz_Z g x Q (pc + 3) ls (jr r :: st) s) : jz_Z g x Q pc ls (jr k :: st) s :=
  jj_getf hd hF hk (jz_t_lt (by rw [hk]; simp)) (jz_mk_r (by unfold jz_rf; rw [hk]; exact hr)) kk
theorem zz_putI {idx ci i k : Nat} {z : Int} (hd : decode (jm_c x) pc = .ok (.putfield idx, 3)) (hF : jz_Fw (jm_o x) idx ci i .int false) (hk : jz_t k = .inl ci) (hr : jz_rfc (.inl ci) k i = none) (hx : jz_fxc (.inl ci) i = false) (kk : jz_Z g x Q (pc + 3) ls st (jz_su s k i z)) : jz_Z g x Q pc ls (ji z :: jr k :: st) s := by
  refine jj_putf hd hF (fun h => by cases h) hk (jz_t_lt (by rw [hk]; simp)) trivial ?_
  rw [jz_mk_up (by unfold jz_rf; rw [hk]; exact hr) (by rw [hk]; exact hx)]
  exact kk
theorem zz_putZ {idx ci i k : Nat} {z : Int} (hd : decode (jm_c x) pc = .ok (.putfield idx, 3)) (hF : jz_Fw (jm_o x) idx ci i .boolean false) (hk : jz_t k = .inl ci) (hr : jz_rfc (.inl ci) k i = none) (hx : jz_fxc (.inl ci) i = false) (hz : z = 0 ∨ z = 1) (kk : jz_Z g x Q (pc + 3) ls st (jz_su s k i z)) : jz_Z g x Q pc ls (ji z :: jr k :: st) s := by
  refine jj_putf hd hF (fun h => by cases h) hk (jz_t_lt (by rw [hk]; simp)) hz ?_
  rw [jz_mk_up (by unfold jz_rf; rw [hk]; exact hr) (by rw [hk]; exact hx)]
  exact kk
theorem zz_iald {k len : Nat} {j : Int} (hd : decode (jm_c x) pc = .ok (.iaload, 1)) (hk : jz_t k = .inr (0, len)) (h0 : 0 ≤ j) (h1 : j < len) (kk : jz_Z g x Q (pc + 1) ls (ji (s k j.toNat) :: st) s) : jz_Z g x Q pc ls (ji j :: jr k :: st) s :=
  jj_iald hd hk (jz_t_lt (by rw [hk]; simp)) h0 h1 (jz_mk_i (by unfold jz_rf; rw [hk]; rfl) (by rw [hk]; rfl)) kk
theorem zz_iast {k len : Nat} {j z : Int} (hd : decode (jm_c x) pc = .ok (.iastore, 1)) (hk : jz_t k = .inr (0, len)) (h0 : 0 ≤ j) (h1 : j < len) (kk : jz_Z g x Q (pc + 1) ls st (jz_su s k j.toNat z)) : jz_Z g x Q pc ls (ji z :: ji j :: jr k :: st) s := by
  refine jj_iast hd hk (jz_t_lt (by rw [hk]; simp)) h0 h1 ?_
  rw [jz_mk_up (by unfold jz_rf; rw [hk]; rfl) (by rw [hk]; rfl)]
  exact kk
theorem zz_bald {k len : Nat} {j : Int} (hd : decode (jm_c x) pc = .ok (.baload, 1)) (hk : jz_t k = .inr (1, len)) (h0 : 0 ≤ j) (h1 : j < len) (kk : jz_Z g x Q (pc + 1) ls (ji (s k j.toNat) :: st) s) : jz_Z g x Q pc ls (ji j :: jr k :: st) s :=
  jj_bald hd hk (jz_t_lt (by rw [hk]; simp)) h0 h1 (jz_mk_i (by unfold jz_rf; rw [hk]; rfl) (by rw [hk]; rfl)) kk
theorem zz_bast {k len : Nat} {j z : Int} (hd : decode (jm_c x) pc = .ok (.bastore, 1)) (hk : jz_t k = .inr (1, len)) (h0 : 0 ≤ j) (h1 : j < len) (hz : z = 0 ∨ z = 1) (kk : jz_Z g x Q (pc + 1) ls st (jz_su s k j.toNat z)) : jz_Z g x Q pc ls (ji z :: ji j :: jr k :: st) s := by
  refine jj_bast hd hk (jz_t_lt (by rw [hk]; simp)) h0 h1 hz ?_
  rw [jz_mk_up (by unfold jz_rf; rw [hk]; rfl) (by rw [hk]; rfl)]
  exact kk
theorem zz_aald {k t len r : Nat} {j : Int} (hd : decode (jm_c x) pc = .ok (.aaload, 1)) (hk : jz_t k = .inr (t, len)) (ht : 2 ≤ t ∧ t ≤ 5) (h0 : 0 ≤ j) (h1 : j < len) (hr : jz_rfc (.inr (t, len)) k j.toNat = some r) (kk : jz_Z g x Q (pc + 1) ls (jr r :: st) s) : jz_Z g x Q pc ls (ji j :: jr k :: st) s :=
  jj_aald (o := some r) hd hk ht.1 ht.2 (jz_t_lt (by rw [hk]; intro q; cases q; omega)) h0 h1 (jz_mk_r (by unfold jz_rf; rw [hk]; exact hr)) kk
theorem zz_alen {k t len : Nat} {z : Int} (hd : decode (jm_c x) pc = .ok (.arraylength, 1)) (hk : jz_t k = .inr (t, len)) (ht5 : t ≤ 5) (hz : (len : Int) = z) (hr : jI z) (kk : jz_Z g x Q (pc + 1) ls (ji z :: st) s) : jz_Z g x Q pc ls (jr k :: st) s :=
  jj_alen hd hk ht5 (jz_t_lt (by rw [hk]; intro q; cases q; omega)) hz hr kk
theorem jz_430 {y : jz_M} (h : jm_k y = 0) : 430 + jm_k y = 430 := by omega
theorem zz_callV {idx k ci np : Nat} {y : jz_M} {av st' : List jz_V} {Q1 : Option jz_V → jz_St → Prop} (hd : decode (jm_c x) pc = .ok (.invokevirtual idx, 3)) (hl : jz_ln (jm_o x) idx y) (hm : jz_myV y np) (hk : jz_t k = .inl ci) (hC : (vwCl[ci]?).map (fun q => q.1) = some (jm_y y).cls) (hnp : av.length = np) (hst0 : st = av.reverse ++ jr k :: st') (hcat : (st'.map jz_ct).sum ≤ 8) (hdp : jm_d y + 1 ≤ jm_d x) (hk0 : jm_k y = 0) (hc : jz_C g y (jr k :: av) s Q1)
    (kk : ∀ (v : Option jz_V) (s' : jz_St), (∀ u, v = some u → jz_ok u) → jz_sok s' → Q1 v s' → jz_Z g x Q (pc + 3) ls (v.toList ++ st') s') : jz_Z g x Q pc ls st s := by
  refine jj_callV hd hl hm hk (jz_t_lt (by rw [hk]; simp)) hC hnp hst0 hcat hdp (by omega) hc fun v V' hv hV hq => ?_
  obtain ⟨-, s', rfl, hq⟩ := hq
  rw [jz_430 hk0]
  exact kk v s' hv (jz_mk_ok hV) hq
theorem zz_callS {idx np : Nat} {y : jz_M} {av st' : List jz_V} {Q1 : Option jz_V → jz_St → Prop} (hd : decode (jm_c x) pc = .ok (.invokestatic idx, 3)) (hl : jz_ln (jm_o x) idx y) (hm : jz_myS y np) (hnp : av.length = np) (hst0 : st = av.reverse ++ st') (hcat : (st'.map jz_ct).sum ≤ 8) (hdp : jm_d y + 1 ≤ jm_d x) (hk0 : jm_k y = 0) (hc : jz_C g y av s Q1)
    (kk : ∀ (v : Option jz_V) (s' : jz_St), (∀ u, v = some u → jz_ok u) → jz_sok s' → Q1 v s' → jz_Z g x Q (pc + 3) ls (v.toList ++ st') s') : jz_Z g x Q pc ls st s := by
  refine jj_callS hd hl hm hnp hst0 hcat hdp (by omega) hc fun v V' hv hV hq => ?_
  obtain ⟨-, s', rfl, hq⟩ := hq
  rw [jz_430 hk0]
  exact kk v s' hv (jz_mk_ok hV) hq
theorem zz_callVi {idx k ci np : Nat} {y : jz_M} {av st' : List jz_V} {P : Int → jz_St → Prop} (hd : decode (jm_c x) pc = .ok (.invokevirtual idx, 3)) (hl : jz_ln (jm_o x) idx y) (hm : jz_myV y np) (hk : jz_t k = .inl ci) (hC : (vwCl[ci]?).map (fun q => q.1) = some (jm_y y).cls) (hnp : av.length = np) (hst0 : st = av.reverse ++ jr k :: st') (hcat : (st'.map jz_ct).sum ≤ 8) (hdp : jm_d y + 1 ≤ jm_d x) (hk0 : jm_k y = 0) (hc : jz_C g y (jr k :: av) s (jq_i P))
    (kk : ∀ (z : Int) (s' : jz_St), jI z → jz_sok s' → P z s' → jz_Z g x Q (pc + 3) ls (ji z :: st') s') : jz_Z g x Q pc ls st s :=
  zz_callV hd hl hm hk hC hnp hst0 hcat hdp hk0 hc fun v s' hv hs hq => by
    obtain ⟨z, rfl, hq⟩ := hq
    exact kk z s' (hv _ rfl) hs hq
theorem zz_callVl {idx k ci np : Nat} {y : jz_M} {av st' : List jz_V} {P : Int → jz_St → Prop} (hd : decode (jm_c x) pc = .ok (.invokevirtual idx, 3)) (hl : jz_ln (jm_o x) idx y) (hm : jz_myV y np) (hk : jz_t k = .inl ci) (hC : (vwCl[ci]?).map (fun q => q.1) = some (jm_y y).cls) (hnp : av.length = np) (hst0 : st = av.reverse ++ jr k :: st') (hcat : (st'.map jz_ct).sum ≤ 8) (hdp : jm_d y + 1 ≤ jm_d x) (hk0 : jm_k y = 0) (hc : jz_C g y (jr k :: av) s (jq_l P))
    (kk : ∀ (z : Int) (s' : jz_St), jL z → jz_sok s' → P z s' → jz_Z g x Q (pc + 3) ls (jl z :: st') s') : jz_Z g x Q pc ls st s :=
  zz_callV hd hl hm hk hC hnp hst0 hcat hdp hk0 hc fun v s' hv hs hq => by
    obtain ⟨z, rfl, hq⟩ := hq
    exact kk z s' (hv _ rfl) hs hq
theorem zz_callVv {idx k ci np : Nat} {y : jz_M} {av st' : List jz_V} {P : jz_St → Prop} (hd : decode (jm_c x) pc = .ok (.invokevirtual idx, 3)) (hl : jz_ln (jm_o x) idx y) (hm : jz_myV y np) (hk : jz_t k = .inl ci) (hC : (vwCl[ci]?).map (fun q => q.1) = some (jm_y y).cls) (hnp : av.length = np) (hst0 : st = av.reverse ++ jr k :: st') (hcat : (st'.map jz_ct).sum ≤ 8) (hdp : jm_d y + 1 ≤ jm_d x) (hk0 : jm_k y = 0) (hc : jz_C g y (jr k :: av) s (jq_v P))
    (kk : ∀ (s' : jz_St), jz_sok s' → P s' → jz_Z g x Q (pc + 3) ls st' s') : jz_Z g x Q pc ls st s :=
  zz_callV hd hl hm hk hC hnp hst0 hcat hdp hk0 hc fun v s' hv hs hq => by
    obtain ⟨rfl, hq⟩ := hq
    exact kk s' hs hq
theorem zz_callVr {idx k ci np : Nat} {y : jz_M} {av st' : List jz_V} {P : Option Nat → jz_St → Prop} (hd : decode (jm_c x) pc = .ok (.invokevirtual idx, 3)) (hl : jz_ln (jm_o x) idx y) (hm : jz_myV y np) (hk : jz_t k = .inl ci) (hC : (vwCl[ci]?).map (fun q => q.1) = some (jm_y y).cls) (hnp : av.length = np) (hst0 : st = av.reverse ++ jr k :: st') (hcat : (st'.map jz_ct).sum ≤ 8) (hdp : jm_d y + 1 ≤ jm_d x) (hk0 : jm_k y = 0) (hc : jz_C g y (jr k :: av) s (jq_r P))
    (kk : ∀ (o : Option Nat) (s' : jz_St), jz_sok s' → P o s' → jz_Z g x Q (pc + 3) ls (.inr (.inr o) :: st') s') : jz_Z g x Q pc ls st s :=
  zz_callV hd hl hm hk hC hnp hst0 hcat hdp hk0 hc fun v s' hv hs hq => by
    obtain ⟨o, rfl, hq⟩ := hq
    exact kk o s' hs hq
theorem zz_callSi {idx np : Nat} {y : jz_M} {av st' : List jz_V} {P : Int → jz_St → Prop} (hd : decode (jm_c x) pc = .ok (.invokestatic idx, 3)) (hl : jz_ln (jm_o x) idx y) (hm : jz_myS y np) (hnp : av.length = np) (hst0 : st = av.reverse ++ st') (hcat : (st'.map jz_ct).sum ≤ 8) (hdp : jm_d y + 1 ≤ jm_d x) (hk0 : jm_k y = 0) (hc : jz_C g y av s (jq_i P))
    (kk : ∀ (z : Int) (s' : jz_St), jI z → jz_sok s' → P z s' → jz_Z g x Q (pc + 3) ls (ji z :: st') s') : jz_Z g x Q pc ls st s :=
  zz_callS hd hl hm hnp hst0 hcat hdp hk0 hc fun v s' hv hs hq => by
    obtain ⟨z, rfl, hq⟩ := hq
    exact kk z s' (hv _ rfl) hs hq
theorem zz_callSl {idx np : Nat} {y : jz_M} {av st' : List jz_V} {P : Int → jz_St → Prop} (hd : decode (jm_c x) pc = .ok (.invokestatic idx, 3)) (hl : jz_ln (jm_o x) idx y) (hm : jz_myS y np) (hnp : av.length = np) (hst0 : st = av.reverse ++ st') (hcat : (st'.map jz_ct).sum ≤ 8) (hdp : jm_d y + 1 ≤ jm_d x) (hk0 : jm_k y = 0) (hc : jz_C g y av s (jq_l P))
    (kk : ∀ (z : Int) (s' : jz_St), jL z → jz_sok s' → P z s' → jz_Z g x Q (pc + 3) ls (jl z :: st') s') : jz_Z g x Q pc ls st s :=
  zz_callS hd hl hm hnp hst0 hcat hdp hk0 hc fun v s' hv hs hq => by
    obtain ⟨z, rfl, hq⟩ := hq
    exact kk z s' (hv _ rfl) hs hq
theorem zz_mono {P : Option jz_V → jz_St → Prop} (h : ∀ v s, P v s → Q v s) (kk : jz_Z g x P pc ls st s) : jz_Z g x Q pc ls st s :=
  jj_mono (fun _ _ _ ⟨h1, s, h2, h3⟩ => ⟨h1, s, h2, h _ s h3⟩) kk
end ZZ
/-! squares -/
theorem jz_sqt0 {r : Nat} (h : jz_sqt r = .inl 5) : r = 0 := by
  unfold jz_sqt at h
  split at h
  · assumption
  · split at h
    · cases h
    · split at h
      · cases h
      · split at h <;> cases h
set_option maxRecDepth 20000 in
theorem jz_t_sq {k : Nat} (h : jz_t k = .inl 5) (r : Nat) (hr : r < 14) : jz_t (k + r) = jz_sqt r := by
  have hk := jz_t_lt (k := k) (by rw [h]; simp)
  unfold jz_t at h
  split at h
  · next h6 =>
    exfalso
    have : ∀ k, k < 6 → jz_loT k ≠ .inl 5 := by decide
    exact this k h6 h
  · split at h
    · have := jz_sqt0 h
      unfold jz_t
      rw [if_neg (by omega), if_pos (by omega), show (k + r - 6) % 14 = r by omega]
    · split at h
      · cases h
      · split at h
        · cases h
        · split at h
          · have := jz_sqt0 h
            unfold jz_t
            rw [if_neg (by omega), if_neg (by omega), if_neg (by omega), if_neg (by omega), if_pos (by omega), show (k + r - 344) % 14 = r by omega]
          · split at h
            · split at h <;> cases h
            · exfalso
              obtain ⟨j, rfl⟩ : ∃ j, k = 416 + j := ⟨k - 416, by omega⟩
              rw [Nat.add_sub_cancel_left] at h
              have : ∀ k, k < 14 → jz_hiT k ≠ .inl 5 := by decide
              exact this j (by omega) h
theorem jz_t_sqL {k : Nat} (h : jz_t k = .inl 5) : jz_t (k + 1) = .inr (2, 7) := jz_t_sq h 1 (by decide)
theorem jz_t_sqG {k : Nat} (h : jz_t k = .inl 5) : jz_t (k + 2) = .inr (3, 4) := jz_t_sq h 2 (by decide)
theorem jz_t_leaf {k j : Nat} (h : jz_t k = .inl 5) (hj : j < 7) : jz_t (k + 3 + j) = .inl 1 := by
  rw [Nat.add_assoc, jz_t_sq h (3 + j) (by omega)]
  unfold jz_sqt
  rw [if_neg (by omega), if_neg (by omega), if_neg (by omega), if_pos (by omega)]
theorem jz_t_goat {k j : Nat} (h : jz_t k = .inl 5) (hj : j < 4) : jz_t (k + 10 + j) = .inl 0 := by
  rw [Nat.add_assoc, jz_t_sq h (10 + j) (by omega)]
  unfold jz_sqt
  rw [if_neg (by omega), if_neg (by omega), if_neg (by omega), if_neg (by omega)]
theorem jz_sq_apart {k k2 : Nat} (h : jz_t k = .inl 5) (h2 : jz_t k2 = .inl 5) (hne : k ≠ k2) : k + 14 ≤ k2 ∨ k2 + 14 ≤ k := by
  rcases Nat.lt_or_gt_of_ne hne with q | q
  · left
    rcases Nat.lt_or_ge k2 (k + 14) with z | z
    · obtain ⟨r, rfl⟩ : ∃ r, k2 = k + r := ⟨k2 - k, by omega⟩
      have := jz_t_sq h r (by omega)
      rw [h2] at this
      have := jz_sqt0 this.symm
      omega
    · exact z
  · right
    rcases Nat.lt_or_ge k (k2 + 14) with z | z
    · obtain ⟨r, rfl⟩ : ∃ r, k = k2 + r := ⟨k - k2, by omega⟩
      have := jz_t_sq h2 r (by omega)
      rw [h] at this
      have := jz_sqt0 this.symm
      omega
    · exact z
set_option maxRecDepth 20000 in
theorem jz_sq_pos {k : Nat} (h : jz_t k = .inl 5) : (k + 14 ≤ 342 ∧ 6 ≤ k ∧ (k - 6) % 14 = 0) ∨ (344 ≤ k ∧ k + 14 ≤ 400 ∧ (k - 344) % 14 = 0) := by
  have hk := jz_t_lt (k := k) (by rw [h]; simp)
  unfold jz_t at h
  split at h
  · next h6 =>
    exfalso
    have : ∀ k, k < 6 → jz_loT k ≠ .inl 5 := by decide
    exact this k h6 h
  · split at h
    · have := jz_sqt0 h
      omega
    · split at h
      · cases h
      · split at h
        · cases h
        · split at h
          · have := jz_sqt0 h
            omega
          · split at h
            · split at h <;> cases h
            · exfalso
              obtain ⟨j, rfl⟩ : ∃ j, k = 416 + j := ⟨k - 416, by omega⟩
              rw [Nat.add_sub_cancel_left] at h
              have : ∀ k, k < 14 → jz_hiT k ≠ .inl 5 := by decide
              exact this j (by omega) h
theorem jz_nm_leaf {k j : Nat} (h : jz_t k = .inl 5) (hj : j < 7) : jz_nm (k + 3 + j) = j := by
  rcases jz_sq_pos h with q | q
  · have e : (k + 3 + j - 6) % 14 = 3 + j := by omega
    unfold jz_nm
    simp only [if_pos (show k + 3 + j < 342 by omega), e, if_pos (show 3 + j < 10 by omega)]
    omega
  · have e : (k + 3 + j - 344) % 14 = 3 + j := by omega
    unfold jz_nm
    simp only [if_neg (show ¬ k + 3 + j < 342 by omega), e, if_pos (show 3 + j < 10 by omega)]
    omega
theorem jz_nm_goat {k j : Nat} (h : jz_t k = .inl 5) (hj : j < 4) : jz_nm (k + 10 + j) = j := by
  rcases jz_sq_pos h with q | q
  · have e : (k + 10 + j - 6) % 14 = 10 + j := by omega
    unfold jz_nm
    simp only [if_pos (show k + 10 + j < 342 by omega), e, if_neg (show ¬ 10 + j < 10 by omega)]
    omega
  · have e : (k + 10 + j - 344) % 14 = 10 + j := by omega
    unfold jz_nm
    simp only [if_neg (show ¬ k + 10 + j < 342 by omega), e, if_neg (show ¬ 10 + j < 10 by omega)]
    omega
