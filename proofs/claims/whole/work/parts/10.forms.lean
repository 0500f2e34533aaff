def jq_ie (e : Int) (s1 : jz_St) : Option jz_V → jz_St → Prop := jq_i fun z s' => z = e ∧ s' = s1
def jq_le (e : Int) (s1 : jz_St) : Option jz_V → jz_St → Prop := jq_l fun z s' => z = e ∧ s' = s1
def jq_ve (s1 : jz_St) : Option jz_V → jz_St → Prop := jq_v fun s' => s' = s1
def jq_re (o : Option Nat) (s1 : jz_St) : Option jz_V → jz_St → Prop := jq_r fun o' s' => o' = o ∧ s' = s1
section ZF
variable {g : jz_G} {x : jz_M} {Q : Option jz_V → jz_St → Prop} {pc : Nat} {ls : List (Option jz_V)} {st : List jz_V} {s : jz_St}
theorem zz_pad (m : Nat) (kk : jz_Z g x Q pc (ls ++ List.replicate m none) st s) : jz_Z g x Q pc ls st s := by
  refine jj_less (fun i v h => ?_) kk
  by_cases hi : i < ls.length
  · rwa [List.getElem?_append_left hi] at h
  · rw [List.getElem?_append_right (by omega), List.getElem?_replicate] at h
    split at h <;> cases h
theorem zz_retie {z e : Int} {s1 : jz_St} (hd : decode (jm_c x) pc = .ok (.ireturn, 1)) (hr : jm_r x = some .int) (hk : jm_k x ≤ 430) (h1 : z = e) (h2 : s = s1) : jz_Z g x (jq_ie e s1) pc ls [ji z] s := zz_reti hd hr hk ⟨h1, h2⟩
theorem zz_retze {z e : Int} {s1 : jz_St} (hd : decode (jm_c x) pc = .ok (.ireturn, 1)) (hr : jm_r x = some .boolean) (hz : z = 0 ∨ z = 1) (hk : jm_k x ≤ 430) (h1 : z = e) (h2 : s = s1) : jz_Z g x (jq_ie e s1) pc ls [ji z] s := zz_retz hd hr hz hk ⟨h1, h2⟩
theorem zz_retle {z e : Int} {s1 : jz_St} (hd : decode (jm_c x) pc = .ok (.lreturn, 1)) (hr : jm_r x = some .long) (hk : jm_k x ≤ 430) (h1 : z = e) (h2 : s = s1) : jz_Z g x (jq_le e s1) pc ls [jl z] s := zz_retl hd hr hk ⟨h1, h2⟩
theorem zz_retre {o e : Option Nat} {s1 : jz_St} {C : String} (hd : decode (jm_c x) pc = .ok (.areturn, 1)) (hr : jm_r x = some (.object C)) (hk : jm_k x ≤ 430) (h1 : o = e) (h2 : s = s1) : jz_Z g x (jq_re e s1) pc ls [.inr (.inr o)] s := zz_retr hd hr hk ⟨h1, h2⟩
theorem zz_retve {s1 : jz_St} (hd : decode (jm_c x) pc = .ok (.return_, 1)) (hr : jm_r x = none) (hk : jm_k x ≤ 430) (h2 : s = s1) : jz_Z g x (jq_ve s1) pc ls [] s := zz_retv hd hr hk h2
theorem zz_cVi {idx k ci np : Nat} {y : jz_M} {av st' : List jz_V} {e : Int} {s1 : jz_St} (hd : decode (jm_c x) pc = .ok (.invokevirtual idx, 3)) (hl : jz_ln (jm_o x) idx y) (hm : jz_myV y np) (hk : jz_t k = .inl ci) (hC : (vwCl[ci]?).map (fun q => q.1) = some (jm_y y).cls) (hnp : av.length = np) (hst0 : st = av.reverse ++ jr k :: st') (hcat : (st'.map jz_ct).sum ≤ 8) (hdp : jm_d y + 1 ≤ jm_d x) (hk0 : jm_k y = 0) (hc : jz_C g y (jr k :: av) s (jq_ie e s1))
    (kk : jI e → jz_sok s1 → jz_Z g x Q (pc + 3) ls (ji e :: st') s1) : jz_Z g x Q pc ls st s :=
  zz_callVi hd hl hm hk hC hnp hst0 hcat hdp hk0 hc fun z s' h1 h2 h3 => by
    obtain ⟨rfl, rfl⟩ := h3
    exact kk h1 h2
theorem zz_cVl {idx k ci np : Nat} {y : jz_M} {av st' : List jz_V} {e : Int} {s1 : jz_St} (hd : decode (jm_c x) pc = .ok (.invokevirtual idx, 3)) (hl : jz_ln (jm_o x) idx y) (hm : jz_myV y np) (hk : jz_t k = .inl ci) (hC : (vwCl[ci]?).map (fun q => q.1) = some (jm_y y).cls) (hnp : av.length = np) (hst0 : st = av.reverse ++ jr k :: st') (hcat : (st'.map jz_ct).sum ≤ 8) (hdp : jm_d y + 1 ≤ jm_d x) (hk0 : jm_k y = 0) (hc : jz_C g y (jr k :: av) s (jq_le e s1))
    (kk : jL e → jz_sok s1 → jz_Z g x Q (pc + 3) ls (jl e :: st') s1) : jz_Z g x Q pc ls st s :=
  zz_callVl hd hl hm hk hC hnp hst0 hcat hdp hk0 hc fun z s' h1 h2 h3 => by
    obtain ⟨rfl, rfl⟩ := h3
    exact kk h1 h2
theorem zz_cVv {idx k ci np : Nat} {y : jz_M} {av st' : List jz_V} {s1 : jz_St} (hd : decode (jm_c x) pc = .ok (.invokevirtual idx, 3)) (hl : jz_ln (jm_o x) idx y) (hm : jz_myV y np) (hk : jz_t k = .inl ci) (hC : (vwCl[ci]?).map (fun q => q.1) = some (jm_y y).cls) (hnp : av.length = np) (hst0 : st = av.reverse ++ jr k :: st') (hcat : (st'.map jz_ct).sum ≤ 8) (hdp : jm_d y + 1 ≤ jm_d x) (hk0 : jm_k y = 0) (hc : jz_C g y (jr k :: av) s (jq_ve s1))
    (kk : jz_sok s1 → jz_Z g x Q (pc + 3) ls st' s1) : jz_Z g x Q pc ls st s :=
  zz_callVv hd hl hm hk hC hnp hst0 hcat hdp hk0 hc fun s' h2 h3 => by
    cases h3
    exact kk h2
theorem zz_cVr {idx k ci np : Nat} {y : jz_M} {av st' : List jz_V} {o : Option Nat} {s1 : jz_St} (hd : decode (jm_c x) pc = .ok (.invokevirtual idx, 3)) (hl : jz_ln (jm_o x) idx y) (hm : jz_myV y np) (hk : jz_t k = .inl ci) (hC : (vwCl[ci]?).map (fun q => q.1) = some (jm_y y).cls) (hnp : av.length = np) (hst0 : st = av.reverse ++ jr k :: st') (hcat : (st'.map jz_ct).sum ≤ 8) (hdp : jm_d y + 1 ≤ jm_d x) (hk0 : jm_k y = 0) (hc : jz_C g y (jr k :: av) s (jq_re o s1))
    (kk : jz_sok s1 → jz_Z g x Q (pc + 3) ls (.inr (.inr o) :: st') s1) : jz_Z g x Q pc ls st s :=
  zz_callVr hd hl hm hk hC hnp hst0 hcat hdp hk0 hc fun o' s' h2 h3 => by
    obtain ⟨rfl, rfl⟩ := h3
    exact kk h2
theorem zz_cSi {idx np : Nat} {y : jz_M} {av st' : List jz_V} {e : Int} {s1 : jz_St} (hd : decode (jm_c x) pc = .ok (.invokestatic idx, 3)) (hl : jz_ln (jm_o x) idx y) (hm : jz_myS y np) (hnp : av.length = np) (hst0 : st = av.reverse ++ st') (hcat : (st'.map jz_ct).sum ≤ 8) (hdp : jm_d y + 1 ≤ jm_d x) (hk0 : jm_k y = 0) (hc : jz_C g y av s (jq_ie e s1))
    (kk : jI e → jz_sok s1 → jz_Z g x Q (pc + 3) ls (ji e :: st') s1) : jz_Z g x Q pc ls st s :=
  zz_callSi hd hl hm hnp hst0 hcat hdp hk0 hc fun z s' h1 h2 h3 => by
    obtain ⟨rfl, rfl⟩ := h3
    exact kk h1 h2
theorem zz_cSl {idx np : Nat} {y : jz_M} {av st' : List jz_V} {e : Int} {s1 : jz_St} (hd : decode (jm_c x) pc = .ok (.invokestatic idx, 3)) (hl : jz_ln (jm_o x) idx y) (hm : jz_myS y np) (hnp : av.length = np) (hst0 : st = av.reverse ++ st') (hcat : (st'.map jz_ct).sum ≤ 8) (hdp : jm_d y + 1 ≤ jm_d x) (hk0 : jm_k y = 0) (hc : jz_C g y av s (jq_le e s1))
    (kk : jL e → jz_sok s1 → jz_Z g x Q (pc + 3) ls (jl e :: st') s1) : jz_Z g x Q pc ls st s :=
  zz_callSl hd hl hm hnp hst0 hcat hdp hk0 hc fun z s' h1 h2 h3 => by
    obtain ⟨rfl, rfl⟩ := h3
    exact kk h1 h2
theorem zz_ialdN {k len j : Nat} {z : Int} (hd : decode (jm_c x) pc = .ok (.iaload, 1)) (hk : jz_t k = .inr (0, len)) (hz : z = (j : Int)) (hj : j < len) (kk : jz_Z g x Q (pc + 1) ls (ji (s k j) :: st) s) : jz_Z g x Q pc ls (ji z :: jr k :: st) s := by
  subst hz
  exact zz_iald hd hk (by omega) (by omega) kk
theorem zz_iastN {k len j : Nat} {z v : Int} (hd : decode (jm_c x) pc = .ok (.iastore, 1)) (hk : jz_t k = .inr (0, len)) (hz : z = (j : Int)) (hj : j < len) (kk : jz_Z g x Q (pc + 1) ls st (jz_su s k j v)) : jz_Z g x Q pc ls (ji v :: ji z :: jr k :: st) s := by
  subst hz
  exact zz_iast hd hk (by omega) (by omega) kk
theorem zz_baldN {k len j : Nat} {z : Int} (hd : decode (jm_c x) pc = .ok (.baload, 1)) (hk : jz_t k = .inr (1, len)) (hz : z = (j : Int)) (hj : j < len) (kk : jz_Z g x Q (pc + 1) ls (ji (s k j) :: st) s) : jz_Z g x Q pc ls (ji z :: jr k :: st) s := by
  subst hz
  exact zz_bald hd hk (by omega) (by omega) kk
theorem zz_bastN {k len j : Nat} {z v : Int} (hd : decode (jm_c x) pc = .ok (.bastore, 1)) (hk : jz_t k = .inr (1, len)) (hz : z = (j : Int)) (hj : j < len) (hv : v = 0 ∨ v = 1) (kk : jz_Z g x Q (pc + 1) ls st (jz_su s k j v)) : jz_Z g x Q pc ls (ji v :: ji z :: jr k :: st) s := by
  subst hz
  exact zz_bast hd hk (by omega) (by omega) hv kk
theorem zz_leafld {k j : Nat} {z : Int} (hd : decode (jm_c x) pc = .ok (.aaload, 1)) (hk : jz_t k = .inl 5) (hz : z = (j : Int)) (hj : j < 7) (kk : jz_Z g x Q (pc + 1) ls (jr (k + 3 + j) :: st) s) : jz_Z g x Q pc ls (ji z :: jr (k + 1) :: st) s := by
  subst hz
  exact zz_aald hd (jz_t_sqL hk) ⟨by decide, by decide⟩ (by omega) (by omega) (r := k + 3 + j) (by simp only [jz_rfc]; congr 1) kk
theorem zz_goatld {k j : Nat} {z : Int} (hd : decode (jm_c x) pc = .ok (.aaload, 1)) (hk : jz_t k = .inl 5) (hz : z = (j : Int)) (hj : j < 4) (kk : jz_Z g x Q (pc + 1) ls (jr (k + 10 + j) :: st) s) : jz_Z g x Q pc ls (ji z :: jr (k + 2) :: st) s := by
  subst hz
  exact zz_aald hd (jz_t_sqG hk) ⟨by decide, by decide⟩ (by omega) (by omega) (r := k + 10 + j) (by simp only [jz_rfc]; congr 1) kk
theorem zz_sqld {j : Nat} {z : Int} (hd : decode (jm_c x) pc = .ok (.aaload, 1)) (hz : z = (j : Int)) (hj : j < 24) (kk : jz_Z g x Q (pc + 1) ls (jr (6 + 14 * j) :: st) s) : jz_Z g x Q pc ls (ji z :: jr 5 :: st) s := by
  subst hz
  exact zz_aald hd (show jz_t 5 = .inr (4, 24) from rfl) ⟨by decide, by decide⟩ (by omega) (by omega) (r := 6 + 14 * j) (by simp only [jz_rfc]; congr 1) kk
theorem zz_rowld {j : Nat} {z : Int} (hd : decode (jm_c x) pc = .ok (.aaload, 1)) (hz : z = (j : Int)) (hj : j < 8) (kk : jz_Z g x Q (pc + 1) ls (jr (400 + 2 * j) :: st) s) : jz_Z g x Q pc ls (ji z :: jr 1 :: st) s := by
  subst hz
  exact zz_aald hd (show jz_t 1 = .inr (5, 8) from rfl) ⟨by decide, by decide⟩ (by omega) (by omega) (r := 400 + 2 * j) (by simp only [jz_rfc]; congr 1) kk
theorem zz_lenS {k : Nat} (hd : decode (jm_c x) pc = .ok (.arraylength, 1)) (hk : jz_t k = .inl 5) (kk : jz_Z g x Q (pc + 1) ls (ji 7 :: st) s) : jz_Z g x Q pc ls (jr (k + 1) :: st) s := zz_alen hd (jz_t_sqL hk) (by decide) rfl (by decide) kk
/-- another word for a number on the stack -/
theorem zz_top {a b : Int} (h : a = b) (kk : jz_Z g x Q pc ls (ji b :: st) s) : jz_Z g x Q pc ls (ji a :: st) s := by
  subst h
  exact kk
theorem zz_st {s1 : jz_St} (h : s = s1) (kk : jz_Z g x Q pc ls st s1) : jz_Z g x Q pc ls st s := by
  subst h
  exact kk
end ZF
theorem jz_t_row {k : Nat} (h : jz_t k = .inl 4) : jz_t (k + 1) = .inr (0, 40) := by
  have hk := jz_t_lt (k := k) (by rw [h]; simp)
  have e : ∀ k, k < 430 → jz_t k = .inl 4 → jz_t (k + 1) = .inr (0, 40) := by decide +kernel
  exact e k hk h
theorem jz_t_rows {j : Nat} (h : j < 8) : jz_t (400 + 2 * j) = .inl 4 := by
  have e : ∀ j, j < 8 → jz_t (400 + 2 * j) = .inl 4 := by decide +kernel
  exact e j h
theorem jz_t_past {j : Nat} (h : j < 24) : jz_t (6 + 14 * j) = .inl 5 := by
  have e : ∀ j, j < 24 → jz_t (6 + 14 * j) = .inl 5 := by decide +kernel
  exact e j h
theorem tt0 : jz_t 0 = .inl 7 := rfl
theorem tt1 : jz_t 1 = .inr (5, 8) := rfl
theorem tt2 : jz_t 2 = .inl 6 := rfl
theorem tt3 : jz_t 3 = .inr (0, 120) := rfl
theorem tt4 : jz_t 4 = .inl 3 := rfl
theorem tt5 : jz_t 5 = .inr (4, 24) := rfl
theorem tt342 : jz_t 342 = .inl 2 := rfl
theorem tt343 : jz_t 343 = .inr (0, 16) := rfl
theorem tt344 : jz_t 344 = .inl 5 := rfl
theorem tt358 : jz_t 358 = .inl 5 := rfl
theorem tt372 : jz_t 372 = .inl 5 := rfl
theorem tt386 : jz_t 386 = .inl 5 := rfl
theorem tt416 : jz_t 416 = .inl 8 := rfl
theorem tt417 : jz_t 417 = .inr (0, 8) := rfl
theorem tt418 : jz_t 418 = .inr (0, 8) := rfl
theorem tt419 : jz_t 419 = .inr (0, 320) := rfl
theorem tt420 : jz_t 420 = .inr (0, 53) := rfl
theorem tt421 : jz_t 421 = .inr (0, 53) := rfl
theorem tt422 : jz_t 422 = .inr (0, 53) := rfl
theorem tt423 : jz_t 423 = .inr (0, 1272) := rfl
theorem tt424 : jz_t 424 = .inr (0, 120) := rfl
theorem tt425 : jz_t 425 = .inr (0, 4) := rfl
theorem tt426 : jz_t 426 = .inr (0, 4) := rfl
theorem tt427 : jz_t 427 = .inr (1, 2) := rfl
theorem tt428 : jz_t 428 = .inr (0, 106) := rfl
theorem tt429 : jz_t 429 = .inr (0, 16) := rfl
