section JX
variable {g : jz_G} {x : jz_M} {n0 : Nat} {Q : jz_Q} {pc : Nat} {ls : List (Option jz_V)} {st : List jz_V} {n : Nat} {V : jz_S}
theorem jj_max {idx : Nat} {a b : Int} (hd : decode (jm_c x) pc = .ok (.invokestatic idx, 3)) (hl : Cond.methodLink (jm_o x) idx Lib.Math.max.name ∈ jz_GW) (hst8 : (st.map jz_ct).sum ≤ 8) (hdp : 1 ≤ jm_d x) (kk : jz_J g x n0 Q (pc + 3) ls (ji (if a < b then b else a) :: st) n V) : jz_J g x n0 Q pc ls (ji b :: ji a :: st) n V := by
  intro p e R s m args below meth c Qf C H locs lsA hP hS hn hn2 hL hst hls
  obtain ⟨r1, r2, r3, r4⟩ := C.2.2.2.2.2.2.2.1
  have hb : jI b := jz_hd hst
  have ha : jI a := jz_hd (jz_tl hst)
  have hsum : ((st.map (jz_cv g)).map fun v => v.category).sum ≤ 8 := by rw [jz_ct_sum]; exact hst8
  refine va_mmax C.1 C.2.1 (C.2.2.1.trans hL.1.symm) C.2.2.2.1 (C.2.2.2.2.1 _ hl) (C.2.2.2.2.1 _ kmath1_max) (C.2.2.2.2.1 _ kmath0) (C.2.2.2.2.1 _ kmath2_max) (by omega) (by omega) (by omega) (by omega) hd ?_
  have h2 := kk p e R s m args below meth c Qf C H locs lsA hP hS hn hn2 hL (jz_consv (v := ji (if a < b then b else a)) (by show jI _; split <;> assumption) (jz_tl (jz_tl hst))) hls
  have e : (if Int32.ofInt a < Int32.ofInt b then Int32.ofInt b else Int32.ofInt a) = Int32.ofInt (if a < b then b else a) := by
    simp only [jz_ltI ha hb]
    split <;> rfl
  rw [e]
  exact h2
theorem jj_min {idx : Nat} {a b : Int} (hd : decode (jm_c x) pc = .ok (.invokestatic idx, 3)) (hl : Cond.methodLink (jm_o x) idx Lib.Math.min.name ∈ jz_GW) (hst8 : (st.map jz_ct).sum ≤ 8) (hdp : 1 ≤ jm_d x) (kk : jz_J g x n0 Q (pc + 3) ls (ji (if b < a then b else a) :: st) n V) : jz_J g x n0 Q pc ls (ji b :: ji a :: st) n V := by
  intro p e R s m args below meth c Qf C H locs lsA hP hS hn hn2 hL hst hls
  obtain ⟨r1, r2, r3, r4⟩ := C.2.2.2.2.2.2.2.1
  have hb : jI b := jz_hd hst
  have ha : jI a := jz_hd (jz_tl hst)
  have hsum : ((st.map (jz_cv g)).map fun v => v.category).sum ≤ 8 := by rw [jz_ct_sum]; exact hst8
  refine va_mmin C.1 C.2.1 (C.2.2.1.trans hL.1.symm) C.2.2.2.1 (C.2.2.2.2.1 _ hl) (C.2.2.2.2.1 _ kmath1_min) (C.2.2.2.2.1 _ kmath0) (C.2.2.2.2.1 _ kmath2_min) (by omega) (by omega) (by omega) (by omega) hd ?_
  have h2 := kk p e R s m args below meth c Qf C H locs lsA hP hS hn hn2 hL (jz_consv (v := ji (if b < a then b else a)) (by show jI _; split <;> assumption) (jz_tl (jz_tl hst))) hls
  have e : (if Int32.ofInt b < Int32.ofInt a then Int32.ofInt b else Int32.ofInt a) = Int32.ofInt (if b < a then b else a) := by
    simp only [jz_ltI hb ha]
    split <;> rfl
  rw [e]
  exact h2
def jz_cp (V : jz_S) (k1 k2 sp dp m : Nat) : jz_S := fun a b => if a = k2 ∧ dp ≤ b ∧ b < dp + m then V k1 (sp + (b - dp)) else V a b
theorem jj_copy {idx k1 k2 l1 l2 : Nat} {sp dp m : Int} (hd : decode (jm_c x) pc = .ok (.invokestatic idx, 3)) (hl : Cond.methodLink (jm_o x) idx arraycopyName ∈ jz_GW) (hk1 : jz_t k1 = .inr (0, l1)) (hk2 : jz_t k2 = .inr (0, l2)) (hn1 : k1 < n) (hn2 : k2 < n) (h1 : 0 ≤ sp) (h2 : 0 ≤ dp) (h3 : 0 ≤ m) (h4 : sp + m ≤ l1) (h5 : dp + m ≤ l2) (hst8 : (st.map jz_ct).sum ≤ 8) (hdp : 2 ≤ jm_d x) (hV : ∀ i, ∃ z, V k1 i = ji z) (kk : jz_J g x n0 Q (pc + 3) ls st n (jz_cp V k1 k2 sp.toNat dp.toNat m.toNat)) : jz_J g x n0 Q pc ls (ji m :: ji dp :: jr k2 :: ji sp :: jr k1 :: st) n V := by
  intro p e R s mm args below meth c Qf C H locs lsA hP hS hn hnn hL hst hls
  obtain ⟨r1, r2, r3, r4⟩ := C.2.2.2.2.2.2.2.1
  have hm : jI m := jz_hd hst
  have hdpI : jI dp := jz_hd (jz_tl hst)
  have hspI : jI sp := jz_hd (jz_tl (jz_tl (jz_tl hst)))
  have he1 : (jz_w g n V)[k1]? = some (jz_B g + k1, .inl (jz_c g 0, l1, .inl fun i => jz_toI (V k1 i))) := by
    rw [jz_w_at hn1, jz_e_arr hk1]; rfl
  have he2 : (jz_w g n V)[k2]? = some (jz_B g + k2, .inl (jz_c g 0, l2, .inl fun i => jz_toI (V k2 i))) := by
    rw [jz_w_at hn2, jz_e_arr hk2]; rfl
  have hsum : ((st.map (jz_cv g)).map fun v => v.category).sum ≤ 8 := by rw [jz_ct_sum]; exact hst8
  have hlo : ∀ z : Int, jI z → 0 ≤ z → ¬ Int32.ofInt z < 0 := fun z hz h q => by
    have := (jz_ltI hz (by decide : jI 0)).mp q
    omega
  show W _ _ _ _ _ _ _ _ _ _ _ _ _ _ _ (F0 mm pc lsA (.int (Int32.ofInt m) :: .int (Int32.ofInt dp) :: .ref (jz_ad g k2) :: .int (Int32.ofInt sp) :: .ref (jz_ad g k1) :: st.map (jz_cv g)))
  rw [jz_ad_lo hk1 (by simp), jz_ad_lo hk2 (by simp)]
  refine va_copyi C.1 C.2.1 (C.2.2.1.trans hL.1.symm) C.2.2.2.1 (C.2.2.2.2.1 _ hl) (C.2.2.2.2.1 _ knat) (C.2.2.2.2.1 _ kstc) (C.2.2.2.2.1 _ kisys) C.2.2.2.2.2.2.1 hP.1 jz_w_D hS k1 k2 0 0 he1 he2 rfl rfl rfl (hlo _ hspI h1) (hlo _ hdpI h2) (hlo _ hm h3) (by rw [jz_cl hspI, jz_cl hm]; omega) (by rw [jz_cl hdpI, jz_cl hm]; omega) (fun _ _ => rfl) (by omega) (by
    have : nativeFrameWords "java/lang/System" "arraycopy" 5 ≤ 60 := by decide +kernel
    omega) hd fun H1 locs1 hP1 _ hS1 => ?_
  rw [jz_w_set (V' := jz_cp V k1 k2 sp.toNat dp.toNat m.toNat) (by
    rw [jz_e_arr hk2, jz_cl hspI, jz_cl hdpI, jz_cl hm]
    show Sum.inl (jz_c g 0, l2, Sum.inl _) = _
    congr 4
    funext b
    simp only [jz_cp, va_cpy]
    by_cases hb : dp.toNat ≤ b ∧ b < dp.toNat + m.toNat
    · rw [if_pos hb]; simp [hb]
    · rw [if_neg hb, if_neg (fun q => hb ⟨q.2.1, q.2.2⟩)]) (fun j hj => by funext b; simp [jz_cp, hj])] at hP1
  refine kk p e R s mm args below meth c Qf C H1 locs1 lsA ⟨hP1, fun a b => ?_⟩ hS1 hn hnn hL (jz_tl (jz_tl (jz_tl (jz_tl (jz_tl hst))))) hls
  unfold jz_cp
  split
  · exact hP.2 _ _
  · exact hP.2 _ _
end JX
def jz_scp (s : jz_St) (k1 k2 sp dp m : Nat) : jz_St := fun a b => if a = k2 ∧ dp ≤ b ∧ b < dp + m then s k1 (sp + (b - dp)) else s a b
theorem zz_copy {g : jz_G} {x : jz_M} {Q : Option jz_V → jz_St → Prop} {pc : Nat} {ls : List (Option jz_V)} {st : List jz_V} {s : jz_St} {idx k1 k2 l1 l2 : Nat} {sp dp m : Int} (hd : decode (jm_c x) pc = .ok (.invokestatic idx, 3)) (hl : Cond.methodLink (jm_o x) idx arraycopyName ∈ jz_GW) (hk1 : jz_t k1 = .inr (0, l1)) (hk2 : jz_t k2 = .inr (0, l2)) (h1 : 0 ≤ sp) (h2 : 0 ≤ dp) (h3 : 0 ≤ m) (h4 : sp + m ≤ l1) (h5 : dp + m ≤ l2) (hst8 : (st.map jz_ct).sum ≤ 8) (hdp : 2 ≤ jm_d x) (kk : jz_Z g x Q (pc + 3) ls st (jz_scp s k1 k2 sp.toNat dp.toNat m.toNat)) : jz_Z g x Q pc ls (ji m :: ji dp :: jr k2 :: ji sp :: jr k1 :: st) s := by
  refine jj_copy hd hl hk1 hk2 (jz_t_lt (by rw [hk1]; simp)) (jz_t_lt (by rw [hk2]; simp)) h1 h2 h3 h4 h5 hst8 hdp (fun i => ⟨s k1 i, jz_mk_i (by unfold jz_rf; rw [hk1]; rfl) (by rw [hk1]; rfl)⟩) ?_
  have e : jz_cp (jz_mk s) k1 k2 sp.toNat dp.toNat m.toNat = jz_mk (jz_scp s k1 k2 sp.toNat dp.toNat m.toNat) := by
    funext a b
    unfold jz_cp
    have hr : ∀ i, jz_rf k1 i = none := fun i => by unfold jz_rf; rw [hk1]; rfl
    have hr2 : ∀ i, jz_rf k2 i = none := fun i => by unfold jz_rf; rw [hk2]; rfl
    split
    · next h =>
      obtain ⟨rfl, h⟩ := h
      rw [jz_mk_i (hr _) (by rw [hk1]; rfl), jz_mk_i (hr2 _) (by rw [hk2]; rfl)]
      simp [jz_scp, h]
    · next h => simp only [jz_mk, jz_scp, if_neg h]
  rw [e]
  exact kk
