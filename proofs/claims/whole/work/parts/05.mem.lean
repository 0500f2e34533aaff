/-! fields and cells -/
def jz_cf (ci : Nat) (C : String) (T : u_T) (N : Nat) : Prop := vwCl[ci]? = some (C, T, N) ∧ N = jz_f ci ∧ (∀ w ∈ u_ws C T N, w ∈ jz_GW) ∧ (∀ a, a < N → ∀ b, b < N → a ≠ b → (T a).2.1 ≠ (T b).2.1) ∧ ∃ ty0 : Nat → FieldType, ∀ k, k < N → parseFieldDescriptor (T k).2.2.1 = some (ty0 k)
def jz_Fd (own : String) (idx ci i : Nat) : Prop := ∃ (C : String) (T : u_T) (N : Nat), jz_cf ci C T N ∧ i < N ∧ (T i).1 = C ∧ (Cond.fieldLink own idx C (T i).2.1 (T i).2.2.1 ∈ jz_GW ∨ ∃ host : String, Cond.fieldLinkNest own idx C (T i).2.1 (T i).2.2.1 host ∈ jz_NW)
def jz_Fw (own : String) (idx ci i : Nat) (ty : FieldType) (fin : Bool) : Prop := ∃ (C : String) (T : u_T) (N : Nat), jz_cf ci C T N ∧ i < N ∧ (T i).1 = C ∧ (Cond.fieldLink own idx C (T i).2.1 (T i).2.2.1 ∈ jz_GW ∨ (fin = false ∧ ∃ host : String, Cond.fieldLinkNest own idx C (T i).2.1 (T i).2.2.1 host ∈ jz_NW)) ∧ parseFieldDescriptor (T i).2.2.1 = some ty ∧ (T i).2.2.2 = fin ∧ (fin = true → C = own)
def jz_up (V : jz_S) (k i : Nat) (v : jz_V) : jz_S := fun a b => if a = k ∧ b = i then v else V a b
theorem jz_up_o {V : jz_S} {k i : Nat} {v : jz_V} {j : Nat} (h : j ≠ k) : jz_up V k i v j = V j := by
  funext b
  simp [jz_up, h]
theorem jz_up_ok {V : jz_S} {k i : Nat} {v : jz_V} (h : ∀ a b, jz_ok (V a b)) (hv : jz_ok v) : ∀ a b, jz_ok (jz_up V k i v a b) := by
  intro a b
  unfold jz_up
  split
  · exact hv
  · exact h a b
theorem jz_ad_lo {g : jz_G} {k : Nat} {t : jz_T} (h : jz_t k = t) (ht : t ≠ .inr (9, 0)) : jz_ad g k = jz_B g + k := by
  have := jz_t_lt (k := k) (by rw [h]; exact ht)
  unfold jz_ad
  rw [if_neg (by omega)]
theorem jz_e_obj {g : jz_G} {V : jz_S} {k ci : Nat} (hk : jz_t k = .inl ci) : jz_e g V k = .inr (ci, (List.range (jz_f ci)).map fun i => jz_cv g (V k i)) := by
  simp only [jz_e, hk]
theorem jz_e_arr {g : jz_G} {V : jz_S} {k t len : Nat} (hk : jz_t k = .inr (t, len)) : jz_e g V k = .inl (jz_c g t, jz_ar g t len (V k)) := by
  simp only [jz_e, hk]
theorem jz_map_set {N i : Nat} {f f' : Nat → Value} {y : Value} (hi : f' i = y) (ho : ∀ j, j ≠ i → f' j = f j) : ((List.range N).map f).set i y = (List.range N).map f' := by
  apply List.ext_getElem?
  intro j
  by_cases hjN : j < N
  · by_cases hji : j = i
    · subst hji
      rw [List.getElem?_set_self (by simpa using hjN)]
      simp [hjN, hi]
    · rw [List.getElem?_set_ne (Ne.symm hji)]
      simp [hjN, ho j hji]
  · rw [List.getElem?_eq_none (by simp; omega), List.getElem?_eq_none (by simp; omega)]
theorem jz_nw_same {u U : State} (h : u.vm = U.vm) (hZ : ∀ w ∈ jz_NW, va_Nw w u) : ∀ w ∈ jz_NW, va_Nw w U := by
  intro w hw
  have h1 := hZ w hw
  have h2 := (List.mem_filter.mp hw).2
  cases w <;> first | (simp [jz_isN] at h2; done) | exact va_Nw.same rfl h h1 | skip
  rename_i ty
  cases ty <;> first | exact va_AO.moved (by rw [h]; exact Vm.Alike.refl _) h1 | (simp [jz_isN] at h2; done)
def jz_fit (ty : FieldType) (v : jz_V) : Prop := match ty, v with
  | .int, .inl _ => True
  | .boolean, .inl z => z = 0 ∨ z = 1
  | .object _, .inr (.inr (some _)) => True
  | .array _, .inr (.inr (some _)) => True
  | _, _ => False
theorem jz_fit_ok {g : jz_G} {ty : FieldType} {v : jz_V} (h : jz_fit ty v) : narrow ty (jz_cv g v) = jz_cv g v ∧ fits ty (jz_cv g v) = true := by
  rcases v with z | z | (_ | k)
  · cases ty with
    | int => exact ⟨rfl, rfl⟩
    | boolean => rcases h with rfl | rfl <;> exact ⟨rfl, rfl⟩
    | _ => exact h.elim
  · cases ty <;> exact h.elim
  · cases ty <;> exact h.elim
  · cases ty with
    | object C => exact ⟨rfl, rfl⟩
    | array t => exact ⟨rfl, rfl⟩
    | _ => exact h.elim
section JM
variable {g : jz_G} {x : jz_M} {n0 : Nat} {Q : jz_Q} {pc : Nat} {ls : List (Option jz_V)} {st : List jz_V} {n : Nat} {V : jz_S}
theorem jj_getf {idx ci i k : Nat} {v : jz_V} (hd : decode (jm_c x) pc = .ok (.getfield idx, 3)) (hF : jz_Fd (jm_o x) idx ci i) (hk : jz_t k = .inl ci) (hkn : k < n) (hv : V k i = v) (kk : jz_J g x n0 Q (pc + 3) ls (v :: st) n V) : jz_J g x n0 Q pc ls (jr k :: st) n V := by
  intro p e R s m args below meth c Qf C H locs lsA hP hS hn hn2 hL hst hls
  obtain ⟨C0, T, N, ⟨hc, hN, hin, hnm, ty0, hty⟩, hi, hC, hl⟩ := hF
  have he : (jz_w g n V)[k]? = some (jz_B g + k, .inr (ci, (List.range (jz_f ci)).map fun i => jz_cv g (V k i))) := by
    rw [jz_w_at hkn, jz_e_obj hk]
  have hfs : ((List.range (jz_f ci)).map fun i => jz_cv g (V k i))[i]? = some (jz_cv g v) := by
    rw [← hv]
    simp [← hN, hi]
  have hsame : ∀ z, s.fieldFound? (T i).1 (T i).2.1 (T i).2.2.1 = some z → s.fieldFound? C0 (T i).2.1 (T i).2.2.1 = some z := fun z hz => by rw [← hC]; exact hz
  have hkk := kk p e R s m args below meth c Qf C H locs lsA hP hS hn hn2 hL (jz_consv (by rw [← hv]; exact hP.2 k i) (jz_tl hst)) hls
  show W _ _ _ _ _ _ _ _ _ _ _ _ _ _ _ (F0 m pc lsA (.ref (jz_ad g k) :: st.map (jz_cv g)))
  rw [jz_ad_lo hk (by simp)]
  rcases hl with hl | ⟨host, hl⟩
  · exact va_get C.1 C.2.1 C.2.2.2.2.1 hin C.2.2.2.1 C.2.2.2.2.2.2.1 hP.1 k he hc i hi (C.2.2.2.2.1 _ hl) hsame hfs hd hkk
  · exact va_getN C.1 C.2.1 C.2.2.2.2.1 hin C.2.2.2.1 C.2.2.2.2.2.2.1 hP.1 k he hc i hi (va_Nw.use rfl (C.2.2.2.2.2.1 _ hl)) hsame hfs hd hkk
theorem jj_putf {idx ci i k : Nat} {ty : FieldType} {fin : Bool} {v : jz_V} (hd : decode (jm_c x) pc = .ok (.putfield idx, 3)) (hF : jz_Fw (jm_o x) idx ci i ty fin) (hfin : fin = true → (jm_y x).name = "<init>") (hk : jz_t k = .inl ci) (hkn : k < n) (hv : jz_fit ty v) (kk : jz_J g x n0 Q (pc + 3) ls st n (jz_up V k i v)) : jz_J g x n0 Q pc ls (v :: jr k :: st) n V := by
  intro p e R s m args below meth c Qf C H locs lsA hP hS hn hn2 hL hst hls
  obtain ⟨C0, T, N, ⟨hc, hN, hin, hnm, ty0, hty⟩, hi, hC, hl, hpar, hfi, hown⟩ := hF
  have he : (jz_w g n V)[k]? = some (jz_B g + k, .inr (ci, (List.range (jz_f ci)).map fun i => jz_cv g (V k i))) := by
    rw [jz_w_at hkn, jz_e_obj hk]
  have hsame : ∀ z, s.fieldFound? (T i).1 (T i).2.1 (T i).2.2.1 = some z → s.fieldFound? C0 (T i).2.1 (T i).2.2.1 = some z := fun z hz => by rw [← hC]; exact hz
  have hset : (jz_w g n V).set k (jz_B g + k, .inr (ci, ((List.range (jz_f ci)).map fun i => jz_cv g (V k i)).set i (jz_cv g v))) = jz_w g n (jz_up V k i v) := by
    refine jz_w_set ?_ (fun j hj => jz_up_o hj)
    rw [jz_e_obj hk, jz_map_set (f' := fun b => jz_cv g (jz_up V k i v k b)) (by simp [jz_up]) (fun j hj => by simp [jz_up, hj])]
  obtain ⟨f1, f2⟩ := jz_fit_ok (g := g) hv
  have hkk : ∀ (H1 : Heap) (locs1 : List Loc), va_P (jz_D g) vwCl ((jz_w g n V).set k (jz_B g + k, .inr (ci, ((List.range (jz_f ci)).map fun i => jz_cv g (V k i)).set i (jz_cv g v)))) H1 → va_D (jz_A g) ((jz_w g n V).set k (jz_B g + k, .inr (ci, ((List.range (jz_f ci)).map fun i => jz_cv g (V k i)).set i (jz_cv g v)))) → va_S (jz_A g) s.heap H1 locs1 → W p (jz_l g) e R s m args below meth c H1 locs1 (n - n0) (1300 * (n - n0)) Qf (F0 m (pc + 3) lsA (st.map (jz_cv g))) := by
    intro H1 locs1 hP1 _ hS1
    rw [hset] at hP1
    exact kk p e R s m args below meth c Qf C H1 locs1 lsA ⟨hP1, jz_up_ok hP.2 (jz_hd hst)⟩ hS1 hn hn2 hL (jz_tl (jz_tl hst)) hls
  have hlen : i < ((List.range (jz_f ci)).map fun i => jz_cv g (V k i)).length := by simp [← hN, hi]
  show W _ _ _ _ _ _ _ _ _ _ _ _ _ _ _ (F0 m pc lsA (jz_cv g v :: .ref (jz_ad g k) :: st.map (jz_cv g)))
  rw [jz_ad_lo hk (by simp)]
  rcases hl with hl | ⟨hff, host, hl⟩
  · cases fin with
    | false => exact va_put C.1 C.2.1 C.2.2.2.2.1 hin ty0 hty hnm C.2.2.2.1 C.2.2.2.2.2.2.1 hP.1 jz_w_D hS k he hc i hi (C.2.2.2.2.1 _ hl) hsame hfi hpar f1 f2 hlen hd hkk
    | true => exact va_putF C.1 C.2.1 C.2.2.2.2.1 hin ty0 hty hnm C.2.2.2.1 C.2.2.2.2.2.2.1 hP.1 jz_w_D hS k he hc i hi (C.2.2.2.2.1 _ hl) hsame hfi (C.2.2.2.2.2.2.2.2.1.trans (hfin rfl)) (hC.trans (hown rfl)) hpar f1 f2 hlen hd hkk
  · subst hff
    exact va_putN C.1 C.2.1 C.2.2.2.2.1 hin ty0 hty hnm C.2.2.2.1 C.2.2.2.2.2.2.1 hP.1 jz_w_D hS k he hc i hi (va_Nw.use rfl (C.2.2.2.2.2.1 _ hl)) hsame hfi hpar f1 f2 hlen hd hkk
theorem jz_set_arr {t len j : Nat} {k : Nat} {w : jz_V} {y : vp_A} (hk : jz_t k = .inr (t, len)) (hy : jz_ar g t len (jz_up V k j w k) = y) : (jz_w g n V).set k (jz_B g + k, .inl (jz_c g t, y)) = jz_w g n (jz_up V k j w) :=
  jz_w_set (by rw [jz_e_arr hk, hy]) (fun _ hj => jz_up_o hj)
theorem jj_iald {k len : Nat} {j z : Int} (hd : decode (jm_c x) pc = .ok (.iaload, 1)) (hk : jz_t k = .inr (0, len)) (hkn : k < n) (h0 : 0 ≤ j) (h1 : j < len) (hv : V k j.toNat = ji z) (kk : jz_J g x n0 Q (pc + 1) ls (ji z :: st) n V) : jz_J g x n0 Q pc ls (ji j :: jr k :: st) n V := by
  intro p e R s m args below meth c Qf C H locs lsA hP hS hn hn2 hL hst hls
  have he : (jz_w g n V)[k]? = some (jz_B g + k, .inl (jz_c g 0, len, .inl fun i => jz_toI (V k i))) := by
    rw [jz_w_at hkn, jz_e_arr hk]; rfl
  have hj : jI j := jz_hd hst
  have hkk := kk p e R s m args below meth c Qf C H locs lsA hP hS hn hn2 hL (jz_consv (by rw [← hv]; exact hP.2 k _) (jz_tl (jz_tl hst))) hls
  show W _ _ _ _ _ _ _ _ _ _ _ _ _ _ _ (F0 m pc lsA (.int (Int32.ofInt j) :: .ref (jz_ad g k) :: st.map (jz_cv g)))
  rw [jz_ad_lo hk (by simp)]
  refine va_iald C.1 C.2.1 C.2.2.2.2.2.2.1 hP.1 k 0 he rfl (jz_in' hj h0 h1) hd ?_
  show W _ _ _ _ _ _ _ _ _ _ _ _ _ _ _ (F0 m (pc + 1) lsA (.int (jz_toI (V k (Int32.ofInt j).toNatClampNeg)) :: st.map (jz_cv g)))
  rw [jz_cl hj, hv]
  exact hkk
theorem jj_iast {k len : Nat} {j z : Int} (hd : decode (jm_c x) pc = .ok (.iastore, 1)) (hk : jz_t k = .inr (0, len)) (hkn : k < n) (h0 : 0 ≤ j) (h1 : j < len) (kk : jz_J g x n0 Q (pc + 1) ls st n (jz_up V k j.toNat (ji z))) : jz_J g x n0 Q pc ls (ji z :: ji j :: jr k :: st) n V := by
  intro p e R s m args below meth c Qf C H locs lsA hP hS hn hn2 hL hst hls
  have he : (jz_w g n V)[k]? = some (jz_B g + k, .inl (jz_c g 0, len, .inl fun i => jz_toI (V k i))) := by
    rw [jz_w_at hkn, jz_e_arr hk]; rfl
  have hj : jI j := jz_hd (jz_tl hst)
  show W _ _ _ _ _ _ _ _ _ _ _ _ _ _ _ (F0 m pc lsA (.int (Int32.ofInt z) :: .int (Int32.ofInt j) :: .ref (jz_ad g k) :: st.map (jz_cv g)))
  rw [jz_ad_lo hk (by simp)]
  refine va_iast C.1 C.2.1 C.2.2.2.2.2.2.1 hP.1 jz_w_D hS k 0 he rfl (jz_in' hj h0 h1) hd fun H1 locs1 hP1 _ hS1 => ?_
  rw [jz_set_arr (g := g) (n := n) (V := V) (j := j.toNat) (w := ji z) hk (by
    show (len, Sum.inl _) = _
    congr 2
    funext b
    rw [jz_cl hj]
    by_cases hb : b = j.toNat
    · subst hb; simp [jz_up, upd, jz_toI]
    · simp [jz_up, upd, hb])] at hP1
  exact kk p e R s m args below meth c Qf C H1 locs1 lsA ⟨hP1, jz_up_ok hP.2 (jz_hd hst)⟩ hS1 hn hn2 hL (jz_tl (jz_tl (jz_tl hst))) hls
theorem jj_bald {k len : Nat} {j z : Int} (hd : decode (jm_c x) pc = .ok (.baload, 1)) (hk : jz_t k = .inr (1, len)) (hkn : k < n) (h0 : 0 ≤ j) (h1 : j < len) (hv : V k j.toNat = ji z) (kk : jz_J g x n0 Q (pc + 1) ls (ji z :: st) n V) : jz_J g x n0 Q pc ls (ji j :: jr k :: st) n V := by
  intro p e R s m args below meth c Qf C H locs lsA hP hS hn hn2 hL hst hls
  have he : (jz_w g n V)[k]? = some (jz_B g + k, .inl (jz_c g 1, len, .inl fun i => jz_toI (V k i))) := by
    rw [jz_w_at hkn, jz_e_arr hk]; rfl
  have hj : jI j := jz_hd hst
  have hkk := kk p e R s m args below meth c Qf C H locs lsA hP hS hn hn2 hL (jz_consv (by rw [← hv]; exact hP.2 k _) (jz_tl (jz_tl hst))) hls
  show W _ _ _ _ _ _ _ _ _ _ _ _ _ _ _ (F0 m pc lsA (.int (Int32.ofInt j) :: .ref (jz_ad g k) :: st.map (jz_cv g)))
  rw [jz_ad_lo hk (by simp)]
  refine va_zald C.1 C.2.1 C.2.2.2.2.2.2.1 hP.1 k 1 he rfl (jz_in' hj h0 h1) hd ?_
  show W _ _ _ _ _ _ _ _ _ _ _ _ _ _ _ (F0 m (pc + 1) lsA (.int (jz_toI (V k (Int32.ofInt j).toNatClampNeg)) :: st.map (jz_cv g)))
  rw [jz_cl hj, hv]
  exact hkk
theorem jj_bast {k len : Nat} {j z : Int} (hd : decode (jm_c x) pc = .ok (.bastore, 1)) (hk : jz_t k = .inr (1, len)) (hkn : k < n) (h0 : 0 ≤ j) (h1 : j < len) (hz : z = 0 ∨ z = 1) (kk : jz_J g x n0 Q (pc + 1) ls st n (jz_up V k j.toNat (ji z))) : jz_J g x n0 Q pc ls (ji z :: ji j :: jr k :: st) n V := by
  intro p e R s m args below meth c Qf C H locs lsA hP hS hn hn2 hL hst hls
  have he : (jz_w g n V)[k]? = some (jz_B g + k, .inl (jz_c g 1, len, .inl fun i => jz_toI (V k i))) := by
    rw [jz_w_at hkn, jz_e_arr hk]; rfl
  have hj : jI j := jz_hd (jz_tl hst)
  have hnar : vp_nar .boolean (Int32.ofInt z) = Int32.ofInt z := by rcases hz with rfl | rfl <;> rfl
  show W _ _ _ _ _ _ _ _ _ _ _ _ _ _ _ (F0 m pc lsA (.int (Int32.ofInt z) :: .int (Int32.ofInt j) :: .ref (jz_ad g k) :: st.map (jz_cv g)))
  rw [jz_ad_lo hk (by simp)]
  refine va_zast C.1 C.2.1 C.2.2.2.2.2.2.1 hP.1 jz_w_D hS k 1 he rfl (jz_in' hj h0 h1) hd fun H1 locs1 hP1 _ hS1 => ?_
  rw [jz_set_arr (g := g) (n := n) (V := V) (j := j.toNat) (w := ji z) hk (by
    show (len, Sum.inl _) = _
    congr 2
    funext b
    rw [jz_cl hj, hnar]
    by_cases hb : b = j.toNat
    · subst hb; simp [jz_up, upd, jz_toI]
    · simp [jz_up, upd, hb])] at hP1
  exact kk p e R s m args below meth c Qf C H1 locs1 lsA ⟨hP1, jz_up_ok hP.2 (jz_hd hst)⟩ hS1 hn hn2 hL (jz_tl (jz_tl (jz_tl hst))) hls
theorem jz_ar_q {t len : Nat} {f : Nat → jz_V} (h : 2 ≤ t) : jz_ar g t len f = (len, .inr (.inr (.inr (.inr fun i => jz_toR g (f i))))) := by
  match t, h with
  | t + 2, _ => rfl
theorem jz_tys_q {t : Nat} (h : 2 ≤ t) (h5 : t ≤ 5) : ∃ C, (jz_tys g)[t]? = some (jz_c g t, .object C) := by
  match t, h, h5 with
  | 2, _, _ => exact ⟨_, rfl⟩
  | 3, _, _ => exact ⟨_, rfl⟩
  | 4, _, _ => exact ⟨_, rfl⟩
  | 5, _, _ => exact ⟨_, rfl⟩
theorem jz_rf_cv {o : Option Nat} : va_rf (jz_toR g (.inr (.inr o))) = jz_cv g (.inr (.inr o)) := by cases o <;> rfl
theorem jj_aald {k t len : Nat} {j : Int} {o : Option Nat} (hd : decode (jm_c x) pc = .ok (.aaload, 1)) (hk : jz_t k = .inr (t, len)) (ht : 2 ≤ t) (ht5 : t ≤ 5) (hkn : k < n) (h0 : 0 ≤ j) (h1 : j < len) (hv : V k j.toNat = .inr (.inr o)) (kk : jz_J g x n0 Q (pc + 1) ls (.inr (.inr o) :: st) n V) : jz_J g x n0 Q pc ls (ji j :: jr k :: st) n V := by
  intro p e R s m args below meth c Qf C H locs lsA hP hS hn hn2 hL hst hls
  have he : (jz_w g n V)[k]? = some (jz_B g + k, .inl (jz_c g t, len, .inr (.inr (.inr (.inr fun i => jz_toR g (V k i)))))) := by
    rw [jz_w_at hkn, jz_e_arr hk, jz_ar_q ht]
  obtain ⟨Cn, hty⟩ := jz_tys_q (g := g) ht ht5
  have hj : jI j := jz_hd hst
  have hkk := kk p e R s m args below meth c Qf C H locs lsA hP hS hn hn2 hL (jz_consv trivial (jz_tl (jz_tl hst))) hls
  show W _ _ _ _ _ _ _ _ _ _ _ _ _ _ _ (F0 m pc lsA (.int (Int32.ofInt j) :: .ref (jz_ad g k) :: st.map (jz_cv g)))
  rw [jz_ad_lo hk (by intro q; cases q; omega)]
  refine va_aldq C.1 C.2.1 C.2.2.2.2.2.2.1 hP.1 k t he hty (jz_in' hj h0 h1) hd ?_
  show W _ _ _ _ _ _ _ _ _ _ _ _ _ _ _ (F0 m (pc + 1) lsA (va_rf (jz_toR g (V k (Int32.ofInt j).toNatClampNeg)) :: st.map (jz_cv g)))
  rw [jz_cl hj, hv, jz_rf_cv]
  exact hkk
theorem jj_aast {k t len k2 ci : Nat} {r : vw_C} {j : Int} (hd : decode (jm_c x) pc = .ok (.aastore, 1)) (hk : jz_t k = .inr (t, len)) (ht : 2 ≤ t) (hkn : k < n) (h0 : 0 ≤ j) (h1 : j < len) (hk2 : jz_t k2 = .inl ci) (hkn2 : k2 < n) (hr : vwCl[ci]? = some r) (hty : (jz_tys g)[t]? = some (jz_c g t, .object r.1)) (kk : jz_J g x n0 Q (pc + 1) ls st n (jz_up V k j.toNat (jr k2))) : jz_J g x n0 Q pc ls (jr k2 :: ji j :: jr k :: st) n V := by
  intro p e R s m args below meth c Qf C H locs lsA hP hS hn hn2 hL hst hls
  have he : (jz_w g n V)[k]? = some (jz_B g + k, .inl (jz_c g t, len, .inr (.inr (.inr (.inr fun i => jz_toR g (V k i)))))) := by
    rw [jz_w_at hkn, jz_e_arr hk, jz_ar_q ht]
  have he2 : (jz_w g n V)[k2]? = some (jz_B g + k2, .inr (ci, (List.range (jz_f ci)).map fun i => jz_cv g (V k2 i))) := by
    rw [jz_w_at hkn2, jz_e_obj hk2]
  have hj : jI j := jz_hd (jz_tl hst)
  show W _ _ _ _ _ _ _ _ _ _ _ _ _ _ _ (F0 m pc lsA (.ref (jz_ad g k2) :: .int (Int32.ofInt j) :: .ref (jz_ad g k) :: st.map (jz_cv g)))
  rw [jz_ad_lo hk (by intro q; cases q; simp [jz_tys] at hty), jz_ad_lo hk2 (by simp)]
  refine va_astq C.1 C.2.1 C.2.2.2.2.2.2.1 hP.1 jz_w_D hS k t k2 ci he hty he2 hr (jz_in' hj h0 h1) hd fun H1 locs1 hP1 _ hS1 => ?_
  rw [jz_set_arr (g := g) (n := n) (V := V) (j := j.toNat) (w := jr k2) hk (by
    rw [jz_ar_q ht]
    congr 6
    funext b
    rw [jz_cl hj]
    by_cases hb : b = j.toNat
    · subst hb; simp [jz_up, va_up, jz_toR, jz_ad_lo hk2]
    · simp [jz_up, va_up, hb])] at hP1
  exact kk p e R s m args below meth c Qf C H1 locs1 lsA ⟨hP1, jz_up_ok hP.2 (jz_hd hst)⟩ hS1 hn hn2 hL (jz_tl (jz_tl (jz_tl hst))) hls
theorem jj_alen {k t len : Nat} {z : Int} (hd : decode (jm_c x) pc = .ok (.arraylength, 1)) (hk : jz_t k = .inr (t, len)) (ht5 : t ≤ 5) (hkn : k < n) (hz : (len : Int) = z) (hr : jI z) (kk : jz_J g x n0 Q (pc + 1) ls (ji z :: st) n V) : jz_J g x n0 Q pc ls (jr k :: st) n V := by
  intro p e R s m args below meth c Qf C H locs lsA hP hS hn hn2 hL hst hls
  have he : (jz_w g n V)[k]? = some (jz_B g + k, .inl (jz_c g t, jz_ar g t len (V k))) := by
    rw [jz_w_at hkn, jz_e_arr hk]
  have hty : ∃ ty, (jz_tys g)[t]? = some (jz_c g t, ty) := by
    match t, ht5 with
    | 0, _ => exact ⟨_, rfl⟩
    | 1, _ => exact ⟨_, rfl⟩
    | 2, _ => exact ⟨_, rfl⟩
    | 3, _ => exact ⟨_, rfl⟩
    | 4, _ => exact ⟨_, rfl⟩
    | 5, _ => exact ⟨_, rfl⟩
  obtain ⟨ty, hty⟩ := hty
  have hl : (jz_ar g t len (V k)).1 = len := by
    match t with
    | 0 => rfl
    | 1 => rfl
    | t + 2 => rfl
  subst hz
  show W _ _ _ _ _ _ _ _ _ _ _ _ _ _ _ (F0 m pc lsA (.ref (jz_ad g k) :: st.map (jz_cv g)))
  rw [jz_ad_lo hk (by intro q; cases q; omega)]
  exact va_alen C.1 C.2.1 C.2.2.2.2.2.2.1 hP.1 k t he hty (v := Int32.ofInt len) (by rw [hl, Int32.ofInt_eq_ofNat]) hd (kk p e R s m args below meth c Qf C H locs lsA hP hS hn hn2 hL (jz_consv (v := ji len) hr (jz_tl hst)) hls)
end JM
