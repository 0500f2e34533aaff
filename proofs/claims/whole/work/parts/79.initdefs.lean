/-! the first store of a run, cell by cell -/
def iz_s : jz_St := fun a b => if a = 417 ∧ b < 8 then -1 else 0
def iz_dv (a b : Nat) : jz_V := match jz_rf a b with
  | some _ => jn
  | none => ji 0
def iz_rel (a b : Nat) : Prop := match jz_t a with
  | .inl ci => b < jz_f ci
  | .inr (_, len) => b < len
def iz_D (n : Nat) (V : jz_S) : Prop := ∀ a b, n ≤ a → V a b = iz_dv a b
def iz_K (D : Nat → Nat → Prop) (V : jz_S) : Prop := ∀ a b, D a b → iz_rel a b → V a b = jz_mk iz_s a b
def iz_M (k n : Nat) (V : jz_S) : Prop := iz_K (fun a _ => k ≤ a ∧ a < n) V
def iz_F (k : Nat) (V0 V : jz_S) : Prop := ∀ a, a < k → V a = V0 a
theorem iz_relA {a b t len : Nat} (h : jz_t a = .inr (t, len)) (hr : iz_rel a b) : b < len := by
  unfold iz_rel at hr
  rw [h] at hr
  exact hr
theorem iz_relO {a b ci : Nat} (h : jz_t a = .inl ci) (hr : iz_rel a b) : b < jz_f ci := by
  unfold iz_rel at hr
  rw [h] at hr
  exact hr
theorem iz_same {a b : Nat} (h : jz_rf a b = none) (h2 : jz_fxc (jz_t a) b = false) (h3 : a ≠ 417) : iz_dv a b = jz_mk iz_s a b := by
  unfold iz_dv jz_mk iz_s
  rw [h]
  simp only
  rw [h2, if_neg (by decide), if_neg (by omega)]
theorem iz_dvi {a b : Nat} (h : jz_rf a b = none) : iz_dv a b = ji 0 := by
  unfold iz_dv
  rw [h]
theorem iz_dvr {a b r : Nat} (h : jz_rf a b = some r) : iz_dv a b = jn := by
  unfold iz_dv
  rw [h]
/-- the parts of a store that were done stay done; one more is -/
theorem iz_Kup {D D' : Nat → Nat → Prop} {V : jz_S} {k i : Nat} {v : jz_V} (h : iz_K D V) (hv : v = jz_mk iz_s k i) (hd : ∀ a b, D' a b → iz_rel a b → D a b ∨ (a = k ∧ b = i)) : iz_K D' (jz_up V k i v) := by
  intro a b h1 h2
  unfold jz_up
  by_cases e : a = k ∧ b = i
  · rw [if_pos e, e.1, e.2]; exact hv
  · rw [if_neg e]
    rcases hd a b h1 h2 with q | q
    · exact h a b q h2
    · exact absurd q e
theorem iz_Kw {D D' : Nat → Nat → Prop} {V : jz_S} (h : iz_K D V) (hd : ∀ a b, D' a b → iz_rel a b → D a b) : iz_K D' V := fun a b h1 h2 => h a b (hd a b h1 h2) h2
/-- cells that are as they were made, and made as they shall be -/
theorem iz_Knew {D D' : Nat → Nat → Prop} {V : jz_S} {n : Nat} (h : iz_K D V) (hV : iz_D n V) (hd : ∀ a b, D' a b → iz_rel a b → D a b ∨ (n ≤ a ∧ jz_rf a b = none ∧ jz_fxc (jz_t a) b = false ∧ a ≠ 417)) : iz_K D' V := by
  intro a b h1 h2
  rcases hd a b h1 h2 with q | q
  · exact h a b q h2
  · rw [hV a b q.1]; exact iz_same q.2.1 q.2.2.1 q.2.2.2
/-- a call has made the cells from k on -/
theorem iz_Kcall {D D' : Nat → Nat → Prop} {V V' : jz_S} {k n : Nat} (h : iz_K D V) (hF : iz_F k V V') (hM : iz_M k n V') (hd : ∀ a b, D' a b → iz_rel a b → (D a b ∧ a < k) ∨ (k ≤ a ∧ a < n)) : iz_K D' V' := by
  intro a b h1 h2
  rcases hd a b h1 h2 with q | q
  · rw [hF a q.2]; exact h a b q.1 h2
  · exact hM a b q h2
theorem iz_Dup {V : jz_S} {n k i : Nat} {v : jz_V} (h : iz_D n V) (hk : k < n) : iz_D n (jz_up V k i v) := by
  intro a b ha
  rw [jz_up_o (show a ≠ k by omega)]
  exact h a b ha
theorem iz_Dw {V : jz_S} {n m : Nat} (h : iz_D n V) (hk : n ≤ m) : iz_D m V := fun a b ha => h a b (by omega)
theorem iz_Fup {V0 V : jz_S} {n k i : Nat} {v : jz_V} (h : iz_F n V0 V) (hk : n ≤ k) : iz_F n V0 (jz_up V k i v) := by
  intro a ha
  rw [jz_up_o (show a ≠ k by omega)]
  exact h a ha
theorem iz_Fcall {V0 V V' : jz_S} {n k : Nat} (h : iz_F n V0 V) (h2 : iz_F k V V') (hk : n ≤ k) : iz_F n V0 V' := fun a ha => (h2 a (by omega)).trans (h a ha)
def iz_Q (x : jz_M) (k0 : Nat) (V0 : jz_S) : jz_Q := fun v n V => v = none ∧ iz_F k0 V0 V ∧ iz_M k0 n V ∧ iz_D n V
def iz_C (g : jz_G) (x : jz_M) (k0 : Nat) (av : List jz_V) (V0 : jz_S) : Prop := jz_K g x (k0 + 1) (jr k0 :: av) V0 (iz_Q x k0 V0)
section IZ
variable {g : jz_G} {x : jz_M} {n0 : Nat} {Q : jz_Q} {pc : Nat} {ls : List (Option jz_V)} {st : List jz_V} {n : Nat} {V : jz_S}
theorem iz_pad (m : Nat) (kk : jz_J g x n0 Q pc (ls ++ List.replicate m none) st n V) : jz_J g x n0 Q pc ls st n V := by
  refine jj_less (fun i v h => ?_) kk
  by_cases hi : i < ls.length
  · rwa [List.getElem?_append_left hi] at h
  · rw [List.getElem?_append_right (by omega), List.getElem?_replicate] at h
    split at h <;> cases h
theorem iz_call {idx k ci np : Nat} {y : jz_M} {av st' : List jz_V} (hd : decode (jm_c x) pc = .ok (.invokespecial idx, 3)) (hl : jz_ln (jm_o x) idx y) (hm : jz_myI y np) (hk : jz_t k = .inl ci) (hnp : av.length = np) (hst0 : st = av.reverse ++ jr k :: st') (hcat : (st'.map jz_ct).sum ≤ 8) (hdp : jm_d y + 1 ≤ jm_d x) (hcl : k + 1 + jm_k y ≤ n0 + jm_k x) (hn : n = k + 1) (hc : iz_C g y k av V)
    (kk : ∀ V' : jz_S, iz_F k V V' → iz_M k (k + 1 + jm_k y) V' → iz_D (k + 1 + jm_k y) V' → jz_J g x n0 Q (pc + 3) ls st' (k + 1 + jm_k y) V') : jz_J g x n0 Q pc ls st n V := by
  subst hn
  refine jj_callI hd hl hm hk hnp hst0 hcat hdp hcl hc fun v V' _ _ hq => ?_
  obtain ⟨rfl, h1, h2, h3⟩ := hq
  exact kk V' h1 h2 h3
theorem iz_n0 {n : Nat} (h : jz_t n = .inl 0) : ∀ k, k < 5 → iz_dv n k = jz_dv (tyX0 k) ∧ jz_dvt (tyX0 k) = true := by
  intro k hk
  unfold iz_dv jz_rf
  rw [h]
  match k, hk with
  | 0, _ => exact ⟨rfl, rfl⟩
  | 1, _ => exact ⟨rfl, rfl⟩
  | 2, _ => exact ⟨rfl, rfl⟩
  | 3, _ => exact ⟨rfl, rfl⟩
  | 4, _ => exact ⟨rfl, rfl⟩
  | k + 5, hk => omega
theorem iz_new0 {idx : Nat} (hd : decode (jm_c x) pc = .ok (.new idx, 3)) (hcl : Cond.classLink (jm_o x) idx RX0 ∈ jz_GW) (hk : jz_t n = .inl 0) (hD : iz_D n V) (hroom : n + 1 ≤ n0 + jm_k x) (kk : jz_J g x n0 Q (pc + 3) ls (jr n :: st) (n + 1) V) : jz_J g x n0 Q pc ls st n V := by
  obtain ⟨hc, hN, hin, -⟩ := kc0
  exact jj_new tyX0 hd hcl ki0 kj0 hc hN hin tyX0_ok hk (fun k h => by rw [hD n k (Nat.le_refl _)]; exact iz_n0 hk k h) (by decide) hroom kk
theorem iz_n1 {n : Nat} (h : jz_t n = .inl 1) : ∀ k, k < 7 → iz_dv n k = jz_dv (tyX1 k) ∧ jz_dvt (tyX1 k) = true := by
  intro k hk
  unfold iz_dv jz_rf
  rw [h]
  match k, hk with
  | 0, _ => exact ⟨rfl, rfl⟩
  | 1, _ => exact ⟨rfl, rfl⟩
  | 2, _ => exact ⟨rfl, rfl⟩
  | 3, _ => exact ⟨rfl, rfl⟩
  | 4, _ => exact ⟨rfl, rfl⟩
  | 5, _ => exact ⟨rfl, rfl⟩
  | 6, _ => exact ⟨rfl, rfl⟩
  | k + 7, hk => omega
theorem iz_new1 {idx : Nat} (hd : decode (jm_c x) pc = .ok (.new idx, 3)) (hcl : Cond.classLink (jm_o x) idx RX1 ∈ jz_GW) (hk : jz_t n = .inl 1) (hD : iz_D n V) (hroom : n + 1 ≤ n0 + jm_k x) (kk : jz_J g x n0 Q (pc + 3) ls (jr n :: st) (n + 1) V) : jz_J g x n0 Q pc ls st n V := by
  obtain ⟨hc, hN, hin, -⟩ := kc1
  exact jj_new tyX1 hd hcl ki1 kj1 hc hN hin tyX1_ok hk (fun k h => by rw [hD n k (Nat.le_refl _)]; exact iz_n1 hk k h) (by decide) hroom kk
theorem iz_n2 {n : Nat} (h : jz_t n = .inl 2) : ∀ k, k < 2 → iz_dv n k = jz_dv (tyX2 k) ∧ jz_dvt (tyX2 k) = true := by
  intro k hk
  unfold iz_dv jz_rf
  rw [h]
  match k, hk with
  | 0, _ => exact ⟨rfl, rfl⟩
  | 1, _ => exact ⟨rfl, rfl⟩
  | k + 2, hk => omega
theorem iz_new2 {idx : Nat} (hd : decode (jm_c x) pc = .ok (.new idx, 3)) (hcl : Cond.classLink (jm_o x) idx RX2 ∈ jz_GW) (hk : jz_t n = .inl 2) (hD : iz_D n V) (hroom : n + 1 ≤ n0 + jm_k x) (kk : jz_J g x n0 Q (pc + 3) ls (jr n :: st) (n + 1) V) : jz_J g x n0 Q pc ls st n V := by
  obtain ⟨hc, hN, hin, -⟩ := kc2
  exact jj_new tyX2 hd hcl ki2 kj2 hc hN hin tyX2_ok hk (fun k h => by rw [hD n k (Nat.le_refl _)]; exact iz_n2 hk k h) (by decide) hroom kk
theorem iz_n3 {n : Nat} (h : jz_t n = .inl 3) : ∀ k, k < 3 → iz_dv n k = jz_dv (tyX3 k) ∧ jz_dvt (tyX3 k) = true := by
  intro k hk
  unfold iz_dv jz_rf
  rw [h]
  match k, hk with
  | 0, _ => exact ⟨rfl, rfl⟩
  | 1, _ => exact ⟨rfl, rfl⟩
  | 2, _ => exact ⟨rfl, rfl⟩
  | k + 3, hk => omega
theorem iz_new3 {idx : Nat} (hd : decode (jm_c x) pc = .ok (.new idx, 3)) (hcl : Cond.classLink (jm_o x) idx RX3 ∈ jz_GW) (hk : jz_t n = .inl 3) (hD : iz_D n V) (hroom : n + 1 ≤ n0 + jm_k x) (kk : jz_J g x n0 Q (pc + 3) ls (jr n :: st) (n + 1) V) : jz_J g x n0 Q pc ls st n V := by
  obtain ⟨hc, hN, hin, -⟩ := kc3
  exact jj_new tyX3 hd hcl ki3 kj3 hc hN hin tyX3_ok hk (fun k h => by rw [hD n k (Nat.le_refl _)]; exact iz_n3 hk k h) (by decide) hroom kk
theorem iz_n4 {n : Nat} (h : jz_t n = .inl 4) : ∀ k, k < 4 → iz_dv n k = jz_dv (tyX4 k) ∧ jz_dvt (tyX4 k) = true := by
  intro k hk
  unfold iz_dv jz_rf
  rw [h]
  match k, hk with
  | 0, _ => exact ⟨rfl, rfl⟩
  | 1, _ => exact ⟨rfl, rfl⟩
  | 2, _ => exact ⟨rfl, rfl⟩
  | 3, _ => exact ⟨rfl, rfl⟩
  | k + 4, hk => omega
theorem iz_new4 {idx : Nat} (hd : decode (jm_c x) pc = .ok (.new idx, 3)) (hcl : Cond.classLink (jm_o x) idx RX4 ∈ jz_GW) (hk : jz_t n = .inl 4) (hD : iz_D n V) (hroom : n + 1 ≤ n0 + jm_k x) (kk : jz_J g x n0 Q (pc + 3) ls (jr n :: st) (n + 1) V) : jz_J g x n0 Q pc ls st n V := by
  obtain ⟨hc, hN, hin, -⟩ := kc4
  exact jj_new tyX4 hd hcl ki4 kj4 hc hN hin tyX4_ok hk (fun k h => by rw [hD n k (Nat.le_refl _)]; exact iz_n4 hk k h) (by decide) hroom kk
theorem iz_n5 {n : Nat} (h : jz_t n = .inl 5) : ∀ k, k < 8 → iz_dv n k = jz_dv (tyX5 k) ∧ jz_dvt (tyX5 k) = true := by
  intro k hk
  unfold iz_dv jz_rf
  rw [h]
  match k, hk with
  | 0, _ => exact ⟨rfl, rfl⟩
  | 1, _ => exact ⟨rfl, rfl⟩
  | 2, _ => exact ⟨rfl, rfl⟩
  | 3, _ => exact ⟨rfl, rfl⟩
  | 4, _ => exact ⟨rfl, rfl⟩
  | 5, _ => exact ⟨rfl, rfl⟩
  | 6, _ => exact ⟨rfl, rfl⟩
  | 7, _ => exact ⟨rfl, rfl⟩
  | k + 8, hk => omega
theorem iz_new5 {idx : Nat} (hd : decode (jm_c x) pc = .ok (.new idx, 3)) (hcl : Cond.classLink (jm_o x) idx RX5 ∈ jz_GW) (hk : jz_t n = .inl 5) (hD : iz_D n V) (hroom : n + 1 ≤ n0 + jm_k x) (kk : jz_J g x n0 Q (pc + 3) ls (jr n :: st) (n + 1) V) : jz_J g x n0 Q pc ls st n V := by
  obtain ⟨hc, hN, hin, -⟩ := kc5
  exact jj_new tyX5 hd hcl ki5 kj5 hc hN hin tyX5_ok hk (fun k h => by rw [hD n k (Nat.le_refl _)]; exact iz_n5 hk k h) (by decide) hroom kk
theorem iz_n6 {n : Nat} (h : jz_t n = .inl 6) : ∀ k, k < 7 → iz_dv n k = jz_dv (tyX6 k) ∧ jz_dvt (tyX6 k) = true := by
  intro k hk
  unfold iz_dv jz_rf
  rw [h]
  match k, hk with
  | 0, _ => exact ⟨rfl, rfl⟩
  | 1, _ => exact ⟨rfl, rfl⟩
  | 2, _ => exact ⟨rfl, rfl⟩
  | 3, _ => exact ⟨rfl, rfl⟩
  | 4, _ => exact ⟨rfl, rfl⟩
  | 5, _ => exact ⟨rfl, rfl⟩
  | 6, _ => exact ⟨rfl, rfl⟩
  | k + 7, hk => omega
theorem iz_new6 {idx : Nat} (hd : decode (jm_c x) pc = .ok (.new idx, 3)) (hcl : Cond.classLink (jm_o x) idx RX6 ∈ jz_GW) (hk : jz_t n = .inl 6) (hD : iz_D n V) (hroom : n + 1 ≤ n0 + jm_k x) (kk : jz_J g x n0 Q (pc + 3) ls (jr n :: st) (n + 1) V) : jz_J g x n0 Q pc ls st n V := by
  obtain ⟨hc, hN, hin, -⟩ := kc6
  exact jj_new tyX6 hd hcl ki6 kj6 hc hN hin tyX6_ok hk (fun k h => by rw [hD n k (Nat.le_refl _)]; exact iz_n6 hk k h) (by decide) hroom kk
theorem iz_n7 {n : Nat} (h : jz_t n = .inl 7) : ∀ k, k < 10 → iz_dv n k = jz_dv (tyX7 k) ∧ jz_dvt (tyX7 k) = true := by
  intro k hk
  unfold iz_dv jz_rf
  rw [h]
  match k, hk with
  | 0, _ => exact ⟨rfl, rfl⟩
  | 1, _ => exact ⟨rfl, rfl⟩
  | 2, _ => exact ⟨rfl, rfl⟩
  | 3, _ => exact ⟨rfl, rfl⟩
  | 4, _ => exact ⟨rfl, rfl⟩
  | 5, _ => exact ⟨rfl, rfl⟩
  | 6, _ => exact ⟨rfl, rfl⟩
  | 7, _ => exact ⟨rfl, rfl⟩
  | 8, _ => exact ⟨rfl, rfl⟩
  | 9, _ => exact ⟨rfl, rfl⟩
  | k + 10, hk => omega
theorem iz_new7 {idx : Nat} (hd : decode (jm_c x) pc = .ok (.new idx, 3)) (hcl : Cond.classLink (jm_o x) idx RX7 ∈ jz_GW) (hk : jz_t n = .inl 7) (hD : iz_D n V) (hroom : n + 1 ≤ n0 + jm_k x) (kk : jz_J g x n0 Q (pc + 3) ls (jr n :: st) (n + 1) V) : jz_J g x n0 Q pc ls st n V := by
  obtain ⟨hc, hN, hin, -⟩ := kc7
  exact jj_new tyX7 hd hcl ki7 kj7 hc hN hin tyX7_ok hk (fun k h => by rw [hD n k (Nat.le_refl _)]; exact iz_n7 hk k h) (by decide) hroom kk
theorem iz_n8 {n : Nat} (h : jz_t n = .inl 8) : ∀ k, k < 25 → iz_dv n k = jz_dv (tyX8 k) ∧ jz_dvt (tyX8 k) = true := by
  intro k hk
  unfold iz_dv jz_rf
  rw [h]
  match k, hk with
  | 0, _ => exact ⟨rfl, rfl⟩
  | 1, _ => exact ⟨rfl, rfl⟩
  | 2, _ => exact ⟨rfl, rfl⟩
  | 3, _ => exact ⟨rfl, rfl⟩
  | 4, _ => exact ⟨rfl, rfl⟩
  | 5, _ => exact ⟨rfl, rfl⟩
  | 6, _ => exact ⟨rfl, rfl⟩
  | 7, _ => exact ⟨rfl, rfl⟩
  | 8, _ => exact ⟨rfl, rfl⟩
  | 9, _ => exact ⟨rfl, rfl⟩
  | 10, _ => exact ⟨rfl, rfl⟩
  | 11, _ => exact ⟨rfl, rfl⟩
  | 12, _ => exact ⟨rfl, rfl⟩
  | 13, _ => exact ⟨rfl, rfl⟩
  | 14, _ => exact ⟨rfl, rfl⟩
  | 15, _ => exact ⟨rfl, rfl⟩
  | 16, _ => exact ⟨rfl, rfl⟩
  | 17, _ => exact ⟨rfl, rfl⟩
  | 18, _ => exact ⟨rfl, rfl⟩
  | 19, _ => exact ⟨rfl, rfl⟩
  | 20, _ => exact ⟨rfl, rfl⟩
  | 21, _ => exact ⟨rfl, rfl⟩
  | 22, _ => exact ⟨rfl, rfl⟩
  | 23, _ => exact ⟨rfl, rfl⟩
  | 24, _ => exact ⟨rfl, rfl⟩
  | k + 25, hk => omega
theorem iz_new8 {idx : Nat} (hd : decode (jm_c x) pc = .ok (.new idx, 3)) (hcl : Cond.classLink (jm_o x) idx RX8 ∈ jz_GW) (hk : jz_t n = .inl 8) (hD : iz_D n V) (hroom : n + 1 ≤ n0 + jm_k x) (kk : jz_J g x n0 Q (pc + 3) ls (jr n :: st) (n + 1) V) : jz_J g x n0 Q pc ls st n V := by
  obtain ⟨hc, hN, hin, -⟩ := kc8
  exact jj_new tyX8 hd hcl ki8 kj8 hc hN hin tyX8_ok hk (fun k h => by rw [hD n k (Nat.le_refl _)]; exact iz_n8 hk k h) (by decide) hroom kk
theorem iz_newa0 {len : Nat} {z : Int} (hd : decode (jm_c x) pc = .ok (.newarray .int, 2)) (hk : jz_t n = .inr (0, len)) (hz : z = len) (hlen : len ≤ 1300) (hD : iz_D n V) (hroom : n + 1 ≤ n0 + jm_k x) (kk : jz_J g x n0 Q (pc + 2) ls (jr n :: st) (n + 1) V) : jz_J g x n0 Q pc ls (ji z :: st) n V :=
  jj_newa (t := 0) (ty := .int) hd rfl kac_int rfl (by simp) (by decide) hk hz hlen (fun i => by rw [hD n i (Nat.le_refl _)]; exact iz_dvi (by unfold jz_rf; rw [hk]; rfl)) hroom kk
theorem iz_newa1 {len : Nat} {z : Int} (hd : decode (jm_c x) pc = .ok (.newarray .boolean, 2)) (hk : jz_t n = .inr (1, len)) (hz : z = len) (hlen : len ≤ 1300) (hD : iz_D n V) (hroom : n + 1 ≤ n0 + jm_k x) (kk : jz_J g x n0 Q (pc + 2) ls (jr n :: st) (n + 1) V) : jz_J g x n0 Q pc ls (ji z :: st) n V :=
  jj_newa (t := 1) (ty := .boolean) hd rfl kac_boolean rfl (by simp) (by decide) hk hz hlen (fun i => by rw [hD n i (Nat.le_refl _)]; exact iz_dvi (by unfold jz_rf; rw [hk]; rfl)) hroom kk
theorem iz_anew2 {idx len : Nat} {z : Int} (hd : decode (jm_c x) pc = .ok (.anewarray idx, 3)) (hcl : Cond.classLink (jm_o x) idx RX1 ∈ jz_GW) (hk : jz_t n = .inr (2, len)) (hz : z = len) (hlen : len ≤ 1300) (hD : iz_D n V) (hroom : n + 1 ≤ n0 + jm_k x) (kk : jz_J g x n0 Q (pc + 3) ls (jr n :: st) (n + 1) V) : jz_J g x n0 Q pc ls (ji z :: st) n V :=
  jj_anew (t := 2) hd hcl kov1 rfl (by decide) hk (by decide) hz hlen (fun i => by rw [hD n i (Nat.le_refl _)]; exact iz_dvr (by unfold jz_rf; rw [hk]; rfl)) hroom kk
theorem iz_anew3 {idx len : Nat} {z : Int} (hd : decode (jm_c x) pc = .ok (.anewarray idx, 3)) (hcl : Cond.classLink (jm_o x) idx RX0 ∈ jz_GW) (hk : jz_t n = .inr (3, len)) (hz : z = len) (hlen : len ≤ 1300) (hD : iz_D n V) (hroom : n + 1 ≤ n0 + jm_k x) (kk : jz_J g x n0 Q (pc + 3) ls (jr n :: st) (n + 1) V) : jz_J g x n0 Q pc ls (ji z :: st) n V :=
  jj_anew (t := 3) hd hcl kov0 rfl (by decide) hk (by decide) hz hlen (fun i => by rw [hD n i (Nat.le_refl _)]; exact iz_dvr (by unfold jz_rf; rw [hk]; rfl)) hroom kk
theorem iz_anew4 {idx len : Nat} {z : Int} (hd : decode (jm_c x) pc = .ok (.anewarray idx, 3)) (hcl : Cond.classLink (jm_o x) idx RX5 ∈ jz_GW) (hk : jz_t n = .inr (4, len)) (hz : z = len) (hlen : len ≤ 1300) (hD : iz_D n V) (hroom : n + 1 ≤ n0 + jm_k x) (kk : jz_J g x n0 Q (pc + 3) ls (jr n :: st) (n + 1) V) : jz_J g x n0 Q pc ls (ji z :: st) n V :=
  jj_anew (t := 4) hd hcl kov5 rfl (by decide) hk (by decide) hz hlen (fun i => by rw [hD n i (Nat.le_refl _)]; exact iz_dvr (by unfold jz_rf; rw [hk]; rfl)) hroom kk
theorem iz_anew5 {idx len : Nat} {z : Int} (hd : decode (jm_c x) pc = .ok (.anewarray idx, 3)) (hcl : Cond.classLink (jm_o x) idx RX4 ∈ jz_GW) (hk : jz_t n = .inr (5, len)) (hz : z = len) (hlen : len ≤ 1300) (hD : iz_D n V) (hroom : n + 1 ≤ n0 + jm_k x) (kk : jz_J g x n0 Q (pc + 3) ls (jr n :: st) (n + 1) V) : jz_J g x n0 Q pc ls (ji z :: st) n V :=
  jj_anew (t := 5) hd hcl kov4 rfl (by decide) hk (by decide) hz hlen (fun i => by rw [hD n i (Nat.le_refl _)]; exact iz_dvr (by unfold jz_rf; rw [hk]; rfl)) hroom kk
end IZ
