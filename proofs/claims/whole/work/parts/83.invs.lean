variable {y : MethodName}
/-! what holds of the first store -/
theorem iz_z {a b : Nat} (h : a ≠ 417) : iz_s a b = 0 := by
  unfold iz_s
  rw [if_neg (by omega)]
theorem iz_z7 {b : Nat} (h : b < 8) : iz_s 417 b = -1 := by
  unfold iz_s
  rw [if_pos ⟨rfl, h⟩]
theorem iz_b {a b : Nat} {lo hi : Int} (h : a ≠ 417) (h1 : lo ≤ 0) (h2 : 0 ≤ hi) : lo ≤ iz_s a b ∧ iz_s a b ≤ hi := by
  rw [iz_z h]
  exact ⟨h1, h2⟩
theorem iz_jR {k : Nat} {q : Nat → Int} (hk : k + 14 ≤ 417) (hq : ∀ x, q x = 0) : jR False 1 iz_s k q := by
  refine ⟨⟨?_, ?_, ?_, ?_, ?_⟩, fun l hl hc => ?_, fun l hl _ => iz_z (by omega), fun c hg hc => ?_⟩
  · rw [iz_z (by omega), hq]
  · rw [iz_z (by omega), hq]
  · rw [iz_z (by omega), hq]
  · rw [iz_z (by omega), hq]
  · rw [iz_z (by omega), hq]
  · rw [hq] at hc; omega
  · rw [hq] at hc; omega
theorem iz_hi (i : Nat) : 0 ≤ mHi i 999 := by
  unfold mHi
  (repeat' split) <;> omega
theorem iz_mRq {q : Nat → Int} (hq : ∀ x, q x = 0) : mRq q 999 := by
  refine ⟨fun i _ => ?_, fun l hl hc => ?_, fun h => ?_, fun _ => ⟨hq 3, hq 4⟩⟩
  · rw [hq]; exact ⟨Int.le_refl _, iz_hi i⟩
  · rw [hq] at hc; omega
  · rw [hq] at h; omega
theorem iz_CR : CR iz_s iz_s := by
  refine ⟨⟨?_, ?_⟩, iz_jR (by decide) (fun x => iz_z (by decide)), fun r hr => ⟨?_, fun h => ?_⟩, ⟨?_, fun p h => ?_⟩, ⟨?_, ⟨?_, ?_⟩, fun i h => ?_⟩, fun j hj => ⟨?_, fun h => ?_⟩, ⟨?_, fun i h => ?_⟩⟩
  · rw [iz_z (by decide), iz_z (by decide)]
  · rw [iz_z (by decide), iz_z (by decide)]
  · rw [iz_z7 hr, iz_z (by omega), if_pos (by decide)]
  · rw [iz_z7 hr] at h; omega
  · rw [iz_z (by decide), iz_z (by decide)]
  · rw [iz_z (by decide)] at h; omega
  · rw [iz_z (by decide), iz_z (by decide)]
  · rw [iz_z (by decide)]; decide
  · rw [iz_z (by decide)]; decide
  · rw [iz_z (by decide)] at h; omega
  · rw [iz_z (by omega), iz_z (by decide)]; decide
  · exact absurd (iz_z (by decide)) h
  · rw [iz_z (by decide), iz_z (by decide)]
  · rw [iz_z (by decide)] at h; omega
theorem iz_MI : MI iz_s := by
  have hq : mRq (iz_s 420) 999 := iz_mRq (fun x => iz_z (by decide))
  refine ⟨⟨⟨iz_z (by decide), fun r hr => ⟨?_, iz_b (by decide) (by decide) (by decide)⟩⟩, hq.1, iz_b (by decide) (by decide) (by decide), iz_b (by decide) (by decide) (by decide)⟩, hq, ⟨iz_b (by decide) (by decide) (by decide), fun p _ => iz_b (by decide) (by decide) (by decide)⟩, fun i h => ?_, fun j hj => ⟨Or.inl (iz_z (by decide)), fun h => absurd (iz_z (by decide)) h⟩⟩
  · rw [iz_z7 hr]; decide
  · rw [iz_z (by decide)] at h; omega
theorem iz_CI : CI iz_s := by
  refine ⟨⟨?_, ?_, ⟨?_, ?_⟩, iz_b (by decide) (by decide) (by decide), ⟨iz_b (by decide) (by decide) (by decide), iz_b (by decide) (by decide) (by decide)⟩, fun j hj => iz_b (by omega) (by decide) (by decide)⟩, fun i h => ?_, fun j hj h => ?_⟩
  · rw [iz_z (a := 344) (b := 6) (by decide)]
    exact ⟨iz_b (by decide) (by decide) (by decide), iz_b (by decide) (by decide) (by decide), iz_b (by decide) (by decide) (by decide), iz_b (by decide) (by decide) (by decide), iz_b (by decide) (by decide) (by decide), iz_b (by decide) (by decide) (by decide), fun j hj => ⟨iz_b (by omega) (by decide) (by decide), fun _ => iz_b (by omega) (by decide) (by decide)⟩, fun j hj => ⟨iz_b (by omega) (by decide) (by decide), iz_b (by omega) (by decide) (by decide), iz_b (by omega) (by decide) (by decide)⟩⟩
  · rw [iz_z (by decide)]; decide
  · rw [iz_z (by decide)]; decide
  · rw [iz_z (by decide)]; decide
  · rw [iz_z (by decide)] at h; omega
  · rw [iz_z (by omega)] at h; omega
theorem iz_Inv : Inv iz_s := by
  refine ⟨⟨iz_CR, iz_MI, iz_CI⟩, ?_, fun c hg => iz_b (by omega) (by decide) (by decide)⟩
  rw [iz_z (by decide)]
  decide
theorem iz_ok (k i : Nat) : jz_ok (jz_mk iz_s k i) := by
  unfold jz_mk
  cases jz_rf k i with
  | some r => trivial
  | none =>
    show jz_ok (if jz_fxc (jz_t k) i = true then ji (jz_nm k) else ji (iz_s k i))
    split
    · show jI (jz_nm k)
      unfold jz_nm
      (try simp only)
      (repeat' split) <;> omega
    · show jI (iz_s k i)
      unfold iz_s
      split <;> omega
/-! a store is but what its cells hold -/
theorem iz_arr {c : ClassId} {n : Nat} {f f' : Nat → Value} (h : ∀ i, i < n → f i = f' i) : arrV c n f = arrV c n f' := by
  have e : (fun j : Fin n => f j.val) = (fun j : Fin n => f' j.val) := funext fun j => h j.val j.isLt
  unfold arrV
  rw [e]
theorem iz_P {g : jz_G} {n : Nat} {V V' : jz_S} {H : Heap} (hP : jz_P g n V H) (h : ∀ a b, a < n → iz_rel a b → V a b = V' a b) (hok : ∀ k i, jz_ok (V' k i)) : jz_P g n V' H := by
  refine ⟨fun k q hq => ?_, hok⟩
  obtain ⟨hk, rfl⟩ := jz_w_some hq
  have h1 := hP.1 k _ (jz_w_at hk)
  rcases ht : jz_t k with ci | ⟨t, len⟩
  · rw [jz_e_obj ht] at h1 ⊢
    have e : ((List.range (jz_f ci)).map fun i => jz_cv g (V k i)) = ((List.range (jz_f ci)).map fun i => jz_cv g (V' k i)) := by
      refine List.map_congr_left (fun i hi => ?_)
      rw [h k i hk (iz_ro ht (List.mem_range.mp hi))]
    rw [← e]
    exact h1
  · rw [jz_e_arr ht] at h1 ⊢
    have hr : ∀ i, i < len → V k i = V' k i := fun i hi => h k i hk (by unfold iz_rel; rw [ht]; exact hi)
    have e : vp_cell (jz_c g t) (jz_ar g t len (V k)) = vp_cell (jz_c g t) (jz_ar g t len (V' k)) := by
      rcases Nat.lt_or_ge t 2 with q | q
      · match t, q with
        | 0, _ =>
          have e1 : ∀ f : Nat → jz_V, jz_ar g 0 len f = (len, .inl fun i => jz_toI (f i)) := fun _ => rfl
          rw [e1, e1, vp_cell_i, vp_cell_i]
          exact iz_arr (fun i hi => by rw [hr i hi])
        | 1, _ =>
          have e1 : ∀ f : Nat → jz_V, jz_ar g 1 len f = (len, .inl fun i => jz_toI (f i)) := fun _ => rfl
          rw [e1, e1, vp_cell_i, vp_cell_i]
          exact iz_arr (fun i hi => by rw [hr i hi])
      · rw [jz_ar_q q, jz_ar_q q, vp_cell_q, vp_cell_q]
        exact iz_arr (fun i hi => by rw [hr i hi])
    show H[jz_B g + k]? = some (vp_cell _ _)
    rw [← e]
    exact h1
theorem iz_cong {g : jz_G} {x : jz_M} {n0 : Nat} {Q : jz_Q} {pc : Nat} {ls : List (Option jz_V)} {st : List jz_V} {n : Nat} {V V' : jz_S} (h : ∀ a b, a < n → iz_rel a b → V a b = V' a b) (hok : ∀ k i, jz_ok (V' k i)) (kk : jz_J g x n0 Q pc ls st n V') : jz_J g x n0 Q pc ls st n V := by
  intro p e R s m args below meth c Qf C H locs lsA hP hS hn1 hn2 hL hst hls
  exact kk p e R s m args below meth c Qf C H locs lsA (iz_P hP h hok) hS hn1 hn2 hL hst hls
set_option maxRecDepth 100000 in
set_option maxHeartbeats 4000000 in
theorem law_all (g : jz_G) (hg : jz_L g ≤ 3584) : jz_J g (mLw y) 0 (jz_zq (jq_i (fun z _ => z = 1))) 0 [some (jr 1000), none, none, none] [] 0 iz_dv := by
  refine iz_new7 dL_law_0 kn_L_7 tt0 (fun _ _ _ => rfl) (Nat.le_of_ble_eq_true rfl) ?_
  refine jj_dup dL_law_3 (kk := ?_)
  refine iz_callN 416 rfl (k := 0) (av := []) (st' := [jr 0]) dL_law_4 kn_L_9 kmX7_init tt0 rfl rfl (Nat.le_of_ble_eq_true rfl) (Nat.le_of_ble_eq_true rfl) (Nat.le_of_ble_eq_true rfl) rfl (i_X7 g (fun _ _ _ => rfl)) (fun V1 a1 a2 a3 => ?_)
  refine jj_astore_n (ls' := [some (jr 1000), some (jr 0), none, none]) dL_law_7 (Nat.le_of_ble_eq_true rfl) rfl rfl ?_
  refine iz_new8 dL_law_8 kn_L_10 tt416 a3 (Nat.le_of_ble_eq_true rfl) ?_
  refine jj_dup dL_law_11 (kk := ?_)
  refine iz_callN 430 rfl (k := 416) (av := []) (st' := [jr 416]) dL_law_12 kn_L_12 kmX8_init tt416 rfl rfl (Nat.le_of_ble_eq_true rfl) (Nat.le_of_ble_eq_true rfl) (Nat.le_of_ble_eq_true rfl) rfl (i_X8 g a3) (fun V2 b1 b2 b3 => ?_)
  refine jj_astore_n (ls' := [some (jr 1000), some (jr 0), some (jr 416), none]) dL_law_15 (Nat.le_of_ble_eq_true rfl) rfl rfl ?_
  refine iz_cong (V' := jz_mk iz_s) (fun a b ha hr => ?_) iz_ok ?_
  · by_cases c : a < 416
    · exact (congrFun (b1 a c) b).trans (a2 a b ⟨Nat.zero_le _, c⟩ hr)
    · exact b2 a b ⟨by omega, ha⟩ hr
  · exact law_loop g hg iz_Inv
