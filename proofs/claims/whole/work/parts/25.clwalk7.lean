def v_X7_image (s : jz_St) (k : Int) : Int := if k = 0 ∨ k = 1 then (if s 344 2 ≤ 0 then -1000002 else 1) else -1000001
def f_X7_image (s : jz_St) (k : Int) : jz_St := if k = 0 then (if s 344 2 ≤ 0 then s else f_X5_take s 372 344) else if k = 1 then (if s 344 2 ≤ 0 then s else f_X5_take s 386 344) else s
set_option maxRecDepth 100000 in
set_option maxHeartbeats 4000000 in
theorem c_X7_image (g : jz_G) (s : jz_St) (k : Int) (hI : jInv s)  : jz_C g mX7_image [jr (0), ji (k)] s (jq_ie (v_X7_image s k) (f_X7_image s k)) := by
  refine zz_C_of koX7_image rfl (Nat.le_of_ble_eq_true rfl) ?_
  refine zz_pad 1 ?_
  show jz_Z g mX7_image (jq_ie (v_X7_image s k) (f_X7_image s k)) 0 [some (jr (0)), some (ji (k)), none] [] s
  obtain ⟨hN, hH, hP1, hP2, hT, hRw⟩ := hI
  refine jj_aload_n dX7_image_0 rfl ?_
  refine jj_iload_n dX7_image_1 rfl ?_
  refine zz_cVr (av := [ji (k)]) (st' := []) dX7_image_2 kn_X7_292 kmX7_imageAt tt0 rfl rfl rfl (Nat.le_of_ble_eq_true rfl) (by decide) rfl (c_X7_imageAt g s k) (fun ho2 => ?_)
  by_cases hk0 : k = 0
  · refine jj_topO (o' := some 372) (by unfold fImO; rw [if_pos hk0]) ?_
    refine jj_astore_n (ls' := [some (jr (0)), some (ji (k)), some (jr (372))]) dX7_image_5 (by decide) rfl rfl ?_
    refine jj_aload_n dX7_image_6 rfl ?_
    refine jj_ifnonnull (o := some (372)) (tgt := 13) dX7_image_7 (by decide) (fun _ _ => ?_) (fun h => by cases h)
    refine jj_aload_n dX7_image_13 rfl ?_
    refine zz_getR dX7_image_14 kf_X7_39 tt0 rfl ?_
    refine zz_cVi (av := []) (st' := []) dX7_image_17 kn_X7_139 kmX5_isThere tt344 rfl rfl rfl (Nat.le_of_ble_eq_true rfl) (by decide) rfl (c_X5_isThere g s 344 tt344) (fun hr17 ho17 => ?_)
    refine jj_if_ne (tgt := 26) dX7_image_20 (by decide) (fun h20 => ?_) (fun h20 => ?_)
    · have hg20 := by_t h20
      refine jj_aload_n dX7_image_26 rfl ?_
      refine jj_aload_n dX7_image_27 rfl ?_
      refine zz_getR dX7_image_28 kf_X7_39 tt0 rfl ?_
      refine zz_cVv (av := [jr (344)]) (st' := []) dX7_image_31 kn_X7_122 kmX5_take tt372 rfl rfl rfl (Nat.le_of_ble_eq_true rfl) (by decide) rfl (c_X5_take g s 372 344 tt372 tt344) (fun ho31 => ?_)
      refine jj_iconst dX7_image_34 (kk := ?_)
      refine zz_retie dX7_image_35 rfl (by decide) ?_ ?_
      · unfold v_X7_image; (repeat (first | rw [if_pos (by omega)] | rw [if_neg (by omega)])) <;> first | rfl | done
      · unfold f_X7_image; (repeat (first | rw [if_pos (by omega)] | rw [if_neg (by omega)])) <;> first | rfl | done
    · have hg20 := by_f h20
      refine jj_ldc dX7_image_23 kk_X7_138 (kk := ?_)
      refine zz_retie dX7_image_25 rfl (by decide) ?_ ?_
      · unfold v_X7_image; (repeat (first | rw [if_pos (by omega)] | rw [if_neg (by omega)])) <;> first | rfl | done
      · unfold f_X7_image; (repeat (first | rw [if_pos (by omega)] | rw [if_neg (by omega)])) <;> first | rfl | done
  by_cases hk1 : k = 1
  · refine jj_topO (o' := some 386) (by unfold fImO; rw [if_neg hk0, if_pos hk1]) ?_
    refine jj_astore_n (ls' := [some (jr (0)), some (ji (k)), some (jr (386))]) dX7_image_5 (by decide) rfl rfl ?_
    refine jj_aload_n dX7_image_6 rfl ?_
    refine jj_ifnonnull (o := some (386)) (tgt := 13) dX7_image_7 (by decide) (fun _ _ => ?_) (fun h => by cases h)
    refine jj_aload_n dX7_image_13 rfl ?_
    refine zz_getR dX7_image_14 kf_X7_39 tt0 rfl ?_
    refine zz_cVi (av := []) (st' := []) dX7_image_17 kn_X7_139 kmX5_isThere tt344 rfl rfl rfl (Nat.le_of_ble_eq_true rfl) (by decide) rfl (c_X5_isThere g s 344 tt344) (fun hr17 ho17 => ?_)
    refine jj_if_ne (tgt := 26) dX7_image_20 (by decide) (fun h20 => ?_) (fun h20 => ?_)
    · have hg20 := by_t h20
      refine jj_aload_n dX7_image_26 rfl ?_
      refine jj_aload_n dX7_image_27 rfl ?_
      refine zz_getR dX7_image_28 kf_X7_39 tt0 rfl ?_
      refine zz_cVv (av := [jr (344)]) (st' := []) dX7_image_31 kn_X7_122 kmX5_take tt386 rfl rfl rfl (Nat.le_of_ble_eq_true rfl) (by decide) rfl (c_X5_take g s 386 344 tt386 tt344) (fun ho31 => ?_)
      refine jj_iconst dX7_image_34 (kk := ?_)
      refine zz_retie dX7_image_35 rfl (by decide) ?_ ?_
      · unfold v_X7_image; (repeat (first | rw [if_pos (by omega)] | rw [if_neg (by omega)])) <;> first | rfl | done
      · unfold f_X7_image; (repeat (first | rw [if_pos (by omega)] | rw [if_neg (by omega)])) <;> first | rfl | done
    · have hg20 := by_f h20
      refine jj_ldc dX7_image_23 kk_X7_138 (kk := ?_)
      refine zz_retie dX7_image_25 rfl (by decide) ?_ ?_
      · unfold v_X7_image; (repeat (first | rw [if_pos (by omega)] | rw [if_neg (by omega)])) <;> first | rfl | done
      · unfold f_X7_image; (repeat (first | rw [if_pos (by omega)] | rw [if_neg (by omega)])) <;> first | rfl | done
  refine jj_topO (o' := none) (by unfold fImO; rw [if_neg hk0, if_neg hk1]) ?_
  refine jj_astore_nO (ls' := [some (jr (0)), some (ji (k)), some (jn)]) dX7_image_5 (by decide) rfl rfl ?_
  refine jj_aload_nO dX7_image_6 rfl ?_
  refine jj_ifnonnull (o := none) (tgt := 13) dX7_image_7 (by decide) (fun _ h => by cases h) (fun _ => ?_)
  refine jj_ldc dX7_image_10 kk_X7_61 (kk := ?_)
  refine zz_retie dX7_image_12 rfl (by decide) ?_ ?_
  · unfold v_X7_image; (repeat (first | rw [if_pos (by omega)] | rw [if_neg (by omega)])) <;> first | rfl | done
  · unfold f_X7_image; (repeat (first | rw [if_pos (by omega)] | rw [if_neg (by omega)])) <;> first | rfl | done

def v_X7_restore (s : jz_St) (k : Int) : Int := if k = 0 then (if s 372 2 ≤ 0 then -1000002 else 1) else if k = 1 then (if s 386 2 ≤ 0 then -1000002 else 1) else -1000001
def f_X7_restore (s : jz_St) (k : Int) : jz_St := if k = 0 then (if s 372 2 ≤ 0 then s else jz_su (f_X5_take s 344 372) 4 2 0) else if k = 1 then (if s 386 2 ≤ 0 then s else jz_su (f_X5_take s 344 386) 4 2 0) else s
set_option maxRecDepth 100000 in
set_option maxHeartbeats 4000000 in
theorem c_X7_restore (g : jz_G) (s : jz_St) (k : Int) (hI : jInv s)  : jz_C g mX7_restore [jr (0), ji (k)] s (jq_ie (v_X7_restore s k) (f_X7_restore s k)) := by
  refine zz_C_of koX7_restore rfl (Nat.le_of_ble_eq_true rfl) ?_
  refine zz_pad 1 ?_
  show jz_Z g mX7_restore (jq_ie (v_X7_restore s k) (f_X7_restore s k)) 0 [some (jr (0)), some (ji (k)), none] [] s
  obtain ⟨hN, hH, hP1, hP2, hT, hRw⟩ := hI
  refine jj_aload_n dX7_restore_0 rfl ?_
  refine jj_iload_n dX7_restore_1 rfl ?_
  refine zz_cVr (av := [ji (k)]) (st' := []) dX7_restore_2 kn_X7_292 kmX7_imageAt tt0 rfl rfl rfl (Nat.le_of_ble_eq_true rfl) (by decide) rfl (c_X7_imageAt g s k) (fun ho2 => ?_)
  by_cases hk0 : k = 0
  · refine jj_topO (o' := some 372) (by unfold fImO; rw [if_pos hk0]) ?_
    refine jj_astore_n (ls' := [some (jr (0)), some (ji (k)), some (jr (372))]) dX7_restore_5 (by decide) rfl rfl ?_
    refine jj_aload_n dX7_restore_6 rfl ?_
    refine jj_ifnonnull (o := some (372)) (tgt := 13) dX7_restore_7 (by decide) (fun _ _ => ?_) (fun h => by cases h)
    refine jj_aload_n dX7_restore_13 rfl ?_
    refine zz_cVi (av := []) (st' := []) dX7_restore_14 kn_X7_139 kmX5_isThere tt372 rfl rfl rfl (Nat.le_of_ble_eq_true rfl) (by decide) rfl (c_X5_isThere g s 372 tt372) (fun hr14 ho14 => ?_)
    refine jj_if_ne (tgt := 23) dX7_restore_17 (by decide) (fun h17 => ?_) (fun h17 => ?_)
    · have hg17 := by_t h17
      refine jj_aload_n dX7_restore_23 rfl ?_
      refine zz_getR dX7_restore_24 kf_X7_39 tt0 rfl ?_
      refine jj_aload_n dX7_restore_27 rfl ?_
      refine zz_cVv (av := [jr (372)]) (st' := []) dX7_restore_28 kn_X7_122 kmX5_take tt344 rfl rfl rfl (Nat.le_of_ble_eq_true rfl) (by decide) rfl (c_X5_take g s 344 372 tt344 tt372) (fun ho28 => ?_)
      refine jj_aload_n dX7_restore_31 rfl ?_
      refine zz_getR dX7_restore_32 kf_X7_25 tt0 rfl ?_
      refine zz_cVv (av := []) (st' := []) dX7_restore_35 kn_X7_126 kmX3_forget tt4 rfl rfl rfl (Nat.le_of_ble_eq_true rfl) (by decide) rfl (c_X3_forget g (f_X5_take s 344 372)) (fun ho35 => ?_)
      refine jj_iconst dX7_restore_38 (kk := ?_)
      refine zz_retie dX7_restore_39 rfl (by decide) ?_ ?_
      · unfold v_X7_restore; (repeat (first | rw [if_pos (by omega)] | rw [if_neg (by omega)])) <;> first | rfl | done
      · unfold f_X7_restore; (repeat (first | rw [if_pos (by omega)] | rw [if_neg (by omega)])) <;> first | rfl | done
    · have hg17 := by_f h17
      refine jj_ldc dX7_restore_20 kk_X7_138 (kk := ?_)
      refine zz_retie dX7_restore_22 rfl (by decide) ?_ ?_
      · unfold v_X7_restore; (repeat (first | rw [if_pos (by omega)] | rw [if_neg (by omega)])) <;> first | rfl | done
      · unfold f_X7_restore; (repeat (first | rw [if_pos (by omega)] | rw [if_neg (by omega)])) <;> first | rfl | done
  by_cases hk1 : k = 1
  · refine jj_topO (o' := some 386) (by unfold fImO; rw [if_neg hk0, if_pos hk1]) ?_
    refine jj_astore_n (ls' := [some (jr (0)), some (ji (k)), some (jr (386))]) dX7_restore_5 (by decide) rfl rfl ?_
    refine jj_aload_n dX7_restore_6 rfl ?_
    refine jj_ifnonnull (o := some (386)) (tgt := 13) dX7_restore_7 (by decide) (fun _ _ => ?_) (fun h => by cases h)
    refine jj_aload_n dX7_restore_13 rfl ?_
    refine zz_cVi (av := []) (st' := []) dX7_restore_14 kn_X7_139 kmX5_isThere tt386 rfl rfl rfl (Nat.le_of_ble_eq_true rfl) (by decide) rfl (c_X5_isThere g s 386 tt386) (fun hr14 ho14 => ?_)
    refine jj_if_ne (tgt := 23) dX7_restore_17 (by decide) (fun h17 => ?_) (fun h17 => ?_)
    · have hg17 := by_t h17
      refine jj_aload_n dX7_restore_23 rfl ?_
      refine zz_getR dX7_restore_24 kf_X7_39 tt0 rfl ?_
      refine jj_aload_n dX7_restore_27 rfl ?_
      refine zz_cVv (av := [jr (386)]) (st' := []) dX7_restore_28 kn_X7_122 kmX5_take tt344 rfl rfl rfl (Nat.le_of_ble_eq_true rfl) (by decide) rfl (c_X5_take g s 344 386 tt344 tt386) (fun ho28 => ?_)
      refine jj_aload_n dX7_restore_31 rfl ?_
      refine zz_getR dX7_restore_32 kf_X7_25 tt0 rfl ?_
      refine zz_cVv (av := []) (st' := []) dX7_restore_35 kn_X7_126 kmX3_forget tt4 rfl rfl rfl (Nat.le_of_ble_eq_true rfl) (by decide) rfl (c_X3_forget g (f_X5_take s 344 386)) (fun ho35 => ?_)
      refine jj_iconst dX7_restore_38 (kk := ?_)
      refine zz_retie dX7_restore_39 rfl (by decide) ?_ ?_
      · unfold v_X7_restore; (repeat (first | rw [if_pos (by omega)] | rw [if_neg (by omega)])) <;> first | rfl | done
      · unfold f_X7_restore; (repeat (first | rw [if_pos (by omega)] | rw [if_neg (by omega)])) <;> first | rfl | done
    · have hg17 := by_f h17
      refine jj_ldc dX7_restore_20 kk_X7_138 (kk := ?_)
      refine zz_retie dX7_restore_22 rfl (by decide) ?_ ?_
      · unfold v_X7_restore; (repeat (first | rw [if_pos (by omega)] | rw [if_neg (by omega)])) <;> first | rfl | done
      · unfold f_X7_restore; (repeat (first | rw [if_pos (by omega)] | rw [if_neg (by omega)])) <;> first | rfl | done
  refine jj_topO (o' := none) (by unfold fImO; rw [if_neg hk0, if_neg hk1]) ?_
  refine jj_astore_nO (ls' := [some (jr (0)), some (ji (k)), some (jn)]) dX7_restore_5 (by decide) rfl rfl ?_
  refine jj_aload_nO dX7_restore_6 rfl ?_
  refine jj_ifnonnull (o := none) (tgt := 13) dX7_restore_7 (by decide) (fun _ h => by cases h) (fun _ => ?_)
  refine jj_ldc dX7_restore_10 kk_X7_61 (kk := ?_)
  refine zz_retie dX7_restore_12 rfl (by decide) ?_ ?_
  · unfold v_X7_restore; (repeat (first | rw [if_pos (by omega)] | rw [if_neg (by omega)])) <;> first | rfl | done
  · unfold f_X7_restore; (repeat (first | rw [if_pos (by omega)] | rw [if_neg (by omega)])) <;> first | rfl | done

def v_X7_kind (s : jz_St) (l : Int) : Int := if (0 ≤ l ∧ l < s 344 2 ∧ l < 7) then s (344 + 3 + l.toNat) 1 else -1000001
set_option maxRecDepth 100000 in
set_option maxHeartbeats 4000000 in
theorem c_X7_kind (g : jz_G) (s : jz_St) (l : Int) (hI : jInv s)  : jz_C g mX7_kind [jr (0), ji (l)] s (jq_ie (v_X7_kind s l) s) := by
  refine zz_C_of koX7_kind rfl (Nat.le_of_ble_eq_true rfl) ?_
  refine zz_pad 1 ?_
  show jz_Z g mX7_kind (jq_ie (v_X7_kind s l) s) 0 [some (jr (0)), some (ji (l)), none] [] s
  obtain ⟨hN, hH, hP1, hP2, hT, hRw⟩ := hI
  refine jj_aload_n dX7_kind_0 rfl ?_
  refine zz_getR dX7_kind_1 kf_X7_39 tt0 rfl ?_
  refine jj_iload_n dX7_kind_4 rfl ?_
  refine zz_cVr (av := [ji (l)]) (st' := []) dX7_kind_5 kn_X7_153 kmX5_leafAt tt344 rfl rfl rfl (Nat.le_of_ble_eq_true rfl) (by decide) rfl (c_X5_leafAt g s 344 tt344 l) (fun ho5 => ?_)
  by_cases hc5 : 0 ≤ l ∧ l < s 344 2 ∧ l < 7
  · refine jj_topO (o' := some (344 + 3 + l.toNat)) (if_pos hc5) ?_
    refine jj_astore_n (ls' := [some (jr (0)), some (ji (l)), some (jr (344 + 3 + l.toNat))]) dX7_kind_8 (by decide) rfl rfl ?_
    refine jj_aload_n dX7_kind_9 rfl ?_
    refine jj_ifnonnull (o := some (344 + 3 + l.toNat)) (tgt := 18) dX7_kind_10 (by decide) (fun _ _ => ?_) (fun h => by cases h)
    refine jj_aload_n dX7_kind_18 rfl ?_
    refine zz_getI dX7_kind_19 kf_X7_296 (jz_t_leaf tt344 (by omega)) rfl rfl ?_
    refine zz_retie dX7_kind_22 rfl (by decide) ?_ ?_
    · unfold v_X7_kind; (repeat (first | rw [if_pos (by omega)] | rw [if_neg (by omega)])) <;> first | rfl | done
    · rfl
  · refine jj_topO (o' := none) (if_neg hc5) ?_
    refine jj_astore_nO (ls' := [some (jr (0)), some (ji (l)), some (jn)]) dX7_kind_8 (by decide) rfl rfl ?_
    refine jj_aload_nO dX7_kind_9 rfl ?_
    refine jj_ifnonnull (o := none) (tgt := 18) dX7_kind_10 (by decide) (fun _ h => by cases h) (fun _ => ?_)
    refine jj_ldc dX7_kind_13 kk_X7_61 (kk := ?_)
    refine jj_goto (tgt := 22) dX7_kind_15 (by decide) ?_
    refine zz_retie dX7_kind_22 rfl (by decide) ?_ ?_
    · unfold v_X7_kind; (repeat (first | rw [if_pos (by omega)] | rw [if_neg (by omega)])) <;> first | rfl | done
    · rfl

def v_X7_as (s : jz_St) (l c : Int) : Int := if (0 ≤ l ∧ l < s 344 2 ∧ l < 7) ∧ 0 ≤ c ∧ c ≤ 5 then (if c = 0 ∨ c = s (344 + 3 + l.toNat) 1 ∨ c = fBroad (s (344 + 3 + l.toNat) 1) then l else -1000013) else -1000001
def f_X7_as (s : jz_St) (l c : Int) : jz_St := if (0 ≤ l ∧ l < s 344 2 ∧ l < 7) ∧ 0 ≤ c ∧ c ≤ 5 then (if c = 0 ∨ c = s (344 + 3 + l.toNat) 1 ∨ c = fBroad (s (344 + 3 + l.toNat) 1) then jz_su s 0 8 0 else jz_su s 0 8 3) else s
set_option maxRecDepth 100000 in
set_option maxHeartbeats 4000000 in
theorem c_X7_as (g : jz_G) (s : jz_St) (l c : Int) (hI : jInv s)  : jz_C g mX7_as [jr (0), ji (l), ji (c)] s (jq_ie (v_X7_as s l c) (f_X7_as s l c)) := by
  refine zz_C_of koX7_as rfl (Nat.le_of_ble_eq_true rfl) ?_
  refine zz_pad 1 ?_
  show jz_Z g mX7_as (jq_ie (v_X7_as s l c) (f_X7_as s l c)) 0 [some (jr (0)), some (ji (l)), some (ji (c)), none] [] s
  obtain ⟨hN, hH, hP1, hP2, hT, hRw⟩ := hI
  refine jj_aload_n dX7_as_0 rfl ?_
  refine zz_getR dX7_as_1 kf_X7_39 tt0 rfl ?_
  refine jj_iload_n dX7_as_4 rfl ?_
  refine zz_cVr (av := [ji (l)]) (st' := []) dX7_as_5 kn_X7_153 kmX5_leafAt tt344 rfl rfl rfl (Nat.le_of_ble_eq_true rfl) (by decide) rfl (c_X5_leafAt g s 344 tt344 l) (fun ho5 => ?_)
  by_cases hc5 : 0 ≤ l ∧ l < s 344 2 ∧ l < 7
  · refine jj_topO (o' := some (344 + 3 + l.toNat)) (if_pos hc5) ?_
    refine jj_astore_n (ls' := [some (jr (0)), some (ji (l)), some (ji (c)), some (jr (344 + 3 + l.toNat))]) dX7_as_8 (by decide) rfl rfl ?_
    refine jj_aload_n dX7_as_9 rfl ?_
    refine jj_ifnull (o := some (344 + 3 + l.toNat)) (tgt := 22) dX7_as_10 (by decide) (fun h => by cases h) (fun _ _ => ?_)
    refine jj_iload_n dX7_as_13 rfl ?_
    refine jj_iconst dX7_as_14 (kk := ?_)
    refine jj_iconst dX7_as_15 (kk := ?_)
    refine zz_cSi (av := [ji (c), ji (0), ji (5)]) (st' := []) dX7_as_16 kn_X7_57 kmX7_isWithin rfl rfl (Nat.le_of_ble_eq_true rfl) (by decide) rfl (c_X7_isWithin g s c 0 5) (fun hr16 ho16 => ?_)
    refine jj_if_ne (tgt := 25) dX7_as_19 (by decide) (fun h19 => ?_) (fun h19 => ?_)
    · have hg19 := bz_t h19
      refine jj_iload_n dX7_as_25 rfl ?_
      refine jj_if_eq (tgt := 54) dX7_as_26 (by decide) (fun h26 => ?_) (fun h26 => ?_)
      · refine jj_aload_n dX7_as_54 rfl ?_
        refine jj_iconst dX7_as_55 (kk := ?_)
        refine zz_putI dX7_as_56 kw_X7_66 tt0 rfl rfl ?_
        refine jj_iload_n dX7_as_59 rfl ?_
        refine zz_retie dX7_as_60 rfl (by decide) ?_ ?_
        · unfold v_X7_as; (repeat (first | rw [if_pos (by omega)] | rw [if_neg (by omega)])) <;> first | rfl | done
        · unfold f_X7_as; (repeat (first | rw [if_pos (by omega)] | rw [if_neg (by omega)])) <;> first | rfl | done
      · refine jj_iload_n dX7_as_29 rfl ?_
        refine jj_aload_n dX7_as_30 rfl ?_
        refine zz_getI dX7_as_31 kf_X7_296 (jz_t_leaf tt344 (by omega)) rfl rfl ?_
        refine jj_icmp_eq (tgt := 54) dX7_as_34 (by decide) (fun h34 => ?_) (fun h34 => ?_)
        · refine jj_aload_n dX7_as_54 rfl ?_
          refine jj_iconst dX7_as_55 (kk := ?_)
          refine zz_putI dX7_as_56 kw_X7_66 tt0 rfl rfl ?_
          refine jj_iload_n dX7_as_59 rfl ?_
          refine zz_retie dX7_as_60 rfl (by decide) ?_ ?_
          · unfold v_X7_as; (repeat (first | rw [if_pos (by omega)] | rw [if_neg (by omega)])) <;> first | rfl | done
          · unfold f_X7_as; (repeat (first | rw [if_pos (by omega)] | rw [if_neg (by omega)])) <;> first | rfl | done
        · refine jj_iload_n dX7_as_37 rfl ?_
          refine jj_aload_n dX7_as_38 rfl ?_
          refine zz_getI dX7_as_39 kf_X7_296 (jz_t_leaf tt344 (by omega)) rfl rfl ?_
          refine zz_cSi (av := [ji (s (344 + 3 + l.toNat) 1)]) (st' := [ji (c)]) dX7_as_42 kn_X7_299 kmX7_broader rfl rfl (Nat.le_of_ble_eq_true rfl) (by decide) rfl (c_X7_broader g s (s (344 + 3 + l.toNat) 1)) (fun hr42 ho42 => ?_)
          refine jj_icmp_eq (tgt := 54) dX7_as_45 (by decide) (fun h45 => ?_) (fun h45 => ?_)
          · refine jj_aload_n dX7_as_54 rfl ?_
            refine jj_iconst dX7_as_55 (kk := ?_)
            refine zz_putI dX7_as_56 kw_X7_66 tt0 rfl rfl ?_
            refine jj_iload_n dX7_as_59 rfl ?_
            refine zz_retie dX7_as_60 rfl (by decide) ?_ ?_
            · unfold v_X7_as; (repeat (first | rw [if_pos (by omega)] | rw [if_neg (by omega)])) <;> first | rfl | done
            · unfold f_X7_as; (repeat (first | rw [if_pos (by omega)] | rw [if_neg (by omega)])) <;> first | rfl | done
          · refine jj_aload_n dX7_as_48 rfl ?_
            refine jj_iconst dX7_as_49 (kk := ?_)
            refine zz_cVi (av := [ji (3)]) (st' := []) dX7_as_50 kn_X7_62 kmX7_found tt0 rfl rfl rfl (Nat.le_of_ble_eq_true rfl) (by decide) rfl (c_X7_found g s 3 (by omega)) (fun hr50 ho50 => ?_)
            refine zz_retie dX7_as_53 rfl (by decide) ?_ ?_
            · unfold v_X7_as; (repeat (first | rw [if_pos (by omega)] | rw [if_neg (by omega)])) <;> first | rfl | done
            · unfold f_X7_as; (repeat (first | rw [if_pos (by omega)] | rw [if_neg (by omega)])) <;> first | rfl | done
    · have hg19 := bz_f h19
      refine jj_ldc dX7_as_22 kk_X7_61 (kk := ?_)
      refine zz_retie dX7_as_24 rfl (by decide) ?_ ?_
      · unfold v_X7_as; (repeat (first | rw [if_pos (by omega)] | rw [if_neg (by omega)])) <;> first | rfl | done
      · unfold f_X7_as; (repeat (first | rw [if_pos (by omega)] | rw [if_neg (by omega)])) <;> first | rfl | done
  · refine jj_topO (o' := none) (if_neg hc5) ?_
    refine jj_astore_nO (ls' := [some (jr (0)), some (ji (l)), some (ji (c)), some (jn)]) dX7_as_8 (by decide) rfl rfl ?_
    refine jj_aload_nO dX7_as_9 rfl ?_
    refine jj_ifnull (o := none) (tgt := 22) dX7_as_10 (by decide) (fun _ => ?_) (fun _ h => by cases h)
    refine jj_ldc dX7_as_22 kk_X7_61 (kk := ?_)
    refine zz_retie dX7_as_24 rfl (by decide) ?_ ?_
    · unfold v_X7_as; (repeat (first | rw [if_pos (by omega)] | rw [if_neg (by omega)])) <;> first | rfl | done
    · unfold f_X7_as; (repeat (first | rw [if_pos (by omega)] | rw [if_neg (by omega)])) <;> first | rfl | done

def v_X7_count (s : jz_St) (w : Int) : Int := if w = 0 then fRT s 8 else if w = 1 then s 344 2 else if w = 2 then s 344 3 else if w = 3 then s 344 6 else if w = 4 then fIF s 344 7 else if w = 5 then fLA s 344 7 else if w = 6 then s 4 2 else if w = 7 then s 2 1 else -1000001
set_option maxRecDepth 100000 in
set_option maxHeartbeats 4000000 in
theorem c_X7_count (g : jz_G) (s : jz_St) (w : Int) (hI : jInv s)  : jz_C g mX7_count [jr (0), ji (w)] s (jq_ie (v_X7_count s w) s) := by
  refine zz_C_of koX7_count rfl (Nat.le_of_ble_eq_true rfl) ?_
  refine zz_pad 0 ?_
  show jz_Z g mX7_count (jq_ie (v_X7_count s w) s) 0 [some (jr (0)), some (ji (w))] [] s
  obtain ⟨hN, hH, hP1, hP2, hT, hRw⟩ := hI
  refine jj_iload_n dX7_count_0 rfl ?_
  by_cases ht1 : (w) < 0 ∨ 7 < (w)
  · refine jj_tswO (tgt := 109) dX7_count_1 ht1 (by decide) ?_
    refine jj_ldc dX7_count_109 kk_X7_61 (kk := ?_)
    refine zz_retie dX7_count_111 rfl (by decide) ?_ ?_
    · unfold v_X7_count; (repeat (first | rw [if_pos (by omega)] | rw [if_neg (by omega)])) <;> first | rfl | done
    · rfl
  · have hc1 : (w) = 0 ∨ (w) = 1 ∨ (w) = 2 ∨ (w) = 3 ∨ (w) = 4 ∨ (w) = 5 ∨ (w) = 6 ∨ (w) = 7 := by omega
    rcases hc1 with hv1 | hv1 | hv1 | hv1 | hv1 | hv1 | hv1 | hv1
    · refine jj_tswI (off := 47) (tgt := 48) dX7_count_1 (by omega) (by omega) (by rw [hv1]; rfl) (by decide) ?_
      refine jj_aload_n dX7_count_48 rfl ?_
      refine zz_cVi (av := []) (st' := []) dX7_count_49 kn_X7_313 kmX7_rowsThere tt0 rfl rfl rfl (Nat.le_of_ble_eq_true rfl) (by decide) rfl (c_X7_rowsThere g s) (fun hr49 ho49 => ?_)
      refine zz_retie dX7_count_52 rfl (by decide) ?_ ?_
      · unfold v_X7_count; (repeat (first | rw [if_pos (by omega)] | rw [if_neg (by omega)])) <;> first | rfl | done
      · rfl
    · refine jj_tswI (off := 52) (tgt := 53) dX7_count_1 (by omega) (by omega) (by rw [hv1]; rfl) (by decide) ?_
      refine jj_aload_n dX7_count_53 rfl ?_
      refine zz_getR dX7_count_54 kf_X7_39 tt0 rfl ?_
      refine zz_getI dX7_count_57 kf_X7_129 tt344 rfl rfl ?_
      refine zz_retie dX7_count_60 rfl (by decide) ?_ ?_
      · unfold v_X7_count; (repeat (first | rw [if_pos (by omega)] | rw [if_neg (by omega)])) <;> first | rfl | done
      · rfl
    · refine jj_tswI (off := 60) (tgt := 61) dX7_count_1 (by omega) (by omega) (by rw [hv1]; rfl) (by decide) ?_
      refine jj_aload_n dX7_count_61 rfl ?_
      refine zz_getR dX7_count_62 kf_X7_39 tt0 rfl ?_
      refine zz_getI dX7_count_65 kf_X7_238 tt344 rfl rfl ?_
      refine zz_retie dX7_count_68 rfl (by decide) ?_ ?_
      · unfold v_X7_count; (repeat (first | rw [if_pos (by omega)] | rw [if_neg (by omega)])) <;> first | rfl | done
      · rfl
    · refine jj_tswI (off := 68) (tgt := 69) dX7_count_1 (by omega) (by omega) (by rw [hv1]; rfl) (by decide) ?_
      refine jj_aload_n dX7_count_69 rfl ?_
      refine zz_getR dX7_count_70 kf_X7_39 tt0 rfl ?_
      refine zz_getI dX7_count_73 kf_X7_143 tt344 rfl rfl ?_
      refine zz_retie dX7_count_76 rfl (by decide) ?_ ?_
      · unfold v_X7_count; (repeat (first | rw [if_pos (by omega)] | rw [if_neg (by omega)])) <;> first | rfl | done
      · rfl
    · refine jj_tswI (off := 76) (tgt := 77) dX7_count_1 (by omega) (by omega) (by rw [hv1]; rfl) (by decide) ?_
      refine jj_aload_n dX7_count_77 rfl ?_
      refine zz_getR dX7_count_78 kf_X7_39 tt0 rfl ?_
      refine zz_cVi (av := []) (st' := []) dX7_count_81 kn_X7_214 kmX5_inForce tt344 rfl rfl rfl (Nat.le_of_ble_eq_true rfl) (by decide) rfl (c_X5_inForce g s 344 tt344 (jRng_if hN)) (fun hr81 ho81 => ?_)
      refine zz_retie dX7_count_84 rfl (by decide) ?_ ?_
      · unfold v_X7_count; (repeat (first | rw [if_pos (by omega)] | rw [if_neg (by omega)])) <;> first | rfl | done
      · rfl
    · refine jj_tswI (off := 84) (tgt := 85) dX7_count_1 (by omega) (by omega) (by rw [hv1]; rfl) (by decide) ?_
      refine jj_aload_n dX7_count_85 rfl ?_
      refine zz_getR dX7_count_86 kf_X7_39 tt0 rfl ?_
      refine zz_cVi (av := []) (st' := []) dX7_count_89 kn_X7_286 kmX5_leftOfAll tt344 rfl rfl rfl (Nat.le_of_ble_eq_true rfl) (by decide) rfl (c_X5_leftOfAll g s 344 tt344 (jRng_if hN)) (fun hr89 ho89 => ?_)
      refine zz_retie dX7_count_92 rfl (by decide) ?_ ?_
      · unfold v_X7_count; (repeat (first | rw [if_pos (by omega)] | rw [if_neg (by omega)])) <;> first | rfl | done
      · rfl
    · refine jj_tswI (off := 92) (tgt := 93) dX7_count_1 (by omega) (by omega) (by rw [hv1]; rfl) (by decide) ?_
      refine jj_aload_n dX7_count_93 rfl ?_
      refine zz_getR dX7_count_94 kf_X7_25 tt0 rfl ?_
      refine zz_getI dX7_count_97 kf_X7_135 tt4 rfl rfl ?_
      refine zz_retie dX7_count_100 rfl (by decide) ?_ ?_
      · unfold v_X7_count; (repeat (first | rw [if_pos (by omega)] | rw [if_neg (by omega)])) <;> first | rfl | done
      · rfl
    · refine jj_tswI (off := 100) (tgt := 101) dX7_count_1 (by omega) (by omega) (by rw [hv1]; rfl) (by decide) ?_
      refine jj_aload_n dX7_count_101 rfl ?_
      refine zz_getR dX7_count_102 kf_X7_18 tt0 rfl ?_
      refine zz_getI dX7_count_105 kf_X7_106 tt2 rfl rfl ?_
      refine zz_retie dX7_count_108 rfl (by decide) ?_ ?_
      · unfold v_X7_count; (repeat (first | rw [if_pos (by omega)] | rw [if_neg (by omega)])) <;> first | rfl | done
      · rfl

