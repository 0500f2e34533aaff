def v_X8_ahead (s : jz_St) (l n : Int) : Int := if (0 ≤ l ∧ l ≤ s 420 3 - 1) ∧ 0 ≤ n ∧ n ≤ 60 then (f_X8_hoursOf (f_X8_layThen s) 422 n.toNat) 422 (6 + 5 * l.toNat + 4) else -1000001
def f_X8_ahead (s : jz_St) (l n : Int) : jz_St := if (0 ≤ l ∧ l ≤ s 420 3 - 1) ∧ 0 ≤ n ∧ n ≤ 60 then f_X8_hoursOf (f_X8_layThen s) 422 n.toNat else s
set_option maxRecDepth 100000 in
set_option maxHeartbeats 4000000 in
theorem c_X8_ahead (g : jz_G) (s : jz_St) (l n : Int) (hM : mIn s)  : jz_C g mX8_ahead [jr (416), ji (l), ji (n)] s (jq_ie (v_X8_ahead s l n) (f_X8_ahead s l n)) := by
  refine zz_C_of koX8_ahead rfl (Nat.le_of_ble_eq_true rfl) ?_
  refine zz_pad 1 ?_
  show jz_Z g mX8_ahead (jq_ie (v_X8_ahead s l n) (f_X8_ahead s l n)) 0 [some (jr (416)), some (ji (l)), some (ji (n)), none] [] s
  have hL := hM.1
  have hm := hM.2.1
  have ha := hM.2.2.1
  have htr := hM.2.2.2
  have hmh := mRw_h hm
  refine jj_aload_n dX8_ahead_0 rfl ?_
  refine jj_iconst dX8_ahead_1 (kk := ?_)
  refine zz_putI dX8_ahead_2 kw_X8_50 tt416 rfl rfl ?_
  refine zz_st (s1 := s) (by exact jz_su_id hL.1) ?_
  refine jj_aload_n dX8_ahead_5 rfl ?_
  refine jj_iload_n dX8_ahead_6 rfl ?_
  refine zz_cVi (av := [ji (l)]) (st' := []) dX8_ahead_7 kn_X8_193 kmX8_isLeaf tt416 rfl rfl rfl (Nat.le_of_ble_eq_true rfl) (by decide) rfl (c_X8_isLeaf g s l (by omega)) (fun hr7 ho7 => ?_)
  refine jj_if_eq (tgt := 25) dX8_ahead_10 (by decide) (fun h10 => ?_) (fun h10 => ?_)
  · have hg10 := bz_f h10
    refine jj_ldc dX8_ahead_25 kk_X8_70 (kk := ?_)
    refine zz_retie dX8_ahead_27 rfl (by decide) ?_ ?_
    · unfold v_X8_ahead; (repeat (first | rw [if_pos (by omega)] | rw [if_neg (by omega)])) <;> first | rfl | done
    · unfold f_X8_ahead; (repeat (first | rw [if_pos (by omega)] | rw [if_neg (by omega)])) <;> first | rfl | done
  · have hg10 := bz_t h10
    refine jj_iload_n dX8_ahead_13 rfl ?_
    refine jj_i2l dX8_ahead_14 ?_
    refine jj_lconst (z := 0) dX8_ahead_15 (kk := ?_)
    refine jj_ldc2 dX8_ahead_16 kk_X8_201 (kk := ?_)
    refine zz_cSi (av := [jl (n), jl (0), jl (60)]) (st' := []) dX8_ahead_19 kn_X8_60 kmX8_in rfl rfl (Nat.le_of_ble_eq_true rfl) (by decide) rfl (c_X8_in g s n 0 60) (fun hr19 ho19 => ?_)
    refine jj_if_ne (tgt := 28) dX8_ahead_22 (by decide) (fun h22 => ?_) (fun h22 => ?_)
    · have hg22 := bz_t h22
      refine jj_aload_n dX8_ahead_28 rfl ?_
      refine zz_cVv (av := []) (st' := []) dX8_ahead_29 kn_X8_177 kmX8_layThen tt416 rfl rfl rfl (Nat.le_of_ble_eq_true rfl) (by decide) rfl (c_X8_layThen g s) (fun ho29 => ?_)
      refine jj_aload_n dX8_ahead_32 rfl ?_
      refine jj_aload_n dX8_ahead_33 rfl ?_
      refine zz_getR dX8_ahead_34 kf_X8_25 tt416 rfl ?_
      refine jj_iload_n dX8_ahead_37 rfl ?_
      refine zz_cVi (av := [jr (422), ji (n)]) (st' := []) dX8_ahead_38 kn_X8_207 kmX8_hoursOf tt416 rfl rfl rfl (Nat.le_of_ble_eq_true rfl) (by decide) rfl (c_X8_hoursOf g (f_X8_layThen s) 422 (Or.inr rfl) n.toNat n (by omega) 999 (layThen_mr hm) (by omega) (by omega)) (fun hr38 ho38 => ?_)
      refine jj_istore_n (ls' := [some (jr (416)), some (ji (l)), some (ji (n)), some (ji (v_X8_hoursOf (f_X8_layThen s) 422 n.toNat))]) dX8_ahead_41 (by decide) rfl rfl ?_
      refine jj_aload_n dX8_ahead_42 rfl ?_
      refine zz_getR dX8_ahead_43 kf_X8_25 tt416 rfl ?_
      refine jj_iload_n dX8_ahead_46 rfl ?_
      refine jj_iconst dX8_ahead_47 (kk := ?_)
      refine zz_cSi (av := [jr (422), ji (l), ji (4)]) (st' := []) dX8_ahead_48 kn_X8_155 kmX8_of rfl rfl (Nat.le_of_ble_eq_true rfl) (by decide) rfl (c_X8_of g (f_X8_hoursOf (f_X8_layThen s) 422 n.toNat) 422 (Or.inr rfl) l 4 (6 + 5 * l.toNat + 4) (by omega) (by omega)) (fun hr48 ho48 => ?_)
      refine zz_retie dX8_ahead_51 rfl (by decide) ?_ ?_
      · unfold v_X8_ahead; (repeat (first | rw [if_pos (by omega)] | rw [if_neg (by omega)])) <;> first | rfl | done
      · unfold f_X8_ahead; (repeat (first | rw [if_pos (by omega)] | rw [if_neg (by omega)])) <;> first | rfl | done
    · have hg22 := bz_f h22
      refine jj_ldc dX8_ahead_25 kk_X8_70 (kk := ?_)
      refine zz_retie dX8_ahead_27 rfl (by decide) ?_ ?_
      · unfold v_X8_ahead; (repeat (first | rw [if_pos (by omega)] | rw [if_neg (by omega)])) <;> first | rfl | done
      · unfold f_X8_ahead; (repeat (first | rw [if_pos (by omega)] | rw [if_neg (by omega)])) <;> first | rfl | done

def v_X8_force (s : jz_St) (n : Int) : Int := if s 420 0 = 1 then (if 0 ≤ n ∧ n ≤ 60 then rIF ((f_X8_hoursOf (f_X8_layThen s) 422 n.toNat) 422) ((f_X8_hoursOf (f_X8_layThen s) 422 n.toNat) 422 3).toNat else -1000001) else -1000002
def f_X8_force (s : jz_St) (n : Int) : jz_St := if s 420 0 = 1 then (if 0 ≤ n ∧ n ≤ 60 then f_X8_hoursOf (f_X8_layThen s) 422 n.toNat else s) else s
set_option maxRecDepth 100000 in
set_option maxHeartbeats 4000000 in
theorem c_X8_force (g : jz_G) (s : jz_St) (n : Int) (hM : mIn s)  : jz_C g mX8_force [jr (416), ji (n)] s (jq_ie (v_X8_force s n) (f_X8_force s n)) := by
  refine zz_C_of koX8_force rfl (Nat.le_of_ble_eq_true rfl) ?_
  refine zz_pad 1 ?_
  show jz_Z g mX8_force (jq_ie (v_X8_force s n) (f_X8_force s n)) 0 [some (jr (416)), some (ji (n)), none] [] s
  have hL := hM.1
  have hm := hM.2.1
  have ha := hM.2.2.1
  have htr := hM.2.2.2
  have hmh := mRw_h hm
  refine jj_aload_n dX8_force_0 rfl ?_
  refine jj_iconst dX8_force_1 (kk := ?_)
  refine zz_putI dX8_force_2 kw_X8_50 tt416 rfl rfl ?_
  refine zz_st (s1 := s) (by exact jz_su_id hL.1) ?_
  refine jj_aload_n dX8_force_5 rfl ?_
  refine zz_cVi (av := []) (st' := []) dX8_force_6 kn_X8_184 kmX8_isThere tt416 rfl rfl rfl (Nat.le_of_ble_eq_true rfl) (by decide) rfl (c_X8_isThere g s) (fun hr6 ho6 => ?_)
  refine jj_if_ne (tgt := 15) dX8_force_9 (by decide) (fun h9 => ?_) (fun h9 => ?_)
  · have hg9 := bz_t h9
    refine jj_iload_n dX8_force_15 rfl ?_
    refine jj_i2l dX8_force_16 ?_
    refine jj_lconst (z := 0) dX8_force_17 (kk := ?_)
    refine jj_ldc2 dX8_force_18 kk_X8_201 (kk := ?_)
    refine zz_cSi (av := [jl (n), jl (0), jl (60)]) (st' := []) dX8_force_21 kn_X8_60 kmX8_in rfl rfl (Nat.le_of_ble_eq_true rfl) (by decide) rfl (c_X8_in g s n 0 60) (fun hr21 ho21 => ?_)
    refine jj_if_ne (tgt := 30) dX8_force_24 (by decide) (fun h24 => ?_) (fun h24 => ?_)
    · have hg24 := bz_t h24
      refine jj_aload_n dX8_force_30 rfl ?_
      refine zz_cVv (av := []) (st' := []) dX8_force_31 kn_X8_177 kmX8_layThen tt416 rfl rfl rfl (Nat.le_of_ble_eq_true rfl) (by decide) rfl (c_X8_layThen g s) (fun ho31 => ?_)
      refine jj_aload_n dX8_force_34 rfl ?_
      refine jj_aload_n dX8_force_35 rfl ?_
      refine zz_getR dX8_force_36 kf_X8_25 tt416 rfl ?_
      refine jj_iload_n dX8_force_39 rfl ?_
      refine zz_cVi (av := [jr (422), ji (n)]) (st' := []) dX8_force_40 kn_X8_207 kmX8_hoursOf tt416 rfl rfl rfl (Nat.le_of_ble_eq_true rfl) (by decide) rfl (c_X8_hoursOf g (f_X8_layThen s) 422 (Or.inr rfl) n.toNat n (by omega) 999 (layThen_mr hm) (by omega) (by omega)) (fun hr40 ho40 => ?_)
      refine jj_istore_n (ls' := [some (jr (416)), some (ji (n)), some (ji (v_X8_hoursOf (f_X8_layThen s) 422 n.toNat))]) dX8_force_43 (by decide) rfl rfl ?_
      refine jj_aload_n dX8_force_44 rfl ?_
      refine zz_getR dX8_force_45 kf_X8_25 tt416 rfl ?_
      refine zz_cSi (av := [jr (422)]) (st' := []) dX8_force_48 kn_X8_210 kmX8_forced rfl rfl (Nat.le_of_ble_eq_true rfl) (by decide) rfl (c_X8_forced g (f_X8_hoursOf (f_X8_layThen s) 422 n.toNat) 422 (Or.inr rfl) _ (hoursOf_mr (Or.inr rfl) (layThen_mr hm) _)) (fun hr48 ho48 => ?_)
      refine zz_retie dX8_force_51 rfl (by decide) ?_ ?_
      · unfold v_X8_force; (repeat (first | rw [if_pos (by omega)] | rw [if_neg (by omega)])) <;> first | rfl | done
      · unfold f_X8_force; (repeat (first | rw [if_pos (by omega)] | rw [if_neg (by omega)])) <;> first | rfl | done
    · have hg24 := bz_f h24
      refine jj_ldc dX8_force_27 kk_X8_70 (kk := ?_)
      refine zz_retie dX8_force_29 rfl (by decide) ?_ ?_
      · unfold v_X8_force; (repeat (first | rw [if_pos (by omega)] | rw [if_neg (by omega)])) <;> first | rfl | done
      · unfold f_X8_force; (repeat (first | rw [if_pos (by omega)] | rw [if_neg (by omega)])) <;> first | rfl | done
  · have hg9 := bz_f h9
    refine jj_ldc dX8_force_12 kk_X8_187 (kk := ?_)
    refine zz_retie dX8_force_14 rfl (by decide) ?_ ?_
    · unfold v_X8_force; (repeat (first | rw [if_pos (by omega)] | rw [if_neg (by omega)])) <;> first | rfl | done
    · unfold f_X8_force; (repeat (first | rw [if_pos (by omega)] | rw [if_neg (by omega)])) <;> first | rfl | done

def v_X8_emptied (s : jz_St) (l : Int) : Int := if (0 ≤ l ∧ l ≤ s 420 3 - 1) then (rEmp (f_X8_layThen s) (6 + 5 * l.toNat + 4) 0 61).1 else -1000001
def f_X8_emptied (s : jz_St) (l : Int) : jz_St := if (0 ≤ l ∧ l ≤ s 420 3 - 1) then (rEmp (f_X8_layThen s) (6 + 5 * l.toNat + 4) 0 61).2 else s
set_option maxRecDepth 100000 in
set_option maxHeartbeats 4000000 in
theorem c_X8_emptied (g : jz_G) (s : jz_St) (l : Int) (hM : mIn s)  : jz_C g mX8_emptied [jr (416), ji (l)] s (jq_ie (v_X8_emptied s l) (f_X8_emptied s l)) := by
  refine zz_C_of koX8_emptied rfl (Nat.le_of_ble_eq_true rfl) ?_
  refine zz_pad 2 ?_
  show jz_Z g mX8_emptied (jq_ie (v_X8_emptied s l) (f_X8_emptied s l)) 0 [some (jr (416)), some (ji (l)), none, none] [] s
  have hL := hM.1
  have hm := hM.2.1
  have ha := hM.2.2.1
  have htr := hM.2.2.2
  have hmh := mRw_h hm
  refine jj_aload_n dX8_emptied_0 rfl ?_
  refine jj_iconst dX8_emptied_1 (kk := ?_)
  refine zz_putI dX8_emptied_2 kw_X8_50 tt416 rfl rfl ?_
  refine zz_st (s1 := s) (by exact jz_su_id hL.1) ?_
  refine jj_aload_n dX8_emptied_5 rfl ?_
  refine jj_iload_n dX8_emptied_6 rfl ?_
  refine zz_cVi (av := [ji (l)]) (st' := []) dX8_emptied_7 kn_X8_193 kmX8_isLeaf tt416 rfl rfl rfl (Nat.le_of_ble_eq_true rfl) (by decide) rfl (c_X8_isLeaf g s l (by omega)) (fun hr7 ho7 => ?_)
  refine jj_if_ne (tgt := 16) dX8_emptied_10 (by decide) (fun h10 => ?_) (fun h10 => ?_)
  · have hg10 := bz_t h10
    refine jj_aload_n dX8_emptied_16 rfl ?_
    refine zz_cVv (av := []) (st' := []) dX8_emptied_17 kn_X8_177 kmX8_layThen tt416 rfl rfl rfl (Nat.le_of_ble_eq_true rfl) (by decide) rfl (c_X8_layThen g s) (fun ho17 => ?_)
    refine jj_iconst dX8_emptied_20 (kk := ?_)
    refine jj_istore_n (ls' := [some (jr (416)), some (ji (l)), some (ji (0)), none]) dX8_emptied_21 (by decide) rfl rfl ?_
    have L22 : ∀ (nn : Nat) (k : Nat) (sx : jz_St) (hh22_0 : k ≤ 61) (hh22_1 : rEmp (f_X8_layThen s) (6 + 5 * l.toNat + 4) 0 61 = rEmp sx (6 + 5 * l.toNat + 4) k (61 - k)) (hh22_2 : mRw (sx 422) (999 + k)), 61 - k < nn → jz_Z g mX8_emptied (jq_ie (v_X8_emptied s l) (f_X8_emptied s l)) 22 [some (jr (416)), some (ji (l)), some (ji ((k : Int))), none] [] sx := by
      intro nn
      induction nn with
      | zero => intro k sx hh22_0 hh22_1 hh22_2 hmz; exact absurd hmz (Nat.not_lt_zero _)
      | succ nn ih22 =>
        intro k sx hh22_0 hh22_1 hh22_2 hm22
        refine jj_iload_n dX8_emptied_22 rfl ?_
        refine jj_bipush dX8_emptied_23 (kk := ?_)
        refine jj_icmp_gt (tgt := 57) dX8_emptied_25 (by decide) (fun h25 => ?_) (fun h25 => ?_)
        · refine jj_ldc dX8_emptied_57 kk_X8_93 (kk := ?_)
          refine zz_retie dX8_emptied_59 rfl (by decide) ?_ ?_
          · unfold v_X8_emptied; rw [if_pos (by omega), hh22_1, show 61 - k = 0 by omega]; rfl
          · unfold f_X8_emptied; rw [if_pos (by omega), hh22_1, show 61 - k = 0 by omega]; rfl
        · refine jj_aload_n dX8_emptied_28 rfl ?_
          refine zz_getR dX8_emptied_29 kf_X8_25 tt416 rfl ?_
          refine jj_iload_n dX8_emptied_32 rfl ?_
          refine jj_iconst dX8_emptied_33 (kk := ?_)
          refine zz_cSi (av := [jr (422), ji (l), ji (4)]) (st' := []) dX8_emptied_34 kn_X8_155 kmX8_of rfl rfl (Nat.le_of_ble_eq_true rfl) (by decide) rfl (c_X8_of g sx 422 (Or.inr rfl) l 4 (6 + 5 * l.toNat + 4) (by omega) (by omega)) (fun hr34 ho34 => ?_)
          refine jj_if_ne (tgt := 42) dX8_emptied_37 (by decide) (fun h37 => ?_) (fun h37 => ?_)
          · refine jj_aload_n dX8_emptied_42 rfl ?_
            refine jj_aload_n dX8_emptied_43 rfl ?_
            refine zz_getR dX8_emptied_44 kf_X8_25 tt416 rfl ?_
            refine zz_cVi (av := [jr (422)]) (st' := []) dX8_emptied_47 kn_X8_169 kmX8_hour tt416 rfl rfl rfl (Nat.le_of_ble_eq_true rfl) (by decide) rfl (c_X8_hour g sx 422 (Or.inr rfl) (999 + k) hh22_2 (by omega)) (fun hr47 ho47 => ?_)
            refine jj_istore_n (ls' := [some (jr (416)), some (ji (l)), some (ji ((k : Int))), some (ji (v_X8_hour sx 422))]) dX8_emptied_50 (by decide) rfl rfl ?_
            refine jj_iinc (ls' := [some (jr (416)), some (ji (l)), some (ji ((k : Int) + 1)), some (ji (v_X8_hour sx 422))]) dX8_emptied_51 rfl (by decide) rfl (by omega) rfl ?_
            refine jj_goto (tgt := 22) dX8_emptied_54 (by decide) ?_
            refine jj_fgt (i := 3) (ls' := [some (jr (416)), some (ji (l)), some (ji ((k : Int) + 1)), none]) rfl ?_
            exact ih22 (k + 1) (f_X8_hour sx 422) (by omega) (by rw [hh22_1, show 61 - k = (61 - (k + 1)) + 1 by omega]; simp only [rEmp]; rw [if_neg h37]) (by exact mRw_mono (hour_mr (Or.inr rfl) hh22_2) (by omega)) (by omega)
          · refine jj_iload_n dX8_emptied_40 rfl ?_
            refine zz_retie dX8_emptied_41 rfl (by decide) ?_ ?_
            · unfold v_X8_emptied; rw [if_pos (by omega), hh22_1, show 61 - k = (60 - k) + 1 by omega]; simp only [rEmp]; rw [if_pos h37]
            · unfold f_X8_emptied; rw [if_pos (by omega), hh22_1, show 61 - k = (60 - k) + 1 by omega]; simp only [rEmp]; rw [if_pos h37]
    exact L22 _ 0 (f_X8_layThen s) (by omega) (by rw [Nat.sub_zero]) (by exact mRw_mono (layThen_mr hm) (by omega)) (Nat.lt_succ_self _)
  · have hg10 := bz_f h10
    refine jj_ldc dX8_emptied_13 kk_X8_70 (kk := ?_)
    refine zz_retie dX8_emptied_15 rfl (by decide) ?_ ?_
    · unfold v_X8_emptied; (repeat (first | rw [if_pos (by omega)] | rw [if_neg (by omega)])) <;> first | rfl | done
    · unfold f_X8_emptied; (repeat (first | rw [if_pos (by omega)] | rw [if_neg (by omega)])) <;> first | rfl | done

def v_X8_gap (s : jz_St) (w : Int) : Int := if s 420 0 = 1 then (if (0 ≤ w ∧ w ≤ jshl 1 (s 420 3) - 1) then (rGap (f_X8_layThen s) w 0 61).1 else -1000001) else -1000002
def f_X8_gap (s : jz_St) (w : Int) : jz_St := if s 420 0 = 1 then (if (0 ≤ w ∧ w ≤ jshl 1 (s 420 3) - 1) then (rGap (f_X8_layThen s) w 0 61).2 else s) else s
set_option maxRecDepth 100000 in
set_option maxHeartbeats 4000000 in
theorem c_X8_gap (g : jz_G) (s : jz_St) (w : Int) (hM : mIn s)  : jz_C g mX8_gap [jr (416), ji (w)] s (jq_ie (v_X8_gap s w) (f_X8_gap s w)) := by
  refine zz_C_of koX8_gap rfl (Nat.le_of_ble_eq_true rfl) ?_
  refine zz_pad 2 ?_
  show jz_Z g mX8_gap (jq_ie (v_X8_gap s w) (f_X8_gap s w)) 0 [some (jr (416)), some (ji (w)), none, none] [] s
  have hL := hM.1
  have hm := hM.2.1
  have ha := hM.2.2.1
  have htr := hM.2.2.2
  have hmh := mRw_h hm
  refine jj_aload_n dX8_gap_0 rfl ?_
  refine jj_iconst dX8_gap_1 (kk := ?_)
  refine zz_putI dX8_gap_2 kw_X8_50 tt416 rfl rfl ?_
  refine zz_st (s1 := s) (by exact jz_su_id hL.1) ?_
  refine jj_aload_n dX8_gap_5 rfl ?_
  refine zz_cVi (av := []) (st' := []) dX8_gap_6 kn_X8_184 kmX8_isThere tt416 rfl rfl rfl (Nat.le_of_ble_eq_true rfl) (by decide) rfl (c_X8_isThere g s) (fun hr6 ho6 => ?_)
  refine jj_if_ne (tgt := 15) dX8_gap_9 (by decide) (fun h9 => ?_) (fun h9 => ?_)
  · have hg9 := bz_t h9
    refine jj_aload_n dX8_gap_15 rfl ?_
    refine jj_iload_n dX8_gap_16 rfl ?_
    refine zz_cVi (av := [ji (w)]) (st' := []) dX8_gap_17 kn_X8_216 kmX8_areLeaves tt416 rfl rfl rfl (Nat.le_of_ble_eq_true rfl) (by decide) rfl (c_X8_areLeaves g s w (by omega)) (fun hr17 ho17 => ?_)
    refine jj_if_ne (tgt := 26) dX8_gap_20 (by decide) (fun h20 => ?_) (fun h20 => ?_)
    · have hg20 := bz_t h20
      refine jj_aload_n dX8_gap_26 rfl ?_
      refine zz_cVv (av := []) (st' := []) dX8_gap_27 kn_X8_177 kmX8_layThen tt416 rfl rfl rfl (Nat.le_of_ble_eq_true rfl) (by decide) rfl (c_X8_layThen g s) (fun ho27 => ?_)
      refine jj_iconst dX8_gap_30 (kk := ?_)
      refine jj_istore_n (ls' := [some (jr (416)), some (ji (w)), some (ji (0)), none]) dX8_gap_31 (by decide) rfl rfl ?_
      have L32 : ∀ (nn : Nat) (k : Nat) (sx : jz_St) (hh32_0 : k ≤ 61) (hh32_1 : rGap (f_X8_layThen s) w 0 61 = rGap sx w k (61 - k)) (hh32_2 : mRw (sx 422) (999 + k)), 61 - k < nn → jz_Z g mX8_gap (jq_ie (v_X8_gap s w) (f_X8_gap s w)) 32 [some (jr (416)), some (ji (w)), some (ji ((k : Int))), none] [] sx := by
        intro nn
        induction nn with
        | zero => intro k sx hh32_0 hh32_1 hh32_2 hmz; exact absurd hmz (Nat.not_lt_zero _)
        | succ nn ih32 =>
          intro k sx hh32_0 hh32_1 hh32_2 hm32
          refine jj_iload_n dX8_gap_32 rfl ?_
          refine jj_bipush dX8_gap_33 (kk := ?_)
          refine jj_icmp_gt (tgt := 67) dX8_gap_35 (by decide) (fun h35 => ?_) (fun h35 => ?_)
          · refine jj_ldc dX8_gap_67 kk_X8_93 (kk := ?_)
            refine zz_retie dX8_gap_69 rfl (by decide) ?_ ?_
            · unfold v_X8_gap; rw [if_pos (by omega), if_pos (by omega), hh32_1, show 61 - k = 0 by omega]; rfl
            · unfold f_X8_gap; rw [if_pos (by omega), if_pos (by omega), hh32_1, show 61 - k = 0 by omega]; rfl
          · refine jj_aload_n dX8_gap_38 rfl ?_
            refine zz_getR dX8_gap_39 kf_X8_25 tt416 rfl ?_
            refine zz_cSi (av := [jr (422)]) (st' := []) dX8_gap_42 kn_X8_210 kmX8_forced rfl rfl (Nat.le_of_ble_eq_true rfl) (by decide) rfl (c_X8_forced g sx 422 (Or.inr rfl) (999 + k) hh32_2) (fun hr42 ho42 => ?_)
            refine jj_iload_n dX8_gap_45 rfl ?_
            refine jj_iand dX8_gap_46 ?_
            refine jj_if_ne (tgt := 52) dX8_gap_47 (by decide) (fun h47 => ?_) (fun h47 => ?_)
            · refine jj_aload_n dX8_gap_52 rfl ?_
              refine jj_aload_n dX8_gap_53 rfl ?_
              refine zz_getR dX8_gap_54 kf_X8_25 tt416 rfl ?_
              refine zz_cVi (av := [jr (422)]) (st' := []) dX8_gap_57 kn_X8_169 kmX8_hour tt416 rfl rfl rfl (Nat.le_of_ble_eq_true rfl) (by decide) rfl (c_X8_hour g sx 422 (Or.inr rfl) (999 + k) hh32_2 (by omega)) (fun hr57 ho57 => ?_)
              refine jj_istore_n (ls' := [some (jr (416)), some (ji (w)), some (ji ((k : Int))), some (ji (v_X8_hour sx 422))]) dX8_gap_60 (by decide) rfl rfl ?_
              refine jj_iinc (ls' := [some (jr (416)), some (ji (w)), some (ji ((k : Int) + 1)), some (ji (v_X8_hour sx 422))]) dX8_gap_61 rfl (by decide) rfl (by omega) rfl ?_
              refine jj_goto (tgt := 32) dX8_gap_64 (by decide) ?_
              refine jj_fgt (i := 3) (ls' := [some (jr (416)), some (ji (w)), some (ji ((k : Int) + 1)), none]) rfl ?_
              exact ih32 (k + 1) (f_X8_hour sx 422) (by omega) (by rw [hh32_1, show 61 - k = (61 - (k + 1)) + 1 by omega]; simp only [rGap]; rw [if_neg h47]) (by exact mRw_mono (hour_mr (Or.inr rfl) hh32_2) (by omega)) (by omega)
            · refine jj_iload_n dX8_gap_50 rfl ?_
              refine zz_retie dX8_gap_51 rfl (by decide) ?_ ?_
              · unfold v_X8_gap; rw [if_pos (by omega), if_pos (by omega), hh32_1, show 61 - k = (60 - k) + 1 by omega]; simp only [rGap]; rw [if_pos h47]
              · unfold f_X8_gap; rw [if_pos (by omega), if_pos (by omega), hh32_1, show 61 - k = (60 - k) + 1 by omega]; simp only [rGap]; rw [if_pos h47]
      exact L32 _ 0 (f_X8_layThen s) (by omega) (by rw [Nat.sub_zero]) (by exact mRw_mono (layThen_mr hm) (by omega)) (Nat.lt_succ_self _)
    · have hg20 := bz_f h20
      refine jj_ldc dX8_gap_23 kk_X8_70 (kk := ?_)
      refine zz_retie dX8_gap_25 rfl (by decide) ?_ ?_
      · unfold v_X8_gap; (repeat (first | rw [if_pos (by omega)] | rw [if_neg (by omega)])) <;> first | rfl | done
      · unfold f_X8_gap; (repeat (first | rw [if_pos (by omega)] | rw [if_neg (by omega)])) <;> first | rfl | done
  · have hg9 := bz_f h9
    refine jj_ldc dX8_gap_12 kk_X8_187 (kk := ?_)
    refine zz_retie dX8_gap_14 rfl (by decide) ?_ ?_
    · unfold v_X8_gap; (repeat (first | rw [if_pos (by omega)] | rw [if_neg (by omega)])) <;> first | rfl | done
    · unfold f_X8_gap; (repeat (first | rw [if_pos (by omega)] | rw [if_neg (by omega)])) <;> first | rfl | done

def v_X8_eats (s : jz_St) (c n : Int) : Int := if (0 ≤ c ∧ c ≤ s 420 4 - 1) ∧ 0 ≤ n ∧ n ≤ 60 then rEat (f_X8_layThen s) c.toNat n.toNat else -1000001
def f_X8_eats (s : jz_St) (c n : Int) : jz_St := if (0 ≤ c ∧ c ≤ s 420 4 - 1) ∧ 0 ≤ n ∧ n ≤ 60 then f_X8_hoursOf (f_X8_layThen s) 422 n.toNat else s
set_option maxRecDepth 100000 in
set_option maxHeartbeats 4000000 in
theorem c_X8_eats (g : jz_G) (s : jz_St) (c n : Int) (hM : mIn s)  : jz_C g mX8_eats [jr (416), ji (c), ji (n)] s (jq_ie (v_X8_eats s c n) (f_X8_eats s c n)) := by
  refine zz_C_of koX8_eats rfl (Nat.le_of_ble_eq_true rfl) ?_
  refine zz_pad 3 ?_
  show jz_Z g mX8_eats (jq_ie (v_X8_eats s c n) (f_X8_eats s c n)) 0 [some (jr (416)), some (ji (c)), some (ji (n)), none, none, none] [] s
  have hL := hM.1
  have hm := hM.2.1
  have ha := hM.2.2.1
  have htr := hM.2.2.2
  have hmh := mRw_h hm
  refine jj_aload_n dX8_eats_0 rfl ?_
  refine jj_iconst dX8_eats_1 (kk := ?_)
  refine zz_putI dX8_eats_2 kw_X8_50 tt416 rfl rfl ?_
  refine zz_st (s1 := s) (by exact jz_su_id hL.1) ?_
  refine jj_aload_n dX8_eats_5 rfl ?_
  refine jj_iload_n dX8_eats_6 rfl ?_
  refine zz_cVi (av := [ji (c)]) (st' := []) dX8_eats_7 kn_X8_198 kmX8_isGoat tt416 rfl rfl rfl (Nat.le_of_ble_eq_true rfl) (by decide) rfl (c_X8_isGoat g s c (by omega)) (fun hr7 ho7 => ?_)
  refine jj_if_eq (tgt := 25) dX8_eats_10 (by decide) (fun h10 => ?_) (fun h10 => ?_)
  · have hg10 := bz_f h10
    refine jj_ldc dX8_eats_25 kk_X8_70 (kk := ?_)
    refine zz_retie dX8_eats_27 rfl (by decide) ?_ ?_
    · unfold v_X8_eats; (repeat (first | rw [if_pos (by omega)] | rw [if_neg (by omega)])) <;> first | rfl | done
    · unfold f_X8_eats; (repeat (first | rw [if_pos (by omega)] | rw [if_neg (by omega)])) <;> first | rfl | done
  · have hg10 := bz_t h10
    refine jj_iload_n dX8_eats_13 rfl ?_
    refine jj_i2l dX8_eats_14 ?_
    refine jj_lconst (z := 0) dX8_eats_15 (kk := ?_)
    refine jj_ldc2 dX8_eats_16 kk_X8_201 (kk := ?_)
    refine zz_cSi (av := [jl (n), jl (0), jl (60)]) (st' := []) dX8_eats_19 kn_X8_60 kmX8_in rfl rfl (Nat.le_of_ble_eq_true rfl) (by decide) rfl (c_X8_in g s n 0 60) (fun hr19 ho19 => ?_)
    refine jj_if_ne (tgt := 28) dX8_eats_22 (by decide) (fun h22 => ?_) (fun h22 => ?_)
    · have hg22 := bz_t h22
      refine jj_aload_n dX8_eats_28 rfl ?_
      refine zz_cVv (av := []) (st' := []) dX8_eats_29 kn_X8_177 kmX8_layThen tt416 rfl rfl rfl (Nat.le_of_ble_eq_true rfl) (by decide) rfl (c_X8_layThen g s) (fun ho29 => ?_)
      refine jj_iconst dX8_eats_32 (kk := ?_)
      refine jj_istore_n (ls' := [some (jr (416)), some (ji (c)), some (ji (n)), some (ji (0)), none, none]) dX8_eats_33 (by decide) rfl rfl ?_
      refine jj_iconst dX8_eats_34 (kk := ?_)
      refine jj_istore (ls' := [some (jr (416)), some (ji (c)), some (ji (n)), some (ji (0)), some (ji (0)), none]) dX8_eats_35 (by decide) rfl rfl ?_
      have L37 : ∀ (nn : Nat) (j : Nat) (hh37_0 : (j : Int) ≤ n), 60 - j < nn → jz_Z g mX8_eats (jq_ie (v_X8_eats s c n) (f_X8_eats s c n)) 37 [some (jr (416)), some (ji (c)), some (ji (n)), some (ji (rEat (f_X8_layThen s) c.toNat j)), some (ji ((j : Int))), none] [] (f_X8_hoursOf (f_X8_layThen s) 422 j) := by
        intro nn
        induction nn with
        | zero => intro j hh37_0 hmz; exact absurd hmz (Nat.not_lt_zero _)
        | succ nn ih37 =>
          intro j hh37_0 hm37
          have hE := rEat_rng (s := f_X8_layThen s) (c := c.toNat) (layThen_mr hm) (by rw [layThen_in s (by decide)]; omega) j
          refine jj_iload dX8_eats_37 rfl ?_
          refine jj_iload_n dX8_eats_39 rfl ?_
          refine jj_icmp_ge (tgt := 68) dX8_eats_40 (by decide) (fun h40 => ?_) (fun h40 => ?_)
          · refine jj_iload_n dX8_eats_68 rfl ?_
            refine zz_retie dX8_eats_69 rfl (by decide) ?_ ?_
            · unfold v_X8_eats; rw [if_pos (by omega), show n.toNat = j by omega]
            · unfold f_X8_eats; rw [if_pos (by omega), show n.toNat = j by omega]
          · refine jj_aload_n dX8_eats_43 rfl ?_
            refine jj_aload_n dX8_eats_44 rfl ?_
            refine zz_getR dX8_eats_45 kf_X8_25 tt416 rfl ?_
            refine zz_cVi (av := [jr (422)]) (st' := []) dX8_eats_48 kn_X8_169 kmX8_hour tt416 rfl rfl rfl (Nat.le_of_ble_eq_true rfl) (by decide) rfl (c_X8_hour g (f_X8_hoursOf (f_X8_layThen s) 422 j) 422 (Or.inr rfl) (999 + j) (hoursOf_mr (Or.inr rfl) (layThen_mr hm) j) (by omega)) (fun hr48 ho48 => ?_)
            refine jj_istore (ls' := [some (jr (416)), some (ji (c)), some (ji (n)), some (ji (rEat (f_X8_layThen s) c.toNat j)), some (ji ((j : Int))), some (ji (v_X8_hour (f_X8_hoursOf (f_X8_layThen s) 422 j) 422))]) dX8_eats_51 (by decide) rfl rfl ?_
            refine jj_iload_n dX8_eats_53 rfl ?_
            refine jj_aload_n dX8_eats_54 rfl ?_
            refine zz_getR dX8_eats_55 kf_X8_37 tt416 rfl ?_
            refine jj_iload_n dX8_eats_58 rfl ?_
            refine zz_ialdN (j := c.toNat) dX8_eats_59 tt426 (by omega) (by omega) ?_
            refine jj_iadd dX8_eats_60 (by omega) ?_
            refine jj_istore_n (ls' := [some (jr (416)), some (ji (c)), some (ji (n)), some (ji ((rEat (f_X8_layThen s) c.toNat j) + ((f_X8_hour (f_X8_hoursOf (f_X8_layThen s) 422 j) 422) 426 c.toNat))), some (ji ((j : Int))), some (ji (v_X8_hour (f_X8_hoursOf (f_X8_layThen s) 422 j) 422))]) dX8_eats_61 (by decide) rfl rfl ?_
            refine jj_iinc (ls' := [some (jr (416)), some (ji (c)), some (ji (n)), some (ji ((rEat (f_X8_layThen s) c.toNat j) + ((f_X8_hour (f_X8_hoursOf (f_X8_layThen s) 422 j) 422) 426 c.toNat))), some (ji ((j : Int) + 1)), some (ji (v_X8_hour (f_X8_hoursOf (f_X8_layThen s) 422 j) 422))]) dX8_eats_62 rfl (by decide) rfl (by omega) rfl ?_
            refine jj_goto (tgt := 37) dX8_eats_65 (by decide) ?_
            refine jj_fgt (i := 5) (ls' := [some (jr (416)), some (ji (c)), some (ji (n)), some (ji ((rEat (f_X8_layThen s) c.toNat j) + ((f_X8_hour (f_X8_hoursOf (f_X8_layThen s) 422 j) 422) 426 c.toNat))), some (ji ((j : Int) + 1)), none]) rfl ?_
            refine zz_st (s1 := f_X8_hoursOf (f_X8_layThen s) 422 (j + 1)) (by rfl) ?_
            exact ih37 (j + 1) (by first | assumption | omega) (by omega)
      refine zz_st (s1 := f_X8_hoursOf (f_X8_layThen s) 422 0) (by rfl) ?_
      exact L37 _ 0 (by first | assumption | omega) (Nat.lt_succ_self _)
    · have hg22 := bz_f h22
      refine jj_ldc dX8_eats_25 kk_X8_70 (kk := ?_)
      refine zz_retie dX8_eats_27 rfl (by decide) ?_ ?_
      · unfold v_X8_eats; (repeat (first | rw [if_pos (by omega)] | rw [if_neg (by omega)])) <;> first | rfl | done
      · unfold f_X8_eats; (repeat (first | rw [if_pos (by omega)] | rw [if_neg (by omega)])) <;> first | rfl | done

set_option maxRecDepth 100000 in
set_option maxHeartbeats 4000000 in
theorem c_X8_biters (g : jz_G) (s : jz_St) (l : Int) (n : Nat) (ni : Int) (hn : ni = n) (b : Int) (hm : mRw (s 422) b) (hb : b + n ≤ 100000) (hn2 : n ≤ 1000)  : jz_C g mX8_biters [jr (416), ji (l), ji (ni)] s (jq_ie (rBs s l n) (f_X8_hoursOf s 422 n)) := by
  refine zz_C_of koX8_biters rfl (Nat.le_of_ble_eq_true rfl) ?_
  refine zz_pad 4 ?_
  show jz_Z g mX8_biters (jq_ie (rBs s l n) (f_X8_hoursOf s 422 n)) 0 [some (jr (416)), some (ji (l)), some (ji (ni)), none, none, none, none] [] s
  have hmh := mRw_h hm
  refine jj_iconst dX8_biters_0 (kk := ?_)
  refine jj_istore_n (ls' := [some (jr (416)), some (ji (l)), some (ji (ni)), some (ji (0)), none, none, none]) dX8_biters_1 (by decide) rfl rfl ?_
  refine jj_iconst dX8_biters_2 (kk := ?_)
  refine jj_istore (ls' := [some (jr (416)), some (ji (l)), some (ji (ni)), some (ji (0)), some (ji (0)), none, none]) dX8_biters_3 (by decide) rfl rfl ?_
  have L5 : ∀ (nn : Nat) (j : Nat) (acc : Int) (hh5_0 : j ≤ n) (hh5_1 : acc = rBs s l j), n - j < nn → jz_Z g mX8_biters (jq_ie (rBs s l n) (f_X8_hoursOf s 422 n)) 5 [some (jr (416)), some (ji (l)), some (ji (ni)), some (ji (acc)), some (ji ((j : Int))), none, none] [] (f_X8_hoursOf s 422 j) := by
    intro nn
    induction nn with
    | zero => intro j acc hh5_0 hh5_1 hmz; exact absurd hmz (Nat.not_lt_zero _)
    | succ nn ih5 =>
      intro j acc hh5_0 hh5_1 hm5
      refine jj_iload dX8_biters_5 rfl ?_
      refine jj_iload_n dX8_biters_7 rfl ?_
      refine jj_icmp_ge (tgt := 69) dX8_biters_8 (by decide) (fun h8 => ?_) (fun h8 => ?_)
      · refine jj_iload_n dX8_biters_69 rfl ?_
        refine zz_retie dX8_biters_70 rfl (by decide) ?_ ?_
        · (obtain rfl : j = n := (by omega)); exact hh5_1
        · (obtain rfl : j = n := (by omega)); rfl
      · refine jj_aload_n dX8_biters_11 rfl ?_
        refine jj_aload_n dX8_biters_12 rfl ?_
        refine zz_getR dX8_biters_13 kf_X8_25 tt416 rfl ?_
        refine zz_cVi (av := [jr (422)]) (st' := []) dX8_biters_16 kn_X8_169 kmX8_hour tt416 rfl rfl rfl (Nat.le_of_ble_eq_true rfl) (by decide) rfl (c_X8_hour g (f_X8_hoursOf s 422 j) 422 (Or.inr rfl) (b + j) (hoursOf_mr (Or.inr rfl) hm j) (by omega)) (fun hr16 ho16 => ?_)
        refine jj_istore (ls' := [some (jr (416)), some (ji (l)), some (ji (ni)), some (ji (acc)), some (ji ((j : Int))), some (ji (v_X8_hour (f_X8_hoursOf s 422 j) 422)), none]) dX8_biters_19 (by decide) rfl rfl ?_
        refine jj_iconst dX8_biters_21 (kk := ?_)
        refine jj_istore (ls' := [some (jr (416)), some (ji (l)), some (ji (ni)), some (ji (acc)), some (ji ((j : Int))), some (ji (v_X8_hour (f_X8_hoursOf s 422 j) 422)), some (ji (0))]) dX8_biters_22 (by decide) rfl rfl ?_
        have L24 : ∀ (nn : Nat) (i : Nat) (ac2 : Int) (hh24_0 : (i : Int) ≤ s 422 4) (hh24_1 : ac2 = rBi (f_X8_hoursOf s 422 (j + 1) 425) l acc i), 4 - i < nn → jz_Z g mX8_biters (jq_ie (rBs s l n) (f_X8_hoursOf s 422 n)) 24 [some (jr (416)), some (ji (l)), some (ji (ni)), some (ji (ac2)), some (ji ((j : Int))), none, some (ji ((i : Int)))] [] (f_X8_hoursOf s 422 (j + 1)) := by
          intro nn
          induction nn with
          | zero => intro i ac2 hh24_0 hh24_1 hmz; exact absurd hmz (Nat.not_lt_zero _)
          | succ nn ih24 =>
            intro i ac2 hh24_0 hh24_1 hm24
            refine jj_iload dX8_biters_24 rfl ?_
            refine jj_aload_n dX8_biters_26 rfl ?_
            refine zz_getR dX8_biters_27 kf_X8_25 tt416 rfl ?_
            refine jj_iconst dX8_biters_30 (kk := ?_)
            refine zz_ialdN (j := 4) dX8_biters_31 tt422 (by omega) (by omega) ?_
            refine zz_top (b := s 422 4) (by exact hoursOf_h (Or.inr rfl) (by decide) _) ?_
            refine jj_icmp_ge (tgt := 63) dX8_biters_32 (by decide) (fun h32 => ?_) (fun h32 => ?_)
            · refine jj_iinc (ls' := [some (jr (416)), some (ji (l)), some (ji (ni)), some (ji (ac2)), some (ji ((j : Int) + 1)), none, some (ji ((i : Int)))]) dX8_biters_63 rfl (by decide) rfl (by omega) rfl ?_
              refine jj_goto (tgt := 5) dX8_biters_66 (by decide) ?_
              refine jj_fgt (i := 6) (ls' := [some (jr (416)), some (ji (l)), some (ji (ni)), some (ji (ac2)), some (ji ((j : Int) + 1)), none, none]) rfl ?_
              exact ih5 (j + 1) ac2 (by omega) (by show ac2 = rBi _ l (rBs s l j) (s 422 4).toNat; rw [← hh5_1, show (s 422 4).toNat = i by omega]; exact hh24_1) (by omega)
            · refine jj_iload_n dX8_biters_35 rfl ?_
              have L55 : ∀ (d : Int) (hh55_0 : d = if (f_X8_hoursOf s 422 (j + 1)) 425 i = l then jshl 1 i else 0), jz_Z g mX8_biters (jq_ie (rBs s l n) (f_X8_hoursOf s 422 n)) 55 [some (jr (416)), some (ji (l)), some (ji (ni)), some (ji (ac2)), some (ji ((j : Int))), none, some (ji ((i : Int)))] [ji (d), ji (ac2)] (f_X8_hoursOf s 422 (j + 1)) := by
                intro d hh55_0
                refine jj_ior dX8_biters_55 ?_
                refine jj_istore_n (ls' := [some (jr (416)), some (ji (l)), some (ji (ni)), some (ji (jor (ac2) (d))), some (ji ((j : Int))), none, some (ji ((i : Int)))]) dX8_biters_56 (by decide) rfl rfl ?_
                refine jj_iinc (ls' := [some (jr (416)), some (ji (l)), some (ji (ni)), some (ji (jor (ac2) (d))), some (ji ((j : Int))), none, some (ji ((i : Int) + 1))]) dX8_biters_57 rfl (by decide) rfl (by omega) rfl ?_
                refine jj_goto (tgt := 24) dX8_biters_60 (by decide) ?_
                exact ih24 (i + 1) (jor (ac2) (d)) (by omega) (by simp only [rBi]; rw [← hh24_1, ← hh55_0]) (by omega)
              refine jj_aload_n dX8_biters_36 rfl ?_
              refine zz_getR dX8_biters_37 kf_X8_34 tt416 rfl ?_
              refine jj_iload dX8_biters_40 rfl ?_
              refine zz_ialdN (j := i) dX8_biters_42 tt425 (by omega) (by omega) ?_
              refine jj_iload_n dX8_biters_43 rfl ?_
              refine jj_icmp_ne (tgt := 54) dX8_biters_44 (by decide) (fun h44 => ?_) (fun h44 => ?_)
              · refine jj_iconst dX8_biters_54 (kk := ?_)
                exact L55 0 (by first | (rw [if_pos (by omega)]; done) | (rw [if_neg (by omega)]; done))
              · refine jj_iconst dX8_biters_47 (kk := ?_)
                refine jj_iload dX8_biters_48 rfl ?_
                refine jj_ishl dX8_biters_50 ?_
                refine jj_goto (tgt := 55) dX8_biters_51 (by decide) ?_
                exact L55 (jshl (1) ((i : Int))) (by first | (rw [if_pos (by omega)]; done) | (rw [if_neg (by omega)]; done))
        refine jj_fgt (i := 5) (ls' := [some (jr (416)), some (ji (l)), some (ji (ni)), some (ji (acc)), some (ji ((j : Int))), none, some (ji (0))]) rfl ?_
        refine zz_st (s1 := f_X8_hoursOf s 422 (j + 1)) (by rfl) ?_
        exact L24 _ 0 acc (by omega) (by rfl) (Nat.lt_succ_self _)
  refine zz_st (s1 := f_X8_hoursOf s 422 0) (by rfl) ?_
  exact L5 _ 0 0 (by omega) (by rfl) (Nat.lt_succ_self _)

def v_X8_guilt (s : jz_St) (l n : Int) : Int := if (0 ≤ l ∧ l ≤ s 420 3 - 1) ∧ 1 ≤ n ∧ n ≤ 60 then rBs (f_X8_layThen s) l n.toNat else -1000001
def f_X8_guilt (s : jz_St) (l n : Int) : jz_St := if (0 ≤ l ∧ l ≤ s 420 3 - 1) ∧ 1 ≤ n ∧ n ≤ 60 then f_X8_hoursOf (f_X8_layThen s) 422 n.toNat else s
set_option maxRecDepth 100000 in
set_option maxHeartbeats 4000000 in
theorem c_X8_guilt (g : jz_G) (s : jz_St) (l n : Int) (hM : mIn s)  : jz_C g mX8_guilt [jr (416), ji (l), ji (n)] s (jq_ie (v_X8_guilt s l n) (f_X8_guilt s l n)) := by
  refine zz_C_of koX8_guilt rfl (Nat.le_of_ble_eq_true rfl) ?_
  refine zz_pad 0 ?_
  show jz_Z g mX8_guilt (jq_ie (v_X8_guilt s l n) (f_X8_guilt s l n)) 0 [some (jr (416)), some (ji (l)), some (ji (n))] [] s
  have hL := hM.1
  have hm := hM.2.1
  have ha := hM.2.2.1
  have htr := hM.2.2.2
  have hmh := mRw_h hm
  refine jj_aload_n dX8_guilt_0 rfl ?_
  refine jj_iconst dX8_guilt_1 (kk := ?_)
  refine zz_putI dX8_guilt_2 kw_X8_50 tt416 rfl rfl ?_
  refine zz_st (s1 := s) (by exact jz_su_id hL.1) ?_
  refine jj_aload_n dX8_guilt_5 rfl ?_
  refine jj_iload_n dX8_guilt_6 rfl ?_
  refine zz_cVi (av := [ji (l)]) (st' := []) dX8_guilt_7 kn_X8_193 kmX8_isLeaf tt416 rfl rfl rfl (Nat.le_of_ble_eq_true rfl) (by decide) rfl (c_X8_isLeaf g s l (by omega)) (fun hr7 ho7 => ?_)
  refine jj_if_eq (tgt := 25) dX8_guilt_10 (by decide) (fun h10 => ?_) (fun h10 => ?_)
  · have hg10 := bz_f h10
    refine jj_ldc dX8_guilt_25 kk_X8_70 (kk := ?_)
    refine zz_retie dX8_guilt_27 rfl (by decide) ?_ ?_
    · unfold v_X8_guilt; (repeat (first | rw [if_pos (by omega)] | rw [if_neg (by omega)])) <;> first | rfl | done
    · unfold f_X8_guilt; (repeat (first | rw [if_pos (by omega)] | rw [if_neg (by omega)])) <;> first | rfl | done
  · have hg10 := bz_t h10
    refine jj_iload_n dX8_guilt_13 rfl ?_
    refine jj_i2l dX8_guilt_14 ?_
    refine jj_lconst (z := 1) dX8_guilt_15 (kk := ?_)
    refine jj_ldc2 dX8_guilt_16 kk_X8_201 (kk := ?_)
    refine zz_cSi (av := [jl (n), jl (1), jl (60)]) (st' := []) dX8_guilt_19 kn_X8_60 kmX8_in rfl rfl (Nat.le_of_ble_eq_true rfl) (by decide) rfl (c_X8_in g s n 1 60) (fun hr19 ho19 => ?_)
    refine jj_if_ne (tgt := 28) dX8_guilt_22 (by decide) (fun h22 => ?_) (fun h22 => ?_)
    · have hg22 := bz_t h22
      refine jj_aload_n dX8_guilt_28 rfl ?_
      refine zz_cVv (av := []) (st' := []) dX8_guilt_29 kn_X8_177 kmX8_layThen tt416 rfl rfl rfl (Nat.le_of_ble_eq_true rfl) (by decide) rfl (c_X8_layThen g s) (fun ho29 => ?_)
      refine jj_aload_n dX8_guilt_32 rfl ?_
      refine jj_iload_n dX8_guilt_33 rfl ?_
      refine jj_iload_n dX8_guilt_34 rfl ?_
      refine zz_cVi (av := [ji (l), ji (n)]) (st' := []) dX8_guilt_35 kn_X8_213 kmX8_biters tt416 rfl rfl rfl (Nat.le_of_ble_eq_true rfl) (by decide) rfl (c_X8_biters g (f_X8_layThen s) l n.toNat n (by omega) 999 (layThen_mr hm) (by omega) (by omega)) (fun hr35 ho35 => ?_)
      refine zz_retie dX8_guilt_38 rfl (by decide) ?_ ?_
      · unfold v_X8_guilt; (repeat (first | rw [if_pos (by omega)] | rw [if_neg (by omega)])) <;> first | rfl | done
      · unfold f_X8_guilt; (repeat (first | rw [if_pos (by omega)] | rw [if_neg (by omega)])) <;> first | rfl | done
    · have hg22 := bz_f h22
      refine jj_ldc dX8_guilt_25 kk_X8_70 (kk := ?_)
      refine zz_retie dX8_guilt_27 rfl (by decide) ?_ ?_
      · unfold v_X8_guilt; (repeat (first | rw [if_pos (by omega)] | rw [if_neg (by omega)])) <;> first | rfl | done
      · unfold f_X8_guilt; (repeat (first | rw [if_pos (by omega)] | rw [if_neg (by omega)])) <;> first | rfl | done

