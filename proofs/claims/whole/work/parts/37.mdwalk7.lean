def v_X8_hang (s : jz_St) (l h : Int) : Int := if (0 ≤ l ∧ l ≤ s 420 3 - 1) ∧ 0 ≤ h ∧ h ≤ 9 then (if s 420 (6 + 5 * l.toNat + 4) = 0 then -1000002 else s 420 (6 + 5 * l.toNat + 2)) else -1000001
def f_X8_hang (s : jz_St) (l h : Int) : jz_St := if (0 ≤ l ∧ l ≤ s 420 3 - 1) ∧ 0 ≤ h ∧ h ≤ 9 then (if s 420 (6 + 5 * l.toNat + 4) = 0 then s else jz_su (f_X8_keep s) 420 (6 + 5 * l.toNat + 2) h) else s
set_option maxRecDepth 100000 in
set_option maxHeartbeats 4000000 in
theorem c_X8_hang (g : jz_G) (s : jz_St) (l h : Int) (hM : mIn s)  : jz_C g mX8_hang [jr (416), ji (l), ji (h)] s (jq_ie (v_X8_hang s l h) (f_X8_hang s l h)) := by
  refine zz_C_of koX8_hang rfl (Nat.le_of_ble_eq_true rfl) ?_
  refine zz_pad 1 ?_
  show jz_Z g mX8_hang (jq_ie (v_X8_hang s l h) (f_X8_hang s l h)) 0 [some (jr (416)), some (ji (l)), some (ji (h)), none] [] s
  have hL := hM.1
  have hm := hM.2.1
  have ha := hM.2.2.1
  have htr := hM.2.2.2
  have hmh := mRw_h hm
  refine jj_aload_n dX8_hang_0 rfl ?_
  refine jj_iconst dX8_hang_1 (kk := ?_)
  refine zz_putI dX8_hang_2 kw_X8_50 tt416 rfl rfl ?_
  refine zz_st (s1 := s) (by exact jz_su_id hL.1) ?_
  refine jj_aload_n dX8_hang_5 rfl ?_
  refine jj_iload_n dX8_hang_6 rfl ?_
  refine zz_cVi (av := [ji (l)]) (st' := []) dX8_hang_7 kn_X8_193 kmX8_isLeaf tt416 rfl rfl rfl (Nat.le_of_ble_eq_true rfl) (by decide) rfl (c_X8_isLeaf g s l (by omega)) (fun hr7 ho7 => ?_)
  refine jj_if_eq (tgt := 25) dX8_hang_10 (by decide) (fun h10 => ?_) (fun h10 => ?_)
  · have hg10 := bz_f h10
    refine jj_ldc dX8_hang_25 kk_X8_70 (kk := ?_)
    refine zz_retie dX8_hang_27 rfl (by decide) ?_ ?_
    · unfold v_X8_hang; (repeat (first | rw [if_pos (by omega)] | rw [if_neg (by omega)])) <;> first | rfl | done
    · unfold f_X8_hang; (repeat (first | rw [if_pos (by omega)] | rw [if_neg (by omega)])) <;> first | rfl | done
  · have hg10 := bz_t h10
    refine jj_iload_n dX8_hang_13 rfl ?_
    refine jj_i2l dX8_hang_14 ?_
    refine jj_lconst (z := 0) dX8_hang_15 (kk := ?_)
    refine jj_ldc2 dX8_hang_16 kk_X8_196 (kk := ?_)
    refine zz_cSi (av := [jl (h), jl (0), jl (9)]) (st' := []) dX8_hang_19 kn_X8_60 kmX8_in rfl rfl (Nat.le_of_ble_eq_true rfl) (by decide) rfl (c_X8_in g s h 0 9) (fun hr19 ho19 => ?_)
    refine jj_if_ne (tgt := 28) dX8_hang_22 (by decide) (fun h22 => ?_) (fun h22 => ?_)
    · have hg22 := bz_t h22
      refine jj_aload_n dX8_hang_28 rfl ?_
      refine zz_getR dX8_hang_29 kf_X8_19 tt416 rfl ?_
      refine jj_iload_n dX8_hang_32 rfl ?_
      refine jj_iconst dX8_hang_33 (kk := ?_)
      refine zz_cSi (av := [jr (420), ji (l), ji (4)]) (st' := []) dX8_hang_34 kn_X8_155 kmX8_of rfl rfl (Nat.le_of_ble_eq_true rfl) (by decide) rfl (c_X8_of g s 420 (Or.inl rfl) l 4 (6 + 5 * l.toNat + 4) (by omega) (by omega)) (fun hr34 ho34 => ?_)
      refine jj_if_ne (tgt := 43) dX8_hang_37 (by decide) (fun h37 => ?_) (fun h37 => ?_)
      · refine jj_aload_n dX8_hang_43 rfl ?_
        refine zz_cVv (av := []) (st' := []) dX8_hang_44 kn_X8_190 kmX8_keep tt416 rfl rfl rfl (Nat.le_of_ble_eq_true rfl) (by decide) rfl (c_X8_keep g s (by omega)) (fun ho44 => ?_)
        refine jj_aload_n dX8_hang_47 rfl ?_
        refine zz_getR dX8_hang_48 kf_X8_19 tt416 rfl ?_
        refine jj_iload_n dX8_hang_51 rfl ?_
        refine jj_iconst dX8_hang_52 (kk := ?_)
        refine zz_cSi (av := [jr (420), ji (l), ji (2)]) (st' := []) dX8_hang_53 kn_X8_155 kmX8_of rfl rfl (Nat.le_of_ble_eq_true rfl) (by decide) rfl (c_X8_of g (f_X8_keep s) 420 (Or.inl rfl) l 2 (6 + 5 * l.toNat + 2) (by omega) (by omega)) (fun hr53 ho53 => ?_)
        refine zz_top (b := s 420 (6 + 5 * l.toNat + 2)) (by rw [keep_oo _ (by decide) (by decide)]) ?_
        refine jj_istore_n (ls' := [some (jr (416)), some (ji (l)), some (ji (h)), some (ji (s 420 (6 + 5 * l.toNat + 2)))]) dX8_hang_56 (by decide) rfl rfl ?_
        refine jj_aload_n dX8_hang_57 rfl ?_
        refine zz_getR dX8_hang_58 kf_X8_19 tt416 rfl ?_
        refine jj_bipush dX8_hang_61 (kk := ?_)
        refine jj_iconst dX8_hang_63 (kk := ?_)
        refine jj_iload_n dX8_hang_64 rfl ?_
        refine jj_imul dX8_hang_65 (by omega) ?_
        refine jj_iadd dX8_hang_66 (by omega) ?_
        refine jj_iconst dX8_hang_67 (kk := ?_)
        refine jj_iadd dX8_hang_68 (by omega) ?_
        refine jj_iload_n dX8_hang_69 rfl ?_
        refine zz_iastN (j := 6 + 5 * l.toNat + 2) dX8_hang_70 tt420 (by omega) (by omega) ?_
        refine jj_iload_n dX8_hang_71 rfl ?_
        refine zz_retie dX8_hang_72 rfl (by decide) ?_ ?_
        · unfold v_X8_hang; (repeat (first | rw [if_pos (by omega)] | rw [if_neg (by omega)])) <;> first | rfl | done
        · unfold f_X8_hang; (repeat (first | rw [if_pos (by omega)] | rw [if_neg (by omega)])) <;> first | rfl | done
      · refine jj_ldc dX8_hang_40 kk_X8_187 (kk := ?_)
        refine zz_retie dX8_hang_42 rfl (by decide) ?_ ?_
        · unfold v_X8_hang; (repeat (first | rw [if_pos (by omega)] | rw [if_neg (by omega)])) <;> first | rfl | done
        · unfold f_X8_hang; (repeat (first | rw [if_pos (by omega)] | rw [if_neg (by omega)])) <;> first | rfl | done
    · have hg22 := bz_f h22
      refine jj_ldc dX8_hang_25 kk_X8_70 (kk := ?_)
      refine zz_retie dX8_hang_27 rfl (by decide) ?_ ?_
      · unfold v_X8_hang; (repeat (first | rw [if_pos (by omega)] | rw [if_neg (by omega)])) <;> first | rfl | done
      · unfold f_X8_hang; (repeat (first | rw [if_pos (by omega)] | rw [if_neg (by omega)])) <;> first | rfl | done

def v_X8_salt (s : jz_St) (l : Int) : Int := if (0 ≤ l ∧ l ≤ s 420 3 - 1) then (if s 420 (6 + 5 * l.toNat + 3) = 19 then -1000003 else s 420 (6 + 5 * l.toNat + 3) + 1) else -1000001
def f_X8_salt (s : jz_St) (l : Int) : jz_St := if (0 ≤ l ∧ l ≤ s 420 3 - 1) then (if s 420 (6 + 5 * l.toNat + 3) = 19 then s else jz_su (f_X8_keep s) 420 (6 + 5 * l.toNat + 3) (s 420 (6 + 5 * l.toNat + 3) + 1)) else s
set_option maxRecDepth 100000 in
set_option maxHeartbeats 4000000 in
theorem c_X8_salt (g : jz_G) (s : jz_St) (l : Int) (hM : mIn s)  : jz_C g mX8_salt [jr (416), ji (l)] s (jq_ie (v_X8_salt s l) (f_X8_salt s l)) := by
  refine zz_C_of koX8_salt rfl (Nat.le_of_ble_eq_true rfl) ?_
  refine zz_pad 0 ?_
  show jz_Z g mX8_salt (jq_ie (v_X8_salt s l) (f_X8_salt s l)) 0 [some (jr (416)), some (ji (l))] [] s
  have hL := hM.1
  have hm := hM.2.1
  have ha := hM.2.2.1
  have htr := hM.2.2.2
  have hmh := mRw_h hm
  refine jj_aload_n dX8_salt_0 rfl ?_
  refine jj_iconst dX8_salt_1 (kk := ?_)
  refine zz_putI dX8_salt_2 kw_X8_50 tt416 rfl rfl ?_
  refine zz_st (s1 := s) (by exact jz_su_id hL.1) ?_
  refine jj_aload_n dX8_salt_5 rfl ?_
  refine jj_iload_n dX8_salt_6 rfl ?_
  refine zz_cVi (av := [ji (l)]) (st' := []) dX8_salt_7 kn_X8_193 kmX8_isLeaf tt416 rfl rfl rfl (Nat.le_of_ble_eq_true rfl) (by decide) rfl (c_X8_isLeaf g s l (by omega)) (fun hr7 ho7 => ?_)
  refine jj_if_ne (tgt := 16) dX8_salt_10 (by decide) (fun h10 => ?_) (fun h10 => ?_)
  · have hg10 := bz_t h10
    refine jj_aload_n dX8_salt_16 rfl ?_
    refine zz_getR dX8_salt_17 kf_X8_19 tt416 rfl ?_
    refine jj_iload_n dX8_salt_20 rfl ?_
    refine jj_iconst dX8_salt_21 (kk := ?_)
    refine zz_cSi (av := [jr (420), ji (l), ji (3)]) (st' := []) dX8_salt_22 kn_X8_155 kmX8_of rfl rfl (Nat.le_of_ble_eq_true rfl) (by decide) rfl (c_X8_of g s 420 (Or.inl rfl) l 3 (6 + 5 * l.toNat + 3) (by omega) (by omega)) (fun hr22 ho22 => ?_)
    refine jj_bipush dX8_salt_25 (kk := ?_)
    refine jj_icmp_ne (tgt := 33) dX8_salt_27 (by decide) (fun h27 => ?_) (fun h27 => ?_)
    · refine jj_aload_n dX8_salt_33 rfl ?_
      refine zz_cVv (av := []) (st' := []) dX8_salt_34 kn_X8_190 kmX8_keep tt416 rfl rfl rfl (Nat.le_of_ble_eq_true rfl) (by decide) rfl (c_X8_keep g s (by omega)) (fun ho34 => ?_)
      refine jj_aload_n dX8_salt_37 rfl ?_
      refine zz_getR dX8_salt_38 kf_X8_19 tt416 rfl ?_
      refine jj_bipush dX8_salt_41 (kk := ?_)
      refine jj_iconst dX8_salt_43 (kk := ?_)
      refine jj_iload_n dX8_salt_44 rfl ?_
      refine jj_imul dX8_salt_45 (by omega) ?_
      refine jj_iadd dX8_salt_46 (by omega) ?_
      refine jj_iconst dX8_salt_47 (kk := ?_)
      refine jj_iadd dX8_salt_48 (by omega) ?_
      refine jj_dup2 dX8_salt_49 (kk := ?_)
      refine zz_ialdN (j := 6 + 5 * l.toNat + 3) dX8_salt_50 tt420 (by omega) (by omega) ?_
      refine zz_top (b := s 420 (6 + 5 * l.toNat + 3)) (by rw [keep_oo _ (by decide) (by decide)]) ?_
      refine jj_iconst dX8_salt_51 (kk := ?_)
      refine jj_iadd dX8_salt_52 (by have := mRw_l hm l.toNat (by omega); omega) ?_
      refine zz_iastN (j := 6 + 5 * l.toNat + 3) dX8_salt_53 tt420 (by omega) (by omega) ?_
      refine jj_aload_n dX8_salt_54 rfl ?_
      refine zz_getR dX8_salt_55 kf_X8_19 tt416 rfl ?_
      refine jj_iload_n dX8_salt_58 rfl ?_
      refine jj_iconst dX8_salt_59 (kk := ?_)
      refine zz_cSi (av := [jr (420), ji (l), ji (3)]) (st' := []) dX8_salt_60 kn_X8_155 kmX8_of rfl rfl (Nat.le_of_ble_eq_true rfl) (by decide) rfl (c_X8_of g (jz_su (f_X8_keep s) 420 (6 + 5 * l.toNat + 3) ((s 420 (6 + 5 * l.toNat + 3)) + 1)) 420 (Or.inl rfl) l 3 (6 + 5 * l.toNat + 3) (by omega) (by omega)) (fun hr60 ho60 => ?_)
      refine zz_top (b := s 420 (6 + 5 * l.toNat + 3) + 1) (by rw [jz_su_s]) ?_
      refine zz_retie dX8_salt_63 rfl (by decide) ?_ ?_
      · unfold v_X8_salt; (repeat (first | rw [if_pos (by omega)] | rw [if_neg (by omega)])) <;> first | rfl | done
      · unfold f_X8_salt; (repeat (first | rw [if_pos (by omega)] | rw [if_neg (by omega)])) <;> first | rfl | done
    · refine jj_ldc dX8_salt_30 kk_X8_80 (kk := ?_)
      refine zz_retie dX8_salt_32 rfl (by decide) ?_ ?_
      · unfold v_X8_salt; (repeat (first | rw [if_pos (by omega)] | rw [if_neg (by omega)])) <;> first | rfl | done
      · unfold f_X8_salt; (repeat (first | rw [if_pos (by omega)] | rw [if_neg (by omega)])) <;> first | rfl | done
  · have hg10 := bz_f h10
    refine jj_ldc dX8_salt_13 kk_X8_70 (kk := ?_)
    refine zz_retie dX8_salt_15 rfl (by decide) ?_ ?_
    · unfold v_X8_salt; (repeat (first | rw [if_pos (by omega)] | rw [if_neg (by omega)])) <;> first | rfl | done
    · unfold f_X8_salt; (repeat (first | rw [if_pos (by omega)] | rw [if_neg (by omega)])) <;> first | rfl | done

def v_X8_transcribe (s : jz_St) (l : Int) : Int := if (0 ≤ l ∧ l ≤ s 420 3 - 1) then s 420 (6 + 5 * l.toNat + 4) else -1000001
def f_X8_transcribe (s : jz_St) (l : Int) : jz_St := if (0 ≤ l ∧ l ≤ s 420 3 - 1) then jz_su (f_X8_keep s) 420 (6 + 5 * l.toNat + 4) (s 420 (6 + 5 * l.toNat + 1)) else s
set_option maxRecDepth 100000 in
set_option maxHeartbeats 4000000 in
theorem c_X8_transcribe (g : jz_G) (s : jz_St) (l : Int) (hM : mIn s)  : jz_C g mX8_transcribe [jr (416), ji (l)] s (jq_ie (v_X8_transcribe s l) (f_X8_transcribe s l)) := by
  refine zz_C_of koX8_transcribe rfl (Nat.le_of_ble_eq_true rfl) ?_
  refine zz_pad 1 ?_
  show jz_Z g mX8_transcribe (jq_ie (v_X8_transcribe s l) (f_X8_transcribe s l)) 0 [some (jr (416)), some (ji (l)), none] [] s
  have hL := hM.1
  have hm := hM.2.1
  have ha := hM.2.2.1
  have htr := hM.2.2.2
  have hmh := mRw_h hm
  refine jj_aload_n dX8_transcribe_0 rfl ?_
  refine jj_iconst dX8_transcribe_1 (kk := ?_)
  refine zz_putI dX8_transcribe_2 kw_X8_50 tt416 rfl rfl ?_
  refine zz_st (s1 := s) (by exact jz_su_id hL.1) ?_
  refine jj_aload_n dX8_transcribe_5 rfl ?_
  refine jj_iload_n dX8_transcribe_6 rfl ?_
  refine zz_cVi (av := [ji (l)]) (st' := []) dX8_transcribe_7 kn_X8_193 kmX8_isLeaf tt416 rfl rfl rfl (Nat.le_of_ble_eq_true rfl) (by decide) rfl (c_X8_isLeaf g s l (by omega)) (fun hr7 ho7 => ?_)
  refine jj_if_ne (tgt := 16) dX8_transcribe_10 (by decide) (fun h10 => ?_) (fun h10 => ?_)
  · have hg10 := bz_t h10
    refine jj_aload_n dX8_transcribe_16 rfl ?_
    refine zz_cVv (av := []) (st' := []) dX8_transcribe_17 kn_X8_190 kmX8_keep tt416 rfl rfl rfl (Nat.le_of_ble_eq_true rfl) (by decide) rfl (c_X8_keep g s (by omega)) (fun ho17 => ?_)
    refine jj_aload_n dX8_transcribe_20 rfl ?_
    refine zz_getR dX8_transcribe_21 kf_X8_19 tt416 rfl ?_
    refine jj_iload_n dX8_transcribe_24 rfl ?_
    refine jj_iconst dX8_transcribe_25 (kk := ?_)
    refine zz_cSi (av := [jr (420), ji (l), ji (4)]) (st' := []) dX8_transcribe_26 kn_X8_155 kmX8_of rfl rfl (Nat.le_of_ble_eq_true rfl) (by decide) rfl (c_X8_of g (f_X8_keep s) 420 (Or.inl rfl) l 4 (6 + 5 * l.toNat + 4) (by omega) (by omega)) (fun hr26 ho26 => ?_)
    refine zz_top (b := s 420 (6 + 5 * l.toNat + 4)) (by rw [keep_oo _ (by decide) (by decide)]) ?_
    refine jj_istore_n (ls' := [some (jr (416)), some (ji (l)), some (ji (s 420 (6 + 5 * l.toNat + 4)))]) dX8_transcribe_29 (by decide) rfl rfl ?_
    refine jj_aload_n dX8_transcribe_30 rfl ?_
    refine zz_getR dX8_transcribe_31 kf_X8_19 tt416 rfl ?_
    refine jj_bipush dX8_transcribe_34 (kk := ?_)
    refine jj_iconst dX8_transcribe_36 (kk := ?_)
    refine jj_iload_n dX8_transcribe_37 rfl ?_
    refine jj_imul dX8_transcribe_38 (by omega) ?_
    refine jj_iadd dX8_transcribe_39 (by omega) ?_
    refine jj_iconst dX8_transcribe_40 (kk := ?_)
    refine jj_iadd dX8_transcribe_41 (by omega) ?_
    refine jj_aload_n dX8_transcribe_42 rfl ?_
    refine zz_getR dX8_transcribe_43 kf_X8_19 tt416 rfl ?_
    refine jj_iload_n dX8_transcribe_46 rfl ?_
    refine jj_iconst dX8_transcribe_47 (kk := ?_)
    refine zz_cSi (av := [jr (420), ji (l), ji (1)]) (st' := [ji ((6 + (5 * l)) + 4), jr (420)]) dX8_transcribe_48 kn_X8_155 kmX8_of rfl rfl (Nat.le_of_ble_eq_true rfl) (by decide) rfl (c_X8_of g (f_X8_keep s) 420 (Or.inl rfl) l 1 (6 + 5 * l.toNat + 1) (by omega) (by omega)) (fun hr48 ho48 => ?_)
    refine zz_top (b := s 420 (6 + 5 * l.toNat + 1)) (by rw [keep_oo _ (by decide) (by decide)]) ?_
    refine zz_iastN (j := 6 + 5 * l.toNat + 4) dX8_transcribe_51 tt420 (by omega) (by omega) ?_
    refine jj_iload_n dX8_transcribe_52 rfl ?_
    refine zz_retie dX8_transcribe_53 rfl (by decide) ?_ ?_
    · unfold v_X8_transcribe; (repeat (first | rw [if_pos (by omega)] | rw [if_neg (by omega)])) <;> first | rfl | done
    · unfold f_X8_transcribe; (repeat (first | rw [if_pos (by omega)] | rw [if_neg (by omega)])) <;> first | rfl | done
  · have hg10 := bz_f h10
    refine jj_ldc dX8_transcribe_13 kk_X8_70 (kk := ?_)
    refine zz_retie dX8_transcribe_15 rfl (by decide) ?_ ?_
    · unfold v_X8_transcribe; (repeat (first | rw [if_pos (by omega)] | rw [if_neg (by omega)])) <;> first | rfl | done
    · unfold f_X8_transcribe; (repeat (first | rw [if_pos (by omega)] | rw [if_neg (by omega)])) <;> first | rfl | done

def v_X8_drive (s : jz_St) (c n : Int) : Int := if (0 ≤ c ∧ c ≤ s 420 4 - 1) ∧ 0 ≤ n ∧ n ≤ 60 then s 420 (41 + 3 * c.toNat + 2) else -1000001
def f_X8_drive (s : jz_St) (c n : Int) : jz_St := if (0 ≤ c ∧ c ≤ s 420 4 - 1) ∧ 0 ≤ n ∧ n ≤ 60 then jz_su (f_X8_keep s) 420 (41 + 3 * c.toNat + 2) n else s
set_option maxRecDepth 100000 in
set_option maxHeartbeats 4000000 in
theorem c_X8_drive (g : jz_G) (s : jz_St) (c n : Int) (hM : mIn s)  : jz_C g mX8_drive [jr (416), ji (c), ji (n)] s (jq_ie (v_X8_drive s c n) (f_X8_drive s c n)) := by
  refine zz_C_of koX8_drive rfl (Nat.le_of_ble_eq_true rfl) ?_
  refine zz_pad 1 ?_
  show jz_Z g mX8_drive (jq_ie (v_X8_drive s c n) (f_X8_drive s c n)) 0 [some (jr (416)), some (ji (c)), some (ji (n)), none] [] s
  have hL := hM.1
  have hm := hM.2.1
  have ha := hM.2.2.1
  have htr := hM.2.2.2
  have hmh := mRw_h hm
  refine jj_aload_n dX8_drive_0 rfl ?_
  refine jj_iconst dX8_drive_1 (kk := ?_)
  refine zz_putI dX8_drive_2 kw_X8_50 tt416 rfl rfl ?_
  refine zz_st (s1 := s) (by exact jz_su_id hL.1) ?_
  refine jj_aload_n dX8_drive_5 rfl ?_
  refine jj_iload_n dX8_drive_6 rfl ?_
  refine zz_cVi (av := [ji (c)]) (st' := []) dX8_drive_7 kn_X8_198 kmX8_isGoat tt416 rfl rfl rfl (Nat.le_of_ble_eq_true rfl) (by decide) rfl (c_X8_isGoat g s c (by omega)) (fun hr7 ho7 => ?_)
  refine jj_if_eq (tgt := 25) dX8_drive_10 (by decide) (fun h10 => ?_) (fun h10 => ?_)
  · have hg10 := bz_f h10
    refine jj_ldc dX8_drive_25 kk_X8_70 (kk := ?_)
    refine zz_retie dX8_drive_27 rfl (by decide) ?_ ?_
    · unfold v_X8_drive; (repeat (first | rw [if_pos (by omega)] | rw [if_neg (by omega)])) <;> first | rfl | done
    · unfold f_X8_drive; (repeat (first | rw [if_pos (by omega)] | rw [if_neg (by omega)])) <;> first | rfl | done
  · have hg10 := bz_t h10
    refine jj_iload_n dX8_drive_13 rfl ?_
    refine jj_i2l dX8_drive_14 ?_
    refine jj_lconst (z := 0) dX8_drive_15 (kk := ?_)
    refine jj_ldc2 dX8_drive_16 kk_X8_201 (kk := ?_)
    refine zz_cSi (av := [jl (n), jl (0), jl (60)]) (st' := []) dX8_drive_19 kn_X8_60 kmX8_in rfl rfl (Nat.le_of_ble_eq_true rfl) (by decide) rfl (c_X8_in g s n 0 60) (fun hr19 ho19 => ?_)
    refine jj_if_ne (tgt := 28) dX8_drive_22 (by decide) (fun h22 => ?_) (fun h22 => ?_)
    · have hg22 := bz_t h22
      refine jj_aload_n dX8_drive_28 rfl ?_
      refine zz_cVv (av := []) (st' := []) dX8_drive_29 kn_X8_190 kmX8_keep tt416 rfl rfl rfl (Nat.le_of_ble_eq_true rfl) (by decide) rfl (c_X8_keep g s (by omega)) (fun ho29 => ?_)
      refine jj_aload_n dX8_drive_32 rfl ?_
      refine zz_getR dX8_drive_33 kf_X8_19 tt416 rfl ?_
      refine jj_iload_n dX8_drive_36 rfl ?_
      refine jj_iconst dX8_drive_37 (kk := ?_)
      refine zz_cSi (av := [jr (420), ji (c), ji (2)]) (st' := []) dX8_drive_38 kn_X8_159 kmX8_its rfl rfl (Nat.le_of_ble_eq_true rfl) (by decide) rfl (c_X8_its g (f_X8_keep s) 420 (Or.inl rfl) c 2 (41 + 3 * c.toNat + 2) (by omega) (by omega)) (fun hr38 ho38 => ?_)
      refine zz_top (b := s 420 (41 + 3 * c.toNat + 2)) (by rw [keep_oo _ (by decide) (by decide)]) ?_
      refine jj_istore_n (ls' := [some (jr (416)), some (ji (c)), some (ji (n)), some (ji (s 420 (41 + 3 * c.toNat + 2)))]) dX8_drive_41 (by decide) rfl rfl ?_
      refine jj_aload_n dX8_drive_42 rfl ?_
      refine zz_getR dX8_drive_43 kf_X8_19 tt416 rfl ?_
      refine jj_bipush dX8_drive_46 (kk := ?_)
      refine jj_iconst dX8_drive_48 (kk := ?_)
      refine jj_iload_n dX8_drive_49 rfl ?_
      refine jj_imul dX8_drive_50 (by omega) ?_
      refine jj_iadd dX8_drive_51 (by omega) ?_
      refine jj_iconst dX8_drive_52 (kk := ?_)
      refine jj_iadd dX8_drive_53 (by omega) ?_
      refine jj_iload_n dX8_drive_54 rfl ?_
      refine zz_iastN (j := 41 + 3 * c.toNat + 2) dX8_drive_55 tt420 (by omega) (by omega) ?_
      refine jj_iload_n dX8_drive_56 rfl ?_
      refine zz_retie dX8_drive_57 rfl (by decide) ?_ ?_
      · unfold v_X8_drive; (repeat (first | rw [if_pos (by omega)] | rw [if_neg (by omega)])) <;> first | rfl | done
      · unfold f_X8_drive; (repeat (first | rw [if_pos (by omega)] | rw [if_neg (by omega)])) <;> first | rfl | done
    · have hg22 := bz_f h22
      refine jj_ldc dX8_drive_25 kk_X8_70 (kk := ?_)
      refine zz_retie dX8_drive_27 rfl (by decide) ?_ ?_
      · unfold v_X8_drive; (repeat (first | rw [if_pos (by omega)] | rw [if_neg (by omega)])) <;> first | rfl | done
      · unfold f_X8_drive; (repeat (first | rw [if_pos (by omega)] | rw [if_neg (by omega)])) <;> first | rfl | done

def v_X8_fodder (s : jz_St) (c : Int) : Int := if (0 ≤ c ∧ c ≤ s 420 4 - 1) then s 420 (41 + 3 * c.toNat) else -1000001
def f_X8_fodder (s : jz_St) (c : Int) : jz_St := if (0 ≤ c ∧ c ≤ s 420 4 - 1) then jz_su (f_X8_keep s) 420 (41 + 3 * c.toNat) 0 else s
set_option maxRecDepth 100000 in
set_option maxHeartbeats 4000000 in
theorem c_X8_fodder (g : jz_G) (s : jz_St) (c : Int) (hM : mIn s)  : jz_C g mX8_fodder [jr (416), ji (c)] s (jq_ie (v_X8_fodder s c) (f_X8_fodder s c)) := by
  refine zz_C_of koX8_fodder rfl (Nat.le_of_ble_eq_true rfl) ?_
  refine zz_pad 1 ?_
  show jz_Z g mX8_fodder (jq_ie (v_X8_fodder s c) (f_X8_fodder s c)) 0 [some (jr (416)), some (ji (c)), none] [] s
  have hL := hM.1
  have hm := hM.2.1
  have ha := hM.2.2.1
  have htr := hM.2.2.2
  have hmh := mRw_h hm
  refine jj_aload_n dX8_fodder_0 rfl ?_
  refine jj_iconst dX8_fodder_1 (kk := ?_)
  refine zz_putI dX8_fodder_2 kw_X8_50 tt416 rfl rfl ?_
  refine zz_st (s1 := s) (by exact jz_su_id hL.1) ?_
  refine jj_aload_n dX8_fodder_5 rfl ?_
  refine jj_iload_n dX8_fodder_6 rfl ?_
  refine zz_cVi (av := [ji (c)]) (st' := []) dX8_fodder_7 kn_X8_198 kmX8_isGoat tt416 rfl rfl rfl (Nat.le_of_ble_eq_true rfl) (by decide) rfl (c_X8_isGoat g s c (by omega)) (fun hr7 ho7 => ?_)
  refine jj_if_ne (tgt := 16) dX8_fodder_10 (by decide) (fun h10 => ?_) (fun h10 => ?_)
  · have hg10 := bz_t h10
    refine jj_aload_n dX8_fodder_16 rfl ?_
    refine zz_cVv (av := []) (st' := []) dX8_fodder_17 kn_X8_190 kmX8_keep tt416 rfl rfl rfl (Nat.le_of_ble_eq_true rfl) (by decide) rfl (c_X8_keep g s (by omega)) (fun ho17 => ?_)
    refine jj_aload_n dX8_fodder_20 rfl ?_
    refine zz_getR dX8_fodder_21 kf_X8_19 tt416 rfl ?_
    refine jj_iload_n dX8_fodder_24 rfl ?_
    refine jj_iconst dX8_fodder_25 (kk := ?_)
    refine zz_cSi (av := [jr (420), ji (c), ji (0)]) (st' := []) dX8_fodder_26 kn_X8_159 kmX8_its rfl rfl (Nat.le_of_ble_eq_true rfl) (by decide) rfl (c_X8_its g (f_X8_keep s) 420 (Or.inl rfl) c 0 (41 + 3 * c.toNat) (by omega) (by omega)) (fun hr26 ho26 => ?_)
    refine zz_top (b := s 420 (41 + 3 * c.toNat)) (by rw [keep_oo _ (by decide) (by decide)]) ?_
    refine jj_istore_n (ls' := [some (jr (416)), some (ji (c)), some (ji (s 420 (41 + 3 * c.toNat)))]) dX8_fodder_29 (by decide) rfl rfl ?_
    refine jj_aload_n dX8_fodder_30 rfl ?_
    refine zz_getR dX8_fodder_31 kf_X8_19 tt416 rfl ?_
    refine jj_bipush dX8_fodder_34 (kk := ?_)
    refine jj_iconst dX8_fodder_36 (kk := ?_)
    refine jj_iload_n dX8_fodder_37 rfl ?_
    refine jj_imul dX8_fodder_38 (by omega) ?_
    refine jj_iadd dX8_fodder_39 (by omega) ?_
    refine jj_iconst dX8_fodder_40 (kk := ?_)
    refine zz_iastN (j := 41 + 3 * c.toNat) dX8_fodder_41 tt420 (by omega) (by omega) ?_
    refine jj_iload_n dX8_fodder_42 rfl ?_
    refine zz_retie dX8_fodder_43 rfl (by decide) ?_ ?_
    · unfold v_X8_fodder; (repeat (first | rw [if_pos (by omega)] | rw [if_neg (by omega)])) <;> first | rfl | done
    · unfold f_X8_fodder; (repeat (first | rw [if_pos (by omega)] | rw [if_neg (by omega)])) <;> first | rfl | done
  · have hg10 := bz_f h10
    refine jj_ldc dX8_fodder_13 kk_X8_70 (kk := ?_)
    refine zz_retie dX8_fodder_15 rfl (by decide) ?_ ?_
    · unfold v_X8_fodder; (repeat (first | rw [if_pos (by omega)] | rw [if_neg (by omega)])) <;> first | rfl | done
    · unfold f_X8_fodder; (repeat (first | rw [if_pos (by omega)] | rw [if_neg (by omega)])) <;> first | rfl | done

def v_X8_hours (s : jz_St) (n : Int) : Int := if s 420 0 = 1 then (if 1 ≤ n ∧ n ≤ 24 then (if 999 < s 420 5 + n then -1000003 else v_X8_hrs s n.toNat) else -1000001) else -1000002
def f_X8_hours (s : jz_St) (n : Int) : jz_St := if s 420 0 = 1 then (if 1 ≤ n ∧ n ≤ 24 then (if 999 < s 420 5 + n then s else f_X8_hrs s n.toNat) else s) else s
set_option maxRecDepth 100000 in
set_option maxHeartbeats 4000000 in
theorem c_X8_hours (g : jz_G) (s : jz_St) (n : Int) (hM : mIn s)  : jz_C g mX8_hours [jr (416), ji (n)] s (jq_ie (v_X8_hours s n) (f_X8_hours s n)) := by
  refine zz_C_of koX8_hours rfl (Nat.le_of_ble_eq_true rfl) ?_
  refine zz_pad 2 ?_
  show jz_Z g mX8_hours (jq_ie (v_X8_hours s n) (f_X8_hours s n)) 0 [some (jr (416)), some (ji (n)), none, none] [] s
  have hL := hM.1
  have hm := hM.2.1
  have ha := hM.2.2.1
  have htr := hM.2.2.2
  have hmh := mRw_h hm
  refine jj_aload_n dX8_hours_0 rfl ?_
  refine jj_iconst dX8_hours_1 (kk := ?_)
  refine zz_putI dX8_hours_2 kw_X8_50 tt416 rfl rfl ?_
  refine zz_st (s1 := s) (by exact jz_su_id hL.1) ?_
  refine jj_aload_n dX8_hours_5 rfl ?_
  refine zz_cVi (av := []) (st' := []) dX8_hours_6 kn_X8_184 kmX8_isThere tt416 rfl rfl rfl (Nat.le_of_ble_eq_true rfl) (by decide) rfl (c_X8_isThere g s) (fun hr6 ho6 => ?_)
  refine jj_if_ne (tgt := 15) dX8_hours_9 (by decide) (fun h9 => ?_) (fun h9 => ?_)
  · have hg9 := bz_t h9
    refine jj_iload_n dX8_hours_15 rfl ?_
    refine jj_i2l dX8_hours_16 ?_
    refine jj_lconst (z := 1) dX8_hours_17 (kk := ?_)
    refine jj_ldc2 dX8_hours_18 kk_X8_188 (kk := ?_)
    refine zz_cSi (av := [jl (n), jl (1), jl (24)]) (st' := []) dX8_hours_21 kn_X8_60 kmX8_in rfl rfl (Nat.le_of_ble_eq_true rfl) (by decide) rfl (c_X8_in g s n 1 24) (fun hr21 ho21 => ?_)
    refine jj_if_ne (tgt := 30) dX8_hours_24 (by decide) (fun h24 => ?_) (fun h24 => ?_)
    · have hg24 := bz_t h24
      refine jj_aload_n dX8_hours_30 rfl ?_
      refine zz_getR dX8_hours_31 kf_X8_19 tt416 rfl ?_
      refine jj_iconst dX8_hours_34 (kk := ?_)
      refine zz_ialdN (j := 5) dX8_hours_35 tt420 (by omega) (by omega) ?_
      refine jj_iload_n dX8_hours_36 rfl ?_
      refine jj_iadd dX8_hours_37 (by omega) ?_
      refine jj_sipush dX8_hours_38 (kk := ?_)
      refine jj_icmp_le (tgt := 47) dX8_hours_41 (by decide) (fun h41 => ?_) (fun h41 => ?_)
      · refine jj_iconst dX8_hours_47 (kk := ?_)
        refine jj_istore_n (ls' := [some (jr (416)), some (ji (n)), some (ji (0)), none]) dX8_hours_48 (by decide) rfl rfl ?_
        refine jj_iconst dX8_hours_49 (kk := ?_)
        refine jj_istore_n (ls' := [some (jr (416)), some (ji (n)), some (ji (0)), some (ji (0))]) dX8_hours_50 (by decide) rfl rfl ?_
        have L51 : ∀ (nn : Nat) (j : Nat) (hh51_0 : (j : Int) ≤ n), 24 - j < nn → jz_Z g mX8_hours (jq_ie (v_X8_hours s n) (f_X8_hours s n)) 51 [some (jr (416)), some (ji (n)), some (ji (v_X8_hrs s j)), some (ji ((j : Int)))] [] (f_X8_hrs s j) := by
          intro nn
          induction nn with
          | zero => intro j hh51_0 hmz; exact absurd hmz (Nat.not_lt_zero _)
          | succ nn ih51 =>
            intro j hh51_0 hm51
            have hI := mhrs_i hm ha j
            have hk : mRw (f_X8_keep (f_X8_hrs s j) 420) (999 + j) := by rw [keep_oo _ (by decide) (by decide)]; exact hI.1
            have hv := vhour_rng (Or.inl rfl) hk
            refine jj_iload_n dX8_hours_51 rfl ?_
            refine jj_iload_n dX8_hours_52 rfl ?_
            refine jj_icmp_ge (tgt := 77) dX8_hours_53 (by decide) (fun h53 => ?_) (fun h53 => ?_)
            · refine jj_iload_n dX8_hours_77 rfl ?_
              refine zz_retie dX8_hours_78 rfl (by decide) ?_ ?_
              · unfold v_X8_hours; rw [if_pos (by omega), if_pos (by omega), if_neg (by omega), show n.toNat = j by omega]
              · unfold f_X8_hours; rw [if_pos (by omega), if_pos (by omega), if_neg (by omega), show n.toNat = j by omega]
            · refine jj_aload_n dX8_hours_56 rfl ?_
              refine zz_cVv (av := []) (st' := []) dX8_hours_57 kn_X8_190 kmX8_keep tt416 rfl rfl rfl (Nat.le_of_ble_eq_true rfl) (by decide) rfl (c_X8_keep g (f_X8_hrs s j) (by omega)) (fun ho57 => ?_)
              refine jj_iload_n dX8_hours_60 rfl ?_
              refine jj_aload_n dX8_hours_61 rfl ?_
              refine jj_aload_n dX8_hours_62 rfl ?_
              refine zz_getR dX8_hours_63 kf_X8_19 tt416 rfl ?_
              refine zz_cVi (av := [jr (420)]) (st' := [ji (v_X8_hrs s j)]) dX8_hours_66 kn_X8_169 kmX8_hour tt416 rfl rfl rfl (Nat.le_of_ble_eq_true rfl) (by decide) rfl (c_X8_hour g (f_X8_keep (f_X8_hrs s j)) 420 (Or.inl rfl) (999 + j) hk (by omega)) (fun hr66 ho66 => ?_)
              refine jj_iadd dX8_hours_69 (by omega) ?_
              refine jj_istore_n (ls' := [some (jr (416)), some (ji (n)), some (ji ((v_X8_hrs s j) + (v_X8_hour (f_X8_keep (f_X8_hrs s j)) 420))), some (ji ((j : Int)))]) dX8_hours_70 (by decide) rfl rfl ?_
              refine jj_iinc (ls' := [some (jr (416)), some (ji (n)), some (ji ((v_X8_hrs s j) + (v_X8_hour (f_X8_keep (f_X8_hrs s j)) 420))), some (ji ((j : Int) + 1))]) dX8_hours_71 rfl (by decide) rfl (by omega) rfl ?_
              refine jj_goto (tgt := 51) dX8_hours_74 (by decide) ?_
              refine zz_st (s1 := f_X8_hrs s (j + 1)) (by rfl) ?_
              exact ih51 (j + 1) (by first | assumption | omega) (by omega)
        refine zz_st (s1 := f_X8_hrs s 0) (by rfl) ?_
        exact L51 _ 0 (by first | assumption | omega) (Nat.lt_succ_self _)
      · refine jj_ldc dX8_hours_44 kk_X8_80 (kk := ?_)
        refine zz_retie dX8_hours_46 rfl (by decide) ?_ ?_
        · unfold v_X8_hours; (repeat (first | rw [if_pos (by omega)] | rw [if_neg (by omega)])) <;> first | rfl | done
        · unfold f_X8_hours; (repeat (first | rw [if_pos (by omega)] | rw [if_neg (by omega)])) <;> first | rfl | done
    · have hg24 := bz_f h24
      refine jj_ldc dX8_hours_27 kk_X8_70 (kk := ?_)
      refine zz_retie dX8_hours_29 rfl (by decide) ?_ ?_
      · unfold v_X8_hours; (repeat (first | rw [if_pos (by omega)] | rw [if_neg (by omega)])) <;> first | rfl | done
      · unfold f_X8_hours; (repeat (first | rw [if_pos (by omega)] | rw [if_neg (by omega)])) <;> first | rfl | done
  · have hg9 := bz_f h9
    refine jj_ldc dX8_hours_12 kk_X8_187 (kk := ?_)
    refine zz_retie dX8_hours_14 rfl (by decide) ?_ ?_
    · unfold v_X8_hours; (repeat (first | rw [if_pos (by omega)] | rw [if_neg (by omega)])) <;> first | rfl | done
    · unfold f_X8_hours; (repeat (first | rw [if_pos (by omega)] | rw [if_neg (by omega)])) <;> first | rfl | done

def v_X8_undo (s : jz_St)  : Int := if s 416 9 = 0 then -1000002 else s 416 9 - 1
def f_X8_undo (s : jz_St)  : jz_St := if s 416 9 = 0 then s else f_X8_rc (jz_su s 416 9 (s 416 9 - 1)) 420 423 0 (53 * (s 416 9 - 1).toNat) 53
set_option maxRecDepth 100000 in
set_option maxHeartbeats 4000000 in
theorem c_X8_undo (g : jz_G) (s : jz_St)  (hM : mIn s)  : jz_C g mX8_undo [jr (416)] s (jq_ie (v_X8_undo s ) (f_X8_undo s )) := by
  refine zz_C_of koX8_undo rfl (Nat.le_of_ble_eq_true rfl) ?_
  refine zz_pad 1 ?_
  show jz_Z g mX8_undo (jq_ie (v_X8_undo s ) (f_X8_undo s )) 0 [some (jr (416)), none] [] s
  have hL := hM.1
  have hm := hM.2.1
  have ha := hM.2.2.1
  have htr := hM.2.2.2
  have hmh := mRw_h hm
  refine jj_aload_n dX8_undo_0 rfl ?_
  refine jj_iconst dX8_undo_1 (kk := ?_)
  refine zz_putI dX8_undo_2 kw_X8_50 tt416 rfl rfl ?_
  refine zz_st (s1 := s) (by exact jz_su_id hL.1) ?_
  refine jj_aload_n dX8_undo_5 rfl ?_
  refine zz_getI dX8_undo_6 kf_X8_152 tt416 rfl rfl ?_
  refine jj_if_ne (tgt := 15) dX8_undo_9 (by decide) (fun h9 => ?_) (fun h9 => ?_)
  · refine jj_aload_n dX8_undo_15 rfl ?_
    refine jj_dup dX8_undo_16 (kk := ?_)
    refine zz_getI dX8_undo_17 kf_X8_152 tt416 rfl rfl ?_
    refine jj_iconst dX8_undo_20 (kk := ?_)
    refine jj_isub dX8_undo_21 (by omega) ?_
    refine zz_putI dX8_undo_22 kw_X8_152 tt416 rfl rfl ?_
    refine jj_iconst dX8_undo_25 (kk := ?_)
    refine jj_istore_n (ls' := [some (jr (416)), some (ji (0))]) dX8_undo_26 (by decide) rfl rfl ?_
    have L27 : ∀ (nn : Nat) (j : Nat) (hh27_0 : j ≤ 53), 53 - j < nn → jz_Z g mX8_undo (jq_ie (v_X8_undo s ) (f_X8_undo s )) 27 [some (jr (416)), some (ji ((j : Int)))] [] (f_X8_rc (jz_su s 416 9 (s 416 9 - 1)) 420 423 0 (53 * (s 416 9 - 1).toNat) j) := by
      intro nn
      induction nn with
      | zero => intro j hh27_0 hmz; exact absurd hmz (Nat.not_lt_zero _)
      | succ nn ih27 =>
        intro j hh27_0 hm27
        refine jj_iload_n dX8_undo_27 rfl ?_
        refine jj_bipush dX8_undo_28 (kk := ?_)
        refine jj_icmp_ge (tgt := 59) dX8_undo_30 (by decide) (fun h30 => ?_) (fun h30 => ?_)
        · obtain rfl : j = 53 := (by omega)
          refine jj_aload_n dX8_undo_59 rfl ?_
          refine zz_getI dX8_undo_60 kf_X8_152 tt416 rfl rfl ?_
          refine zz_top (b := s 416 9 - 1) (by rw [rc_o _ _ _ _ _ (by decide), jz_su_s]) ?_
          refine zz_retie dX8_undo_63 rfl (by decide) ?_ ?_
          · unfold v_X8_undo; (repeat (first | rw [if_pos (by omega)] | rw [if_neg (by omega)])) <;> first | rfl | done
          · unfold f_X8_undo; (repeat (first | rw [if_pos (by omega)] | rw [if_neg (by omega)])) <;> first | rfl | done
        · refine jj_aload_n dX8_undo_33 rfl ?_
          refine zz_getR dX8_undo_34 kf_X8_19 tt416 rfl ?_
          refine jj_iload_n dX8_undo_37 rfl ?_
          refine jj_aload_n dX8_undo_38 rfl ?_
          refine zz_getR dX8_undo_39 kf_X8_28 tt416 rfl ?_
          refine jj_bipush dX8_undo_42 (kk := ?_)
          refine jj_aload_n dX8_undo_44 rfl ?_
          refine zz_getI dX8_undo_45 kf_X8_152 tt416 rfl rfl ?_
          refine zz_top (b := s 416 9 - 1) (by rw [rc_o _ _ _ _ _ (by decide), jz_su_s]) ?_
          refine jj_imul dX8_undo_48 (by omega) ?_
          refine jj_iload_n dX8_undo_49 rfl ?_
          refine jj_iadd dX8_undo_50 (by omega) ?_
          refine zz_ialdN (j := 53 * (s 416 9 - 1).toNat + j) dX8_undo_51 tt423 (by omega) (by omega) ?_
          refine zz_iastN (j := 0 + j) dX8_undo_52 tt420 (by omega) (by omega) ?_
          refine jj_iinc (ls' := [some (jr (416)), some (ji ((j : Int) + 1))]) dX8_undo_53 rfl (by decide) rfl (by omega) rfl ?_
          refine jj_goto (tgt := 27) dX8_undo_56 (by decide) ?_
          refine zz_st (s1 := f_X8_rc (jz_su s 416 9 (s 416 9 - 1)) 420 423 0 (53 * (s 416 9 - 1).toNat) (j + 1)) (by rfl) ?_
          exact ih27 (j + 1) (by first | assumption | omega) (by omega)
    refine zz_st (s1 := f_X8_rc (jz_su s 416 9 (s 416 9 - 1)) 420 423 0 (53 * (s 416 9 - 1).toNat) 0) (by rfl) ?_
    exact L27 _ 0 (by first | assumption | omega) (Nat.lt_succ_self _)
  · refine jj_ldc dX8_undo_12 kk_X8_187 (kk := ?_)
    refine zz_retie dX8_undo_14 rfl (by decide) ?_ ?_
    · unfold v_X8_undo; (repeat (first | rw [if_pos (by omega)] | rw [if_neg (by omega)])) <;> first | rfl | done
    · unfold f_X8_undo; (repeat (first | rw [if_pos (by omega)] | rw [if_neg (by omega)])) <;> first | rfl | done

def v_X8_leaf (s : jz_St) (l w : Int) : Int := if (0 ≤ l ∧ l ≤ s 420 3 - 1) ∧ 0 ≤ w ∧ w ≤ 5 then (if w < 4 then s 420 (6 + 5 * l.toNat + (1 + w).toNat) else if w = 4 then rLk (s 420) l.toNat else if s 420 (6 + 5 * l.toNat + 1) ≤ 2 * s 420 (6 + 5 * l.toNat + 4) then 2 else if 0 < s 420 (6 + 5 * l.toNat + 4) then 1 else 0) else -1000001
set_option maxRecDepth 100000 in
set_option maxHeartbeats 4000000 in
theorem c_X8_leaf (g : jz_G) (s : jz_St) (l w : Int) (hM : mIn s)  : jz_C g mX8_leaf [jr (416), ji (l), ji (w)] s (jq_ie (v_X8_leaf s l w) s) := by
  refine zz_C_of koX8_leaf rfl (Nat.le_of_ble_eq_true rfl) ?_
  refine zz_pad 0 ?_
  show jz_Z g mX8_leaf (jq_ie (v_X8_leaf s l w) s) 0 [some (jr (416)), some (ji (l)), some (ji (w))] [] s
  have hL := hM.1
  have hm := hM.2.1
  have ha := hM.2.2.1
  have htr := hM.2.2.2
  have hmh := mRw_h hm
  refine jj_aload_n dX8_leaf_0 rfl ?_
  refine jj_iconst dX8_leaf_1 (kk := ?_)
  refine zz_putI dX8_leaf_2 kw_X8_50 tt416 rfl rfl ?_
  refine zz_st (s1 := s) (by exact jz_su_id hL.1) ?_
  refine jj_aload_n dX8_leaf_5 rfl ?_
  refine jj_iload_n dX8_leaf_6 rfl ?_
  refine zz_cVi (av := [ji (l)]) (st' := []) dX8_leaf_7 kn_X8_193 kmX8_isLeaf tt416 rfl rfl rfl (Nat.le_of_ble_eq_true rfl) (by decide) rfl (c_X8_isLeaf g s l (by omega)) (fun hr7 ho7 => ?_)
  refine jj_if_eq (tgt := 25) dX8_leaf_10 (by decide) (fun h10 => ?_) (fun h10 => ?_)
  · have hg10 := bz_f h10
    refine jj_ldc dX8_leaf_25 kk_X8_70 (kk := ?_)
    refine zz_retie dX8_leaf_27 rfl (by decide) ?_ ?_
    · unfold v_X8_leaf; (repeat (first | rw [if_pos (by omega)] | rw [if_neg (by omega)])) <;> first | rfl | done
    · rfl
  · have hg10 := bz_t h10
    refine jj_iload_n dX8_leaf_13 rfl ?_
    refine jj_i2l dX8_leaf_14 ?_
    refine jj_lconst (z := 0) dX8_leaf_15 (kk := ?_)
    refine jj_ldc2 dX8_leaf_16 kk_X8_203 (kk := ?_)
    refine zz_cSi (av := [jl (w), jl (0), jl (5)]) (st' := []) dX8_leaf_19 kn_X8_60 kmX8_in rfl rfl (Nat.le_of_ble_eq_true rfl) (by decide) rfl (c_X8_in g s w 0 5) (fun hr19 ho19 => ?_)
    refine jj_if_ne (tgt := 28) dX8_leaf_22 (by decide) (fun h22 => ?_) (fun h22 => ?_)
    · have hg22 := bz_t h22
      refine jj_iload_n dX8_leaf_28 rfl ?_
      refine jj_iconst dX8_leaf_29 (kk := ?_)
      refine jj_icmp_ge (tgt := 47) dX8_leaf_30 (by decide) (fun h30 => ?_) (fun h30 => ?_)
      · refine jj_iload_n dX8_leaf_47 rfl ?_
        refine jj_iconst dX8_leaf_48 (kk := ?_)
        refine jj_icmp_ne (tgt := 63) dX8_leaf_49 (by decide) (fun h49 => ?_) (fun h49 => ?_)
        · refine jj_aload_n dX8_leaf_63 rfl ?_
          refine zz_getR dX8_leaf_64 kf_X8_19 tt416 rfl ?_
          refine jj_iload_n dX8_leaf_67 rfl ?_
          refine zz_cSi (av := [jr (420), ji (l)]) (st' := []) dX8_leaf_68 kn_X8_173 kmX8_isForce rfl rfl (Nat.le_of_ble_eq_true rfl) (by decide) rfl (c_X8_isForce g s 420 (Or.inl rfl) l l.toNat (by omega) 999 hm (by omega)) (fun hr68 ho68 => ?_)
          refine jj_if_eq (tgt := 78) dX8_leaf_71 (by decide) (fun h71 => ?_) (fun h71 => ?_)
          · have hg71 := bz_f h71
            refine jj_aload_n dX8_leaf_78 rfl ?_
            refine zz_getR dX8_leaf_79 kf_X8_19 tt416 rfl ?_
            refine jj_iload_n dX8_leaf_82 rfl ?_
            refine jj_iconst dX8_leaf_83 (kk := ?_)
            refine zz_cSi (av := [jr (420), ji (l), ji (4)]) (st' := []) dX8_leaf_84 kn_X8_155 kmX8_of rfl rfl (Nat.le_of_ble_eq_true rfl) (by decide) rfl (c_X8_of g s 420 (Or.inl rfl) l 4 (6 + 5 * l.toNat + 4) (by omega) (by omega)) (fun hr84 ho84 => ?_)
            refine jj_if_le (tgt := 94) dX8_leaf_87 (by decide) (fun h87 => ?_) (fun h87 => ?_)
            · refine jj_iconst dX8_leaf_94 (kk := ?_)
              refine zz_retie dX8_leaf_95 rfl (by decide) ?_ ?_
              · unfold v_X8_leaf; (repeat (first | rw [if_pos (by omega)] | rw [if_neg (by omega)])) <;> first | rfl | done
              · rfl
            · refine jj_iconst dX8_leaf_90 (kk := ?_)
              refine jj_goto (tgt := 95) dX8_leaf_91 (by decide) ?_
              refine zz_retie dX8_leaf_95 rfl (by decide) ?_ ?_
              · unfold v_X8_leaf; (repeat (first | rw [if_pos (by omega)] | rw [if_neg (by omega)])) <;> first | rfl | done
              · rfl
          · have hg71 := bz_t h71
            refine jj_iconst dX8_leaf_74 (kk := ?_)
            refine jj_goto (tgt := 95) dX8_leaf_75 (by decide) ?_
            refine zz_retie dX8_leaf_95 rfl (by decide) ?_ ?_
            · unfold v_X8_leaf; (repeat (first | rw [if_pos (by omega)] | rw [if_neg (by omega)])) <;> first | rfl | done
            · rfl
        · refine jj_aload_n dX8_leaf_52 rfl ?_
          refine zz_getR dX8_leaf_53 kf_X8_19 tt416 rfl ?_
          refine jj_iload_n dX8_leaf_56 rfl ?_
          refine zz_cSi (av := [jr (420), ji (l)]) (st' := []) dX8_leaf_57 kn_X8_162 kmX8_liked rfl rfl (Nat.le_of_ble_eq_true rfl) (by decide) rfl (c_X8_liked g s 420 (Or.inl rfl) l.toNat l (by omega) 999 hm (by omega)) (fun hr57 ho57 => ?_)
          refine jj_goto (tgt := 95) dX8_leaf_60 (by decide) ?_
          refine zz_retie dX8_leaf_95 rfl (by decide) ?_ ?_
          · unfold v_X8_leaf; (repeat (first | rw [if_pos (by omega)] | rw [if_neg (by omega)])) <;> first | rfl | done
          · rfl
      · refine jj_aload_n dX8_leaf_33 rfl ?_
        refine zz_getR dX8_leaf_34 kf_X8_19 tt416 rfl ?_
        refine jj_iload_n dX8_leaf_37 rfl ?_
        refine jj_iconst dX8_leaf_38 (kk := ?_)
        refine jj_iload_n dX8_leaf_39 rfl ?_
        refine jj_iadd dX8_leaf_40 (by omega) ?_
        refine zz_cSi (av := [jr (420), ji (l), ji (1 + w)]) (st' := []) dX8_leaf_41 kn_X8_155 kmX8_of rfl rfl (Nat.le_of_ble_eq_true rfl) (by decide) rfl (c_X8_of g s 420 (Or.inl rfl) l (1 + w) (6 + 5 * l.toNat + (1 + w).toNat) (by omega) (by omega)) (fun hr41 ho41 => ?_)
        refine jj_goto (tgt := 95) dX8_leaf_44 (by decide) ?_
        refine zz_retie dX8_leaf_95 rfl (by decide) ?_ ?_
        · unfold v_X8_leaf; (repeat (first | rw [if_pos (by omega)] | rw [if_neg (by omega)])) <;> first | rfl | done
        · rfl
    · have hg22 := bz_f h22
      refine jj_ldc dX8_leaf_25 kk_X8_70 (kk := ?_)
      refine zz_retie dX8_leaf_27 rfl (by decide) ?_ ?_
      · unfold v_X8_leaf; (repeat (first | rw [if_pos (by omega)] | rw [if_neg (by omega)])) <;> first | rfl | done
      · rfl

def v_X8_goat (s : jz_St) (c w : Int) : Int := if (0 ≤ c ∧ c ≤ s 420 4 - 1) ∧ 0 ≤ w ∧ w ≤ 3 then (if w < 3 then s 420 (41 + 3 * c.toNat + w.toNat) else fON (rCho (s 420) c.toNat)) else -1000001
set_option maxRecDepth 100000 in
set_option maxHeartbeats 4000000 in
theorem c_X8_goat (g : jz_G) (s : jz_St) (c w : Int) (hM : mIn s)  : jz_C g mX8_goat [jr (416), ji (c), ji (w)] s (jq_ie (v_X8_goat s c w) s) := by
  refine zz_C_of koX8_goat rfl (Nat.le_of_ble_eq_true rfl) ?_
  refine zz_pad 0 ?_
  show jz_Z g mX8_goat (jq_ie (v_X8_goat s c w) s) 0 [some (jr (416)), some (ji (c)), some (ji (w))] [] s
  have hL := hM.1
  have hm := hM.2.1
  have ha := hM.2.2.1
  have htr := hM.2.2.2
  have hmh := mRw_h hm
  refine jj_aload_n dX8_goat_0 rfl ?_
  refine jj_iconst dX8_goat_1 (kk := ?_)
  refine zz_putI dX8_goat_2 kw_X8_50 tt416 rfl rfl ?_
  refine zz_st (s1 := s) (by exact jz_su_id hL.1) ?_
  refine jj_aload_n dX8_goat_5 rfl ?_
  refine jj_iload_n dX8_goat_6 rfl ?_
  refine zz_cVi (av := [ji (c)]) (st' := []) dX8_goat_7 kn_X8_198 kmX8_isGoat tt416 rfl rfl rfl (Nat.le_of_ble_eq_true rfl) (by decide) rfl (c_X8_isGoat g s c (by omega)) (fun hr7 ho7 => ?_)
  refine jj_if_eq (tgt := 25) dX8_goat_10 (by decide) (fun h10 => ?_) (fun h10 => ?_)
  · have hg10 := bz_f h10
    refine jj_ldc dX8_goat_25 kk_X8_70 (kk := ?_)
    refine zz_retie dX8_goat_27 rfl (by decide) ?_ ?_
    · unfold v_X8_goat; (repeat (first | rw [if_pos (by omega)] | rw [if_neg (by omega)])) <;> first | rfl | done
    · rfl
  · have hg10 := bz_t h10
    refine jj_iload_n dX8_goat_13 rfl ?_
    refine jj_i2l dX8_goat_14 ?_
    refine jj_lconst (z := 0) dX8_goat_15 (kk := ?_)
    refine jj_ldc2 dX8_goat_16 kk_X8_205 (kk := ?_)
    refine zz_cSi (av := [jl (w), jl (0), jl (3)]) (st' := []) dX8_goat_19 kn_X8_60 kmX8_in rfl rfl (Nat.le_of_ble_eq_true rfl) (by decide) rfl (c_X8_in g s w 0 3) (fun hr19 ho19 => ?_)
    refine jj_if_ne (tgt := 28) dX8_goat_22 (by decide) (fun h22 => ?_) (fun h22 => ?_)
    · have hg22 := bz_t h22
      refine jj_iload_n dX8_goat_28 rfl ?_
      refine jj_iconst dX8_goat_29 (kk := ?_)
      refine jj_icmp_ge (tgt := 45) dX8_goat_30 (by decide) (fun h30 => ?_) (fun h30 => ?_)
      · refine jj_aload_n dX8_goat_45 rfl ?_
        refine zz_getR dX8_goat_46 kf_X8_19 tt416 rfl ?_
        refine jj_iload_n dX8_goat_49 rfl ?_
        refine zz_cSi (av := [jr (420), ji (c)]) (st' := []) dX8_goat_50 kn_X8_166 kmX8_bitten rfl rfl (Nat.le_of_ble_eq_true rfl) (by decide) rfl (c_X8_bitten g s 420 (Or.inl rfl) c.toNat c (by omega) 999 hm (by omega)) (fun hr50 ho50 => ?_)
        refine zz_retie dX8_goat_53 rfl (by decide) ?_ ?_
        · unfold v_X8_goat; (repeat (first | rw [if_pos (by omega)] | rw [if_neg (by omega)])) <;> first | rfl | done
        · rfl
      · refine jj_aload_n dX8_goat_33 rfl ?_
        refine zz_getR dX8_goat_34 kf_X8_19 tt416 rfl ?_
        refine jj_iload_n dX8_goat_37 rfl ?_
        refine jj_iload_n dX8_goat_38 rfl ?_
        refine zz_cSi (av := [jr (420), ji (c), ji (w)]) (st' := []) dX8_goat_39 kn_X8_159 kmX8_its rfl rfl (Nat.le_of_ble_eq_true rfl) (by decide) rfl (c_X8_its g s 420 (Or.inl rfl) c w (41 + 3 * c.toNat + w.toNat) (by omega) (by omega)) (fun hr39 ho39 => ?_)
        refine jj_goto (tgt := 53) dX8_goat_42 (by decide) ?_
        refine zz_retie dX8_goat_53 rfl (by decide) ?_ ?_
        · unfold v_X8_goat; (repeat (first | rw [if_pos (by omega)] | rw [if_neg (by omega)])) <;> first | rfl | done
        · rfl
    · have hg22 := bz_f h22
      refine jj_ldc dX8_goat_25 kk_X8_70 (kk := ?_)
      refine zz_retie dX8_goat_27 rfl (by decide) ?_ ?_
      · unfold v_X8_goat; (repeat (first | rw [if_pos (by omega)] | rw [if_neg (by omega)])) <;> first | rfl | done
      · rfl

def v_X8_kind (s : jz_St) (l : Int) : Int := if (0 ≤ l ∧ l ≤ s 420 3 - 1) then s 420 (6 + 5 * l.toNat) else -1000001
set_option maxRecDepth 100000 in
set_option maxHeartbeats 4000000 in
theorem c_X8_kind (g : jz_G) (s : jz_St) (l : Int) (hM : mIn s)  : jz_C g mX8_kind [jr (416), ji (l)] s (jq_ie (v_X8_kind s l) s) := by
  refine zz_C_of koX8_kind rfl (Nat.le_of_ble_eq_true rfl) ?_
  refine zz_pad 0 ?_
  show jz_Z g mX8_kind (jq_ie (v_X8_kind s l) s) 0 [some (jr (416)), some (ji (l))] [] s
  have hL := hM.1
  have hm := hM.2.1
  have ha := hM.2.2.1
  have htr := hM.2.2.2
  have hmh := mRw_h hm
  refine jj_aload_n dX8_kind_0 rfl ?_
  refine jj_iconst dX8_kind_1 (kk := ?_)
  refine zz_putI dX8_kind_2 kw_X8_50 tt416 rfl rfl ?_
  refine zz_st (s1 := s) (by exact jz_su_id hL.1) ?_
  refine jj_aload_n dX8_kind_5 rfl ?_
  refine jj_iload_n dX8_kind_6 rfl ?_
  refine zz_cVi (av := [ji (l)]) (st' := []) dX8_kind_7 kn_X8_193 kmX8_isLeaf tt416 rfl rfl rfl (Nat.le_of_ble_eq_true rfl) (by decide) rfl (c_X8_isLeaf g s l (by omega)) (fun hr7 ho7 => ?_)
  refine jj_if_eq (tgt := 25) dX8_kind_10 (by decide) (fun h10 => ?_) (fun h10 => ?_)
  · have hg10 := bz_f h10
    refine jj_ldc dX8_kind_25 kk_X8_70 (kk := ?_)
    refine zz_retie dX8_kind_27 rfl (by decide) ?_ ?_
    · unfold v_X8_kind; (repeat (first | rw [if_pos (by omega)] | rw [if_neg (by omega)])) <;> first | rfl | done
    · rfl
  · have hg10 := bz_t h10
    refine jj_aload_n dX8_kind_13 rfl ?_
    refine zz_getR dX8_kind_14 kf_X8_19 tt416 rfl ?_
    refine jj_iload_n dX8_kind_17 rfl ?_
    refine jj_iconst dX8_kind_18 (kk := ?_)
    refine zz_cSi (av := [jr (420), ji (l), ji (0)]) (st' := []) dX8_kind_19 kn_X8_155 kmX8_of rfl rfl (Nat.le_of_ble_eq_true rfl) (by decide) rfl (c_X8_of g s 420 (Or.inl rfl) l 0 (6 + 5 * l.toNat) (by omega) (by omega)) (fun hr19 ho19 => ?_)
    refine jj_goto (tgt := 27) dX8_kind_22 (by decide) ?_
    refine zz_retie dX8_kind_27 rfl (by decide) ?_ ?_
    · unfold v_X8_kind; (repeat (first | rw [if_pos (by omega)] | rw [if_neg (by omega)])) <;> first | rfl | done
    · rfl

set_option maxRecDepth 100000 in
set_option maxHeartbeats 4000000 in
theorem c_X8_isOf (g : jz_G) (s : jz_St) (i o : Int) : jz_C g mX8_isOf [ji (i), ji (o)] s (jq_ie (if o = 0 ∨ i = o ∨ (o = 1 ∧ i < 4) ∨ (o = 4 ∧ i = 5) then 1 else 0) s) := by
  refine zz_C_of koX8_isOf rfl (Nat.le_of_ble_eq_true rfl) ?_
  refine zz_pad 0 ?_
  show jz_Z g mX8_isOf (jq_ie (if o = 0 ∨ i = o ∨ (o = 1 ∧ i < 4) ∨ (o = 4 ∧ i = 5) then 1 else 0) s) 0 [some (ji (i)), some (ji (o))] [] s
  refine jj_iload_n dX8_isOf_0 rfl ?_
  refine jj_if_eq (tgt := 29) dX8_isOf_1 (by decide) (fun h1 => ?_) (fun h1 => ?_)
  · refine jj_iconst dX8_isOf_29 (kk := ?_)
    refine jj_goto (tgt := 34) dX8_isOf_30 (by decide) ?_
    refine zz_retze dX8_isOf_34 rfl (by first | exact Or.inl rfl | exact Or.inr rfl) (by decide) ?_ ?_
    · first | (rw [if_pos (by omega)]; done) | (rw [if_neg (by omega)]; done)
    · rfl
  · refine jj_iload_n dX8_isOf_4 rfl ?_
    refine jj_iload_n dX8_isOf_5 rfl ?_
    refine jj_icmp_eq (tgt := 29) dX8_isOf_6 (by decide) (fun h6 => ?_) (fun h6 => ?_)
    · refine jj_iconst dX8_isOf_29 (kk := ?_)
      refine jj_goto (tgt := 34) dX8_isOf_30 (by decide) ?_
      refine zz_retze dX8_isOf_34 rfl (by first | exact Or.inl rfl | exact Or.inr rfl) (by decide) ?_ ?_
      · first | (rw [if_pos (by omega)]; done) | (rw [if_neg (by omega)]; done)
      · rfl
    · refine jj_iload_n dX8_isOf_9 rfl ?_
      refine jj_iconst dX8_isOf_10 (kk := ?_)
      refine jj_icmp_ne (tgt := 19) dX8_isOf_11 (by decide) (fun h11 => ?_) (fun h11 => ?_)
      · refine jj_iload_n dX8_isOf_19 rfl ?_
        refine jj_iconst dX8_isOf_20 (kk := ?_)
        refine jj_icmp_ne (tgt := 33) dX8_isOf_21 (by decide) (fun h21 => ?_) (fun h21 => ?_)
        · refine jj_iconst dX8_isOf_33 (kk := ?_)
          refine zz_retze dX8_isOf_34 rfl (by first | exact Or.inl rfl | exact Or.inr rfl) (by decide) ?_ ?_
          · first | (rw [if_pos (by omega)]; done) | (rw [if_neg (by omega)]; done)
          · rfl
        · refine jj_iload_n dX8_isOf_24 rfl ?_
          refine jj_iconst dX8_isOf_25 (kk := ?_)
          refine jj_icmp_ne (tgt := 33) dX8_isOf_26 (by decide) (fun h26 => ?_) (fun h26 => ?_)
          · refine jj_iconst dX8_isOf_33 (kk := ?_)
            refine zz_retze dX8_isOf_34 rfl (by first | exact Or.inl rfl | exact Or.inr rfl) (by decide) ?_ ?_
            · first | (rw [if_pos (by omega)]; done) | (rw [if_neg (by omega)]; done)
            · rfl
          · refine jj_iconst dX8_isOf_29 (kk := ?_)
            refine jj_goto (tgt := 34) dX8_isOf_30 (by decide) ?_
            refine zz_retze dX8_isOf_34 rfl (by first | exact Or.inl rfl | exact Or.inr rfl) (by decide) ?_ ?_
            · first | (rw [if_pos (by omega)]; done) | (rw [if_neg (by omega)]; done)
            · rfl
      · refine jj_iload_n dX8_isOf_14 rfl ?_
        refine jj_iconst dX8_isOf_15 (kk := ?_)
        refine jj_icmp_lt (tgt := 29) dX8_isOf_16 (by decide) (fun h16 => ?_) (fun h16 => ?_)
        · refine jj_iconst dX8_isOf_29 (kk := ?_)
          refine jj_goto (tgt := 34) dX8_isOf_30 (by decide) ?_
          refine zz_retze dX8_isOf_34 rfl (by first | exact Or.inl rfl | exact Or.inr rfl) (by decide) ?_ ?_
          · first | (rw [if_pos (by omega)]; done) | (rw [if_neg (by omega)]; done)
          · rfl
        · refine jj_iload_n dX8_isOf_19 rfl ?_
          refine jj_iconst dX8_isOf_20 (kk := ?_)
          refine jj_icmp_ne (tgt := 33) dX8_isOf_21 (by decide) (fun h21 => ?_) (fun h21 => ?_)
          · refine jj_iconst dX8_isOf_33 (kk := ?_)
            refine zz_retze dX8_isOf_34 rfl (by first | exact Or.inl rfl | exact Or.inr rfl) (by decide) ?_ ?_
            · first | (rw [if_pos (by omega)]; done) | (rw [if_neg (by omega)]; done)
            · rfl
          · refine jj_iload_n dX8_isOf_24 rfl ?_
            refine jj_iconst dX8_isOf_25 (kk := ?_)
            refine jj_icmp_ne (tgt := 33) dX8_isOf_26 (by decide) (fun h26 => ?_) (fun h26 => ?_)
            · refine jj_iconst dX8_isOf_33 (kk := ?_)
              refine zz_retze dX8_isOf_34 rfl (by first | exact Or.inl rfl | exact Or.inr rfl) (by decide) ?_ ?_
              · first | (rw [if_pos (by omega)]; done) | (rw [if_neg (by omega)]; done)
              · rfl
            · refine jj_iconst dX8_isOf_29 (kk := ?_)
              refine jj_goto (tgt := 34) dX8_isOf_30 (by decide) ?_
              refine zz_retze dX8_isOf_34 rfl (by first | exact Or.inl rfl | exact Or.inr rfl) (by decide) ?_ ?_
              · first | (rw [if_pos (by omega)]; done) | (rw [if_neg (by omega)]; done)
              · rfl

def v_X8_as (s : jz_St) (l c : Int) : Int := if (0 ≤ l ∧ l ≤ s 420 3 - 1) ∧ 0 ≤ c ∧ c ≤ 5 then (if c = 0 ∨ s 420 (6 + 5 * l.toNat) = c ∨ (c = 1 ∧ s 420 (6 + 5 * l.toNat) < 4) ∨ (c = 4 ∧ s 420 (6 + 5 * l.toNat) = 5) then l else -1000013) else -1000001
def f_X8_as (s : jz_St) (l c : Int) : jz_St := if (0 ≤ l ∧ l ≤ s 420 3 - 1) ∧ 0 ≤ c ∧ c ≤ 5 then (if c = 0 ∨ s 420 (6 + 5 * l.toNat) = c ∨ (c = 1 ∧ s 420 (6 + 5 * l.toNat) < 4) ∨ (c = 4 ∧ s 420 (6 + 5 * l.toNat) = 5) then jz_su s 416 1 0 else jz_su (jz_su s 416 1 0) 416 1 3) else s
set_option maxRecDepth 100000 in
set_option maxHeartbeats 4000000 in
theorem c_X8_as (g : jz_G) (s : jz_St) (l c : Int) (hM : mIn s)  : jz_C g mX8_as [jr (416), ji (l), ji (c)] s (jq_ie (v_X8_as s l c) (f_X8_as s l c)) := by
  refine zz_C_of koX8_as rfl (Nat.le_of_ble_eq_true rfl) ?_
  refine zz_pad 0 ?_
  show jz_Z g mX8_as (jq_ie (v_X8_as s l c) (f_X8_as s l c)) 0 [some (jr (416)), some (ji (l)), some (ji (c))] [] s
  have hL := hM.1
  have hm := hM.2.1
  have ha := hM.2.2.1
  have htr := hM.2.2.2
  have hmh := mRw_h hm
  refine jj_aload_n dX8_as_0 rfl ?_
  refine jj_iconst dX8_as_1 (kk := ?_)
  refine zz_putI dX8_as_2 kw_X8_50 tt416 rfl rfl ?_
  refine zz_st (s1 := s) (by exact jz_su_id hL.1) ?_
  refine jj_aload_n dX8_as_5 rfl ?_
  refine jj_iload_n dX8_as_6 rfl ?_
  refine zz_cVi (av := [ji (l)]) (st' := []) dX8_as_7 kn_X8_193 kmX8_isLeaf tt416 rfl rfl rfl (Nat.le_of_ble_eq_true rfl) (by decide) rfl (c_X8_isLeaf g s l (by omega)) (fun hr7 ho7 => ?_)
  refine jj_if_eq (tgt := 25) dX8_as_10 (by decide) (fun h10 => ?_) (fun h10 => ?_)
  · have hg10 := bz_f h10
    refine jj_ldc dX8_as_25 kk_X8_70 (kk := ?_)
    refine zz_retie dX8_as_27 rfl (by decide) ?_ ?_
    · unfold v_X8_as; (repeat (first | rw [if_pos (by omega)] | rw [if_neg (by omega)])) <;> first | rfl | done
    · unfold f_X8_as; (repeat (first | rw [if_pos (by omega)] | rw [if_neg (by omega)])) <;> first | rfl | done
  · have hg10 := bz_t h10
    refine jj_iload_n dX8_as_13 rfl ?_
    refine jj_i2l dX8_as_14 ?_
    refine jj_lconst (z := 0) dX8_as_15 (kk := ?_)
    refine jj_ldc2 dX8_as_16 kk_X8_203 (kk := ?_)
    refine zz_cSi (av := [jl (c), jl (0), jl (5)]) (st' := []) dX8_as_19 kn_X8_60 kmX8_in rfl rfl (Nat.le_of_ble_eq_true rfl) (by decide) rfl (c_X8_in g s c 0 5) (fun hr19 ho19 => ?_)
    refine jj_if_ne (tgt := 28) dX8_as_22 (by decide) (fun h22 => ?_) (fun h22 => ?_)
    · have hg22 := bz_t h22
      refine jj_aload_n dX8_as_28 rfl ?_
      refine jj_iconst dX8_as_29 (kk := ?_)
      refine zz_putI dX8_as_30 kw_X8_54 tt416 rfl rfl ?_
      refine jj_aload_n dX8_as_33 rfl ?_
      refine zz_getR dX8_as_34 kf_X8_19 tt416 rfl ?_
      refine jj_iload_n dX8_as_37 rfl ?_
      refine jj_iconst dX8_as_38 (kk := ?_)
      refine zz_cSi (av := [jr (420), ji (l), ji (0)]) (st' := []) dX8_as_39 kn_X8_155 kmX8_of rfl rfl (Nat.le_of_ble_eq_true rfl) (by decide) rfl (c_X8_of g (jz_su s 416 1 (0)) 420 (Or.inl rfl) l 0 (6 + 5 * l.toNat) (by omega) (by omega)) (fun hr39 ho39 => ?_)
      refine zz_top (b := s 420 (6 + 5 * l.toNat)) (by rw [jz_su_o (by decide)]) ?_
      refine jj_iload_n dX8_as_42 rfl ?_
      refine zz_cSi (av := [ji (s 420 (6 + 5 * l.toNat)), ji (c)]) (st' := []) dX8_as_43 kn_X8_252 kmX8_isOf rfl rfl (Nat.le_of_ble_eq_true rfl) (by decide) rfl (c_X8_isOf g (jz_su s 416 1 (0)) (s 420 (6 + 5 * l.toNat)) c) (fun hr43 ho43 => ?_)
      refine jj_if_eq (tgt := 53) dX8_as_46 (by decide) (fun h46 => ?_) (fun h46 => ?_)
      · have hg46 := bz_f h46
        refine jj_aload_n dX8_as_53 rfl ?_
        refine jj_iconst dX8_as_54 (kk := ?_)
        refine zz_cVi (av := [ji (3)]) (st' := []) dX8_as_55 kn_X8_71 kmX8_finding tt416 rfl rfl rfl (Nat.le_of_ble_eq_true rfl) (by decide) rfl (c_X8_finding g (jz_su s 416 1 (0)) 3 (by omega)) (fun hr55 ho55 => ?_)
        refine zz_retie dX8_as_58 rfl (by decide) ?_ ?_
        · unfold v_X8_as; (repeat (first | rw [if_pos (by omega)] | rw [if_neg (by omega)])) <;> first | rfl | done
        · unfold f_X8_as; (repeat (first | rw [if_pos (by omega)] | rw [if_neg (by omega)])) <;> first | rfl | done
      · have hg46 := bz_t h46
        refine jj_iload_n dX8_as_49 rfl ?_
        refine jj_goto (tgt := 58) dX8_as_50 (by decide) ?_
        refine zz_retie dX8_as_58 rfl (by decide) ?_ ?_
        · unfold v_X8_as; (repeat (first | rw [if_pos (by omega)] | rw [if_neg (by omega)])) <;> first | rfl | done
        · unfold f_X8_as; (repeat (first | rw [if_pos (by omega)] | rw [if_neg (by omega)])) <;> first | rfl | done
    · have hg22 := bz_f h22
      refine jj_ldc dX8_as_25 kk_X8_70 (kk := ?_)
      refine zz_retie dX8_as_27 rfl (by decide) ?_ ?_
      · unfold v_X8_as; (repeat (first | rw [if_pos (by omega)] | rw [if_neg (by omega)])) <;> first | rfl | done
      · unfold f_X8_as; (repeat (first | rw [if_pos (by omega)] | rw [if_neg (by omega)])) <;> first | rfl | done

def v_X8_image (s : jz_St) (k : Int) : Int := if 0 ≤ k ∧ k ≤ 1 then (if s 420 0 = 1 then 1 else -1000002) else -1000001
def f_X8_image (s : jz_St) (k : Int) : jz_St := if 0 ≤ k ∧ k ≤ 1 then (if s 420 0 = 1 then jz_su (f_X8_rc s 428 420 (53 * k.toNat) 0 53) 427 k.toNat 1 else s) else s
set_option maxRecDepth 100000 in
set_option maxHeartbeats 4000000 in
theorem c_X8_image (g : jz_G) (s : jz_St) (k : Int) (hM : mIn s)  : jz_C g mX8_image [jr (416), ji (k)] s (jq_ie (v_X8_image s k) (f_X8_image s k)) := by
  refine zz_C_of koX8_image rfl (Nat.le_of_ble_eq_true rfl) ?_
  refine zz_pad 1 ?_
  show jz_Z g mX8_image (jq_ie (v_X8_image s k) (f_X8_image s k)) 0 [some (jr (416)), some (ji (k)), none] [] s
  have hL := hM.1
  have hm := hM.2.1
  have ha := hM.2.2.1
  have htr := hM.2.2.2
  have hmh := mRw_h hm
  refine jj_aload_n dX8_image_0 rfl ?_
  refine jj_iconst dX8_image_1 (kk := ?_)
  refine zz_putI dX8_image_2 kw_X8_50 tt416 rfl rfl ?_
  refine zz_st (s1 := s) (by exact jz_su_id hL.1) ?_
  refine jj_iload_n dX8_image_5 rfl ?_
  refine jj_i2l dX8_image_6 ?_
  refine jj_lconst (z := 0) dX8_image_7 (kk := ?_)
  refine jj_lconst (z := 1) dX8_image_8 (kk := ?_)
  refine zz_cSi (av := [jl (k), jl (0), jl (1)]) (st' := []) dX8_image_9 kn_X8_60 kmX8_in rfl rfl (Nat.le_of_ble_eq_true rfl) (by decide) rfl (c_X8_in g s k 0 1) (fun hr9 ho9 => ?_)
  refine jj_if_ne (tgt := 18) dX8_image_12 (by decide) (fun h12 => ?_) (fun h12 => ?_)
  · have hg12 := bz_t h12
    refine jj_aload_n dX8_image_18 rfl ?_
    refine zz_cVi (av := []) (st' := []) dX8_image_19 kn_X8_184 kmX8_isThere tt416 rfl rfl rfl (Nat.le_of_ble_eq_true rfl) (by decide) rfl (c_X8_isThere g s) (fun hr19 ho19 => ?_)
    refine jj_if_ne (tgt := 28) dX8_image_22 (by decide) (fun h22 => ?_) (fun h22 => ?_)
    · have hg22 := bz_t h22
      refine jj_iconst dX8_image_28 (kk := ?_)
      refine jj_istore_n (ls' := [some (jr (416)), some (ji (k)), some (ji (0))]) dX8_image_29 (by decide) rfl rfl ?_
      have L30 : ∀ (nn : Nat) (j : Nat) (hh30_0 : j ≤ 53), 53 - j < nn → jz_Z g mX8_image (jq_ie (v_X8_image s k) (f_X8_image s k)) 30 [some (jr (416)), some (ji (k)), some (ji ((j : Int)))] [] (f_X8_rc s 428 420 (53 * k.toNat) 0 j) := by
        intro nn
        induction nn with
        | zero => intro j hh30_0 hmz; exact absurd hmz (Nat.not_lt_zero _)
        | succ nn ih30 =>
          intro j hh30_0 hm30
          refine jj_iload_n dX8_image_30 rfl ?_
          refine jj_bipush dX8_image_31 (kk := ?_)
          refine jj_icmp_ge (tgt := 59) dX8_image_33 (by decide) (fun h33 => ?_) (fun h33 => ?_)
          · obtain rfl : j = 53 := (by omega)
            refine jj_aload_n dX8_image_59 rfl ?_
            refine zz_getR dX8_image_60 kf_X8_40 tt416 rfl ?_
            refine jj_iload_n dX8_image_63 rfl ?_
            refine jj_iconst dX8_image_64 (kk := ?_)
            refine zz_bastN (j := k.toNat) dX8_image_65 tt427 (by omega) (by omega) (by first | exact Or.inl rfl | exact Or.inr rfl) ?_
            refine jj_iconst dX8_image_66 (kk := ?_)
            refine zz_retie dX8_image_67 rfl (by decide) ?_ ?_
            · unfold v_X8_image; (repeat (first | rw [if_pos (by omega)] | rw [if_neg (by omega)])) <;> first | rfl | done
            · unfold f_X8_image; (repeat (first | rw [if_pos (by omega)] | rw [if_neg (by omega)])) <;> first | rfl | done
          · refine jj_aload_n dX8_image_36 rfl ?_
            refine zz_getR dX8_image_37 kf_X8_44 tt416 rfl ?_
            refine jj_bipush dX8_image_40 (kk := ?_)
            refine jj_iload_n dX8_image_42 rfl ?_
            refine jj_imul dX8_image_43 (by omega) ?_
            refine jj_iload_n dX8_image_44 rfl ?_
            refine jj_iadd dX8_image_45 (by omega) ?_
            refine jj_aload_n dX8_image_46 rfl ?_
            refine zz_getR dX8_image_47 kf_X8_19 tt416 rfl ?_
            refine jj_iload_n dX8_image_50 rfl ?_
            refine zz_ialdN (j := 0 + j) dX8_image_51 tt420 (by omega) (by omega) ?_
            refine zz_iastN (j := 53 * k.toNat + j) dX8_image_52 tt428 (by omega) (by omega) ?_
            refine jj_iinc (ls' := [some (jr (416)), some (ji (k)), some (ji ((j : Int) + 1))]) dX8_image_53 rfl (by decide) rfl (by omega) rfl ?_
            refine jj_goto (tgt := 30) dX8_image_56 (by decide) ?_
            refine zz_st (s1 := f_X8_rc s 428 420 (53 * k.toNat) 0 (j + 1)) (by rfl) ?_
            exact ih30 (j + 1) (by first | assumption | omega) (by omega)
      refine zz_st (s1 := f_X8_rc s 428 420 (53 * k.toNat) 0 0) (by rfl) ?_
      exact L30 _ 0 (by first | assumption | omega) (Nat.lt_succ_self _)
    · have hg22 := bz_f h22
      refine jj_ldc dX8_image_25 kk_X8_187 (kk := ?_)
      refine zz_retie dX8_image_27 rfl (by decide) ?_ ?_
      · unfold v_X8_image; (repeat (first | rw [if_pos (by omega)] | rw [if_neg (by omega)])) <;> first | rfl | done
      · unfold f_X8_image; (repeat (first | rw [if_pos (by omega)] | rw [if_neg (by omega)])) <;> first | rfl | done
  · have hg12 := bz_f h12
    refine jj_ldc dX8_image_15 kk_X8_70 (kk := ?_)
    refine zz_retie dX8_image_17 rfl (by decide) ?_ ?_
    · unfold v_X8_image; (repeat (first | rw [if_pos (by omega)] | rw [if_neg (by omega)])) <;> first | rfl | done
    · unfold f_X8_image; (repeat (first | rw [if_pos (by omega)] | rw [if_neg (by omega)])) <;> first | rfl | done

def v_X8_restore (s : jz_St) (k : Int) : Int := if 0 ≤ k ∧ k ≤ 1 then (if s 427 k.toNat = 0 then -1000002 else 1) else -1000001
def f_X8_restore (s : jz_St) (k : Int) : jz_St := if 0 ≤ k ∧ k ≤ 1 then (if s 427 k.toNat = 0 then s else jz_su (f_X8_rc s 420 428 0 (53 * k.toNat) 53) 416 9 0) else s
set_option maxRecDepth 100000 in
set_option maxHeartbeats 4000000 in
theorem c_X8_restore (g : jz_G) (s : jz_St) (k : Int) (hM : mIn s)  : jz_C g mX8_restore [jr (416), ji (k)] s (jq_ie (v_X8_restore s k) (f_X8_restore s k)) := by
  refine zz_C_of koX8_restore rfl (Nat.le_of_ble_eq_true rfl) ?_
  refine zz_pad 1 ?_
  show jz_Z g mX8_restore (jq_ie (v_X8_restore s k) (f_X8_restore s k)) 0 [some (jr (416)), some (ji (k)), none] [] s
  have hL := hM.1
  have hm := hM.2.1
  have ha := hM.2.2.1
  have htr := hM.2.2.2
  have hmh := mRw_h hm
  refine jj_aload_n dX8_restore_0 rfl ?_
  refine jj_iconst dX8_restore_1 (kk := ?_)
  refine zz_putI dX8_restore_2 kw_X8_50 tt416 rfl rfl ?_
  refine zz_st (s1 := s) (by exact jz_su_id hL.1) ?_
  refine jj_iload_n dX8_restore_5 rfl ?_
  refine jj_i2l dX8_restore_6 ?_
  refine jj_lconst (z := 0) dX8_restore_7 (kk := ?_)
  refine jj_lconst (z := 1) dX8_restore_8 (kk := ?_)
  refine zz_cSi (av := [jl (k), jl (0), jl (1)]) (st' := []) dX8_restore_9 kn_X8_60 kmX8_in rfl rfl (Nat.le_of_ble_eq_true rfl) (by decide) rfl (c_X8_in g s k 0 1) (fun hr9 ho9 => ?_)
  refine jj_if_ne (tgt := 18) dX8_restore_12 (by decide) (fun h12 => ?_) (fun h12 => ?_)
  · have hg12 := bz_t h12
    refine jj_aload_n dX8_restore_18 rfl ?_
    refine zz_getR dX8_restore_19 kf_X8_40 tt416 rfl ?_
    refine jj_iload_n dX8_restore_22 rfl ?_
    refine zz_baldN (j := k.toNat) dX8_restore_23 tt427 (by omega) (by omega) ?_
    refine jj_if_ne (tgt := 30) dX8_restore_24 (by decide) (fun h24 => ?_) (fun h24 => ?_)
    · refine jj_iconst dX8_restore_30 (kk := ?_)
      refine jj_istore_n (ls' := [some (jr (416)), some (ji (k)), some (ji (0))]) dX8_restore_31 (by decide) rfl rfl ?_
      have L32 : ∀ (nn : Nat) (j : Nat) (hh32_0 : j ≤ 53), 53 - j < nn → jz_Z g mX8_restore (jq_ie (v_X8_restore s k) (f_X8_restore s k)) 32 [some (jr (416)), some (ji (k)), some (ji ((j : Int)))] [] (f_X8_rc s 420 428 0 (53 * k.toNat) j) := by
        intro nn
        induction nn with
        | zero => intro j hh32_0 hmz; exact absurd hmz (Nat.not_lt_zero _)
        | succ nn ih32 =>
          intro j hh32_0 hm32
          refine jj_iload_n dX8_restore_32 rfl ?_
          refine jj_bipush dX8_restore_33 (kk := ?_)
          refine jj_icmp_ge (tgt := 61) dX8_restore_35 (by decide) (fun h35 => ?_) (fun h35 => ?_)
          · obtain rfl : j = 53 := (by omega)
            refine jj_aload_n dX8_restore_61 rfl ?_
            refine jj_iconst dX8_restore_62 (kk := ?_)
            refine zz_putI dX8_restore_63 kw_X8_152 tt416 rfl rfl ?_
            refine jj_iconst dX8_restore_66 (kk := ?_)
            refine zz_retie dX8_restore_67 rfl (by decide) ?_ ?_
            · unfold v_X8_restore; (repeat (first | rw [if_pos (by omega)] | rw [if_neg (by omega)])) <;> first | rfl | done
            · unfold f_X8_restore; (repeat (first | rw [if_pos (by omega)] | rw [if_neg (by omega)])) <;> first | rfl | done
          · refine jj_aload_n dX8_restore_38 rfl ?_
            refine zz_getR dX8_restore_39 kf_X8_19 tt416 rfl ?_
            refine jj_iload_n dX8_restore_42 rfl ?_
            refine jj_aload_n dX8_restore_43 rfl ?_
            refine zz_getR dX8_restore_44 kf_X8_44 tt416 rfl ?_
            refine jj_bipush dX8_restore_47 (kk := ?_)
            refine jj_iload_n dX8_restore_49 rfl ?_
            refine jj_imul dX8_restore_50 (by omega) ?_
            refine jj_iload_n dX8_restore_51 rfl ?_
            refine jj_iadd dX8_restore_52 (by omega) ?_
            refine zz_ialdN (j := 53 * k.toNat + j) dX8_restore_53 tt428 (by omega) (by omega) ?_
            refine zz_iastN (j := 0 + j) dX8_restore_54 tt420 (by omega) (by omega) ?_
            refine jj_iinc (ls' := [some (jr (416)), some (ji (k)), some (ji ((j : Int) + 1))]) dX8_restore_55 rfl (by decide) rfl (by omega) rfl ?_
            refine jj_goto (tgt := 32) dX8_restore_58 (by decide) ?_
            refine zz_st (s1 := f_X8_rc s 420 428 0 (53 * k.toNat) (j + 1)) (by rfl) ?_
            exact ih32 (j + 1) (by first | assumption | omega) (by omega)
      refine zz_st (s1 := f_X8_rc s 420 428 0 (53 * k.toNat) 0) (by rfl) ?_
      exact L32 _ 0 (by first | assumption | omega) (Nat.lt_succ_self _)
    · refine jj_ldc dX8_restore_27 kk_X8_187 (kk := ?_)
      refine zz_retie dX8_restore_29 rfl (by decide) ?_ ?_
      · unfold v_X8_restore; (repeat (first | rw [if_pos (by omega)] | rw [if_neg (by omega)])) <;> first | rfl | done
      · unfold f_X8_restore; (repeat (first | rw [if_pos (by omega)] | rw [if_neg (by omega)])) <;> first | rfl | done
  · have hg12 := bz_f h12
    refine jj_ldc dX8_restore_15 kk_X8_70 (kk := ?_)
    refine zz_retie dX8_restore_17 rfl (by decide) ?_ ?_
    · unfold v_X8_restore; (repeat (first | rw [if_pos (by omega)] | rw [if_neg (by omega)])) <;> first | rfl | done
    · unfold f_X8_restore; (repeat (first | rw [if_pos (by omega)] | rw [if_neg (by omega)])) <;> first | rfl | done

def v_X8_trace (s : jz_St) (i : Int) : Int := if 0 ≤ i ∧ i ≤ s 416 24 - 1 then s 429 i.toNat else -1000000
set_option maxRecDepth 100000 in
set_option maxHeartbeats 4000000 in
theorem c_X8_trace (g : jz_G) (s : jz_St) (i : Int) (hM : mIn s)  : jz_C g mX8_trace [jr (416), ji (i)] s (jq_ie (v_X8_trace s i) s) := by
  refine zz_C_of koX8_trace rfl (Nat.le_of_ble_eq_true rfl) ?_
  refine zz_pad 0 ?_
  show jz_Z g mX8_trace (jq_ie (v_X8_trace s i) s) 0 [some (jr (416)), some (ji (i))] [] s
  have hL := hM.1
  have hm := hM.2.1
  have ha := hM.2.2.1
  have htr := hM.2.2.2
  have hmh := mRw_h hm
  refine jj_aload_n dX8_trace_0 rfl ?_
  refine jj_iconst dX8_trace_1 (kk := ?_)
  refine zz_putI dX8_trace_2 kw_X8_50 tt416 rfl rfl ?_
  refine zz_st (s1 := s) (by exact jz_su_id hL.1) ?_
  refine jj_iload_n dX8_trace_5 rfl ?_
  refine jj_i2l dX8_trace_6 ?_
  refine jj_lconst (z := 0) dX8_trace_7 (kk := ?_)
  refine jj_aload_n dX8_trace_8 rfl ?_
  refine zz_getI dX8_trace_9 kf_X8_255 tt416 rfl rfl ?_
  refine jj_iconst dX8_trace_12 (kk := ?_)
  refine jj_isub dX8_trace_13 (by omega) ?_
  refine jj_i2l dX8_trace_14 ?_
  refine zz_cSi (av := [jl (i), jl (0), jl ((s 416 24) - 1)]) (st' := []) dX8_trace_15 kn_X8_60 kmX8_in rfl rfl (Nat.le_of_ble_eq_true rfl) (by decide) rfl (c_X8_in g s i 0 ((s 416 24) - 1)) (fun hr15 ho15 => ?_)
  refine jj_if_eq (tgt := 30) dX8_trace_18 (by decide) (fun h18 => ?_) (fun h18 => ?_)
  · have hg18 := bz_f h18
    refine jj_ldc dX8_trace_30 kk_X8_93 (kk := ?_)
    refine zz_retie dX8_trace_32 rfl (by decide) ?_ ?_
    · unfold v_X8_trace; (repeat (first | rw [if_pos (by omega)] | rw [if_neg (by omega)])) <;> first | rfl | done
    · rfl
  · have hg18 := bz_t h18
    refine jj_aload_n dX8_trace_21 rfl ?_
    refine zz_getR dX8_trace_22 kf_X8_47 tt416 rfl ?_
    refine jj_iload_n dX8_trace_25 rfl ?_
    refine zz_ialdN (j := i.toNat) dX8_trace_26 tt429 (by omega) (by omega) ?_
    refine jj_goto (tgt := 32) dX8_trace_27 (by decide) ?_
    refine zz_retie dX8_trace_32 rfl (by decide) ?_ ?_
    · unfold v_X8_trace; (repeat (first | rw [if_pos (by omega)] | rw [if_neg (by omega)])) <;> first | rfl | done
    · rfl

def v_X8_count (s : jz_St) (w : Int) : Int := if w = 0 then mRT s 8 else if w = 1 then s 420 3 else if w = 2 then s 420 4 else if w = 3 then s 420 5 else if w = 4 then rIF (s 420) (s 420 3).toNat else if w = 5 then rLA (s 420) (s 420 3).toNat else if w = 6 then s 416 9 else if w = 7 then s 416 11 else -1000001
set_option maxRecDepth 100000 in
set_option maxHeartbeats 4000000 in
theorem c_X8_count (g : jz_G) (s : jz_St) (w : Int) (hM : mIn s)  : jz_C g mX8_count [jr (416), ji (w)] s (jq_ie (v_X8_count s w) s) := by
  refine zz_C_of koX8_count rfl (Nat.le_of_ble_eq_true rfl) ?_
  refine zz_pad 2 ?_
  show jz_Z g mX8_count (jq_ie (v_X8_count s w) s) 0 [some (jr (416)), some (ji (w)), none, none] [] s
  have hL := hM.1
  have hm := hM.2.1
  have ha := hM.2.2.1
  have htr := hM.2.2.2
  have hmh := mRw_h hm
  refine jj_aload_n dX8_count_0 rfl ?_
  refine jj_iconst dX8_count_1 (kk := ?_)
  refine zz_putI dX8_count_2 kw_X8_50 tt416 rfl rfl ?_
  refine zz_st (s1 := s) (by exact jz_su_id hL.1) ?_
  refine jj_iconst dX8_count_5 (kk := ?_)
  refine jj_istore_n (ls' := [some (jr (416)), some (ji (w)), some (ji (0)), none]) dX8_count_6 (by decide) rfl rfl ?_
  refine jj_iload_n dX8_count_7 rfl ?_
  by_cases ht8 : (w) < 0 ∨ 7 < (w)
  · refine jj_tswO (tgt := 136) dX8_count_8 ht8 (by decide) ?_
    refine jj_ldc dX8_count_136 kk_X8_70 (kk := ?_)
    refine zz_retie dX8_count_138 rfl (by decide) ?_ ?_
    · unfold v_X8_count; (repeat (first | rw [if_pos (by omega)] | rw [if_neg (by omega)])) <;> first | rfl | done
    · rfl
  · have hc8 : (w) = 0 ∨ (w) = 1 ∨ (w) = 2 ∨ (w) = 3 ∨ (w) = 4 ∨ (w) = 5 ∨ (w) = 6 ∨ (w) = 7 := by omega
    rcases hc8 with hv8 | hv8 | hv8 | hv8 | hv8 | hv8 | hv8 | hv8
    · refine jj_tswI (off := 48) (tgt := 56) dX8_count_8 (by omega) (by omega) (by rw [hv8]; rfl) (by decide) ?_
      refine jj_iconst dX8_count_56 (kk := ?_)
      refine jj_istore_n (ls' := [some (jr (416)), some (ji (w)), some (ji (0)), some (ji (0))]) dX8_count_57 (by decide) rfl rfl ?_
      have L58 : ∀ (nn : Nat) (j : Nat) (acc : Int) (hh58_0 : j ≤ 8) (hh58_1 : acc = mRT s j), 8 - j < nn → jz_Z g mX8_count (jq_ie (v_X8_count s w) s) 58 [some (jr (416)), some (ji (w)), some (ji (acc)), some (ji ((j : Int)))] [] s := by
        intro nn
        induction nn with
        | zero => intro j acc hh58_0 hh58_1 hmz; exact absurd hmz (Nat.not_lt_zero _)
        | succ nn ih58 =>
          intro j acc hh58_0 hh58_1 hm58
          have hrt := mRT_rng s j
          refine jj_iload_n dX8_count_58 rfl ?_
          refine jj_bipush dX8_count_59 (kk := ?_)
          refine jj_icmp_ge (tgt := 87) dX8_count_61 (by decide) (fun h61 => ?_) (fun h61 => ?_)
          · refine jj_iload_n dX8_count_87 rfl ?_
            refine zz_retie dX8_count_88 rfl (by decide) ?_ ?_
            · unfold v_X8_count; rw [if_pos (by omega), show 8 = j by omega]; exact hh58_1
            · rfl
          · refine jj_iload_n dX8_count_64 rfl ?_
            have L79 : ∀ (d : Int) (hh79_0 : d = if 0 ≤ s 417 j then 1 else 0), jz_Z g mX8_count (jq_ie (v_X8_count s w) s) 79 [some (jr (416)), some (ji (w)), some (ji (acc)), some (ji ((j : Int)))] [ji (d), ji (acc)] s := by
              intro d hh79_0
              refine jj_iadd dX8_count_79 (by omega) ?_
              refine jj_istore_n (ls' := [some (jr (416)), some (ji (w)), some (ji (acc + d)), some (ji ((j : Int)))]) dX8_count_80 (by decide) rfl rfl ?_
              refine jj_iinc (ls' := [some (jr (416)), some (ji (w)), some (ji (acc + d)), some (ji ((j : Int) + 1))]) dX8_count_81 rfl (by decide) rfl (by omega) rfl ?_
              refine jj_goto (tgt := 58) dX8_count_84 (by decide) ?_
              exact ih58 (j + 1) (acc + d) (by omega) (by simp only [mRT]; rw [← hh58_1, ← hh79_0]) (by omega)
            refine jj_aload_n dX8_count_65 rfl ?_
            refine zz_getR dX8_count_66 kf_X8_7 tt416 rfl ?_
            refine jj_iload_n dX8_count_69 rfl ?_
            refine zz_ialdN (j := j) dX8_count_70 tt417 (by omega) (by omega) ?_
            refine jj_if_lt (tgt := 78) dX8_count_71 (by decide) (fun h71 => ?_) (fun h71 => ?_)
            · refine jj_iconst dX8_count_78 (kk := ?_)
              exact L79 0 (by first | (rw [if_pos (by omega)]; done) | (rw [if_neg (by omega)]; done))
            · refine jj_iconst dX8_count_74 (kk := ?_)
              refine jj_goto (tgt := 79) dX8_count_75 (by decide) ?_
              exact L79 1 (by first | (rw [if_pos (by omega)]; done) | (rw [if_neg (by omega)]; done))
      exact L58 _ 0 0 (by omega) (by rfl) (Nat.lt_succ_self _)
    · refine jj_tswI (off := 81) (tgt := 89) dX8_count_8 (by omega) (by omega) (by rw [hv8]; rfl) (by decide) ?_
      refine jj_aload_n dX8_count_89 rfl ?_
      refine zz_getR dX8_count_90 kf_X8_19 tt416 rfl ?_
      refine jj_iconst dX8_count_93 (kk := ?_)
      refine zz_ialdN (j := 3) dX8_count_94 tt420 (by omega) (by omega) ?_
      refine zz_retie dX8_count_95 rfl (by decide) ?_ ?_
      · unfold v_X8_count; (repeat (first | rw [if_pos (by omega)] | rw [if_neg (by omega)])) <;> first | rfl | done
      · rfl
    · refine jj_tswI (off := 88) (tgt := 96) dX8_count_8 (by omega) (by omega) (by rw [hv8]; rfl) (by decide) ?_
      refine jj_aload_n dX8_count_96 rfl ?_
      refine zz_getR dX8_count_97 kf_X8_19 tt416 rfl ?_
      refine jj_iconst dX8_count_100 (kk := ?_)
      refine zz_ialdN (j := 4) dX8_count_101 tt420 (by omega) (by omega) ?_
      refine zz_retie dX8_count_102 rfl (by decide) ?_ ?_
      · unfold v_X8_count; (repeat (first | rw [if_pos (by omega)] | rw [if_neg (by omega)])) <;> first | rfl | done
      · rfl
    · refine jj_tswI (off := 95) (tgt := 103) dX8_count_8 (by omega) (by omega) (by rw [hv8]; rfl) (by decide) ?_
      refine jj_aload_n dX8_count_103 rfl ?_
      refine zz_getR dX8_count_104 kf_X8_19 tt416 rfl ?_
      refine jj_iconst dX8_count_107 (kk := ?_)
      refine zz_ialdN (j := 5) dX8_count_108 tt420 (by omega) (by omega) ?_
      refine zz_retie dX8_count_109 rfl (by decide) ?_ ?_
      · unfold v_X8_count; (repeat (first | rw [if_pos (by omega)] | rw [if_neg (by omega)])) <;> first | rfl | done
      · rfl
    · refine jj_tswI (off := 102) (tgt := 110) dX8_count_8 (by omega) (by omega) (by rw [hv8]; rfl) (by decide) ?_
      refine jj_aload_n dX8_count_110 rfl ?_
      refine zz_getR dX8_count_111 kf_X8_19 tt416 rfl ?_
      refine zz_cSi (av := [jr (420)]) (st' := []) dX8_count_114 kn_X8_210 kmX8_forced rfl rfl (Nat.le_of_ble_eq_true rfl) (by decide) rfl (c_X8_forced g s 420 (Or.inl rfl) 999 hm) (fun hr114 ho114 => ?_)
      refine zz_retie dX8_count_117 rfl (by decide) ?_ ?_
      · unfold v_X8_count; (repeat (first | rw [if_pos (by omega)] | rw [if_neg (by omega)])) <;> first | rfl | done
      · rfl
    · refine jj_tswI (off := 110) (tgt := 118) dX8_count_8 (by omega) (by omega) (by rw [hv8]; rfl) (by decide) ?_
      refine jj_aload_n dX8_count_118 rfl ?_
      refine zz_getR dX8_count_119 kf_X8_19 tt416 rfl ?_
      refine zz_cSi (av := [jr (420)]) (st' := []) dX8_count_122 kn_X8_249 kmX8_leftOf rfl rfl (Nat.le_of_ble_eq_true rfl) (by decide) rfl (c_X8_leftOf g s 420 (Or.inl rfl) 999 hm) (fun hr122 ho122 => ?_)
      refine zz_retie dX8_count_125 rfl (by decide) ?_ ?_
      · unfold v_X8_count; (repeat (first | rw [if_pos (by omega)] | rw [if_neg (by omega)])) <;> first | rfl | done
      · rfl
    · refine jj_tswI (off := 118) (tgt := 126) dX8_count_8 (by omega) (by omega) (by rw [hv8]; rfl) (by decide) ?_
      refine jj_aload_n dX8_count_126 rfl ?_
      refine zz_getI dX8_count_127 kf_X8_152 tt416 rfl rfl ?_
      refine zz_retie dX8_count_130 rfl (by decide) ?_ ?_
      · unfold v_X8_count; (repeat (first | rw [if_pos (by omega)] | rw [if_neg (by omega)])) <;> first | rfl | done
      · rfl
    · refine jj_tswI (off := 123) (tgt := 131) dX8_count_8 (by omega) (by omega) (by rw [hv8]; rfl) (by decide) ?_
      refine jj_aload_n dX8_count_131 rfl ?_
      refine zz_getI dX8_count_132 kf_X8_77 tt416 rfl rfl ?_
      refine zz_retie dX8_count_135 rfl (by decide) ?_ ?_
      · unfold v_X8_count; (repeat (first | rw [if_pos (by omega)] | rw [if_neg (by omega)])) <;> first | rfl | done
      · rfl

