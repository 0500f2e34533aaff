set_option maxRecDepth 100000 in
set_option maxHeartbeats 4000000 in
theorem c_X7_isWithin (g : jz_G) (s : jz_St) (v l m : Int) : jz_C g mX7_isWithin [ji (v), ji (l), ji (m)] s (jq_ie (if l ≤ v ∧ v ≤ m then 1 else 0) s) := by
  refine zz_C_of koX7_isWithin rfl (Nat.le_of_ble_eq_true rfl) ?_
  refine zz_pad 0 ?_
  show jz_Z g mX7_isWithin (jq_ie (if l ≤ v ∧ v ≤ m then 1 else 0) s) 0 [some (ji (v)), some (ji (l)), some (ji (m))] [] s
  refine jj_iload_n dX7_isWithin_0 rfl ?_
  refine jj_iload_n dX7_isWithin_1 rfl ?_
  refine jj_icmp_lt (tgt := 14) dX7_isWithin_2 (by decide) (fun h2 => ?_) (fun h2 => ?_)
  · refine jj_iconst dX7_isWithin_14 (kk := ?_)
    refine zz_retze dX7_isWithin_15 rfl (by first | exact Or.inl rfl | exact Or.inr rfl) (by decide) ?_ ?_
    · first | rfl | ((repeat' split) <;> omega)
    · rfl
  · refine jj_iload_n dX7_isWithin_5 rfl ?_
    refine jj_iload_n dX7_isWithin_6 rfl ?_
    refine jj_icmp_gt (tgt := 14) dX7_isWithin_7 (by decide) (fun h7 => ?_) (fun h7 => ?_)
    · refine jj_iconst dX7_isWithin_14 (kk := ?_)
      refine zz_retze dX7_isWithin_15 rfl (by first | exact Or.inl rfl | exact Or.inr rfl) (by decide) ?_ ?_
      · first | rfl | ((repeat' split) <;> omega)
      · rfl
    · refine jj_iconst dX7_isWithin_10 (kk := ?_)
      refine jj_goto (tgt := 15) dX7_isWithin_11 (by decide) ?_
      refine zz_retze dX7_isWithin_15 rfl (by first | exact Or.inl rfl | exact Or.inr rfl) (by decide) ?_ ?_
      · first | rfl | ((repeat' split) <;> omega)
      · rfl

set_option maxRecDepth 100000 in
set_option maxHeartbeats 4000000 in
theorem c_X7_found (g : jz_G) (s : jz_St) (n : Int) (hn : 0 ≤ n ∧ n ≤ 10) : jz_C g mX7_found [jr (0), ji (n)] s (jq_ie (-1000010 - n) (jz_su s 0 8 n)) := by
  refine zz_C_of koX7_found rfl (Nat.le_of_ble_eq_true rfl) ?_
  refine zz_pad 0 ?_
  show jz_Z g mX7_found (jq_ie (-1000010 - n) (jz_su s 0 8 n)) 0 [some (jr (0)), some (ji (n))] [] s
  refine jj_aload_n dX7_found_0 rfl ?_
  refine jj_iload_n dX7_found_1 rfl ?_
  refine zz_putI dX7_found_2 kw_X7_66 tt0 rfl rfl ?_
  refine jj_ldcw dX7_found_5 kk_X7_316 (kk := ?_)
  refine jj_iload_n dX7_found_8 rfl ?_
  refine jj_isub dX7_found_9 (by omega) ?_
  refine zz_retie dX7_found_10 rfl (by decide) ?_ ?_
  · first | rfl | ((repeat' split) <;> omega)
  · rfl

def fRwO (z : Int) : Option Nat := if 0 ≤ z ∧ z < 8 then some (400 + 2 * z.toNat) else none
set_option maxRecDepth 100000 in
set_option maxHeartbeats 4000000 in
theorem c_X7_rowAt (g : jz_G) (s : jz_St) (z : Int) : jz_C g mX7_rowAt [jr (0), ji (z)] s (jq_re (fRwO z) s) := by
  refine zz_C_of koX7_rowAt rfl (Nat.le_of_ble_eq_true rfl) ?_
  refine zz_pad 0 ?_
  show jz_Z g mX7_rowAt (jq_re (fRwO z) s) 0 [some (jr (0)), some (ji (z))] [] s
  refine jj_iload_n dX7_rowAt_0 rfl ?_
  refine jj_if_lt (tgt := 22) dX7_rowAt_1 (by decide) (fun h1 => ?_) (fun h1 => ?_)
  · refine jj_null dX7_rowAt_22 ?_
    refine zz_retre (o := none) dX7_rowAt_23 rfl (by decide) ?_ ?_
    · unfold fRwO; (repeat (first | rw [if_pos (by omega)] | rw [if_neg (by omega)])) <;> first | rfl | done
    · rfl
  · refine jj_iload_n dX7_rowAt_4 rfl ?_
    refine jj_aload_n dX7_rowAt_5 rfl ?_
    refine zz_getR dX7_rowAt_6 kf_X7_11 tt0 rfl ?_
    refine zz_alen (z := 8) dX7_rowAt_9 tt1 (by decide) rfl (by decide) ?_
    refine jj_icmp_ge (tgt := 22) dX7_rowAt_10 (by decide) (fun h10 => ?_) (fun h10 => ?_)
    · refine jj_null dX7_rowAt_22 ?_
      refine zz_retre (o := none) dX7_rowAt_23 rfl (by decide) ?_ ?_
      · unfold fRwO; (repeat (first | rw [if_pos (by omega)] | rw [if_neg (by omega)])) <;> first | rfl | done
      · rfl
    · refine jj_aload_n dX7_rowAt_13 rfl ?_
      refine zz_getR dX7_rowAt_14 kf_X7_11 tt0 rfl ?_
      refine jj_iload_n dX7_rowAt_17 rfl ?_
      refine zz_rowld (j := z.toNat) dX7_rowAt_18 (by omega) (by omega) ?_
      refine jj_goto (tgt := 23) dX7_rowAt_19 (by decide) ?_
      refine zz_retre (o := some (400 + 2 * z.toNat)) dX7_rowAt_23 rfl (by decide) ?_ ?_
      · unfold fRwO; (repeat (first | rw [if_pos (by omega)] | rw [if_neg (by omega)])) <;> first | rfl | done
      · rfl

set_option maxRecDepth 100000 in
set_option maxHeartbeats 4000000 in
theorem c_X7_rowsThere (g : jz_G) (s : jz_St)  : jz_C g mX7_rowsThere [jr (0)] s (jq_ie (fRT s 8) s) := by
  refine zz_C_of koX7_rowsThere rfl (Nat.le_of_ble_eq_true rfl) ?_
  refine zz_pad 5 ?_
  show jz_Z g mX7_rowsThere (jq_ie (fRT s 8) s) 0 [some (jr (0)), none, none, none, none, none] [] s
  refine jj_iconst dX7_rowsThere_0 (kk := ?_)
  refine jj_istore_n (ls' := [some (jr (0)), some (ji (0)), none, none, none, none]) dX7_rowsThere_1 (by decide) rfl rfl ?_
  refine jj_aload_n dX7_rowsThere_2 rfl ?_
  refine zz_getR dX7_rowsThere_3 kf_X7_11 tt0 rfl ?_
  refine jj_astore_n (ls' := [some (jr (0)), some (ji (0)), some (jr (1)), none, none, none]) dX7_rowsThere_6 (by decide) rfl rfl ?_
  refine jj_aload_n dX7_rowsThere_7 rfl ?_
  refine zz_alen (z := 8) dX7_rowsThere_8 tt1 (by decide) rfl (by decide) ?_
  refine jj_istore_n (ls' := [some (jr (0)), some (ji (0)), some (jr (1)), some (ji (8)), none, none]) dX7_rowsThere_9 (by decide) rfl rfl ?_
  refine jj_iconst dX7_rowsThere_10 (kk := ?_)
  refine jj_istore (ls' := [some (jr (0)), some (ji (0)), some (jr (1)), some (ji (8)), some (ji (0)), none]) dX7_rowsThere_11 (by decide) rfl rfl ?_
  have L13 : ∀ (nn : Nat) (j : Nat) (acc : Int) (hh13_0 : j ≤ 8) (hh13_1 : acc = fRT s j) (hh13_2 : 0 ≤ acc ∧ acc ≤ j), 8 - j < nn → jz_Z g mX7_rowsThere (jq_ie (fRT s 8) s) 13 [some (jr (0)), some (ji (acc)), some (jr (1)), some (ji (8)), some (ji ((j : Int))), none] [] s := by
    intro nn
    induction nn with
    | zero => intro j acc hh13_0 hh13_1 hh13_2 hmz; exact absurd hmz (Nat.not_lt_zero _)
    | succ nn ih13 =>
      intro j acc hh13_0 hh13_1 hh13_2 hm13
      refine jj_iload dX7_rowsThere_13 rfl ?_
      refine jj_iload_n dX7_rowsThere_15 rfl ?_
      refine jj_icmp_ge (tgt := 47) dX7_rowsThere_16 (by decide) (fun h16 => ?_) (fun h16 => ?_)
      · refine jj_iload_n dX7_rowsThere_47 rfl ?_
        refine zz_retie dX7_rowsThere_48 rfl (by decide) ?_ ?_
        · (obtain rfl : j = 8 := (by omega)); exact hh13_1
        · rfl
      · refine jj_aload_n dX7_rowsThere_19 rfl ?_
        refine jj_iload dX7_rowsThere_20 rfl ?_
        refine zz_rowld (j := j) dX7_rowsThere_22 (by omega) (by omega) ?_
        refine jj_astore (ls' := [some (jr (0)), some (ji (acc)), some (jr (1)), some (ji (8)), some (ji ((j : Int))), some (jr (400 + 2 * j))]) dX7_rowsThere_23 (by decide) rfl rfl ?_
        refine jj_iload_n dX7_rowsThere_25 rfl ?_
        refine jj_aload dX7_rowsThere_26 rfl ?_
        refine zz_getI dX7_rowsThere_28 kf_X7_74 (jz_t_rows (by omega)) rfl rfl ?_
        refine jj_if_eq (tgt := 38) dX7_rowsThere_31 (by decide) (fun h31 => ?_) (fun h31 => ?_)
        · refine jj_iconst dX7_rowsThere_38 (kk := ?_)
          refine jj_iadd dX7_rowsThere_39 (by omega) ?_
          refine jj_istore_n (ls' := [some (jr (0)), some (ji (acc + 0)), some (jr (1)), some (ji (8)), some (ji ((j : Int))), some (jr (400 + 2 * j))]) dX7_rowsThere_40 (by decide) rfl rfl ?_
          refine jj_iinc (ls' := [some (jr (0)), some (ji (acc + 0)), some (jr (1)), some (ji (8)), some (ji ((j : Int) + 1)), some (jr (400 + 2 * j))]) dX7_rowsThere_41 rfl (by decide) rfl (by omega) rfl ?_
          refine jj_goto (tgt := 13) dX7_rowsThere_44 (by decide) ?_
          refine jj_fgt (i := 5) (ls' := [some (jr (0)), some (ji (acc + 0)), some (jr (1)), some (ji (8)), some (ji ((j : Int) + 1)), none]) rfl ?_
          exact ih13 (j + 1) (acc + 0) (by omega) (by simp only [fRT]; rw [hh13_1]; first | (rw [if_pos h31]; done) | (rw [if_neg h31]; done)) (by omega) (by omega)
        · refine jj_iconst dX7_rowsThere_34 (kk := ?_)
          refine jj_goto (tgt := 39) dX7_rowsThere_35 (by decide) ?_
          refine jj_iadd dX7_rowsThere_39 (by omega) ?_
          refine jj_istore_n (ls' := [some (jr (0)), some (ji (acc + 1)), some (jr (1)), some (ji (8)), some (ji ((j : Int))), some (jr (400 + 2 * j))]) dX7_rowsThere_40 (by decide) rfl rfl ?_
          refine jj_iinc (ls' := [some (jr (0)), some (ji (acc + 1)), some (jr (1)), some (ji (8)), some (ji ((j : Int) + 1)), some (jr (400 + 2 * j))]) dX7_rowsThere_41 rfl (by decide) rfl (by omega) rfl ?_
          refine jj_goto (tgt := 13) dX7_rowsThere_44 (by decide) ?_
          refine jj_fgt (i := 5) (ls' := [some (jr (0)), some (ji (acc + 1)), some (jr (1)), some (ji (8)), some (ji ((j : Int) + 1)), none]) rfl ?_
          exact ih13 (j + 1) (acc + 1) (by omega) (by simp only [fRT]; rw [hh13_1]; first | (rw [if_pos h31]; done) | (rw [if_neg h31]; done)) (by omega) (by omega)
  exact L13 _ 0 0 (by omega) (by rfl) (by omega) (Nat.lt_succ_self _)

def fImO (z : Int) : Option Nat := if z = 0 then some 372 else if z = 1 then some 386 else none
set_option maxRecDepth 100000 in
set_option maxHeartbeats 4000000 in
theorem c_X7_imageAt (g : jz_G) (s : jz_St) (z : Int) : jz_C g mX7_imageAt [jr (0), ji (z)] s (jq_re (fImO z) s) := by
  refine zz_C_of koX7_imageAt rfl (Nat.le_of_ble_eq_true rfl) ?_
  refine zz_pad 0 ?_
  show jz_Z g mX7_imageAt (jq_re (fImO z) s) 0 [some (jr (0)), some (ji (z))] [] s
  refine jj_iload_n dX7_imageAt_0 rfl ?_
  refine jj_if_ne (tgt := 11) dX7_imageAt_1 (by decide) (fun h1 => ?_) (fun h1 => ?_)
  · refine jj_iload_n dX7_imageAt_11 rfl ?_
    refine jj_iconst dX7_imageAt_12 (kk := ?_)
    refine jj_icmp_ne (tgt := 23) dX7_imageAt_13 (by decide) (fun h13 => ?_) (fun h13 => ?_)
    · refine jj_null dX7_imageAt_23 ?_
      refine zz_retre (o := none) dX7_imageAt_24 rfl (by decide) ?_ ?_
      · unfold fImO; (repeat (first | rw [if_pos (by omega)] | rw [if_neg (by omega)])) <;> first | rfl | done
      · rfl
    · refine jj_aload_n dX7_imageAt_16 rfl ?_
      refine zz_getR dX7_imageAt_17 kf_X7_49 tt0 rfl ?_
      refine jj_goto (tgt := 24) dX7_imageAt_20 (by decide) ?_
      refine zz_retre (o := some (386)) dX7_imageAt_24 rfl (by decide) ?_ ?_
      · unfold fImO; (repeat (first | rw [if_pos (by omega)] | rw [if_neg (by omega)])) <;> first | rfl | done
      · rfl
  · refine jj_aload_n dX7_imageAt_4 rfl ?_
    refine zz_getR dX7_imageAt_5 kf_X7_46 tt0 rfl ?_
    refine jj_goto (tgt := 24) dX7_imageAt_8 (by decide) ?_
    refine zz_retre (o := some (372)) dX7_imageAt_24 rfl (by decide) ?_ ?_
    · unfold fImO; (repeat (first | rw [if_pos (by omega)] | rw [if_neg (by omega)])) <;> first | rfl | done
    · rfl

set_option maxRecDepth 100000 in
set_option maxHeartbeats 4000000 in
theorem c_X7_broader (g : jz_G) (s : jz_St) (z : Int) : jz_C g mX7_broader [ji (z)] s (jq_ie (fBroad z) s) := by
  refine zz_C_of koX7_broader rfl (Nat.le_of_ble_eq_true rfl) ?_
  refine zz_pad 0 ?_
  show jz_Z g mX7_broader (jq_ie (fBroad z) s) 0 [some (ji (z))] [] s
  refine jj_iload_n dX7_broader_0 rfl ?_
  by_cases ht1 : (z) < 2 ∨ 5 < (z)
  · refine jj_tswO (tgt := 36) dX7_broader_1 ht1 (by decide) ?_
    refine jj_iconst dX7_broader_36 (kk := ?_)
    refine zz_retie dX7_broader_37 rfl (by decide) ?_ ?_
    · unfold fBroad; (repeat (first | rw [if_pos (by omega)] | rw [if_neg (by omega)])) <;> first | rfl | done
    · rfl
  · have hc1 : (z) = 2 ∨ (z) = 3 ∨ (z) = 4 ∨ (z) = 5 := by omega
    rcases hc1 with hv1 | hv1 | hv1 | hv1
    · refine jj_tswI (off := 31) (tgt := 32) dX7_broader_1 (by omega) (by omega) (by rw [hv1]; rfl) (by decide) ?_
      refine jj_iconst dX7_broader_32 (kk := ?_)
      refine zz_retie dX7_broader_33 rfl (by decide) ?_ ?_
      · unfold fBroad; (repeat (first | rw [if_pos (by omega)] | rw [if_neg (by omega)])) <;> first | rfl | done
      · rfl
    · refine jj_tswI (off := 31) (tgt := 32) dX7_broader_1 (by omega) (by omega) (by rw [hv1]; rfl) (by decide) ?_
      refine jj_iconst dX7_broader_32 (kk := ?_)
      refine zz_retie dX7_broader_33 rfl (by decide) ?_ ?_
      · unfold fBroad; (repeat (first | rw [if_pos (by omega)] | rw [if_neg (by omega)])) <;> first | rfl | done
      · rfl
    · refine jj_tswI (off := 35) (tgt := 36) dX7_broader_1 (by omega) (by omega) (by rw [hv1]; rfl) (by decide) ?_
      refine jj_iconst dX7_broader_36 (kk := ?_)
      refine zz_retie dX7_broader_37 rfl (by decide) ?_ ?_
      · unfold fBroad; (repeat (first | rw [if_pos (by omega)] | rw [if_neg (by omega)])) <;> first | rfl | done
      · rfl
    · refine jj_tswI (off := 33) (tgt := 34) dX7_broader_1 (by omega) (by omega) (by rw [hv1]; rfl) (by decide) ?_
      refine jj_iconst dX7_broader_34 (kk := ?_)
      refine zz_retie dX7_broader_35 rfl (by decide) ?_ ?_
      · unfold fBroad; (repeat (first | rw [if_pos (by omega)] | rw [if_neg (by omega)])) <;> first | rfl | done
      · rfl

set_option maxRecDepth 100000 in
set_option maxHeartbeats 4000000 in
theorem c_X7_bodyOf (g : jz_G) (s : jz_St) (z w : Int) : jz_C g mX7_bodyOf [ji (z), ji (w)] s (jq_ie (fBody z w) s) := by
  refine zz_C_of koX7_bodyOf rfl (Nat.le_of_ble_eq_true rfl) ?_
  refine zz_pad 0 ?_
  show jz_Z g mX7_bodyOf (jq_ie (fBody z w) s) 0 [some (ji (z)), some (ji (w))] [] s
  refine jj_iload_n dX7_bodyOf_0 rfl ?_
  by_cases ht1 : (z) < 1 ∨ 5 < (z)
  · refine jj_tswO (tgt := 96) dX7_bodyOf_1 ht1 (by decide) ?_
    refine jj_iload_n dX7_bodyOf_96 rfl ?_
    refine jj_if_ne (tgt := 105) dX7_bodyOf_97 (by decide) (fun h97 => ?_) (fun h97 => ?_)
    · refine jj_bipush dX7_bodyOf_105 (kk := ?_)
      refine zz_retie dX7_bodyOf_107 rfl (by decide) ?_ ?_
      · unfold fBody; (repeat (first | rw [if_pos (by omega)] | rw [if_neg (by omega)])) <;> first | rfl | done
      · rfl
    · refine jj_bipush dX7_bodyOf_100 (kk := ?_)
      refine jj_goto (tgt := 107) dX7_bodyOf_102 (by decide) ?_
      refine zz_retie dX7_bodyOf_107 rfl (by decide) ?_ ?_
      · unfold fBody; (repeat (first | rw [if_pos (by omega)] | rw [if_neg (by omega)])) <;> first | rfl | done
      · rfl
  · have hc1 : (z) = 1 ∨ (z) = 2 ∨ (z) = 3 ∨ (z) = 4 ∨ (z) = 5 := by omega
    rcases hc1 with hv1 | hv1 | hv1 | hv1 | hv1
    · refine jj_tswI (off := 35) (tgt := 36) dX7_bodyOf_1 (by omega) (by omega) (by rw [hv1]; rfl) (by decide) ?_
      refine jj_iload_n dX7_bodyOf_36 rfl ?_
      refine jj_if_ne (tgt := 45) dX7_bodyOf_37 (by decide) (fun h37 => ?_) (fun h37 => ?_)
      · refine jj_bipush dX7_bodyOf_45 (kk := ?_)
        refine zz_retie dX7_bodyOf_47 rfl (by decide) ?_ ?_
        · unfold fBody; (repeat (first | rw [if_pos (by omega)] | rw [if_neg (by omega)])) <;> first | rfl | done
        · rfl
      · refine jj_bipush dX7_bodyOf_40 (kk := ?_)
        refine jj_goto (tgt := 47) dX7_bodyOf_42 (by decide) ?_
        refine zz_retie dX7_bodyOf_47 rfl (by decide) ?_ ?_
        · unfold fBody; (repeat (first | rw [if_pos (by omega)] | rw [if_neg (by omega)])) <;> first | rfl | done
        · rfl
    · refine jj_tswI (off := 47) (tgt := 48) dX7_bodyOf_1 (by omega) (by omega) (by rw [hv1]; rfl) (by decide) ?_
      refine jj_iload_n dX7_bodyOf_48 rfl ?_
      refine jj_if_ne (tgt := 57) dX7_bodyOf_49 (by decide) (fun h49 => ?_) (fun h49 => ?_)
      · refine jj_bipush dX7_bodyOf_57 (kk := ?_)
        refine zz_retie dX7_bodyOf_59 rfl (by decide) ?_ ?_
        · unfold fBody; (repeat (first | rw [if_pos (by omega)] | rw [if_neg (by omega)])) <;> first | rfl | done
        · rfl
      · refine jj_bipush dX7_bodyOf_52 (kk := ?_)
        refine jj_goto (tgt := 59) dX7_bodyOf_54 (by decide) ?_
        refine zz_retie dX7_bodyOf_59 rfl (by decide) ?_ ?_
        · unfold fBody; (repeat (first | rw [if_pos (by omega)] | rw [if_neg (by omega)])) <;> first | rfl | done
        · rfl
    · refine jj_tswI (off := 59) (tgt := 60) dX7_bodyOf_1 (by omega) (by omega) (by rw [hv1]; rfl) (by decide) ?_
      refine jj_iload_n dX7_bodyOf_60 rfl ?_
      refine jj_if_ne (tgt := 69) dX7_bodyOf_61 (by decide) (fun h61 => ?_) (fun h61 => ?_)
      · refine jj_bipush dX7_bodyOf_69 (kk := ?_)
        refine zz_retie dX7_bodyOf_71 rfl (by decide) ?_ ?_
        · unfold fBody; (repeat (first | rw [if_pos (by omega)] | rw [if_neg (by omega)])) <;> first | rfl | done
        · rfl
      · refine jj_bipush dX7_bodyOf_64 (kk := ?_)
        refine jj_goto (tgt := 71) dX7_bodyOf_66 (by decide) ?_
        refine zz_retie dX7_bodyOf_71 rfl (by decide) ?_ ?_
        · unfold fBody; (repeat (first | rw [if_pos (by omega)] | rw [if_neg (by omega)])) <;> first | rfl | done
        · rfl
    · refine jj_tswI (off := 71) (tgt := 72) dX7_bodyOf_1 (by omega) (by omega) (by rw [hv1]; rfl) (by decide) ?_
      refine jj_iload_n dX7_bodyOf_72 rfl ?_
      refine jj_if_ne (tgt := 81) dX7_bodyOf_73 (by decide) (fun h73 => ?_) (fun h73 => ?_)
      · refine jj_bipush dX7_bodyOf_81 (kk := ?_)
        refine zz_retie dX7_bodyOf_83 rfl (by decide) ?_ ?_
        · unfold fBody; (repeat (first | rw [if_pos (by omega)] | rw [if_neg (by omega)])) <;> first | rfl | done
        · rfl
      · refine jj_bipush dX7_bodyOf_76 (kk := ?_)
        refine jj_goto (tgt := 83) dX7_bodyOf_78 (by decide) ?_
        refine zz_retie dX7_bodyOf_83 rfl (by decide) ?_ ?_
        · unfold fBody; (repeat (first | rw [if_pos (by omega)] | rw [if_neg (by omega)])) <;> first | rfl | done
        · rfl
    · refine jj_tswI (off := 83) (tgt := 84) dX7_bodyOf_1 (by omega) (by omega) (by rw [hv1]; rfl) (by decide) ?_
      refine jj_iload_n dX7_bodyOf_84 rfl ?_
      refine jj_if_ne (tgt := 93) dX7_bodyOf_85 (by decide) (fun h85 => ?_) (fun h85 => ?_)
      · refine jj_bipush dX7_bodyOf_93 (kk := ?_)
        refine zz_retie dX7_bodyOf_95 rfl (by decide) ?_ ?_
        · unfold fBody; (repeat (first | rw [if_pos (by omega)] | rw [if_neg (by omega)])) <;> first | rfl | done
        · rfl
      · refine jj_bipush dX7_bodyOf_88 (kk := ?_)
        refine jj_goto (tgt := 95) dX7_bodyOf_90 (by decide) ?_
        refine zz_retie dX7_bodyOf_95 rfl (by decide) ?_ ?_
        · unfold fBody; (repeat (first | rw [if_pos (by omega)] | rw [if_neg (by omega)])) <;> first | rfl | done
        · rfl

theorem fPow_rng {b : Int} (h : 0 ≤ b ∧ b ≤ 10) : ∀ n, 0 ≤ fPow b n ∧ fPow b n ≤ 10 ^ n := by
  intro n
  induction n with
  | zero => simp [fPow]
  | succ n ih =>
    simp only [fPow]
    have h1 : 0 ≤ fPow b n * b := Int.mul_nonneg ih.1 h.1
    have h2 : fPow b n * b ≤ 10 ^ n * 10 := Int.mul_le_mul ih.2 h.2 h.1 (Int.le_trans ih.1 ih.2)
    have h3 : (10 : Int) ^ (n + 1) = 10 ^ n * 10 := Int.pow_succ 10 n
    omega
theorem fPow_7 {b : Int} (h : 0 ≤ b ∧ b ≤ 10) {n : Nat} (hn : n ≤ 7) : 0 ≤ fPow b n ∧ fPow b n ≤ 10000000 := by
  have h1 := fPow_rng h n
  have h2 : ∀ n : Nat, n ≤ 7 → (10 : Int) ^ n ≤ 10000000 := by decide
  have := h2 n hn
  omega
set_option maxRecDepth 100000 in
set_option maxHeartbeats 4000000 in
theorem c_X7_power (g : jz_G) (s : jz_St) (b : Int) (n : Nat) (hb : 0 ≤ b ∧ b ≤ 10) (hn : n ≤ 7) : jz_C g mX7_power [ji (b), ji ((n : Int))] s (jq_le (fPow b n) s) := by
  refine zz_C_of koX7_power rfl (Nat.le_of_ble_eq_true rfl) ?_
  refine zz_pad 3 ?_
  show jz_Z g mX7_power (jq_le (fPow b n) s) 0 [some (ji (b)), some (ji ((n : Int))), none, none, none] [] s
  refine jj_lconst (z := 1) dX7_power_0 (kk := ?_)
  refine jj_lstore_n (ls' := [some (ji (b)), some (ji ((n : Int))), some (jl (1)), none, none]) dX7_power_1 (by decide) rfl rfl ?_
  refine jj_iconst dX7_power_2 (kk := ?_)
  refine jj_istore (ls' := [some (ji (b)), some (ji ((n : Int))), some (jl (1)), none, some (ji (0))]) dX7_power_3 (by decide) rfl rfl ?_
  have L5 : ∀ (nn : Nat) (j : Nat) (hh5_0 : j ≤ n), n - j < nn → jz_Z g mX7_power (jq_le (fPow b n) s) 5 [some (ji (b)), some (ji ((n : Int))), some (jl (fPow b j)), none, some (ji ((j : Int)))] [] s := by
    intro nn
    induction nn with
    | zero => intro j hh5_0 hmz; exact absurd hmz (Nat.not_lt_zero _)
    | succ nn ih5 =>
      intro j hh5_0 hm5
      refine jj_iload dX7_power_5 rfl ?_
      refine jj_iload_n dX7_power_7 rfl ?_
      refine jj_icmp_ge (tgt := 22) dX7_power_8 (by decide) (fun h8 => ?_) (fun h8 => ?_)
      · refine jj_lload_n dX7_power_22 rfl ?_
        refine zz_retle dX7_power_23 rfl (by decide) ?_ ?_
        · (obtain rfl : j = n := (by omega)); rfl
        · rfl
      · refine jj_lload_n dX7_power_11 rfl ?_
        refine jj_iload_n dX7_power_12 rfl ?_
        refine jj_i2l dX7_power_13 ?_
        refine jj_lmul dX7_power_14 (by have h1 := fPow_7 hb (show j + 1 ≤ 7 by omega); simp only [fPow] at h1; omega) ?_
        refine jj_lstore_n (ls' := [some (ji (b)), some (ji ((n : Int))), some (jl ((fPow b j) * b)), none, some (ji ((j : Int)))]) dX7_power_15 (by decide) rfl rfl ?_
        refine jj_iinc (ls' := [some (ji (b)), some (ji ((n : Int))), some (jl ((fPow b j) * b)), none, some (ji ((j : Int) + 1))]) dX7_power_16 rfl (by decide) rfl (by omega) rfl ?_
        refine jj_goto (tgt := 5) dX7_power_19 (by decide) ?_
        exact ih5 (j + 1) (by first | assumption | omega) (by omega)
  exact L5 _ 0 (by first | assumption | omega) (Nat.lt_succ_self _)

set_option maxRecDepth 100000 in
set_option maxHeartbeats 4000000 in
theorem c_X7_commonDivisor (g : jz_G) (s : jz_St) (a b : Int) (ha : 0 ≤ a ∧ a ≤ 100000000000000000) (hb : 0 ≤ b ∧ b ≤ 100000000000000000) : jz_C g mX7_commonDivisor [jl (a), jl (b)] s (jq_le (fGC 100 a b) s) := by
  refine zz_C_of koX7_commonDivisor rfl (Nat.le_of_ble_eq_true rfl) ?_
  refine zz_pad 7 ?_
  show jz_Z g mX7_commonDivisor (jq_le (fGC 100 a b) s) 0 [some (jl (a)), none, some (jl (b)), none, none, none, none, none, none, none, none] [] s
  refine jj_lload_n dX7_commonDivisor_0 rfl ?_
  refine jj_lstore (ls' := [some (jl (a)), none, some (jl (b)), none, some (jl (a)), none, none, none, none, none, none]) dX7_commonDivisor_1 (by decide) rfl rfl ?_
  refine jj_lload_n dX7_commonDivisor_3 rfl ?_
  refine jj_lstore (ls' := [some (jl (a)), none, some (jl (b)), none, some (jl (a)), none, some (jl (b)), none, none, none, none]) dX7_commonDivisor_4 (by decide) rfl rfl ?_
  refine jj_iconst dX7_commonDivisor_6 (kk := ?_)
  refine jj_istore (ls' := [some (jl (a)), none, some (jl (b)), none, some (jl (a)), none, some (jl (b)), none, some (ji (0)), none, none]) dX7_commonDivisor_7 (by decide) rfl rfl ?_
  have L9 : ∀ (nn : Nat) (j : Nat) (x y : Int) (hh9_0 : j ≤ 100) (hh9_1 : fGC 100 a b = fGC (100 - j) x y) (hh9_2 : 0 ≤ x ∧ x ≤ 100000000000000000) (hh9_3 : 0 ≤ y ∧ y ≤ 100000000000000000), 100 - j < nn → jz_Z g mX7_commonDivisor (jq_le (fGC 100 a b) s) 9 [some (jl (a)), none, some (jl (b)), none, some (jl (x)), none, some (jl (y)), none, some (ji ((j : Int))), none, none] [] s := by
    intro nn
    induction nn with
    | zero => intro j x y hh9_0 hh9_1 hh9_2 hh9_3 hmz; exact absurd hmz (Nat.not_lt_zero _)
    | succ nn ih9 =>
      intro j x y hh9_0 hh9_1 hh9_2 hh9_3 hm9
      refine jj_iload dX7_commonDivisor_9 rfl ?_
      refine jj_bipush dX7_commonDivisor_11 (kk := ?_)
      refine jj_icmp_ge (tgt := 44) dX7_commonDivisor_13 (by decide) (fun h13 => ?_) (fun h13 => ?_)
      · refine jj_lload dX7_commonDivisor_44 rfl ?_
        refine zz_retle dX7_commonDivisor_46 rfl (by decide) ?_ ?_
        · rw [hh9_1]; first | (rw [show 100 - j = 0 by omega]; rfl) | (rw [show 100 - j = (100 - (j + 1)) + 1 by omega]; simp only [fGC]; rw [if_pos (by unfold jcmp at h20; split at h20 <;> (try split at h20) <;> omega)])
        · rfl
      · refine jj_lload dX7_commonDivisor_16 rfl ?_
        refine jj_lconst (z := 0) dX7_commonDivisor_18 (kk := ?_)
        refine jj_lcmp dX7_commonDivisor_19 ?_
        refine jj_if_eq (tgt := 44) dX7_commonDivisor_20 (by decide) (fun h20 => ?_) (fun h20 => ?_)
        · refine jj_lload dX7_commonDivisor_44 rfl ?_
          refine zz_retle dX7_commonDivisor_46 rfl (by decide) ?_ ?_
          · rw [hh9_1]; first | (rw [show 100 - j = 0 by omega]; rfl) | (rw [show 100 - j = (100 - (j + 1)) + 1 by omega]; simp only [fGC]; rw [if_pos (by unfold jcmp at h20; split at h20 <;> (try split at h20) <;> omega)])
          · rfl
        · have hy0 : ¬ y = 0 := fun q => h20 (by rw [q]; rfl)
          refine jj_lload dX7_commonDivisor_23 rfl ?_
          refine jj_lload dX7_commonDivisor_25 rfl ?_
          refine jj_lrem dX7_commonDivisor_27 (by exact hy0) (by rw [tm_e hh9_2.1]; have := em_b (x := x) (y := y) (by omega); omega) ?_
          refine jj_lstore (ls' := [some (jl (a)), none, some (jl (b)), none, some (jl (x)), none, some (jl (y)), none, some (ji ((j : Int))), some (jl (Int.tmod (x) (y))), none]) dX7_commonDivisor_28 (by decide) rfl rfl ?_
          refine jj_lload dX7_commonDivisor_30 rfl ?_
          refine jj_lstore (ls' := [some (jl (a)), none, some (jl (b)), none, some (jl (y)), none, some (jl (y)), none, some (ji ((j : Int))), some (jl (Int.tmod (x) (y))), none]) dX7_commonDivisor_32 (by decide) rfl rfl ?_
          refine jj_lload dX7_commonDivisor_34 rfl ?_
          refine jj_lstore (ls' := [some (jl (a)), none, some (jl (b)), none, some (jl (y)), none, some (jl (Int.tmod (x) (y))), none, some (ji ((j : Int))), some (jl (Int.tmod (x) (y))), none]) dX7_commonDivisor_36 (by decide) rfl rfl ?_
          refine jj_iinc (ls' := [some (jl (a)), none, some (jl (b)), none, some (jl (y)), none, some (jl (Int.tmod (x) (y))), none, some (ji ((j : Int) + 1)), some (jl (Int.tmod (x) (y))), none]) dX7_commonDivisor_38 rfl (by decide) rfl (by omega) rfl ?_
          refine jj_goto (tgt := 9) dX7_commonDivisor_41 (by decide) ?_
          refine jj_fgt (i := 9) (ls' := [some (jl (a)), none, some (jl (b)), none, some (jl (y)), none, some (jl (Int.tmod (x) (y))), none, some (ji ((j : Int) + 1)), none, none]) rfl ?_
          exact ih9 (j + 1) y (Int.tmod (x) (y)) (by omega) (by rw [hh9_1, show 100 - j = (100 - (j + 1)) + 1 by omega]; simp only [fGC]; rw [if_neg hy0]) (by omega) (by rw [tm_e hh9_2.1]; have := em_b (x := x) (y := y) (by omega); omega) (by omega)
  exact L9 _ 0 a b (by omega) (by rfl) (by omega) (by omega) (Nat.lt_succ_self _)

def v_X7_row (s : jz_St) (r l n : Int) : Int := if (0 ≤ r ∧ r < 8) ∧ (0 ≤ l ∧ l ≤ 2) ∧ n ≤ 40 then (if n < 0 then -1000014 else n) else -1000001
def f_X7_row (s : jz_St) (r l n : Int) : jz_St := if (0 ≤ r ∧ r < 8) ∧ (0 ≤ l ∧ l ≤ 2) ∧ n ≤ 40 then (if n < 0 then jz_su s 0 8 4 else f_X4_begin (jz_su s 0 8 0) (400 + 2 * r.toNat) l n) else s
set_option maxRecDepth 100000 in
set_option maxHeartbeats 4000000 in
theorem c_X7_row (g : jz_G) (s : jz_St) (r l n : Int) (hI : jInv s)  : jz_C g mX7_row [jr (0), ji (r), ji (l), ji (n)] s (jq_ie (v_X7_row s r l n) (f_X7_row s r l n)) := by
  refine zz_C_of koX7_row rfl (Nat.le_of_ble_eq_true rfl) ?_
  refine zz_pad 1 ?_
  show jz_Z g mX7_row (jq_ie (v_X7_row s r l n) (f_X7_row s r l n)) 0 [some (jr (0)), some (ji (r)), some (ji (l)), some (ji (n)), none] [] s
  obtain ⟨hN, hH, hP1, hP2, hT, hRw⟩ := hI
  refine jj_aload_n dX7_row_0 rfl ?_
  refine jj_iload_n dX7_row_1 rfl ?_
  refine zz_cVr (av := [ji (r)]) (st' := []) dX7_row_2 kn_X7_53 kmX7_rowAt tt0 rfl rfl rfl (Nat.le_of_ble_eq_true rfl) (by decide) rfl (c_X7_rowAt g s r) (fun ho2 => ?_)
  by_cases hc2 : 0 ≤ r ∧ r < 8
  · refine jj_topO (o' := some (400 + 2 * r.toNat)) (if_pos hc2) ?_
    refine jj_astore (ls' := [some (jr (0)), some (ji (r)), some (ji (l)), some (ji (n)), some (jr (400 + 2 * r.toNat))]) dX7_row_5 (by decide) rfl rfl ?_
    refine jj_aload dX7_row_7 rfl ?_
    refine jj_ifnull (o := some (400 + 2 * r.toNat)) (tgt := 27) dX7_row_9 (by decide) (fun h => by cases h) (fun _ _ => ?_)
    refine jj_iload_n dX7_row_12 rfl ?_
    refine jj_iconst dX7_row_13 (kk := ?_)
    refine jj_iconst dX7_row_14 (kk := ?_)
    refine zz_cSi (av := [ji (l), ji (0), ji (2)]) (st' := []) dX7_row_15 kn_X7_57 kmX7_isWithin rfl rfl (Nat.le_of_ble_eq_true rfl) (by decide) rfl (c_X7_isWithin g s l 0 2) (fun hr15 ho15 => ?_)
    refine jj_if_eq (tgt := 27) dX7_row_18 (by decide) (fun h18 => ?_) (fun h18 => ?_)
    · have hg18 := bz_f h18
      refine jj_ldc dX7_row_27 kk_X7_61 (kk := ?_)
      refine zz_retie dX7_row_29 rfl (by decide) ?_ ?_
      · unfold v_X7_row; (repeat (first | rw [if_pos (by omega)] | rw [if_neg (by omega)])) <;> first | rfl | done
      · unfold f_X7_row; (repeat (first | rw [if_pos (by omega)] | rw [if_neg (by omega)])) <;> first | rfl | done
    · have hg18 := bz_t h18
      refine jj_iload_n dX7_row_21 rfl ?_
      refine jj_bipush dX7_row_22 (kk := ?_)
      refine jj_icmp_le (tgt := 30) dX7_row_24 (by decide) (fun h24 => ?_) (fun h24 => ?_)
      · refine jj_iload_n dX7_row_30 rfl ?_
        refine jj_if_ge (tgt := 40) dX7_row_31 (by decide) (fun h31 => ?_) (fun h31 => ?_)
        · refine jj_aload_n dX7_row_40 rfl ?_
          refine jj_iconst dX7_row_41 (kk := ?_)
          refine zz_putI dX7_row_42 kw_X7_66 tt0 rfl rfl ?_
          refine jj_aload dX7_row_45 rfl ?_
          refine jj_iload_n dX7_row_47 rfl ?_
          refine jj_iload_n dX7_row_48 rfl ?_
          refine zz_cVv (av := [ji (l), ji (n)]) (st' := []) dX7_row_49 kn_X7_70 kmX4_begin (jz_t_rows (by omega)) rfl rfl rfl (Nat.le_of_ble_eq_true rfl) (by decide) rfl (c_X4_begin g (jz_su s 0 8 (0)) (400 + 2 * r.toNat) (jz_t_rows (by omega)) l n (by omega) (by omega)) (fun ho49 => ?_)
          refine jj_iload_n dX7_row_52 rfl ?_
          refine zz_retie dX7_row_53 rfl (by decide) ?_ ?_
          · unfold v_X7_row; (repeat (first | rw [if_pos (by omega)] | rw [if_neg (by omega)])) <;> first | rfl | done
          · unfold f_X7_row; (repeat (first | rw [if_pos (by omega)] | rw [if_neg (by omega)])) <;> first | rfl | done
        · refine jj_aload_n dX7_row_34 rfl ?_
          refine jj_iconst dX7_row_35 (kk := ?_)
          refine zz_cVi (av := [ji (4)]) (st' := []) dX7_row_36 kn_X7_62 kmX7_found tt0 rfl rfl rfl (Nat.le_of_ble_eq_true rfl) (by decide) rfl (c_X7_found g s 4 (by omega)) (fun hr36 ho36 => ?_)
          refine zz_retie dX7_row_39 rfl (by decide) ?_ ?_
          · unfold v_X7_row; (repeat (first | rw [if_pos (by omega)] | rw [if_neg (by omega)])) <;> first | rfl | done
          · unfold f_X7_row; (repeat (first | rw [if_pos (by omega)] | rw [if_neg (by omega)])) <;> first | rfl | done
      · refine jj_ldc dX7_row_27 kk_X7_61 (kk := ?_)
        refine zz_retie dX7_row_29 rfl (by decide) ?_ ?_
        · unfold v_X7_row; (repeat (first | rw [if_pos (by omega)] | rw [if_neg (by omega)])) <;> first | rfl | done
        · unfold f_X7_row; (repeat (first | rw [if_pos (by omega)] | rw [if_neg (by omega)])) <;> first | rfl | done
  · refine jj_topO (o' := none) (if_neg hc2) ?_
    refine jj_astoreO (ls' := [some (jr (0)), some (ji (r)), some (ji (l)), some (ji (n)), some (jn)]) dX7_row_5 (by decide) rfl rfl ?_
    refine jj_aloadO dX7_row_7 rfl ?_
    refine jj_ifnull (o := none) (tgt := 27) dX7_row_9 (by decide) (fun _ => ?_) (fun _ h => by cases h)
    refine jj_ldc dX7_row_27 kk_X7_61 (kk := ?_)
    refine zz_retie dX7_row_29 rfl (by decide) ?_ ?_
    · unfold v_X7_row; (repeat (first | rw [if_pos (by omega)] | rw [if_neg (by omega)])) <;> first | rfl | done
    · unfold f_X7_row; (repeat (first | rw [if_pos (by omega)] | rw [if_neg (by omega)])) <;> first | rfl | done

def v_X7_set (s : jz_St) (r i z : Int) : Int := if 0 ≤ r ∧ r < 8 then (if s (400 + 2 * r.toNat) 1 = 0 then -1000011 else if 0 ≤ i ∧ i < s (400 + 2 * r.toNat) 3 then fNarrow (s (400 + 2 * r.toNat) 2) z else -1000012) else -1000001
def f_X7_set (s : jz_St) (r i z : Int) : jz_St := if 0 ≤ r ∧ r < 8 then (if s (400 + 2 * r.toNat) 1 = 0 then jz_su s 0 8 1 else if 0 ≤ i ∧ i < s (400 + 2 * r.toNat) 3 then f_X4_put (jz_su s 0 8 0) (400 + 2 * r.toNat) i z else jz_su s 0 8 2) else s
set_option maxRecDepth 100000 in
set_option maxHeartbeats 4000000 in
theorem c_X7_set (g : jz_G) (s : jz_St) (r i z : Int) (hI : jInv s)  : jz_C g mX7_set [jr (0), ji (r), ji (i), ji (z)] s (jq_ie (v_X7_set s r i z) (f_X7_set s r i z)) := by
  refine zz_C_of koX7_set rfl (Nat.le_of_ble_eq_true rfl) ?_
  refine zz_pad 1 ?_
  show jz_Z g mX7_set (jq_ie (v_X7_set s r i z) (f_X7_set s r i z)) 0 [some (jr (0)), some (ji (r)), some (ji (i)), some (ji (z)), none] [] s
  obtain ⟨hN, hH, hP1, hP2, hT, hRw⟩ := hI
  refine jj_aload_n dX7_set_0 rfl ?_
  refine jj_iload_n dX7_set_1 rfl ?_
  refine zz_cVr (av := [ji (r)]) (st' := []) dX7_set_2 kn_X7_53 kmX7_rowAt tt0 rfl rfl rfl (Nat.le_of_ble_eq_true rfl) (by decide) rfl (c_X7_rowAt g s r) (fun ho2 => ?_)
  by_cases hc2 : 0 ≤ r ∧ r < 8
  · refine jj_topO (o' := some (400 + 2 * r.toNat)) (if_pos hc2) ?_
    refine jj_astore (ls' := [some (jr (0)), some (ji (r)), some (ji (i)), some (ji (z)), some (jr (400 + 2 * r.toNat))]) dX7_set_5 (by decide) rfl rfl ?_
    refine jj_aload dX7_set_7 rfl ?_
    refine jj_ifnonnull (o := some (400 + 2 * r.toNat)) (tgt := 15) dX7_set_9 (by decide) (fun _ _ => ?_) (fun h => by cases h)
    refine jj_aload dX7_set_15 rfl ?_
    refine zz_getI dX7_set_17 kf_X7_74 (jz_t_rows (by omega)) rfl rfl ?_
    refine jj_if_ne (tgt := 29) dX7_set_20 (by decide) (fun h20 => ?_) (fun h20 => ?_)
    · refine jj_aload dX7_set_29 rfl ?_
      refine jj_iload_n dX7_set_31 rfl ?_
      refine jj_iconst dX7_set_32 (kk := ?_)
      refine zz_cVi (av := [ji (i), ji (1)]) (st' := []) dX7_set_33 kn_X7_78 kmX4_hasPlaces (jz_t_rows (by omega)) rfl rfl rfl (Nat.le_of_ble_eq_true rfl) (by decide) rfl (c_X4_hasPlaces g s (400 + 2 * r.toNat) (jz_t_rows (by omega)) i 1 (by first | exact (hRw _ (by omega)).1 | omega)) (fun hr33 ho33 => ?_)
      refine jj_if_ne (tgt := 45) dX7_set_36 (by decide) (fun h36 => ?_) (fun h36 => ?_)
      · have hg36 := bz_t h36
        refine jj_aload_n dX7_set_45 rfl ?_
        refine jj_iconst dX7_set_46 (kk := ?_)
        refine zz_putI dX7_set_47 kw_X7_66 tt0 rfl rfl ?_
        refine jj_aload dX7_set_50 rfl ?_
        refine jj_iload_n dX7_set_52 rfl ?_
        refine jj_iload_n dX7_set_53 rfl ?_
        refine zz_cVi (av := [ji (i), ji (z)]) (st' := []) dX7_set_54 kn_X7_82 kmX4_put (jz_t_rows (by omega)) rfl rfl rfl (Nat.le_of_ble_eq_true rfl) (by decide) rfl (c_X4_put g (jz_su s 0 8 (0)) (400 + 2 * r.toNat) (jz_t_rows (by omega)) i z) (fun hr54 ho54 => ?_)
        refine zz_top (b := fNarrow (s (400 + 2 * r.toNat) 2) z) (by rw [jz_su_f (by decide)]) ?_
        refine zz_retie dX7_set_57 rfl (by decide) ?_ ?_
        · unfold v_X7_set; (repeat (first | rw [if_pos (by omega)] | rw [if_neg (by omega)])) <;> first | rfl | done
        · unfold f_X7_set; (repeat (first | rw [if_pos (by omega)] | rw [if_neg (by omega)])) <;> first | rfl | done
      · have hg36 := bz_f h36
        refine jj_aload_n dX7_set_39 rfl ?_
        refine jj_iconst dX7_set_40 (kk := ?_)
        refine zz_cVi (av := [ji (2)]) (st' := []) dX7_set_41 kn_X7_62 kmX7_found tt0 rfl rfl rfl (Nat.le_of_ble_eq_true rfl) (by decide) rfl (c_X7_found g s 2 (by omega)) (fun hr41 ho41 => ?_)
        refine zz_retie dX7_set_44 rfl (by decide) ?_ ?_
        · unfold v_X7_set; (repeat (first | rw [if_pos (by omega)] | rw [if_neg (by omega)])) <;> first | rfl | done
        · unfold f_X7_set; (repeat (first | rw [if_pos (by omega)] | rw [if_neg (by omega)])) <;> first | rfl | done
    · refine jj_aload_n dX7_set_23 rfl ?_
      refine jj_iconst dX7_set_24 (kk := ?_)
      refine zz_cVi (av := [ji (1)]) (st' := []) dX7_set_25 kn_X7_62 kmX7_found tt0 rfl rfl rfl (Nat.le_of_ble_eq_true rfl) (by decide) rfl (c_X7_found g s 1 (by omega)) (fun hr25 ho25 => ?_)
      refine zz_retie dX7_set_28 rfl (by decide) ?_ ?_
      · unfold v_X7_set; (repeat (first | rw [if_pos (by omega)] | rw [if_neg (by omega)])) <;> first | rfl | done
      · unfold f_X7_set; (repeat (first | rw [if_pos (by omega)] | rw [if_neg (by omega)])) <;> first | rfl | done
  · refine jj_topO (o' := none) (if_neg hc2) ?_
    refine jj_astoreO (ls' := [some (jr (0)), some (ji (r)), some (ji (i)), some (ji (z)), some (jn)]) dX7_set_5 (by decide) rfl rfl ?_
    refine jj_aloadO dX7_set_7 rfl ?_
    refine jj_ifnonnull (o := none) (tgt := 15) dX7_set_9 (by decide) (fun _ h => by cases h) (fun _ => ?_)
    refine jj_ldc dX7_set_12 kk_X7_61 (kk := ?_)
    refine zz_retie dX7_set_14 rfl (by decide) ?_ ?_
    · unfold v_X7_set; (repeat (first | rw [if_pos (by omega)] | rw [if_neg (by omega)])) <;> first | rfl | done
    · unfold f_X7_set; (repeat (first | rw [if_pos (by omega)] | rw [if_neg (by omega)])) <;> first | rfl | done

def v_X7_copy (s : jz_St) (r i c j n : Int) : Int := if (0 ≤ r ∧ r < 8) ∧ 0 ≤ c ∧ c < 8 then (if s (400 + 2 * r.toNat) 1 = 0 ∨ s (400 + 2 * c.toNat) 1 = 0 then -1000011 else if s (400 + 2 * r.toNat) 2 ≠ s (400 + 2 * c.toNat) 2 then -1000015 else if (0 ≤ i ∧ 0 ≤ n ∧ i + n ≤ s (400 + 2 * r.toNat) 3) ∧ 0 ≤ j ∧ j + n ≤ s (400 + 2 * c.toNat) 3 then n else -1000012) else -1000001
def f_X7_copy (s : jz_St) (r i c j n : Int) : jz_St := if (0 ≤ r ∧ r < 8) ∧ 0 ≤ c ∧ c < 8 then (if s (400 + 2 * r.toNat) 1 = 0 ∨ s (400 + 2 * c.toNat) 1 = 0 then jz_su s 0 8 1 else if s (400 + 2 * r.toNat) 2 ≠ s (400 + 2 * c.toNat) 2 then jz_su s 0 8 5 else if (0 ≤ i ∧ 0 ≤ n ∧ i + n ≤ s (400 + 2 * r.toNat) 3) ∧ 0 ≤ j ∧ j + n ≤ s (400 + 2 * c.toNat) 3 then jz_scp (jz_su s 0 8 0) (400 + 2 * r.toNat + 1) (400 + 2 * c.toNat + 1) i.toNat j.toNat n.toNat else jz_su s 0 8 2) else s
set_option maxRecDepth 100000 in
set_option maxHeartbeats 4000000 in
theorem c_X7_copy (g : jz_G) (s : jz_St) (r i c j n : Int) (hI : jInv s)  : jz_C g mX7_copy [jr (0), ji (r), ji (i), ji (c), ji (j), ji (n)] s (jq_ie (v_X7_copy s r i c j n) (f_X7_copy s r i c j n)) := by
  refine zz_C_of koX7_copy rfl (Nat.le_of_ble_eq_true rfl) ?_
  refine zz_pad 2 ?_
  show jz_Z g mX7_copy (jq_ie (v_X7_copy s r i c j n) (f_X7_copy s r i c j n)) 0 [some (jr (0)), some (ji (r)), some (ji (i)), some (ji (c)), some (ji (j)), some (ji (n)), none, none] [] s
  obtain ⟨hN, hH, hP1, hP2, hT, hRw⟩ := hI
  refine jj_aload_n dX7_copy_0 rfl ?_
  refine jj_iload_n dX7_copy_1 rfl ?_
  refine zz_cVr (av := [ji (r)]) (st' := []) dX7_copy_2 kn_X7_53 kmX7_rowAt tt0 rfl rfl rfl (Nat.le_of_ble_eq_true rfl) (by decide) rfl (c_X7_rowAt g s r) (fun ho2 => ?_)
  by_cases hc2 : 0 ≤ r ∧ r < 8
  · refine jj_topO (o' := some (400 + 2 * r.toNat)) (if_pos hc2) ?_
    refine jj_astore (ls' := [some (jr (0)), some (ji (r)), some (ji (i)), some (ji (c)), some (ji (j)), some (ji (n)), some (jr (400 + 2 * r.toNat)), none]) dX7_copy_5 (by decide) rfl rfl ?_
    refine jj_aload_n dX7_copy_7 rfl ?_
    refine jj_iload_n dX7_copy_8 rfl ?_
    refine zz_cVr (av := [ji (c)]) (st' := []) dX7_copy_9 kn_X7_53 kmX7_rowAt tt0 rfl rfl rfl (Nat.le_of_ble_eq_true rfl) (by decide) rfl (c_X7_rowAt g s c) (fun ho9 => ?_)
    by_cases hc9 : 0 ≤ c ∧ c < 8
    · refine jj_topO (o' := some (400 + 2 * c.toNat)) (if_pos hc9) ?_
      refine jj_astore (ls' := [some (jr (0)), some (ji (r)), some (ji (i)), some (ji (c)), some (ji (j)), some (ji (n)), some (jr (400 + 2 * r.toNat)), some (jr (400 + 2 * c.toNat))]) dX7_copy_12 (by decide) rfl rfl ?_
      refine jj_aload dX7_copy_14 rfl ?_
      refine jj_ifnull (o := some (400 + 2 * r.toNat)) (tgt := 24) dX7_copy_16 (by decide) (fun h => by cases h) (fun _ _ => ?_)
      refine jj_aload dX7_copy_19 rfl ?_
      refine jj_ifnonnull (o := some (400 + 2 * c.toNat)) (tgt := 27) dX7_copy_21 (by decide) (fun _ _ => ?_) (fun h => by cases h)
      refine jj_aload dX7_copy_27 rfl ?_
      refine zz_getI dX7_copy_29 kf_X7_74 (jz_t_rows (by omega)) rfl rfl ?_
      refine jj_if_eq (tgt := 43) dX7_copy_32 (by decide) (fun h32 => ?_) (fun h32 => ?_)
      · refine jj_aload_n dX7_copy_43 rfl ?_
        refine jj_iconst dX7_copy_44 (kk := ?_)
        refine zz_cVi (av := [ji (1)]) (st' := []) dX7_copy_45 kn_X7_62 kmX7_found tt0 rfl rfl rfl (Nat.le_of_ble_eq_true rfl) (by decide) rfl (c_X7_found g s 1 (by omega)) (fun hr45 ho45 => ?_)
        refine zz_retie dX7_copy_48 rfl (by decide) ?_ ?_
        · unfold v_X7_copy; (repeat (first | rw [if_pos (by omega)] | rw [if_neg (by omega)])) <;> first | rfl | done
        · unfold f_X7_copy; (repeat (first | rw [if_pos (by omega)] | rw [if_neg (by omega)])) <;> first | rfl | done
      · refine jj_aload dX7_copy_35 rfl ?_
        refine zz_getI dX7_copy_37 kf_X7_74 (jz_t_rows (by omega)) rfl rfl ?_
        refine jj_if_ne (tgt := 49) dX7_copy_40 (by decide) (fun h40 => ?_) (fun h40 => ?_)
        · refine jj_aload dX7_copy_49 rfl ?_
          refine zz_getI dX7_copy_51 kf_X7_86 (jz_t_rows (by omega)) rfl rfl ?_
          refine jj_aload dX7_copy_54 rfl ?_
          refine zz_getI dX7_copy_56 kf_X7_86 (jz_t_rows (by omega)) rfl rfl ?_
          refine jj_icmp_eq (tgt := 68) dX7_copy_59 (by decide) (fun h59 => ?_) (fun h59 => ?_)
          · refine jj_aload dX7_copy_68 rfl ?_
            refine jj_iload_n dX7_copy_70 rfl ?_
            refine jj_iload dX7_copy_71 rfl ?_
            refine zz_cVi (av := [ji (i), ji (n)]) (st' := []) dX7_copy_73 kn_X7_78 kmX4_hasPlaces (jz_t_rows (by omega)) rfl rfl rfl (Nat.le_of_ble_eq_true rfl) (by decide) rfl (c_X4_hasPlaces g s (400 + 2 * r.toNat) (jz_t_rows (by omega)) i n (by first | exact (hRw _ (by omega)).1 | omega)) (fun hr73 ho73 => ?_)
            refine jj_if_eq (tgt := 91) dX7_copy_76 (by decide) (fun h76 => ?_) (fun h76 => ?_)
            · have hg76 := bz_f h76
              refine jj_aload_n dX7_copy_91 rfl ?_
              refine jj_iconst dX7_copy_92 (kk := ?_)
              refine zz_cVi (av := [ji (2)]) (st' := []) dX7_copy_93 kn_X7_62 kmX7_found tt0 rfl rfl rfl (Nat.le_of_ble_eq_true rfl) (by decide) rfl (c_X7_found g s 2 (by omega)) (fun hr93 ho93 => ?_)
              refine zz_retie dX7_copy_96 rfl (by decide) ?_ ?_
              · unfold v_X7_copy; (repeat (first | rw [if_pos (by omega)] | rw [if_neg (by omega)])) <;> first | rfl | done
              · unfold f_X7_copy; (repeat (first | rw [if_pos (by omega)] | rw [if_neg (by omega)])) <;> first | rfl | done
            · have hg76 := bz_t h76
              refine jj_aload dX7_copy_79 rfl ?_
              refine jj_iload dX7_copy_81 rfl ?_
              refine jj_iload dX7_copy_83 rfl ?_
              refine zz_cVi (av := [ji (j), ji (n)]) (st' := []) dX7_copy_85 kn_X7_78 kmX4_hasPlaces (jz_t_rows (by omega)) rfl rfl rfl (Nat.le_of_ble_eq_true rfl) (by decide) rfl (c_X4_hasPlaces g s (400 + 2 * c.toNat) (jz_t_rows (by omega)) j n (by first | exact (hRw _ (by omega)).1 | omega)) (fun hr85 ho85 => ?_)
              refine jj_if_ne (tgt := 97) dX7_copy_88 (by decide) (fun h88 => ?_) (fun h88 => ?_)
              · have hg88 := bz_t h88
                refine jj_aload_n dX7_copy_97 rfl ?_
                refine jj_iconst dX7_copy_98 (kk := ?_)
                refine zz_putI dX7_copy_99 kw_X7_66 tt0 rfl rfl ?_
                refine jj_aload dX7_copy_102 rfl ?_
                refine zz_getR dX7_copy_104 kf_X7_89 (jz_t_rows (by omega)) rfl ?_
                refine jj_iload_n dX7_copy_107 rfl ?_
                refine jj_aload dX7_copy_108 rfl ?_
                refine zz_getR dX7_copy_110 kf_X7_89 (jz_t_rows (by omega)) rfl ?_
                refine jj_iload dX7_copy_113 rfl ?_
                refine jj_iload dX7_copy_115 rfl ?_
                refine zz_copy dX7_copy_117 kn_X7_93 (jz_t_row (jz_t_rows (by omega))) (jz_t_row (jz_t_rows (by omega))) (by have := hRw r.toNat (by omega); have := hRw c.toNat (by omega); omega) (by have := hRw r.toNat (by omega); have := hRw c.toNat (by omega); omega) (by have := hRw r.toNat (by omega); have := hRw c.toNat (by omega); omega) (by have := hRw r.toNat (by omega); have := hRw c.toNat (by omega); omega) (by have := hRw r.toNat (by omega); have := hRw c.toNat (by omega); omega) (Nat.le_of_ble_eq_true rfl) (by decide) ?_
                refine jj_iload dX7_copy_120 rfl ?_
                refine zz_retie dX7_copy_122 rfl (by decide) ?_ ?_
                · unfold v_X7_copy; (repeat (first | rw [if_pos (by omega)] | rw [if_neg (by omega)])) <;> first | rfl | done
                · unfold f_X7_copy; (repeat (first | rw [if_pos (by omega)] | rw [if_neg (by omega)])) <;> first | rfl | done
              · have hg88 := bz_f h88
                refine jj_aload_n dX7_copy_91 rfl ?_
                refine jj_iconst dX7_copy_92 (kk := ?_)
                refine zz_cVi (av := [ji (2)]) (st' := []) dX7_copy_93 kn_X7_62 kmX7_found tt0 rfl rfl rfl (Nat.le_of_ble_eq_true rfl) (by decide) rfl (c_X7_found g s 2 (by omega)) (fun hr93 ho93 => ?_)
                refine zz_retie dX7_copy_96 rfl (by decide) ?_ ?_
                · unfold v_X7_copy; (repeat (first | rw [if_pos (by omega)] | rw [if_neg (by omega)])) <;> first | rfl | done
                · unfold f_X7_copy; (repeat (first | rw [if_pos (by omega)] | rw [if_neg (by omega)])) <;> first | rfl | done
          · refine jj_aload_n dX7_copy_62 rfl ?_
            refine jj_iconst dX7_copy_63 (kk := ?_)
            refine zz_cVi (av := [ji (5)]) (st' := []) dX7_copy_64 kn_X7_62 kmX7_found tt0 rfl rfl rfl (Nat.le_of_ble_eq_true rfl) (by decide) rfl (c_X7_found g s 5 (by omega)) (fun hr64 ho64 => ?_)
            refine zz_retie dX7_copy_67 rfl (by decide) ?_ ?_
            · unfold v_X7_copy; (repeat (first | rw [if_pos (by omega)] | rw [if_neg (by omega)])) <;> first | rfl | done
            · unfold f_X7_copy; (repeat (first | rw [if_pos (by omega)] | rw [if_neg (by omega)])) <;> first | rfl | done
        · refine jj_aload_n dX7_copy_43 rfl ?_
          refine jj_iconst dX7_copy_44 (kk := ?_)
          refine zz_cVi (av := [ji (1)]) (st' := []) dX7_copy_45 kn_X7_62 kmX7_found tt0 rfl rfl rfl (Nat.le_of_ble_eq_true rfl) (by decide) rfl (c_X7_found g s 1 (by omega)) (fun hr45 ho45 => ?_)
          refine zz_retie dX7_copy_48 rfl (by decide) ?_ ?_
          · unfold v_X7_copy; (repeat (first | rw [if_pos (by omega)] | rw [if_neg (by omega)])) <;> first | rfl | done
          · unfold f_X7_copy; (repeat (first | rw [if_pos (by omega)] | rw [if_neg (by omega)])) <;> first | rfl | done
    · refine jj_topO (o' := none) (if_neg hc9) ?_
      refine jj_astoreO (ls' := [some (jr (0)), some (ji (r)), some (ji (i)), some (ji (c)), some (ji (j)), some (ji (n)), some (jr (400 + 2 * r.toNat)), some (jn)]) dX7_copy_12 (by decide) rfl rfl ?_
      refine jj_aload dX7_copy_14 rfl ?_
      refine jj_ifnull (o := some (400 + 2 * r.toNat)) (tgt := 24) dX7_copy_16 (by decide) (fun h => by cases h) (fun _ _ => ?_)
      refine jj_aloadO dX7_copy_19 rfl ?_
      refine jj_ifnonnull (o := none) (tgt := 27) dX7_copy_21 (by decide) (fun _ h => by cases h) (fun _ => ?_)
      refine jj_ldc dX7_copy_24 kk_X7_61 (kk := ?_)
      refine zz_retie dX7_copy_26 rfl (by decide) ?_ ?_
      · unfold v_X7_copy; (repeat (first | rw [if_pos (by omega)] | rw [if_neg (by omega)])) <;> first | rfl | done
      · unfold f_X7_copy; (repeat (first | rw [if_pos (by omega)] | rw [if_neg (by omega)])) <;> first | rfl | done
  · refine jj_topO (o' := none) (if_neg hc2) ?_
    refine jj_astoreO (ls' := [some (jr (0)), some (ji (r)), some (ji (i)), some (ji (c)), some (ji (j)), some (ji (n)), some (jn), none]) dX7_copy_5 (by decide) rfl rfl ?_
    refine jj_aload_n dX7_copy_7 rfl ?_
    refine jj_iload_n dX7_copy_8 rfl ?_
    refine zz_cVr (av := [ji (c)]) (st' := []) dX7_copy_9 kn_X7_53 kmX7_rowAt tt0 rfl rfl rfl (Nat.le_of_ble_eq_true rfl) (by decide) rfl (c_X7_rowAt g s c) (fun ho9 => ?_)
    by_cases hc9 : 0 ≤ c ∧ c < 8
    · refine jj_topO (o' := some (400 + 2 * c.toNat)) (if_pos hc9) ?_
      refine jj_astore (ls' := [some (jr (0)), some (ji (r)), some (ji (i)), some (ji (c)), some (ji (j)), some (ji (n)), some (jn), some (jr (400 + 2 * c.toNat))]) dX7_copy_12 (by decide) rfl rfl ?_
      refine jj_aloadO dX7_copy_14 rfl ?_
      refine jj_ifnull (o := none) (tgt := 24) dX7_copy_16 (by decide) (fun _ => ?_) (fun _ h => by cases h)
      refine jj_ldc dX7_copy_24 kk_X7_61 (kk := ?_)
      refine zz_retie dX7_copy_26 rfl (by decide) ?_ ?_
      · unfold v_X7_copy; (repeat (first | rw [if_pos (by omega)] | rw [if_neg (by omega)])) <;> first | rfl | done
      · unfold f_X7_copy; (repeat (first | rw [if_pos (by omega)] | rw [if_neg (by omega)])) <;> first | rfl | done
    · refine jj_topO (o' := none) (if_neg hc9) ?_
      refine jj_astoreO (ls' := [some (jr (0)), some (ji (r)), some (ji (i)), some (ji (c)), some (ji (j)), some (ji (n)), some (jn), some (jn)]) dX7_copy_12 (by decide) rfl rfl ?_
      refine jj_aloadO dX7_copy_14 rfl ?_
      refine jj_ifnull (o := none) (tgt := 24) dX7_copy_16 (by decide) (fun _ => ?_) (fun _ h => by cases h)
      refine jj_ldc dX7_copy_24 kk_X7_61 (kk := ?_)
      refine zz_retie dX7_copy_26 rfl (by decide) ?_ ?_
      · unfold v_X7_copy; (repeat (first | rw [if_pos (by omega)] | rw [if_neg (by omega)])) <;> first | rfl | done
      · unfold f_X7_copy; (repeat (first | rw [if_pos (by omega)] | rw [if_neg (by omega)])) <;> first | rfl | done

def v_X7_drop (s : jz_St) (r : Int) : Int := if 0 ≤ r ∧ r < 8 then (if s (400 + 2 * r.toNat) 1 = 0 then -1000011 else s (400 + 2 * r.toNat) 3) else -1000001
def f_X7_drop (s : jz_St) (r : Int) : jz_St := if 0 ≤ r ∧ r < 8 then (if s (400 + 2 * r.toNat) 1 = 0 then jz_su s 0 8 1 else jz_su (jz_su s 0 8 0) (400 + 2 * r.toNat) 1 0) else s
set_option maxRecDepth 100000 in
set_option maxHeartbeats 4000000 in
theorem c_X7_drop (g : jz_G) (s : jz_St) (r : Int) (hI : jInv s)  : jz_C g mX7_drop [jr (0), ji (r)] s (jq_ie (v_X7_drop s r) (f_X7_drop s r)) := by
  refine zz_C_of koX7_drop rfl (Nat.le_of_ble_eq_true rfl) ?_
  refine zz_pad 1 ?_
  show jz_Z g mX7_drop (jq_ie (v_X7_drop s r) (f_X7_drop s r)) 0 [some (jr (0)), some (ji (r)), none] [] s
  obtain ⟨hN, hH, hP1, hP2, hT, hRw⟩ := hI
  refine jj_aload_n dX7_drop_0 rfl ?_
  refine jj_iload_n dX7_drop_1 rfl ?_
  refine zz_cVr (av := [ji (r)]) (st' := []) dX7_drop_2 kn_X7_53 kmX7_rowAt tt0 rfl rfl rfl (Nat.le_of_ble_eq_true rfl) (by decide) rfl (c_X7_rowAt g s r) (fun ho2 => ?_)
  by_cases hc2 : 0 ≤ r ∧ r < 8
  · refine jj_topO (o' := some (400 + 2 * r.toNat)) (if_pos hc2) ?_
    refine jj_astore_n (ls' := [some (jr (0)), some (ji (r)), some (jr (400 + 2 * r.toNat))]) dX7_drop_5 (by decide) rfl rfl ?_
    refine jj_aload_n dX7_drop_6 rfl ?_
    refine jj_ifnonnull (o := some (400 + 2 * r.toNat)) (tgt := 13) dX7_drop_7 (by decide) (fun _ _ => ?_) (fun h => by cases h)
    refine jj_aload_n dX7_drop_13 rfl ?_
    refine zz_getI dX7_drop_14 kf_X7_74 (jz_t_rows (by omega)) rfl rfl ?_
    refine jj_if_ne (tgt := 26) dX7_drop_17 (by decide) (fun h17 => ?_) (fun h17 => ?_)
    · refine jj_aload_n dX7_drop_26 rfl ?_
      refine jj_iconst dX7_drop_27 (kk := ?_)
      refine zz_putI dX7_drop_28 kw_X7_66 tt0 rfl rfl ?_
      refine jj_aload_n dX7_drop_31 rfl ?_
      refine jj_iconst dX7_drop_32 (kk := ?_)
      refine zz_putZ dX7_drop_33 kw_X7_74 (jz_t_rows (by omega)) rfl rfl (by first | exact Or.inl rfl | exact Or.inr rfl) ?_
      refine jj_aload_n dX7_drop_36 rfl ?_
      refine zz_getI dX7_drop_37 kf_X7_99 (jz_t_rows (by omega)) rfl rfl ?_
      refine zz_top (b := s (400 + 2 * r.toNat) 3) ((jz_su_f (by decide)).trans (jz_su_f (by decide))) ?_
      refine zz_retie dX7_drop_40 rfl (by decide) ?_ ?_
      · unfold v_X7_drop; (repeat (first | rw [if_pos (by omega)] | rw [if_neg (by omega)])) <;> first | rfl | done
      · unfold f_X7_drop; (repeat (first | rw [if_pos (by omega)] | rw [if_neg (by omega)])) <;> first | rfl | done
    · refine jj_aload_n dX7_drop_20 rfl ?_
      refine jj_iconst dX7_drop_21 (kk := ?_)
      refine zz_cVi (av := [ji (1)]) (st' := []) dX7_drop_22 kn_X7_62 kmX7_found tt0 rfl rfl rfl (Nat.le_of_ble_eq_true rfl) (by decide) rfl (c_X7_found g s 1 (by omega)) (fun hr22 ho22 => ?_)
      refine zz_retie dX7_drop_25 rfl (by decide) ?_ ?_
      · unfold v_X7_drop; (repeat (first | rw [if_pos (by omega)] | rw [if_neg (by omega)])) <;> first | rfl | done
      · unfold f_X7_drop; (repeat (first | rw [if_pos (by omega)] | rw [if_neg (by omega)])) <;> first | rfl | done
  · refine jj_topO (o' := none) (if_neg hc2) ?_
    refine jj_astore_nO (ls' := [some (jr (0)), some (ji (r)), some (jn)]) dX7_drop_5 (by decide) rfl rfl ?_
    refine jj_aload_nO dX7_drop_6 rfl ?_
    refine jj_ifnonnull (o := none) (tgt := 13) dX7_drop_7 (by decide) (fun _ h => by cases h) (fun _ => ?_)
    refine jj_ldc dX7_drop_10 kk_X7_61 (kk := ?_)
    refine zz_retie dX7_drop_12 rfl (by decide) ?_ ?_
    · unfold v_X7_drop; (repeat (first | rw [if_pos (by omega)] | rw [if_neg (by omega)])) <;> first | rfl | done
    · unfold f_X7_drop; (repeat (first | rw [if_pos (by omega)] | rw [if_neg (by omega)])) <;> first | rfl | done

def v_X7_feed (s : jz_St) (z : Int) : Int := if 0 ≤ z ∧ z ≤ 255 then (if s 2 1 < 120 then s 2 1 + 1 else -1000003) else -1000001
def f_X7_feed (s : jz_St) (z : Int) : jz_St := if 0 ≤ z ∧ z ≤ 255 then f_X6_add s z else s
set_option maxRecDepth 100000 in
set_option maxHeartbeats 4000000 in
theorem c_X7_feed (g : jz_G) (s : jz_St) (z : Int) (hI : jInv s)  : jz_C g mX7_feed [jr (0), ji (z)] s (jq_ie (v_X7_feed s z) (f_X7_feed s z)) := by
  refine zz_C_of koX7_feed rfl (Nat.le_of_ble_eq_true rfl) ?_
  refine zz_pad 0 ?_
  show jz_Z g mX7_feed (jq_ie (v_X7_feed s z) (f_X7_feed s z)) 0 [some (jr (0)), some (ji (z))] [] s
  obtain ⟨hN, hH, hP1, hP2, hT, hRw⟩ := hI
  have hT2 := hT.2
  refine jj_iload_n dX7_feed_0 rfl ?_
  refine jj_iconst dX7_feed_1 (kk := ?_)
  refine jj_sipush dX7_feed_2 (kk := ?_)
  refine zz_cSi (av := [ji (z), ji (0), ji (255)]) (st' := []) dX7_feed_5 kn_X7_57 kmX7_isWithin rfl rfl (Nat.le_of_ble_eq_true rfl) (by decide) rfl (c_X7_isWithin g s z 0 255) (fun hr5 ho5 => ?_)
  refine jj_if_ne (tgt := 14) dX7_feed_8 (by decide) (fun h8 => ?_) (fun h8 => ?_)
  · have hg8 := bz_t h8
    refine jj_aload_n dX7_feed_14 rfl ?_
    refine zz_getR dX7_feed_15 kf_X7_18 tt0 rfl ?_
    refine jj_iload_n dX7_feed_18 rfl ?_
    refine zz_cVi (av := [ji (z)]) (st' := []) dX7_feed_19 kn_X7_102 kmX6_add tt2 rfl rfl rfl (Nat.le_of_ble_eq_true rfl) (by decide) rfl (c_X6_add g s z) (fun hr19 ho19 => ?_)
    refine jj_if_eq (tgt := 35) dX7_feed_22 (by decide) (fun h22 => ?_) (fun h22 => ?_)
    · have hg22 := bz_f h22
      refine jj_ldc dX7_feed_35 kk_X7_107 (kk := ?_)
      refine zz_retie dX7_feed_37 rfl (by decide) ?_ ?_
      · unfold v_X7_feed; (repeat (first | rw [if_pos (by omega)] | rw [if_neg (by omega)])) <;> first | rfl | done
      · unfold f_X7_feed; first | rw [if_pos (by omega)] | rw [if_neg (by omega)]
    · have hg22 := bz_t h22
      refine jj_aload_n dX7_feed_25 rfl ?_
      refine zz_getR dX7_feed_26 kf_X7_18 tt0 rfl ?_
      refine zz_getI dX7_feed_29 kf_X7_106 tt2 rfl rfl ?_
      refine zz_top (b := s 2 1 + 1) (by unfold f_X6_add; rw [if_pos (by omega), jz_su_s]) ?_
      refine jj_goto (tgt := 37) dX7_feed_32 (by decide) ?_
      refine zz_retie dX7_feed_37 rfl (by decide) ?_ ?_
      · unfold v_X7_feed; (repeat (first | rw [if_pos (by omega)] | rw [if_neg (by omega)])) <;> first | rfl | done
      · unfold f_X7_feed; first | rw [if_pos (by omega)] | rw [if_neg (by omega)]
  · have hg8 := bz_f h8
    refine jj_ldc dX7_feed_11 kk_X7_61 (kk := ?_)
    refine zz_retie dX7_feed_13 rfl (by decide) ?_ ?_
    · unfold v_X7_feed; (repeat (first | rw [if_pos (by omega)] | rw [if_neg (by omega)])) <;> first | rfl | done
    · unfold f_X7_feed f_X6_add; (repeat (first | rw [if_pos (by omega)] | rw [if_neg (by omega)])) <;> first | rfl | done

def v_X7_fault (s : jz_St)  : Int := s 0 9
set_option maxRecDepth 100000 in
set_option maxHeartbeats 4000000 in
theorem c_X7_fault (g : jz_G) (s : jz_St)   : jz_C g mX7_fault [jr (0)] s (jq_ie (v_X7_fault s ) s) := by
  refine zz_C_of koX7_fault rfl (Nat.le_of_ble_eq_true rfl) ?_
  refine zz_pad 0 ?_
  show jz_Z g mX7_fault (jq_ie (v_X7_fault s ) s) 0 [some (jr (0))] [] s
  refine jj_aload_n dX7_fault_0 rfl ?_
  refine zz_getI dX7_fault_1 kf_X7_115 tt0 rfl rfl ?_
  refine zz_retie dX7_fault_4 rfl (by decide) ?_ ?_
  · rfl
  · rfl

def v_X7_status (s : jz_St)  : Int := s 0 8
set_option maxRecDepth 100000 in
set_option maxHeartbeats 4000000 in
theorem c_X7_status (g : jz_G) (s : jz_St)   : jz_C g mX7_status [jr (0)] s (jq_ie (v_X7_status s ) s) := by
  refine zz_C_of koX7_status rfl (Nat.le_of_ble_eq_true rfl) ?_
  refine zz_pad 0 ?_
  show jz_Z g mX7_status (jq_ie (v_X7_status s ) s) 0 [some (jr (0))] [] s
  refine jj_aload_n dX7_status_0 rfl ?_
  refine zz_getI dX7_status_1 kf_X7_66 tt0 rfl rfl ?_
  refine zz_retie dX7_status_4 rfl (by decide) ?_ ?_
  · rfl
  · rfl

def v_X7_trace (s : jz_St) (i : Int) : Int := if 0 ≤ i ∧ i < s 342 1 ∧ i < 16 then s 343 i.toNat else -1000000
set_option maxRecDepth 100000 in
set_option maxHeartbeats 4000000 in
theorem c_X7_trace (g : jz_G) (s : jz_St) (i : Int)  : jz_C g mX7_trace [jr (0), ji (i)] s (jq_ie (v_X7_trace s i) s) := by
  refine zz_C_of koX7_trace rfl (Nat.le_of_ble_eq_true rfl) ?_
  refine zz_pad 0 ?_
  show jz_Z g mX7_trace (jq_ie (v_X7_trace s i) s) 0 [some (jr (0)), some (ji (i))] [] s
  refine jj_aload_n dX7_trace_0 rfl ?_
  refine zz_getR dX7_trace_1 kf_X7_32 tt0 rfl ?_
  refine jj_iload_n dX7_trace_4 rfl ?_
  refine zz_cVi (av := [ji (i)]) (st' := []) dX7_trace_5 kn_X7_310 kmX2_at tt342 rfl rfl rfl (Nat.le_of_ble_eq_true rfl) (by decide) rfl (c_X2_at g s i) (fun hr5 ho5 => ?_)
  refine zz_retie dX7_trace_8 rfl (by decide) ?_ ?_
  · rfl
  · rfl

def v_X7_undo (s : jz_St)  : Int := if s 4 2 ≤ 0 then -1000002 else s 4 2 - 1
def f_X7_undo (s : jz_St)  : jz_St := f_X3_back s 344
set_option maxRecDepth 100000 in
set_option maxHeartbeats 4000000 in
theorem c_X7_undo (g : jz_G) (s : jz_St)  (hI : jInv s)  : jz_C g mX7_undo [jr (0)] s (jq_ie (v_X7_undo s ) (f_X7_undo s )) := by
  refine zz_C_of koX7_undo rfl (Nat.le_of_ble_eq_true rfl) ?_
  refine zz_pad 0 ?_
  show jz_Z g mX7_undo (jq_ie (v_X7_undo s ) (f_X7_undo s )) 0 [some (jr (0))] [] s
  obtain ⟨hN, hH, hP1, hP2, hT, hRw⟩ := hI
  refine jj_aload_n dX7_undo_0 rfl ?_
  refine zz_getR dX7_undo_1 kf_X7_25 tt0 rfl ?_
  refine jj_aload_n dX7_undo_4 rfl ?_
  refine zz_getR dX7_undo_5 kf_X7_39 tt0 rfl ?_
  refine zz_cVi (av := [jr (344)]) (st' := []) dX7_undo_8 kn_X7_132 kmX3_bringBack tt4 rfl rfl rfl (Nat.le_of_ble_eq_true rfl) (by decide) rfl (c_X3_bringBack g s 344 tt344 hP1 hP2) (fun hr8 ho8 => ?_)
  refine jj_if_eq (tgt := 24) dX7_undo_11 (by decide) (fun h11 => ?_) (fun h11 => ?_)
  · have hg11 := by_f h11
    refine jj_ldc dX7_undo_24 kk_X7_138 (kk := ?_)
    refine zz_retie dX7_undo_26 rfl (by decide) ?_ ?_
    · unfold v_X7_undo; (repeat (first | rw [if_pos (by omega)] | rw [if_neg (by omega)])) <;> first | rfl | done
    · rfl
  · have hg11 := by_t h11
    refine jj_aload_n dX7_undo_14 rfl ?_
    refine zz_getR dX7_undo_15 kf_X7_25 tt0 rfl ?_
    refine zz_getI dX7_undo_18 kf_X7_135 tt4 rfl rfl ?_
    refine zz_top (b := s 4 2 - 1) (by unfold f_X3_back; rw [if_neg hg11, jz_su_s]) ?_
    refine jj_goto (tgt := 26) dX7_undo_21 (by decide) ?_
    refine zz_retie dX7_undo_26 rfl (by decide) ?_ ?_
    · unfold v_X7_undo; (repeat (first | rw [if_pos (by omega)] | rw [if_neg (by omega)])) <;> first | rfl | done
    · rfl

theorem rI_len (s : jz_St) (k : Nat) : True := trivial
def f_X7_square (s : jz_St) : jz_St := if f_X6_readInto s 358 2 6 = 0 then jz_su (f_X5_take (jz_su (f_X6_readInto s 358) 2 1 0) 344 358) 4 2 0 else jz_su (jz_su (f_X6_readInto s 358) 2 1 0) 0 9 (f_X6_readInto s 358 2 6)
def v_X7_square (s : jz_St) : Int := if f_X6_readInto s 358 2 6 = 0 then f_X6_readInto s 358 358 2 else -1000100 - f_X6_readInto s 358 2 2
set_option maxRecDepth 100000 in
set_option maxHeartbeats 4000000 in
theorem c_X7_square (g : jz_G) (s : jz_St) (hT : jTk s) (hp : 0 ≤ f_X6_readInto s 358 2 2 ∧ f_X6_readInto s 358 2 2 ≤ 1000) : jz_C g mX7_square [jr (0)] s (jq_ie (v_X7_square s) (f_X7_square s)) := by
  refine zz_C_of koX7_square rfl (Nat.le_of_ble_eq_true rfl) ?_
  refine zz_pad 1 ?_
  show jz_Z g mX7_square (jq_ie (v_X7_square s) (f_X7_square s)) 0 [some (jr (0)), none] [] s
  refine jj_aload_n dX7_square_0 rfl ?_
  refine zz_getR dX7_square_1 kf_X7_18 tt0 rfl ?_
  refine jj_aload_n dX7_square_4 rfl ?_
  refine zz_getR dX7_square_5 kf_X7_43 tt0 rfl ?_
  refine zz_cVi (av := [jr (358)]) (st' := []) dX7_square_8 kn_X7_108 kmX6_readInto tt2 rfl rfl rfl (Nat.le_of_ble_eq_true rfl) (by decide) rfl (c_X6_readInto g s 358 tt358 hT) (fun hr8 ho8 => ?_)
  refine jj_istore_n (ls' := [some (jr (0)), some (ji (if (f_X6_readInto s 358) 2 6 = 0 then 1 else 0))]) dX7_square_11 (by decide) rfl rfl ?_
  refine jj_aload_n dX7_square_12 rfl ?_
  refine zz_getR dX7_square_13 kf_X7_18 tt0 rfl ?_
  refine jj_iconst dX7_square_16 (kk := ?_)
  refine zz_putI dX7_square_17 kw_X7_106 tt2 rfl rfl ?_
  refine jj_iload_n dX7_square_20 rfl ?_
  refine jj_if_ne (tgt := 46) dX7_square_21 (by decide) (fun h21 => ?_) (fun h21 => ?_)
  · have hg21 := bz_t h21
    refine jj_aload_n dX7_square_46 rfl ?_
    refine zz_getR dX7_square_47 kf_X7_39 tt0 rfl ?_
    refine jj_aload_n dX7_square_50 rfl ?_
    refine zz_getR dX7_square_51 kf_X7_43 tt0 rfl ?_
    refine zz_cVv (av := [jr (358)]) (st' := []) dX7_square_54 kn_X7_122 kmX5_take tt344 rfl rfl rfl (Nat.le_of_ble_eq_true rfl) (by decide) rfl (c_X5_take g (jz_su (f_X6_readInto s 358) 2 1 (0)) 344 358 tt344 tt358) (fun ho54 => ?_)
    refine jj_aload_n dX7_square_57 rfl ?_
    refine zz_getR dX7_square_58 kf_X7_25 tt0 rfl ?_
    refine zz_cVv (av := []) (st' := []) dX7_square_61 kn_X7_126 kmX3_forget tt4 rfl rfl rfl (Nat.le_of_ble_eq_true rfl) (by decide) rfl (c_X3_forget g (f_X5_take (jz_su (f_X6_readInto s 358) 2 1 (0)) 344 358)) (fun ho61 => ?_)
    refine jj_aload_n dX7_square_64 rfl ?_
    refine zz_getR dX7_square_65 kf_X7_39 tt0 rfl ?_
    refine zz_getI dX7_square_68 kf_X7_129 tt344 rfl rfl ?_
    refine zz_top (b := f_X6_readInto s 358 358 2) (by rw [jz_su_n (Or.inl (by decide)), take_k _ (by decide) (by decide) (by decide), jz_su_o (by decide)]) ?_
    refine zz_retie dX7_square_71 rfl (by decide) ?_ ?_
    · unfold v_X7_square; first | (rw [if_pos hg21]; done) | (rw [if_neg hg21]; done)
    · unfold f_X7_square; first | (rw [if_pos hg21]; done) | (rw [if_neg hg21]; done)
  · have hg21 := bz_f h21
    refine jj_aload_n dX7_square_24 rfl ?_
    refine jj_aload_n dX7_square_25 rfl ?_
    refine zz_getR dX7_square_26 kf_X7_18 tt0 rfl ?_
    refine zz_getI dX7_square_29 kf_X7_112 tt2 rfl rfl ?_
    refine zz_top (b := (f_X6_readInto s 358) 2 6) (jz_su_f (by decide)) ?_
    refine zz_putI dX7_square_32 kw_X7_115 tt0 rfl rfl ?_
    refine jj_ldc dX7_square_35 kk_X7_118 (kk := ?_)
    refine jj_aload_n dX7_square_37 rfl ?_
    refine zz_getR dX7_square_38 kf_X7_18 tt0 rfl ?_
    refine zz_getI dX7_square_41 kf_X7_119 tt2 rfl rfl ?_
    refine zz_top (b := (f_X6_readInto s 358) 2 2) ((jz_su_f (by decide)).trans (jz_su_f (by decide))) ?_
    refine jj_isub dX7_square_44 (by omega) ?_
    refine zz_retie dX7_square_45 rfl (by decide) ?_ ?_
    · unfold v_X7_square; first | (rw [if_pos hg21]; done) | (rw [if_neg hg21]; done)
    · unfold f_X7_square; first | (rw [if_pos hg21]; done) | (rw [if_neg hg21]; done)

def v_X7_hours (s : jz_St) (n : Int) : Int := if s 344 2 ≤ 0 then -1000002 else if 1 ≤ n ∧ n ≤ 24 then (if 999 < s 344 6 + n then -1000003 else v_hrs s n.toNat) else -1000001
def f_X7_hours (s : jz_St) (n : Int) : jz_St := if s 344 2 ≤ 0 then s else if 1 ≤ n ∧ n ≤ 24 then (if 999 < s 344 6 + n then s else f_hrs s n.toNat) else s
set_option maxRecDepth 100000 in
set_option maxHeartbeats 4000000 in
theorem c_X7_hours (g : jz_G) (s : jz_St) (n : Int) (hI : jInv s)  : jz_C g mX7_hours [jr (0), ji (n)] s (jq_ie (v_X7_hours s n) (f_X7_hours s n)) := by
  refine zz_C_of koX7_hours rfl (Nat.le_of_ble_eq_true rfl) ?_
  refine zz_pad 2 ?_
  show jz_Z g mX7_hours (jq_ie (v_X7_hours s n) (f_X7_hours s n)) 0 [some (jr (0)), some (ji (n)), none, none] [] s
  obtain ⟨hN, hH, hP1, hP2, hT, hRw⟩ := hI
  refine jj_aload_n dX7_hours_0 rfl ?_
  refine zz_getR dX7_hours_1 kf_X7_39 tt0 rfl ?_
  refine zz_cVi (av := []) (st' := []) dX7_hours_4 kn_X7_139 kmX5_isThere tt344 rfl rfl rfl (Nat.le_of_ble_eq_true rfl) (by decide) rfl (c_X5_isThere g s 344 tt344) (fun hr4 ho4 => ?_)
  refine jj_if_ne (tgt := 13) dX7_hours_7 (by decide) (fun h7 => ?_) (fun h7 => ?_)
  · have hg7 := by_t h7
    refine jj_iload_n dX7_hours_13 rfl ?_
    refine jj_iconst dX7_hours_14 (kk := ?_)
    refine jj_bipush dX7_hours_15 (kk := ?_)
    refine zz_cSi (av := [ji (n), ji (1), ji (24)]) (st' := []) dX7_hours_17 kn_X7_57 kmX7_isWithin rfl rfl (Nat.le_of_ble_eq_true rfl) (by decide) rfl (c_X7_isWithin g s n 1 24) (fun hr17 ho17 => ?_)
    refine jj_if_ne (tgt := 26) dX7_hours_20 (by decide) (fun h20 => ?_) (fun h20 => ?_)
    · have hg20 := bz_t h20
      refine jj_aload_n dX7_hours_26 rfl ?_
      refine zz_getR dX7_hours_27 kf_X7_39 tt0 rfl ?_
      refine zz_getI dX7_hours_30 kf_X7_143 tt344 rfl rfl ?_
      refine jj_iload_n dX7_hours_33 rfl ?_
      refine jj_iadd dX7_hours_34 (by have := hN.2.2.2.2.1; omega) ?_
      refine jj_sipush dX7_hours_35 (kk := ?_)
      refine jj_icmp_le (tgt := 44) dX7_hours_38 (by decide) (fun h38 => ?_) (fun h38 => ?_)
      · refine jj_iconst dX7_hours_44 (kk := ?_)
        refine jj_istore_n (ls' := [some (jr (0)), some (ji (n)), some (ji (0)), none]) dX7_hours_45 (by decide) rfl rfl ?_
        refine jj_iconst dX7_hours_46 (kk := ?_)
        refine jj_istore_n (ls' := [some (jr (0)), some (ji (n)), some (ji (0)), some (ji (0))]) dX7_hours_47 (by decide) rfl rfl ?_
        have L48 : ∀ (nn : Nat) (j : Nat) (acc : Int) (s' : jz_St) (hh48_0 : (j : Int) ≤ n) (hh48_1 : acc = v_hrs s j) (hh48_2 : s' = f_hrs s j), n.toNat - j < nn → jz_Z g mX7_hours (jq_ie (v_X7_hours s n) (f_X7_hours s n)) 48 [some (jr (0)), some (ji (n)), some (ji (acc)), some (ji ((j : Int)))] [] s' := by
          intro nn
          induction nn with
          | zero => intro j acc s' hh48_0 hh48_1 hh48_2 hmz; exact absurd hmz (Nat.not_lt_zero _)
          | succ nn ih48 =>
            intro j acc s' hh48_0 hh48_1 hh48_2 hm48
            have hS' : jNow s' := by rw [hh48_2]; exact hrs_now ⟨hN, hP1, hP2⟩ j
            have h6' : s' 344 6 = s 344 6 + j := by rw [hh48_2]; exact hrs_6 ⟨hN, hP1, hP2⟩ j
            have hv' : 0 ≤ acc ∧ acc ≤ 8 * j := by rw [hh48_1]; exact hrs_v ⟨hN, hP1, hP2⟩ j
            have hk' : f_X3_keep s' 344 344 6 = s' 344 6 := by rw [keep_o hS'.2.1 (by decide) (by decide)]
            refine jj_iload_n dX7_hours_48 rfl ?_
            refine jj_iload_n dX7_hours_49 rfl ?_
            refine jj_icmp_ge (tgt := 80) dX7_hours_50 (by decide) (fun h50 => ?_) (fun h50 => ?_)
            · refine jj_iload_n dX7_hours_80 rfl ?_
              refine zz_retie dX7_hours_81 rfl (by decide) ?_ ?_
              · unfold v_X7_hours; (repeat (first | rw [if_pos (by omega)] | rw [if_neg (by omega)])); rw [hh48_1, show n.toNat = j by omega]
              · unfold f_X7_hours; (repeat (first | rw [if_pos (by omega)] | rw [if_neg (by omega)])); rw [hh48_2, show n.toNat = j by omega]
            · refine jj_aload_n dX7_hours_53 rfl ?_
              refine zz_getR dX7_hours_54 kf_X7_25 tt0 rfl ?_
              refine jj_aload_n dX7_hours_57 rfl ?_
              refine zz_getR dX7_hours_58 kf_X7_39 tt0 rfl ?_
              refine zz_cVv (av := [jr (344)]) (st' := []) dX7_hours_61 kn_X7_146 kmX3_keep tt4 rfl rfl rfl (Nat.le_of_ble_eq_true rfl) (by decide) rfl (c_X3_keep g s' 344 tt344 hS'.2.1 hS'.2.2) (fun ho61 => ?_)
              refine jj_iload_n dX7_hours_64 rfl ?_
              refine jj_aload_n dX7_hours_65 rfl ?_
              refine zz_getR dX7_hours_66 kf_X7_39 tt0 rfl ?_
              refine zz_cVi (av := []) (st' := [ji (acc)]) dX7_hours_69 kn_X7_149 kmX5_passHour tt344 rfl rfl rfl (Nat.le_of_ble_eq_true rfl) (by decide) rfl (c_X5_passHour g (f_X3_keep s' 344) 344 tt344 (9 * f_X3_keep s' 344 344 6) (by rw [hk', h6']; omega) (jNow_keep hS').1) (fun hr69 ho69 => ?_)
              refine jj_iadd dX7_hours_72 (by have := pv_rng (jNow_keep hS').1; omega) ?_
              refine jj_istore_n (ls' := [some (jr (0)), some (ji (n)), some (ji (acc + (v_X5_passHour (f_X3_keep s' 344) 344))), some (ji ((j : Int)))]) dX7_hours_73 (by decide) rfl rfl ?_
              refine jj_iinc (ls' := [some (jr (0)), some (ji (n)), some (ji (acc + (v_X5_passHour (f_X3_keep s' 344) 344))), some (ji ((j : Int) + 1))]) dX7_hours_74 rfl (by decide) rfl (by omega) rfl ?_
              refine jj_goto (tgt := 48) dX7_hours_77 (by decide) ?_
              exact ih48 (j + 1) (acc + (v_X5_passHour (f_X3_keep s' 344) 344)) (f_X5_passHour (f_X3_keep s' 344) 344) (by omega) (by simp only [v_hrs]; rw [hh48_1, hh48_2]) (by simp only [f_hrs]; rw [hh48_2]) (by omega)
        exact L48 _ 0 0 s (by omega) (by rfl) (by rfl) (Nat.lt_succ_self _)
      · refine jj_ldc dX7_hours_41 kk_X7_107 (kk := ?_)
        refine zz_retie dX7_hours_43 rfl (by decide) ?_ ?_
        · unfold v_X7_hours; (repeat (first | rw [if_pos (by omega)] | rw [if_neg (by omega)])) <;> first | rfl | done
        · unfold f_X7_hours; (repeat (first | rw [if_pos (by omega)] | rw [if_neg (by omega)])) <;> first | rfl | done
    · have hg20 := bz_f h20
      refine jj_ldc dX7_hours_23 kk_X7_61 (kk := ?_)
      refine zz_retie dX7_hours_25 rfl (by decide) ?_ ?_
      · unfold v_X7_hours; (repeat (first | rw [if_pos (by omega)] | rw [if_neg (by omega)])) <;> first | rfl | done
      · unfold f_X7_hours; (repeat (first | rw [if_pos (by omega)] | rw [if_neg (by omega)])) <;> first | rfl | done
  · have hg7 := by_f h7
    refine jj_ldc dX7_hours_10 kk_X7_138 (kk := ?_)
    refine zz_retie dX7_hours_12 rfl (by decide) ?_ ?_
    · unfold v_X7_hours; (repeat (first | rw [if_pos (by omega)] | rw [if_neg (by omega)])) <;> first | rfl | done
    · unfold f_X7_hours; (repeat (first | rw [if_pos (by omega)] | rw [if_neg (by omega)])) <;> first | rfl | done

def v_X7_hang (s : jz_St) (l h : Int) : Int := if (0 ≤ l ∧ l < s 344 2 ∧ l < 7) ∧ 0 ≤ h ∧ h ≤ 9 then (if s (344 + 3 + l.toNat) 5 ≤ 0 then -1000002 else s (344 + 3 + l.toNat) 3) else -1000001
def f_X7_hang (s : jz_St) (l h : Int) : jz_St := if (0 ≤ l ∧ l < s 344 2 ∧ l < 7) ∧ 0 ≤ h ∧ h ≤ 9 then (if s (344 + 3 + l.toNat) 5 ≤ 0 then s else jz_su (f_X3_keep s 344) (344 + 3 + l.toNat) 3 h) else s
set_option maxRecDepth 100000 in
set_option maxHeartbeats 4000000 in
theorem c_X7_hang (g : jz_G) (s : jz_St) (l h : Int) (hI : jInv s)  : jz_C g mX7_hang [jr (0), ji (l), ji (h)] s (jq_ie (v_X7_hang s l h) (f_X7_hang s l h)) := by
  refine zz_C_of koX7_hang rfl (Nat.le_of_ble_eq_true rfl) ?_
  refine zz_pad 2 ?_
  show jz_Z g mX7_hang (jq_ie (v_X7_hang s l h) (f_X7_hang s l h)) 0 [some (jr (0)), some (ji (l)), some (ji (h)), none, none] [] s
  obtain ⟨hN, hH, hP1, hP2, hT, hRw⟩ := hI
  refine jj_aload_n dX7_hang_0 rfl ?_
  refine zz_getR dX7_hang_1 kf_X7_39 tt0 rfl ?_
  refine jj_iload_n dX7_hang_4 rfl ?_
  refine zz_cVr (av := [ji (l)]) (st' := []) dX7_hang_5 kn_X7_153 kmX5_leafAt tt344 rfl rfl rfl (Nat.le_of_ble_eq_true rfl) (by decide) rfl (c_X5_leafAt g s 344 tt344 l) (fun ho5 => ?_)
  by_cases hc5 : 0 ≤ l ∧ l < s 344 2 ∧ l < 7
  · refine jj_topO (o' := some (344 + 3 + l.toNat)) (if_pos hc5) ?_
    refine jj_astore_n (ls' := [some (jr (0)), some (ji (l)), some (ji (h)), some (jr (344 + 3 + l.toNat)), none]) dX7_hang_8 (by decide) rfl rfl ?_
    refine jj_aload_n dX7_hang_9 rfl ?_
    refine jj_ifnull (o := some (344 + 3 + l.toNat)) (tgt := 23) dX7_hang_10 (by decide) (fun h => by cases h) (fun _ _ => ?_)
    refine jj_iload_n dX7_hang_13 rfl ?_
    refine jj_iconst dX7_hang_14 (kk := ?_)
    refine jj_bipush dX7_hang_15 (kk := ?_)
    refine zz_cSi (av := [ji (h), ji (0), ji (9)]) (st' := []) dX7_hang_17 kn_X7_57 kmX7_isWithin rfl rfl (Nat.le_of_ble_eq_true rfl) (by decide) rfl (c_X7_isWithin g s h 0 9) (fun hr17 ho17 => ?_)
    refine jj_if_ne (tgt := 26) dX7_hang_20 (by decide) (fun h20 => ?_) (fun h20 => ?_)
    · have hg20 := bz_t h20
      refine jj_aload_n dX7_hang_26 rfl ?_
      refine zz_cVi (av := []) (st' := []) dX7_hang_27 kn_X7_157 kmX1_isVoid (jz_t_leaf tt344 (by omega)) rfl rfl rfl (Nat.le_of_ble_eq_true rfl) (by decide) rfl (c_X1_isVoid g s (344 + 3 + l.toNat) (jz_t_leaf tt344 (by omega))) (fun hr27 ho27 => ?_)
      refine jj_if_eq (tgt := 36) dX7_hang_30 (by decide) (fun h30 => ?_) (fun h30 => ?_)
      · have hg30 := bz_f h30
        refine jj_aload_n dX7_hang_36 rfl ?_
        refine zz_getR dX7_hang_37 kf_X7_25 tt0 rfl ?_
        refine jj_aload_n dX7_hang_40 rfl ?_
        refine zz_getR dX7_hang_41 kf_X7_39 tt0 rfl ?_
        refine zz_cVv (av := [jr (344)]) (st' := []) dX7_hang_44 kn_X7_146 kmX3_keep tt4 rfl rfl rfl (Nat.le_of_ble_eq_true rfl) (by decide) rfl (c_X3_keep g s 344 tt344 hP1 hP2) (fun ho44 => ?_)
        refine jj_aload_n dX7_hang_47 rfl ?_
        refine zz_getI dX7_hang_48 kf_X7_162 (jz_t_leaf tt344 (by omega)) rfl rfl ?_
        refine zz_top (b := s (344 + 3 + l.toNat) 3) (by rw [keep_o hP1 (by omega) (by omega)]) ?_
        refine jj_istore (ls' := [some (jr (0)), some (ji (l)), some (ji (h)), some (jr (344 + 3 + l.toNat)), some (ji (s (344 + 3 + l.toNat) 3))]) dX7_hang_51 (by decide) rfl rfl ?_
        refine jj_aload_n dX7_hang_53 rfl ?_
        refine jj_iload_n dX7_hang_54 rfl ?_
        refine zz_putI dX7_hang_55 kw_X7_162 (jz_t_leaf tt344 (by omega)) rfl rfl ?_
        refine jj_iload dX7_hang_58 rfl ?_
        refine zz_retie dX7_hang_60 rfl (by decide) ?_ ?_
        · unfold v_X7_hang; (repeat (first | rw [if_pos (by omega)] | rw [if_neg (by omega)])) <;> first | rfl | done
        · unfold f_X7_hang; (repeat (first | rw [if_pos (by omega)] | rw [if_neg (by omega)])) <;> first | rfl | done
      · have hg30 := bz_t h30
        refine jj_ldc dX7_hang_33 kk_X7_138 (kk := ?_)
        refine zz_retie dX7_hang_35 rfl (by decide) ?_ ?_
        · unfold v_X7_hang; (repeat (first | rw [if_pos (by omega)] | rw [if_neg (by omega)])) <;> first | rfl | done
        · unfold f_X7_hang; (repeat (first | rw [if_pos (by omega)] | rw [if_neg (by omega)])) <;> first | rfl | done
    · have hg20 := bz_f h20
      refine jj_ldc dX7_hang_23 kk_X7_61 (kk := ?_)
      refine zz_retie dX7_hang_25 rfl (by decide) ?_ ?_
      · unfold v_X7_hang; (repeat (first | rw [if_pos (by omega)] | rw [if_neg (by omega)])) <;> first | rfl | done
      · unfold f_X7_hang; (repeat (first | rw [if_pos (by omega)] | rw [if_neg (by omega)])) <;> first | rfl | done
  · refine jj_topO (o' := none) (if_neg hc5) ?_
    refine jj_astore_nO (ls' := [some (jr (0)), some (ji (l)), some (ji (h)), some (jn), none]) dX7_hang_8 (by decide) rfl rfl ?_
    refine jj_aload_nO dX7_hang_9 rfl ?_
    refine jj_ifnull (o := none) (tgt := 23) dX7_hang_10 (by decide) (fun _ => ?_) (fun _ h => by cases h)
    refine jj_ldc dX7_hang_23 kk_X7_61 (kk := ?_)
    refine zz_retie dX7_hang_25 rfl (by decide) ?_ ?_
    · unfold v_X7_hang; (repeat (first | rw [if_pos (by omega)] | rw [if_neg (by omega)])) <;> first | rfl | done
    · unfold f_X7_hang; (repeat (first | rw [if_pos (by omega)] | rw [if_neg (by omega)])) <;> first | rfl | done

def v_X7_salt (s : jz_St) (l : Int) : Int := if (0 ≤ l ∧ l < s 344 2 ∧ l < 7) then (if 19 ≤ s (344 + 3 + l.toNat) 4 then -1000003 else s (344 + 3 + l.toNat) 4 + 1) else -1000001
def f_X7_salt (s : jz_St) (l : Int) : jz_St := if (0 ≤ l ∧ l < s 344 2 ∧ l < 7) then (if 19 ≤ s (344 + 3 + l.toNat) 4 then s else jz_su (f_X3_keep s 344) (344 + 3 + l.toNat) 4 (s (344 + 3 + l.toNat) 4 + 1)) else s
set_option maxRecDepth 100000 in
set_option maxHeartbeats 4000000 in
theorem c_X7_salt (g : jz_G) (s : jz_St) (l : Int) (hI : jInv s)  : jz_C g mX7_salt [jr (0), ji (l)] s (jq_ie (v_X7_salt s l) (f_X7_salt s l)) := by
  refine zz_C_of koX7_salt rfl (Nat.le_of_ble_eq_true rfl) ?_
  refine zz_pad 1 ?_
  show jz_Z g mX7_salt (jq_ie (v_X7_salt s l) (f_X7_salt s l)) 0 [some (jr (0)), some (ji (l)), none] [] s
  obtain ⟨hN, hH, hP1, hP2, hT, hRw⟩ := hI
  refine zz_rng fun hs0 _ _ => ?_
  have hRng : ∀ j, j < 7 → jI (s (344 + 3 + j) 4) := fun j hj => hs0 (344 + 3 + j) 4 (by unfold jz_rf; rw [jz_t_leaf tt344 hj]; rfl) (by rw [jz_t_leaf tt344 hj]; rfl)
  refine jj_aload_n dX7_salt_0 rfl ?_
  refine zz_getR dX7_salt_1 kf_X7_39 tt0 rfl ?_
  refine jj_iload_n dX7_salt_4 rfl ?_
  refine zz_cVr (av := [ji (l)]) (st' := []) dX7_salt_5 kn_X7_153 kmX5_leafAt tt344 rfl rfl rfl (Nat.le_of_ble_eq_true rfl) (by decide) rfl (c_X5_leafAt g s 344 tt344 l) (fun ho5 => ?_)
  by_cases hc5 : 0 ≤ l ∧ l < s 344 2 ∧ l < 7
  · refine jj_topO (o' := some (344 + 3 + l.toNat)) (if_pos hc5) ?_
    refine jj_astore_n (ls' := [some (jr (0)), some (ji (l)), some (jr (344 + 3 + l.toNat))]) dX7_salt_8 (by decide) rfl rfl ?_
    refine jj_aload_n dX7_salt_9 rfl ?_
    refine jj_ifnonnull (o := some (344 + 3 + l.toNat)) (tgt := 16) dX7_salt_10 (by decide) (fun _ _ => ?_) (fun h => by cases h)
    refine jj_aload_n dX7_salt_16 rfl ?_
    refine zz_getI dX7_salt_17 kf_X7_165 (jz_t_leaf tt344 (by omega)) rfl rfl ?_
    refine jj_bipush dX7_salt_20 (kk := ?_)
    refine jj_icmp_lt (tgt := 28) dX7_salt_22 (by decide) (fun h22 => ?_) (fun h22 => ?_)
    · refine jj_aload_n dX7_salt_28 rfl ?_
      refine zz_getR dX7_salt_29 kf_X7_25 tt0 rfl ?_
      refine jj_aload_n dX7_salt_32 rfl ?_
      refine zz_getR dX7_salt_33 kf_X7_39 tt0 rfl ?_
      refine zz_cVv (av := [jr (344)]) (st' := []) dX7_salt_36 kn_X7_146 kmX3_keep tt4 rfl rfl rfl (Nat.le_of_ble_eq_true rfl) (by decide) rfl (c_X3_keep g s 344 tt344 hP1 hP2) (fun ho36 => ?_)
      refine jj_aload_n dX7_salt_39 rfl ?_
      refine jj_dup dX7_salt_40 (kk := ?_)
      refine zz_getI dX7_salt_41 kf_X7_165 (jz_t_leaf tt344 (by omega)) rfl rfl ?_
      refine zz_top (b := s (344 + 3 + l.toNat) 4) (by rw [keep_o hP1 (by omega) (by omega)]) ?_
      refine jj_iconst dX7_salt_44 (kk := ?_)
      refine jj_iadd dX7_salt_45 (by have := hRng l.toNat (by omega); omega) ?_
      refine zz_putI dX7_salt_46 kw_X7_165 (jz_t_leaf tt344 (by omega)) rfl rfl ?_
      refine jj_aload_n dX7_salt_49 rfl ?_
      refine zz_getI dX7_salt_50 kf_X7_165 (jz_t_leaf tt344 (by omega)) rfl rfl ?_
      refine zz_top (b := (s (344 + 3 + l.toNat) 4) + 1) (jz_su_s _ _ _ _) ?_
      refine zz_retie dX7_salt_53 rfl (by decide) ?_ ?_
      · unfold v_X7_salt; (repeat (first | rw [if_pos (by omega)] | rw [if_neg (by omega)])) <;> first | rfl | done
      · unfold f_X7_salt; (repeat (first | rw [if_pos (by omega)] | rw [if_neg (by omega)])) <;> first | rfl | done
    · refine jj_ldc dX7_salt_25 kk_X7_107 (kk := ?_)
      refine zz_retie dX7_salt_27 rfl (by decide) ?_ ?_
      · unfold v_X7_salt; (repeat (first | rw [if_pos (by omega)] | rw [if_neg (by omega)])) <;> first | rfl | done
      · unfold f_X7_salt; (repeat (first | rw [if_pos (by omega)] | rw [if_neg (by omega)])) <;> first | rfl | done
  · refine jj_topO (o' := none) (if_neg hc5) ?_
    refine jj_astore_nO (ls' := [some (jr (0)), some (ji (l)), some (jn)]) dX7_salt_8 (by decide) rfl rfl ?_
    refine jj_aload_nO dX7_salt_9 rfl ?_
    refine jj_ifnonnull (o := none) (tgt := 16) dX7_salt_10 (by decide) (fun _ h => by cases h) (fun _ => ?_)
    refine jj_ldc dX7_salt_13 kk_X7_61 (kk := ?_)
    refine zz_retie dX7_salt_15 rfl (by decide) ?_ ?_
    · unfold v_X7_salt; (repeat (first | rw [if_pos (by omega)] | rw [if_neg (by omega)])) <;> first | rfl | done
    · unfold f_X7_salt; (repeat (first | rw [if_pos (by omega)] | rw [if_neg (by omega)])) <;> first | rfl | done

def v_X7_transcribe (s : jz_St) (l : Int) : Int := if (0 ≤ l ∧ l < s 344 2 ∧ l < 7) then s (344 + 3 + l.toNat) 5 else -1000001
def f_X7_transcribe (s : jz_St) (l : Int) : jz_St := if (0 ≤ l ∧ l < s 344 2 ∧ l < 7) then jz_su (f_X3_keep s 344) (344 + 3 + l.toNat) 5 (s (344 + 3 + l.toNat) 2) else s
set_option maxRecDepth 100000 in
set_option maxHeartbeats 4000000 in
theorem c_X7_transcribe (g : jz_G) (s : jz_St) (l : Int) (hI : jInv s)  : jz_C g mX7_transcribe [jr (0), ji (l)] s (jq_ie (v_X7_transcribe s l) (f_X7_transcribe s l)) := by
  refine zz_C_of koX7_transcribe rfl (Nat.le_of_ble_eq_true rfl) ?_
  refine zz_pad 2 ?_
  show jz_Z g mX7_transcribe (jq_ie (v_X7_transcribe s l) (f_X7_transcribe s l)) 0 [some (jr (0)), some (ji (l)), none, none] [] s
  obtain ⟨hN, hH, hP1, hP2, hT, hRw⟩ := hI
  refine jj_aload_n dX7_transcribe_0 rfl ?_
  refine zz_getR dX7_transcribe_1 kf_X7_39 tt0 rfl ?_
  refine jj_iload_n dX7_transcribe_4 rfl ?_
  refine zz_cVr (av := [ji (l)]) (st' := []) dX7_transcribe_5 kn_X7_153 kmX5_leafAt tt344 rfl rfl rfl (Nat.le_of_ble_eq_true rfl) (by decide) rfl (c_X5_leafAt g s 344 tt344 l) (fun ho5 => ?_)
  by_cases hc5 : 0 ≤ l ∧ l < s 344 2 ∧ l < 7
  · refine jj_topO (o' := some (344 + 3 + l.toNat)) (if_pos hc5) ?_
    refine jj_astore_n (ls' := [some (jr (0)), some (ji (l)), some (jr (344 + 3 + l.toNat)), none]) dX7_transcribe_8 (by decide) rfl rfl ?_
    refine jj_aload_n dX7_transcribe_9 rfl ?_
    refine jj_ifnonnull (o := some (344 + 3 + l.toNat)) (tgt := 16) dX7_transcribe_10 (by decide) (fun _ _ => ?_) (fun h => by cases h)
    refine jj_aload_n dX7_transcribe_16 rfl ?_
    refine zz_getR dX7_transcribe_17 kf_X7_25 tt0 rfl ?_
    refine jj_aload_n dX7_transcribe_20 rfl ?_
    refine zz_getR dX7_transcribe_21 kf_X7_39 tt0 rfl ?_
    refine zz_cVv (av := [jr (344)]) (st' := []) dX7_transcribe_24 kn_X7_146 kmX3_keep tt4 rfl rfl rfl (Nat.le_of_ble_eq_true rfl) (by decide) rfl (c_X3_keep g s 344 tt344 hP1 hP2) (fun ho24 => ?_)
    refine jj_aload_n dX7_transcribe_27 rfl ?_
    refine zz_getI dX7_transcribe_28 kf_X7_168 (jz_t_leaf tt344 (by omega)) rfl rfl ?_
    refine zz_top (b := s (344 + 3 + l.toNat) 5) (by rw [keep_o hP1 (by omega) (by omega)]) ?_
    refine jj_istore_n (ls' := [some (jr (0)), some (ji (l)), some (jr (344 + 3 + l.toNat)), some (ji (s (344 + 3 + l.toNat) 5))]) dX7_transcribe_31 (by decide) rfl rfl ?_
    refine jj_aload_n dX7_transcribe_32 rfl ?_
    refine jj_aload_n dX7_transcribe_33 rfl ?_
    refine zz_getI dX7_transcribe_34 kf_X7_171 (jz_t_leaf tt344 (by omega)) rfl rfl ?_
    refine zz_top (b := s (344 + 3 + l.toNat) 2) (by rw [keep_o hP1 (by omega) (by omega)]) ?_
    refine zz_putI dX7_transcribe_37 kw_X7_168 (jz_t_leaf tt344 (by omega)) rfl rfl ?_
    refine jj_iload_n dX7_transcribe_40 rfl ?_
    refine zz_retie dX7_transcribe_41 rfl (by decide) ?_ ?_
    · unfold v_X7_transcribe; (repeat (first | rw [if_pos (by omega)] | rw [if_neg (by omega)])) <;> first | rfl | done
    · unfold f_X7_transcribe; (repeat (first | rw [if_pos (by omega)] | rw [if_neg (by omega)])) <;> first | rfl | done
  · refine jj_topO (o' := none) (if_neg hc5) ?_
    refine jj_astore_nO (ls' := [some (jr (0)), some (ji (l)), some (jn), none]) dX7_transcribe_8 (by decide) rfl rfl ?_
    refine jj_aload_nO dX7_transcribe_9 rfl ?_
    refine jj_ifnonnull (o := none) (tgt := 16) dX7_transcribe_10 (by decide) (fun _ h => by cases h) (fun _ => ?_)
    refine jj_ldc dX7_transcribe_13 kk_X7_61 (kk := ?_)
    refine zz_retie dX7_transcribe_15 rfl (by decide) ?_ ?_
    · unfold v_X7_transcribe; (repeat (first | rw [if_pos (by omega)] | rw [if_neg (by omega)])) <;> first | rfl | done
    · unfold f_X7_transcribe; (repeat (first | rw [if_pos (by omega)] | rw [if_neg (by omega)])) <;> first | rfl | done

def v_X7_drive (s : jz_St) (c n : Int) : Int := if (0 ≤ c ∧ c < s 344 3 ∧ c < 4) ∧ 0 ≤ n ∧ n ≤ 60 then s (344 + 10 + c.toNat) 3 else -1000001
def f_X7_drive (s : jz_St) (c n : Int) : jz_St := if (0 ≤ c ∧ c < s 344 3 ∧ c < 4) ∧ 0 ≤ n ∧ n ≤ 60 then jz_su (f_X3_keep s 344) (344 + 10 + c.toNat) 3 n else s
set_option maxRecDepth 100000 in
set_option maxHeartbeats 4000000 in
theorem c_X7_drive (g : jz_G) (s : jz_St) (c n : Int) (hI : jInv s)  : jz_C g mX7_drive [jr (0), ji (c), ji (n)] s (jq_ie (v_X7_drive s c n) (f_X7_drive s c n)) := by
  refine zz_C_of koX7_drive rfl (Nat.le_of_ble_eq_true rfl) ?_
  refine zz_pad 2 ?_
  show jz_Z g mX7_drive (jq_ie (v_X7_drive s c n) (f_X7_drive s c n)) 0 [some (jr (0)), some (ji (c)), some (ji (n)), none, none] [] s
  obtain ⟨hN, hH, hP1, hP2, hT, hRw⟩ := hI
  refine jj_aload_n dX7_drive_0 rfl ?_
  refine zz_getR dX7_drive_1 kf_X7_39 tt0 rfl ?_
  refine jj_iload_n dX7_drive_4 rfl ?_
  refine zz_cVr (av := [ji (c)]) (st' := []) dX7_drive_5 kn_X7_174 kmX5_goatAt tt344 rfl rfl rfl (Nat.le_of_ble_eq_true rfl) (by decide) rfl (c_X5_goatAt g s 344 tt344 c) (fun ho5 => ?_)
  by_cases hc5 : 0 ≤ c ∧ c < s 344 3 ∧ c < 4
  · refine jj_topO (o' := some (344 + 10 + c.toNat)) (if_pos hc5) ?_
    refine jj_astore_n (ls' := [some (jr (0)), some (ji (c)), some (ji (n)), some (jr (344 + 10 + c.toNat)), none]) dX7_drive_8 (by decide) rfl rfl ?_
    refine jj_aload_n dX7_drive_9 rfl ?_
    refine jj_ifnull (o := some (344 + 10 + c.toNat)) (tgt := 23) dX7_drive_10 (by decide) (fun h => by cases h) (fun _ _ => ?_)
    refine jj_iload_n dX7_drive_13 rfl ?_
    refine jj_iconst dX7_drive_14 (kk := ?_)
    refine jj_bipush dX7_drive_15 (kk := ?_)
    refine zz_cSi (av := [ji (n), ji (0), ji (60)]) (st' := []) dX7_drive_17 kn_X7_57 kmX7_isWithin rfl rfl (Nat.le_of_ble_eq_true rfl) (by decide) rfl (c_X7_isWithin g s n 0 60) (fun hr17 ho17 => ?_)
    refine jj_if_ne (tgt := 26) dX7_drive_20 (by decide) (fun h20 => ?_) (fun h20 => ?_)
    · have hg20 := bz_t h20
      refine jj_aload_n dX7_drive_26 rfl ?_
      refine zz_getR dX7_drive_27 kf_X7_25 tt0 rfl ?_
      refine jj_aload_n dX7_drive_30 rfl ?_
      refine zz_getR dX7_drive_31 kf_X7_39 tt0 rfl ?_
      refine zz_cVv (av := [jr (344)]) (st' := []) dX7_drive_34 kn_X7_146 kmX3_keep tt4 rfl rfl rfl (Nat.le_of_ble_eq_true rfl) (by decide) rfl (c_X3_keep g s 344 tt344 hP1 hP2) (fun ho34 => ?_)
      refine jj_aload_n dX7_drive_37 rfl ?_
      refine zz_getI dX7_drive_38 kf_X7_178 (jz_t_goat tt344 (by omega)) rfl rfl ?_
      refine zz_top (b := s (344 + 10 + c.toNat) 3) (by rw [keep_o hP1 (by omega) (by omega)]) ?_
      refine jj_istore (ls' := [some (jr (0)), some (ji (c)), some (ji (n)), some (jr (344 + 10 + c.toNat)), some (ji (s (344 + 10 + c.toNat) 3))]) dX7_drive_41 (by decide) rfl rfl ?_
      refine jj_aload_n dX7_drive_43 rfl ?_
      refine jj_iload_n dX7_drive_44 rfl ?_
      refine zz_putI dX7_drive_45 kw_X7_178 (jz_t_goat tt344 (by omega)) rfl rfl ?_
      refine jj_iload dX7_drive_48 rfl ?_
      refine zz_retie dX7_drive_50 rfl (by decide) ?_ ?_
      · unfold v_X7_drive; (repeat (first | rw [if_pos (by omega)] | rw [if_neg (by omega)])) <;> first | rfl | done
      · unfold f_X7_drive; (repeat (first | rw [if_pos (by omega)] | rw [if_neg (by omega)])) <;> first | rfl | done
    · have hg20 := bz_f h20
      refine jj_ldc dX7_drive_23 kk_X7_61 (kk := ?_)
      refine zz_retie dX7_drive_25 rfl (by decide) ?_ ?_
      · unfold v_X7_drive; (repeat (first | rw [if_pos (by omega)] | rw [if_neg (by omega)])) <;> first | rfl | done
      · unfold f_X7_drive; (repeat (first | rw [if_pos (by omega)] | rw [if_neg (by omega)])) <;> first | rfl | done
  · refine jj_topO (o' := none) (if_neg hc5) ?_
    refine jj_astore_nO (ls' := [some (jr (0)), some (ji (c)), some (ji (n)), some (jn), none]) dX7_drive_8 (by decide) rfl rfl ?_
    refine jj_aload_nO dX7_drive_9 rfl ?_
    refine jj_ifnull (o := none) (tgt := 23) dX7_drive_10 (by decide) (fun _ => ?_) (fun _ h => by cases h)
    refine jj_ldc dX7_drive_23 kk_X7_61 (kk := ?_)
    refine zz_retie dX7_drive_25 rfl (by decide) ?_ ?_
    · unfold v_X7_drive; (repeat (first | rw [if_pos (by omega)] | rw [if_neg (by omega)])) <;> first | rfl | done
    · unfold f_X7_drive; (repeat (first | rw [if_pos (by omega)] | rw [if_neg (by omega)])) <;> first | rfl | done

def v_X7_fodder (s : jz_St) (c : Int) : Int := if (0 ≤ c ∧ c < s 344 3 ∧ c < 4) then s (344 + 10 + c.toNat) 1 else -1000001
def f_X7_fodder (s : jz_St) (c : Int) : jz_St := if (0 ≤ c ∧ c < s 344 3 ∧ c < 4) then jz_su (f_X3_keep s 344) (344 + 10 + c.toNat) 1 0 else s
set_option maxRecDepth 100000 in
set_option maxHeartbeats 4000000 in
theorem c_X7_fodder (g : jz_G) (s : jz_St) (c : Int) (hI : jInv s)  : jz_C g mX7_fodder [jr (0), ji (c)] s (jq_ie (v_X7_fodder s c) (f_X7_fodder s c)) := by
  refine zz_C_of koX7_fodder rfl (Nat.le_of_ble_eq_true rfl) ?_
  refine zz_pad 2 ?_
  show jz_Z g mX7_fodder (jq_ie (v_X7_fodder s c) (f_X7_fodder s c)) 0 [some (jr (0)), some (ji (c)), none, none] [] s
  obtain ⟨hN, hH, hP1, hP2, hT, hRw⟩ := hI
  refine jj_aload_n dX7_fodder_0 rfl ?_
  refine zz_getR dX7_fodder_1 kf_X7_39 tt0 rfl ?_
  refine jj_iload_n dX7_fodder_4 rfl ?_
  refine zz_cVr (av := [ji (c)]) (st' := []) dX7_fodder_5 kn_X7_174 kmX5_goatAt tt344 rfl rfl rfl (Nat.le_of_ble_eq_true rfl) (by decide) rfl (c_X5_goatAt g s 344 tt344 c) (fun ho5 => ?_)
  by_cases hc5 : 0 ≤ c ∧ c < s 344 3 ∧ c < 4
  · refine jj_topO (o' := some (344 + 10 + c.toNat)) (if_pos hc5) ?_
    refine jj_astore_n (ls' := [some (jr (0)), some (ji (c)), some (jr (344 + 10 + c.toNat)), none]) dX7_fodder_8 (by decide) rfl rfl ?_
    refine jj_aload_n dX7_fodder_9 rfl ?_
    refine jj_ifnonnull (o := some (344 + 10 + c.toNat)) (tgt := 16) dX7_fodder_10 (by decide) (fun _ _ => ?_) (fun h => by cases h)
    refine jj_aload_n dX7_fodder_16 rfl ?_
    refine zz_getR dX7_fodder_17 kf_X7_25 tt0 rfl ?_
    refine jj_aload_n dX7_fodder_20 rfl ?_
    refine zz_getR dX7_fodder_21 kf_X7_39 tt0 rfl ?_
    refine zz_cVv (av := [jr (344)]) (st' := []) dX7_fodder_24 kn_X7_146 kmX3_keep tt4 rfl rfl rfl (Nat.le_of_ble_eq_true rfl) (by decide) rfl (c_X3_keep g s 344 tt344 hP1 hP2) (fun ho24 => ?_)
    refine jj_aload_n dX7_fodder_27 rfl ?_
    refine zz_getI dX7_fodder_28 kf_X7_183 (jz_t_goat tt344 (by omega)) rfl rfl ?_
    refine zz_top (b := s (344 + 10 + c.toNat) 1) (by rw [keep_o hP1 (by omega) (by omega)]) ?_
    refine jj_istore_n (ls' := [some (jr (0)), some (ji (c)), some (jr (344 + 10 + c.toNat)), some (ji (s (344 + 10 + c.toNat) 1))]) dX7_fodder_31 (by decide) rfl rfl ?_
    refine jj_aload_n dX7_fodder_32 rfl ?_
    refine jj_iconst dX7_fodder_33 (kk := ?_)
    refine zz_putI dX7_fodder_34 kw_X7_183 (jz_t_goat tt344 (by omega)) rfl rfl ?_
    refine jj_iload_n dX7_fodder_37 rfl ?_
    refine zz_retie dX7_fodder_38 rfl (by decide) ?_ ?_
    · unfold v_X7_fodder; (repeat (first | rw [if_pos (by omega)] | rw [if_neg (by omega)])) <;> first | rfl | done
    · unfold f_X7_fodder; (repeat (first | rw [if_pos (by omega)] | rw [if_neg (by omega)])) <;> first | rfl | done
  · refine jj_topO (o' := none) (if_neg hc5) ?_
    refine jj_astore_nO (ls' := [some (jr (0)), some (ji (c)), some (jn), none]) dX7_fodder_8 (by decide) rfl rfl ?_
    refine jj_aload_nO dX7_fodder_9 rfl ?_
    refine jj_ifnonnull (o := none) (tgt := 16) dX7_fodder_10 (by decide) (fun _ h => by cases h) (fun _ => ?_)
    refine jj_ldc dX7_fodder_13 kk_X7_61 (kk := ?_)
    refine zz_retie dX7_fodder_15 rfl (by decide) ?_ ?_
    · unfold v_X7_fodder; (repeat (first | rw [if_pos (by omega)] | rw [if_neg (by omega)])) <;> first | rfl | done
    · unfold f_X7_fodder; (repeat (first | rw [if_pos (by omega)] | rw [if_neg (by omega)])) <;> first | rfl | done

def v_X7_leaf (s : jz_St) (l w : Int) : Int := if (0 ≤ l ∧ l < s 344 2 ∧ l < 7) then (if w = 0 then s (344 + 3 + l.toNat) 2 else if w = 1 then s (344 + 3 + l.toNat) 3 else if w = 2 then s (344 + 3 + l.toNat) 4 else if w = 3 then s (344 + 3 + l.toNat) 5 else if w = 4 then fLkA s 344 l.toNat else if w = 5 then (if s (344 + 3 + l.toNat) 5 ≤ 0 then 0 else if 0 < s (344 + 3 + l.toNat) 5 ∧ s (344 + 3 + l.toNat) 2 ≤ 2 * s (344 + 3 + l.toNat) 5 then 2 else 1) else -1000001) else -1000001
set_option maxRecDepth 100000 in
set_option maxHeartbeats 4000000 in
theorem c_X7_leaf (g : jz_G) (s : jz_St) (l w : Int) (hI : jInv s)  : jz_C g mX7_leaf [jr (0), ji (l), ji (w)] s (jq_ie (v_X7_leaf s l w) s) := by
  refine zz_C_of koX7_leaf rfl (Nat.le_of_ble_eq_true rfl) ?_
  refine zz_pad 1 ?_
  show jz_Z g mX7_leaf (jq_ie (v_X7_leaf s l w) s) 0 [some (jr (0)), some (ji (l)), some (ji (w)), none] [] s
  obtain ⟨hN, hH, hP1, hP2, hT, hRw⟩ := hI
  refine jj_aload_n dX7_leaf_0 rfl ?_
  refine zz_getR dX7_leaf_1 kf_X7_39 tt0 rfl ?_
  refine jj_iload_n dX7_leaf_4 rfl ?_
  refine zz_cVr (av := [ji (l)]) (st' := []) dX7_leaf_5 kn_X7_153 kmX5_leafAt tt344 rfl rfl rfl (Nat.le_of_ble_eq_true rfl) (by decide) rfl (c_X5_leafAt g s 344 tt344 l) (fun ho5 => ?_)
  by_cases hc5 : 0 ≤ l ∧ l < s 344 2 ∧ l < 7
  · refine jj_topO (o' := some (344 + 3 + l.toNat)) (if_pos hc5) ?_
    refine jj_astore_n (ls' := [some (jr (0)), some (ji (l)), some (ji (w)), some (jr (344 + 3 + l.toNat))]) dX7_leaf_8 (by decide) rfl rfl ?_
    refine jj_aload_n dX7_leaf_9 rfl ?_
    refine jj_ifnonnull (o := some (344 + 3 + l.toNat)) (tgt := 16) dX7_leaf_10 (by decide) (fun _ _ => ?_) (fun h => by cases h)
    refine jj_iload_n dX7_leaf_16 rfl ?_
    by_cases ht17 : (w) < 0 ∨ 5 < (w)
    · refine jj_tswO (tgt := 100) dX7_leaf_17 ht17 (by decide) ?_
      refine jj_ldc dX7_leaf_100 kk_X7_61 (kk := ?_)
      refine zz_retie dX7_leaf_102 rfl (by decide) ?_ ?_
      · unfold v_X7_leaf; (repeat (first | rw [if_pos (by omega)] | rw [if_neg (by omega)])) <;> first | rfl | done
      · rfl
    · have hc17 : (w) = 0 ∨ (w) = 1 ∨ (w) = 2 ∨ (w) = 3 ∨ (w) = 4 ∨ (w) = 5 := by omega
      rcases hc17 with hv17 | hv17 | hv17 | hv17 | hv17 | hv17
      · refine jj_tswI (off := 39) (tgt := 56) dX7_leaf_17 (by omega) (by omega) (by rw [hv17]; rfl) (by decide) ?_
        refine jj_aload_n dX7_leaf_56 rfl ?_
        refine zz_getI dX7_leaf_57 kf_X7_171 (jz_t_leaf tt344 (by omega)) rfl rfl ?_
        refine zz_retie dX7_leaf_60 rfl (by decide) ?_ ?_
        · unfold v_X7_leaf; (repeat (first | rw [if_pos (by omega)] | rw [if_neg (by omega)])) <;> first | rfl | done
        · rfl
      · refine jj_tswI (off := 44) (tgt := 61) dX7_leaf_17 (by omega) (by omega) (by rw [hv17]; rfl) (by decide) ?_
        refine jj_aload_n dX7_leaf_61 rfl ?_
        refine zz_getI dX7_leaf_62 kf_X7_162 (jz_t_leaf tt344 (by omega)) rfl rfl ?_
        refine zz_retie dX7_leaf_65 rfl (by decide) ?_ ?_
        · unfold v_X7_leaf; (repeat (first | rw [if_pos (by omega)] | rw [if_neg (by omega)])) <;> first | rfl | done
        · rfl
      · refine jj_tswI (off := 49) (tgt := 66) dX7_leaf_17 (by omega) (by omega) (by rw [hv17]; rfl) (by decide) ?_
        refine jj_aload_n dX7_leaf_66 rfl ?_
        refine zz_getI dX7_leaf_67 kf_X7_165 (jz_t_leaf tt344 (by omega)) rfl rfl ?_
        refine zz_retie dX7_leaf_70 rfl (by decide) ?_ ?_
        · unfold v_X7_leaf; (repeat (first | rw [if_pos (by omega)] | rw [if_neg (by omega)])) <;> first | rfl | done
        · rfl
      · refine jj_tswI (off := 54) (tgt := 71) dX7_leaf_17 (by omega) (by omega) (by rw [hv17]; rfl) (by decide) ?_
        refine jj_aload_n dX7_leaf_71 rfl ?_
        refine zz_getI dX7_leaf_72 kf_X7_168 (jz_t_leaf tt344 (by omega)) rfl rfl ?_
        refine zz_retie dX7_leaf_75 rfl (by decide) ?_ ?_
        · unfold v_X7_leaf; (repeat (first | rw [if_pos (by omega)] | rw [if_neg (by omega)])) <;> first | rfl | done
        · rfl
      · refine jj_tswI (off := 59) (tgt := 76) dX7_leaf_17 (by omega) (by omega) (by rw [hv17]; rfl) (by decide) ?_
        refine jj_aload_n dX7_leaf_76 rfl ?_
        refine jj_aload_n dX7_leaf_77 rfl ?_
        refine zz_getR dX7_leaf_78 kf_X7_39 tt0 rfl ?_
        refine zz_getI dX7_leaf_81 kf_X7_143 tt344 rfl rfl ?_
        refine jj_aload_n dX7_leaf_84 rfl ?_
        refine zz_getR dX7_leaf_85 kf_X7_39 tt0 rfl ?_
        refine zz_getI dX7_leaf_88 kf_X7_186 tt344 rfl rfl ?_
        refine zz_cVi (av := [ji (s 344 6), ji (s 344 5)]) (st' := []) dX7_leaf_91 kn_X7_189 kmX1_liking (jz_t_leaf tt344 (by omega)) rfl rfl rfl (Nat.le_of_ble_eq_true rfl) (by decide) rfl (c_X1_liking g s (344 + 3 + l.toNat) (s 344 6) (s 344 5) (jz_t_leaf tt344 (by omega)) (fun h => by have := (hN.2.2.2.2.2.2.1 l.toNat (by omega)).2 h; have := hN.2.2.2.1; omega) (fun h => by have := (hN.2.2.2.2.2.2.1 l.toNat (by omega)).2 h; omega) hN.2.2.2.2.1.1) (fun hr91 ho91 => ?_)
        refine zz_retie dX7_leaf_94 rfl (by decide) ?_ ?_
        · unfold v_X7_leaf fLkA; (repeat (first | rw [if_pos (by omega)] | rw [if_neg (by omega)])) <;> rfl
        · rfl
      · refine jj_tswI (off := 78) (tgt := 95) dX7_leaf_17 (by omega) (by omega) (by rw [hv17]; rfl) (by decide) ?_
        refine jj_aload_n dX7_leaf_95 rfl ?_
        refine zz_cVi (av := []) (st' := []) dX7_leaf_96 kn_X7_192 kmX1_standing (jz_t_leaf tt344 (by omega)) rfl rfl rfl (Nat.le_of_ble_eq_true rfl) (by decide) rfl (c_X1_standing g s (344 + 3 + l.toNat) (jz_t_leaf tt344 (by omega)) (by have := (hN.2.2.2.2.2.2.1 l.toNat (by omega)).1; omega)) (fun hr96 ho96 => ?_)
        refine zz_retie dX7_leaf_99 rfl (by decide) ?_ ?_
        · unfold v_X7_leaf; rw [if_pos hc5]; subst hv17; rfl
        · rfl
  · refine jj_topO (o' := none) (if_neg hc5) ?_
    refine jj_astore_nO (ls' := [some (jr (0)), some (ji (l)), some (ji (w)), some (jn)]) dX7_leaf_8 (by decide) rfl rfl ?_
    refine jj_aload_nO dX7_leaf_9 rfl ?_
    refine jj_ifnonnull (o := none) (tgt := 16) dX7_leaf_10 (by decide) (fun _ h => by cases h) (fun _ => ?_)
    refine jj_ldc dX7_leaf_13 kk_X7_61 (kk := ?_)
    refine zz_retie dX7_leaf_15 rfl (by decide) ?_ ?_
    · unfold v_X7_leaf; (repeat (first | rw [if_pos (by omega)] | rw [if_neg (by omega)])) <;> first | rfl | done
    · rfl

def v_X7_goat (s : jz_St) (c w : Int) : Int := if (0 ≤ c ∧ c < s 344 3 ∧ c < 4) then (if w = 0 then s (344 + 10 + c.toNat) 1 else if w = 1 then s (344 + 10 + c.toNat) 2 else if w = 2 then s (344 + 10 + c.toNat) 3 else if w = 3 then fON (fCho s 344 (344 + 10 + c.toNat)) else -1000001) else -1000001
set_option maxRecDepth 100000 in
set_option maxHeartbeats 4000000 in
theorem c_X7_goat (g : jz_G) (s : jz_St) (c w : Int) (hI : jInv s)  : jz_C g mX7_goat [jr (0), ji (c), ji (w)] s (jq_ie (v_X7_goat s c w) s) := by
  refine zz_C_of koX7_goat rfl (Nat.le_of_ble_eq_true rfl) ?_
  refine zz_pad 2 ?_
  show jz_Z g mX7_goat (jq_ie (v_X7_goat s c w) s) 0 [some (jr (0)), some (ji (c)), some (ji (w)), none, none] [] s
  obtain ⟨hN, hH, hP1, hP2, hT, hRw⟩ := hI
  refine jj_aload_n dX7_goat_0 rfl ?_
  refine zz_getR dX7_goat_1 kf_X7_39 tt0 rfl ?_
  refine jj_iload_n dX7_goat_4 rfl ?_
  refine zz_cVr (av := [ji (c)]) (st' := []) dX7_goat_5 kn_X7_174 kmX5_goatAt tt344 rfl rfl rfl (Nat.le_of_ble_eq_true rfl) (by decide) rfl (c_X5_goatAt g s 344 tt344 c) (fun ho5 => ?_)
  by_cases hc5 : 0 ≤ c ∧ c < s 344 3 ∧ c < 4
  · refine jj_topO (o' := some (344 + 10 + c.toNat)) (if_pos hc5) ?_
    refine jj_astore_n (ls' := [some (jr (0)), some (ji (c)), some (ji (w)), some (jr (344 + 10 + c.toNat)), none]) dX7_goat_8 (by decide) rfl rfl ?_
    refine jj_aload_n dX7_goat_9 rfl ?_
    refine jj_ifnonnull (o := some (344 + 10 + c.toNat)) (tgt := 16) dX7_goat_10 (by decide) (fun _ _ => ?_) (fun h => by cases h)
    refine jj_iload_n dX7_goat_16 rfl ?_
    by_cases ht17 : (w) < 0 ∨ 3 < (w)
    · refine jj_tswO (tgt := 89) dX7_goat_17 ht17 (by decide) ?_
      refine jj_ldc dX7_goat_89 kk_X7_61 (kk := ?_)
      refine zz_retie dX7_goat_91 rfl (by decide) ?_ ?_
      · unfold v_X7_goat; (repeat (first | rw [if_pos (by omega)] | rw [if_neg (by omega)])) <;> first | rfl | done
      · rfl
    · have hc17 : (w) = 0 ∨ (w) = 1 ∨ (w) = 2 ∨ (w) = 3 := by omega
      rcases hc17 with hv17 | hv17 | hv17 | hv17
      · refine jj_tswI (off := 31) (tgt := 48) dX7_goat_17 (by omega) (by omega) (by rw [hv17]; rfl) (by decide) ?_
        refine jj_aload_n dX7_goat_48 rfl ?_
        refine zz_getI dX7_goat_49 kf_X7_183 (jz_t_goat tt344 (by omega)) rfl rfl ?_
        refine zz_retie dX7_goat_52 rfl (by decide) ?_ ?_
        · unfold v_X7_goat; (repeat (first | rw [if_pos (by omega)] | rw [if_neg (by omega)])) <;> first | rfl | done
        · rfl
      · refine jj_tswI (off := 36) (tgt := 53) dX7_goat_17 (by omega) (by omega) (by rw [hv17]; rfl) (by decide) ?_
        refine jj_aload_n dX7_goat_53 rfl ?_
        refine zz_getI dX7_goat_54 kf_X7_195 (jz_t_goat tt344 (by omega)) rfl rfl ?_
        refine zz_retie dX7_goat_57 rfl (by decide) ?_ ?_
        · unfold v_X7_goat; (repeat (first | rw [if_pos (by omega)] | rw [if_neg (by omega)])) <;> first | rfl | done
        · rfl
      · refine jj_tswI (off := 41) (tgt := 58) dX7_goat_17 (by omega) (by omega) (by rw [hv17]; rfl) (by decide) ?_
        refine jj_aload_n dX7_goat_58 rfl ?_
        refine zz_getI dX7_goat_59 kf_X7_178 (jz_t_goat tt344 (by omega)) rfl rfl ?_
        refine zz_retie dX7_goat_62 rfl (by decide) ?_ ?_
        · unfold v_X7_goat; (repeat (first | rw [if_pos (by omega)] | rw [if_neg (by omega)])) <;> first | rfl | done
        · rfl
      · refine jj_tswI (off := 46) (tgt := 63) dX7_goat_17 (by omega) (by omega) (by rw [hv17]; rfl) (by decide) ?_
        refine jj_aload_n dX7_goat_63 rfl ?_
        refine zz_getR dX7_goat_64 kf_X7_39 tt0 rfl ?_
        refine jj_aload_n dX7_goat_67 rfl ?_
        refine zz_cVr (av := [jr (344 + 10 + c.toNat)]) (st' := []) dX7_goat_68 kn_X7_198 kmX5_choiceOf tt344 rfl rfl rfl (Nat.le_of_ble_eq_true rfl) (by decide) rfl (c_X5_choiceOf g s 344 tt344 (344 + 10 + c.toNat) (jz_t_goat tt344 (by omega)) (9 * s 344 6) (by omega) hN) (fun ho68 => ?_)
        rcases hX68 : fCho s 344 (344 + 10 + c.toNat) with _ | j
        · refine jj_topO (o' := none) (by unfold fChoA; rw [hX68]; rfl) ?_
          refine jj_astoreO (ls' := [some (jr (0)), some (ji (c)), some (ji (w)), some (jr (344 + 10 + c.toNat)), some (jn)]) dX7_goat_71 (by decide) rfl rfl ?_
          refine jj_aloadO dX7_goat_73 rfl ?_
          refine jj_ifnonnull (o := none) (tgt := 83) dX7_goat_75 (by decide) (fun _ h => by cases h) (fun _ => ?_)
          refine jj_ldc dX7_goat_78 kk_X7_202 (kk := ?_)
          refine jj_goto (tgt := 88) dX7_goat_80 (by decide) ?_
          refine zz_retie dX7_goat_88 rfl (by decide) ?_ ?_
          · unfold v_X7_goat; rw [if_pos (by omega), if_neg (by omega), if_neg (by omega), if_neg (by omega), if_pos (by omega), hX68]; rfl
          · rfl
        · refine jj_topO (o' := some (344 + 3 + j)) (by unfold fChoA; rw [hX68]; rfl) ?_
          obtain ⟨hj1, hj2, hj3, hj4, hj5⟩ := fCho_some hX68
          refine jj_astore (ls' := [some (jr (0)), some (ji (c)), some (ji (w)), some (jr (344 + 10 + c.toNat)), some (jr (344 + 3 + j))]) dX7_goat_71 (by decide) rfl rfl ?_
          refine jj_aload dX7_goat_73 rfl ?_
          refine jj_ifnonnull (o := some (344 + 3 + j)) (tgt := 83) dX7_goat_75 (by decide) (fun _ _ => ?_) (fun h => by cases h)
          refine jj_aload dX7_goat_83 rfl ?_
          refine zz_getN (z := ((j : Nat) : Int)) dX7_goat_85 kf_X7_203 (jz_t_leaf tt344 (fCho_some hX68).1) rfl rfl (jz_nm_leaf tt344 (fCho_some hX68).1) ?_
          refine zz_retie dX7_goat_88 rfl (by decide) ?_ ?_
          · unfold v_X7_goat; rw [if_pos (by omega), if_neg (by omega), if_neg (by omega), if_neg (by omega), if_pos (by omega), hX68]; rfl
          · rfl
  · refine jj_topO (o' := none) (if_neg hc5) ?_
    refine jj_astore_nO (ls' := [some (jr (0)), some (ji (c)), some (ji (w)), some (jn), none]) dX7_goat_8 (by decide) rfl rfl ?_
    refine jj_aload_nO dX7_goat_9 rfl ?_
    refine jj_ifnonnull (o := none) (tgt := 16) dX7_goat_10 (by decide) (fun _ h => by cases h) (fun _ => ?_)
    refine jj_ldc dX7_goat_13 kk_X7_61 (kk := ?_)
    refine zz_retie dX7_goat_15 rfl (by decide) ?_ ?_
    · unfold v_X7_goat; (repeat (first | rw [if_pos (by omega)] | rw [if_neg (by omega)])) <;> first | rfl | done
    · rfl

