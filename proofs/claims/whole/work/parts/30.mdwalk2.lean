def v_X8_row (s : jz_St) (r l n : Int) : Int := if (0 ≤ r ∧ r ≤ 7) ∧ (0 ≤ l ∧ l ≤ 2) ∧ n ≤ 40 then (if n < 0 then -1000014 else n) else -1000001
def f_X8_row (s : jz_St) (r l n : Int) : jz_St := if (0 ≤ r ∧ r ≤ 7) ∧ (0 ≤ l ∧ l ≤ 2) ∧ n ≤ 40 then (if n < 0 then jz_su (jz_su s 416 1 0) 416 1 4 else f_X8_zr (jz_su (jz_su (jz_su s 416 1 0) 417 r.toNat l) 418 r.toNat n) (40 * r.toNat) 40) else s
set_option maxRecDepth 100000 in
set_option maxHeartbeats 4000000 in
theorem c_X8_row (g : jz_G) (s : jz_St) (r l n : Int) (hL : mLn s)  : jz_C g mX8_row [jr (416), ji (r), ji (l), ji (n)] s (jq_ie (v_X8_row s r l n) (f_X8_row s r l n)) := by
  refine zz_C_of koX8_row rfl (Nat.le_of_ble_eq_true rfl) ?_
  refine zz_pad 1 ?_
  show jz_Z g mX8_row (jq_ie (v_X8_row s r l n) (f_X8_row s r l n)) 0 [some (jr (416)), some (ji (r)), some (ji (l)), some (ji (n)), none] [] s
  refine jj_aload_n dX8_row_0 rfl ?_
  refine jj_iconst dX8_row_1 (kk := ?_)
  refine zz_putI dX8_row_2 kw_X8_50 tt416 rfl rfl ?_
  refine zz_st (s1 := s) (by exact jz_su_id hL.1) ?_
  refine jj_iload_n dX8_row_5 rfl ?_
  refine zz_cSi (av := [ji (r)]) (st' := []) dX8_row_6 kn_X8_64 kmX8_isRow rfl rfl (Nat.le_of_ble_eq_true rfl) (by decide) rfl (c_X8_isRow g s r) (fun hr6 ho6 => ?_)
  refine jj_if_eq (tgt := 30) dX8_row_9 (by decide) (fun h9 => ?_) (fun h9 => ?_)
  · have hg9 := bz_f h9
    refine jj_ldc dX8_row_30 kk_X8_70 (kk := ?_)
    refine zz_retie dX8_row_32 rfl (by decide) ?_ ?_
    · unfold v_X8_row; (repeat (first | rw [if_pos (by omega)] | rw [if_neg (by omega)])) <;> first | rfl | done
    · unfold f_X8_row; (repeat (first | rw [if_pos (by omega)] | rw [if_neg (by omega)])) <;> first | rfl | done
  · have hg9 := bz_t h9
    refine jj_iload_n dX8_row_12 rfl ?_
    refine jj_i2l dX8_row_13 ?_
    refine jj_lconst (z := 0) dX8_row_14 (kk := ?_)
    refine jj_ldc2 dX8_row_15 kk_X8_68 (kk := ?_)
    refine zz_cSi (av := [jl (l), jl (0), jl (2)]) (st' := []) dX8_row_18 kn_X8_60 kmX8_in rfl rfl (Nat.le_of_ble_eq_true rfl) (by decide) rfl (c_X8_in g s l 0 2) (fun hr18 ho18 => ?_)
    refine jj_if_eq (tgt := 30) dX8_row_21 (by decide) (fun h21 => ?_) (fun h21 => ?_)
    · have hg21 := bz_f h21
      refine jj_ldc dX8_row_30 kk_X8_70 (kk := ?_)
      refine zz_retie dX8_row_32 rfl (by decide) ?_ ?_
      · unfold v_X8_row; (repeat (first | rw [if_pos (by omega)] | rw [if_neg (by omega)])) <;> first | rfl | done
      · unfold f_X8_row; (repeat (first | rw [if_pos (by omega)] | rw [if_neg (by omega)])) <;> first | rfl | done
    · have hg21 := bz_t h21
      refine jj_iload_n dX8_row_24 rfl ?_
      refine jj_bipush dX8_row_25 (kk := ?_)
      refine jj_icmp_le (tgt := 33) dX8_row_27 (by decide) (fun h27 => ?_) (fun h27 => ?_)
      · refine jj_aload_n dX8_row_33 rfl ?_
        refine jj_iconst dX8_row_34 (kk := ?_)
        refine zz_putI dX8_row_35 kw_X8_54 tt416 rfl rfl ?_
        refine jj_iload_n dX8_row_38 rfl ?_
        refine jj_if_ge (tgt := 48) dX8_row_39 (by decide) (fun h39 => ?_) (fun h39 => ?_)
        · refine jj_aload_n dX8_row_48 rfl ?_
          refine zz_getR dX8_row_49 kf_X8_7 tt416 rfl ?_
          refine jj_iload_n dX8_row_52 rfl ?_
          refine jj_iload_n dX8_row_53 rfl ?_
          refine zz_iastN (j := r.toNat) dX8_row_54 tt417 (by omega) (by omega) ?_
          refine jj_aload_n dX8_row_55 rfl ?_
          refine zz_getR dX8_row_56 kf_X8_13 tt416 rfl ?_
          refine jj_iload_n dX8_row_59 rfl ?_
          refine jj_iload_n dX8_row_60 rfl ?_
          refine zz_iastN (j := r.toNat) dX8_row_61 tt418 (by omega) (by omega) ?_
          refine jj_iconst dX8_row_62 (kk := ?_)
          refine jj_istore (ls' := [some (jr (416)), some (ji (r)), some (ji (l)), some (ji (n)), some (ji (0))]) dX8_row_63 (by decide) rfl rfl ?_
          have L65 : ∀ (nn : Nat) (j : Nat) (hh65_0 : j ≤ 40), 40 - j < nn → jz_Z g mX8_row (jq_ie (v_X8_row s r l n) (f_X8_row s r l n)) 65 [some (jr (416)), some (ji (r)), some (ji (l)), some (ji (n)), some (ji ((j : Int)))] [] (f_X8_zr (jz_su (jz_su (jz_su s 416 1 0) 417 r.toNat l) 418 r.toNat n) (40 * r.toNat) j) := by
            intro nn
            induction nn with
            | zero => intro j hh65_0 hmz; exact absurd hmz (Nat.not_lt_zero _)
            | succ nn ih65 =>
              intro j hh65_0 hm65
              refine jj_iload dX8_row_65 rfl ?_
              refine jj_bipush dX8_row_67 (kk := ?_)
              refine jj_icmp_ge (tgt := 91) dX8_row_69 (by decide) (fun h69 => ?_) (fun h69 => ?_)
              · refine jj_iload_n dX8_row_91 rfl ?_
                refine zz_retie dX8_row_92 rfl (by decide) ?_ ?_
                · unfold v_X8_row; rw [if_pos (by omega), if_neg (by omega)]
                · unfold f_X8_row; rw [if_pos (by omega), if_neg (by omega), show 40 = j by omega]
              · refine jj_aload_n dX8_row_72 rfl ?_
                refine zz_getR dX8_row_73 kf_X8_16 tt416 rfl ?_
                refine jj_bipush dX8_row_76 (kk := ?_)
                refine jj_iload_n dX8_row_78 rfl ?_
                refine jj_imul dX8_row_79 (by omega) ?_
                refine jj_iload dX8_row_80 rfl ?_
                refine jj_iadd dX8_row_82 (by omega) ?_
                refine jj_iconst dX8_row_83 (kk := ?_)
                refine zz_iastN (j := 40 * r.toNat + j) dX8_row_84 tt419 (by omega) (by omega) ?_
                refine jj_iinc (ls' := [some (jr (416)), some (ji (r)), some (ji (l)), some (ji (n)), some (ji ((j : Int) + 1))]) dX8_row_85 rfl (by decide) rfl (by omega) rfl ?_
                refine jj_goto (tgt := 65) dX8_row_88 (by decide) ?_
                refine zz_st (s1 := f_X8_zr (jz_su (jz_su (jz_su s 416 1 0) 417 r.toNat l) 418 r.toNat n) (40 * r.toNat) (j + 1)) (by rfl) ?_
                exact ih65 (j + 1) (by first | assumption | omega) (by omega)
          refine zz_st (s1 := f_X8_zr (jz_su (jz_su (jz_su s 416 1 0) 417 r.toNat l) 418 r.toNat n) (40 * r.toNat) 0) (by rfl) ?_
          exact L65 _ 0 (by first | assumption | omega) (Nat.lt_succ_self _)
        · refine jj_aload_n dX8_row_42 rfl ?_
          refine jj_iconst dX8_row_43 (kk := ?_)
          refine zz_cVi (av := [ji (4)]) (st' := []) dX8_row_44 kn_X8_71 kmX8_finding tt416 rfl rfl rfl (Nat.le_of_ble_eq_true rfl) (by decide) rfl (c_X8_finding g (jz_su s 416 1 (0)) 4 (by omega)) (fun hr44 ho44 => ?_)
          refine zz_retie dX8_row_47 rfl (by decide) ?_ ?_
          · unfold v_X8_row; (repeat (first | rw [if_pos (by omega)] | rw [if_neg (by omega)])) <;> first | rfl | done
          · unfold f_X8_row; (repeat (first | rw [if_pos (by omega)] | rw [if_neg (by omega)])) <;> first | rfl | done
      · refine jj_ldc dX8_row_30 kk_X8_70 (kk := ?_)
        refine zz_retie dX8_row_32 rfl (by decide) ?_ ?_
        · unfold v_X8_row; (repeat (first | rw [if_pos (by omega)] | rw [if_neg (by omega)])) <;> first | rfl | done
        · unfold f_X8_row; (repeat (first | rw [if_pos (by omega)] | rw [if_neg (by omega)])) <;> first | rfl | done

def v_X8_set (s : jz_St) (r i z : Int) : Int := if (0 ≤ r ∧ r ≤ 7) then (if s 417 r.toNat < 0 then -1000011 else if 0 ≤ i ∧ i ≤ s 418 r.toNat - 1 then fNarrow (s 417 r.toNat) z else -1000012) else -1000001
def f_X8_set (s : jz_St) (r i z : Int) : jz_St := if (0 ≤ r ∧ r ≤ 7) then (if s 417 r.toNat < 0 then jz_su (jz_su s 416 1 0) 416 1 1 else if 0 ≤ i ∧ i ≤ s 418 r.toNat - 1 then jz_su (jz_su s 416 1 0) 419 (40 * r.toNat + i.toNat) (fNarrow (s 417 r.toNat) z) else jz_su (jz_su s 416 1 0) 416 1 2) else s
set_option maxRecDepth 100000 in
set_option maxHeartbeats 4000000 in
theorem c_X8_set (g : jz_G) (s : jz_St) (r i z : Int) (hL : mLn s)  : jz_C g mX8_set [jr (416), ji (r), ji (i), ji (z)] s (jq_ie (v_X8_set s r i z) (f_X8_set s r i z)) := by
  refine zz_C_of koX8_set rfl (Nat.le_of_ble_eq_true rfl) ?_
  refine zz_pad 0 ?_
  show jz_Z g mX8_set (jq_ie (v_X8_set s r i z) (f_X8_set s r i z)) 0 [some (jr (416)), some (ji (r)), some (ji (i)), some (ji (z))] [] s
  have hL2 := hL.2 r.toNat
  refine jj_aload_n dX8_set_0 rfl ?_
  refine jj_iconst dX8_set_1 (kk := ?_)
  refine zz_putI dX8_set_2 kw_X8_50 tt416 rfl rfl ?_
  refine zz_st (s1 := s) (by exact jz_su_id hL.1) ?_
  refine jj_iload_n dX8_set_5 rfl ?_
  refine zz_cSi (av := [ji (r)]) (st' := []) dX8_set_6 kn_X8_64 kmX8_isRow rfl rfl (Nat.le_of_ble_eq_true rfl) (by decide) rfl (c_X8_isRow g s r) (fun hr6 ho6 => ?_)
  refine jj_if_ne (tgt := 15) dX8_set_9 (by decide) (fun h9 => ?_) (fun h9 => ?_)
  · have hg9 := bz_t h9
    refine jj_aload_n dX8_set_15 rfl ?_
    refine jj_iconst dX8_set_16 (kk := ?_)
    refine zz_putI dX8_set_17 kw_X8_54 tt416 rfl rfl ?_
    refine jj_aload_n dX8_set_20 rfl ?_
    refine zz_getR dX8_set_21 kf_X8_7 tt416 rfl ?_
    refine jj_iload_n dX8_set_24 rfl ?_
    refine zz_ialdN (j := r.toNat) dX8_set_25 tt417 (by omega) (by omega) ?_
    refine zz_top (b := s 417 r.toNat) (jz_su_n (Or.inl (by decide))) ?_
    refine jj_if_ge (tgt := 35) dX8_set_26 (by decide) (fun h26 => ?_) (fun h26 => ?_)
    · refine jj_iload_n dX8_set_35 rfl ?_
      refine jj_i2l dX8_set_36 ?_
      refine jj_lconst (z := 0) dX8_set_37 (kk := ?_)
      refine jj_aload_n dX8_set_38 rfl ?_
      refine zz_getR dX8_set_39 kf_X8_13 tt416 rfl ?_
      refine jj_iload_n dX8_set_42 rfl ?_
      refine zz_ialdN (j := r.toNat) dX8_set_43 tt418 (by omega) (by omega) ?_
      refine zz_top (b := s 418 r.toNat) (jz_su_n (Or.inl (by decide))) ?_
      refine jj_iconst dX8_set_44 (kk := ?_)
      refine jj_isub dX8_set_45 (by omega) ?_
      refine jj_i2l dX8_set_46 ?_
      refine zz_cSi (av := [jl (i), jl (0), jl ((s 418 r.toNat) - 1)]) (st' := []) dX8_set_47 kn_X8_60 kmX8_in rfl rfl (Nat.le_of_ble_eq_true rfl) (by decide) rfl (c_X8_in g (jz_su s 416 1 (0)) i 0 ((s 418 r.toNat) - 1)) (fun hr47 ho47 => ?_)
      refine jj_if_ne (tgt := 59) dX8_set_50 (by decide) (fun h50 => ?_) (fun h50 => ?_)
      · have hg50 := bz_t h50
        refine jj_aload_n dX8_set_59 rfl ?_
        refine zz_getR dX8_set_60 kf_X8_16 tt416 rfl ?_
        refine jj_bipush dX8_set_63 (kk := ?_)
        refine jj_iload_n dX8_set_65 rfl ?_
        refine jj_imul dX8_set_66 (by omega) ?_
        refine jj_iload_n dX8_set_67 rfl ?_
        refine jj_iadd dX8_set_68 (by omega) ?_
        have L99 : ∀ (y : Int) (hh99_0 : y = fNarrow (s 417 r.toNat) z), jz_Z g mX8_set (jq_ie (v_X8_set s r i z) (f_X8_set s r i z)) 99 [some (jr (416)), some (ji (r)), some (ji (i)), some (ji (z))] [ji (y), ji (40 * r + i), jr (419)] (jz_su s 416 1 (0)) := by
          intro y hh99_0
          refine zz_iastN (j := 40 * r.toNat + i.toNat) dX8_set_99 tt419 (by omega) (by omega) ?_
          refine jj_aload_n dX8_set_100 rfl ?_
          refine zz_getR dX8_set_101 kf_X8_16 tt416 rfl ?_
          refine jj_bipush dX8_set_104 (kk := ?_)
          refine jj_iload_n dX8_set_106 rfl ?_
          refine jj_imul dX8_set_107 (by omega) ?_
          refine jj_iload_n dX8_set_108 rfl ?_
          refine jj_iadd dX8_set_109 (by omega) ?_
          refine zz_ialdN (j := 40 * r.toNat + i.toNat) dX8_set_110 tt419 (by omega) (by omega) ?_
          refine zz_top (b := y) (jz_su_s _ _ _ _) ?_
          refine zz_retie dX8_set_111 rfl (by decide) ?_ ?_
          · unfold v_X8_set; rw [if_pos (by omega), if_neg (by omega), if_pos (by omega)]; exact hh99_0
          · unfold f_X8_set; rw [if_pos (by omega), if_neg (by omega), if_pos (by omega), hh99_0]
        refine jj_aload_n dX8_set_69 rfl ?_
        refine zz_getR dX8_set_70 kf_X8_7 tt416 rfl ?_
        refine jj_iload_n dX8_set_73 rfl ?_
        refine zz_ialdN (j := r.toNat) dX8_set_74 tt417 (by omega) (by omega) ?_
        refine zz_top (b := s 417 r.toNat) (jz_su_n (Or.inl (by decide))) ?_
        refine jj_if_ne (tgt := 83) dX8_set_75 (by decide) (fun h75 => ?_) (fun h75 => ?_)
        · refine jj_aload_n dX8_set_83 rfl ?_
          refine zz_getR dX8_set_84 kf_X8_7 tt416 rfl ?_
          refine jj_iload_n dX8_set_87 rfl ?_
          refine zz_ialdN (j := r.toNat) dX8_set_88 tt417 (by omega) (by omega) ?_
          refine zz_top (b := s 417 r.toNat) (jz_su_n (Or.inl (by decide))) ?_
          refine jj_iconst dX8_set_89 (kk := ?_)
          refine jj_icmp_ne (tgt := 98) dX8_set_90 (by decide) (fun h90 => ?_) (fun h90 => ?_)
          · refine jj_iload_n dX8_set_98 rfl ?_
            exact L99 z (by unfold fNarrow; first | (rw [if_pos (by omega)]; done) | (rw [if_neg (by omega), if_pos (by omega)]; done) | (rw [if_neg (by omega), if_neg (by omega)]; done))
          · refine jj_iload_n dX8_set_93 rfl ?_
            refine jj_i2s dX8_set_94 ?_
            refine jj_goto (tgt := 99) dX8_set_95 (by decide) ?_
            exact L99 (js (z)) (by unfold fNarrow; first | (rw [if_pos (by omega)]; done) | (rw [if_neg (by omega), if_pos (by omega)]; done) | (rw [if_neg (by omega), if_neg (by omega)]; done))
        · refine jj_iload_n dX8_set_78 rfl ?_
          refine jj_i2b dX8_set_79 ?_
          refine jj_goto (tgt := 99) dX8_set_80 (by decide) ?_
          exact L99 (jb (z)) (by unfold fNarrow; first | (rw [if_pos (by omega)]; done) | (rw [if_neg (by omega), if_pos (by omega)]; done) | (rw [if_neg (by omega), if_neg (by omega)]; done))
      · have hg50 := bz_f h50
        refine jj_aload_n dX8_set_53 rfl ?_
        refine jj_iconst dX8_set_54 (kk := ?_)
        refine zz_cVi (av := [ji (2)]) (st' := []) dX8_set_55 kn_X8_71 kmX8_finding tt416 rfl rfl rfl (Nat.le_of_ble_eq_true rfl) (by decide) rfl (c_X8_finding g (jz_su s 416 1 (0)) 2 (by omega)) (fun hr55 ho55 => ?_)
        refine zz_retie dX8_set_58 rfl (by decide) ?_ ?_
        · unfold v_X8_set; (repeat (first | rw [if_pos (by omega)] | rw [if_neg (by omega)])) <;> first | rfl | done
        · unfold f_X8_set; (repeat (first | rw [if_pos (by omega)] | rw [if_neg (by omega)])) <;> first | rfl | done
    · refine jj_aload_n dX8_set_29 rfl ?_
      refine jj_iconst dX8_set_30 (kk := ?_)
      refine zz_cVi (av := [ji (1)]) (st' := []) dX8_set_31 kn_X8_71 kmX8_finding tt416 rfl rfl rfl (Nat.le_of_ble_eq_true rfl) (by decide) rfl (c_X8_finding g (jz_su s 416 1 (0)) 1 (by omega)) (fun hr31 ho31 => ?_)
      refine zz_retie dX8_set_34 rfl (by decide) ?_ ?_
      · unfold v_X8_set; (repeat (first | rw [if_pos (by omega)] | rw [if_neg (by omega)])) <;> first | rfl | done
      · unfold f_X8_set; (repeat (first | rw [if_pos (by omega)] | rw [if_neg (by omega)])) <;> first | rfl | done
  · have hg9 := bz_f h9
    refine jj_ldc dX8_set_12 kk_X8_70 (kk := ?_)
    refine zz_retie dX8_set_14 rfl (by decide) ?_ ?_
    · unfold v_X8_set; (repeat (first | rw [if_pos (by omega)] | rw [if_neg (by omega)])) <;> first | rfl | done
    · unfold f_X8_set; (repeat (first | rw [if_pos (by omega)] | rw [if_neg (by omega)])) <;> first | rfl | done

def v_X8_drop (s : jz_St) (r : Int) : Int := if (0 ≤ r ∧ r ≤ 7) then (if s 417 r.toNat < 0 then -1000011 else s 418 r.toNat) else -1000001
def f_X8_drop (s : jz_St) (r : Int) : jz_St := if (0 ≤ r ∧ r ≤ 7) then (if s 417 r.toNat < 0 then jz_su (jz_su s 416 1 0) 416 1 1 else jz_su (jz_su s 416 1 0) 417 r.toNat (-1)) else s
set_option maxRecDepth 100000 in
set_option maxHeartbeats 4000000 in
theorem c_X8_drop (g : jz_G) (s : jz_St) (r : Int) (hL : mLn s)  : jz_C g mX8_drop [jr (416), ji (r)] s (jq_ie (v_X8_drop s r) (f_X8_drop s r)) := by
  refine zz_C_of koX8_drop rfl (Nat.le_of_ble_eq_true rfl) ?_
  refine zz_pad 0 ?_
  show jz_Z g mX8_drop (jq_ie (v_X8_drop s r) (f_X8_drop s r)) 0 [some (jr (416)), some (ji (r))] [] s
  have hL2 := hL.2 r.toNat
  refine jj_aload_n dX8_drop_0 rfl ?_
  refine jj_iconst dX8_drop_1 (kk := ?_)
  refine zz_putI dX8_drop_2 kw_X8_50 tt416 rfl rfl ?_
  refine zz_st (s1 := s) (by exact jz_su_id hL.1) ?_
  refine jj_iload_n dX8_drop_5 rfl ?_
  refine zz_cSi (av := [ji (r)]) (st' := []) dX8_drop_6 kn_X8_64 kmX8_isRow rfl rfl (Nat.le_of_ble_eq_true rfl) (by decide) rfl (c_X8_isRow g s r) (fun hr6 ho6 => ?_)
  refine jj_if_ne (tgt := 15) dX8_drop_9 (by decide) (fun h9 => ?_) (fun h9 => ?_)
  · have hg9 := bz_t h9
    refine jj_aload_n dX8_drop_15 rfl ?_
    refine jj_iconst dX8_drop_16 (kk := ?_)
    refine zz_putI dX8_drop_17 kw_X8_54 tt416 rfl rfl ?_
    refine jj_aload_n dX8_drop_20 rfl ?_
    refine zz_getR dX8_drop_21 kf_X8_7 tt416 rfl ?_
    refine jj_iload_n dX8_drop_24 rfl ?_
    refine zz_ialdN (j := r.toNat) dX8_drop_25 tt417 (by omega) (by omega) ?_
    refine zz_top (b := s 417 r.toNat) (jz_su_n (Or.inl (by decide))) ?_
    refine jj_if_ge (tgt := 35) dX8_drop_26 (by decide) (fun h26 => ?_) (fun h26 => ?_)
    · refine jj_aload_n dX8_drop_35 rfl ?_
      refine zz_getR dX8_drop_36 kf_X8_7 tt416 rfl ?_
      refine jj_iload_n dX8_drop_39 rfl ?_
      refine jj_iconst dX8_drop_40 (kk := ?_)
      refine zz_iastN (j := r.toNat) dX8_drop_41 tt417 (by omega) (by omega) ?_
      refine jj_aload_n dX8_drop_42 rfl ?_
      refine zz_getR dX8_drop_43 kf_X8_13 tt416 rfl ?_
      refine jj_iload_n dX8_drop_46 rfl ?_
      refine zz_ialdN (j := r.toNat) dX8_drop_47 tt418 (by omega) (by omega) ?_
      refine zz_top (b := s 418 r.toNat) ((jz_su_n (Or.inl (by decide))).trans (jz_su_n (Or.inl (by decide)))) ?_
      refine zz_retie dX8_drop_48 rfl (by decide) ?_ ?_
      · unfold v_X8_drop; (repeat (first | rw [if_pos (by omega)] | rw [if_neg (by omega)])) <;> first | rfl | done
      · unfold f_X8_drop; (repeat (first | rw [if_pos (by omega)] | rw [if_neg (by omega)])) <;> first | rfl | done
    · refine jj_aload_n dX8_drop_29 rfl ?_
      refine jj_iconst dX8_drop_30 (kk := ?_)
      refine zz_cVi (av := [ji (1)]) (st' := []) dX8_drop_31 kn_X8_71 kmX8_finding tt416 rfl rfl rfl (Nat.le_of_ble_eq_true rfl) (by decide) rfl (c_X8_finding g (jz_su s 416 1 (0)) 1 (by omega)) (fun hr31 ho31 => ?_)
      refine zz_retie dX8_drop_34 rfl (by decide) ?_ ?_
      · unfold v_X8_drop; (repeat (first | rw [if_pos (by omega)] | rw [if_neg (by omega)])) <;> first | rfl | done
      · unfold f_X8_drop; (repeat (first | rw [if_pos (by omega)] | rw [if_neg (by omega)])) <;> first | rfl | done
  · have hg9 := bz_f h9
    refine jj_ldc dX8_drop_12 kk_X8_70 (kk := ?_)
    refine zz_retie dX8_drop_14 rfl (by decide) ?_ ?_
    · unfold v_X8_drop; (repeat (first | rw [if_pos (by omega)] | rw [if_neg (by omega)])) <;> first | rfl | done
    · unfold f_X8_drop; (repeat (first | rw [if_pos (by omega)] | rw [if_neg (by omega)])) <;> first | rfl | done

set_option maxRecDepth 100000 in
set_option maxHeartbeats 4000000 in
theorem c_X8_bad (g : jz_G) (s : jz_St) (k : Int) : jz_C g mX8_bad [jr (416), ji (k)] s (jq_ve (f_X8_bad s k)) := by
  refine zz_C_of koX8_bad rfl (Nat.le_of_ble_eq_true rfl) ?_
  refine zz_pad 0 ?_
  show jz_Z g mX8_bad (jq_ve (f_X8_bad s k)) 0 [some (jr (416)), some (ji (k))] [] s
  refine jj_aload_n dX8_bad_0 rfl ?_
  refine zz_getI dX8_bad_1 kf_X8_81 tt416 rfl rfl ?_
  refine jj_if_ne (tgt := 20) dX8_bad_4 (by decide) (fun h4 => ?_) (fun h4 => ?_)
  · refine zz_retve dX8_bad_20 rfl (by decide) ?_
    · unfold f_X8_bad; first | (rw [if_pos (by omega)]; done) | (rw [if_neg (by omega)]; done)
  · refine jj_aload_n dX8_bad_7 rfl ?_
    refine jj_iload_n dX8_bad_8 rfl ?_
    refine zz_putI dX8_bad_9 kw_X8_81 tt416 rfl rfl ?_
    refine jj_aload_n dX8_bad_12 rfl ?_
    refine jj_aload_n dX8_bad_13 rfl ?_
    refine zz_getI dX8_bad_14 kf_X8_84 tt416 rfl rfl ?_
    refine zz_top (b := s 416 13) (jz_su_f (by decide)) ?_
    refine zz_putI dX8_bad_17 kw_X8_87 tt416 rfl rfl ?_
    refine zz_retve dX8_bad_20 rfl (by decide) ?_
    · unfold f_X8_bad; first | (rw [if_pos (by omega)]; done) | (rw [if_neg (by omega)]; done)

theorem bad_16 (s : jz_St) (k : Int) (hk : k ≠ 0) : f_X8_bad s k 416 16 ≠ 0 := by
  unfold f_X8_bad
  split
  · rw [jz_su_f (by decide), jz_su_s]; exact hk
  · assumption
set_option maxRecDepth 100000 in
set_option maxHeartbeats 4000000 in
theorem c_X8_must (g : jz_G) (s : jz_St) (b : Int) (hT : mTk s) : jz_C g mX8_must [jr (416), ji (b)] s (jq_ve (f_X8_must s b)) := by
  refine zz_C_of koX8_must rfl (Nat.le_of_ble_eq_true rfl) ?_
  refine zz_pad 0 ?_
  show jz_Z g mX8_must (jq_ve (f_X8_must s b)) 0 [some (jr (416)), some (ji (b))] [] s
  have L9 : ∀ (s' : jz_St) (hh9_0 : s' = if b = 0 then f_X8_bad s 1 else s) (hh9_1 : mTk s'), jz_Z g mX8_must (jq_ve (f_X8_must s b)) 9 [some (jr (416)), some (ji (b))] [] s' := by
    intro s' hh9_0 hh9_1
    refine jj_aload_n dX8_must_9 rfl ?_
    refine zz_getI dX8_must_10 kf_X8_81 tt416 rfl rfl ?_
    refine jj_if_ne (tgt := 20) dX8_must_13 (by decide) (fun h13 => ?_) (fun h13 => ?_)
    · refine zz_retve dX8_must_20 rfl (by decide) ?_
      · unfold f_X8_must; by_cases hb : b = 0; (· rw [if_pos hb] at hh9_0; subst hh9_0; by_cases h0 : s 416 16 = 0; (· rw [if_pos h0, if_pos hb]); (· rw [if_neg h0]; unfold f_X8_bad; rw [if_neg h0])); (· rw [if_neg hb] at hh9_0; subst hh9_0; rw [if_neg h13])
    · refine jj_aload_n dX8_must_16 rfl ?_
      refine zz_cVv (av := []) (st' := []) dX8_must_17 kn_X8_112 kmX8_nextToken tt416 rfl rfl rfl (Nat.le_of_ble_eq_true rfl) (by decide) rfl (c_X8_nextToken g s' hh9_1) (fun ho17 => ?_)
      refine zz_retve dX8_must_20 rfl (by decide) ?_
      · unfold f_X8_must; by_cases hb : b = 0; (· rw [if_pos hb] at hh9_0; subst hh9_0; exact absurd h13 (bad_16 s 1 (by decide))); (· rw [if_neg hb] at hh9_0; subst hh9_0; rw [if_pos h13, if_neg hb])
  refine jj_iload_n dX8_must_0 rfl ?_
  refine jj_if_ne (tgt := 9) dX8_must_1 (by decide) (fun h1 => ?_) (fun h1 => ?_)
  · exact L9 s (by first | (rw [if_pos (by omega)]; done) | (rw [if_neg (by omega)]; done)) (by first | exact hT | exact mTk_bad hT)
  · refine jj_aload_n dX8_must_4 rfl ?_
    refine jj_iconst dX8_must_5 (kk := ?_)
    refine zz_cVv (av := [ji (1)]) (st' := []) dX8_must_6 kn_X8_108 kmX8_bad tt416 rfl rfl rfl (Nat.le_of_ble_eq_true rfl) (by decide) rfl (c_X8_bad g s 1) (fun ho6 => ?_)
    exact L9 (f_X8_bad s 1) (by first | (rw [if_pos (by omega)]; done) | (rw [if_neg (by omega)]; done)) (by first | exact hT | exact mTk_bad hT)

set_option maxRecDepth 100000 in
set_option maxHeartbeats 4000000 in
theorem c_X8_isLetter (g : jz_G) (s : jz_St) (c : Int) : jz_C g mX8_isLetter [jr (416), ji (c)] s (jq_ie (v_X8_isLetter s c) s) := by
  refine zz_C_of koX8_isLetter rfl (Nat.le_of_ble_eq_true rfl) ?_
  refine zz_pad 0 ?_
  show jz_Z g mX8_isLetter (jq_ie (v_X8_isLetter s c) s) 0 [some (jr (416)), some (ji (c))] [] s
  refine jj_aload_n dX8_isLetter_0 rfl ?_
  refine zz_getI dX8_isLetter_1 kf_X8_81 tt416 rfl rfl ?_
  refine jj_if_ne (tgt := 27) dX8_isLetter_4 (by decide) (fun h4 => ?_) (fun h4 => ?_)
  · refine jj_iconst dX8_isLetter_27 (kk := ?_)
    refine zz_retze dX8_isLetter_28 rfl (by first | exact Or.inl rfl | exact Or.inr rfl) (by decide) ?_ ?_
    · unfold v_X8_isLetter; first | (rw [if_pos (by omega)]; done) | (rw [if_neg (by omega)]; done)
    · rfl
  · refine jj_aload_n dX8_isLetter_7 rfl ?_
    refine zz_getI dX8_isLetter_8 kf_X8_105 tt416 rfl rfl ?_
    refine jj_iconst dX8_isLetter_11 (kk := ?_)
    refine jj_icmp_ne (tgt := 27) dX8_isLetter_12 (by decide) (fun h12 => ?_) (fun h12 => ?_)
    · refine jj_iconst dX8_isLetter_27 (kk := ?_)
      refine zz_retze dX8_isLetter_28 rfl (by first | exact Or.inl rfl | exact Or.inr rfl) (by decide) ?_ ?_
      · unfold v_X8_isLetter; first | (rw [if_pos (by omega)]; done) | (rw [if_neg (by omega)]; done)
      · rfl
    · refine jj_aload_n dX8_isLetter_15 rfl ?_
      refine zz_getI dX8_isLetter_16 kf_X8_94 tt416 rfl rfl ?_
      refine jj_iload_n dX8_isLetter_19 rfl ?_
      refine jj_icmp_ne (tgt := 27) dX8_isLetter_20 (by decide) (fun h20 => ?_) (fun h20 => ?_)
      · refine jj_iconst dX8_isLetter_27 (kk := ?_)
        refine zz_retze dX8_isLetter_28 rfl (by first | exact Or.inl rfl | exact Or.inr rfl) (by decide) ?_ ?_
        · unfold v_X8_isLetter; first | (rw [if_pos (by omega)]; done) | (rw [if_neg (by omega)]; done)
        · rfl
      · refine jj_iconst dX8_isLetter_23 (kk := ?_)
        refine jj_goto (tgt := 28) dX8_isLetter_24 (by decide) ?_
        refine zz_retze dX8_isLetter_28 rfl (by first | exact Or.inl rfl | exact Or.inr rfl) (by decide) ?_ ?_
        · unfold v_X8_isLetter; first | (rw [if_pos (by omega)]; done) | (rw [if_neg (by omega)]; done)
        · rfl

set_option maxRecDepth 100000 in
set_option maxHeartbeats 4000000 in
theorem c_X8_kindBy (g : jz_G) (s : jz_St) (z : Int) : jz_C g mX8_kindBy [ji (z)] s (jq_ie (fKb z) s) := by
  refine zz_C_of koX8_kindBy rfl (Nat.le_of_ble_eq_true rfl) ?_
  refine zz_pad 0 ?_
  show jz_Z g mX8_kindBy (jq_ie (fKb z) s) 0 [some (ji (z))] [] s
  refine jj_iload_n dX8_kindBy_0 rfl ?_
  refine jj_bipush dX8_kindBy_1 (kk := ?_)
  refine jj_icmp_ne (tgt := 10) dX8_kindBy_3 (by decide) (fun h3 => ?_) (fun h3 => ?_)
  · refine jj_iload_n dX8_kindBy_10 rfl ?_
    refine jj_bipush dX8_kindBy_11 (kk := ?_)
    refine jj_icmp_ne (tgt := 20) dX8_kindBy_13 (by decide) (fun h13 => ?_) (fun h13 => ?_)
    · refine jj_iload_n dX8_kindBy_20 rfl ?_
      refine jj_bipush dX8_kindBy_21 (kk := ?_)
      refine jj_icmp_ne (tgt := 30) dX8_kindBy_23 (by decide) (fun h23 => ?_) (fun h23 => ?_)
      · refine jj_iload_n dX8_kindBy_30 rfl ?_
        refine jj_bipush dX8_kindBy_31 (kk := ?_)
        refine jj_icmp_ne (tgt := 40) dX8_kindBy_33 (by decide) (fun h33 => ?_) (fun h33 => ?_)
        · refine jj_iload_n dX8_kindBy_40 rfl ?_
          refine jj_bipush dX8_kindBy_41 (kk := ?_)
          refine jj_icmp_ne (tgt := 50) dX8_kindBy_43 (by decide) (fun h43 => ?_) (fun h43 => ?_)
          · refine jj_ldc dX8_kindBy_50 kk_X8_93 (kk := ?_)
            refine zz_retie dX8_kindBy_52 rfl (by decide) ?_ ?_
            · unfold fKb; (repeat (first | rw [if_pos (by omega)] | rw [if_neg (by omega)]))
            · rfl
          · refine jj_iconst dX8_kindBy_46 (kk := ?_)
            refine jj_goto (tgt := 52) dX8_kindBy_47 (by decide) ?_
            refine zz_retie dX8_kindBy_52 rfl (by decide) ?_ ?_
            · unfold fKb; (repeat (first | rw [if_pos (by omega)] | rw [if_neg (by omega)]))
            · rfl
        · refine jj_iconst dX8_kindBy_36 (kk := ?_)
          refine jj_goto (tgt := 52) dX8_kindBy_37 (by decide) ?_
          refine zz_retie dX8_kindBy_52 rfl (by decide) ?_ ?_
          · unfold fKb; (repeat (first | rw [if_pos (by omega)] | rw [if_neg (by omega)]))
          · rfl
      · refine jj_iconst dX8_kindBy_26 (kk := ?_)
        refine jj_goto (tgt := 52) dX8_kindBy_27 (by decide) ?_
        refine zz_retie dX8_kindBy_52 rfl (by decide) ?_ ?_
        · unfold fKb; (repeat (first | rw [if_pos (by omega)] | rw [if_neg (by omega)]))
        · rfl
    · refine jj_iconst dX8_kindBy_16 (kk := ?_)
      refine jj_goto (tgt := 52) dX8_kindBy_17 (by decide) ?_
      refine zz_retie dX8_kindBy_52 rfl (by decide) ?_ ?_
      · unfold fKb; (repeat (first | rw [if_pos (by omega)] | rw [if_neg (by omega)]))
      · rfl
  · refine jj_iconst dX8_kindBy_6 (kk := ?_)
    refine jj_goto (tgt := 52) dX8_kindBy_7 (by decide) ?_
    refine zz_retie dX8_kindBy_52 rfl (by decide) ?_ ?_
    · unfold fKb; (repeat (first | rw [if_pos (by omega)] | rw [if_neg (by omega)]))
    · rfl

set_option maxRecDepth 100000 in
set_option maxHeartbeats 4000000 in
theorem c_X8_isSort (g : jz_G) (s : jz_St)  : jz_C g mX8_isSort [jr (416)] s (jq_ie (v_X8_isSort s) s) := by
  refine zz_C_of koX8_isSort rfl (Nat.le_of_ble_eq_true rfl) ?_
  refine zz_pad 0 ?_
  show jz_Z g mX8_isSort (jq_ie (v_X8_isSort s) s) 0 [some (jr (416))] [] s
  refine jj_aload_n dX8_isSort_0 rfl ?_
  refine zz_getI dX8_isSort_1 kf_X8_81 tt416 rfl rfl ?_
  refine jj_if_ne (tgt := 31) dX8_isSort_4 (by decide) (fun h4 => ?_) (fun h4 => ?_)
  · refine jj_iconst dX8_isSort_31 (kk := ?_)
    refine zz_retze dX8_isSort_32 rfl (by first | exact Or.inl rfl | exact Or.inr rfl) (by decide) ?_ ?_
    · unfold v_X8_isSort; first | (rw [if_pos ⟨by omega, by omega, by omega⟩]; done) | (rw [if_neg (fun q => by have := q.1; have := q.2.1; have := q.2.2; omega)]; done)
    · rfl
  · refine jj_aload_n dX8_isSort_7 rfl ?_
    refine zz_getI dX8_isSort_8 kf_X8_105 tt416 rfl rfl ?_
    refine jj_iconst dX8_isSort_11 (kk := ?_)
    refine jj_icmp_ne (tgt := 31) dX8_isSort_12 (by decide) (fun h12 => ?_) (fun h12 => ?_)
    · refine jj_iconst dX8_isSort_31 (kk := ?_)
      refine zz_retze dX8_isSort_32 rfl (by first | exact Or.inl rfl | exact Or.inr rfl) (by decide) ?_ ?_
      · unfold v_X8_isSort; first | (rw [if_pos ⟨by omega, by omega, by omega⟩]; done) | (rw [if_neg (fun q => by have := q.1; have := q.2.1; have := q.2.2; omega)]; done)
      · rfl
    · refine jj_aload_n dX8_isSort_15 rfl ?_
      refine zz_getI dX8_isSort_16 kf_X8_94 tt416 rfl rfl ?_
      refine zz_cSi (av := [ji (s 416 15)]) (st' := []) dX8_isSort_19 kn_X8_122 kmX8_kindBy rfl rfl (Nat.le_of_ble_eq_true rfl) (by decide) rfl (c_X8_kindBy g s (s 416 15)) (fun hr19 ho19 => ?_)
      refine jj_ldc dX8_isSort_22 kk_X8_93 (kk := ?_)
      refine jj_icmp_eq (tgt := 31) dX8_isSort_24 (by decide) (fun h24 => ?_) (fun h24 => ?_)
      · refine jj_iconst dX8_isSort_31 (kk := ?_)
        refine zz_retze dX8_isSort_32 rfl (by first | exact Or.inl rfl | exact Or.inr rfl) (by decide) ?_ ?_
        · unfold v_X8_isSort; first | (rw [if_pos ⟨by omega, by omega, by omega⟩]; done) | (rw [if_neg (fun q => by have := q.1; have := q.2.1; have := q.2.2; omega)]; done)
        · rfl
      · refine jj_iconst dX8_isSort_27 (kk := ?_)
        refine jj_goto (tgt := 32) dX8_isSort_28 (by decide) ?_
        refine zz_retze dX8_isSort_32 rfl (by first | exact Or.inl rfl | exact Or.inr rfl) (by decide) ?_ ?_
        · unfold v_X8_isSort; first | (rw [if_pos ⟨by omega, by omega, by omega⟩]; done) | (rw [if_neg (fun q => by have := q.1; have := q.2.1; have := q.2.2; omega)]; done)
        · rfl

