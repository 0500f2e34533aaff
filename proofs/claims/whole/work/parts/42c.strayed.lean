def v_X8_strayed (s : jz_St) (l r fr n : Int) : Int := if (0 ≤ l ∧ l ≤ s 420 3 - 1) ∧ (0 ≤ r ∧ r ≤ 7) ∧ 1 ≤ n ∧ n ≤ 12 then (if s 417 r.toNat < 0 then -1000011 else if 0 ≤ fr ∧ fr + n ≤ s 418 r.toNat then rSt (jz_su s 416 1 0) l.toNat (40 * r + fr).toNat n (s 420 4).toNat else -1000012) else -1000001
def f_X8_strayed (s : jz_St) (l r fr n : Int) : jz_St := if (0 ≤ l ∧ l ≤ s 420 3 - 1) ∧ (0 ≤ r ∧ r ≤ 7) ∧ 1 ≤ n ∧ n ≤ 12 then (if s 417 r.toNat < 0 then jz_su s 416 1 1 else if 0 ≤ fr ∧ fr + n ≤ s 418 r.toNat then rStS (jz_su s 416 1 0) n (s 420 4).toNat else jz_su s 416 1 2) else s
set_option maxRecDepth 100000 in
set_option maxHeartbeats 4000000 in
theorem c_X8_strayed (g : jz_G) (s : jz_St) (l r fr n : Int) (hM : mIn s)  : jz_C g mX8_strayed [jr (416), ji (l), ji (r), ji (fr), ji (n)] s (jq_ie (v_X8_strayed s l r fr n) (f_X8_strayed s l r fr n)) := by
  refine zz_C_of koX8_strayed rfl (Nat.le_of_ble_eq_true rfl) ?_
  refine zz_pad 2 ?_
  show jz_Z g mX8_strayed (jq_ie (v_X8_strayed s l r fr n) (f_X8_strayed s l r fr n)) 0 [some (jr (416)), some (ji (l)), some (ji (r)), some (ji (fr)), some (ji (n)), none, none] [] s
  have hL := hM.1
  have hm := hM.2.1
  have ha := hM.2.2.1
  have htr := hM.2.2.2
  have hmh := mRw_h hm
  refine zz_rng fun _ _ hl => ?_
  have hIfr : jI fr := hl (ji fr) (by simp)
  have hIn : jI n := hl (ji n) (by simp)
  have hLr := hL.2 r.toNat
  have hj0_0 := @jc_lt (fr + n) (s 418 r.toNat)
  have hj0_1 := @jc_gt (fr + n) (s 418 r.toNat)
  have hj0_2 := @jc_le (fr + n) (s 418 r.toNat)
  refine jj_aload_n dX8_strayed_0 rfl ?_
  refine jj_iconst dX8_strayed_1 (kk := ?_)
  refine zz_putI dX8_strayed_2 kw_X8_50 tt416 rfl rfl ?_
  refine zz_st (s1 := s) (by exact jz_su_id hL.1) ?_
  refine jj_aload_n dX8_strayed_5 rfl ?_
  refine jj_iload_n dX8_strayed_6 rfl ?_
  refine zz_cVi (av := [ji (l)]) (st' := []) dX8_strayed_7 kn_X8_193 kmX8_isLeaf tt416 rfl rfl rfl (Nat.le_of_ble_eq_true rfl) (by decide) rfl (c_X8_isLeaf g s l (by omega)) (fun hr7 ho7 => ?_)
  refine jj_if_eq (tgt := 33) dX8_strayed_10 (by decide) (fun h10 => ?_) (fun h10 => ?_)
  · have hg10 := bz_f h10
    refine jj_ldc dX8_strayed_33 kk_X8_70 (kk := ?_)
    refine zz_retie dX8_strayed_35 rfl (by decide) ?_ ?_
    · unfold v_X8_strayed; (repeat (first | rw [if_pos (by omega)] | rw [if_neg (by omega)])) <;> first | rfl | done
    · unfold f_X8_strayed; (repeat (first | rw [if_pos (by omega)] | rw [if_neg (by omega)])) <;> first | rfl | done
  · have hg10 := bz_t h10
    refine jj_iload_n dX8_strayed_13 rfl ?_
    refine zz_cSi (av := [ji (r)]) (st' := []) dX8_strayed_14 kn_X8_64 kmX8_isRow rfl rfl (Nat.le_of_ble_eq_true rfl) (by decide) rfl (c_X8_isRow g s r) (fun hr14 ho14 => ?_)
    refine jj_if_eq (tgt := 33) dX8_strayed_17 (by decide) (fun h17 => ?_) (fun h17 => ?_)
    · have hg17 := bz_f h17
      refine jj_ldc dX8_strayed_33 kk_X8_70 (kk := ?_)
      refine zz_retie dX8_strayed_35 rfl (by decide) ?_ ?_
      · unfold v_X8_strayed; (repeat (first | rw [if_pos (by omega)] | rw [if_neg (by omega)])) <;> first | rfl | done
      · unfold f_X8_strayed; (repeat (first | rw [if_pos (by omega)] | rw [if_neg (by omega)])) <;> first | rfl | done
    · have hg17 := bz_t h17
      refine jj_iload dX8_strayed_20 rfl ?_
      refine jj_i2l dX8_strayed_22 ?_
      refine jj_lconst (z := 1) dX8_strayed_23 (kk := ?_)
      refine jj_ldc2 dX8_strayed_24 kk_X8_228 (kk := ?_)
      refine zz_cSi (av := [jl (n), jl (1), jl (12)]) (st' := []) dX8_strayed_27 kn_X8_60 kmX8_in rfl rfl (Nat.le_of_ble_eq_true rfl) (by decide) rfl (c_X8_in g s n 1 12) (fun hr27 ho27 => ?_)
      refine jj_if_ne (tgt := 36) dX8_strayed_30 (by decide) (fun h30 => ?_) (fun h30 => ?_)
      · have hg30 := bz_t h30
        refine jj_aload_n dX8_strayed_36 rfl ?_
        refine zz_getR dX8_strayed_37 kf_X8_7 tt416 rfl ?_
        refine jj_iload_n dX8_strayed_40 rfl ?_
        refine zz_ialdN (j := r.toNat) dX8_strayed_41 tt417 (by omega) (by omega) ?_
        refine jj_if_ge (tgt := 51) dX8_strayed_42 (by decide) (fun h42 => ?_) (fun h42 => ?_)
        · refine jj_iload_n dX8_strayed_51 rfl ?_
          refine jj_if_lt (tgt := 72) dX8_strayed_52 (by decide) (fun h52 => ?_) (fun h52 => ?_)
          · refine jj_aload_n dX8_strayed_72 rfl ?_
            refine jj_iconst dX8_strayed_73 (kk := ?_)
            refine zz_cVi (av := [ji (2)]) (st' := []) dX8_strayed_74 kn_X8_71 kmX8_finding tt416 rfl rfl rfl (Nat.le_of_ble_eq_true rfl) (by decide) rfl (c_X8_finding g s 2 (by omega)) (fun hr74 ho74 => ?_)
            refine zz_retie dX8_strayed_77 rfl (by decide) ?_ ?_
            · unfold v_X8_strayed; (repeat (first | rw [if_pos (by omega)] | rw [if_neg (by omega)])) <;> first | rfl | done
            · unfold f_X8_strayed; (repeat (first | rw [if_pos (by omega)] | rw [if_neg (by omega)])) <;> first | rfl | done
          · refine jj_iload_n dX8_strayed_55 rfl ?_
            refine jj_i2l dX8_strayed_56 ?_
            refine jj_iload dX8_strayed_57 rfl ?_
            refine jj_i2l dX8_strayed_59 ?_
            refine jj_ladd dX8_strayed_60 (by omega) ?_
            refine jj_aload_n dX8_strayed_61 rfl ?_
            refine zz_getR dX8_strayed_62 kf_X8_13 tt416 rfl ?_
            refine jj_iload_n dX8_strayed_65 rfl ?_
            refine zz_ialdN (j := r.toNat) dX8_strayed_66 tt418 (by omega) (by omega) ?_
            refine jj_i2l dX8_strayed_67 ?_
            refine jj_lcmp dX8_strayed_68 ?_
            refine jj_if_le (tgt := 78) dX8_strayed_69 (by decide) (fun h69 => ?_) (fun h69 => ?_)
            · refine jj_aload_n dX8_strayed_78 rfl ?_
              refine jj_iconst dX8_strayed_79 (kk := ?_)
              refine zz_putI dX8_strayed_80 kw_X8_54 tt416 rfl rfl ?_
              refine jj_aload_n dX8_strayed_83 rfl ?_
              refine zz_cVv (av := []) (st' := []) dX8_strayed_84 kn_X8_177 kmX8_layThen tt416 rfl rfl rfl (Nat.le_of_ble_eq_true rfl) (by decide) rfl (c_X8_layThen g (jz_su s 416 1 (0))) (fun ho84 => ?_)
              have hM1 : mRw (f_X8_layThen (jz_su s 416 1 0) 422) 999 := layThen_mr (by rw [jz_su_o (by decide)]; exact hm)
              refine jj_aload_n dX8_strayed_87 rfl ?_
              refine jj_iload_n dX8_strayed_88 rfl ?_
              refine jj_bipush dX8_strayed_89 (kk := ?_)
              refine jj_iload_n dX8_strayed_91 rfl ?_
              refine jj_imul dX8_strayed_92 (by omega) ?_
              refine jj_iload_n dX8_strayed_93 rfl ?_
              refine jj_iadd dX8_strayed_94 (by omega) ?_
              refine jj_iload dX8_strayed_95 rfl ?_
              refine zz_cVi (av := [ji (l), ji ((40 * r) + fr), ji (n)]) (st' := []) dX8_strayed_97 kn_X8_230 kmX8_isSo tt416 rfl rfl rfl (Nat.le_of_ble_eq_true rfl) (by decide) rfl (c_X8_isSo g (f_X8_layThen (jz_su s 416 1 (0))) l.toNat l (by omega) (((40 * r) + fr).toNat) ((40 * r) + fr) (by omega) n.toNat n (by omega) 999 hM1 (by omega) (by omega)) (fun hr97 ho97 => ?_)
              have L109 : ∀ (d0 : Int) (hh109_0 : d0 = rSt (jz_su s 416 1 0) l.toNat (40 * r + fr).toNat n 0), jz_Z g mX8_strayed (jq_ie (v_X8_strayed s l r fr n) (f_X8_strayed s l r fr n)) 109 [some (jr (416)), some (ji (l)), some (ji (r)), some (ji (fr)), some (ji (n)), none, none] [ji (d0)] (rStS (jz_su s 416 1 0) n 0) := by
                intro d0 hh109_0
                refine jj_istore (ls' := [some (jr (416)), some (ji (l)), some (ji (r)), some (ji (fr)), some (ji (n)), some (ji (d0)), none]) dX8_strayed_109 (by decide) rfl rfl ?_
                refine jj_iconst dX8_strayed_111 (kk := ?_)
                refine jj_istore (ls' := [some (jr (416)), some (ji (l)), some (ji (r)), some (ji (fr)), some (ji (n)), some (ji (d0)), some (ji (0))]) dX8_strayed_112 (by decide) rfl rfl ?_
                have L114 : ∀ (nn : Nat) (j : Nat) (acc : Int) (hh114_0 : (j : Int) ≤ s 420 4) (hh114_1 : acc = rSt (jz_su s 416 1 0) l.toNat (40 * r + fr).toNat n j), 4 - j < nn → jz_Z g mX8_strayed (jq_ie (v_X8_strayed s l r fr n) (f_X8_strayed s l r fr n)) 114 [some (jr (416)), some (ji (l)), some (ji (r)), some (ji (fr)), some (ji (n)), some (ji (acc)), some (ji ((j : Int)))] [] (rStS (jz_su s 416 1 0) n j) := by
                  intro nn
                  induction nn with
                  | zero => intro j acc hh114_0 hh114_1 hmz; exact absurd hmz (Nat.not_lt_zero _)
                  | succ nn ih114 =>
                    intro j acc hh114_0 hh114_1 hm114
                    refine jj_iload dX8_strayed_114 rfl ?_
                    refine jj_aload_n dX8_strayed_116 rfl ?_
                    refine zz_getR dX8_strayed_117 kf_X8_19 tt416 rfl ?_
                    refine jj_iconst dX8_strayed_120 (kk := ?_)
                    refine zz_ialdN (j := 4) dX8_strayed_121 tt420 (by omega) (by omega) ?_
                    refine zz_top (b := s 420 4) (by rw [stS_o _ _ (by decide) (by decide) (by decide), jz_su_o (by decide)]) ?_
                    refine jj_icmp_ge (tgt := 170) dX8_strayed_122 (by decide) (fun h122 => ?_) (fun h122 => ?_)
                    · refine jj_iload dX8_strayed_170 rfl ?_
                      refine zz_retie dX8_strayed_172 rfl (by decide) ?_ ?_
                      · unfold v_X8_strayed; rw [if_pos (by omega), if_neg (by omega), if_pos (by omega), show (s 420 4).toNat = j by omega]; exact hh114_1
                      · unfold f_X8_strayed; rw [if_pos (by omega), if_neg (by omega), if_pos (by omega), show (s 420 4).toNat = j by omega]
                    · have h420 : rStS (jz_su s 416 1 0) n j 420 = s 420 := by rw [stS_o _ _ (by decide) (by decide) (by decide), jz_su_o (by decide)]
                      have hM2 : mRw ((rStT (rStS (jz_su s 416 1 0) n j) n j) 422) 999 := layOff_mr (by omega) (by rw [h420]; exact hm)
                      have hx4 : rStS (jz_su s 416 1 0) n j 420 4 = s 420 4 := by rw [h420]
                      refine jj_aload_n dX8_strayed_125 rfl ?_
                      refine jj_iconst dX8_strayed_126 (kk := ?_)
                      refine jj_iload dX8_strayed_127 rfl ?_
                      refine jj_ishl dX8_strayed_129 ?_
                      refine jj_iload dX8_strayed_130 rfl ?_
                      refine zz_cVv (av := [ji (jshl (1) ((j : Int))), ji (n)]) (st' := []) dX8_strayed_132 kn_X8_224 kmX8_layOff tt416 rfl rfl rfl (Nat.le_of_ble_eq_true rfl) (by decide) rfl (c_X8_layOff g (rStS (jz_su s 416 1 0) n j) (jshl (1) ((j : Int))) n (by omega)) (fun ho132 => ?_)
                      refine zz_st (s1 := rStT (rStS (jz_su s 416 1 0) n j) n j) (by rfl) ?_
                      refine jj_iload dX8_strayed_135 rfl ?_
                      refine jj_aload_n dX8_strayed_137 rfl ?_
                      refine jj_iload_n dX8_strayed_138 rfl ?_
                      refine jj_bipush dX8_strayed_139 (kk := ?_)
                      refine jj_iload_n dX8_strayed_141 rfl ?_
                      refine jj_imul dX8_strayed_142 (by omega) ?_
                      refine jj_iload_n dX8_strayed_143 rfl ?_
                      refine jj_iadd dX8_strayed_144 (by omega) ?_
                      refine jj_iload dX8_strayed_145 rfl ?_
                      refine zz_cVi (av := [ji (l), ji ((40 * r) + fr), ji (n)]) (st' := [ji (acc)]) dX8_strayed_147 kn_X8_230 kmX8_isSo tt416 rfl rfl rfl (Nat.le_of_ble_eq_true rfl) (by decide) rfl (c_X8_isSo g (rStT (rStS (jz_su s 416 1 0) n j) n j) l.toNat l (by omega) (((40 * r) + fr).toNat) ((40 * r) + fr) (by omega) n.toNat n (by omega) 999 hM2 (by omega) (by omega)) (fun hr147 ho147 => ?_)
                      have L161 : ∀ (d : Int) (hh161_0 : d = if rSo (rStT (rStS (jz_su s 416 1 0) n j) n j) l.toNat (40 * r + fr).toNat n.toNat = 0 then 0 else jshl 1 j), jz_Z g mX8_strayed (jq_ie (v_X8_strayed s l r fr n) (f_X8_strayed s l r fr n)) 161 [some (jr (416)), some (ji (l)), some (ji (r)), some (ji (fr)), some (ji (n)), some (ji (acc)), some (ji ((j : Int)))] [ji (d), ji (acc)] (f_X8_hoursOf (rStT (rStS (jz_su s 416 1 0) n j) n j) 422 n.toNat) := by
                        intro d hh161_0
                        refine jj_ior dX8_strayed_161 ?_
                        refine jj_istore (ls' := [some (jr (416)), some (ji (l)), some (ji (r)), some (ji (fr)), some (ji (n)), some (ji (jor (acc) (d))), some (ji ((j : Int)))]) dX8_strayed_162 (by decide) rfl rfl ?_
                        refine jj_iinc (ls' := [some (jr (416)), some (ji (l)), some (ji (r)), some (ji (fr)), some (ji (n)), some (ji (jor (acc) (d))), some (ji ((j : Int) + 1))]) dX8_strayed_164 rfl (by decide) rfl (by omega) rfl ?_
                        refine jj_goto (tgt := 114) dX8_strayed_167 (by decide) ?_
                        refine zz_st (s1 := rStS (jz_su s 416 1 0) n (j + 1)) (by rfl) ?_
                        exact ih114 (j + 1) (jor (acc) (d)) (by omega) (by simp only [rSt]; rw [← hh114_1, ← hh161_0]) (by omega)
                      refine jj_if_eq (tgt := 160) dX8_strayed_150 (by decide) (fun h150 => ?_) (fun h150 => ?_)
                      · refine jj_iconst dX8_strayed_160 (kk := ?_)
                        exact L161 0 (by first | (rw [if_pos (by omega)]; done) | (rw [if_neg (by omega)]; done))
                      · refine jj_iconst dX8_strayed_153 (kk := ?_)
                        refine jj_iload dX8_strayed_154 rfl ?_
                        refine jj_ishl dX8_strayed_156 ?_
                        refine jj_goto (tgt := 161) dX8_strayed_157 (by decide) ?_
                        exact L161 (jshl (1) ((j : Int))) (by first | (rw [if_pos (by omega)]; done) | (rw [if_neg (by omega)]; done))
                exact L114 _ 0 d0 (by omega) (by exact hh109_0) (Nat.lt_succ_self _)
              refine zz_st (s1 := rStS (jz_su s 416 1 0) n 0) (by rfl) ?_
              refine jj_if_eq (tgt := 108) dX8_strayed_100 (by decide) (fun h100 => ?_) (fun h100 => ?_)
              · refine jj_iconst dX8_strayed_108 (kk := ?_)
                exact L109 0 (by simp only [rSt]; first | (rw [if_pos (by omega)]; done) | (rw [if_neg (by omega)]; done))
              · refine jj_bipush dX8_strayed_103 (kk := ?_)
                refine jj_goto (tgt := 109) dX8_strayed_105 (by decide) ?_
                exact L109 16 (by simp only [rSt]; first | (rw [if_pos (by omega)]; done) | (rw [if_neg (by omega)]; done))
            · refine jj_aload_n dX8_strayed_72 rfl ?_
              refine jj_iconst dX8_strayed_73 (kk := ?_)
              refine zz_cVi (av := [ji (2)]) (st' := []) dX8_strayed_74 kn_X8_71 kmX8_finding tt416 rfl rfl rfl (Nat.le_of_ble_eq_true rfl) (by decide) rfl (c_X8_finding g s 2 (by omega)) (fun hr74 ho74 => ?_)
              refine zz_retie dX8_strayed_77 rfl (by decide) ?_ ?_
              · unfold v_X8_strayed; (repeat (first | rw [if_pos (by omega)] | rw [if_neg (by omega)])) <;> first | rfl | done
              · unfold f_X8_strayed; (repeat (first | rw [if_pos (by omega)] | rw [if_neg (by omega)])) <;> first | rfl | done
        · refine jj_aload_n dX8_strayed_45 rfl ?_
          refine jj_iconst dX8_strayed_46 (kk := ?_)
          refine zz_cVi (av := [ji (1)]) (st' := []) dX8_strayed_47 kn_X8_71 kmX8_finding tt416 rfl rfl rfl (Nat.le_of_ble_eq_true rfl) (by decide) rfl (c_X8_finding g s 1 (by omega)) (fun hr47 ho47 => ?_)
          refine zz_retie dX8_strayed_50 rfl (by decide) ?_ ?_
          · unfold v_X8_strayed; (repeat (first | rw [if_pos (by omega)] | rw [if_neg (by omega)])) <;> first | rfl | done
          · unfold f_X8_strayed; (repeat (first | rw [if_pos (by omega)] | rw [if_neg (by omega)])) <;> first | rfl | done
      · have hg30 := bz_f h30
        refine jj_ldc dX8_strayed_33 kk_X8_70 (kk := ?_)
        refine zz_retie dX8_strayed_35 rfl (by decide) ?_ ?_
        · unfold v_X8_strayed; (repeat (first | rw [if_pos (by omega)] | rw [if_neg (by omega)])) <;> first | rfl | done
        · unfold f_X8_strayed; (repeat (first | rw [if_pos (by omega)] | rw [if_neg (by omega)])) <;> first | rfl | done

