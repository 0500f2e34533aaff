set_option maxRecDepth 100000 in
set_option maxHeartbeats 4000000 in
theorem c_X8_squareW (g : jz_G) (s : jz_St) (hL : mLn s) (hT : mTp s) (hp : 0 < f_X8_fail1 (f_X8_sqG s) 416 16 → 0 ≤ f_X8_sqH s 416 17 ∧ f_X8_sqH s 416 17 ≤ 1000) : jz_C g mX8_square [jr (416)] s (jq_ie (v_X8_square s) (f_X8_square s)) := by
  refine zz_C_of koX8_square rfl (Nat.le_of_ble_eq_true rfl) ?_
  refine zz_pad 1 ?_
  show jz_Z g mX8_square (jq_ie (v_X8_square s) (f_X8_square s)) 0 [some (jr (416)), none] [] s
  refine jj_aload_n dX8_square_0 rfl ?_
  refine jj_iconst dX8_square_1 (kk := ?_)
  refine zz_putI dX8_square_2 kw_X8_50 tt416 rfl rfl ?_
  refine zz_st (s1 := s) (by exact jz_su_id hL.1) ?_
  refine jj_aload_n dX8_square_5 rfl ?_
  refine zz_cVv (av := []) (st' := []) dX8_square_6 kn_X8_135 kmX8_begin tt416 rfl rfl rfl (Nat.le_of_ble_eq_true rfl) (by decide) rfl (c_X8_begin g s hT) (fun ho6 => ?_)
  refine jj_iconst dX8_square_9 (kk := ?_)
  refine jj_istore_n (ls' := [some (jr (416)), some (ji (0))]) dX8_square_10 (by decide) rfl rfl ?_
  have L11 : ∀ (nn : Nat) (j : Nat) (hh11_0 : j ≤ 53), 53 - j < nn → jz_Z g mX8_square (jq_ie (v_X8_square s) (f_X8_square s)) 11 [some (jr (416)), some (ji ((j : Int)))] [] (f_X8_zf (f_X8_begin s) j) := by
    intro nn
    induction nn with
    | zero => intro j hh11_0 hmz; exact absurd hmz (Nat.not_lt_zero _)
    | succ nn ih11 =>
      intro j hh11_0 hm11
      refine jj_iload_n dX8_square_11 rfl ?_
      refine jj_bipush dX8_square_12 (kk := ?_)
      refine jj_icmp_ge (tgt := 30) dX8_square_14 (by decide) (fun h14 => ?_) (fun h14 => ?_)
      · obtain rfl : j = 53 := (by omega)
        refine jj_aload_n dX8_square_30 rfl ?_
        refine zz_getR dX8_square_31 kf_X8_22 tt416 rfl ?_
        refine jj_iconst dX8_square_34 (kk := ?_)
        refine jj_iconst dX8_square_35 (kk := ?_)
        refine zz_iastN (j := 0) dX8_square_36 tt421 (by omega) (by omega) ?_
        refine zz_st (s1 := f_X8_sqA s) (by rfl) ?_
        refine jj_aload_n dX8_square_37 rfl ?_
        refine jj_aload_n dX8_square_38 rfl ?_
        refine jj_bipush dX8_square_39 (kk := ?_)
        refine zz_cVi (av := [ji (118)]) (st' := [jr (416)]) dX8_square_41 kn_X8_132 kmX8_isLetter tt416 rfl rfl rfl (Nat.le_of_ble_eq_true rfl) (by decide) rfl (c_X8_isLetter g (f_X8_sqA s) 118) (fun hr41 ho41 => ?_)
        refine zz_cVv (av := [ji (v_X8_isLetter (f_X8_sqA s) 118)]) (st' := []) dX8_square_44 kn_X8_115 kmX8_must tt416 rfl rfl rfl (Nat.le_of_ble_eq_true rfl) (by decide) rfl (c_X8_must g (f_X8_sqA s) (v_X8_isLetter (f_X8_sqA s) 118) (mTk_sqA hT)) (fun ho44 => ?_)
        refine zz_st (s1 := f_X8_sqB s) (by rfl) ?_
        refine jj_aload_n dX8_square_47 rfl ?_
        refine zz_getR dX8_square_48 kf_X8_22 tt416 rfl ?_
        refine jj_iconst dX8_square_51 (kk := ?_)
        refine jj_aload_n dX8_square_52 rfl ?_
        refine jj_iconst dX8_square_53 (kk := ?_)
        refine jj_bipush dX8_square_54 (kk := ?_)
        refine zz_cVi (av := [ji (0), ji (9)]) (st' := [ji (1), jr (421)]) dX8_square_56 kn_X8_125 kmX8_number tt416 rfl rfl rfl (Nat.le_of_ble_eq_true rfl) (by decide) rfl (c_X8_number g (f_X8_sqB s) 0 9 (mTk_sqB hT)) (fun hr56 ho56 => ?_)
        refine zz_iastN (j := 1) dX8_square_59 tt421 (by omega) (by omega) ?_
        refine jj_aload_n dX8_square_60 rfl ?_
        refine jj_bipush dX8_square_61 (kk := ?_)
        refine zz_cVv (av := [ji (44)]) (st' := []) dX8_square_63 kn_X8_129 kmX8_mustSign tt416 rfl rfl rfl (Nat.le_of_ble_eq_true rfl) (by decide) rfl (c_X8_mustSign g (jz_su (f_X8_number (f_X8_sqB s) 0 9) 421 1 (v_X8_number (f_X8_sqB s) 0 9)) 44 (mTk_su (mTk_number (mTk_sqB hT)) (by decide) (Or.inl (by decide)))) (fun ho63 => ?_)
        refine zz_st (s1 := f_X8_sqC s) (by rfl) ?_
        refine jj_aload_n dX8_square_66 rfl ?_
        refine zz_getR dX8_square_67 kf_X8_22 tt416 rfl ?_
        refine jj_iconst dX8_square_70 (kk := ?_)
        refine jj_aload_n dX8_square_71 rfl ?_
        refine jj_iconst dX8_square_72 (kk := ?_)
        refine jj_bipush dX8_square_73 (kk := ?_)
        refine zz_cVi (av := [ji (1), ji (9)]) (st' := [ji (2), jr (421)]) dX8_square_75 kn_X8_125 kmX8_number tt416 rfl rfl rfl (Nat.le_of_ble_eq_true rfl) (by decide) rfl (c_X8_number g (f_X8_sqC s) 1 9 (mTk_sqC hT)) (fun hr75 ho75 => ?_)
        refine zz_iastN (j := 2) dX8_square_78 tt421 (by omega) (by omega) ?_
        refine jj_aload_n dX8_square_79 rfl ?_
        refine jj_bipush dX8_square_80 (kk := ?_)
        refine zz_cVv (av := [ji (59)]) (st' := []) dX8_square_82 kn_X8_129 kmX8_mustSign tt416 rfl rfl rfl (Nat.le_of_ble_eq_true rfl) (by decide) rfl (c_X8_mustSign g (jz_su (f_X8_number (f_X8_sqC s) 1 9) 421 2 (v_X8_number (f_X8_sqC s) 1 9)) 59 (mTk_su (mTk_number (mTk_sqC hT)) (by decide) (Or.inl (by decide)))) (fun ho82 => ?_)
        refine zz_st (s1 := f_X8_sqD s) (by rfl) ?_
        refine jj_aload_n dX8_square_85 rfl ?_
        have L97 : ∀ (nn : Nat) (j : Nat) (sx : jz_St) (hh97_0 : f_X8_rL (f_X8_sqE s) 9 = f_X8_rL sx (9 - j)) (hh97_1 : mTk sx) (hh97_2 : sx 421 4 = 0) (hh97_3 : (sx 416 16 = 0 ∧ sx 421 3 = j ∧ j ≤ 7) ∨ (sx 416 16 ≠ 0 ∧ (0 ≤ sx 421 3 ∧ sx 421 3 ≤ 7) ∧ j ≤ 8)), 9 - j < nn → jz_Z g mX8_square (jq_ie (v_X8_square s) (f_X8_square s)) 97 [some (jr (416)), none] [] sx := by
          intro nn
          induction nn with
          | zero => intro j sx hh97_0 hh97_1 hh97_2 hh97_3 hmz; exact absurd hmz (Nat.not_lt_zero _)
          | succ nn ih97 =>
            intro j sx hh97_0 hh97_1 hh97_2 hh97_3 hm97
            refine jj_aload_n dX8_square_97 rfl ?_
            refine zz_cVi (av := []) (st' := []) dX8_square_98 kn_X8_138 kmX8_isSort tt416 rfl rfl rfl (Nat.le_of_ble_eq_true rfl) (by decide) rfl (c_X8_isSort g sx) (fun hr98 ho98 => ?_)
            refine jj_if_eq (tgt := 111) dX8_square_101 (by decide) (fun h101 => ?_) (fun h101 => ?_)
            · have L111 : ∀ (s2 : jz_St) (hh111_0 : s2 = f_X8_rL (f_X8_sqE s) 9) (hh111_1 : mTk s2) (hh111_2 : s2 421 4 = 0), jz_Z g mX8_square (jq_ie (v_X8_square s) (f_X8_square s)) 111 [some (jr (416)), none] [] s2 := by
                intro s2 hh111_0 hh111_1 hh111_2
                refine jj_aload_n dX8_square_111 rfl ?_
                refine jj_bipush dX8_square_112 (kk := ?_)
                have L125 : ∀ (nn : Nat) (j : Nat) (sx : jz_St) (hh125_0 : f_X8_rG (f_X8_sqF s) 6 = f_X8_rG sx (6 - j)) (hh125_1 : mTk sx) (hh125_2 : (sx 416 16 = 0 ∧ sx 421 4 = j ∧ j ≤ 4) ∨ (sx 416 16 ≠ 0 ∧ (0 ≤ sx 421 4 ∧ sx 421 4 ≤ 4) ∧ j ≤ 5)), 6 - j < nn → jz_Z g mX8_square (jq_ie (v_X8_square s) (f_X8_square s)) 125 [some (jr (416)), none] [] sx := by
                  intro nn
                  induction nn with
                  | zero => intro j sx hh125_0 hh125_1 hh125_2 hmz; exact absurd hmz (Nat.not_lt_zero _)
                  | succ nn ih125 =>
                    intro j sx hh125_0 hh125_1 hh125_2 hm125
                    refine jj_aload_n dX8_square_125 rfl ?_
                    refine jj_bipush dX8_square_126 (kk := ?_)
                    refine zz_cVi (av := [ji (103)]) (st' := []) dX8_square_128 kn_X8_132 kmX8_isLetter tt416 rfl rfl rfl (Nat.le_of_ble_eq_true rfl) (by decide) rfl (c_X8_isLetter g sx 103) (fun hr128 ho128 => ?_)
                    refine jj_if_eq (tgt := 141) dX8_square_131 (by decide) (fun h131 => ?_) (fun h131 => ?_)
                    · have L141 : ∀ (s3 : jz_St) (hh141_0 : s3 = f_X8_sqG s), jz_Z g mX8_square (jq_ie (v_X8_square s) (f_X8_square s)) 141 [some (jr (416)), none] [] s3 := by
                        intro s3 hh141_0
                        subst hh141_0
                        refine jj_aload_n dX8_square_141 rfl ?_
                        refine zz_cVi (av := []) (st' := []) dX8_square_142 kn_X8_148 kmX8_failed tt416 rfl rfl rfl (Nat.le_of_ble_eq_true rfl) (by decide) rfl (c_X8_failed g (f_X8_sqG s)) (fun hr142 ho142 => ?_)
                        refine zz_st (s1 := f_X8_sqH s) (by rfl) ?_
                        refine jj_if_eq (tgt := 156) dX8_square_145 (by decide) (fun h145 => ?_) (fun h145 => ?_)
                        · have hg145 := bz_f h145
                          refine jj_aload_n dX8_square_156 rfl ?_
                          refine jj_iconst dX8_square_157 (kk := ?_)
                          refine zz_putI dX8_square_158 kw_X8_152 tt416 rfl rfl ?_
                          refine jj_iconst dX8_square_161 (kk := ?_)
                          refine jj_istore_n (ls' := [some (jr (416)), some (ji (0))]) dX8_square_162 (by decide) rfl rfl ?_
                          have L163 : ∀ (nn : Nat) (j : Nat) (hh163_0 : j ≤ 53), 53 - j < nn → jz_Z g mX8_square (jq_ie (v_X8_square s) (f_X8_square s)) 163 [some (jr (416)), some (ji ((j : Int)))] [] (f_X8_rc (jz_su (f_X8_sqH s) 416 9 0) 420 421 0 0 j) := by
                            intro nn
                            induction nn with
                            | zero => intro j hh163_0 hmz; exact absurd hmz (Nat.not_lt_zero _)
                            | succ nn ih163 =>
                              intro j hh163_0 hm163
                              refine jj_iload_n dX8_square_163 rfl ?_
                              refine jj_bipush dX8_square_164 (kk := ?_)
                              refine jj_icmp_ge (tgt := 187) dX8_square_166 (by decide) (fun h166 => ?_) (fun h166 => ?_)
                              · obtain rfl : j = 53 := (by omega)
                                refine jj_aload_n dX8_square_187 rfl ?_
                                refine zz_getR dX8_square_188 kf_X8_19 tt416 rfl ?_
                                refine jj_iconst dX8_square_191 (kk := ?_)
                                refine zz_ialdN (j := 3) dX8_square_192 tt420 (by omega) (by omega) ?_
                                refine zz_top (b := f_X8_sqH s 421 3) (by rw [rc_in _ _ _ _ _ (by decide), if_pos (by decide), jz_su_o (by decide)]) ?_
                                refine zz_retie dX8_square_193 rfl (by decide) ?_ ?_
                                · unfold v_X8_square; first | (rw [if_pos hg145]; done) | (rw [if_neg hg145]; done)
                                · unfold f_X8_square; first | (rw [if_pos hg145]; done) | (rw [if_neg hg145]; done)
                              · refine jj_aload_n dX8_square_169 rfl ?_
                                refine zz_getR dX8_square_170 kf_X8_19 tt416 rfl ?_
                                refine jj_iload_n dX8_square_173 rfl ?_
                                refine jj_aload_n dX8_square_174 rfl ?_
                                refine zz_getR dX8_square_175 kf_X8_22 tt416 rfl ?_
                                refine jj_iload_n dX8_square_178 rfl ?_
                                refine zz_ialdN (j := 0 + j) dX8_square_179 tt421 (by omega) (by omega) ?_
                                refine zz_iastN (j := 0 + j) dX8_square_180 tt420 (by omega) (by omega) ?_
                                refine jj_iinc (ls' := [some (jr (416)), some (ji ((j : Int) + 1))]) dX8_square_181 rfl (by decide) rfl (by omega) rfl ?_
                                refine jj_goto (tgt := 163) dX8_square_184 (by decide) ?_
                                refine zz_st (s1 := f_X8_rc (jz_su (f_X8_sqH s) 416 9 0) 420 421 0 0 (j + 1)) (by rfl) ?_
                                exact ih163 (j + 1) (by first | assumption | omega) (by omega)
                          refine zz_st (s1 := f_X8_rc (jz_su (f_X8_sqH s) 416 9 0) 420 421 0 0 0) (by rfl) ?_
                          exact L163 _ 0 (by first | assumption | omega) (Nat.lt_succ_self _)
                        · have hg145 := bz_t h145
                          refine jj_ldc dX8_square_148 kk_X8_151 (kk := ?_)
                          refine jj_aload_n dX8_square_150 rfl ?_
                          refine zz_getI dX8_square_151 kf_X8_87 tt416 rfl rfl ?_
                          refine jj_isub dX8_square_154 (by have := hp hg145; omega) ?_
                          refine zz_retie dX8_square_155 rfl (by decide) ?_ ?_
                          · unfold v_X8_square; first | (rw [if_pos hg145]; done) | (rw [if_neg hg145]; done)
                          · unfold f_X8_square; first | (rw [if_pos hg145]; done) | (rw [if_neg hg145]; done)
                      exact L141 sx (by unfold f_X8_sqG; rw [hh125_0, rG_0 h131])
                    · have hs0 := lL_1 h131
                      refine jj_aload_n dX8_square_134 rfl ?_
                      refine zz_cVv (av := []) (st' := []) dX8_square_135 kn_X8_145 kmX8_readGoat tt416 rfl rfl rfl (Nat.le_of_ble_eq_true rfl) (by decide) rfl (c_X8_readGoat g sx hh125_1 (by omega)) (fun ho135 => ?_)
                      refine jj_goto (tgt := 125) dX8_square_138 (by decide) ?_
                      exact ih125 (j + 1) (f_X8_readGoat sx) (by rw [hh125_0, show 6 - j = (6 - (j + 1)) + 1 by omega]; simp only [f_X8_rG]; rw [if_neg h131]) (by exact mTk_readGoat hh125_1) (by have := (readGoat_c (s := sx) (j := j) (by omega) (by omega)).2; omega) (by omega)
                refine zz_cVi (av := [ji (103)]) (st' := []) dX8_square_114 kn_X8_132 kmX8_isLetter tt416 rfl rfl rfl (Nat.le_of_ble_eq_true rfl) (by decide) rfl (c_X8_isLetter g s2 103) (fun hr114 ho114 => ?_)
                refine jj_if_ne (tgt := 125) dX8_square_117 (by decide) (fun h117 => ?_) (fun h117 => ?_)
                · refine zz_st (s1 := (f_X8_sqF s)) (by unfold f_X8_sqF; rw [← hh111_0]; first | (rw [if_pos h117]; done) | (rw [if_neg h117]; done)) ?_
                  exact L125 _ 0 (f_X8_sqF s) (by rw [Nat.sub_zero]) (by unfold f_X8_sqF; rw [← hh111_0]; split <;> first | exact mTk_bad hh111_1 | exact hh111_1) (by have e4 : f_X8_sqF s 421 4 = 0 := (by unfold f_X8_sqF; rw [← hh111_0]; split <;> first | exact hh111_2 | (rw [bad_o _ _ (by decide)]; exact hh111_2)); by_cases q : f_X8_sqF s 416 16 = 0 <;> omega) (Nat.lt_succ_self _)
                · refine jj_aload_n dX8_square_120 rfl ?_
                  refine jj_iconst dX8_square_121 (kk := ?_)
                  refine zz_cVv (av := [ji (1)]) (st' := []) dX8_square_122 kn_X8_108 kmX8_bad tt416 rfl rfl rfl (Nat.le_of_ble_eq_true rfl) (by decide) rfl (c_X8_bad g s2 1) (fun ho122 => ?_)
                  refine zz_st (s1 := (f_X8_sqF s)) (by unfold f_X8_sqF; rw [← hh111_0]; first | (rw [if_pos h117]; done) | (rw [if_neg h117]; done)) ?_
                  exact L125 _ 0 (f_X8_sqF s) (by rw [Nat.sub_zero]) (by unfold f_X8_sqF; rw [← hh111_0]; split <;> first | exact mTk_bad hh111_1 | exact hh111_1) (by have e4 : f_X8_sqF s 421 4 = 0 := (by unfold f_X8_sqF; rw [← hh111_0]; split <;> first | exact hh111_2 | (rw [bad_o _ _ (by decide)]; exact hh111_2)); by_cases q : f_X8_sqF s 416 16 = 0 <;> omega) (Nat.lt_succ_self _)
              exact L111 sx (by rw [hh97_0, rL_0 h101]) (by exact hh97_1) (by exact hh97_2)
            · have hs0 := sL_1 h101
              refine jj_aload_n dX8_square_104 rfl ?_
              refine zz_cVv (av := []) (st' := []) dX8_square_105 kn_X8_142 kmX8_readLeaf tt416 rfl rfl rfl (Nat.le_of_ble_eq_true rfl) (by decide) rfl (c_X8_readLeaf g sx hh97_1 (by omega)) (fun ho105 => ?_)
              refine jj_goto (tgt := 97) dX8_square_108 (by decide) ?_
              exact ih97 (j + 1) (f_X8_readLeaf sx) (by rw [hh97_0, show 9 - j = (9 - (j + 1)) + 1 by omega]; simp only [f_X8_rL]; rw [if_neg h101]) (by exact mTk_readLeaf hh97_1) (by have := (readLeaf_c (s := sx) (j := j) (by omega) (by omega)).1; omega) (by have := (readLeaf_c (s := sx) (j := j) (by omega) (by omega)).2; omega) (by omega)
        refine zz_cVi (av := []) (st' := []) dX8_square_86 kn_X8_138 kmX8_isSort tt416 rfl rfl rfl (Nat.le_of_ble_eq_true rfl) (by decide) rfl (c_X8_isSort g (f_X8_sqD s)) (fun hr86 ho86 => ?_)
        refine jj_if_ne (tgt := 97) dX8_square_89 (by decide) (fun h89 => ?_) (fun h89 => ?_)
        · refine jj_fgt (i := 1) (ls' := [some (jr (416)), none]) rfl ?_
          refine zz_st (s1 := (f_X8_sqE s)) (by unfold f_X8_sqE; first | (rw [if_pos h89]; done) | (rw [if_neg h89]; done)) ?_
          exact L97 _ 0 (f_X8_sqE s) (by rw [Nat.sub_zero]) (by exact mTk_sqE hT) (by exact sqE_3 s 4 (Or.inr rfl)) (by have := sqE_3 s 3 (Or.inl rfl); by_cases q : f_X8_sqE s 416 16 = 0 <;> omega) (Nat.lt_succ_self _)
        · refine jj_aload_n dX8_square_92 rfl ?_
          refine jj_iconst dX8_square_93 (kk := ?_)
          refine zz_cVv (av := [ji (1)]) (st' := []) dX8_square_94 kn_X8_108 kmX8_bad tt416 rfl rfl rfl (Nat.le_of_ble_eq_true rfl) (by decide) rfl (c_X8_bad g (f_X8_sqD s) 1) (fun ho94 => ?_)
          refine jj_fgt (i := 1) (ls' := [some (jr (416)), none]) rfl ?_
          refine zz_st (s1 := (f_X8_sqE s)) (by unfold f_X8_sqE; first | (rw [if_pos h89]; done) | (rw [if_neg h89]; done)) ?_
          exact L97 _ 0 (f_X8_sqE s) (by rw [Nat.sub_zero]) (by exact mTk_sqE hT) (by exact sqE_3 s 4 (Or.inr rfl)) (by have := sqE_3 s 3 (Or.inl rfl); by_cases q : f_X8_sqE s 416 16 = 0 <;> omega) (Nat.lt_succ_self _)
      · refine jj_aload_n dX8_square_17 rfl ?_
        refine zz_getR dX8_square_18 kf_X8_22 tt416 rfl ?_
        refine jj_iload_n dX8_square_21 rfl ?_
        refine jj_iconst dX8_square_22 (kk := ?_)
        refine zz_iastN (j := j) dX8_square_23 tt421 (by omega) (by omega) ?_
        refine jj_iinc (ls' := [some (jr (416)), some (ji ((j : Int) + 1))]) dX8_square_24 rfl (by decide) rfl (by omega) rfl ?_
        refine jj_goto (tgt := 11) dX8_square_27 (by decide) ?_
        refine zz_st (s1 := f_X8_zf (f_X8_begin s) (j + 1)) (by rfl) ?_
        exact ih11 (j + 1) (by first | assumption | omega) (by omega)
  refine zz_st (s1 := f_X8_zf (f_X8_begin s) 0) (by rfl) ?_
  exact L11 _ 0 (by first | assumption | omega) (Nat.lt_succ_self _)

theorem OK_mid {s s1 t1 : jz_St} (h : Inv s) (o : OK s s s1 t1) : H3 s s1 := by
  have hqt : qT s s1 := fun x hx _ _ _ => o.2.1 x hx
  exact ⟨CR_q h.1.1 (fun _ _ _ => rfl) hqt, MI_q h.1.2.1 hqt, h.1.2.2⟩
theorem sq_plW {s t : jz_St} (h : H3 s t) (hT : cT s) : 0 < f_X8_fail1 (f_X8_sqG t) 416 16 → 0 ≤ f_X8_sqH t 416 17 ∧ f_X8_sqH t 416 17 ≤ 1000 := by
  intro q
  rcases sq_pl2 h hT with a | a
  · exact a
  · have := pS_f0 (sqR h hT).1.1.1
    omega
