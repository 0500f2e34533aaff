theorem zz_topl {g : jz_G} {x : jz_M} {Q : Option jz_V → jz_St → Prop} {pc : Nat} {ls : List (Option jz_V)} {st : List jz_V} {s : jz_St} {a b : Int} (h : a = b) (kk : jz_Z g x Q pc ls (jl b :: st) s) : jz_Z g x Q pc ls (jl a :: st) s := by
  subst h
  exact kk
def v_X8_drawn (s : jz_St) (n d w : Int) : Int := if s 420 0 = 1 then (if (0 ≤ n ∧ n ≤ 60) ∧ (1 ≤ d ∧ d ≤ 999999) ∧ 0 ≤ w ∧ w ≤ 1 then (if w = 0 then rLA (rDrS s d n.toNat 422) (rDrS s d n.toNat 422 3).toNat else rDrG s d n.toNat) else -1000001) else -1000002
def f_X8_drawn (s : jz_St) (n d w : Int) : jz_St := if s 420 0 = 1 then (if (0 ≤ n ∧ n ≤ 60) ∧ (1 ≤ d ∧ d ≤ 999999) ∧ 0 ≤ w ∧ w ≤ 1 then rDrS s d n.toNat else s) else s
set_option maxRecDepth 100000 in
set_option maxHeartbeats 4000000 in
theorem c_X8_drawn (g : jz_G) (s : jz_St) (n d w : Int) (hM : mIn s) (hz : s 420 0 = 1 → 1 ≤ s 420 3 ∧ 1 ≤ s 420 4)  : jz_C g mX8_drawn [jr (416), ji (n), ji (d), ji (w)] s (jq_ie (v_X8_drawn s n d w) (f_X8_drawn s n d w)) := by
  refine zz_C_of koX8_drawn rfl (Nat.le_of_ble_eq_true rfl) ?_
  refine zz_pad 6 ?_
  show jz_Z g mX8_drawn (jq_ie (v_X8_drawn s n d w) (f_X8_drawn s n d w)) 0 [some (jr (416)), some (ji (n)), some (ji (d)), some (ji (w)), none, none, none, none, none, none] [] s
  have hL := hM.1
  have hm := hM.2.1
  have ha := hM.2.2.1
  have htr := hM.2.2.2
  have hmh := mRw_h hm
  refine jj_aload_n dX8_drawn_0 rfl ?_
  refine jj_iconst dX8_drawn_1 (kk := ?_)
  refine zz_putI dX8_drawn_2 kw_X8_50 tt416 rfl rfl ?_
  refine zz_st (s1 := s) (by exact jz_su_id hL.1) ?_
  refine jj_aload_n dX8_drawn_5 rfl ?_
  refine zz_cVi (av := []) (st' := []) dX8_drawn_6 kn_X8_184 kmX8_isThere tt416 rfl rfl rfl (Nat.le_of_ble_eq_true rfl) (by decide) rfl (c_X8_isThere g s) (fun hr6 ho6 => ?_)
  refine jj_if_ne (tgt := 15) dX8_drawn_9 (by decide) (fun h9 => ?_) (fun h9 => ?_)
  · have hg9 := bz_t h9
    refine jj_iload_n dX8_drawn_15 rfl ?_
    refine jj_i2l dX8_drawn_16 ?_
    refine jj_lconst (z := 0) dX8_drawn_17 (kk := ?_)
    refine jj_ldc2 dX8_drawn_18 kk_X8_201 (kk := ?_)
    refine zz_cSi (av := [jl (n), jl (0), jl (60)]) (st' := []) dX8_drawn_21 kn_X8_60 kmX8_in rfl rfl (Nat.le_of_ble_eq_true rfl) (by decide) rfl (c_X8_in g s n 0 60) (fun hr21 ho21 => ?_)
    refine jj_if_eq (tgt := 49) dX8_drawn_24 (by decide) (fun h24 => ?_) (fun h24 => ?_)
    · have hg24 := bz_f h24
      refine jj_ldc dX8_drawn_49 kk_X8_70 (kk := ?_)
      refine zz_retie dX8_drawn_51 rfl (by decide) ?_ ?_
      · unfold v_X8_drawn; (repeat (first | rw [if_pos (by omega)] | rw [if_neg (by omega)])) <;> first | rfl | done
      · unfold f_X8_drawn; (repeat (first | rw [if_pos (by omega)] | rw [if_neg (by omega)])) <;> first | rfl | done
    · have hg24 := bz_t h24
      refine jj_iload_n dX8_drawn_27 rfl ?_
      refine jj_i2l dX8_drawn_28 ?_
      refine jj_lconst (z := 1) dX8_drawn_29 (kk := ?_)
      refine jj_ldc2 dX8_drawn_30 kk_X8_240 (kk := ?_)
      refine zz_cSi (av := [jl (d), jl (1), jl (999999)]) (st' := []) dX8_drawn_33 kn_X8_60 kmX8_in rfl rfl (Nat.le_of_ble_eq_true rfl) (by decide) rfl (c_X8_in g s d 1 999999) (fun hr33 ho33 => ?_)
      refine jj_if_eq (tgt := 49) dX8_drawn_36 (by decide) (fun h36 => ?_) (fun h36 => ?_)
      · have hg36 := bz_f h36
        refine jj_ldc dX8_drawn_49 kk_X8_70 (kk := ?_)
        refine zz_retie dX8_drawn_51 rfl (by decide) ?_ ?_
        · unfold v_X8_drawn; (repeat (first | rw [if_pos (by omega)] | rw [if_neg (by omega)])) <;> first | rfl | done
        · unfold f_X8_drawn; (repeat (first | rw [if_pos (by omega)] | rw [if_neg (by omega)])) <;> first | rfl | done
      · have hg36 := bz_t h36
        refine jj_iload_n dX8_drawn_39 rfl ?_
        refine jj_i2l dX8_drawn_40 ?_
        refine jj_lconst (z := 0) dX8_drawn_41 (kk := ?_)
        refine jj_lconst (z := 1) dX8_drawn_42 (kk := ?_)
        refine zz_cSi (av := [jl (w), jl (0), jl (1)]) (st' := []) dX8_drawn_43 kn_X8_60 kmX8_in rfl rfl (Nat.le_of_ble_eq_true rfl) (by decide) rfl (c_X8_in g s w 0 1) (fun hr43 ho43 => ?_)
        refine jj_if_ne (tgt := 52) dX8_drawn_46 (by decide) (fun h46 => ?_) (fun h46 => ?_)
        · have hg46 := bz_t h46
          have hg1 : 1 ≤ s 420 4 := (hz (by omega)).2
          have hl1 : 1 ≤ s 420 3 := (hz (by omega)).1
          refine jj_aload_n dX8_drawn_52 rfl ?_
          refine zz_cVv (av := []) (st' := []) dX8_drawn_53 kn_X8_177 kmX8_layThen tt416 rfl rfl rfl (Nat.le_of_ble_eq_true rfl) (by decide) rfl (c_X8_layThen g s) (fun ho53 => ?_)
          refine jj_iload_n dX8_drawn_56 rfl ?_
          refine jj_i2l dX8_drawn_57 ?_
          refine jj_lstore (ls' := [some (jr (416)), some (ji (n)), some (ji (d)), some (ji (w)), some (jl (d)), none, none, none, none, none]) dX8_drawn_58 (by decide) rfl rfl ?_
          refine jj_iconst dX8_drawn_60 (kk := ?_)
          refine jj_istore (ls' := [some (jr (416)), some (ji (n)), some (ji (d)), some (ji (w)), some (jl (d)), none, some (ji (0)), none, none, none]) dX8_drawn_61 (by decide) rfl rfl ?_
          refine jj_iconst dX8_drawn_63 (kk := ?_)
          refine jj_istore (ls' := [some (jr (416)), some (ji (n)), some (ji (d)), some (ji (w)), some (jl (d)), none, some (ji (0)), some (ji (0)), none, none]) dX8_drawn_64 (by decide) rfl rfl ?_
          have L66 : ∀ (nn : Nat) (j : Nat) (hh66_0 : (j : Int) ≤ n), 60 - j < nn → jz_Z g mX8_drawn (jq_ie (v_X8_drawn s n d w) (f_X8_drawn s n d w)) 66 [some (jr (416)), some (ji (n)), some (ji (d)), some (ji (w)), some (jl (fDrX d j)), none, some (ji (rDrG s d j)), some (ji ((j : Int))), none, none] [] (rDrS s d j) := by
            intro nn
            induction nn with
            | zero => intro j hh66_0 hmz; exact absurd hmz (Nat.not_lt_zero _)
            | succ nn ih66 =>
              intro j hh66_0 hm66
              have hS := drS_i (d := d) hg1 hl1 hm j
              have hS1 := drS_i (d := d) hg1 hl1 hm (j + 1)
              have hG := drG_rng (d := d) hg1 hl1 hm j
              have hG1 := drG_rng (d := d) hg1 hl1 hm (j + 1)
              have hx := fDrX_r (x := d) (by omega) j
              have hx1 := fDrX_r (x := d) (by omega) (j + 1)
              have e1 : Int.tmod (fDrX d j * 16807) 2147483647 = fDrX d (j + 1) := rfl
              have e3 : Int.tmod (fDrX d (j + 1)) 3 = fDrX d (j + 1) % 3 := tm_e (by omega)
              have e5 : Int.tmod (fDrX d (j + 1)) 5 = fDrX d (j + 1) % 5 := tm_e (by omega)
              have eG : Int.tmod (fDrX d (j + 1)) (s 420 4) = (fDrX d (j + 1) % s 420 4) := tm_e (by omega)
              have eL : Int.tmod (fDrX d (j + 1)) (s 420 3) = (fDrX d (j + 1) % s 420 3) := tm_e (by omega)
              have bG := em_b (x := fDrX d (j + 1)) (y := s 420 4) (by omega)
              have bL := em_b (x := fDrX d (j + 1)) (y := s 420 3) (by omega)
              have h4 := hS.2 4 (by decide)
              have h3 := hS.2 3 (by decide)
              have hj0_0 := @jc_lt (fDrX d (j + 1) % 3) 0
              have hj0_1 := @jc_gt (fDrX d (j + 1) % 3) 0
              have hj0_2 := @jc_le (fDrX d (j + 1) % 3) 0
              have hj1_0 := @jc_lt (fDrX d (j + 1) % 5) 0
              have hj1_1 := @jc_gt (fDrX d (j + 1) % 5) 0
              have hj1_2 := @jc_le (fDrX d (j + 1) % 5) 0
              refine jj_iload dX8_drawn_66 rfl ?_
              refine jj_iload_n dX8_drawn_68 rfl ?_
              refine jj_icmp_ge (tgt := 207) dX8_drawn_69 (by decide) (fun h69 => ?_) (fun h69 => ?_)
              · refine jj_iload_n dX8_drawn_207 rfl ?_
                refine jj_if_ne (tgt := 221) dX8_drawn_208 (by decide) (fun h208 => ?_) (fun h208 => ?_)
                · refine jj_iload dX8_drawn_221 rfl ?_
                  refine zz_retie dX8_drawn_223 rfl (by decide) ?_ ?_
                  · unfold v_X8_drawn; rw [if_pos (by omega), if_pos (by omega), show n.toNat = j by omega]; first | (rw [if_pos (by omega)]; done) | (rw [if_neg (by omega)]; done)
                  · unfold f_X8_drawn; rw [if_pos (by omega), if_pos (by omega), show n.toNat = j by omega]
                · refine jj_aload_n dX8_drawn_211 rfl ?_
                  refine zz_getR dX8_drawn_212 kf_X8_25 tt416 rfl ?_
                  refine zz_cSi (av := [jr (422)]) (st' := []) dX8_drawn_215 kn_X8_249 kmX8_leftOf rfl rfl (Nat.le_of_ble_eq_true rfl) (by decide) rfl (c_X8_leftOf g (rDrS s d j) 422 (Or.inr rfl) (999 + j) hS.1) (fun hr215 ho215 => ?_)
                  refine jj_goto (tgt := 223) dX8_drawn_218 (by decide) ?_
                  refine zz_retie dX8_drawn_223 rfl (by decide) ?_ ?_
                  · unfold v_X8_drawn; rw [if_pos (by omega), if_pos (by omega), show n.toNat = j by omega]; first | (rw [if_pos (by omega)]; done) | (rw [if_neg (by omega)]; done)
                  · unfold f_X8_drawn; rw [if_pos (by omega), if_pos (by omega), show n.toNat = j by omega]
              · refine jj_lload dX8_drawn_72 rfl ?_
                refine jj_ldc2 dX8_drawn_74 kk_X8_242 (kk := ?_)
                refine jj_lmul dX8_drawn_77 (by omega) ?_
                refine jj_ldc2 dX8_drawn_78 kk_X8_244 (kk := ?_)
                refine jj_lrem dX8_drawn_81 (by decide) (by rw [e1]; omega) ?_
                refine zz_topl (b := fDrX d (j + 1)) (by exact e1) ?_
                refine jj_lstore (ls' := [some (jr (416)), some (ji (n)), some (ji (d)), some (ji (w)), some (jl (fDrX d (j + 1))), none, some (ji (rDrG s d j)), some (ji ((j : Int))), none, none]) dX8_drawn_82 (by decide) rfl rfl ?_
                have L119 : jz_Z g mX8_drawn (jq_ie (v_X8_drawn s n d w) (f_X8_drawn s n d w)) 119 [some (jr (416)), some (ji (n)), some (ji (d)), some (ji (w)), some (jl (fDrX d (j + 1))), none, some (ji (rDrG s d j)), some (ji ((j : Int))), none, none] [] (rBfG (rDrS s d j) (fDrX d (j + 1))) := by
                  have L167 : jz_Z g mX8_drawn (jq_ie (v_X8_drawn s n d w) (f_X8_drawn s n d w)) 167 [some (jr (416)), some (ji (n)), some (ji (d)), some (ji (w)), some (jl (fDrX d (j + 1))), none, some (ji (rDrG s d j)), some (ji ((j : Int))), none, none] [] (rBf (rDrS s d j) (fDrX d (j + 1))) := by
                    have hB : mRw (rBf (rDrS s d j) (fDrX d (j + 1)) 422) (999 + j) := bf_mr (by omega) (by omega) hS.1
                    refine jj_aload_n dX8_drawn_167 rfl ?_
                    refine zz_getR dX8_drawn_168 kf_X8_25 tt416 rfl ?_
                    refine zz_cSi (av := [jr (422)]) (st' := []) dX8_drawn_171 kn_X8_246 kmX8_voids rfl rfl (Nat.le_of_ble_eq_true rfl) (by decide) rfl (c_X8_voids g (rBf (rDrS s d j) (fDrX d (j + 1))) 422 (Or.inr rfl) (999 + j) hB) (fun hr171 ho171 => ?_)
                    refine zz_top (b := rVoL (rBf (rDrS s d j) (fDrX d (j + 1)))) (by rfl) ?_
                    refine jj_istore (ls' := [some (jr (416)), some (ji (n)), some (ji (d)), some (ji (w)), some (jl (fDrX d (j + 1))), none, some (ji (rDrG s d j)), some (ji ((j : Int))), some (ji (rVoL (rBf (rDrS s d j) (fDrX d (j + 1))))), none]) dX8_drawn_174 (by decide) rfl rfl ?_
                    refine jj_aload_n dX8_drawn_176 rfl ?_
                    refine jj_aload_n dX8_drawn_177 rfl ?_
                    refine zz_getR dX8_drawn_178 kf_X8_25 tt416 rfl ?_
                    refine zz_cVi (av := [jr (422)]) (st' := []) dX8_drawn_181 kn_X8_169 kmX8_hour tt416 rfl rfl rfl (Nat.le_of_ble_eq_true rfl) (by decide) rfl (c_X8_hour g (rBf (rDrS s d j) (fDrX d (j + 1))) 422 (Or.inr rfl) (999 + j) hB (by omega)) (fun hr181 ho181 => ?_)
                    refine jj_istore (ls' := [some (jr (416)), some (ji (n)), some (ji (d)), some (ji (w)), some (jl (fDrX d (j + 1))), none, some (ji (rDrG s d j)), some (ji ((j : Int))), some (ji (rVoL (rBf (rDrS s d j) (fDrX d (j + 1))))), some (ji (v_X8_hour (rBf (rDrS s d j) (fDrX d (j + 1))) 422))]) dX8_drawn_184 (by decide) rfl rfl ?_
                    refine zz_st (s1 := rDrS s d (j + 1)) (by rfl) ?_
                    refine jj_iload dX8_drawn_186 rfl ?_
                    refine jj_aload_n dX8_drawn_188 rfl ?_
                    refine zz_getR dX8_drawn_189 kf_X8_25 tt416 rfl ?_
                    refine zz_cSi (av := [jr (422)]) (st' := [ji (rDrG s d j)]) dX8_drawn_192 kn_X8_246 kmX8_voids rfl rfl (Nat.le_of_ble_eq_true rfl) (by decide) rfl (c_X8_voids g (rDrS s d (j + 1)) 422 (Or.inr rfl) (999 + (j + 1 : Nat)) hS1.1) (fun hr192 ho192 => ?_)
                    refine zz_top (b := rVoL (rDrS s d (j + 1))) (by rfl) ?_
                    refine jj_iload dX8_drawn_195 rfl ?_
                    refine jj_isub dX8_drawn_197 (by have := rVoL_rng (s := rDrS s d (j + 1)) (by rw [hS1.2 3 (by decide)]; omega); have := rVoL_rng (s := rBf (rDrS s d j) (fDrX d (j + 1))) (by rw [bf_h (by decide), h3]; omega); omega) ?_
                    refine jj_iadd dX8_drawn_198 (by have e := hG1; simp only [rDrG] at e; omega) ?_
                    refine jj_istore (ls' := [some (jr (416)), some (ji (n)), some (ji (d)), some (ji (w)), some (jl (fDrX d (j + 1))), none, some (ji ((rDrG s d j) + ((rVoL (rDrS s d (j + 1))) - (rVoL (rBf (rDrS s d j) (fDrX d (j + 1))))))), some (ji ((j : Int))), some (ji (rVoL (rBf (rDrS s d j) (fDrX d (j + 1))))), some (ji (v_X8_hour (rBf (rDrS s d j) (fDrX d (j + 1))) 422))]) dX8_drawn_199 (by decide) rfl rfl ?_
                    refine jj_iinc (ls' := [some (jr (416)), some (ji (n)), some (ji (d)), some (ji (w)), some (jl (fDrX d (j + 1))), none, some (ji ((rDrG s d j) + ((rVoL (rDrS s d (j + 1))) - (rVoL (rBf (rDrS s d j) (fDrX d (j + 1))))))), some (ji ((j : Int) + 1)), some (ji (rVoL (rBf (rDrS s d j) (fDrX d (j + 1))))), some (ji (v_X8_hour (rBf (rDrS s d j) (fDrX d (j + 1))) 422))]) dX8_drawn_201 rfl (by decide) rfl (by omega) rfl ?_
                    refine jj_goto (tgt := 66) dX8_drawn_204 (by decide) ?_
                    refine jj_fgt (i := 8) (ls' := [some (jr (416)), some (ji (n)), some (ji (d)), some (ji (w)), some (jl (fDrX d (j + 1))), none, some (ji ((rDrG s d j) + ((rVoL (rDrS s d (j + 1))) - (rVoL (rBf (rDrS s d j) (fDrX d (j + 1))))))), some (ji ((j : Int) + 1)), none, some (ji (v_X8_hour (rBf (rDrS s d j) (fDrX d (j + 1))) 422))]) rfl ?_
                    refine jj_fgt (i := 9) (ls' := [some (jr (416)), some (ji (n)), some (ji (d)), some (ji (w)), some (jl (fDrX d (j + 1))), none, some (ji ((rDrG s d j) + ((rVoL (rDrS s d (j + 1))) - (rVoL (rBf (rDrS s d j) (fDrX d (j + 1))))))), some (ji ((j : Int) + 1)), none, none]) rfl ?_
                    exact ih66 (j + 1) (by first | assumption | omega) (by omega)
                  refine jj_lload dX8_drawn_119 rfl ?_
                  refine jj_ldc2 dX8_drawn_121 kk_X8_203 (kk := ?_)
                  refine jj_lrem dX8_drawn_124 (by decide) (by rw [e5]; omega) ?_
                  refine zz_topl (b := fDrX d (j + 1) % 5) (by exact e5) ?_
                  refine jj_lconst (z := 0) dX8_drawn_125 (kk := ?_)
                  refine jj_lcmp dX8_drawn_126 ?_
                  refine jj_if_ne (tgt := 167) dX8_drawn_127 (by decide) (fun h127 => ?_) (fun h127 => ?_)
                  · refine zz_st (s1 := rBf (rDrS s d j) (fDrX d (j + 1))) (by show _ = rBfL _ _; unfold rBfL; rw [if_neg (by omega)]) ?_
                    exact L167
                  · refine jj_lload dX8_drawn_130 rfl ?_
                    refine jj_aload_n dX8_drawn_132 rfl ?_
                    refine zz_getR dX8_drawn_133 kf_X8_25 tt416 rfl ?_
                    refine jj_iconst dX8_drawn_136 (kk := ?_)
                    refine zz_ialdN (j := 3) dX8_drawn_137 tt422 (by omega) (by omega) ?_
                    refine zz_top (b := s 420 3) (by rw [bfG_h (by decide)]; exact h3) ?_
                    refine jj_i2l dX8_drawn_138 ?_
                    refine jj_lrem dX8_drawn_139 (by omega) (by rw [eL]; omega) ?_
                    refine zz_topl (b := (fDrX d (j + 1) % s 420 3)) (by exact eL) ?_
                    refine jj_l2i dX8_drawn_140 (by omega) ?_
                    refine jj_istore (ls' := [some (jr (416)), some (ji (n)), some (ji (d)), some (ji (w)), some (jl (fDrX d (j + 1))), none, some (ji (rDrG s d j)), some (ji ((j : Int))), some (ji ((fDrX d (j + 1) % s 420 3))), none]) dX8_drawn_141 (by decide) rfl rfl ?_
                    refine jj_aload_n dX8_drawn_143 rfl ?_
                    refine zz_getR dX8_drawn_144 kf_X8_25 tt416 rfl ?_
                    refine jj_bipush dX8_drawn_147 (kk := ?_)
                    refine jj_iconst dX8_drawn_149 (kk := ?_)
                    refine jj_iload dX8_drawn_150 rfl ?_
                    refine jj_imul dX8_drawn_152 (by omega) ?_
                    refine jj_iadd dX8_drawn_153 (by omega) ?_
                    refine jj_iconst dX8_drawn_154 (kk := ?_)
                    refine jj_iadd dX8_drawn_155 (by omega) ?_
                    refine jj_aload_n dX8_drawn_156 rfl ?_
                    refine zz_getR dX8_drawn_157 kf_X8_25 tt416 rfl ?_
                    refine jj_iload dX8_drawn_160 rfl ?_
                    refine jj_iconst dX8_drawn_162 (kk := ?_)
                    refine zz_cSi (av := [jr (422), ji ((fDrX d (j + 1) % s 420 3)), ji (1)]) (st' := [ji ((6 + (5 * (fDrX d (j + 1) % s 420 3))) + 4), jr (422)]) dX8_drawn_163 kn_X8_155 kmX8_of rfl rfl (Nat.le_of_ble_eq_true rfl) (by decide) rfl (c_X8_of g (rBfG (rDrS s d j) (fDrX d (j + 1))) 422 (Or.inr rfl) (fDrX d (j + 1) % s 420 3) 1 (6 + 5 * (((fDrX d (j + 1) % s 420 3)).toNat) + 1) (by omega) (by omega)) (fun hr163 ho163 => ?_)
                    refine zz_iastN (j := 6 + 5 * (fDrX d (j + 1) % s 420 3).toNat + 4) dX8_drawn_166 tt422 (by omega) (by omega) ?_
                    refine jj_fgt (i := 8) (ls' := [some (jr (416)), some (ji (n)), some (ji (d)), some (ji (w)), some (jl (fDrX d (j + 1))), none, some (ji (rDrG s d j)), some (ji ((j : Int))), none, none]) rfl ?_
                    refine zz_st (s1 := rBf (rDrS s d j) (fDrX d (j + 1))) (by have e9 : (rBfG (rDrS s d j) (fDrX d (j + 1))) 422 3 = s 420 3 := (by rw [bfG_h (by decide)]; exact h3); show _ = rBfL _ _; unfold rBfL; rw [if_pos (by omega), e9]) ?_
                    exact L167
                refine jj_lload dX8_drawn_84 rfl ?_
                refine jj_ldc2 dX8_drawn_86 kk_X8_205 (kk := ?_)
                refine jj_lrem dX8_drawn_89 (by decide) (by rw [e3]; omega) ?_
                refine zz_topl (b := fDrX d (j + 1) % 3) (by exact e3) ?_
                refine jj_lconst (z := 0) dX8_drawn_90 (kk := ?_)
                refine jj_lcmp dX8_drawn_91 ?_
                refine jj_if_ne (tgt := 119) dX8_drawn_92 (by decide) (fun h92 => ?_) (fun h92 => ?_)
                · refine zz_st (s1 := rBfG (rDrS s d j) (fDrX d (j + 1))) (by unfold rBfG; rw [if_neg (by omega)]) ?_
                  exact L119
                · refine jj_aload_n dX8_drawn_95 rfl ?_
                  refine zz_getR dX8_drawn_96 kf_X8_25 tt416 rfl ?_
                  refine jj_bipush dX8_drawn_99 (kk := ?_)
                  refine jj_iconst dX8_drawn_101 (kk := ?_)
                  refine jj_lload dX8_drawn_102 rfl ?_
                  refine jj_aload_n dX8_drawn_104 rfl ?_
                  refine zz_getR dX8_drawn_105 kf_X8_25 tt416 rfl ?_
                  refine jj_iconst dX8_drawn_108 (kk := ?_)
                  refine zz_ialdN (j := 4) dX8_drawn_109 tt422 (by omega) (by omega) ?_
                  refine zz_top (b := s 420 4) (by exact h4) ?_
                  refine jj_i2l dX8_drawn_110 ?_
                  refine jj_lrem dX8_drawn_111 (by omega) (by rw [eG]; omega) ?_
                  refine zz_topl (b := (fDrX d (j + 1) % s 420 4)) (by exact eG) ?_
                  refine jj_l2i dX8_drawn_112 (by omega) ?_
                  refine jj_imul dX8_drawn_113 (by omega) ?_
                  refine jj_iadd dX8_drawn_114 (by omega) ?_
                  refine jj_iconst dX8_drawn_115 (kk := ?_)
                  refine jj_iadd dX8_drawn_116 (by omega) ?_
                  refine jj_iconst dX8_drawn_117 (kk := ?_)
                  refine zz_iastN (j := 41 + 3 * (fDrX d (j + 1) % s 420 4).toNat + 2) dX8_drawn_118 tt422 (by omega) (by omega) ?_
                  refine zz_st (s1 := rBfG (rDrS s d j) (fDrX d (j + 1))) (by unfold rBfG; rw [if_pos (by omega), h4]) ?_
                  exact L119
          refine zz_st (s1 := rDrS s d 0) (by rfl) ?_
          exact L66 _ 0 (by first | assumption | omega) (Nat.lt_succ_self _)
        · have hg46 := bz_f h46
          refine jj_ldc dX8_drawn_49 kk_X8_70 (kk := ?_)
          refine zz_retie dX8_drawn_51 rfl (by decide) ?_ ?_
          · unfold v_X8_drawn; (repeat (first | rw [if_pos (by omega)] | rw [if_neg (by omega)])) <;> first | rfl | done
          · unfold f_X8_drawn; (repeat (first | rw [if_pos (by omega)] | rw [if_neg (by omega)])) <;> first | rfl | done
  · have hg9 := bz_f h9
    refine jj_ldc dX8_drawn_12 kk_X8_187 (kk := ?_)
    refine zz_retie dX8_drawn_14 rfl (by decide) ?_ ?_
    · unfold v_X8_drawn; (repeat (first | rw [if_pos (by omega)] | rw [if_neg (by omega)])) <;> first | rfl | done
    · unfold f_X8_drawn; (repeat (first | rw [if_pos (by omega)] | rw [if_neg (by omega)])) <;> first | rfl | done

