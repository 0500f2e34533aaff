theorem fWhi_r (w : Int) : 5 ≤ fWhi w ∧ fWhi w ≤ 19 := by
  unfold fWhi
  (repeat' split) <;> omega
def v_X8_who (s : jz_St) (l w o r fr n : Int) : Int := if (0 ≤ l ∧ l ≤ s 420 3 - 1) ∧ (0 ≤ w ∧ w ≤ 2) ∧ (0 ≤ o ∧ o ≤ s 420 3 - 1) ∧ (0 ≤ r ∧ r ≤ 7) ∧ 1 ≤ n ∧ n ≤ 12 then (if s 417 r.toNat < 0 then -1000011 else if 0 ≤ fr ∧ fr + n ≤ s 418 r.toNat then (rWh (jz_su s 416 1 0) l w o.toNat (40 * r + fr).toNat n.toNat 0 (rLo w) ((fWhi w).toNat + 1 - rLo w)).1 else -1000012) else -1000001
def f_X8_who (s : jz_St) (l w o r fr n : Int) : jz_St := if (0 ≤ l ∧ l ≤ s 420 3 - 1) ∧ (0 ≤ w ∧ w ≤ 2) ∧ (0 ≤ o ∧ o ≤ s 420 3 - 1) ∧ (0 ≤ r ∧ r ≤ 7) ∧ 1 ≤ n ∧ n ≤ 12 then (if s 417 r.toNat < 0 then jz_su s 416 1 1 else if 0 ≤ fr ∧ fr + n ≤ s 418 r.toNat then (rWh (jz_su s 416 1 0) l w o.toNat (40 * r + fr).toNat n.toNat 0 (rLo w) ((fWhi w).toNat + 1 - rLo w)).2 else jz_su s 416 1 2) else s
set_option maxRecDepth 100000 in
set_option maxHeartbeats 4000000 in
theorem c_X8_who (g : jz_G) (s : jz_St) (l w o r fr n : Int) (hM : mIn s)  : jz_C g mX8_who [jr (416), ji (l), ji (w), ji (o), ji (r), ji (fr), ji (n)] s (jq_ie (v_X8_who s l w o r fr n) (f_X8_who s l w o r fr n)) := by
  refine zz_C_of koX8_who rfl (Nat.le_of_ble_eq_true rfl) ?_
  refine zz_pad 3 ?_
  show jz_Z g mX8_who (jq_ie (v_X8_who s l w o r fr n) (f_X8_who s l w o r fr n)) 0 [some (jr (416)), some (ji (l)), some (ji (w)), some (ji (o)), some (ji (r)), some (ji (fr)), some (ji (n)), none, none, none] [] s
  have hL := hM.1
  have hm := hM.2.1
  have ha := hM.2.2.1
  have htr := hM.2.2.2
  have hmh := mRw_h hm
  refine zz_rng fun _ _ hl => ?_
  have hIfr : jI fr := hl (ji fr) (by simp)
  have hIn : jI n := hl (ji n) (by simp)
  have hLr := hL.2 r.toNat
  have hW := fWhi_r w
  have hj0_0 := @jc_lt (fr + n) (s 418 r.toNat)
  have hj0_1 := @jc_gt (fr + n) (s 418 r.toNat)
  have hj0_2 := @jc_le (fr + n) (s 418 r.toNat)
  refine jj_aload_n dX8_who_0 rfl ?_
  refine jj_iconst dX8_who_1 (kk := ?_)
  refine zz_putI dX8_who_2 kw_X8_50 tt416 rfl rfl ?_
  refine zz_st (s1 := s) (by exact jz_su_id hL.1) ?_
  refine jj_aload_n dX8_who_5 rfl ?_
  refine jj_iload_n dX8_who_6 rfl ?_
  refine zz_cVi (av := [ji (l)]) (st' := []) dX8_who_7 kn_X8_193 kmX8_isLeaf tt416 rfl rfl rfl (Nat.le_of_ble_eq_true rfl) (by decide) rfl (c_X8_isLeaf g s l (by omega)) (fun hr7 ho7 => ?_)
  refine jj_if_eq (tgt := 54) dX8_who_10 (by decide) (fun h10 => ?_) (fun h10 => ?_)
  · have hg10 := bz_f h10
    refine jj_ldc dX8_who_54 kk_X8_70 (kk := ?_)
    refine zz_retie dX8_who_56 rfl (by decide) ?_ ?_
    · unfold v_X8_who; (repeat (first | rw [if_pos (by omega)] | rw [if_neg (by omega)])) <;> first | rfl | done
    · unfold f_X8_who; (repeat (first | rw [if_pos (by omega)] | rw [if_neg (by omega)])) <;> first | rfl | done
  · have hg10 := bz_t h10
    refine jj_iload_n dX8_who_13 rfl ?_
    refine jj_i2l dX8_who_14 ?_
    refine jj_lconst (z := 0) dX8_who_15 (kk := ?_)
    refine jj_ldc2 dX8_who_16 kk_X8_68 (kk := ?_)
    refine zz_cSi (av := [jl (w), jl (0), jl (2)]) (st' := []) dX8_who_19 kn_X8_60 kmX8_in rfl rfl (Nat.le_of_ble_eq_true rfl) (by decide) rfl (c_X8_in g s w 0 2) (fun hr19 ho19 => ?_)
    refine jj_if_eq (tgt := 54) dX8_who_22 (by decide) (fun h22 => ?_) (fun h22 => ?_)
    · have hg22 := bz_f h22
      refine jj_ldc dX8_who_54 kk_X8_70 (kk := ?_)
      refine zz_retie dX8_who_56 rfl (by decide) ?_ ?_
      · unfold v_X8_who; (repeat (first | rw [if_pos (by omega)] | rw [if_neg (by omega)])) <;> first | rfl | done
      · unfold f_X8_who; (repeat (first | rw [if_pos (by omega)] | rw [if_neg (by omega)])) <;> first | rfl | done
    · have hg22 := bz_t h22
      refine jj_aload_n dX8_who_25 rfl ?_
      refine jj_iload_n dX8_who_26 rfl ?_
      refine zz_cVi (av := [ji (o)]) (st' := []) dX8_who_27 kn_X8_193 kmX8_isLeaf tt416 rfl rfl rfl (Nat.le_of_ble_eq_true rfl) (by decide) rfl (c_X8_isLeaf g s o (by omega)) (fun hr27 ho27 => ?_)
      refine jj_if_eq (tgt := 54) dX8_who_30 (by decide) (fun h30 => ?_) (fun h30 => ?_)
      · have hg30 := bz_f h30
        refine jj_ldc dX8_who_54 kk_X8_70 (kk := ?_)
        refine zz_retie dX8_who_56 rfl (by decide) ?_ ?_
        · unfold v_X8_who; (repeat (first | rw [if_pos (by omega)] | rw [if_neg (by omega)])) <;> first | rfl | done
        · unfold f_X8_who; (repeat (first | rw [if_pos (by omega)] | rw [if_neg (by omega)])) <;> first | rfl | done
      · have hg30 := bz_t h30
        refine jj_iload dX8_who_33 rfl ?_
        refine zz_cSi (av := [ji (r)]) (st' := []) dX8_who_35 kn_X8_64 kmX8_isRow rfl rfl (Nat.le_of_ble_eq_true rfl) (by decide) rfl (c_X8_isRow g s r) (fun hr35 ho35 => ?_)
        refine jj_if_eq (tgt := 54) dX8_who_38 (by decide) (fun h38 => ?_) (fun h38 => ?_)
        · have hg38 := bz_f h38
          refine jj_ldc dX8_who_54 kk_X8_70 (kk := ?_)
          refine zz_retie dX8_who_56 rfl (by decide) ?_ ?_
          · unfold v_X8_who; (repeat (first | rw [if_pos (by omega)] | rw [if_neg (by omega)])) <;> first | rfl | done
          · unfold f_X8_who; (repeat (first | rw [if_pos (by omega)] | rw [if_neg (by omega)])) <;> first | rfl | done
        · have hg38 := bz_t h38
          refine jj_iload dX8_who_41 rfl ?_
          refine jj_i2l dX8_who_43 ?_
          refine jj_lconst (z := 1) dX8_who_44 (kk := ?_)
          refine jj_ldc2 dX8_who_45 kk_X8_228 (kk := ?_)
          refine zz_cSi (av := [jl (n), jl (1), jl (12)]) (st' := []) dX8_who_48 kn_X8_60 kmX8_in rfl rfl (Nat.le_of_ble_eq_true rfl) (by decide) rfl (c_X8_in g s n 1 12) (fun hr48 ho48 => ?_)
          refine jj_if_ne (tgt := 57) dX8_who_51 (by decide) (fun h51 => ?_) (fun h51 => ?_)
          · have hg51 := bz_t h51
            refine jj_aload_n dX8_who_57 rfl ?_
            refine zz_getR dX8_who_58 kf_X8_7 tt416 rfl ?_
            refine jj_iload dX8_who_61 rfl ?_
            refine zz_ialdN (j := r.toNat) dX8_who_63 tt417 (by omega) (by omega) ?_
            refine jj_if_ge (tgt := 73) dX8_who_64 (by decide) (fun h64 => ?_) (fun h64 => ?_)
            · refine jj_iload dX8_who_73 rfl ?_
              refine jj_if_lt (tgt := 97) dX8_who_75 (by decide) (fun h75 => ?_) (fun h75 => ?_)
              · refine jj_aload_n dX8_who_97 rfl ?_
                refine jj_iconst dX8_who_98 (kk := ?_)
                refine zz_cVi (av := [ji (2)]) (st' := []) dX8_who_99 kn_X8_71 kmX8_finding tt416 rfl rfl rfl (Nat.le_of_ble_eq_true rfl) (by decide) rfl (c_X8_finding g s 2 (by omega)) (fun hr99 ho99 => ?_)
                refine zz_retie dX8_who_102 rfl (by decide) ?_ ?_
                · unfold v_X8_who; (repeat (first | rw [if_pos (by omega)] | rw [if_neg (by omega)])) <;> first | rfl | done
                · unfold f_X8_who; (repeat (first | rw [if_pos (by omega)] | rw [if_neg (by omega)])) <;> first | rfl | done
              · refine jj_iload dX8_who_78 rfl ?_
                refine jj_i2l dX8_who_80 ?_
                refine jj_iload dX8_who_81 rfl ?_
                refine jj_i2l dX8_who_83 ?_
                refine jj_ladd dX8_who_84 (by omega) ?_
                refine jj_aload_n dX8_who_85 rfl ?_
                refine zz_getR dX8_who_86 kf_X8_13 tt416 rfl ?_
                refine jj_iload dX8_who_89 rfl ?_
                refine zz_ialdN (j := r.toNat) dX8_who_91 tt418 (by omega) (by omega) ?_
                refine jj_i2l dX8_who_92 ?_
                refine jj_lcmp dX8_who_93 ?_
                refine jj_if_le (tgt := 103) dX8_who_94 (by decide) (fun h94 => ?_) (fun h94 => ?_)
                · refine jj_aload_n dX8_who_103 rfl ?_
                  refine jj_iconst dX8_who_104 (kk := ?_)
                  refine zz_putI dX8_who_105 kw_X8_54 tt416 rfl rfl ?_
                  have L126 : ∀ (q : Nat) (hh126_0 : q = rWt w), jz_Z g mX8_who (jq_ie (v_X8_who s l w o r fr n) (f_X8_who s l w o r fr n)) 126 [some (jr (416)), some (ji (l)), some (ji (w)), some (ji (o)), some (ji (r)), some (ji (fr)), some (ji (n)), none, none, none] [ji ((q : Int))] (jz_su s 416 1 (0)) := by
                    intro q hh126_0
                    refine jj_istore (ls' := [some (jr (416)), some (ji (l)), some (ji (w)), some (ji (o)), some (ji (r)), some (ji (fr)), some (ji (n)), some (ji ((q : Int))), none, none]) dX8_who_126 (by decide) rfl rfl ?_
                    refine jj_iconst dX8_who_128 (kk := ?_)
                    refine jj_istore (ls' := [some (jr (416)), some (ji (l)), some (ji (w)), some (ji (o)), some (ji (r)), some (ji (fr)), some (ji (n)), some (ji ((q : Int))), some (ji (0)), none]) dX8_who_129 (by decide) rfl rfl ?_
                    have L140 : ∀ (k0 : Nat) (hh140_0 : k0 = rLo w), jz_Z g mX8_who (jq_ie (v_X8_who s l w o r fr n) (f_X8_who s l w o r fr n)) 140 [some (jr (416)), some (ji (l)), some (ji (w)), some (ji (o)), some (ji (r)), some (ji (fr)), some (ji (n)), some (ji ((q : Int))), some (ji (0)), none] [ji ((k0 : Int))] (jz_su s 416 1 (0)) := by
                      intro k0 hh140_0
                      refine jj_istore (ls' := [some (jr (416)), some (ji (l)), some (ji (w)), some (ji (o)), some (ji (r)), some (ji (fr)), some (ji (n)), some (ji ((q : Int))), some (ji (0)), some (ji ((k0 : Int)))]) dX8_who_140 (by decide) rfl rfl ?_
                      have L142 : ∀ (nn : Nat) (k : Nat) (acc : Int) (sx : jz_St) (hh142_0 : (k : Int) ≤ fWhi w + 1) (hh142_1 : rWh (jz_su s 416 1 0) l w o.toNat (40 * r + fr).toNat n.toNat 0 (rLo w) ((fWhi w).toNat + 1 - rLo w) = rWh sx l w o.toNat (40 * r + fr).toNat n.toNat acc k ((fWhi w).toNat + 1 - k)) (hh142_2 : sx 420 = s 420), (fWhi w).toNat + 1 - k < nn → jz_Z g mX8_who (jq_ie (v_X8_who s l w o r fr n) (f_X8_who s l w o r fr n)) 142 [some (jr (416)), some (ji (l)), some (ji (w)), some (ji (o)), some (ji (r)), some (ji (fr)), some (ji (n)), some (ji ((q : Int))), some (ji (acc)), some (ji ((k : Int)))] [] sx := by
                        intro nn
                        induction nn with
                        | zero => intro k acc sx hh142_0 hh142_1 hh142_2 hmz; exact absurd hmz (Nat.not_lt_zero _)
                        | succ nn ih142 =>
                          intro k acc sx hh142_0 hh142_1 hh142_2 hm142
                          refine jj_iload dX8_who_142 rfl ?_
                          have L164 : ∀ (hi : Int) (hh164_0 : hi = fWhi w), jz_Z g mX8_who (jq_ie (v_X8_who s l w o r fr n) (f_X8_who s l w o r fr n)) 164 [some (jr (416)), some (ji (l)), some (ji (w)), some (ji (o)), some (ji (r)), some (ji (fr)), some (ji (n)), some (ji ((q : Int))), some (ji (acc)), some (ji ((k : Int)))] [ji (hi), ji ((k : Int))] sx := by
                            intro hi hh164_0
                            refine jj_icmp_gt (tgt := 224) dX8_who_164 (by decide) (fun h164 => ?_) (fun h164 => ?_)
                            · refine jj_iload dX8_who_224 rfl ?_
                              refine zz_retie dX8_who_226 rfl (by decide) ?_ ?_
                              · unfold v_X8_who; rw [if_pos (by omega), if_neg (by omega), if_pos (by omega), hh142_1, show (fWhi w).toNat + 1 - k = 0 by omega]; rfl
                              · unfold f_X8_who; rw [if_pos (by omega), if_neg (by omega), if_pos (by omega), hh142_1, show (fWhi w).toNat + 1 - k = 0 by omega]; rfl
                            · have hq4 : q < 4 := by rw [hh126_0]; exact rWt_lt w
                              refine jj_aload_n dX8_who_167 rfl ?_
                              refine zz_cVv (av := []) (st' := []) dX8_who_168 kn_X8_177 kmX8_layThen tt416 rfl rfl rfl (Nat.le_of_ble_eq_true rfl) (by decide) rfl (c_X8_layThen g sx) (fun ho168 => ?_)
                              refine jj_aload_n dX8_who_171 rfl ?_
                              refine zz_getR dX8_who_172 kf_X8_25 tt416 rfl ?_
                              refine jj_bipush dX8_who_175 (kk := ?_)
                              refine jj_iconst dX8_who_177 (kk := ?_)
                              refine jj_iload_n dX8_who_178 rfl ?_
                              refine jj_imul dX8_who_179 (by omega) ?_
                              refine jj_iadd dX8_who_180 (by omega) ?_
                              refine jj_iload dX8_who_181 rfl ?_
                              refine jj_iadd dX8_who_183 (by omega) ?_
                              refine jj_iload dX8_who_184 rfl ?_
                              refine zz_iastN (j := 6 + 5 * l.toNat + q) dX8_who_186 tt422 (by omega) (by omega) ?_
                              refine zz_st (s1 := rWhA sx l w k) (by unfold rWhA; rw [hh126_0]) ?_
                              have hM2 : mRw (rWhA sx l w k 422) 999 := whA_mr (by omega) (by omega) (by rw [hh142_2]; exact hm)
                              refine jj_iload dX8_who_187 rfl ?_
                              refine jj_aload_n dX8_who_189 rfl ?_
                              refine jj_iload_n dX8_who_190 rfl ?_
                              refine jj_bipush dX8_who_191 (kk := ?_)
                              refine jj_iload dX8_who_193 rfl ?_
                              refine jj_imul dX8_who_195 (by omega) ?_
                              refine jj_iload dX8_who_196 rfl ?_
                              refine jj_iadd dX8_who_198 (by omega) ?_
                              refine jj_iload dX8_who_199 rfl ?_
                              refine zz_cVi (av := [ji (o), ji ((40 * r) + fr), ji (n)]) (st' := [ji (acc)]) dX8_who_201 kn_X8_230 kmX8_isSo tt416 rfl rfl rfl (Nat.le_of_ble_eq_true rfl) (by decide) rfl (c_X8_isSo g (rWhA sx l w k) o.toNat o (by omega) (((40 * r) + fr).toNat) ((40 * r) + fr) (by omega) n.toNat n (by omega) 999 hM2 (by omega) (by omega)) (fun hr201 ho201 => ?_)
                              have L215 : ∀ (d : Int) (hh215_0 : d = if rSo (rWhA sx l w k) o.toNat (40 * r + fr).toNat n.toNat = 0 then 0 else jshl 1 k), jz_Z g mX8_who (jq_ie (v_X8_who s l w o r fr n) (f_X8_who s l w o r fr n)) 215 [some (jr (416)), some (ji (l)), some (ji (w)), some (ji (o)), some (ji (r)), some (ji (fr)), some (ji (n)), some (ji ((q : Int))), some (ji (acc)), some (ji ((k : Int)))] [ji (d), ji (acc)] (f_X8_hoursOf (rWhA sx l w k) 422 n.toNat) := by
                                intro d hh215_0
                                refine jj_ior dX8_who_215 ?_
                                refine jj_istore (ls' := [some (jr (416)), some (ji (l)), some (ji (w)), some (ji (o)), some (ji (r)), some (ji (fr)), some (ji (n)), some (ji ((q : Int))), some (ji (jor (acc) (d))), some (ji ((k : Int)))]) dX8_who_216 (by decide) rfl rfl ?_
                                refine jj_iinc (ls' := [some (jr (416)), some (ji (l)), some (ji (w)), some (ji (o)), some (ji (r)), some (ji (fr)), some (ji (n)), some (ji ((q : Int))), some (ji (jor (acc) (d))), some (ji ((k : Int) + 1))]) dX8_who_218 rfl (by decide) rfl (by omega) rfl ?_
                                refine jj_goto (tgt := 142) dX8_who_221 (by decide) ?_
                                exact ih142 (k + 1) (jor (acc) (d)) (f_X8_hoursOf (rWhA sx l w k) 422 n.toNat) (by omega) (by rw [hh142_1, show (fWhi w).toNat + 1 - k = ((fWhi w).toNat + 1 - (k + 1)) + 1 by omega]; simp only [rWh]; rw [← hh215_0]) (by rw [hoursOf_o (by decide) (by decide) (by decide), whA_o _ _ _ _ (by decide)]; exact hh142_2) (by omega)
                              refine jj_if_eq (tgt := 214) dX8_who_204 (by decide) (fun h204 => ?_) (fun h204 => ?_)
                              · refine jj_iconst dX8_who_214 (kk := ?_)
                                exact L215 0 (by first | (rw [if_pos (by omega)]; done) | (rw [if_neg (by omega)]; done))
                              · refine jj_iconst dX8_who_207 (kk := ?_)
                                refine jj_iload dX8_who_208 rfl ?_
                                refine jj_ishl dX8_who_210 ?_
                                refine jj_goto (tgt := 215) dX8_who_211 (by decide) ?_
                                exact L215 (jshl (1) ((k : Int))) (by first | (rw [if_pos (by omega)]; done) | (rw [if_neg (by omega)]; done))
                          refine jj_iload_n dX8_who_144 rfl ?_
                          refine jj_if_ne (tgt := 152) dX8_who_145 (by decide) (fun h145 => ?_) (fun h145 => ?_)
                          · refine jj_iload_n dX8_who_152 rfl ?_
                            refine jj_iconst dX8_who_153 (kk := ?_)
                            refine jj_icmp_ne (tgt := 162) dX8_who_154 (by decide) (fun h154 => ?_) (fun h154 => ?_)
                            · refine jj_bipush dX8_who_162 (kk := ?_)
                              exact L164 19 (by unfold fWhi; first | (rw [if_pos (by omega)]; done) | (rw [if_neg (by omega), if_pos (by omega)]; done) | (rw [if_neg (by omega), if_neg (by omega)]; done))
                            · refine jj_bipush dX8_who_157 (kk := ?_)
                              refine jj_goto (tgt := 164) dX8_who_159 (by decide) ?_
                              exact L164 9 (by unfold fWhi; first | (rw [if_pos (by omega)]; done) | (rw [if_neg (by omega), if_pos (by omega)]; done) | (rw [if_neg (by omega), if_neg (by omega)]; done))
                          · refine jj_iconst dX8_who_148 (kk := ?_)
                            refine jj_goto (tgt := 164) dX8_who_149 (by decide) ?_
                            exact L164 5 (by unfold fWhi; first | (rw [if_pos (by omega)]; done) | (rw [if_neg (by omega), if_pos (by omega)]; done) | (rw [if_neg (by omega), if_neg (by omega)]; done))
                      exact L142 _ k0 0 (jz_su s 416 1 0) (by unfold rLo at hh140_0; split at hh140_0 <;> omega) (by rw [hh140_0]) (by rw [jz_su_o (by decide)]) (Nat.lt_succ_self _)
                    refine jj_iload_n dX8_who_131 rfl ?_
                    refine jj_if_ne (tgt := 139) dX8_who_132 (by decide) (fun h132 => ?_) (fun h132 => ?_)
                    · refine jj_iconst dX8_who_139 (kk := ?_)
                      exact L140 0 (by unfold rLo; first | (rw [if_pos (by omega)]; done) | (rw [if_neg (by omega)]; done))
                    · refine jj_iconst dX8_who_135 (kk := ?_)
                      refine jj_goto (tgt := 140) dX8_who_136 (by decide) ?_
                      exact L140 1 (by unfold rLo; first | (rw [if_pos (by omega)]; done) | (rw [if_neg (by omega)]; done))
                  refine jj_iload_n dX8_who_108 rfl ?_
                  refine jj_if_ne (tgt := 116) dX8_who_109 (by decide) (fun h109 => ?_) (fun h109 => ?_)
                  · refine jj_iload_n dX8_who_116 rfl ?_
                    refine jj_iconst dX8_who_117 (kk := ?_)
                    refine jj_icmp_ne (tgt := 125) dX8_who_118 (by decide) (fun h118 => ?_) (fun h118 => ?_)
                    · refine jj_iconst dX8_who_125 (kk := ?_)
                      exact L126 3 (by unfold rWt; first | (rw [if_pos (by omega)]; done) | (rw [if_neg (by omega), if_pos (by omega)]; done) | (rw [if_neg (by omega), if_neg (by omega)]; done))
                    · refine jj_iconst dX8_who_121 (kk := ?_)
                      refine jj_goto (tgt := 126) dX8_who_122 (by decide) ?_
                      exact L126 2 (by unfold rWt; first | (rw [if_pos (by omega)]; done) | (rw [if_neg (by omega), if_pos (by omega)]; done) | (rw [if_neg (by omega), if_neg (by omega)]; done))
                  · refine jj_iconst dX8_who_112 (kk := ?_)
                    refine jj_goto (tgt := 126) dX8_who_113 (by decide) ?_
                    exact L126 0 (by unfold rWt; first | (rw [if_pos (by omega)]; done) | (rw [if_neg (by omega), if_pos (by omega)]; done) | (rw [if_neg (by omega), if_neg (by omega)]; done))
                · refine jj_aload_n dX8_who_97 rfl ?_
                  refine jj_iconst dX8_who_98 (kk := ?_)
                  refine zz_cVi (av := [ji (2)]) (st' := []) dX8_who_99 kn_X8_71 kmX8_finding tt416 rfl rfl rfl (Nat.le_of_ble_eq_true rfl) (by decide) rfl (c_X8_finding g s 2 (by omega)) (fun hr99 ho99 => ?_)
                  refine zz_retie dX8_who_102 rfl (by decide) ?_ ?_
                  · unfold v_X8_who; (repeat (first | rw [if_pos (by omega)] | rw [if_neg (by omega)])) <;> first | rfl | done
                  · unfold f_X8_who; (repeat (first | rw [if_pos (by omega)] | rw [if_neg (by omega)])) <;> first | rfl | done
            · refine jj_aload_n dX8_who_67 rfl ?_
              refine jj_iconst dX8_who_68 (kk := ?_)
              refine zz_cVi (av := [ji (1)]) (st' := []) dX8_who_69 kn_X8_71 kmX8_finding tt416 rfl rfl rfl (Nat.le_of_ble_eq_true rfl) (by decide) rfl (c_X8_finding g s 1 (by omega)) (fun hr69 ho69 => ?_)
              refine zz_retie dX8_who_72 rfl (by decide) ?_ ?_
              · unfold v_X8_who; (repeat (first | rw [if_pos (by omega)] | rw [if_neg (by omega)])) <;> first | rfl | done
              · unfold f_X8_who; (repeat (first | rw [if_pos (by omega)] | rw [if_neg (by omega)])) <;> first | rfl | done
          · have hg51 := bz_f h51
            refine jj_ldc dX8_who_54 kk_X8_70 (kk := ?_)
            refine zz_retie dX8_who_56 rfl (by decide) ?_ ?_
            · unfold v_X8_who; (repeat (first | rw [if_pos (by omega)] | rw [if_neg (by omega)])) <;> first | rfl | done
            · unfold f_X8_who; (repeat (first | rw [if_pos (by omega)] | rw [if_neg (by omega)])) <;> first | rfl | done

