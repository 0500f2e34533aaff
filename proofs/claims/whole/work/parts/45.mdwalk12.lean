def v_X8_wind (s : jz_St) (k p w : Int) : Int := if s 420 0 = 1 then (if (0 ≤ k ∧ k ≤ 7) ∧ (0 ≤ p ∧ p ≤ 10) ∧ 0 ≤ w ∧ w ≤ 1 then Int.tdiv (if w = 0 then rWiA s (rOp (s 420) (s 420 3).toNat) k p (s 420 3).toNat ((rOp (s 420) (s 420 3).toNat).toNat + 1) else rWiB (rOp (s 420) (s 420 3).toNat) p (s 420 3).toNat ((rOp (s 420) (s 420 3).toNat).toNat + 1)) ((Nat.gcd (rWiA s (rOp (s 420) (s 420 3).toNat) k p (s 420 3).toNat ((rOp (s 420) (s 420 3).toNat).toNat + 1)).toNat (rWiB (rOp (s 420) (s 420 3).toNat) p (s 420 3).toNat ((rOp (s 420) (s 420 3).toNat).toNat + 1)).toNat : Nat) : Int) else -1000001) else -1000002
def f_X8_wind (s : jz_St) (k p w : Int) : jz_St := if s 420 0 = 1 then (if (0 ≤ k ∧ k ≤ 7) ∧ (0 ≤ p ∧ p ≤ 10) ∧ 0 ≤ w ∧ w ≤ 1 then rWiS s (rOp (s 420) (s 420 3).toNat) ((rOp (s 420) (s 420 3).toNat).toNat + 1) else s) else s
set_option maxRecDepth 100000 in
set_option maxHeartbeats 4000000 in
theorem c_X8_wind (g : jz_G) (s : jz_St) (k p w : Int) (hM : mIn s)  : jz_C g mX8_wind [jr (416), ji (k), ji (p), ji (w)] s (jq_le (v_X8_wind s k p w) (f_X8_wind s k p w)) := by
  refine zz_C_of koX8_wind rfl (Nat.le_of_ble_eq_true rfl) ?_
  refine zz_pad 11 ?_
  show jz_Z g mX8_wind (jq_le (v_X8_wind s k p w) (f_X8_wind s k p w)) 0 [some (jr (416)), some (ji (k)), some (ji (p)), some (ji (w)), none, none, none, none, none, none, none, none, none, none, none] [] s
  have hL := hM.1
  have hm := hM.2.1
  have ha := hM.2.2.1
  have htr := hM.2.2.2
  have hmh := mRw_h hm
  refine jj_aload_n dX8_wind_0 rfl ?_
  refine jj_iconst dX8_wind_1 (kk := ?_)
  refine zz_putI dX8_wind_2 kw_X8_50 tt416 rfl rfl ?_
  refine zz_st (s1 := s) (by exact jz_su_id hL.1) ?_
  refine jj_aload_n dX8_wind_5 rfl ?_
  refine zz_cVi (av := []) (st' := []) dX8_wind_6 kn_X8_184 kmX8_isThere tt416 rfl rfl rfl (Nat.le_of_ble_eq_true rfl) (by decide) rfl (c_X8_isThere g s) (fun hr6 ho6 => ?_)
  refine jj_if_ne (tgt := 16) dX8_wind_9 (by decide) (fun h9 => ?_) (fun h9 => ?_)
  · have hg9 := bz_t h9
    refine jj_iload_n dX8_wind_16 rfl ?_
    refine jj_i2l dX8_wind_17 ?_
    refine jj_lconst (z := 0) dX8_wind_18 (kk := ?_)
    refine jj_ldc2 dX8_wind_19 kk_X8_58 (kk := ?_)
    refine zz_cSi (av := [jl (k), jl (0), jl (7)]) (st' := []) dX8_wind_22 kn_X8_60 kmX8_in rfl rfl (Nat.le_of_ble_eq_true rfl) (by decide) rfl (c_X8_in g s k 0 7) (fun hr22 ho22 => ?_)
    refine jj_if_eq (tgt := 50) dX8_wind_25 (by decide) (fun h25 => ?_) (fun h25 => ?_)
    · have hg25 := bz_f h25
      refine jj_ldc2 dX8_wind_50 kk_X8_238 (kk := ?_)
      refine zz_retle dX8_wind_53 rfl (by decide) ?_ ?_
      · unfold v_X8_wind; (repeat (first | rw [if_pos (by omega)] | rw [if_neg (by omega)])) <;> first | rfl | done
      · unfold f_X8_wind; (repeat (first | rw [if_pos (by omega)] | rw [if_neg (by omega)])) <;> first | rfl | done
    · have hg25 := bz_t h25
      refine jj_iload_n dX8_wind_28 rfl ?_
      refine jj_i2l dX8_wind_29 ?_
      refine jj_lconst (z := 0) dX8_wind_30 (kk := ?_)
      refine jj_ldc2 dX8_wind_31 kk_X8_236 (kk := ?_)
      refine zz_cSi (av := [jl (p), jl (0), jl (10)]) (st' := []) dX8_wind_34 kn_X8_60 kmX8_in rfl rfl (Nat.le_of_ble_eq_true rfl) (by decide) rfl (c_X8_in g s p 0 10) (fun hr34 ho34 => ?_)
      refine jj_if_eq (tgt := 50) dX8_wind_37 (by decide) (fun h37 => ?_) (fun h37 => ?_)
      · have hg37 := bz_f h37
        refine jj_ldc2 dX8_wind_50 kk_X8_238 (kk := ?_)
        refine zz_retle dX8_wind_53 rfl (by decide) ?_ ?_
        · unfold v_X8_wind; (repeat (first | rw [if_pos (by omega)] | rw [if_neg (by omega)])) <;> first | rfl | done
        · unfold f_X8_wind; (repeat (first | rw [if_pos (by omega)] | rw [if_neg (by omega)])) <;> first | rfl | done
      · have hg37 := bz_t h37
        refine jj_iload_n dX8_wind_40 rfl ?_
        refine jj_i2l dX8_wind_41 ?_
        refine jj_lconst (z := 0) dX8_wind_42 (kk := ?_)
        refine jj_lconst (z := 1) dX8_wind_43 (kk := ?_)
        refine zz_cSi (av := [jl (w), jl (0), jl (1)]) (st' := []) dX8_wind_44 kn_X8_60 kmX8_in rfl rfl (Nat.le_of_ble_eq_true rfl) (by decide) rfl (c_X8_in g s w 0 1) (fun hr44 ho44 => ?_)
        refine jj_if_ne (tgt := 54) dX8_wind_47 (by decide) (fun h47 => ?_) (fun h47 => ?_)
        · have hg47 := bz_t h47
          refine jj_iconst dX8_wind_54 (kk := ?_)
          refine jj_istore (ls' := [some (jr (416)), some (ji (k)), some (ji (p)), some (ji (w)), some (ji (0)), none, none, none, none, none, none, none, none, none, none]) dX8_wind_55 (by decide) rfl rfl ?_
          refine jj_iconst dX8_wind_57 (kk := ?_)
          refine jj_istore (ls' := [some (jr (416)), some (ji (k)), some (ji (p)), some (ji (w)), some (ji (0)), some (ji (0)), none, none, none, none, none, none, none, none, none]) dX8_wind_58 (by decide) rfl rfl ?_
          have L60 : ∀ (nn : Nat) (j : Nat) (acc : Int) (hh60_0 : (j : Int) ≤ s 420 3) (hh60_1 : acc = rOp (s 420) j), 7 - j < nn → jz_Z g mX8_wind (jq_le (v_X8_wind s k p w) (f_X8_wind s k p w)) 60 [some (jr (416)), some (ji (k)), some (ji (p)), some (ji (w)), some (ji (acc)), some (ji ((j : Int))), none, none, none, none, none, none, none, none, none] [] s := by
            intro nn
            induction nn with
            | zero => intro j acc hh60_0 hh60_1 hmz; exact absurd hmz (Nat.not_lt_zero _)
            | succ nn ih60 =>
              intro j acc hh60_0 hh60_1 hm60
              refine jj_iload dX8_wind_60 rfl ?_
              refine jj_aload_n dX8_wind_62 rfl ?_
              refine zz_getR dX8_wind_63 kf_X8_19 tt416 rfl ?_
              refine jj_iconst dX8_wind_66 (kk := ?_)
              refine zz_ialdN (j := 3) dX8_wind_67 tt420 (by omega) (by omega) ?_
              refine jj_icmp_ge (tgt := 103) dX8_wind_68 (by decide) (fun h68 => ?_) (fun h68 => ?_)
              · have hop : acc = rOp (s 420) (s 420 3).toNat := by rw [show (s 420 3).toNat = j by omega]; exact hh60_1
                have hac : 0 ≤ acc ∧ acc < 128 := by rw [hop]; exact rOp_r (by omega)
                refine jj_lconst (z := 0) dX8_wind_103 (kk := ?_)
                refine jj_lstore (ls' := [some (jr (416)), some (ji (k)), some (ji (p)), some (ji (w)), some (ji (acc)), some (jl (0)), none, none, none, none, none, none, none, none, none]) dX8_wind_104 (by decide) rfl rfl ?_
                refine jj_lconst (z := 0) dX8_wind_106 (kk := ?_)
                refine jj_lstore (ls' := [some (jr (416)), some (ji (k)), some (ji (p)), some (ji (w)), some (ji (acc)), some (jl (0)), none, some (jl (0)), none, none, none, none, none, none, none]) dX8_wind_107 (by decide) rfl rfl ?_
                refine jj_iconst dX8_wind_109 (kk := ?_)
                refine jj_istore (ls' := [some (jr (416)), some (ji (k)), some (ji (p)), some (ji (w)), some (ji (acc)), some (jl (0)), none, some (jl (0)), none, some (ji (0)), none, none, none, none, none]) dX8_wind_110 (by decide) rfl rfl ?_
                have L112 : ∀ (nn : Nat) (c : Nat) (ab be : Int) (hh112_0 : (c : Int) ≤ acc + 1) (hh112_1 : ab = rWiA s acc k p (s 420 3).toNat c) (hh112_2 : be = rWiB acc p (s 420 3).toNat c), acc.toNat + 1 - c < nn → jz_Z g mX8_wind (jq_le (v_X8_wind s k p w) (f_X8_wind s k p w)) 112 [some (jr (416)), some (ji (k)), some (ji (p)), some (ji (w)), some (ji (acc)), some (jl (ab)), none, some (jl (be)), none, some (ji ((c : Int))), none, none, none, none, none] [] (rWiS s acc c) := by
                  intro nn
                  induction nn with
                  | zero => intro c ab be hh112_0 hh112_1 hh112_2 hmz; exact absurd hmz (Nat.not_lt_zero _)
                  | succ nn ih112 =>
                    intro c ab be hh112_0 hh112_1 hh112_2 hm112
                    have hA := wiA_rng (s := s) (op := acc) (k := k) (p := p) (L := (s 420 3).toNat) (by omega) (by omega) c
                    have hB := wiB_rng (op := acc) (p := p) (L := (s 420 3).toNat) (by omega) (by omega) c
                    refine jj_iload dX8_wind_112 rfl ?_
                    refine jj_iload dX8_wind_114 rfl ?_
                    refine jj_icmp_gt (tgt := 293) dX8_wind_116 (by decide) (fun h116 => ?_) (fun h116 => ?_)
                    · refine jj_lload dX8_wind_293 rfl ?_
                      refine jj_lstore (ls' := [some (jr (416)), some (ji (k)), some (ji (p)), some (ji (w)), some (ji (acc)), some (jl (ab)), none, some (jl (be)), none, some (jl (ab)), none, none, none, none, none]) dX8_wind_295 (by decide) rfl rfl ?_
                      refine jj_lload dX8_wind_297 rfl ?_
                      refine jj_lstore (ls' := [some (jr (416)), some (ji (k)), some (ji (p)), some (ji (w)), some (ji (acc)), some (jl (ab)), none, some (jl (be)), none, some (jl (ab)), none, some (jl (be)), none, none, none]) dX8_wind_299 (by decide) rfl rfl ?_
                      have L301 : ∀ (nn : Nat) (x y : Int) (hh301_0 : 0 ≤ x ∧ x ≤ 10000000000) (hh301_1 : 0 ≤ y ∧ y ≤ 10000000000) (hh301_2 : Nat.gcd x.toNat y.toNat = Nat.gcd ab.toNat be.toNat), y.toNat < nn → jz_Z g mX8_wind (jq_le (v_X8_wind s k p w) (f_X8_wind s k p w)) 301 [some (jr (416)), some (ji (k)), some (ji (p)), some (ji (w)), some (ji (acc)), some (jl (ab)), none, some (jl (be)), none, some (jl (x)), none, some (jl (y)), none, none, none] [] (rWiS s acc c) := by
                        intro nn
                        induction nn with
                        | zero => intro x y hh301_0 hh301_1 hh301_2 hmz; exact absurd hmz (Nat.not_lt_zero _)
                        | succ nn ih301 =>
                          intro x y hh301_0 hh301_1 hh301_2 hm301
                          have hj0_0 := @jc_lt y 0
                          have hj0_1 := @jc_gt y 0
                          have hj0_2 := @jc_le y 0
                          refine jj_lload dX8_wind_301 rfl ?_
                          refine jj_lconst (z := 0) dX8_wind_303 (kk := ?_)
                          refine jj_lcmp dX8_wind_304 ?_
                          refine jj_if_eq (tgt := 326) dX8_wind_305 (by decide) (fun h305 => ?_) (fun h305 => ?_)
                          · have hca : c = acc.toNat + 1 := by omega
                            have hbp : 0 < be := by rw [hh112_2, hca, hop]; exact wiB_pos (by omega) (by omega)
                            have hy0 : y = 0 := by omega
                            have hxg : x = ((Nat.gcd ab.toNat be.toNat : Nat) : Int) := by rw [← hh301_2, hy0]; show x = ((Nat.gcd x.toNat 0 : Nat) : Int); rw [Nat.gcd_zero_right]; omega
                            have hgp := gc_pos (x := ab.toNat) hbp
                            have hx0 : x ≠ 0 := by omega
                            refine jj_iload_n dX8_wind_326 rfl ?_
                            have L337 : ∀ (num : Int) (hh337_0 : num = if w = 0 then ab else be) (hh337_1 : 0 ≤ num ∧ num ≤ 10000000000), jz_Z g mX8_wind (jq_le (v_X8_wind s k p w) (f_X8_wind s k p w)) 337 [some (jr (416)), some (ji (k)), some (ji (p)), some (ji (w)), some (ji (acc)), some (jl (ab)), none, some (jl (be)), none, some (jl (x)), none, some (jl (y)), none, none, none] [jl (num)] (rWiS s acc c) := by
                              intro num hh337_0 hh337_1
                              have hdv : -9223372036854775808 ≤ Int.tdiv num x ∧ Int.tdiv num x ≤ 9223372036854775807 := by have h1 := Int.tdiv_nonneg (a := num) (b := x) (by omega) (by omega); have h2 := Int.tdiv_le_self (b := x) (a := num) (by omega); omega
                              refine jj_lload dX8_wind_337 rfl ?_
                              refine jj_ldiv dX8_wind_339 (by exact hx0) (by first | exact hdv | (unfold jL; omega) | omega) ?_
                              refine zz_retle dX8_wind_340 rfl (by decide) ?_ ?_
                              · unfold v_X8_wind; rw [if_pos (by omega), if_pos (by omega), ← hop, ← hca, ← hh112_1, ← hh112_2, ← hxg, ← hh337_0]
                              · unfold f_X8_wind; rw [if_pos (by omega), if_pos (by omega), ← hop, ← hca]
                            refine jj_if_ne (tgt := 335) dX8_wind_327 (by decide) (fun h327 => ?_) (fun h327 => ?_)
                            · refine jj_lload dX8_wind_335 rfl ?_
                              exact L337 be (by first | (rw [if_pos (by omega)]; done) | (rw [if_neg (by omega)]; done)) (by omega)
                            · refine jj_lload dX8_wind_330 rfl ?_
                              refine jj_goto (tgt := 337) dX8_wind_332 (by decide) ?_
                              exact L337 ab (by first | (rw [if_pos (by omega)]; done) | (rw [if_neg (by omega)]; done)) (by omega)
                          · have hz : Int.tmod x y < y ∧ 0 ≤ Int.tmod x y := by rw [tm_e (by omega)]; have := em_b (x := x) (y := y) (by omega); omega
                            refine jj_lload dX8_wind_308 rfl ?_
                            refine jj_lload dX8_wind_310 rfl ?_
                            refine jj_lrem dX8_wind_312 (by omega) (by rw [tm_e (by omega)]; have := em_b (x := x) (y := y) (by omega); omega) ?_
                            refine jj_lstore (ls' := [some (jr (416)), some (ji (k)), some (ji (p)), some (ji (w)), some (ji (acc)), some (jl (ab)), none, some (jl (be)), none, some (jl (x)), none, some (jl (y)), none, some (jl (Int.tmod (x) (y))), none]) dX8_wind_313 (by decide) rfl rfl ?_
                            refine jj_lload dX8_wind_315 rfl ?_
                            refine jj_lstore (ls' := [some (jr (416)), some (ji (k)), some (ji (p)), some (ji (w)), some (ji (acc)), some (jl (ab)), none, some (jl (be)), none, some (jl (y)), none, some (jl (y)), none, some (jl (Int.tmod (x) (y))), none]) dX8_wind_317 (by decide) rfl rfl ?_
                            refine jj_lload dX8_wind_319 rfl ?_
                            refine jj_lstore (ls' := [some (jr (416)), some (ji (k)), some (ji (p)), some (ji (w)), some (ji (acc)), some (jl (ab)), none, some (jl (be)), none, some (jl (y)), none, some (jl (Int.tmod (x) (y))), none, some (jl (Int.tmod (x) (y))), none]) dX8_wind_321 (by decide) rfl rfl ?_
                            refine jj_goto (tgt := 301) dX8_wind_323 (by decide) ?_
                            refine jj_fgt (i := 13) (ls' := [some (jr (416)), some (ji (k)), some (ji (p)), some (ji (w)), some (ji (acc)), some (jl (ab)), none, some (jl (be)), none, some (jl (y)), none, some (jl (Int.tmod (x) (y))), none, none, none]) rfl ?_
                            exact ih301 y (Int.tmod x y) (by omega) (by omega) (by rw [gc_step (by omega) (by omega)]; exact hh301_2) (by omega)
                      exact L301 _ ab be (by omega) (by omega) (by rfl) (Nat.lt_succ_self _)
                    · refine jj_iload dX8_wind_119 rfl ?_
                      refine jj_iload dX8_wind_121 rfl ?_
                      refine jj_iconst dX8_wind_123 (kk := ?_)
                      refine jj_ixor dX8_wind_124 ?_
                      refine jj_iand dX8_wind_125 ?_
                      refine jj_if_ne (tgt := 287) dX8_wind_126 (by decide) (fun h126 => ?_) (fun h126 => ?_)
                      · refine jj_iinc (ls' := [some (jr (416)), some (ji (k)), some (ji (p)), some (ji (w)), some (ji (acc)), some (jl (ab)), none, some (jl (be)), none, some (ji ((c : Int) + 1)), none, none, none, none, none]) dX8_wind_287 rfl (by decide) rfl (by omega) rfl ?_
                        refine jj_goto (tgt := 112) dX8_wind_290 (by decide) ?_
                        refine zz_st (s1 := rWiS s acc (c + 1)) (by simp only [rWiS]; first | (rw [if_pos (by assumption)]; done) | (rw [if_neg (by assumption)]; done)) ?_
                        exact ih112 (c + 1) ab be (by omega) (by simp only [rWiA]; first | (rw [if_pos (by assumption), ← hh112_1, ← hh284_0]; done) | (rw [if_neg (by assumption)]; exact hh112_1)) (by simp only [rWiB]; first | (rw [if_pos (by assumption), ← hh112_2, ← hwy]; done) | (rw [if_neg (by assumption)]; exact hh112_2)) (by omega)
                      · have hT : jand (c : Int) (jxor acc (-1)) = 0 := by omega
                        refine jj_lconst (z := 1) dX8_wind_129 (kk := ?_)
                        refine jj_lstore (ls' := [some (jr (416)), some (ji (k)), some (ji (p)), some (ji (w)), some (ji (acc)), some (jl (ab)), none, some (jl (be)), none, some (ji ((c : Int))), some (jl (1)), none, none, none, none]) dX8_wind_130 (by decide) rfl rfl ?_
                        refine jj_aload_n dX8_wind_132 rfl ?_
                        refine zz_cVv (av := []) (st' := []) dX8_wind_133 kn_X8_177 kmX8_layThen tt416 rfl rfl rfl (Nat.le_of_ble_eq_true rfl) (by decide) rfl (c_X8_layThen g (rWiS s acc c)) (fun ho133 => ?_)
                        refine jj_iconst dX8_wind_136 (kk := ?_)
                        refine jj_istore (ls' := [some (jr (416)), some (ji (k)), some (ji (p)), some (ji (w)), some (ji (acc)), some (jl (ab)), none, some (jl (be)), none, some (ji ((c : Int))), some (jl (1)), none, some (ji (0)), none, none]) dX8_wind_137 (by decide) rfl rfl ?_
                        have L139 : ∀ (nn : Nat) (i : Nat) (wy : Int) (hh139_0 : (i : Int) ≤ s 420 3) (hh139_1 : wy = rWy acc p c i), 7 - i < nn → jz_Z g mX8_wind (jq_le (v_X8_wind s k p w) (f_X8_wind s k p w)) 139 [some (jr (416)), some (ji (k)), some (ji (p)), some (ji (w)), some (ji (acc)), some (jl (ab)), none, some (jl (be)), none, some (ji ((c : Int))), some (jl (wy)), none, some (ji ((i : Int))), none, none] [] (f_X8_wt (f_X8_layThen (rWiS s acc c)) c i) := by
                          intro nn
                          induction nn with
                          | zero => intro i wy hh139_0 hh139_1 hmz; exact absurd hmz (Nat.not_lt_zero _)
                          | succ nn ih139 =>
                            intro i wy hh139_0 hh139_1 hm139
                            have hwy7 := rWy_7 (op := acc) (p := p) (c := c) (by omega) (j := i) (by omega)
                            have hx20 : (f_X8_wt (f_X8_layThen (rWiS s acc c)) c i) 420 = s 420 := by rw [wt_o _ _ (by decide), layThen_o _ (by decide), wiS_o _ _ (by decide) (by decide) (by decide)]
                            refine jj_iload dX8_wind_139 rfl ?_
                            refine jj_aload_n dX8_wind_141 rfl ?_
                            refine zz_getR dX8_wind_142 kf_X8_19 tt416 rfl ?_
                            refine jj_iconst dX8_wind_145 (kk := ?_)
                            refine zz_ialdN (j := 3) dX8_wind_146 tt420 (by omega) (by omega) ?_
                            refine zz_top (b := s 420 3) (by rw [hx20]) ?_
                            refine jj_icmp_ge (tgt := 245) dX8_wind_147 (by decide) (fun h147 => ?_) (fun h147 => ?_)
                            · have hs3 : (rWiS s acc c) 420 = s 420 := by rw [wiS_o _ _ (by decide) (by decide) (by decide)]
                              have hi3 : (s 420 3).toNat = i := by omega
                              have hwy : wy = rWy acc p c (s 420 3).toNat := by rw [hi3]; exact hh139_1
                              refine zz_st (s1 := f_X8_wt (f_X8_layThen (rWiS s acc c)) c ((rWiS s acc c) 420 3).toNat) (by rw [hs3, hi3]) ?_
                              have hM2 : mRw (f_X8_wt (f_X8_layThen (rWiS s acc c)) c ((rWiS s acc c) 420 3).toNat 422) 999 := wt_mr (layThen_mr (by rw [hs3]; exact hm)) (b2 := 999) (by rw [layThen_o _ (by decide), hs3]; exact hm) _ (by rw [hs3]; omega)
                              refine jj_aload_n dX8_wind_245 rfl ?_
                              refine jj_aload_n dX8_wind_246 rfl ?_
                              refine zz_getR dX8_wind_247 kf_X8_25 tt416 rfl ?_
                              refine zz_cVi (av := [jr (422)]) (st' := []) dX8_wind_250 kn_X8_169 kmX8_hour tt416 rfl rfl rfl (Nat.le_of_ble_eq_true rfl) (by decide) rfl (c_X8_hour g (f_X8_wt (f_X8_layThen (rWiS s acc c)) c ((rWiS s acc c) 420 3).toNat) 422 (Or.inr rfl) 999 hM2 (by omega)) (fun hr250 ho250 => ?_)
                              refine zz_st (s1 := rWiC (rWiS s acc c) c) (by rfl) ?_
                              have hM3 : mRw (rWiC (rWiS s acc c) c 422) (999 + 1) := hour_mr (Or.inr rfl) hM2
                              have hMh := mRw_h hM3
                              have hF := rIF_r (q := rWiC (rWiS s acc c) c 422) (j := (rWiC (rWiS s acc c) c 422 3).toNat) (by omega)
                              refine jj_istore (ls' := [some (jr (416)), some (ji (k)), some (ji (p)), some (ji (w)), some (ji (acc)), some (jl (ab)), none, some (jl (be)), none, some (ji ((c : Int))), some (jl (wy)), none, some (ji (v_X8_hour (f_X8_wt (f_X8_layThen (rWiS s acc c)) c ((rWiS s acc c) 420 3).toNat) 422)), none, none]) dX8_wind_253 (by decide) rfl rfl ?_
                              refine jj_lload dX8_wind_255 rfl ?_
                              refine jj_lload dX8_wind_257 rfl ?_
                              refine jj_ladd dX8_wind_259 (by omega) ?_
                              refine jj_lstore (ls' := [some (jr (416)), some (ji (k)), some (ji (p)), some (ji (w)), some (ji (acc)), some (jl (ab)), none, some (jl (be + wy)), none, some (ji ((c : Int))), some (jl (wy)), none, some (ji (v_X8_hour (f_X8_wt (f_X8_layThen (rWiS s acc c)) c ((rWiS s acc c) 420 3).toNat) 422)), none, none]) dX8_wind_260 (by decide) rfl rfl ?_
                              refine jj_lload dX8_wind_262 rfl ?_
                              have L284 : ∀ (e2 : Int) (hh284_0 : e2 = if k ≤ rWiV s acc c then rWy acc p c (s 420 3).toNat else 0) (hh284_1 : 0 ≤ e2 ∧ e2 ≤ 10000000), jz_Z g mX8_wind (jq_le (v_X8_wind s k p w) (f_X8_wind s k p w)) 284 [some (jr (416)), some (ji (k)), some (ji (p)), some (ji (w)), some (ji (acc)), some (jl (ab)), none, some (jl (be + wy)), none, some (ji ((c : Int))), some (jl (wy)), none, some (ji (v_X8_hour (f_X8_wt (f_X8_layThen (rWiS s acc c)) c ((rWiS s acc c) 420 3).toNat) 422)), none, none] [jl (e2), jl (ab)] (rWiC (rWiS s acc c) c) := by
                                intro e2 hh284_0 hh284_1
                                refine jj_ladd dX8_wind_284 (by omega) ?_
                                refine jj_lstore (ls' := [some (jr (416)), some (ji (k)), some (ji (p)), some (ji (w)), some (ji (acc)), some (jl (ab + e2)), none, some (jl (be + wy)), none, some (ji ((c : Int))), some (jl (wy)), none, some (ji (v_X8_hour (f_X8_wt (f_X8_layThen (rWiS s acc c)) c ((rWiS s acc c) 420 3).toNat) 422)), none, none]) dX8_wind_285 (by decide) rfl rfl ?_
                                refine jj_iinc (ls' := [some (jr (416)), some (ji (k)), some (ji (p)), some (ji (w)), some (ji (acc)), some (jl (ab + e2)), none, some (jl (be + wy)), none, some (ji ((c : Int) + 1)), some (jl (wy)), none, some (ji (v_X8_hour (f_X8_wt (f_X8_layThen (rWiS s acc c)) c ((rWiS s acc c) 420 3).toNat) 422)), none, none]) dX8_wind_287 rfl (by decide) rfl (by omega) rfl ?_
                                refine jj_goto (tgt := 112) dX8_wind_290 (by decide) ?_
                                refine jj_fgt (i := 10) (ls' := [some (jr (416)), some (ji (k)), some (ji (p)), some (ji (w)), some (ji (acc)), some (jl (ab + e2)), none, some (jl (be + wy)), none, some (ji ((c : Int) + 1)), none, none, some (ji (v_X8_hour (f_X8_wt (f_X8_layThen (rWiS s acc c)) c ((rWiS s acc c) 420 3).toNat) 422)), none, none]) rfl ?_
                                refine jj_fgt (i := 12) (ls' := [some (jr (416)), some (ji (k)), some (ji (p)), some (ji (w)), some (ji (acc)), some (jl (ab + e2)), none, some (jl (be + wy)), none, some (ji ((c : Int) + 1)), none, none, none, none, none]) rfl ?_
                                refine zz_st (s1 := rWiS s acc (c + 1)) (by simp only [rWiS]; first | (rw [if_pos (by assumption)]; done) | (rw [if_neg (by assumption)]; done)) ?_
                                exact ih112 (c + 1) (ab + e2) (be + wy) (by omega) (by simp only [rWiA]; first | (rw [if_pos (by assumption), ← hh112_1, ← hh284_0]; done) | (rw [if_neg (by assumption)]; exact hh112_1)) (by simp only [rWiB]; first | (rw [if_pos (by assumption), ← hh112_2, ← hwy]; done) | (rw [if_neg (by assumption)]; exact hh112_2)) (by omega)
                              refine jj_aload_n dX8_wind_264 rfl ?_
                              refine zz_getR dX8_wind_265 kf_X8_25 tt416 rfl ?_
                              refine zz_cSi (av := [jr (422)]) (st' := [jl (ab)]) dX8_wind_268 kn_X8_210 kmX8_forced rfl rfl (Nat.le_of_ble_eq_true rfl) (by decide) rfl (c_X8_forced g (rWiC (rWiS s acc c) c) 422 (Or.inr rfl) (999 + 1) hM3) (fun hr268 ho268 => ?_)
                              refine zz_cSi (av := [ji (rIF ((rWiC (rWiS s acc c) c) 422) ((rWiC (rWiS s acc c) c) 422 3).toNat)]) (st' := [jl (ab)]) dX8_wind_271 kn_X8_221 kmX8_bits rfl rfl (Nat.le_of_ble_eq_true rfl) (by decide) rfl (c_X8_bits g (rWiC (rWiS s acc c) c) ((rIF ((rWiC (rWiS s acc c) c) 422) ((rWiC (rWiS s acc c) c) 422 3).toNat).toNat) (rIF ((rWiC (rWiS s acc c) c) 422) ((rWiC (rWiS s acc c) c) 422 3).toNat) (by omega) (by omega)) (fun hr271 ho271 => ?_)
                              refine zz_top (b := rWiV s acc c) (by rfl) ?_
                              refine jj_iload_n dX8_wind_274 rfl ?_
                              refine jj_icmp_lt (tgt := 283) dX8_wind_275 (by decide) (fun h275 => ?_) (fun h275 => ?_)
                              · refine jj_lconst (z := 0) dX8_wind_283 (kk := ?_)
                                exact L284 0 (by rw [← hwy]; first | (rw [if_pos (by omega)]; done) | (rw [if_neg (by omega)]; done)) (by omega)
                              · refine jj_lload dX8_wind_278 rfl ?_
                                refine jj_goto (tgt := 284) dX8_wind_280 (by decide) ?_
                                exact L284 wy (by rw [← hwy]; first | (rw [if_pos (by omega)]; done) | (rw [if_neg (by omega)]; done)) (by omega)
                            · refine jj_lload dX8_wind_150 rfl ?_
                              have L187 : ∀ (e : Int) (hh187_0 : e = if jand (jshr acc i) 1 = 1 then (if jand (jshr c i) 1 = 1 then p else 10 - p) else 1), jz_Z g mX8_wind (jq_le (v_X8_wind s k p w) (f_X8_wind s k p w)) 187 [some (jr (416)), some (ji (k)), some (ji (p)), some (ji (w)), some (ji (acc)), some (jl (ab)), none, some (jl (be)), none, some (ji ((c : Int))), some (jl (wy)), none, some (ji ((i : Int))), none, none] [jl (e), jl (wy)] (f_X8_wt (f_X8_layThen (rWiS s acc c)) c i) := by
                                intro e hh187_0
                                have hwy8 := rWy_7 (op := acc) (p := p) (c := c) (by omega) (j := i + 1) (by omega)
                                simp only [rWy] at hwy8
                                rw [← hh139_1, ← hh187_0] at hwy8
                                refine jj_lmul dX8_wind_187 (by omega) ?_
                                refine jj_lstore (ls' := [some (jr (416)), some (ji (k)), some (ji (p)), some (ji (w)), some (ji (acc)), some (jl (ab)), none, some (jl (be)), none, some (ji ((c : Int))), some (jl (wy * e)), none, some (ji ((i : Int))), none, none]) dX8_wind_188 (by decide) rfl rfl ?_
                                refine jj_aload_n dX8_wind_190 rfl ?_
                                refine zz_getR dX8_wind_191 kf_X8_25 tt416 rfl ?_
                                refine jj_bipush dX8_wind_194 (kk := ?_)
                                refine jj_iconst dX8_wind_196 (kk := ?_)
                                refine jj_iload dX8_wind_197 rfl ?_
                                refine jj_imul dX8_wind_199 (by omega) ?_
                                refine jj_iadd dX8_wind_200 (by omega) ?_
                                refine jj_iconst dX8_wind_201 (kk := ?_)
                                refine jj_iadd dX8_wind_202 (by omega) ?_
                                have L238 : ∀ (d : Int) (hh238_0 : d = if jand (jshr c i) 1 = 1 then Int.tdiv ((f_X8_wt (f_X8_layThen (rWiS s acc c)) c i) 420 (6 + 5 * i + 4)) 2 else (f_X8_wt (f_X8_layThen (rWiS s acc c)) c i) 420 (6 + 5 * i + 4)), jz_Z g mX8_wind (jq_le (v_X8_wind s k p w) (f_X8_wind s k p w)) 238 [some (jr (416)), some (ji (k)), some (ji (p)), some (ji (w)), some (ji (acc)), some (jl (ab)), none, some (jl (be)), none, some (ji ((c : Int))), some (jl (wy * e)), none, some (ji ((i : Int))), none, none] [ji (d), ji (6 + 5 * (i : Int) + 4), jr (422)] (f_X8_wt (f_X8_layThen (rWiS s acc c)) c i) := by
                                  intro d hh238_0
                                  refine zz_iastN (j := 6 + 5 * i + 4) dX8_wind_238 tt422 (by omega) (by omega) ?_
                                  refine jj_iinc (ls' := [some (jr (416)), some (ji (k)), some (ji (p)), some (ji (w)), some (ji (acc)), some (jl (ab)), none, some (jl (be)), none, some (ji ((c : Int))), some (jl (wy * e)), none, some (ji ((i : Int) + 1)), none, none]) dX8_wind_239 rfl (by decide) rfl (by omega) rfl ?_
                                  refine jj_goto (tgt := 139) dX8_wind_242 (by decide) ?_
                                  refine zz_st (s1 := f_X8_wt (f_X8_layThen (rWiS s acc c)) c (i + 1)) (by rw [hh238_0]; rfl) ?_
                                  exact ih139 (i + 1) (wy * e) (by omega) (by simp only [rWy]; rw [← hh139_1, ← hh187_0]) (by omega)
                                refine jj_iload dX8_wind_203 rfl ?_
                                refine jj_iload dX8_wind_205 rfl ?_
                                refine zz_cSi (av := [ji ((c : Int)), ji ((i : Int))]) (st' := [ji ((6 + (5 * (i : Int))) + 4), jr (422)]) dX8_wind_207 kn_X8_180 kmX8_has rfl rfl (Nat.le_of_ble_eq_true rfl) (by decide) rfl (c_X8_has g (f_X8_wt (f_X8_layThen (rWiS s acc c)) c i) (c : Int) (i : Int)) (fun hr207 ho207 => ?_)
                                refine jj_if_eq (tgt := 228) dX8_wind_210 (by decide) (fun h210 => ?_) (fun h210 => ?_)
                                · have hg210 := bz_f h210
                                  refine jj_aload_n dX8_wind_228 rfl ?_
                                  refine zz_getR dX8_wind_229 kf_X8_19 tt416 rfl ?_
                                  refine jj_iload dX8_wind_232 rfl ?_
                                  refine jj_iconst dX8_wind_234 (kk := ?_)
                                  refine zz_cSi (av := [jr (420), ji ((i : Int)), ji (4)]) (st' := [ji ((6 + (5 * (i : Int))) + 4), jr (422)]) dX8_wind_235 kn_X8_155 kmX8_of rfl rfl (Nat.le_of_ble_eq_true rfl) (by decide) rfl (c_X8_of g (f_X8_wt (f_X8_layThen (rWiS s acc c)) c i) 420 (Or.inl rfl) (i : Int) 4 (6 + 5 * i + 4) (by omega) (by omega)) (fun hr235 ho235 => ?_)
                                  exact L238 ((f_X8_wt (f_X8_layThen (rWiS s acc c)) c i) 420 (6 + 5 * i + 4)) (by first | (rw [if_pos (by omega)]; done) | (rw [if_neg (by omega)]; done))
                                · have hg210 := bz_t h210
                                  refine jj_aload_n dX8_wind_213 rfl ?_
                                  refine zz_getR dX8_wind_214 kf_X8_19 tt416 rfl ?_
                                  refine jj_iload dX8_wind_217 rfl ?_
                                  refine jj_iconst dX8_wind_219 (kk := ?_)
                                  refine zz_cSi (av := [jr (420), ji ((i : Int)), ji (4)]) (st' := [ji ((6 + (5 * (i : Int))) + 4), jr (422)]) dX8_wind_220 kn_X8_155 kmX8_of rfl rfl (Nat.le_of_ble_eq_true rfl) (by decide) rfl (c_X8_of g (f_X8_wt (f_X8_layThen (rWiS s acc c)) c i) 420 (Or.inl rfl) (i : Int) 4 (6 + 5 * i + 4) (by omega) (by omega)) (fun hr220 ho220 => ?_)
                                  refine jj_iconst dX8_wind_223 (kk := ?_)
                                  refine jj_idiv dX8_wind_224 (by decide) (by rw [hx20]; have hml := mRw_l hm i (by omega); have := td_2 hml.2.2.2.2; omega) ?_
                                  refine jj_goto (tgt := 238) dX8_wind_225 (by decide) ?_
                                  exact L238 (Int.tdiv ((f_X8_wt (f_X8_layThen (rWiS s acc c)) c i) 420 (6 + 5 * i + 4)) (2)) (by first | (rw [if_pos (by omega)]; done) | (rw [if_neg (by omega)]; done))
                              refine jj_iload dX8_wind_152 rfl ?_
                              refine jj_iload dX8_wind_154 rfl ?_
                              refine zz_cSi (av := [ji (acc), ji ((i : Int))]) (st' := [jl (wy)]) dX8_wind_156 kn_X8_180 kmX8_has rfl rfl (Nat.le_of_ble_eq_true rfl) (by decide) rfl (c_X8_has g (f_X8_wt (f_X8_layThen (rWiS s acc c)) c i) acc (i : Int)) (fun hr156 ho156 => ?_)
                              refine jj_if_ne (tgt := 166) dX8_wind_159 (by decide) (fun h159 => ?_) (fun h159 => ?_)
                              · have hg159 := bz_t h159
                                refine jj_iload dX8_wind_166 rfl ?_
                                refine jj_iload dX8_wind_168 rfl ?_
                                refine zz_cSi (av := [ji ((c : Int)), ji ((i : Int))]) (st' := [jl (wy)]) dX8_wind_170 kn_X8_180 kmX8_has rfl rfl (Nat.le_of_ble_eq_true rfl) (by decide) rfl (c_X8_has g (f_X8_wt (f_X8_layThen (rWiS s acc c)) c i) (c : Int) (i : Int)) (fun hr170 ho170 => ?_)
                                refine jj_if_eq (tgt := 181) dX8_wind_173 (by decide) (fun h173 => ?_) (fun h173 => ?_)
                                · have hg173 := bz_f h173
                                  refine jj_ldc2 dX8_wind_181 kk_X8_236 (kk := ?_)
                                  refine jj_iload_n dX8_wind_184 rfl ?_
                                  refine jj_i2l dX8_wind_185 ?_
                                  refine jj_lsub dX8_wind_186 (by omega) ?_
                                  exact L187 (10 - p) (by first | (rw [if_pos (by omega), if_pos (by omega)]; done) | (rw [if_pos (by omega), if_neg (by omega)]; done) | (rw [if_neg (by omega)]; done))
                                · have hg173 := bz_t h173
                                  refine jj_iload_n dX8_wind_176 rfl ?_
                                  refine jj_i2l dX8_wind_177 ?_
                                  refine jj_goto (tgt := 187) dX8_wind_178 (by decide) ?_
                                  exact L187 p (by first | (rw [if_pos (by omega), if_pos (by omega)]; done) | (rw [if_pos (by omega), if_neg (by omega)]; done) | (rw [if_neg (by omega)]; done))
                              · have hg159 := bz_f h159
                                refine jj_lconst (z := 1) dX8_wind_162 (kk := ?_)
                                refine jj_goto (tgt := 187) dX8_wind_163 (by decide) ?_
                                exact L187 1 (by first | (rw [if_pos (by omega), if_pos (by omega)]; done) | (rw [if_pos (by omega), if_neg (by omega)]; done) | (rw [if_neg (by omega)]; done))
                        refine zz_st (s1 := f_X8_wt (f_X8_layThen (rWiS s acc c)) c 0) (by rfl) ?_
                        exact L139 _ 0 1 (by omega) (by rfl) (Nat.lt_succ_self _)
                refine zz_st (s1 := rWiS s acc 0) (by rfl) ?_
                exact L112 _ 0 0 0 (by omega) (by rfl) (by rfl) (Nat.lt_succ_self _)
              · refine jj_iload dX8_wind_71 rfl ?_
                have L94 : ∀ (d : Int) (hh94_0 : d = if 0 < s 420 (6 + 5 * j + 4) then jshl 1 j else 0), jz_Z g mX8_wind (jq_le (v_X8_wind s k p w) (f_X8_wind s k p w)) 94 [some (jr (416)), some (ji (k)), some (ji (p)), some (ji (w)), some (ji (acc)), some (ji ((j : Int))), none, none, none, none, none, none, none, none, none] [ji (d), ji (acc)] s := by
                  intro d hh94_0
                  refine jj_ior dX8_wind_94 ?_
                  refine jj_istore (ls' := [some (jr (416)), some (ji (k)), some (ji (p)), some (ji (w)), some (ji (jor (acc) (d))), some (ji ((j : Int))), none, none, none, none, none, none, none, none, none]) dX8_wind_95 (by decide) rfl rfl ?_
                  refine jj_iinc (ls' := [some (jr (416)), some (ji (k)), some (ji (p)), some (ji (w)), some (ji (jor (acc) (d))), some (ji ((j : Int) + 1)), none, none, none, none, none, none, none, none, none]) dX8_wind_97 rfl (by decide) rfl (by omega) rfl ?_
                  refine jj_goto (tgt := 60) dX8_wind_100 (by decide) ?_
                  exact ih60 (j + 1) (jor (acc) (d)) (by omega) (by simp only [rOp]; rw [← hh60_1, ← hh94_0]) (by omega)
                refine jj_aload_n dX8_wind_73 rfl ?_
                refine zz_getR dX8_wind_74 kf_X8_19 tt416 rfl ?_
                refine jj_iload dX8_wind_77 rfl ?_
                refine jj_iconst dX8_wind_79 (kk := ?_)
                refine zz_cSi (av := [jr (420), ji ((j : Int)), ji (4)]) (st' := [ji (acc)]) dX8_wind_80 kn_X8_155 kmX8_of rfl rfl (Nat.le_of_ble_eq_true rfl) (by decide) rfl (c_X8_of g s 420 (Or.inl rfl) (j : Int) 4 (6 + 5 * j + 4) (by omega) (by omega)) (fun hr80 ho80 => ?_)
                refine jj_if_le (tgt := 93) dX8_wind_83 (by decide) (fun h83 => ?_) (fun h83 => ?_)
                · refine jj_iconst dX8_wind_93 (kk := ?_)
                  exact L94 0 (by first | (rw [if_pos (by omega)]; done) | (rw [if_neg (by omega)]; done))
                · refine jj_iconst dX8_wind_86 (kk := ?_)
                  refine jj_iload dX8_wind_87 rfl ?_
                  refine jj_ishl dX8_wind_89 ?_
                  refine jj_goto (tgt := 94) dX8_wind_90 (by decide) ?_
                  exact L94 (jshl (1) ((j : Int))) (by first | (rw [if_pos (by omega)]; done) | (rw [if_neg (by omega)]; done))
          exact L60 _ 0 0 (by omega) (by rfl) (Nat.lt_succ_self _)
        · have hg47 := bz_f h47
          refine jj_ldc2 dX8_wind_50 kk_X8_238 (kk := ?_)
          refine zz_retle dX8_wind_53 rfl (by decide) ?_ ?_
          · unfold v_X8_wind; (repeat (first | rw [if_pos (by omega)] | rw [if_neg (by omega)])) <;> first | rfl | done
          · unfold f_X8_wind; (repeat (first | rw [if_pos (by omega)] | rw [if_neg (by omega)])) <;> first | rfl | done
  · have hg9 := bz_f h9
    refine jj_ldc2 dX8_wind_12 kk_X8_234 (kk := ?_)
    refine zz_retle dX8_wind_15 rfl (by decide) ?_ ?_
    · unfold v_X8_wind; (repeat (first | rw [if_pos (by omega)] | rw [if_neg (by omega)])) <;> first | rfl | done
    · unfold f_X8_wind; (repeat (first | rw [if_pos (by omega)] | rw [if_neg (by omega)])) <;> first | rfl | done

