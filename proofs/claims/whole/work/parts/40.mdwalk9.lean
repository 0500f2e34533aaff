def rBst (b w : Int) : Int := if b = -1000000 ∨ w = 1 then b else fBC b.toNat
def v_X8_hangs (s : jz_St) (l n w : Int) : Int := if s 420 0 = 1 then (if (0 ≤ l ∧ l ≤ jshl 1 (s 420 3) - 1) ∧ (1 ≤ n ∧ n ≤ 30) ∧ 0 ≤ w ∧ w ≤ 1 then rBst (rHg s (rOp (s 420) (s 420 3).toNat) l n.toNat (-1000000) 0 ((rOp (s 420) (s 420 3).toNat).toNat + 1)).1 w else -1000001) else -1000002
def f_X8_hangs (s : jz_St) (l n w : Int) : jz_St := if s 420 0 = 1 then (if (0 ≤ l ∧ l ≤ jshl 1 (s 420 3) - 1) ∧ (1 ≤ n ∧ n ≤ 30) ∧ 0 ≤ w ∧ w ≤ 1 then (rHg s (rOp (s 420) (s 420 3).toNat) l n.toNat (-1000000) 0 ((rOp (s 420) (s 420 3).toNat).toNat + 1)).2 else s) else s
set_option maxRecDepth 100000 in
set_option maxHeartbeats 4000000 in
theorem c_X8_hangs (g : jz_G) (s : jz_St) (l n w : Int) (hM : mIn s)  : jz_C g mX8_hangs [jr (416), ji (l), ji (n), ji (w)] s (jq_ie (v_X8_hangs s l n w) (f_X8_hangs s l n w)) := by
  refine zz_C_of koX8_hangs rfl (Nat.le_of_ble_eq_true rfl) ?_
  refine zz_pad 4 ?_
  show jz_Z g mX8_hangs (jq_ie (v_X8_hangs s l n w) (f_X8_hangs s l n w)) 0 [some (jr (416)), some (ji (l)), some (ji (n)), some (ji (w)), none, none, none, none] [] s
  have hL := hM.1
  have hm := hM.2.1
  have ha := hM.2.2.1
  have htr := hM.2.2.2
  have hmh := mRw_h hm
  refine jj_aload_n dX8_hangs_0 rfl ?_
  refine jj_iconst dX8_hangs_1 (kk := ?_)
  refine zz_putI dX8_hangs_2 kw_X8_50 tt416 rfl rfl ?_
  refine zz_st (s1 := s) (by exact jz_su_id hL.1) ?_
  refine jj_aload_n dX8_hangs_5 rfl ?_
  refine zz_cVi (av := []) (st' := []) dX8_hangs_6 kn_X8_184 kmX8_isThere tt416 rfl rfl rfl (Nat.le_of_ble_eq_true rfl) (by decide) rfl (c_X8_isThere g s) (fun hr6 ho6 => ?_)
  refine jj_if_ne (tgt := 15) dX8_hangs_9 (by decide) (fun h9 => ?_) (fun h9 => ?_)
  · have hg9 := bz_t h9
    refine jj_aload_n dX8_hangs_15 rfl ?_
    refine jj_iload_n dX8_hangs_16 rfl ?_
    refine zz_cVi (av := [ji (l)]) (st' := []) dX8_hangs_17 kn_X8_216 kmX8_areLeaves tt416 rfl rfl rfl (Nat.le_of_ble_eq_true rfl) (by decide) rfl (c_X8_areLeaves g s l (by omega)) (fun hr17 ho17 => ?_)
    refine jj_if_eq (tgt := 45) dX8_hangs_20 (by decide) (fun h20 => ?_) (fun h20 => ?_)
    · have hg20 := bz_f h20
      refine jj_ldc dX8_hangs_45 kk_X8_70 (kk := ?_)
      refine zz_retie dX8_hangs_47 rfl (by decide) ?_ ?_
      · unfold v_X8_hangs; (repeat (first | rw [if_pos (by omega)] | rw [if_neg (by omega)])) <;> first | rfl | done
      · unfold f_X8_hangs; (repeat (first | rw [if_pos (by omega)] | rw [if_neg (by omega)])) <;> first | rfl | done
    · have hg20 := bz_t h20
      refine jj_iload_n dX8_hangs_23 rfl ?_
      refine jj_i2l dX8_hangs_24 ?_
      refine jj_lconst (z := 1) dX8_hangs_25 (kk := ?_)
      refine jj_ldc2 dX8_hangs_26 kk_X8_219 (kk := ?_)
      refine zz_cSi (av := [jl (n), jl (1), jl (30)]) (st' := []) dX8_hangs_29 kn_X8_60 kmX8_in rfl rfl (Nat.le_of_ble_eq_true rfl) (by decide) rfl (c_X8_in g s n 1 30) (fun hr29 ho29 => ?_)
      refine jj_if_eq (tgt := 45) dX8_hangs_32 (by decide) (fun h32 => ?_) (fun h32 => ?_)
      · have hg32 := bz_f h32
        refine jj_ldc dX8_hangs_45 kk_X8_70 (kk := ?_)
        refine zz_retie dX8_hangs_47 rfl (by decide) ?_ ?_
        · unfold v_X8_hangs; (repeat (first | rw [if_pos (by omega)] | rw [if_neg (by omega)])) <;> first | rfl | done
        · unfold f_X8_hangs; (repeat (first | rw [if_pos (by omega)] | rw [if_neg (by omega)])) <;> first | rfl | done
      · have hg32 := bz_t h32
        refine jj_iload_n dX8_hangs_35 rfl ?_
        refine jj_i2l dX8_hangs_36 ?_
        refine jj_lconst (z := 0) dX8_hangs_37 (kk := ?_)
        refine jj_lconst (z := 1) dX8_hangs_38 (kk := ?_)
        refine zz_cSi (av := [jl (w), jl (0), jl (1)]) (st' := []) dX8_hangs_39 kn_X8_60 kmX8_in rfl rfl (Nat.le_of_ble_eq_true rfl) (by decide) rfl (c_X8_in g s w 0 1) (fun hr39 ho39 => ?_)
        refine jj_if_ne (tgt := 48) dX8_hangs_42 (by decide) (fun h42 => ?_) (fun h42 => ?_)
        · have hg42 := bz_t h42
          refine jj_iconst dX8_hangs_48 (kk := ?_)
          refine jj_istore (ls' := [some (jr (416)), some (ji (l)), some (ji (n)), some (ji (w)), some (ji (0)), none, none, none]) dX8_hangs_49 (by decide) rfl rfl ?_
          refine jj_iconst dX8_hangs_51 (kk := ?_)
          refine jj_istore (ls' := [some (jr (416)), some (ji (l)), some (ji (n)), some (ji (w)), some (ji (0)), some (ji (0)), none, none]) dX8_hangs_52 (by decide) rfl rfl ?_
          have L54 : ∀ (nn : Nat) (j : Nat) (acc : Int) (hh54_0 : (j : Int) ≤ s 420 3) (hh54_1 : acc = rOp (s 420) j), 7 - j < nn → jz_Z g mX8_hangs (jq_ie (v_X8_hangs s l n w) (f_X8_hangs s l n w)) 54 [some (jr (416)), some (ji (l)), some (ji (n)), some (ji (w)), some (ji (acc)), some (ji ((j : Int))), none, none] [] s := by
            intro nn
            induction nn with
            | zero => intro j acc hh54_0 hh54_1 hmz; exact absurd hmz (Nat.not_lt_zero _)
            | succ nn ih54 =>
              intro j acc hh54_0 hh54_1 hm54
              refine jj_iload dX8_hangs_54 rfl ?_
              refine jj_aload_n dX8_hangs_56 rfl ?_
              refine zz_getR dX8_hangs_57 kf_X8_19 tt416 rfl ?_
              refine jj_iconst dX8_hangs_60 (kk := ?_)
              refine zz_ialdN (j := 3) dX8_hangs_61 tt420 (by omega) (by omega) ?_
              refine jj_icmp_ge (tgt := 97) dX8_hangs_62 (by decide) (fun h62 => ?_) (fun h62 => ?_)
              · refine jj_ldc dX8_hangs_97 kk_X8_93 (kk := ?_)
                refine jj_istore (ls' := [some (jr (416)), some (ji (l)), some (ji (n)), some (ji (w)), some (ji (acc)), some (ji (-1000000)), none, none]) dX8_hangs_99 (by decide) rfl rfl ?_
                refine jj_iconst dX8_hangs_101 (kk := ?_)
                refine jj_istore (ls' := [some (jr (416)), some (ji (l)), some (ji (n)), some (ji (w)), some (ji (acc)), some (ji (-1000000)), some (ji (0)), none]) dX8_hangs_102 (by decide) rfl rfl ?_
                have L104 : ∀ (nn : Nat) (c : Nat) (best : Int) (sx : jz_St) (hh104_0 : (c : Int) ≤ acc + 1) (hh104_1 : rHg s (rOp (s 420) (s 420 3).toNat) l n.toNat (-1000000) 0 ((rOp (s 420) (s 420 3).toNat).toNat + 1) = rHg sx (rOp (s 420) (s 420 3).toNat) l n.toNat best c ((rOp (s 420) (s 420 3).toNat).toNat + 1 - c)) (hh104_2 : best = -1000000 ∨ (0 ≤ best ∧ best < 128)) (hh104_3 : ∀ x, x ≠ 422 → x ≠ 425 → x ≠ 426 → sx x = s x) (hh104_4 : sx 420 = s 420), acc.toNat + 1 - c < nn → jz_Z g mX8_hangs (jq_ie (v_X8_hangs s l n w) (f_X8_hangs s l n w)) 104 [some (jr (416)), some (ji (l)), some (ji (n)), some (ji (w)), some (ji (acc)), some (ji (best)), some (ji ((c : Int))), none] [] sx := by
                  intro nn
                  induction nn with
                  | zero => intro c best sx hh104_0 hh104_1 hh104_2 hh104_3 hh104_4 hmz; exact absurd hmz (Nat.not_lt_zero _)
                  | succ nn ih104 =>
                    intro c best sx hh104_0 hh104_1 hh104_2 hh104_3 hh104_4 hm104
                    have hop : acc = rOp (s 420) (s 420 3).toNat := by rw [show (s 420 3).toNat = j by omega]; exact hh54_1
                    have hac : 0 ≤ acc ∧ acc < 128 := by rw [hop]; exact rOp_r (by omega)
                    refine jj_iload dX8_hangs_104 rfl ?_
                    refine jj_iload dX8_hangs_106 rfl ?_
                    refine jj_icmp_gt (tgt := 243) dX8_hangs_108 (by decide) (fun h108 => ?_) (fun h108 => ?_)
                    · refine jj_iload dX8_hangs_243 rfl ?_
                      refine jj_ldc dX8_hangs_245 kk_X8_93 (kk := ?_)
                      refine jj_icmp_eq (tgt := 255) dX8_hangs_247 (by decide) (fun h247 => ?_) (fun h247 => ?_)
                      · refine jj_iload dX8_hangs_255 rfl ?_
                        refine jj_goto (tgt := 265) dX8_hangs_257 (by decide) ?_
                        refine zz_retie dX8_hangs_265 rfl (by decide) ?_ ?_
                        · unfold v_X8_hangs; rw [if_pos (by omega), if_pos (by omega), hh104_1, show (rOp (s 420) (s 420 3).toNat).toNat + 1 - c = 0 by omega]; show _ = rBst best w; unfold rBst; first | (rw [if_pos (by omega)]; done) | (rw [if_neg (by omega)]; done)
                        · unfold f_X8_hangs; rw [if_pos (by omega), if_pos (by omega), hh104_1, show (rOp (s 420) (s 420 3).toNat).toNat + 1 - c = 0 by omega]; rfl
                      · refine jj_iload_n dX8_hangs_250 rfl ?_
                        refine jj_iconst dX8_hangs_251 (kk := ?_)
                        refine jj_icmp_ne (tgt := 260) dX8_hangs_252 (by decide) (fun h252 => ?_) (fun h252 => ?_)
                        · refine jj_iload dX8_hangs_260 rfl ?_
                          refine zz_cSi (av := [ji (best)]) (st' := []) dX8_hangs_262 kn_X8_221 kmX8_bits rfl rfl (Nat.le_of_ble_eq_true rfl) (by decide) rfl (c_X8_bits g sx best.toNat best (by omega) (by omega)) (fun hr262 ho262 => ?_)
                          refine zz_retie dX8_hangs_265 rfl (by decide) ?_ ?_
                          · unfold v_X8_hangs; rw [if_pos (by omega), if_pos (by omega), hh104_1, show (rOp (s 420) (s 420 3).toNat).toNat + 1 - c = 0 by omega]; show _ = rBst best w; unfold rBst; first | (rw [if_pos (by omega)]; done) | (rw [if_neg (by omega)]; done)
                          · unfold f_X8_hangs; rw [if_pos (by omega), if_pos (by omega), hh104_1, show (rOp (s 420) (s 420 3).toNat).toNat + 1 - c = 0 by omega]; rfl
                        · refine jj_iload dX8_hangs_255 rfl ?_
                          refine jj_goto (tgt := 265) dX8_hangs_257 (by decide) ?_
                          refine zz_retie dX8_hangs_265 rfl (by decide) ?_ ?_
                          · unfold v_X8_hangs; rw [if_pos (by omega), if_pos (by omega), hh104_1, show (rOp (s 420) (s 420 3).toNat).toNat + 1 - c = 0 by omega]; show _ = rBst best w; unfold rBst; first | (rw [if_pos (by omega)]; done) | (rw [if_neg (by omega)]; done)
                          · unfold f_X8_hangs; rw [if_pos (by omega), if_pos (by omega), hh104_1, show (rOp (s 420) (s 420 3).toNat).toNat + 1 - c = 0 by omega]; rfl
                    · refine jj_iload dX8_hangs_111 rfl ?_
                      refine jj_iload dX8_hangs_113 rfl ?_
                      refine jj_iconst dX8_hangs_115 (kk := ?_)
                      refine jj_ixor dX8_hangs_116 ?_
                      refine jj_iand dX8_hangs_117 ?_
                      refine jj_if_ne (tgt := 237) dX8_hangs_118 (by decide) (fun h118 => ?_) (fun h118 => ?_)
                      · try (have hN : ¬ jand (c : Int) (jxor acc (-1)) = 0 := by assumption)
                        refine jj_iinc (ls' := [some (jr (416)), some (ji (l)), some (ji (n)), some (ji (w)), some (ji (acc)), some (ji (best)), some (ji ((c : Int) + 1)), none]) dX8_hangs_237 rfl (by decide) rfl (by omega) rfl ?_
                        refine jj_goto (tgt := 104) dX8_hangs_240 (by decide) ?_
                        exact ih104 (c + 1) best sx (by omega) (by rw [hh104_1, show (rOp (s 420) (s 420 3).toNat).toNat + 1 - c = ((rOp (s 420) (s 420 3).toNat).toNat + 1 - (c + 1)) + 1 by omega]; simp only [rHg]; first | (rw [if_pos ⟨by rw [← hop]; assumption, by omega⟩, ← hh235_0]; done) | (rw [if_neg (fun q => hN (by rw [hop]; exact q.1))]; done) | (rw [if_neg (fun q => by have := q.2; omega)]; done)) (by first | assumption | omega) (by first | assumption | (intro x h1 h2 h3; rw [hgA_o _ _ _ h1 h2 h3]; exact hh104_3 x h1 h2 h3)) (by first | assumption | (rw [hgA_o _ _ _ (by decide) (by decide) (by decide)]; assumption)) (by omega)
                      · have L141 : ∀ (hh141_0 : best = -1000000 ∨ fBC c < fBC best.toNat), jz_Z g mX8_hangs (jq_ie (v_X8_hangs s l n w) (f_X8_hangs s l n w)) 141 [some (jr (416)), some (ji (l)), some (ji (n)), some (ji (w)), some (ji (acc)), some (ji (best)), some (ji ((c : Int))), none] [] sx := by
                          intro hh141_0
                          have hP : jand (c : Int) (jxor acc (-1)) = 0 := by omega
                          refine jj_aload_n dX8_hangs_141 rfl ?_
                          refine zz_cVv (av := []) (st' := []) dX8_hangs_142 kn_X8_177 kmX8_layThen tt416 rfl rfl rfl (Nat.le_of_ble_eq_true rfl) (by decide) rfl (c_X8_layThen g sx) (fun ho142 => ?_)
                          refine jj_iconst dX8_hangs_145 (kk := ?_)
                          refine jj_istore (ls' := [some (jr (416)), some (ji (l)), some (ji (n)), some (ji (w)), some (ji (acc)), some (ji (best)), some (ji ((c : Int))), some (ji (0))]) dX8_hangs_146 (by decide) rfl rfl ?_
                          have L148 : ∀ (nn : Nat) (i : Nat) (hh148_0 : (i : Int) ≤ s 420 3), 7 - i < nn → jz_Z g mX8_hangs (jq_ie (v_X8_hangs s l n w) (f_X8_hangs s l n w)) 148 [some (jr (416)), some (ji (l)), some (ji (n)), some (ji (w)), some (ji (acc)), some (ji (best)), some (ji ((c : Int))), some (ji ((i : Int)))] [] (f_X8_hg (f_X8_layThen sx) c i) := by
                            intro nn
                            induction nn with
                            | zero => intro i hh148_0 hmz; exact absurd hmz (Nat.not_lt_zero _)
                            | succ nn ih148 =>
                              intro i hh148_0 hm148
                              refine jj_iload dX8_hangs_148 rfl ?_
                              refine jj_aload_n dX8_hangs_150 rfl ?_
                              refine zz_getR dX8_hangs_151 kf_X8_19 tt416 rfl ?_
                              refine jj_iconst dX8_hangs_154 (kk := ?_)
                              refine zz_ialdN (j := 3) dX8_hangs_155 tt420 (by omega) (by omega) ?_
                              refine zz_top (b := s 420 3) (by rw [hg_o _ _ (by decide), layThen_o _ (by decide), hh104_4]) ?_
                              refine jj_icmp_ge (tgt := 204) dX8_hangs_156 (by decide) (fun h156 => ?_) (fun h156 => ?_)
                              · refine zz_st (s1 := f_X8_hg (f_X8_layThen sx) c (sx 420 3).toNat) (by rw [hh104_4, show (s 420 3).toNat = i by omega]) ?_
                                have hM2 : mRw (f_X8_hg (f_X8_layThen sx) c (sx 420 3).toNat 422) 999 := hg_mr (layThen_mr (by rw [hh104_4]; exact hm)) (b2 := 999) (by rw [layThen_o _ (by decide), hh104_4]; exact hm) _ (by rw [hh104_4]; omega)
                                refine jj_aload_n dX8_hangs_204 rfl ?_
                                refine jj_aload_n dX8_hangs_205 rfl ?_
                                refine zz_getR dX8_hangs_206 kf_X8_25 tt416 rfl ?_
                                refine jj_iload_n dX8_hangs_209 rfl ?_
                                refine zz_cVi (av := [jr (422), ji (n)]) (st' := []) dX8_hangs_210 kn_X8_207 kmX8_hoursOf tt416 rfl rfl rfl (Nat.le_of_ble_eq_true rfl) (by decide) rfl (c_X8_hoursOf g (f_X8_hg (f_X8_layThen sx) c (sx 420 3).toNat) 422 (Or.inr rfl) n.toNat n (by omega) 999 hM2 (by omega) (by omega)) (fun hr210 ho210 => ?_)
                                refine zz_st (s1 := rHgA sx n.toNat c) (by rfl) ?_
                                refine jj_istore (ls' := [some (jr (416)), some (ji (l)), some (ji (n)), some (ji (w)), some (ji (acc)), some (ji (best)), some (ji ((c : Int))), some (ji (v_X8_hoursOf (f_X8_hg (f_X8_layThen sx) c (sx 420 3).toNat) 422 n.toNat))]) dX8_hangs_213 (by decide) rfl rfl ?_
                                have L235 : ∀ (b2 : Int) (hh235_0 : b2 = if jand (rIF ((rHgA sx n.toNat c) 422) ((rHgA sx n.toNat c) 422 3).toNat) l = l then (c : Int) else best) (hh235_1 : b2 = -1000000 ∨ (0 ≤ b2 ∧ b2 < 128)), jz_Z g mX8_hangs (jq_ie (v_X8_hangs s l n w) (f_X8_hangs s l n w)) 235 [some (jr (416)), some (ji (l)), some (ji (n)), some (ji (w)), some (ji (acc)), some (ji (best)), some (ji ((c : Int))), some (ji (v_X8_hoursOf (f_X8_hg (f_X8_layThen sx) c (sx 420 3).toNat) 422 n.toNat))] [ji (b2)] (rHgA sx n.toNat c) := by
                                  intro b2 hh235_0 hh235_1
                                  refine jj_istore (ls' := [some (jr (416)), some (ji (l)), some (ji (n)), some (ji (w)), some (ji (acc)), some (ji (b2)), some (ji ((c : Int))), some (ji (v_X8_hoursOf (f_X8_hg (f_X8_layThen sx) c (sx 420 3).toNat) 422 n.toNat))]) dX8_hangs_235 (by decide) rfl rfl ?_
                                  try (have hN : ¬ jand (c : Int) (jxor acc (-1)) = 0 := by assumption)
                                  refine jj_iinc (ls' := [some (jr (416)), some (ji (l)), some (ji (n)), some (ji (w)), some (ji (acc)), some (ji (b2)), some (ji ((c : Int) + 1)), some (ji (v_X8_hoursOf (f_X8_hg (f_X8_layThen sx) c (sx 420 3).toNat) 422 n.toNat))]) dX8_hangs_237 rfl (by decide) rfl (by omega) rfl ?_
                                  refine jj_goto (tgt := 104) dX8_hangs_240 (by decide) ?_
                                  refine jj_fgt (i := 7) (ls' := [some (jr (416)), some (ji (l)), some (ji (n)), some (ji (w)), some (ji (acc)), some (ji (b2)), some (ji ((c : Int) + 1)), none]) rfl ?_
                                  exact ih104 (c + 1) b2 (rHgA sx n.toNat c) (by omega) (by rw [hh104_1, show (rOp (s 420) (s 420 3).toNat).toNat + 1 - c = ((rOp (s 420) (s 420 3).toNat).toNat + 1 - (c + 1)) + 1 by omega]; simp only [rHg]; first | (rw [if_pos ⟨by rw [← hop]; assumption, by omega⟩, ← hh235_0]; done) | (rw [if_neg (fun q => hN (by rw [hop]; exact q.1))]; done) | (rw [if_neg (fun q => by have := q.2; omega)]; done)) (by first | assumption | omega) (by first | assumption | (intro x h1 h2 h3; rw [hgA_o _ _ _ h1 h2 h3]; exact hh104_3 x h1 h2 h3)) (by first | assumption | (rw [hgA_o _ _ _ (by decide) (by decide) (by decide)]; assumption)) (by omega)
                                refine jj_aload_n dX8_hangs_215 rfl ?_
                                refine zz_getR dX8_hangs_216 kf_X8_25 tt416 rfl ?_
                                refine zz_cSi (av := [jr (422)]) (st' := []) dX8_hangs_219 kn_X8_210 kmX8_forced rfl rfl (Nat.le_of_ble_eq_true rfl) (by decide) rfl (c_X8_forced g (rHgA sx n.toNat c) 422 (Or.inr rfl) (999 + (n.toNat : Int)) (by unfold rHgA; exact hoursOf_mr (Or.inr rfl) hM2 _)) (fun hr219 ho219 => ?_)
                                refine jj_iload_n dX8_hangs_222 rfl ?_
                                refine jj_iand dX8_hangs_223 ?_
                                refine jj_iload_n dX8_hangs_224 rfl ?_
                                refine jj_icmp_ne (tgt := 233) dX8_hangs_225 (by decide) (fun h225 => ?_) (fun h225 => ?_)
                                · refine jj_iload dX8_hangs_233 rfl ?_
                                  exact L235 best (by first | (rw [if_pos (by omega)]; done) | (rw [if_neg (by omega)]; done)) (by omega)
                                · refine jj_iload dX8_hangs_228 rfl ?_
                                  refine jj_goto (tgt := 235) dX8_hangs_230 (by decide) ?_
                                  exact L235 ((c : Int)) (by first | (rw [if_pos (by omega)]; done) | (rw [if_neg (by omega)]; done)) (by omega)
                              · refine jj_aload_n dX8_hangs_159 rfl ?_
                                refine zz_getR dX8_hangs_160 kf_X8_25 tt416 rfl ?_
                                refine jj_bipush dX8_hangs_163 (kk := ?_)
                                refine jj_iconst dX8_hangs_165 (kk := ?_)
                                refine jj_iload dX8_hangs_166 rfl ?_
                                refine jj_imul dX8_hangs_168 (by omega) ?_
                                refine jj_iadd dX8_hangs_169 (by omega) ?_
                                refine jj_iconst dX8_hangs_170 (kk := ?_)
                                refine jj_iadd dX8_hangs_171 (by omega) ?_
                                have L197 : ∀ (d : Int) (hh197_0 : d = if jand (jshr c i) 1 = 1 then 9 else (f_X8_hg (f_X8_layThen sx) c i) 420 (6 + 5 * i + 2)), jz_Z g mX8_hangs (jq_ie (v_X8_hangs s l n w) (f_X8_hangs s l n w)) 197 [some (jr (416)), some (ji (l)), some (ji (n)), some (ji (w)), some (ji (acc)), some (ji (best)), some (ji ((c : Int))), some (ji ((i : Int)))] [ji (d), ji (6 + 5 * (i : Int) + 2), jr (422)] (f_X8_hg (f_X8_layThen sx) c i) := by
                                  intro d hh197_0
                                  refine zz_iastN (j := 6 + 5 * i + 2) dX8_hangs_197 tt422 (by omega) (by omega) ?_
                                  refine jj_iinc (ls' := [some (jr (416)), some (ji (l)), some (ji (n)), some (ji (w)), some (ji (acc)), some (ji (best)), some (ji ((c : Int))), some (ji ((i : Int) + 1))]) dX8_hangs_198 rfl (by decide) rfl (by omega) rfl ?_
                                  refine jj_goto (tgt := 148) dX8_hangs_201 (by decide) ?_
                                  refine zz_st (s1 := f_X8_hg (f_X8_layThen sx) c (i + 1)) (by rw [hh197_0]; rfl) ?_
                                  exact ih148 (i + 1) (by first | assumption | omega) (by omega)
                                refine jj_iload dX8_hangs_172 rfl ?_
                                refine jj_iload dX8_hangs_174 rfl ?_
                                refine zz_cSi (av := [ji ((c : Int)), ji ((i : Int))]) (st' := [ji ((6 + (5 * (i : Int))) + 2), jr (422)]) dX8_hangs_176 kn_X8_180 kmX8_has rfl rfl (Nat.le_of_ble_eq_true rfl) (by decide) rfl (c_X8_has g (f_X8_hg (f_X8_layThen sx) c i) (c : Int) (i : Int)) (fun hr176 ho176 => ?_)
                                refine jj_if_eq (tgt := 187) dX8_hangs_179 (by decide) (fun h179 => ?_) (fun h179 => ?_)
                                · have hg179 := bz_f h179
                                  refine jj_aload_n dX8_hangs_187 rfl ?_
                                  refine zz_getR dX8_hangs_188 kf_X8_19 tt416 rfl ?_
                                  refine jj_iload dX8_hangs_191 rfl ?_
                                  refine jj_iconst dX8_hangs_193 (kk := ?_)
                                  refine zz_cSi (av := [jr (420), ji ((i : Int)), ji (2)]) (st' := [ji ((6 + (5 * (i : Int))) + 2), jr (422)]) dX8_hangs_194 kn_X8_155 kmX8_of rfl rfl (Nat.le_of_ble_eq_true rfl) (by decide) rfl (c_X8_of g (f_X8_hg (f_X8_layThen sx) c i) 420 (Or.inl rfl) (i : Int) 2 (6 + 5 * i + 2) (by omega) (by omega)) (fun hr194 ho194 => ?_)
                                  exact L197 ((f_X8_hg (f_X8_layThen sx) c i) 420 (6 + 5 * i + 2)) (by first | (rw [if_pos (by omega)]; done) | (rw [if_neg (by omega)]; done))
                                · have hg179 := bz_t h179
                                  refine jj_bipush dX8_hangs_182 (kk := ?_)
                                  refine jj_goto (tgt := 197) dX8_hangs_184 (by decide) ?_
                                  exact L197 9 (by first | (rw [if_pos (by omega)]; done) | (rw [if_neg (by omega)]; done))
                          refine zz_st (s1 := f_X8_hg (f_X8_layThen sx) c 0) (by rfl) ?_
                          exact L148 _ 0 (by first | assumption | omega) (Nat.lt_succ_self _)
                        refine jj_iload dX8_hangs_121 rfl ?_
                        refine jj_ldc dX8_hangs_123 kk_X8_93 (kk := ?_)
                        refine jj_icmp_eq (tgt := 141) dX8_hangs_125 (by decide) (fun h125 => ?_) (fun h125 => ?_)
                        · exact L141 (by omega)
                        · refine jj_iload dX8_hangs_128 rfl ?_
                          refine zz_cSi (av := [ji ((c : Int))]) (st' := []) dX8_hangs_130 kn_X8_221 kmX8_bits rfl rfl (Nat.le_of_ble_eq_true rfl) (by decide) rfl (c_X8_bits g sx c (c : Int) (by omega) (by omega)) (fun hr130 ho130 => ?_)
                          refine jj_iload dX8_hangs_133 rfl ?_
                          refine zz_cSi (av := [ji (best)]) (st' := [ji (fBC c)]) dX8_hangs_135 kn_X8_221 kmX8_bits rfl rfl (Nat.le_of_ble_eq_true rfl) (by decide) rfl (c_X8_bits g sx best.toNat best (by omega) (by omega)) (fun hr135 ho135 => ?_)
                          refine jj_icmp_ge (tgt := 237) dX8_hangs_138 (by decide) (fun h138 => ?_) (fun h138 => ?_)
                          · try (have hN : ¬ jand (c : Int) (jxor acc (-1)) = 0 := by assumption)
                            refine jj_iinc (ls' := [some (jr (416)), some (ji (l)), some (ji (n)), some (ji (w)), some (ji (acc)), some (ji (best)), some (ji ((c : Int) + 1)), none]) dX8_hangs_237 rfl (by decide) rfl (by omega) rfl ?_
                            refine jj_goto (tgt := 104) dX8_hangs_240 (by decide) ?_
                            exact ih104 (c + 1) best sx (by omega) (by rw [hh104_1, show (rOp (s 420) (s 420 3).toNat).toNat + 1 - c = ((rOp (s 420) (s 420 3).toNat).toNat + 1 - (c + 1)) + 1 by omega]; simp only [rHg]; first | (rw [if_pos ⟨by rw [← hop]; assumption, by omega⟩, ← hh235_0]; done) | (rw [if_neg (fun q => hN (by rw [hop]; exact q.1))]; done) | (rw [if_neg (fun q => by have := q.2; omega)]; done)) (by first | assumption | omega) (by first | assumption | (intro x h1 h2 h3; rw [hgA_o _ _ _ h1 h2 h3]; exact hh104_3 x h1 h2 h3)) (by first | assumption | (rw [hgA_o _ _ _ (by decide) (by decide) (by decide)]; assumption)) (by omega)
                          · exact L141 (by omega)
                exact L104 _ 0 (-1000000) s (by have := rOp_r (q := s 420) (j := j) (by omega); omega) (by rw [Nat.sub_zero]) (by exact Or.inl rfl) (by exact fun _ _ _ _ => rfl) (by rfl) (Nat.lt_succ_self _)
              · refine jj_iload dX8_hangs_65 rfl ?_
                have L88 : ∀ (d : Int) (hh88_0 : d = if 0 < s 420 (6 + 5 * j + 4) then jshl 1 j else 0), jz_Z g mX8_hangs (jq_ie (v_X8_hangs s l n w) (f_X8_hangs s l n w)) 88 [some (jr (416)), some (ji (l)), some (ji (n)), some (ji (w)), some (ji (acc)), some (ji ((j : Int))), none, none] [ji (d), ji (acc)] s := by
                  intro d hh88_0
                  refine jj_ior dX8_hangs_88 ?_
                  refine jj_istore (ls' := [some (jr (416)), some (ji (l)), some (ji (n)), some (ji (w)), some (ji (jor (acc) (d))), some (ji ((j : Int))), none, none]) dX8_hangs_89 (by decide) rfl rfl ?_
                  refine jj_iinc (ls' := [some (jr (416)), some (ji (l)), some (ji (n)), some (ji (w)), some (ji (jor (acc) (d))), some (ji ((j : Int) + 1)), none, none]) dX8_hangs_91 rfl (by decide) rfl (by omega) rfl ?_
                  refine jj_goto (tgt := 54) dX8_hangs_94 (by decide) ?_
                  exact ih54 (j + 1) (jor (acc) (d)) (by omega) (by simp only [rOp]; rw [← hh54_1, ← hh88_0]) (by omega)
                refine jj_aload_n dX8_hangs_67 rfl ?_
                refine zz_getR dX8_hangs_68 kf_X8_19 tt416 rfl ?_
                refine jj_iload dX8_hangs_71 rfl ?_
                refine jj_iconst dX8_hangs_73 (kk := ?_)
                refine zz_cSi (av := [jr (420), ji ((j : Int)), ji (4)]) (st' := [ji (acc)]) dX8_hangs_74 kn_X8_155 kmX8_of rfl rfl (Nat.le_of_ble_eq_true rfl) (by decide) rfl (c_X8_of g s 420 (Or.inl rfl) (j : Int) 4 (6 + 5 * j + 4) (by omega) (by omega)) (fun hr74 ho74 => ?_)
                refine jj_if_le (tgt := 87) dX8_hangs_77 (by decide) (fun h77 => ?_) (fun h77 => ?_)
                · refine jj_iconst dX8_hangs_87 (kk := ?_)
                  exact L88 0 (by first | (rw [if_pos (by omega)]; done) | (rw [if_neg (by omega)]; done))
                · refine jj_iconst dX8_hangs_80 (kk := ?_)
                  refine jj_iload dX8_hangs_81 rfl ?_
                  refine jj_ishl dX8_hangs_83 ?_
                  refine jj_goto (tgt := 88) dX8_hangs_84 (by decide) ?_
                  exact L88 (jshl (1) ((j : Int))) (by first | (rw [if_pos (by omega)]; done) | (rw [if_neg (by omega)]; done))
          exact L54 _ 0 0 (by omega) (by rfl) (Nat.lt_succ_self _)
        · have hg42 := bz_f h42
          refine jj_ldc dX8_hangs_45 kk_X8_70 (kk := ?_)
          refine zz_retie dX8_hangs_47 rfl (by decide) ?_ ?_
          · unfold v_X8_hangs; (repeat (first | rw [if_pos (by omega)] | rw [if_neg (by omega)])) <;> first | rfl | done
          · unfold f_X8_hangs; (repeat (first | rw [if_pos (by omega)] | rw [if_neg (by omega)])) <;> first | rfl | done
  · have hg9 := bz_f h9
    refine jj_ldc dX8_hangs_12 kk_X8_187 (kk := ?_)
    refine zz_retie dX8_hangs_14 rfl (by decide) ?_ ?_
    · unfold v_X8_hangs; (repeat (first | rw [if_pos (by omega)] | rw [if_neg (by omega)])) <;> first | rfl | done
    · unfold f_X8_hangs; (repeat (first | rw [if_pos (by omega)] | rw [if_neg (by omega)])) <;> first | rfl | done

theorem shl_g : ∀ {z : Int}, 0 ≤ z ∧ z ≤ 4 → jshl 1 z ≤ 16 := by
  intro z h
  have h1 := shl_7 z.toNat (by omega)
  rw [show ((z.toNat : Nat) : Int) = z by omega] at h1
  have hp7 : 2 ^ z.toNat ≤ 2 ^ 4 := Nat.pow_le_pow_right (by decide) (by omega)
  omega
def v_X8_drives (s : jz_St) (l n w : Int) : Int := if s 420 0 = 1 then (if (0 ≤ l ∧ l ≤ jshl 1 (s 420 3) - 1) ∧ (1 ≤ n ∧ n ≤ 30) ∧ 0 ≤ w ∧ w ≤ 1 then rBst (rDr s l n (-1000000) 0 (jshl 1 (s 420 4)).toNat).1 w else -1000001) else -1000002
def f_X8_drives (s : jz_St) (l n w : Int) : jz_St := if s 420 0 = 1 then (if (0 ≤ l ∧ l ≤ jshl 1 (s 420 3) - 1) ∧ (1 ≤ n ∧ n ≤ 30) ∧ 0 ≤ w ∧ w ≤ 1 then (rDr s l n (-1000000) 0 (jshl 1 (s 420 4)).toNat).2 else s) else s
set_option maxRecDepth 100000 in
set_option maxHeartbeats 4000000 in
theorem c_X8_drives (g : jz_G) (s : jz_St) (l n w : Int) (hM : mIn s)  : jz_C g mX8_drives [jr (416), ji (l), ji (n), ji (w)] s (jq_ie (v_X8_drives s l n w) (f_X8_drives s l n w)) := by
  refine zz_C_of koX8_drives rfl (Nat.le_of_ble_eq_true rfl) ?_
  refine zz_pad 3 ?_
  show jz_Z g mX8_drives (jq_ie (v_X8_drives s l n w) (f_X8_drives s l n w)) 0 [some (jr (416)), some (ji (l)), some (ji (n)), some (ji (w)), none, none, none] [] s
  have hL := hM.1
  have hm := hM.2.1
  have ha := hM.2.2.1
  have htr := hM.2.2.2
  have hmh := mRw_h hm
  refine jj_aload_n dX8_drives_0 rfl ?_
  refine jj_iconst dX8_drives_1 (kk := ?_)
  refine zz_putI dX8_drives_2 kw_X8_50 tt416 rfl rfl ?_
  refine zz_st (s1 := s) (by exact jz_su_id hL.1) ?_
  refine jj_aload_n dX8_drives_5 rfl ?_
  refine zz_cVi (av := []) (st' := []) dX8_drives_6 kn_X8_184 kmX8_isThere tt416 rfl rfl rfl (Nat.le_of_ble_eq_true rfl) (by decide) rfl (c_X8_isThere g s) (fun hr6 ho6 => ?_)
  refine jj_if_ne (tgt := 15) dX8_drives_9 (by decide) (fun h9 => ?_) (fun h9 => ?_)
  · have hg9 := bz_t h9
    refine jj_aload_n dX8_drives_15 rfl ?_
    refine jj_iload_n dX8_drives_16 rfl ?_
    refine zz_cVi (av := [ji (l)]) (st' := []) dX8_drives_17 kn_X8_216 kmX8_areLeaves tt416 rfl rfl rfl (Nat.le_of_ble_eq_true rfl) (by decide) rfl (c_X8_areLeaves g s l (by omega)) (fun hr17 ho17 => ?_)
    refine jj_if_eq (tgt := 45) dX8_drives_20 (by decide) (fun h20 => ?_) (fun h20 => ?_)
    · have hg20 := bz_f h20
      refine jj_ldc dX8_drives_45 kk_X8_70 (kk := ?_)
      refine zz_retie dX8_drives_47 rfl (by decide) ?_ ?_
      · unfold v_X8_drives; (repeat (first | rw [if_pos (by omega)] | rw [if_neg (by omega)])) <;> first | rfl | done
      · unfold f_X8_drives; (repeat (first | rw [if_pos (by omega)] | rw [if_neg (by omega)])) <;> first | rfl | done
    · have hg20 := bz_t h20
      refine jj_iload_n dX8_drives_23 rfl ?_
      refine jj_i2l dX8_drives_24 ?_
      refine jj_lconst (z := 1) dX8_drives_25 (kk := ?_)
      refine jj_ldc2 dX8_drives_26 kk_X8_219 (kk := ?_)
      refine zz_cSi (av := [jl (n), jl (1), jl (30)]) (st' := []) dX8_drives_29 kn_X8_60 kmX8_in rfl rfl (Nat.le_of_ble_eq_true rfl) (by decide) rfl (c_X8_in g s n 1 30) (fun hr29 ho29 => ?_)
      refine jj_if_eq (tgt := 45) dX8_drives_32 (by decide) (fun h32 => ?_) (fun h32 => ?_)
      · have hg32 := bz_f h32
        refine jj_ldc dX8_drives_45 kk_X8_70 (kk := ?_)
        refine zz_retie dX8_drives_47 rfl (by decide) ?_ ?_
        · unfold v_X8_drives; (repeat (first | rw [if_pos (by omega)] | rw [if_neg (by omega)])) <;> first | rfl | done
        · unfold f_X8_drives; (repeat (first | rw [if_pos (by omega)] | rw [if_neg (by omega)])) <;> first | rfl | done
      · have hg32 := bz_t h32
        refine jj_iload_n dX8_drives_35 rfl ?_
        refine jj_i2l dX8_drives_36 ?_
        refine jj_lconst (z := 0) dX8_drives_37 (kk := ?_)
        refine jj_lconst (z := 1) dX8_drives_38 (kk := ?_)
        refine zz_cSi (av := [jl (w), jl (0), jl (1)]) (st' := []) dX8_drives_39 kn_X8_60 kmX8_in rfl rfl (Nat.le_of_ble_eq_true rfl) (by decide) rfl (c_X8_in g s w 0 1) (fun hr39 ho39 => ?_)
        refine jj_if_ne (tgt := 48) dX8_drives_42 (by decide) (fun h42 => ?_) (fun h42 => ?_)
        · have hg42 := bz_t h42
          refine jj_ldc dX8_drives_48 kk_X8_93 (kk := ?_)
          refine jj_istore (ls' := [some (jr (416)), some (ji (l)), some (ji (n)), some (ji (w)), some (ji (-1000000)), none, none]) dX8_drives_50 (by decide) rfl rfl ?_
          refine jj_iconst dX8_drives_52 (kk := ?_)
          refine jj_istore (ls' := [some (jr (416)), some (ji (l)), some (ji (n)), some (ji (w)), some (ji (-1000000)), some (ji (0)), none]) dX8_drives_53 (by decide) rfl rfl ?_
          have L55 : ∀ (nn : Nat) (c : Nat) (best : Int) (sx : jz_St) (hh55_0 : (c : Int) ≤ jshl 1 (s 420 4)) (hh55_1 : rDr s l n (-1000000) 0 (jshl 1 (s 420 4)).toNat = rDr sx l n best c ((jshl 1 (s 420 4)).toNat - c)) (hh55_2 : best = -1000000 ∨ (0 ≤ best ∧ best < 128)) (hh55_3 : sx 420 = s 420), (jshl 1 (s 420 4)).toNat - c < nn → jz_Z g mX8_drives (jq_ie (v_X8_drives s l n w) (f_X8_drives s l n w)) 55 [some (jr (416)), some (ji (l)), some (ji (n)), some (ji (w)), some (ji (best)), some (ji ((c : Int))), none] [] sx := by
            intro nn
            induction nn with
            | zero => intro c best sx hh55_0 hh55_1 hh55_2 hh55_3 hmz; exact absurd hmz (Nat.not_lt_zero _)
            | succ nn ih55 =>
              intro c best sx hh55_0 hh55_1 hh55_2 hh55_3 hm55
              have hs1 := shl_r (z := s 420 4) (by omega)
              have hs2 : jshl 1 (s 420 4) ≤ 16 := shl_g (by omega)
              refine jj_iload dX8_drives_55 rfl ?_
              refine jj_iconst dX8_drives_57 (kk := ?_)
              refine jj_aload_n dX8_drives_58 rfl ?_
              refine zz_getR dX8_drives_59 kf_X8_19 tt416 rfl ?_
              refine jj_iconst dX8_drives_62 (kk := ?_)
              refine zz_ialdN (j := 4) dX8_drives_63 tt420 (by omega) (by omega) ?_
              refine zz_top (b := s 420 4) (by rw [hh55_3]) ?_
              refine jj_ishl dX8_drives_64 ?_
              refine jj_icmp_ge (tgt := 134) dX8_drives_65 (by decide) (fun h65 => ?_) (fun h65 => ?_)
              · refine jj_iload dX8_drives_134 rfl ?_
                refine jj_ldc dX8_drives_136 kk_X8_93 (kk := ?_)
                refine jj_icmp_eq (tgt := 146) dX8_drives_138 (by decide) (fun h138 => ?_) (fun h138 => ?_)
                · refine jj_iload dX8_drives_146 rfl ?_
                  refine jj_goto (tgt := 156) dX8_drives_148 (by decide) ?_
                  refine zz_retie dX8_drives_156 rfl (by decide) ?_ ?_
                  · unfold v_X8_drives; rw [if_pos (by omega), if_pos (by omega), hh55_1, show (jshl 1 (s 420 4)).toNat - c = 0 by omega]; show _ = rBst best w; unfold rBst; first | (rw [if_pos (by omega)]; done) | (rw [if_neg (by omega)]; done)
                  · unfold f_X8_drives; rw [if_pos (by omega), if_pos (by omega), hh55_1, show (jshl 1 (s 420 4)).toNat - c = 0 by omega]; rfl
                · refine jj_iload_n dX8_drives_141 rfl ?_
                  refine jj_iconst dX8_drives_142 (kk := ?_)
                  refine jj_icmp_ne (tgt := 151) dX8_drives_143 (by decide) (fun h143 => ?_) (fun h143 => ?_)
                  · refine jj_iload dX8_drives_151 rfl ?_
                    refine zz_cSi (av := [ji (best)]) (st' := []) dX8_drives_153 kn_X8_221 kmX8_bits rfl rfl (Nat.le_of_ble_eq_true rfl) (by decide) rfl (c_X8_bits g sx best.toNat best (by omega) (by omega)) (fun hr153 ho153 => ?_)
                    refine zz_retie dX8_drives_156 rfl (by decide) ?_ ?_
                    · unfold v_X8_drives; rw [if_pos (by omega), if_pos (by omega), hh55_1, show (jshl 1 (s 420 4)).toNat - c = 0 by omega]; show _ = rBst best w; unfold rBst; first | (rw [if_pos (by omega)]; done) | (rw [if_neg (by omega)]; done)
                    · unfold f_X8_drives; rw [if_pos (by omega), if_pos (by omega), hh55_1, show (jshl 1 (s 420 4)).toNat - c = 0 by omega]; rfl
                  · refine jj_iload dX8_drives_146 rfl ?_
                    refine jj_goto (tgt := 156) dX8_drives_148 (by decide) ?_
                    refine zz_retie dX8_drives_156 rfl (by decide) ?_ ?_
                    · unfold v_X8_drives; rw [if_pos (by omega), if_pos (by omega), hh55_1, show (jshl 1 (s 420 4)).toNat - c = 0 by omega]; show _ = rBst best w; unfold rBst; first | (rw [if_pos (by omega)]; done) | (rw [if_neg (by omega)]; done)
                    · unfold f_X8_drives; rw [if_pos (by omega), if_pos (by omega), hh55_1, show (jshl 1 (s 420 4)).toNat - c = 0 by omega]; rfl
              · have L88 : ∀ (hh88_0 : best = -1000000 ∨ fBC c < fBC best.toNat), jz_Z g mX8_drives (jq_ie (v_X8_drives s l n w) (f_X8_drives s l n w)) 88 [some (jr (416)), some (ji (l)), some (ji (n)), some (ji (w)), some (ji (best)), some (ji ((c : Int))), none] [] sx := by
                  intro hh88_0
                  have hx4 : sx 420 4 = s 420 4 := by rw [hh55_3]
                  refine jj_aload_n dX8_drives_88 rfl ?_
                  refine jj_iload dX8_drives_89 rfl ?_
                  refine jj_iload_n dX8_drives_91 rfl ?_
                  refine zz_cVv (av := [ji ((c : Int)), ji (n)]) (st' := []) dX8_drives_92 kn_X8_224 kmX8_layOff tt416 rfl rfl rfl (Nat.le_of_ble_eq_true rfl) (by decide) rfl (c_X8_layOff g sx (c : Int) n (by omega)) (fun ho92 => ?_)
                  have hM2 : mRw (f_X8_layOff sx c n 422) 999 := layOff_mr (by omega) (by rw [hh55_3]; exact hm)
                  refine jj_aload_n dX8_drives_95 rfl ?_
                  refine jj_aload_n dX8_drives_96 rfl ?_
                  refine zz_getR dX8_drives_97 kf_X8_25 tt416 rfl ?_
                  refine jj_iload_n dX8_drives_100 rfl ?_
                  refine zz_cVi (av := [jr (422), ji (n)]) (st' := []) dX8_drives_101 kn_X8_207 kmX8_hoursOf tt416 rfl rfl rfl (Nat.le_of_ble_eq_true rfl) (by decide) rfl (c_X8_hoursOf g (f_X8_layOff sx (c : Int) n) 422 (Or.inr rfl) n.toNat n (by omega) 999 hM2 (by omega) (by omega)) (fun hr101 ho101 => ?_)
                  refine zz_st (s1 := rDrA sx n c) (by rfl) ?_
                  refine jj_istore (ls' := [some (jr (416)), some (ji (l)), some (ji (n)), some (ji (w)), some (ji (best)), some (ji ((c : Int))), some (ji (v_X8_hoursOf (f_X8_layOff sx (c : Int) n) 422 n.toNat))]) dX8_drives_104 (by decide) rfl rfl ?_
                  have L126 : ∀ (b2 : Int) (hh126_0 : b2 = if jand (rIF ((rDrA sx n c) 422) ((rDrA sx n c) 422 3).toNat) l = l then (c : Int) else best) (hh126_1 : b2 = -1000000 ∨ (0 ≤ b2 ∧ b2 < 128)), jz_Z g mX8_drives (jq_ie (v_X8_drives s l n w) (f_X8_drives s l n w)) 126 [some (jr (416)), some (ji (l)), some (ji (n)), some (ji (w)), some (ji (best)), some (ji ((c : Int))), some (ji (v_X8_hoursOf (f_X8_layOff sx (c : Int) n) 422 n.toNat))] [ji (b2)] (rDrA sx n c) := by
                    intro b2 hh126_0 hh126_1
                    refine jj_istore (ls' := [some (jr (416)), some (ji (l)), some (ji (n)), some (ji (w)), some (ji (b2)), some (ji ((c : Int))), some (ji (v_X8_hoursOf (f_X8_layOff sx (c : Int) n) 422 n.toNat))]) dX8_drives_126 (by decide) rfl rfl ?_
                    refine jj_iinc (ls' := [some (jr (416)), some (ji (l)), some (ji (n)), some (ji (w)), some (ji (b2)), some (ji ((c : Int) + 1)), some (ji (v_X8_hoursOf (f_X8_layOff sx (c : Int) n) 422 n.toNat))]) dX8_drives_128 rfl (by decide) rfl (by omega) rfl ?_
                    refine jj_goto (tgt := 55) dX8_drives_131 (by decide) ?_
                    refine jj_fgt (i := 6) (ls' := [some (jr (416)), some (ji (l)), some (ji (n)), some (ji (w)), some (ji (b2)), some (ji ((c : Int) + 1)), none]) rfl ?_
                    exact ih55 (c + 1) b2 (rDrA sx n c) (by omega) (by rw [hh55_1, show (jshl 1 (s 420 4)).toNat - c = ((jshl 1 (s 420 4)).toNat - (c + 1)) + 1 by omega]; simp only [rDr]; first | (rw [if_pos (by omega), ← hh126_0]; done) | (rw [if_neg (by omega)]; done)) (by first | assumption | omega) (by first | assumption | (rw [drA_o _ _ _ (by decide) (by decide) (by decide)]; assumption)) (by omega)
                  refine jj_aload_n dX8_drives_106 rfl ?_
                  refine zz_getR dX8_drives_107 kf_X8_25 tt416 rfl ?_
                  refine zz_cSi (av := [jr (422)]) (st' := []) dX8_drives_110 kn_X8_210 kmX8_forced rfl rfl (Nat.le_of_ble_eq_true rfl) (by decide) rfl (c_X8_forced g (rDrA sx n c) 422 (Or.inr rfl) (999 + (n.toNat : Int)) (by unfold rDrA; exact hoursOf_mr (Or.inr rfl) hM2 _)) (fun hr110 ho110 => ?_)
                  refine jj_iload_n dX8_drives_113 rfl ?_
                  refine jj_iand dX8_drives_114 ?_
                  refine jj_iload_n dX8_drives_115 rfl ?_
                  refine jj_icmp_ne (tgt := 124) dX8_drives_116 (by decide) (fun h116 => ?_) (fun h116 => ?_)
                  · refine jj_iload dX8_drives_124 rfl ?_
                    exact L126 best (by first | (rw [if_pos (by omega)]; done) | (rw [if_neg (by omega)]; done)) (by omega)
                  · refine jj_iload dX8_drives_119 rfl ?_
                    refine jj_goto (tgt := 126) dX8_drives_121 (by decide) ?_
                    exact L126 ((c : Int)) (by first | (rw [if_pos (by omega)]; done) | (rw [if_neg (by omega)]; done)) (by omega)
                refine jj_iload dX8_drives_68 rfl ?_
                refine jj_ldc dX8_drives_70 kk_X8_93 (kk := ?_)
                refine jj_icmp_eq (tgt := 88) dX8_drives_72 (by decide) (fun h72 => ?_) (fun h72 => ?_)
                · exact L88 (by omega)
                · refine jj_iload dX8_drives_75 rfl ?_
                  refine zz_cSi (av := [ji ((c : Int))]) (st' := []) dX8_drives_77 kn_X8_221 kmX8_bits rfl rfl (Nat.le_of_ble_eq_true rfl) (by decide) rfl (c_X8_bits g sx c (c : Int) (by omega) (by omega)) (fun hr77 ho77 => ?_)
                  refine jj_iload dX8_drives_80 rfl ?_
                  refine zz_cSi (av := [ji (best)]) (st' := [ji (fBC c)]) dX8_drives_82 kn_X8_221 kmX8_bits rfl rfl (Nat.le_of_ble_eq_true rfl) (by decide) rfl (c_X8_bits g sx best.toNat best (by omega) (by omega)) (fun hr82 ho82 => ?_)
                  refine jj_icmp_ge (tgt := 128) dX8_drives_85 (by decide) (fun h85 => ?_) (fun h85 => ?_)
                  · refine jj_iinc (ls' := [some (jr (416)), some (ji (l)), some (ji (n)), some (ji (w)), some (ji (best)), some (ji ((c : Int) + 1)), none]) dX8_drives_128 rfl (by decide) rfl (by omega) rfl ?_
                    refine jj_goto (tgt := 55) dX8_drives_131 (by decide) ?_
                    exact ih55 (c + 1) best sx (by omega) (by rw [hh55_1, show (jshl 1 (s 420 4)).toNat - c = ((jshl 1 (s 420 4)).toNat - (c + 1)) + 1 by omega]; simp only [rDr]; first | (rw [if_pos (by omega), ← hh126_0]; done) | (rw [if_neg (by omega)]; done)) (by first | assumption | omega) (by first | assumption | (rw [drA_o _ _ _ (by decide) (by decide) (by decide)]; assumption)) (by omega)
                  · exact L88 (by omega)
          exact L55 _ 0 (-1000000) s (by have := shl_r (z := s 420 4) (by omega); omega) (by rw [Nat.sub_zero]) (by exact Or.inl rfl) (by rfl) (Nat.lt_succ_self _)
        · have hg42 := bz_f h42
          refine jj_ldc dX8_drives_45 kk_X8_70 (kk := ?_)
          refine zz_retie dX8_drives_47 rfl (by decide) ?_ ?_
          · unfold v_X8_drives; (repeat (first | rw [if_pos (by omega)] | rw [if_neg (by omega)])) <;> first | rfl | done
          · unfold f_X8_drives; (repeat (first | rw [if_pos (by omega)] | rw [if_neg (by omega)])) <;> first | rfl | done
  · have hg9 := bz_f h9
    refine jj_ldc dX8_drives_12 kk_X8_187 (kk := ?_)
    refine zz_retie dX8_drives_14 rfl (by decide) ?_ ?_
    · unfold v_X8_drives; (repeat (first | rw [if_pos (by omega)] | rw [if_neg (by omega)])) <;> first | rfl | done
    · unfold f_X8_drives; (repeat (first | rw [if_pos (by omega)] | rw [if_neg (by omega)])) <;> first | rfl | done

def v_X8_harm (s : jz_St) (n w : Int) : Int := if s 420 0 = 1 then (if (1 ≤ n ∧ n ≤ 60) ∧ 0 ≤ w ∧ w ≤ 1 then (if w = 0 then (rHm s n (s 420 4).toNat).1 else (rHm s n (s 420 4).toNat).2) else -1000001) else -1000002
def f_X8_harm (s : jz_St) (n w : Int) : jz_St := if s 420 0 = 1 then (if (1 ≤ n ∧ n ≤ 60) ∧ 0 ≤ w ∧ w ≤ 1 then rHmS s n (s 420 4).toNat else s) else s
set_option maxRecDepth 100000 in
set_option maxHeartbeats 4000000 in
theorem c_X8_harm (g : jz_G) (s : jz_St) (n w : Int) (hM : mIn s)  : jz_C g mX8_harm [jr (416), ji (n), ji (w)] s (jq_ie (v_X8_harm s n w) (f_X8_harm s n w)) := by
  refine zz_C_of koX8_harm rfl (Nat.le_of_ble_eq_true rfl) ?_
  refine zz_pad 5 ?_
  show jz_Z g mX8_harm (jq_ie (v_X8_harm s n w) (f_X8_harm s n w)) 0 [some (jr (416)), some (ji (n)), some (ji (w)), none, none, none, none, none] [] s
  have hL := hM.1
  have hm := hM.2.1
  have ha := hM.2.2.1
  have htr := hM.2.2.2
  have hmh := mRw_h hm
  refine jj_aload_n dX8_harm_0 rfl ?_
  refine jj_iconst dX8_harm_1 (kk := ?_)
  refine zz_putI dX8_harm_2 kw_X8_50 tt416 rfl rfl ?_
  refine zz_st (s1 := s) (by exact jz_su_id hL.1) ?_
  refine jj_aload_n dX8_harm_5 rfl ?_
  refine zz_cVi (av := []) (st' := []) dX8_harm_6 kn_X8_184 kmX8_isThere tt416 rfl rfl rfl (Nat.le_of_ble_eq_true rfl) (by decide) rfl (c_X8_isThere g s) (fun hr6 ho6 => ?_)
  refine jj_if_ne (tgt := 15) dX8_harm_9 (by decide) (fun h9 => ?_) (fun h9 => ?_)
  · have hg9 := bz_t h9
    refine jj_iload_n dX8_harm_15 rfl ?_
    refine jj_i2l dX8_harm_16 ?_
    refine jj_lconst (z := 1) dX8_harm_17 (kk := ?_)
    refine jj_ldc2 dX8_harm_18 kk_X8_201 (kk := ?_)
    refine zz_cSi (av := [jl (n), jl (1), jl (60)]) (st' := []) dX8_harm_21 kn_X8_60 kmX8_in rfl rfl (Nat.le_of_ble_eq_true rfl) (by decide) rfl (c_X8_in g s n 1 60) (fun hr21 ho21 => ?_)
    refine jj_if_eq (tgt := 37) dX8_harm_24 (by decide) (fun h24 => ?_) (fun h24 => ?_)
    · have hg24 := bz_f h24
      refine jj_ldc dX8_harm_37 kk_X8_70 (kk := ?_)
      refine zz_retie dX8_harm_39 rfl (by decide) ?_ ?_
      · unfold v_X8_harm; (repeat (first | rw [if_pos (by omega)] | rw [if_neg (by omega)])) <;> first | rfl | done
      · unfold f_X8_harm; (repeat (first | rw [if_pos (by omega)] | rw [if_neg (by omega)])) <;> first | rfl | done
    · have hg24 := bz_t h24
      refine jj_iload_n dX8_harm_27 rfl ?_
      refine jj_i2l dX8_harm_28 ?_
      refine jj_lconst (z := 0) dX8_harm_29 (kk := ?_)
      refine jj_lconst (z := 1) dX8_harm_30 (kk := ?_)
      refine zz_cSi (av := [jl (w), jl (0), jl (1)]) (st' := []) dX8_harm_31 kn_X8_60 kmX8_in rfl rfl (Nat.le_of_ble_eq_true rfl) (by decide) rfl (c_X8_in g s w 0 1) (fun hr31 ho31 => ?_)
      refine jj_if_ne (tgt := 40) dX8_harm_34 (by decide) (fun h34 => ?_) (fun h34 => ?_)
      · have hg34 := bz_t h34
        refine jj_ldc dX8_harm_40 kk_X8_93 (kk := ?_)
        refine jj_istore_n (ls' := [some (jr (416)), some (ji (n)), some (ji (w)), some (ji (-1000000)), none, none, none, none]) dX8_harm_42 (by decide) rfl rfl ?_
        refine jj_iconst dX8_harm_43 (kk := ?_)
        refine jj_istore (ls' := [some (jr (416)), some (ji (n)), some (ji (w)), some (ji (-1000000)), some (ji (-1)), none, none, none]) dX8_harm_44 (by decide) rfl rfl ?_
        refine jj_iconst dX8_harm_46 (kk := ?_)
        refine jj_istore (ls' := [some (jr (416)), some (ji (n)), some (ji (w)), some (ji (-1000000)), some (ji (-1)), some (ji (0)), none, none]) dX8_harm_47 (by decide) rfl rfl ?_
        have L49 : ∀ (nn : Nat) (j : Nat) (best most : Int) (hh49_0 : (j : Int) ≤ s 420 4) (hh49_1 : best = (rHm s n j).1) (hh49_2 : most = (rHm s n j).2), 4 - j < nn → jz_Z g mX8_harm (jq_ie (v_X8_harm s n w) (f_X8_harm s n w)) 49 [some (jr (416)), some (ji (n)), some (ji (w)), some (ji (best)), some (ji (most)), some (ji ((j : Int))), none, none] [] (rHmS s n j) := by
          intro nn
          induction nn with
          | zero => intro j best most hh49_0 hh49_1 hh49_2 hmz; exact absurd hmz (Nat.not_lt_zero _)
          | succ nn ih49 =>
            intro j best most hh49_0 hh49_1 hh49_2 hm49
            refine jj_iload dX8_harm_49 rfl ?_
            refine jj_aload_n dX8_harm_51 rfl ?_
            refine zz_getR dX8_harm_52 kf_X8_19 tt416 rfl ?_
            refine jj_iconst dX8_harm_55 (kk := ?_)
            refine zz_ialdN (j := 4) dX8_harm_56 tt420 (by omega) (by omega) ?_
            refine zz_top (b := s 420 4) (by rw [hmS_o _ _ (by decide) (by decide) (by decide)]) ?_
            refine jj_icmp_ge (tgt := 128) dX8_harm_57 (by decide) (fun h57 => ?_) (fun h57 => ?_)
            · refine jj_iload_n dX8_harm_128 rfl ?_
              refine jj_if_ne (tgt := 136) dX8_harm_129 (by decide) (fun h129 => ?_) (fun h129 => ?_)
              · refine jj_iload dX8_harm_136 rfl ?_
                refine zz_retie dX8_harm_138 rfl (by decide) ?_ ?_
                · unfold v_X8_harm; rw [if_pos (by omega), if_pos (by omega), show (s 420 4).toNat = j by omega]; first | (rw [if_pos (by omega)]; first | exact hh49_1 | exact hh49_2) | (rw [if_neg (by omega)]; first | exact hh49_2 | exact hh49_1)
                · unfold f_X8_harm; rw [if_pos (by omega), if_pos (by omega), show (s 420 4).toNat = j by omega]
              · refine jj_iload_n dX8_harm_132 rfl ?_
                refine jj_goto (tgt := 138) dX8_harm_133 (by decide) ?_
                refine zz_retie dX8_harm_138 rfl (by decide) ?_ ?_
                · unfold v_X8_harm; rw [if_pos (by omega), if_pos (by omega), show (s 420 4).toNat = j by omega]; first | (rw [if_pos (by omega)]; first | exact hh49_1 | exact hh49_2) | (rw [if_neg (by omega)]; first | exact hh49_2 | exact hh49_1)
                · unfold f_X8_harm; rw [if_pos (by omega), if_pos (by omega), show (s 420 4).toNat = j by omega]
            · have hx4 : rHmS s n j 420 4 = s 420 4 := by rw [hmS_o _ _ (by decide) (by decide) (by decide)]
              refine jj_aload_n dX8_harm_60 rfl ?_
              refine jj_iconst dX8_harm_61 (kk := ?_)
              refine jj_iload dX8_harm_62 rfl ?_
              refine jj_ishl dX8_harm_64 ?_
              refine jj_iload_n dX8_harm_65 rfl ?_
              refine zz_cVv (av := [ji (jshl (1) ((j : Int))), ji (n)]) (st' := []) dX8_harm_66 kn_X8_224 kmX8_layOff tt416 rfl rfl rfl (Nat.le_of_ble_eq_true rfl) (by decide) rfl (c_X8_layOff g (rHmS s n j) (jshl (1) ((j : Int))) n (by omega)) (fun ho66 => ?_)
              have hM2 : mRw (f_X8_layOff (rHmS s n j) (jshl 1 j) n 422) 999 := layOff_mr (by omega) (by rw [hmS_o _ _ (by decide) (by decide) (by decide)]; exact hm)
              refine jj_aload_n dX8_harm_69 rfl ?_
              refine jj_aload_n dX8_harm_70 rfl ?_
              refine zz_getR dX8_harm_71 kf_X8_25 tt416 rfl ?_
              refine jj_iload_n dX8_harm_74 rfl ?_
              refine zz_cVi (av := [jr (422), ji (n)]) (st' := []) dX8_harm_75 kn_X8_207 kmX8_hoursOf tt416 rfl rfl rfl (Nat.le_of_ble_eq_true rfl) (by decide) rfl (c_X8_hoursOf g (f_X8_layOff (rHmS s n j) (jshl (1) ((j : Int))) n) 422 (Or.inr rfl) n.toNat n (by omega) 999 hM2 (by omega) (by omega)) (fun hr75 ho75 => ?_)
              refine zz_st (s1 := rHmS s n (j + 1)) (by rfl) ?_
              have hM3 : mRw (rHmS s n (j + 1) 422) (999 + (n.toNat : Int)) := hoursOf_mr (Or.inr rfl) hM2 _
              have hMh := mRw_h hM3
              have hF := rIF_r (q := rHmS s n (j + 1) 422) (j := (rHmS s n (j + 1) 422 3).toNat) (by omega)
              refine jj_istore (ls' := [some (jr (416)), some (ji (n)), some (ji (w)), some (ji (best)), some (ji (most)), some (ji ((j : Int))), some (ji (v_X8_hoursOf (f_X8_layOff (rHmS s n j) (jshl (1) ((j : Int))) n) 422 n.toNat)), none]) dX8_harm_78 (by decide) rfl rfl ?_
              refine jj_aload_n dX8_harm_80 rfl ?_
              refine zz_getR dX8_harm_81 kf_X8_25 tt416 rfl ?_
              refine zz_cSi (av := [jr (422)]) (st' := []) dX8_harm_84 kn_X8_210 kmX8_forced rfl rfl (Nat.le_of_ble_eq_true rfl) (by decide) rfl (c_X8_forced g (rHmS s n (j + 1)) 422 (Or.inr rfl) (999 + (n.toNat : Int)) hM3) (fun hr84 ho84 => ?_)
              refine zz_cSi (av := [ji (rIF ((rHmS s n (j + 1)) 422) ((rHmS s n (j + 1)) 422 3).toNat)]) (st' := []) dX8_harm_87 kn_X8_221 kmX8_bits rfl rfl (Nat.le_of_ble_eq_true rfl) (by decide) rfl (c_X8_bits g (rHmS s n (j + 1)) ((rIF ((rHmS s n (j + 1)) 422) ((rHmS s n (j + 1)) 422 3).toNat).toNat) (rIF ((rHmS s n (j + 1)) 422) ((rHmS s n (j + 1)) 422 3).toNat) (by omega) (by omega)) (fun hr87 ho87 => ?_)
              refine zz_top (b := rHmV s n j) (by rfl) ?_
              refine jj_istore (ls' := [some (jr (416)), some (ji (n)), some (ji (w)), some (ji (best)), some (ji (most)), some (ji ((j : Int))), some (ji (v_X8_hoursOf (f_X8_layOff (rHmS s n j) (jshl (1) ((j : Int))) n) 422 n.toNat)), some (ji (rHmV s n j))]) dX8_harm_90 (by decide) rfl rfl ?_
              have L105 : ∀ (y2 : Int) (hh105_0 : y2 = if most < rHmV s n j then (j : Int) else best), jz_Z g mX8_harm (jq_ie (v_X8_harm s n w) (f_X8_harm s n w)) 105 [some (jr (416)), some (ji (n)), some (ji (w)), some (ji (best)), some (ji (most)), some (ji ((j : Int))), some (ji (v_X8_hoursOf (f_X8_layOff (rHmS s n j) (jshl (1) ((j : Int))) n) 422 n.toNat)), some (ji (rHmV s n j))] [ji (y2)] (rHmS s n (j + 1)) := by
                intro y2 hh105_0
                refine jj_istore_n (ls' := [some (jr (416)), some (ji (n)), some (ji (w)), some (ji (y2)), some (ji (most)), some (ji ((j : Int))), some (ji (v_X8_hoursOf (f_X8_layOff (rHmS s n j) (jshl (1) ((j : Int))) n) 422 n.toNat)), some (ji (rHmV s n j))]) dX8_harm_105 (by decide) rfl rfl ?_
                have L120 : ∀ (y3 : Int) (hh120_0 : y3 = if most < rHmV s n j then rHmV s n j else most), jz_Z g mX8_harm (jq_ie (v_X8_harm s n w) (f_X8_harm s n w)) 120 [some (jr (416)), some (ji (n)), some (ji (w)), some (ji (y2)), some (ji (most)), some (ji ((j : Int))), some (ji (v_X8_hoursOf (f_X8_layOff (rHmS s n j) (jshl (1) ((j : Int))) n) 422 n.toNat)), some (ji (rHmV s n j))] [ji (y3)] (rHmS s n (j + 1)) := by
                  intro y3 hh120_0
                  refine jj_istore (ls' := [some (jr (416)), some (ji (n)), some (ji (w)), some (ji (y2)), some (ji (y3)), some (ji ((j : Int))), some (ji (v_X8_hoursOf (f_X8_layOff (rHmS s n j) (jshl (1) ((j : Int))) n) 422 n.toNat)), some (ji (rHmV s n j))]) dX8_harm_120 (by decide) rfl rfl ?_
                  refine jj_iinc (ls' := [some (jr (416)), some (ji (n)), some (ji (w)), some (ji (y2)), some (ji (y3)), some (ji ((j : Int) + 1)), some (ji (v_X8_hoursOf (f_X8_layOff (rHmS s n j) (jshl (1) ((j : Int))) n) 422 n.toNat)), some (ji (rHmV s n j))]) dX8_harm_122 rfl (by decide) rfl (by omega) rfl ?_
                  refine jj_goto (tgt := 49) dX8_harm_125 (by decide) ?_
                  refine jj_fgt (i := 6) (ls' := [some (jr (416)), some (ji (n)), some (ji (w)), some (ji (y2)), some (ji (y3)), some (ji ((j : Int) + 1)), none, some (ji (rHmV s n j))]) rfl ?_
                  refine jj_fgt (i := 7) (ls' := [some (jr (416)), some (ji (n)), some (ji (w)), some (ji (y2)), some (ji (y3)), some (ji ((j : Int) + 1)), none, none]) rfl ?_
                  exact ih49 (j + 1) y2 y3 (by omega) (by simp only [rHm]; rw [hh105_0, ← hh49_2]; by_cases q : most < rHmV s n j; (· rw [if_pos q, if_pos q]); (· rw [if_neg q, if_neg q]; exact hh49_1)) (by simp only [rHm]; rw [hh120_0, ← hh49_2]; by_cases q : most < rHmV s n j; (· rw [if_pos q, if_pos q]); (· rw [if_neg q, if_neg q]; exact hh49_2)) (by omega)
                refine jj_iload dX8_harm_106 rfl ?_
                refine jj_iload dX8_harm_108 rfl ?_
                refine jj_icmp_le (tgt := 118) dX8_harm_110 (by decide) (fun h110 => ?_) (fun h110 => ?_)
                · refine jj_iload dX8_harm_118 rfl ?_
                  exact L120 most (by first | (rw [if_pos (by omega)]; done) | (rw [if_neg (by omega)]; done))
                · refine jj_iload dX8_harm_113 rfl ?_
                  refine jj_goto (tgt := 120) dX8_harm_115 (by decide) ?_
                  exact L120 (rHmV s n j) (by first | (rw [if_pos (by omega)]; done) | (rw [if_neg (by omega)]; done))
              refine jj_iload dX8_harm_92 rfl ?_
              refine jj_iload dX8_harm_94 rfl ?_
              refine jj_icmp_le (tgt := 104) dX8_harm_96 (by decide) (fun h96 => ?_) (fun h96 => ?_)
              · refine jj_iload_n dX8_harm_104 rfl ?_
                exact L105 best (by first | (rw [if_pos (by omega)]; done) | (rw [if_neg (by omega)]; done))
              · refine jj_iload dX8_harm_99 rfl ?_
                refine jj_goto (tgt := 105) dX8_harm_101 (by decide) ?_
                exact L105 ((j : Int)) (by first | (rw [if_pos (by omega)]; done) | (rw [if_neg (by omega)]; done))
        refine zz_st (s1 := rHmS s n 0) (by rfl) ?_
        exact L49 _ 0 (-1000000) (-1) (by omega) (by rfl) (by rfl) (Nat.lt_succ_self _)
      · have hg34 := bz_f h34
        refine jj_ldc dX8_harm_37 kk_X8_70 (kk := ?_)
        refine zz_retie dX8_harm_39 rfl (by decide) ?_ ?_
        · unfold v_X8_harm; (repeat (first | rw [if_pos (by omega)] | rw [if_neg (by omega)])) <;> first | rfl | done
        · unfold f_X8_harm; (repeat (first | rw [if_pos (by omega)] | rw [if_neg (by omega)])) <;> first | rfl | done
  · have hg9 := bz_f h9
    refine jj_ldc dX8_harm_12 kk_X8_187 (kk := ?_)
    refine zz_retie dX8_harm_14 rfl (by decide) ?_ ?_
    · unfold v_X8_harm; (repeat (first | rw [if_pos (by omega)] | rw [if_neg (by omega)])) <;> first | rfl | done
    · unfold f_X8_harm; (repeat (first | rw [if_pos (by omega)] | rw [if_neg (by omega)])) <;> first | rfl | done

def v_X8_bait (s : jz_St) (l n w : Int) : Int := if (0 ≤ l ∧ l ≤ s 420 3 - 1) ∧ (1 ≤ n ∧ n ≤ 30) ∧ 0 ≤ w ∧ w ≤ 1 then (if w = 0 then (rBa s l n.toNat (s 420 3).toNat).1 else (rBa s l n.toNat (s 420 3).toNat).2) else -1000001
def f_X8_bait (s : jz_St) (l n w : Int) : jz_St := if (0 ≤ l ∧ l ≤ s 420 3 - 1) ∧ (1 ≤ n ∧ n ≤ 30) ∧ 0 ≤ w ∧ w ≤ 1 then rBaS s l n.toNat (s 420 3).toNat else s
set_option maxRecDepth 100000 in
set_option maxHeartbeats 4000000 in
theorem c_X8_bait (g : jz_G) (s : jz_St) (l n w : Int) (hM : mIn s)  : jz_C g mX8_bait [jr (416), ji (l), ji (n), ji (w)] s (jq_ie (v_X8_bait s l n w) (f_X8_bait s l n w)) := by
  refine zz_C_of koX8_bait rfl (Nat.le_of_ble_eq_true rfl) ?_
  refine zz_pad 5 ?_
  show jz_Z g mX8_bait (jq_ie (v_X8_bait s l n w) (f_X8_bait s l n w)) 0 [some (jr (416)), some (ji (l)), some (ji (n)), some (ji (w)), none, none, none, none, none] [] s
  have hL := hM.1
  have hm := hM.2.1
  have ha := hM.2.2.1
  have htr := hM.2.2.2
  have hmh := mRw_h hm
  refine jj_aload_n dX8_bait_0 rfl ?_
  refine jj_iconst dX8_bait_1 (kk := ?_)
  refine zz_putI dX8_bait_2 kw_X8_50 tt416 rfl rfl ?_
  refine zz_st (s1 := s) (by exact jz_su_id hL.1) ?_
  refine jj_aload_n dX8_bait_5 rfl ?_
  refine jj_iload_n dX8_bait_6 rfl ?_
  refine zz_cVi (av := [ji (l)]) (st' := []) dX8_bait_7 kn_X8_193 kmX8_isLeaf tt416 rfl rfl rfl (Nat.le_of_ble_eq_true rfl) (by decide) rfl (c_X8_isLeaf g s l (by omega)) (fun hr7 ho7 => ?_)
  refine jj_if_eq (tgt := 35) dX8_bait_10 (by decide) (fun h10 => ?_) (fun h10 => ?_)
  · have hg10 := bz_f h10
    refine jj_ldc dX8_bait_35 kk_X8_70 (kk := ?_)
    refine zz_retie dX8_bait_37 rfl (by decide) ?_ ?_
    · unfold v_X8_bait; (repeat (first | rw [if_pos (by omega)] | rw [if_neg (by omega)])) <;> first | rfl | done
    · unfold f_X8_bait; (repeat (first | rw [if_pos (by omega)] | rw [if_neg (by omega)])) <;> first | rfl | done
  · have hg10 := bz_t h10
    refine jj_iload_n dX8_bait_13 rfl ?_
    refine jj_i2l dX8_bait_14 ?_
    refine jj_lconst (z := 1) dX8_bait_15 (kk := ?_)
    refine jj_ldc2 dX8_bait_16 kk_X8_219 (kk := ?_)
    refine zz_cSi (av := [jl (n), jl (1), jl (30)]) (st' := []) dX8_bait_19 kn_X8_60 kmX8_in rfl rfl (Nat.le_of_ble_eq_true rfl) (by decide) rfl (c_X8_in g s n 1 30) (fun hr19 ho19 => ?_)
    refine jj_if_eq (tgt := 35) dX8_bait_22 (by decide) (fun h22 => ?_) (fun h22 => ?_)
    · have hg22 := bz_f h22
      refine jj_ldc dX8_bait_35 kk_X8_70 (kk := ?_)
      refine zz_retie dX8_bait_37 rfl (by decide) ?_ ?_
      · unfold v_X8_bait; (repeat (first | rw [if_pos (by omega)] | rw [if_neg (by omega)])) <;> first | rfl | done
      · unfold f_X8_bait; (repeat (first | rw [if_pos (by omega)] | rw [if_neg (by omega)])) <;> first | rfl | done
    · have hg22 := bz_t h22
      refine jj_iload_n dX8_bait_25 rfl ?_
      refine jj_i2l dX8_bait_26 ?_
      refine jj_lconst (z := 0) dX8_bait_27 (kk := ?_)
      refine jj_lconst (z := 1) dX8_bait_28 (kk := ?_)
      refine zz_cSi (av := [jl (w), jl (0), jl (1)]) (st' := []) dX8_bait_29 kn_X8_60 kmX8_in rfl rfl (Nat.le_of_ble_eq_true rfl) (by decide) rfl (c_X8_in g s w 0 1) (fun hr29 ho29 => ?_)
      refine jj_if_ne (tgt := 38) dX8_bait_32 (by decide) (fun h32 => ?_) (fun h32 => ?_)
      · have hg32 := bz_t h32
        refine jj_ldc dX8_bait_38 kk_X8_93 (kk := ?_)
        refine jj_istore (ls' := [some (jr (416)), some (ji (l)), some (ji (n)), some (ji (w)), some (ji (-1000000)), none, none, none, none]) dX8_bait_40 (by decide) rfl rfl ?_
        refine jj_ldc dX8_bait_42 kk_X8_93 (kk := ?_)
        refine jj_istore (ls' := [some (jr (416)), some (ji (l)), some (ji (n)), some (ji (w)), some (ji (-1000000)), some (ji (-1000000)), none, none, none]) dX8_bait_44 (by decide) rfl rfl ?_
        refine jj_iconst dX8_bait_46 (kk := ?_)
        refine jj_istore (ls' := [some (jr (416)), some (ji (l)), some (ji (n)), some (ji (w)), some (ji (-1000000)), some (ji (-1000000)), some (ji (0)), none, none]) dX8_bait_47 (by decide) rfl rfl ?_
        have L49 : ∀ (nn : Nat) (j : Nat) (best most : Int) (hh49_0 : (j : Int) ≤ s 420 3) (hh49_1 : best = (rBa s l n.toNat j).1) (hh49_2 : most = (rBa s l n.toNat j).2), 7 - j < nn → jz_Z g mX8_bait (jq_ie (v_X8_bait s l n w) (f_X8_bait s l n w)) 49 [some (jr (416)), some (ji (l)), some (ji (n)), some (ji (w)), some (ji (best)), some (ji (most)), some (ji ((j : Int))), none, none] [] (rBaS s l n.toNat j) := by
          intro nn
          induction nn with
          | zero => intro j best most hh49_0 hh49_1 hh49_2 hmz; exact absurd hmz (Nat.not_lt_zero _)
          | succ nn ih49 =>
            intro j best most hh49_0 hh49_1 hh49_2 hm49
            refine jj_iload dX8_bait_49 rfl ?_
            refine jj_aload_n dX8_bait_51 rfl ?_
            refine zz_getR dX8_bait_52 kf_X8_19 tt416 rfl ?_
            refine jj_iconst dX8_bait_55 (kk := ?_)
            refine zz_ialdN (j := 3) dX8_bait_56 tt420 (by omega) (by omega) ?_
            refine zz_top (b := s 420 3) (by rw [baS_o _ _ _ (by decide) (by decide) (by decide)]) ?_
            refine jj_icmp_ge (tgt := 159) dX8_bait_57 (by decide) (fun h57 => ?_) (fun h57 => ?_)
            · refine jj_iload_n dX8_bait_159 rfl ?_
              refine jj_if_ne (tgt := 168) dX8_bait_160 (by decide) (fun h160 => ?_) (fun h160 => ?_)
              · refine jj_iload dX8_bait_168 rfl ?_
                refine zz_retie dX8_bait_170 rfl (by decide) ?_ ?_
                · unfold v_X8_bait; rw [if_pos (by omega), show (s 420 3).toNat = j by omega]; first | (rw [if_pos (by omega)]; first | exact hh49_1 | exact hh49_2) | (rw [if_neg (by omega)]; first | exact hh49_2 | exact hh49_1)
                · unfold f_X8_bait; rw [if_pos (by omega), show (s 420 3).toNat = j by omega]
              · refine jj_iload dX8_bait_163 rfl ?_
                refine jj_goto (tgt := 170) dX8_bait_165 (by decide) ?_
                refine zz_retie dX8_bait_170 rfl (by decide) ?_ ?_
                · unfold v_X8_bait; rw [if_pos (by omega), show (s 420 3).toNat = j by omega]; first | (rw [if_pos (by omega)]; first | exact hh49_1 | exact hh49_2) | (rw [if_neg (by omega)]; first | exact hh49_2 | exact hh49_1)
                · unfold f_X8_bait; rw [if_pos (by omega), show (s 420 3).toNat = j by omega]
            · refine jj_iload dX8_bait_60 rfl ?_
              refine jj_iload_n dX8_bait_62 rfl ?_
              refine jj_icmp_eq (tgt := 153) dX8_bait_63 (by decide) (fun h63 => ?_) (fun h63 => ?_)
              · refine jj_iinc (ls' := [some (jr (416)), some (ji (l)), some (ji (n)), some (ji (w)), some (ji (best)), some (ji (most)), some (ji ((j : Int) + 1)), none, none]) dX8_bait_153 rfl (by decide) rfl (by omega) rfl ?_
                refine jj_goto (tgt := 49) dX8_bait_156 (by decide) ?_
                refine zz_st (s1 := rBaS s l n.toNat (j + 1)) (by simp only [rBaS]; rw [if_neg (by omega)]) ?_
                exact ih49 (j + 1) best most (by omega) (by simp only [rBa]; rw [← hh49_2]; first | (rw [if_neg (fun q => by have := q.1; omega)]; exact hh49_1) | (rw [hh135_0]; by_cases q : most < rBaS s l n.toNat (j + 1) 422 (6 + 5 * l.toNat + 4); (· rw [if_pos q, if_pos ⟨hSel, q⟩]); (· rw [if_neg q, if_neg (fun q2 => q q2.2)]; exact hh49_1))) (by simp only [rBa]; rw [← hh49_2]; first | (rw [if_neg (fun q => by have := q.1; omega)]; exact hh49_2) | (rw [hh151_0]; by_cases q : most < rBaS s l n.toNat (j + 1) 422 (6 + 5 * l.toNat + 4); (· rw [if_pos q, if_pos ⟨hSel, q⟩]); (· rw [if_neg q, if_neg (fun q2 => q q2.2)]; exact hh49_2))) (by omega)
              · refine jj_aload_n dX8_bait_66 rfl ?_
                refine zz_getR dX8_bait_67 kf_X8_19 tt416 rfl ?_
                refine jj_iload dX8_bait_70 rfl ?_
                refine jj_iconst dX8_bait_72 (kk := ?_)
                refine zz_cSi (av := [jr (420), ji ((j : Int)), ji (4)]) (st' := []) dX8_bait_73 kn_X8_155 kmX8_of rfl rfl (Nat.le_of_ble_eq_true rfl) (by decide) rfl (c_X8_of g (rBaS s l n.toNat j) 420 (Or.inl rfl) (j : Int) 4 (6 + 5 * j + 4) (by omega) (by omega)) (fun hr73 ho73 => ?_)
                refine zz_top (b := s 420 (6 + 5 * j + 4)) (by rw [baS_o _ _ _ (by decide) (by decide) (by decide)]) ?_
                refine jj_if_le (tgt := 153) dX8_bait_76 (by decide) (fun h76 => ?_) (fun h76 => ?_)
                · refine jj_iinc (ls' := [some (jr (416)), some (ji (l)), some (ji (n)), some (ji (w)), some (ji (best)), some (ji (most)), some (ji ((j : Int) + 1)), none, none]) dX8_bait_153 rfl (by decide) rfl (by omega) rfl ?_
                  refine jj_goto (tgt := 49) dX8_bait_156 (by decide) ?_
                  refine zz_st (s1 := rBaS s l n.toNat (j + 1)) (by simp only [rBaS]; rw [if_neg (by omega)]) ?_
                  exact ih49 (j + 1) best most (by omega) (by simp only [rBa]; rw [← hh49_2]; first | (rw [if_neg (fun q => by have := q.1; omega)]; exact hh49_1) | (rw [hh135_0]; by_cases q : most < rBaS s l n.toNat (j + 1) 422 (6 + 5 * l.toNat + 4); (· rw [if_pos q, if_pos ⟨hSel, q⟩]); (· rw [if_neg q, if_neg (fun q2 => q q2.2)]; exact hh49_1))) (by simp only [rBa]; rw [← hh49_2]; first | (rw [if_neg (fun q => by have := q.1; omega)]; exact hh49_2) | (rw [hh151_0]; by_cases q : most < rBaS s l n.toNat (j + 1) 422 (6 + 5 * l.toNat + 4); (· rw [if_pos q, if_pos ⟨hSel, q⟩]); (· rw [if_neg q, if_neg (fun q2 => q q2.2)]; exact hh49_2))) (by omega)
                · refine jj_aload_n dX8_bait_79 rfl ?_
                  refine zz_cVv (av := []) (st' := []) dX8_bait_80 kn_X8_177 kmX8_layThen tt416 rfl rfl rfl (Nat.le_of_ble_eq_true rfl) (by decide) rfl (c_X8_layThen g (rBaS s l n.toNat j)) (fun ho80 => ?_)
                  refine jj_aload_n dX8_bait_83 rfl ?_
                  refine zz_getR dX8_bait_84 kf_X8_25 tt416 rfl ?_
                  refine jj_bipush dX8_bait_87 (kk := ?_)
                  refine jj_iconst dX8_bait_89 (kk := ?_)
                  refine jj_iload dX8_bait_90 rfl ?_
                  refine jj_imul dX8_bait_92 (by omega) ?_
                  refine jj_iadd dX8_bait_93 (by omega) ?_
                  refine jj_iconst dX8_bait_94 (kk := ?_)
                  refine jj_iadd dX8_bait_95 (by omega) ?_
                  refine jj_bipush dX8_bait_96 (kk := ?_)
                  refine zz_iastN (j := 6 + 5 * j + 3) dX8_bait_98 tt422 (by omega) (by omega) ?_
                  have hSel : (j : Int) ≠ l ∧ 0 < s 420 (6 + 5 * j + 4) := by omega
                  have hM2 : mRw (jz_su (f_X8_layThen (rBaS s l n.toNat j)) 422 (6 + 5 * j + 3) 19 422) 999 := mRw_su (layThen_mr (by rw [baS_o _ _ _ (by decide) (by decide) (by decide)]; exact hm)) (by decide) (by rw [hi_3 _ _ (by omega)]; decide)
                  refine jj_aload_n dX8_bait_99 rfl ?_
                  refine jj_aload_n dX8_bait_100 rfl ?_
                  refine zz_getR dX8_bait_101 kf_X8_25 tt416 rfl ?_
                  refine jj_iload_n dX8_bait_104 rfl ?_
                  refine zz_cVi (av := [jr (422), ji (n)]) (st' := []) dX8_bait_105 kn_X8_207 kmX8_hoursOf tt416 rfl rfl rfl (Nat.le_of_ble_eq_true rfl) (by decide) rfl (c_X8_hoursOf g (jz_su (f_X8_layThen (rBaS s l n.toNat j)) 422 (6 + 5 * j + 3) (19)) 422 (Or.inr rfl) n.toNat n (by omega) 999 hM2 (by omega) (by omega)) (fun hr105 ho105 => ?_)
                  refine zz_st (s1 := rBaS s l n.toNat (j + 1)) (by simp only [rBaS]; rw [if_pos hSel]; rfl) ?_
                  refine jj_istore (ls' := [some (jr (416)), some (ji (l)), some (ji (n)), some (ji (w)), some (ji (best)), some (ji (most)), some (ji ((j : Int))), some (ji (v_X8_hoursOf (jz_su (f_X8_layThen (rBaS s l n.toNat j)) 422 (6 + 5 * j + 3) (19)) 422 n.toNat)), none]) dX8_bait_108 (by decide) rfl rfl ?_
                  refine jj_aload_n dX8_bait_110 rfl ?_
                  refine zz_getR dX8_bait_111 kf_X8_25 tt416 rfl ?_
                  refine jj_iload_n dX8_bait_114 rfl ?_
                  refine jj_iconst dX8_bait_115 (kk := ?_)
                  refine zz_cSi (av := [jr (422), ji (l), ji (4)]) (st' := []) dX8_bait_116 kn_X8_155 kmX8_of rfl rfl (Nat.le_of_ble_eq_true rfl) (by decide) rfl (c_X8_of g (rBaS s l n.toNat (j + 1)) 422 (Or.inr rfl) l 4 (6 + 5 * l.toNat + 4) (by omega) (by omega)) (fun hr116 ho116 => ?_)
                  refine zz_top (b := rBaS s l n.toNat (j + 1) 422 (6 + 5 * l.toNat + 4)) (by rfl) ?_
                  refine jj_istore (ls' := [some (jr (416)), some (ji (l)), some (ji (n)), some (ji (w)), some (ji (best)), some (ji (most)), some (ji ((j : Int))), some (ji (v_X8_hoursOf (jz_su (f_X8_layThen (rBaS s l n.toNat j)) 422 (6 + 5 * j + 3) (19)) 422 n.toNat)), some (ji (rBaS s l n.toNat (j + 1) 422 (6 + 5 * l.toNat + 4)))]) dX8_bait_119 (by decide) rfl rfl ?_
                  have L135 : ∀ (y2 : Int) (hh135_0 : y2 = if most < rBaS s l n.toNat (j + 1) 422 (6 + 5 * l.toNat + 4) then (j : Int) else best), jz_Z g mX8_bait (jq_ie (v_X8_bait s l n w) (f_X8_bait s l n w)) 135 [some (jr (416)), some (ji (l)), some (ji (n)), some (ji (w)), some (ji (best)), some (ji (most)), some (ji ((j : Int))), some (ji (v_X8_hoursOf (jz_su (f_X8_layThen (rBaS s l n.toNat j)) 422 (6 + 5 * j + 3) (19)) 422 n.toNat)), some (ji (rBaS s l n.toNat (j + 1) 422 (6 + 5 * l.toNat + 4)))] [ji (y2)] (rBaS s l n.toNat (j + 1)) := by
                    intro y2 hh135_0
                    refine jj_istore (ls' := [some (jr (416)), some (ji (l)), some (ji (n)), some (ji (w)), some (ji (y2)), some (ji (most)), some (ji ((j : Int))), some (ji (v_X8_hoursOf (jz_su (f_X8_layThen (rBaS s l n.toNat j)) 422 (6 + 5 * j + 3) (19)) 422 n.toNat)), some (ji (rBaS s l n.toNat (j + 1) 422 (6 + 5 * l.toNat + 4)))]) dX8_bait_135 (by decide) rfl rfl ?_
                    have L151 : ∀ (y3 : Int) (hh151_0 : y3 = if most < rBaS s l n.toNat (j + 1) 422 (6 + 5 * l.toNat + 4) then rBaS s l n.toNat (j + 1) 422 (6 + 5 * l.toNat + 4) else most), jz_Z g mX8_bait (jq_ie (v_X8_bait s l n w) (f_X8_bait s l n w)) 151 [some (jr (416)), some (ji (l)), some (ji (n)), some (ji (w)), some (ji (y2)), some (ji (most)), some (ji ((j : Int))), some (ji (v_X8_hoursOf (jz_su (f_X8_layThen (rBaS s l n.toNat j)) 422 (6 + 5 * j + 3) (19)) 422 n.toNat)), some (ji (rBaS s l n.toNat (j + 1) 422 (6 + 5 * l.toNat + 4)))] [ji (y3)] (rBaS s l n.toNat (j + 1)) := by
                      intro y3 hh151_0
                      refine jj_istore (ls' := [some (jr (416)), some (ji (l)), some (ji (n)), some (ji (w)), some (ji (y2)), some (ji (y3)), some (ji ((j : Int))), some (ji (v_X8_hoursOf (jz_su (f_X8_layThen (rBaS s l n.toNat j)) 422 (6 + 5 * j + 3) (19)) 422 n.toNat)), some (ji (rBaS s l n.toNat (j + 1) 422 (6 + 5 * l.toNat + 4)))]) dX8_bait_151 (by decide) rfl rfl ?_
                      refine jj_iinc (ls' := [some (jr (416)), some (ji (l)), some (ji (n)), some (ji (w)), some (ji (y2)), some (ji (y3)), some (ji ((j : Int) + 1)), some (ji (v_X8_hoursOf (jz_su (f_X8_layThen (rBaS s l n.toNat j)) 422 (6 + 5 * j + 3) (19)) 422 n.toNat)), some (ji (rBaS s l n.toNat (j + 1) 422 (6 + 5 * l.toNat + 4)))]) dX8_bait_153 rfl (by decide) rfl (by omega) rfl ?_
                      refine jj_goto (tgt := 49) dX8_bait_156 (by decide) ?_
                      refine jj_fgt (i := 7) (ls' := [some (jr (416)), some (ji (l)), some (ji (n)), some (ji (w)), some (ji (y2)), some (ji (y3)), some (ji ((j : Int) + 1)), none, some (ji (rBaS s l n.toNat (j + 1) 422 (6 + 5 * l.toNat + 4)))]) rfl ?_
                      refine jj_fgt (i := 8) (ls' := [some (jr (416)), some (ji (l)), some (ji (n)), some (ji (w)), some (ji (y2)), some (ji (y3)), some (ji ((j : Int) + 1)), none, none]) rfl ?_
                      exact ih49 (j + 1) y2 y3 (by omega) (by simp only [rBa]; rw [← hh49_2]; first | (rw [if_neg (fun q => by have := q.1; omega)]; exact hh49_1) | (rw [hh135_0]; by_cases q : most < rBaS s l n.toNat (j + 1) 422 (6 + 5 * l.toNat + 4); (· rw [if_pos q, if_pos ⟨hSel, q⟩]); (· rw [if_neg q, if_neg (fun q2 => q q2.2)]; exact hh49_1))) (by simp only [rBa]; rw [← hh49_2]; first | (rw [if_neg (fun q => by have := q.1; omega)]; exact hh49_2) | (rw [hh151_0]; by_cases q : most < rBaS s l n.toNat (j + 1) 422 (6 + 5 * l.toNat + 4); (· rw [if_pos q, if_pos ⟨hSel, q⟩]); (· rw [if_neg q, if_neg (fun q2 => q q2.2)]; exact hh49_2))) (by omega)
                    refine jj_iload dX8_bait_137 rfl ?_
                    refine jj_iload dX8_bait_139 rfl ?_
                    refine jj_icmp_le (tgt := 149) dX8_bait_141 (by decide) (fun h141 => ?_) (fun h141 => ?_)
                    · refine jj_iload dX8_bait_149 rfl ?_
                      exact L151 most (by first | (rw [if_pos (by omega)]; done) | (rw [if_neg (by omega)]; done))
                    · refine jj_iload dX8_bait_144 rfl ?_
                      refine jj_goto (tgt := 151) dX8_bait_146 (by decide) ?_
                      exact L151 (rBaS s l n.toNat (j + 1) 422 (6 + 5 * l.toNat + 4)) (by first | (rw [if_pos (by omega)]; done) | (rw [if_neg (by omega)]; done))
                  refine jj_iload dX8_bait_121 rfl ?_
                  refine jj_iload dX8_bait_123 rfl ?_
                  refine jj_icmp_le (tgt := 133) dX8_bait_125 (by decide) (fun h125 => ?_) (fun h125 => ?_)
                  · refine jj_iload dX8_bait_133 rfl ?_
                    exact L135 best (by first | (rw [if_pos (by omega)]; done) | (rw [if_neg (by omega)]; done))
                  · refine jj_iload dX8_bait_128 rfl ?_
                    refine jj_goto (tgt := 135) dX8_bait_130 (by decide) ?_
                    exact L135 ((j : Int)) (by first | (rw [if_pos (by omega)]; done) | (rw [if_neg (by omega)]; done))
        refine zz_st (s1 := rBaS s l n.toNat 0) (by rfl) ?_
        exact L49 _ 0 (-1000000) (-1000000) (by omega) (by rfl) (by rfl) (Nat.lt_succ_self _)
      · have hg32 := bz_f h32
        refine jj_ldc dX8_bait_35 kk_X8_70 (kk := ?_)
        refine zz_retie dX8_bait_37 rfl (by decide) ?_ ?_
        · unfold v_X8_bait; (repeat (first | rw [if_pos (by omega)] | rw [if_neg (by omega)])) <;> first | rfl | done
        · unfold f_X8_bait; (repeat (first | rw [if_pos (by omega)] | rw [if_neg (by omega)])) <;> first | rfl | done

def v_X8_safeHeight (s : jz_St) (l n : Int) : Int := if (0 ≤ l ∧ l ≤ s 420 3 - 1) ∧ 1 ≤ n ∧ n ≤ 60 then (if s 420 (6 + 5 * l.toNat + 4) = 0 then -1000002 else (rSa s l n.toNat 0 10).1) else -1000001
def f_X8_safeHeight (s : jz_St) (l n : Int) : jz_St := if (0 ≤ l ∧ l ≤ s 420 3 - 1) ∧ 1 ≤ n ∧ n ≤ 60 then (if s 420 (6 + 5 * l.toNat + 4) = 0 then s else (rSa s l n.toNat 0 10).2) else s
set_option maxRecDepth 100000 in
set_option maxHeartbeats 4000000 in
theorem c_X8_safeHeight (g : jz_G) (s : jz_St) (l n : Int) (hM : mIn s)  : jz_C g mX8_safeHeight [jr (416), ji (l), ji (n)] s (jq_ie (v_X8_safeHeight s l n) (f_X8_safeHeight s l n)) := by
  refine zz_C_of koX8_safeHeight rfl (Nat.le_of_ble_eq_true rfl) ?_
  refine zz_pad 1 ?_
  show jz_Z g mX8_safeHeight (jq_ie (v_X8_safeHeight s l n) (f_X8_safeHeight s l n)) 0 [some (jr (416)), some (ji (l)), some (ji (n)), none] [] s
  have hL := hM.1
  have hm := hM.2.1
  have ha := hM.2.2.1
  have htr := hM.2.2.2
  have hmh := mRw_h hm
  refine jj_aload_n dX8_safeHeight_0 rfl ?_
  refine jj_iconst dX8_safeHeight_1 (kk := ?_)
  refine zz_putI dX8_safeHeight_2 kw_X8_50 tt416 rfl rfl ?_
  refine zz_st (s1 := s) (by exact jz_su_id hL.1) ?_
  refine jj_aload_n dX8_safeHeight_5 rfl ?_
  refine jj_iload_n dX8_safeHeight_6 rfl ?_
  refine zz_cVi (av := [ji (l)]) (st' := []) dX8_safeHeight_7 kn_X8_193 kmX8_isLeaf tt416 rfl rfl rfl (Nat.le_of_ble_eq_true rfl) (by decide) rfl (c_X8_isLeaf g s l (by omega)) (fun hr7 ho7 => ?_)
  refine jj_if_eq (tgt := 25) dX8_safeHeight_10 (by decide) (fun h10 => ?_) (fun h10 => ?_)
  · have hg10 := bz_f h10
    refine jj_ldc dX8_safeHeight_25 kk_X8_70 (kk := ?_)
    refine zz_retie dX8_safeHeight_27 rfl (by decide) ?_ ?_
    · unfold v_X8_safeHeight; (repeat (first | rw [if_pos (by omega)] | rw [if_neg (by omega)])) <;> first | rfl | done
    · unfold f_X8_safeHeight; (repeat (first | rw [if_pos (by omega)] | rw [if_neg (by omega)])) <;> first | rfl | done
  · have hg10 := bz_t h10
    refine jj_iload_n dX8_safeHeight_13 rfl ?_
    refine jj_i2l dX8_safeHeight_14 ?_
    refine jj_lconst (z := 1) dX8_safeHeight_15 (kk := ?_)
    refine jj_ldc2 dX8_safeHeight_16 kk_X8_201 (kk := ?_)
    refine zz_cSi (av := [jl (n), jl (1), jl (60)]) (st' := []) dX8_safeHeight_19 kn_X8_60 kmX8_in rfl rfl (Nat.le_of_ble_eq_true rfl) (by decide) rfl (c_X8_in g s n 1 60) (fun hr19 ho19 => ?_)
    refine jj_if_ne (tgt := 28) dX8_safeHeight_22 (by decide) (fun h22 => ?_) (fun h22 => ?_)
    · have hg22 := bz_t h22
      refine jj_aload_n dX8_safeHeight_28 rfl ?_
      refine zz_getR dX8_safeHeight_29 kf_X8_19 tt416 rfl ?_
      refine jj_iload_n dX8_safeHeight_32 rfl ?_
      refine jj_iconst dX8_safeHeight_33 (kk := ?_)
      refine zz_cSi (av := [jr (420), ji (l), ji (4)]) (st' := []) dX8_safeHeight_34 kn_X8_155 kmX8_of rfl rfl (Nat.le_of_ble_eq_true rfl) (by decide) rfl (c_X8_of g s 420 (Or.inl rfl) l 4 (6 + 5 * l.toNat + 4) (by omega) (by omega)) (fun hr34 ho34 => ?_)
      refine jj_if_ne (tgt := 43) dX8_safeHeight_37 (by decide) (fun h37 => ?_) (fun h37 => ?_)
      · refine jj_iconst dX8_safeHeight_43 (kk := ?_)
        refine jj_istore_n (ls' := [some (jr (416)), some (ji (l)), some (ji (n)), some (ji (0))]) dX8_safeHeight_44 (by decide) rfl rfl ?_
        have L45 : ∀ (nn : Nat) (k : Nat) (sx : jz_St) (hh45_0 : k ≤ 10) (hh45_1 : rSa s l n.toNat 0 10 = rSa sx l n.toNat k (10 - k)) (hh45_2 : sx 420 = s 420), 10 - k < nn → jz_Z g mX8_safeHeight (jq_ie (v_X8_safeHeight s l n) (f_X8_safeHeight s l n)) 45 [some (jr (416)), some (ji (l)), some (ji (n)), some (ji ((k : Int)))] [] sx := by
          intro nn
          induction nn with
          | zero => intro k sx hh45_0 hh45_1 hh45_2 hmz; exact absurd hmz (Nat.not_lt_zero _)
          | succ nn ih45 =>
            intro k sx hh45_0 hh45_1 hh45_2 hm45
            refine jj_iload_n dX8_safeHeight_45 rfl ?_
            refine jj_bipush dX8_safeHeight_46 (kk := ?_)
            refine jj_icmp_ge (tgt := 86) dX8_safeHeight_48 (by decide) (fun h48 => ?_) (fun h48 => ?_)
            · refine jj_ldc dX8_safeHeight_86 kk_X8_93 (kk := ?_)
              refine zz_retie dX8_safeHeight_88 rfl (by decide) ?_ ?_
              · unfold v_X8_safeHeight; rw [if_pos (by omega), if_neg (by omega), hh45_1, show 10 - k = 0 by omega]; rfl
              · unfold f_X8_safeHeight; rw [if_pos (by omega), if_neg (by omega), hh45_1, show 10 - k = 0 by omega]; rfl
            · refine jj_aload_n dX8_safeHeight_51 rfl ?_
              refine zz_cVv (av := []) (st' := []) dX8_safeHeight_52 kn_X8_177 kmX8_layThen tt416 rfl rfl rfl (Nat.le_of_ble_eq_true rfl) (by decide) rfl (c_X8_layThen g sx) (fun ho52 => ?_)
              refine jj_aload_n dX8_safeHeight_55 rfl ?_
              refine zz_getR dX8_safeHeight_56 kf_X8_25 tt416 rfl ?_
              refine jj_bipush dX8_safeHeight_59 (kk := ?_)
              refine jj_iconst dX8_safeHeight_61 (kk := ?_)
              refine jj_iload_n dX8_safeHeight_62 rfl ?_
              refine jj_imul dX8_safeHeight_63 (by omega) ?_
              refine jj_iadd dX8_safeHeight_64 (by omega) ?_
              refine jj_iconst dX8_safeHeight_65 (kk := ?_)
              refine jj_iadd dX8_safeHeight_66 (by omega) ?_
              refine jj_iload_n dX8_safeHeight_67 rfl ?_
              refine zz_iastN (j := 6 + 5 * l.toNat + 2) dX8_safeHeight_68 tt422 (by omega) (by omega) ?_
              refine zz_st (s1 := rSaA sx l k) (by rfl) ?_
              have hM2 : mRw (rSaA sx l k 422) 999 := saA_mr (by omega) (by omega) (by rw [hh45_2]; exact hm)
              refine jj_aload_n dX8_safeHeight_69 rfl ?_
              refine jj_iload_n dX8_safeHeight_70 rfl ?_
              refine jj_iload_n dX8_safeHeight_71 rfl ?_
              refine zz_cVi (av := [ji (l), ji (n)]) (st' := []) dX8_safeHeight_72 kn_X8_213 kmX8_biters tt416 rfl rfl rfl (Nat.le_of_ble_eq_true rfl) (by decide) rfl (c_X8_biters g (rSaA sx l k) l n.toNat n (by omega) 999 hM2 (by omega) (by omega)) (fun hr72 ho72 => ?_)
              refine jj_if_ne (tgt := 80) dX8_safeHeight_75 (by decide) (fun h75 => ?_) (fun h75 => ?_)
              · refine jj_iinc (ls' := [some (jr (416)), some (ji (l)), some (ji (n)), some (ji ((k : Int) + 1))]) dX8_safeHeight_80 rfl (by decide) rfl (by omega) rfl ?_
                refine jj_goto (tgt := 45) dX8_safeHeight_83 (by decide) ?_
                exact ih45 (k + 1) (f_X8_hoursOf (rSaA sx l k) 422 n.toNat) (by omega) (by rw [hh45_1, show 10 - k = (10 - (k + 1)) + 1 by omega]; simp only [rSa]; rw [if_neg h75]) (by rw [hoursOf_o (by decide) (by decide) (by decide), saA_o _ _ _ (by decide)]; exact hh45_2) (by omega)
              · refine jj_iload_n dX8_safeHeight_78 rfl ?_
                refine zz_retie dX8_safeHeight_79 rfl (by decide) ?_ ?_
                · unfold v_X8_safeHeight; rw [if_pos (by omega), if_neg (by omega), hh45_1, show 10 - k = (9 - k) + 1 by omega]; simp only [rSa]; rw [if_pos h75]
                · unfold f_X8_safeHeight; rw [if_pos (by omega), if_neg (by omega), hh45_1, show 10 - k = (9 - k) + 1 by omega]; simp only [rSa]; rw [if_pos h75]
        exact L45 _ 0 s (by omega) (by rw [Nat.sub_zero]) (by rfl) (Nat.lt_succ_self _)
      · refine jj_ldc dX8_safeHeight_40 kk_X8_187 (kk := ?_)
        refine zz_retie dX8_safeHeight_42 rfl (by decide) ?_ ?_
        · unfold v_X8_safeHeight; (repeat (first | rw [if_pos (by omega)] | rw [if_neg (by omega)])) <;> first | rfl | done
        · unfold f_X8_safeHeight; (repeat (first | rw [if_pos (by omega)] | rw [if_neg (by omega)])) <;> first | rfl | done
    · have hg22 := bz_f h22
      refine jj_ldc dX8_safeHeight_25 kk_X8_70 (kk := ?_)
      refine zz_retie dX8_safeHeight_27 rfl (by decide) ?_ ?_
      · unfold v_X8_safeHeight; (repeat (first | rw [if_pos (by omega)] | rw [if_neg (by omega)])) <;> first | rfl | done
      · unfold f_X8_safeHeight; (repeat (first | rw [if_pos (by omega)] | rw [if_neg (by omega)])) <;> first | rfl | done

