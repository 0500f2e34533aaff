theorem rI_end {q : Nat → Int} {a b : Nat} {p : Int × Int} (h : b ≤ a + 1) : rI q a b p = p := by
  cases b with
  | zero => rfl
  | succ b => simp only [rI]; rw [if_neg (by omega)]
def v_X8_rivals (s : jz_St) (w : Int) : Int := if s 420 0 = 1 then (if 0 ≤ w ∧ w ≤ 1 then (if w = 0 then (rO (s 420) (s 420 3).toNat (s 420 3).toNat (0, -1000000)).1 else (rO (s 420) (s 420 3).toNat (s 420 3).toNat (0, -1000000)).2) else -1000001) else -1000002
set_option maxRecDepth 100000 in
set_option maxHeartbeats 4000000 in
theorem c_X8_rivals (g : jz_G) (s : jz_St) (w : Int) (hM : mIn s)  : jz_C g mX8_rivals [jr (416), ji (w)] s (jq_ie (v_X8_rivals s w) s) := by
  refine zz_C_of koX8_rivals rfl (Nat.le_of_ble_eq_true rfl) ?_
  refine zz_pad 5 ?_
  show jz_Z g mX8_rivals (jq_ie (v_X8_rivals s w) s) 0 [some (jr (416)), some (ji (w)), none, none, none, none, none] [] s
  have hL := hM.1
  have hm := hM.2.1
  have ha := hM.2.2.1
  have htr := hM.2.2.2
  have hmh := mRw_h hm
  refine jj_aload_n dX8_rivals_0 rfl ?_
  refine jj_iconst dX8_rivals_1 (kk := ?_)
  refine zz_putI dX8_rivals_2 kw_X8_50 tt416 rfl rfl ?_
  refine zz_st (s1 := s) (by exact jz_su_id hL.1) ?_
  refine jj_aload_n dX8_rivals_5 rfl ?_
  refine zz_cVi (av := []) (st' := []) dX8_rivals_6 kn_X8_184 kmX8_isThere tt416 rfl rfl rfl (Nat.le_of_ble_eq_true rfl) (by decide) rfl (c_X8_isThere g s) (fun hr6 ho6 => ?_)
  refine jj_if_ne (tgt := 15) dX8_rivals_9 (by decide) (fun h9 => ?_) (fun h9 => ?_)
  · have hg9 := bz_t h9
    refine jj_iload_n dX8_rivals_15 rfl ?_
    refine jj_i2l dX8_rivals_16 ?_
    refine jj_lconst (z := 0) dX8_rivals_17 (kk := ?_)
    refine jj_lconst (z := 1) dX8_rivals_18 (kk := ?_)
    refine zz_cSi (av := [jl (w), jl (0), jl (1)]) (st' := []) dX8_rivals_19 kn_X8_60 kmX8_in rfl rfl (Nat.le_of_ble_eq_true rfl) (by decide) rfl (c_X8_in g s w 0 1) (fun hr19 ho19 => ?_)
    refine jj_if_ne (tgt := 28) dX8_rivals_22 (by decide) (fun h22 => ?_) (fun h22 => ?_)
    · have hg22 := bz_t h22
      refine jj_iconst dX8_rivals_28 (kk := ?_)
      refine jj_istore_n (ls' := [some (jr (416)), some (ji (w)), some (ji (0)), none, none, none, none]) dX8_rivals_29 (by decide) rfl rfl ?_
      refine jj_ldc dX8_rivals_30 kk_X8_93 (kk := ?_)
      refine jj_istore_n (ls' := [some (jr (416)), some (ji (w)), some (ji (0)), some (ji (-1000000)), none, none, none]) dX8_rivals_32 (by decide) rfl rfl ?_
      refine jj_aload_n dX8_rivals_33 rfl ?_
      refine zz_getR dX8_rivals_34 kf_X8_19 tt416 rfl ?_
      refine jj_iconst dX8_rivals_37 (kk := ?_)
      refine zz_ialdN (j := 3) dX8_rivals_38 tt420 (by omega) (by omega) ?_
      refine jj_iconst dX8_rivals_39 (kk := ?_)
      refine jj_isub dX8_rivals_40 (by omega) ?_
      refine jj_istore (ls' := [some (jr (416)), some (ji (w)), some (ji (0)), some (ji (-1000000)), some (ji ((s 420 3) - 1)), none, none]) dX8_rivals_41 (by decide) rfl rfl ?_
      have L43 : ∀ (nn : Nat) (a x1 x2 : Int) (hh43_0 : -1 ≤ a ∧ a ≤ s 420 3 - 1) (hh43_1 : rO (s 420) (s 420 3).toNat (s 420 3).toNat (0, -1000000) = rO (s 420) (s 420 3).toNat (a + 1).toNat (x1, x2)) (hh43_2 : 0 ≤ x1 ∧ x1 + 7 * a ≤ 100), (a + 1).toNat < nn → jz_Z g mX8_rivals (jq_ie (v_X8_rivals s w) s) 43 [some (jr (416)), some (ji (w)), some (ji (x1)), some (ji (x2)), some (ji (a)), none, none] [] s := by
        intro nn
        induction nn with
        | zero => intro a x1 x2 hh43_0 hh43_1 hh43_2 hmz; exact absurd hmz (Nat.not_lt_zero _)
        | succ nn ih43 =>
          intro a x1 x2 hh43_0 hh43_1 hh43_2 hm43
          refine jj_iload dX8_rivals_43 rfl ?_
          refine jj_if_lt (tgt := 150) dX8_rivals_45 (by decide) (fun h45 => ?_) (fun h45 => ?_)
          · refine jj_iload_n dX8_rivals_150 rfl ?_
            refine jj_if_ne (tgt := 158) dX8_rivals_151 (by decide) (fun h151 => ?_) (fun h151 => ?_)
            · refine jj_iload_n dX8_rivals_158 rfl ?_
              refine zz_retie dX8_rivals_159 rfl (by decide) ?_ ?_
              · unfold v_X8_rivals; rw [if_pos (by omega), if_pos (by omega), hh43_1, show (a + 1).toNat = 0 by omega]; simp only [rO]; first | (rw [if_pos (by omega)]; done) | (rw [if_neg (by omega)]; done)
              · rfl
            · refine jj_iload_n dX8_rivals_154 rfl ?_
              refine jj_goto (tgt := 159) dX8_rivals_155 (by decide) ?_
              refine zz_retie dX8_rivals_159 rfl (by decide) ?_ ?_
              · unfold v_X8_rivals; rw [if_pos (by omega), if_pos (by omega), hh43_1, show (a + 1).toNat = 0 by omega]; simp only [rO]; first | (rw [if_pos (by omega)]; done) | (rw [if_neg (by omega)]; done)
              · rfl
          · refine jj_aload_n dX8_rivals_48 rfl ?_
            refine zz_getR dX8_rivals_49 kf_X8_19 tt416 rfl ?_
            refine jj_iconst dX8_rivals_52 (kk := ?_)
            refine zz_ialdN (j := 3) dX8_rivals_53 tt420 (by omega) (by omega) ?_
            refine jj_iconst dX8_rivals_54 (kk := ?_)
            refine jj_isub dX8_rivals_55 (by omega) ?_
            refine jj_istore (ls' := [some (jr (416)), some (ji (w)), some (ji (x1)), some (ji (x2)), some (ji (a)), some (ji ((s 420 3) - 1)), none]) dX8_rivals_56 (by decide) rfl rfl ?_
            have L58 : ∀ (nn : Nat) (b y1 y2 : Int) (hh58_0 : a ≤ b ∧ b ≤ s 420 3 - 1) (hh58_1 : rI (s 420) a.toNat (b + 1).toNat (y1, y2) = rI (s 420) a.toNat (s 420 3).toNat (x1, x2)) (hh58_2 : x1 ≤ y1 ∧ y1 + b ≤ x1 + 6), (b + 1).toNat < nn → jz_Z g mX8_rivals (jq_ie (v_X8_rivals s w) s) 58 [some (jr (416)), some (ji (w)), some (ji (y1)), some (ji (y2)), some (ji (a)), some (ji (b)), none] [] s := by
              intro nn
              induction nn with
              | zero => intro b y1 y2 hh58_0 hh58_1 hh58_2 hmz; exact absurd hmz (Nat.not_lt_zero _)
              | succ nn ih58 =>
                intro b y1 y2 hh58_0 hh58_1 hh58_2 hm58
                refine jj_iload dX8_rivals_58 rfl ?_
                refine jj_iload dX8_rivals_60 rfl ?_
                refine jj_icmp_le (tgt := 144) dX8_rivals_62 (by decide) (fun h62 => ?_) (fun h62 => ?_)
                · refine jj_iinc (ls' := [some (jr (416)), some (ji (w)), some (ji (y1)), some (ji (y2)), some (ji (a + (-1))), some (ji (b)), none]) dX8_rivals_144 rfl (by decide) rfl (by omega) rfl ?_
                  refine jj_goto (tgt := 43) dX8_rivals_147 (by decide) ?_
                  refine jj_fgt (i := 5) (ls' := [some (jr (416)), some (ji (w)), some (ji (y1)), some (ji (y2)), some (ji (a + (-1))), none, none]) rfl ?_
                  exact ih43 (a + -1) y1 y2 (by omega) (by rw [hh43_1, show (a + 1).toNat = (a + -1 + 1).toNat + 1 by omega]; simp only [rO]; rw [show (a + -1 + 1).toNat = a.toNat by omega, ← hh58_1]; have e := rI_end (q := s 420) (a := a.toNat) (b := (b + 1).toNat) (p := (y1, y2)) (by omega); rw [e]) (by omega) (by omega)
                · have L105 : ∀ (e : Int) (hh105_0 : e = rRvE (s 420) a.toNat b.toNat), jz_Z g mX8_rivals (jq_ie (v_X8_rivals s w) s) 105 [some (jr (416)), some (ji (w)), some (ji (y1)), some (ji (y2)), some (ji (a)), some (ji (b)), none] [ji (e)] s := by
                    intro e hh105_0
                    refine jj_istore (ls' := [some (jr (416)), some (ji (w)), some (ji (y1)), some (ji (y2)), some (ji (a)), some (ji (b)), some (ji (e))]) dX8_rivals_105 (by decide) rfl rfl ?_
                    have he01 : e = 0 ∨ e = 1 := by rw [hh105_0]; unfold rRvE; split <;> simp
                    refine jj_iload_n dX8_rivals_107 rfl ?_
                    have L118 : ∀ (d : Int) (hh118_0 : d = e) (hh118_1 : 0 ≤ d ∧ d ≤ 1), jz_Z g mX8_rivals (jq_ie (v_X8_rivals s w) s) 118 [some (jr (416)), some (ji (w)), some (ji (y1)), some (ji (y2)), some (ji (a)), some (ji (b)), some (ji (e))] [ji (d), ji (y1)] s := by
                      intro d hh118_0 hh118_1
                      refine jj_iadd dX8_rivals_118 (by omega) ?_
                      refine jj_istore_n (ls' := [some (jr (416)), some (ji (w)), some (ji (y1 + d)), some (ji (y2)), some (ji (a)), some (ji (b)), some (ji (e))]) dX8_rivals_119 (by decide) rfl rfl ?_
                      have L137 : ∀ (f2 : Int) (hh137_0 : f2 = if e = 0 then y2 else 10 * a + b), jz_Z g mX8_rivals (jq_ie (v_X8_rivals s w) s) 137 [some (jr (416)), some (ji (w)), some (ji (y1 + d)), some (ji (y2)), some (ji (a)), some (ji (b)), some (ji (e))] [ji (f2)] s := by
                        intro f2 hh137_0
                        refine jj_istore_n (ls' := [some (jr (416)), some (ji (w)), some (ji (y1 + d)), some (ji (f2)), some (ji (a)), some (ji (b)), some (ji (e))]) dX8_rivals_137 (by decide) rfl rfl ?_
                        refine jj_iinc (ls' := [some (jr (416)), some (ji (w)), some (ji (y1 + d)), some (ji (f2)), some (ji (a)), some (ji (b + (-1))), some (ji (e))]) dX8_rivals_138 rfl (by decide) rfl (by omega) rfl ?_
                        refine jj_goto (tgt := 58) dX8_rivals_141 (by decide) ?_
                        refine jj_fgt (i := 6) (ls' := [some (jr (416)), some (ji (w)), some (ji (y1 + d)), some (ji (f2)), some (ji (a)), some (ji (b + (-1))), none]) rfl ?_
                        exact ih58 (b + -1) (y1 + d) f2 (by omega) (by rw [← hh58_1, show (b + 1).toNat = (b + -1 + 1).toNat + 1 by omega]; simp only [rI]; rw [show (b + -1 + 1).toNat = b.toNat by omega, if_pos (by omega)]; unfold rRvP; rw [← hh105_0, hh118_0, hh137_0, show ((a.toNat : Nat) : Int) = a by omega, show ((b.toNat : Nat) : Int) = b by omega]) (by omega) (by omega)
                      refine jj_iload dX8_rivals_120 rfl ?_
                      refine jj_if_eq (tgt := 136) dX8_rivals_122 (by decide) (fun h122 => ?_) (fun h122 => ?_)
                      · refine jj_iload_n dX8_rivals_136 rfl ?_
                        exact L137 y2 (by first | (rw [if_pos (by omega)]; done) | (rw [if_neg (by omega)]; done))
                      · refine jj_bipush dX8_rivals_125 (kk := ?_)
                        refine jj_iload dX8_rivals_127 rfl ?_
                        refine jj_imul dX8_rivals_129 (by omega) ?_
                        refine jj_iload dX8_rivals_130 rfl ?_
                        refine jj_iadd dX8_rivals_132 (by omega) ?_
                        refine jj_goto (tgt := 137) dX8_rivals_133 (by decide) ?_
                        exact L137 ((10 * a) + b) (by first | (rw [if_pos (by omega)]; done) | (rw [if_neg (by omega)]; done))
                    refine jj_iload dX8_rivals_108 rfl ?_
                    refine jj_if_eq (tgt := 117) dX8_rivals_110 (by decide) (fun h110 => ?_) (fun h110 => ?_)
                    · refine jj_iconst dX8_rivals_117 (kk := ?_)
                      exact L118 0 (by omega) (by omega)
                    · refine jj_iconst dX8_rivals_113 (kk := ?_)
                      refine jj_goto (tgt := 118) dX8_rivals_114 (by decide) ?_
                      exact L118 1 (by omega) (by omega)
                  refine jj_aload_n dX8_rivals_65 rfl ?_
                  refine zz_getR dX8_rivals_66 kf_X8_19 tt416 rfl ?_
                  refine jj_iload dX8_rivals_69 rfl ?_
                  refine zz_cSi (av := [jr (420), ji (a)]) (st' := []) dX8_rivals_71 kn_X8_162 kmX8_liked rfl rfl (Nat.le_of_ble_eq_true rfl) (by decide) rfl (c_X8_liked g s 420 (Or.inl rfl) a.toNat a (by omega) 999 hm (by omega)) (fun hr71 ho71 => ?_)
                  refine jj_ldc dX8_rivals_74 kk_X8_93 (kk := ?_)
                  refine jj_icmp_eq (tgt := 104) dX8_rivals_76 (by decide) (fun h76 => ?_) (fun h76 => ?_)
                  · refine jj_iconst dX8_rivals_104 (kk := ?_)
                    exact L105 0 (by unfold rRvE; first | (rw [if_pos (by omega)]; done) | (rw [if_neg (by omega)]; done))
                  · refine jj_aload_n dX8_rivals_79 rfl ?_
                    refine zz_getR dX8_rivals_80 kf_X8_19 tt416 rfl ?_
                    refine jj_iload dX8_rivals_83 rfl ?_
                    refine zz_cSi (av := [jr (420), ji (a)]) (st' := []) dX8_rivals_85 kn_X8_162 kmX8_liked rfl rfl (Nat.le_of_ble_eq_true rfl) (by decide) rfl (c_X8_liked g s 420 (Or.inl rfl) a.toNat a (by omega) 999 hm (by omega)) (fun hr85 ho85 => ?_)
                    refine jj_aload_n dX8_rivals_88 rfl ?_
                    refine zz_getR dX8_rivals_89 kf_X8_19 tt416 rfl ?_
                    refine jj_iload dX8_rivals_92 rfl ?_
                    refine zz_cSi (av := [jr (420), ji (b)]) (st' := [ji (rLk (s 420) a.toNat)]) dX8_rivals_94 kn_X8_162 kmX8_liked rfl rfl (Nat.le_of_ble_eq_true rfl) (by decide) rfl (c_X8_liked g s 420 (Or.inl rfl) b.toNat b (by omega) 999 hm (by omega)) (fun hr94 ho94 => ?_)
                    refine jj_icmp_ne (tgt := 104) dX8_rivals_97 (by decide) (fun h97 => ?_) (fun h97 => ?_)
                    · refine jj_iconst dX8_rivals_104 (kk := ?_)
                      exact L105 0 (by unfold rRvE; first | (rw [if_pos (by omega)]; done) | (rw [if_neg (by omega)]; done))
                    · refine jj_iconst dX8_rivals_100 (kk := ?_)
                      refine jj_goto (tgt := 105) dX8_rivals_101 (by decide) ?_
                      exact L105 1 (by unfold rRvE; first | (rw [if_pos (by omega)]; done) | (rw [if_neg (by omega)]; done))
            exact L58 _ (s 420 3 - 1) x1 x2 (by omega) (by rw [show (s 420 3 - 1 + 1).toNat = (s 420 3).toNat by omega]) (by omega) (Nat.lt_succ_self _)
      exact L43 _ (s 420 3 - 1) 0 (-1000000) (by omega) (by rw [show (s 420 3 - 1 + 1).toNat = (s 420 3).toNat by omega]) (by omega) (Nat.lt_succ_self _)
    · have hg22 := bz_f h22
      refine jj_ldc dX8_rivals_25 kk_X8_70 (kk := ?_)
      refine zz_retie dX8_rivals_27 rfl (by decide) ?_ ?_
      · unfold v_X8_rivals; (repeat (first | rw [if_pos (by omega)] | rw [if_neg (by omega)])) <;> first | rfl | done
      · rfl
  · have hg9 := bz_f h9
    refine jj_ldc dX8_rivals_12 kk_X8_187 (kk := ?_)
    refine zz_retie dX8_rivals_14 rfl (by decide) ?_ ?_
    · unfold v_X8_rivals; (repeat (first | rw [if_pos (by omega)] | rw [if_neg (by omega)])) <;> first | rfl | done
    · rfl

