def v_X7_rivals (s : jz_St) (w : Int) : Int := if s 344 2 ≤ 0 then -1000002 else if 0 ≤ w ∧ w ≤ 1 then (if w = 0 then (fRvO s 7).1 else (fRvO s 7).2) else -1000001
set_option maxRecDepth 100000 in
set_option maxHeartbeats 4000000 in
theorem c_X7_rivals (g : jz_G) (s : jz_St) (w : Int) (hI : jInv s)  : jz_C g mX7_rivals [jr (0), ji (w)] s (jq_ie (v_X7_rivals s w) s) := by
  refine zz_C_of koX7_rivals rfl (Nat.le_of_ble_eq_true rfl) ?_
  refine zz_pad 10 ?_
  show jz_Z g mX7_rivals (jq_ie (v_X7_rivals s w) s) 0 [some (jr (0)), some (ji (w)), none, none, none, none, none, none, none, none, none, none] [] s
  obtain ⟨hN, hH, hP1, hP2, hT, hRw⟩ := hI
  refine jj_aload_n dX7_rivals_0 rfl ?_
  refine zz_getR dX7_rivals_1 kf_X7_39 tt0 rfl ?_
  refine zz_cVi (av := []) (st' := []) dX7_rivals_4 kn_X7_139 kmX5_isThere tt344 rfl rfl rfl (Nat.le_of_ble_eq_true rfl) (by decide) rfl (c_X5_isThere g s 344 tt344) (fun hr4 ho4 => ?_)
  refine jj_if_ne (tgt := 13) dX7_rivals_7 (by decide) (fun h7 => ?_) (fun h7 => ?_)
  · have hg7 := by_t h7
    refine jj_iload_n dX7_rivals_13 rfl ?_
    refine jj_iconst dX7_rivals_14 (kk := ?_)
    refine jj_iconst dX7_rivals_15 (kk := ?_)
    refine zz_cSi (av := [ji (w), ji (0), ji (1)]) (st' := []) dX7_rivals_16 kn_X7_57 kmX7_isWithin rfl rfl (Nat.le_of_ble_eq_true rfl) (by decide) rfl (c_X7_isWithin g s w 0 1) (fun hr16 ho16 => ?_)
    refine jj_if_ne (tgt := 25) dX7_rivals_19 (by decide) (fun h19 => ?_) (fun h19 => ?_)
    · have hg19 := bz_t h19
      refine jj_iconst dX7_rivals_25 (kk := ?_)
      refine jj_istore_n (ls' := [some (jr (0)), some (ji (w)), some (ji (0)), none, none, none, none, none, none, none, none, none]) dX7_rivals_26 (by decide) rfl rfl ?_
      refine jj_ldc dX7_rivals_27 kk_X7_202 (kk := ?_)
      refine jj_istore_n (ls' := [some (jr (0)), some (ji (w)), some (ji (0)), some (ji (-1000000)), none, none, none, none, none, none, none, none]) dX7_rivals_29 (by decide) rfl rfl ?_
      refine jj_aload_n dX7_rivals_30 rfl ?_
      refine zz_getR dX7_rivals_31 kf_X7_39 tt0 rfl ?_
      refine zz_getR dX7_rivals_34 kf_X7_255 tt344 rfl ?_
      refine jj_astore (ls' := [some (jr (0)), some (ji (w)), some (ji (0)), some (ji (-1000000)), some (jr (344 + 1)), none, none, none, none, none, none, none]) dX7_rivals_37 (by decide) rfl rfl ?_
      refine jj_aload dX7_rivals_39 rfl ?_
      refine zz_alen (z := 7) dX7_rivals_41 (jz_t_sqL tt344) (by decide) rfl (by decide) ?_
      refine jj_istore (ls' := [some (jr (0)), some (ji (w)), some (ji (0)), some (ji (-1000000)), some (jr (344 + 1)), some (ji (7)), none, none, none, none, none, none]) dX7_rivals_42 (by decide) rfl rfl ?_
      refine jj_iconst dX7_rivals_44 (kk := ?_)
      refine jj_istore (ls' := [some (jr (0)), some (ji (w)), some (ji (0)), some (ji (-1000000)), some (jr (344 + 1)), some (ji (7)), some (ji (0)), none, none, none, none, none]) dX7_rivals_45 (by decide) rfl rfl ?_
      have L47 : ∀ (nn : Nat) (i : Nat) (x y : Int) (hh47_0 : i ≤ 7) (hh47_1 : x = (fRvO s i).1) (hh47_2 : y = (fRvO s i).2), 7 - i < nn → jz_Z g mX7_rivals (jq_ie (v_X7_rivals s w) s) 47 [some (jr (0)), some (ji (w)), some (ji (x)), some (ji (y)), some (jr (344 + 1)), some (ji (7)), some (ji ((i : Int))), none, none, none, none, none] [] s := by
        intro nn
        induction nn with
        | zero => intro i x y hh47_0 hh47_1 hh47_2 hmz; exact absurd hmz (Nat.not_lt_zero _)
        | succ nn ih47 =>
          intro i x y hh47_0 hh47_1 hh47_2 hm47
          have hr0 := fRvO_r s i
          refine jj_iload dX7_rivals_47 rfl ?_
          refine jj_iload dX7_rivals_49 rfl ?_
          refine jj_icmp_ge (tgt := 157) dX7_rivals_51 (by decide) (fun h51 => ?_) (fun h51 => ?_)
          · refine jj_iload_n dX7_rivals_157 rfl ?_
            refine jj_if_ne (tgt := 165) dX7_rivals_158 (by decide) (fun h158 => ?_) (fun h158 => ?_)
            · refine jj_iload_n dX7_rivals_165 rfl ?_
              refine zz_retie dX7_rivals_166 rfl (by decide) ?_ ?_
              · unfold v_X7_rivals; rw [if_neg (by omega), if_pos (by omega), show 7 = i by omega, ← hh47_1, ← hh47_2]; first | (rw [if_pos (by omega)]; done) | (rw [if_neg (by omega)]; done)
              · rfl
            · refine jj_iload_n dX7_rivals_161 rfl ?_
              refine jj_goto (tgt := 166) dX7_rivals_162 (by decide) ?_
              refine zz_retie dX7_rivals_166 rfl (by decide) ?_ ?_
              · unfold v_X7_rivals; rw [if_neg (by omega), if_pos (by omega), show 7 = i by omega, ← hh47_1, ← hh47_2]; first | (rw [if_pos (by omega)]; done) | (rw [if_neg (by omega)]; done)
              · rfl
          · refine jj_aload dX7_rivals_54 rfl ?_
            refine jj_iload dX7_rivals_56 rfl ?_
            refine zz_leafld (k := 344) (j := i) dX7_rivals_58 tt344 (by omega) (by omega) ?_
            refine jj_astore (ls' := [some (jr (0)), some (ji (w)), some (ji (x)), some (ji (y)), some (jr (344 + 1)), some (ji (7)), some (ji ((i : Int))), some (jr (344 + 3 + i)), none, none, none, none]) dX7_rivals_59 (by decide) rfl rfl ?_
            refine jj_aload_n dX7_rivals_61 rfl ?_
            refine zz_getR dX7_rivals_62 kf_X7_39 tt0 rfl ?_
            refine zz_getR dX7_rivals_65 kf_X7_255 tt344 rfl ?_
            refine jj_astore (ls' := [some (jr (0)), some (ji (w)), some (ji (x)), some (ji (y)), some (jr (344 + 1)), some (ji (7)), some (ji ((i : Int))), some (jr (344 + 3 + i)), some (jr (344 + 1)), none, none, none]) dX7_rivals_68 (by decide) rfl rfl ?_
            refine jj_aload dX7_rivals_70 rfl ?_
            refine zz_alen (z := 7) dX7_rivals_72 (jz_t_sqL tt344) (by decide) rfl (by decide) ?_
            refine jj_istore (ls' := [some (jr (0)), some (ji (w)), some (ji (x)), some (ji (y)), some (jr (344 + 1)), some (ji (7)), some (ji ((i : Int))), some (jr (344 + 3 + i)), some (jr (344 + 1)), some (ji (7)), none, none]) dX7_rivals_73 (by decide) rfl rfl ?_
            refine jj_iconst dX7_rivals_75 (kk := ?_)
            refine jj_istore (ls' := [some (jr (0)), some (ji (w)), some (ji (x)), some (ji (y)), some (jr (344 + 1)), some (ji (7)), some (ji ((i : Int))), some (jr (344 + 3 + i)), some (jr (344 + 1)), some (ji (7)), some (ji (0)), none]) dX7_rivals_76 (by decide) rfl rfl ?_
            have L78 : ∀ (nn : Nat) (j : Nat) (x2 y2 : Int) (hh78_0 : j ≤ 7) (hh78_1 : x2 = (fRvI s i (fRvO s i) j).1) (hh78_2 : y2 = (fRvI s i (fRvO s i) j).2), 7 - j < nn → jz_Z g mX7_rivals (jq_ie (v_X7_rivals s w) s) 78 [some (jr (0)), some (ji (w)), some (ji (x2)), some (ji (y2)), some (jr (344 + 1)), some (ji (7)), some (ji ((i : Int))), some (jr (344 + 3 + i)), some (jr (344 + 1)), some (ji (7)), some (ji ((j : Int))), none] [] s := by
              intro nn
              induction nn with
              | zero => intro j x2 y2 hh78_0 hh78_1 hh78_2 hmz; exact absurd hmz (Nat.not_lt_zero _)
              | succ nn ih78 =>
                intro j x2 y2 hh78_0 hh78_1 hh78_2 hm78
                have hr1 := fRvI_r s i (fRvO s i) j
                refine jj_iload dX7_rivals_78 rfl ?_
                refine jj_iload dX7_rivals_80 rfl ?_
                refine jj_icmp_ge (tgt := 151) dX7_rivals_82 (by decide) (fun h82 => ?_) (fun h82 => ?_)
                · refine jj_iinc (ls' := [some (jr (0)), some (ji (w)), some (ji (x2)), some (ji (y2)), some (jr (344 + 1)), some (ji (7)), some (ji ((i : Int) + 1)), some (jr (344 + 3 + i)), some (jr (344 + 1)), some (ji (7)), some (ji ((j : Int))), none]) dX7_rivals_151 rfl (by decide) rfl (by omega) rfl ?_
                  refine jj_goto (tgt := 47) dX7_rivals_154 (by decide) ?_
                  refine jj_fgt (i := 7) (ls' := [some (jr (0)), some (ji (w)), some (ji (x2)), some (ji (y2)), some (jr (344 + 1)), some (ji (7)), some (ji ((i : Int) + 1)), none, some (jr (344 + 1)), some (ji (7)), some (ji ((j : Int))), none]) rfl ?_
                  refine jj_fgt (i := 8) (ls' := [some (jr (0)), some (ji (w)), some (ji (x2)), some (ji (y2)), some (jr (344 + 1)), some (ji (7)), some (ji ((i : Int) + 1)), none, none, some (ji (7)), some (ji ((j : Int))), none]) rfl ?_
                  refine jj_fgt (i := 9) (ls' := [some (jr (0)), some (ji (w)), some (ji (x2)), some (ji (y2)), some (jr (344 + 1)), some (ji (7)), some (ji ((i : Int) + 1)), none, none, none, some (ji ((j : Int))), none]) rfl ?_
                  refine jj_fgt (i := 10) (ls' := [some (jr (0)), some (ji (w)), some (ji (x2)), some (ji (y2)), some (jr (344 + 1)), some (ji (7)), some (ji ((i : Int) + 1)), none, none, none, none, none]) rfl ?_
                  exact ih47 (i + 1) x2 y2 (by omega) (by rw [hh78_1, show j = 7 by omega]; rfl) (by rw [hh78_2, show j = 7 by omega]; rfl) (by omega)
                · have L145 : ∀ (x3 y3 : Int) (hh145_0 : x3 = (fRvI s i (fRvO s i) (j + 1)).1) (hh145_1 : y3 = (fRvI s i (fRvO s i) (j + 1)).2), jz_Z g mX7_rivals (jq_ie (v_X7_rivals s w) s) 145 [some (jr (0)), some (ji (w)), some (ji (x3)), some (ji (y3)), some (jr (344 + 1)), some (ji (7)), some (ji ((i : Int))), some (jr (344 + 3 + i)), some (jr (344 + 1)), some (ji (7)), some (ji ((j : Int))), none] [] s := by
                    intro x3 y3 hh145_0 hh145_1
                    refine jj_iinc (ls' := [some (jr (0)), some (ji (w)), some (ji (x3)), some (ji (y3)), some (jr (344 + 1)), some (ji (7)), some (ji ((i : Int))), some (jr (344 + 3 + i)), some (jr (344 + 1)), some (ji (7)), some (ji ((j : Int) + 1)), none]) dX7_rivals_145 rfl (by decide) rfl (by omega) rfl ?_
                    refine jj_goto (tgt := 78) dX7_rivals_148 (by decide) ?_
                    exact ih78 (j + 1) x3 y3 (by omega) (by exact hh145_0) (by exact hh145_1) (by omega)
                  refine jj_aload dX7_rivals_85 rfl ?_
                  refine jj_iload dX7_rivals_87 rfl ?_
                  refine zz_leafld (k := 344) (j := j) dX7_rivals_89 tt344 (by omega) (by omega) ?_
                  refine jj_astore (ls' := [some (jr (0)), some (ji (w)), some (ji (x2)), some (ji (y2)), some (jr (344 + 1)), some (ji (7)), some (ji ((i : Int))), some (jr (344 + 3 + i)), some (jr (344 + 1)), some (ji (7)), some (ji ((j : Int))), some (jr (344 + 3 + j))]) dX7_rivals_90 (by decide) rfl rfl ?_
                  refine jj_aload dX7_rivals_92 rfl ?_
                  refine zz_getN (z := ((i : Nat) : Int)) dX7_rivals_94 kf_X7_203 (jz_t_leaf tt344 (by omega)) rfl rfl (jz_nm_leaf tt344 (by omega)) ?_
                  refine jj_aload dX7_rivals_97 rfl ?_
                  refine zz_getN (z := ((j : Nat) : Int)) dX7_rivals_99 kf_X7_203 (jz_t_leaf tt344 (by omega)) rfl rfl (jz_nm_leaf tt344 (by omega)) ?_
                  refine jj_icmp_ge (tgt := 145) dX7_rivals_102 (by decide) (fun h102 => ?_) (fun h102 => ?_)
                  · refine jj_fgt (i := 11) (ls' := [some (jr (0)), some (ji (w)), some (ji (x2)), some (ji (y2)), some (jr (344 + 1)), some (ji (7)), some (ji ((i : Int))), some (jr (344 + 3 + i)), some (jr (344 + 1)), some (ji (7)), some (ji ((j : Int))), none]) rfl ?_
                    exact L145 x2 y2 (by simp only [fRvI]; first | (rw [if_pos ⟨by omega, hg116⟩, hh78_1]; done) | (rw [if_neg (fun q => by have := q.1; omega)]; exact hh78_1) | (rw [if_neg (fun q => hg116 q.2)]; exact hh78_1)) (by simp only [fRvI]; first | (rw [if_pos ⟨by omega, hg116⟩, hh141_0]; done) | (rw [if_neg (fun q => by have := q.1; omega)]; exact hh78_2) | (rw [if_neg (fun q => hg116 q.2)]; exact hh78_2))
                  · refine jj_aload_n dX7_rivals_105 rfl ?_
                    refine zz_getR dX7_rivals_106 kf_X7_39 tt0 rfl ?_
                    refine jj_aload dX7_rivals_109 rfl ?_
                    refine jj_aload dX7_rivals_111 rfl ?_
                    refine zz_cVi (av := [jr (344 + 3 + i), jr (344 + 3 + j)]) (st' := []) dX7_rivals_113 kn_X7_259 kmX5_likesAlike tt344 rfl rfl rfl (Nat.le_of_ble_eq_true rfl) (by decide) rfl (c_X5_likesAlike g s 344 tt344 (344 + 3 + i) (344 + 3 + j) (jz_t_leaf tt344 (by omega)) (jz_t_leaf tt344 (by omega)) (fun h => by have := (hN.2.2.2.2.2.2.1 i (by omega)).2 h; have := hN.2.2.2.1; omega) (fun h => by have := (hN.2.2.2.2.2.2.1 j (by omega)).2 h; have := hN.2.2.2.1; omega) hN.2.2.2.2.1.1) (fun hr113 ho113 => ?_)
                    refine jj_if_eq (tgt := 145) dX7_rivals_116 (by decide) (fun h116 => ?_) (fun h116 => ?_)
                    · have hg116 := bz_f h116
                      refine jj_fgt (i := 11) (ls' := [some (jr (0)), some (ji (w)), some (ji (x2)), some (ji (y2)), some (jr (344 + 1)), some (ji (7)), some (ji ((i : Int))), some (jr (344 + 3 + i)), some (jr (344 + 1)), some (ji (7)), some (ji ((j : Int))), none]) rfl ?_
                      exact L145 x2 y2 (by simp only [fRvI]; first | (rw [if_pos ⟨by omega, hg116⟩, hh78_1]; done) | (rw [if_neg (fun q => by have := q.1; omega)]; exact hh78_1) | (rw [if_neg (fun q => hg116 q.2)]; exact hh78_1)) (by simp only [fRvI]; first | (rw [if_pos ⟨by omega, hg116⟩, hh141_0]; done) | (rw [if_neg (fun q => by have := q.1; omega)]; exact hh78_2) | (rw [if_neg (fun q => hg116 q.2)]; exact hh78_2))
                    · have hg116 := bz_t h116
                      have L141 : ∀ (z : Int) (hh141_0 : z = if (fRvI s i (fRvO s i) j).1 = 0 then 10 * (i : Int) + j else (fRvI s i (fRvO s i) j).2), jz_Z g mX7_rivals (jq_ie (v_X7_rivals s w) s) 141 [some (jr (0)), some (ji (w)), some (ji (x2)), some (ji (y2)), some (jr (344 + 1)), some (ji (7)), some (ji ((i : Int))), some (jr (344 + 3 + i)), some (jr (344 + 1)), some (ji (7)), some (ji ((j : Int))), some (jr (344 + 3 + j))] [ji (z)] s := by
                        intro z hh141_0
                        refine jj_istore_n (ls' := [some (jr (0)), some (ji (w)), some (ji (x2)), some (ji (z)), some (jr (344 + 1)), some (ji (7)), some (ji ((i : Int))), some (jr (344 + 3 + i)), some (jr (344 + 1)), some (ji (7)), some (ji ((j : Int))), some (jr (344 + 3 + j))]) dX7_rivals_141 (by decide) rfl rfl ?_
                        refine jj_iinc (ls' := [some (jr (0)), some (ji (w)), some (ji (x2 + 1)), some (ji (z)), some (jr (344 + 1)), some (ji (7)), some (ji ((i : Int))), some (jr (344 + 3 + i)), some (jr (344 + 1)), some (ji (7)), some (ji ((j : Int))), some (jr (344 + 3 + j))]) dX7_rivals_142 rfl (by decide) rfl (by omega) rfl ?_
                        refine jj_fgt (i := 11) (ls' := [some (jr (0)), some (ji (w)), some (ji (x2 + 1)), some (ji (z)), some (jr (344 + 1)), some (ji (7)), some (ji ((i : Int))), some (jr (344 + 3 + i)), some (jr (344 + 1)), some (ji (7)), some (ji ((j : Int))), none]) rfl ?_
                        exact L145 (x2 + 1) z (by simp only [fRvI]; first | (rw [if_pos ⟨by omega, hg116⟩, hh78_1]; done) | (rw [if_neg (fun q => by have := q.1; omega)]; exact hh78_1) | (rw [if_neg (fun q => hg116 q.2)]; exact hh78_1)) (by simp only [fRvI]; first | (rw [if_pos ⟨by omega, hg116⟩, hh141_0]; done) | (rw [if_neg (fun q => by have := q.1; omega)]; exact hh78_2) | (rw [if_neg (fun q => hg116 q.2)]; exact hh78_2))
                      refine jj_iload_n dX7_rivals_119 rfl ?_
                      refine jj_if_ne (tgt := 140) dX7_rivals_120 (by decide) (fun h120 => ?_) (fun h120 => ?_)
                      · refine jj_iload_n dX7_rivals_140 rfl ?_
                        exact L141 y2 (by first | (rw [if_pos (by omega)]; done) | (rw [if_neg (by omega)]; exact hh78_2))
                      · refine jj_bipush dX7_rivals_123 (kk := ?_)
                        refine jj_aload dX7_rivals_125 rfl ?_
                        refine zz_getN (z := ((i : Nat) : Int)) dX7_rivals_127 kf_X7_203 (jz_t_leaf tt344 (by omega)) rfl rfl (jz_nm_leaf tt344 (by omega)) ?_
                        refine jj_imul dX7_rivals_130 (by omega) ?_
                        refine jj_aload dX7_rivals_131 rfl ?_
                        refine zz_getN (z := ((j : Nat) : Int)) dX7_rivals_133 kf_X7_203 (jz_t_leaf tt344 (by omega)) rfl rfl (jz_nm_leaf tt344 (by omega)) ?_
                        refine jj_iadd dX7_rivals_136 (by omega) ?_
                        refine jj_goto (tgt := 141) dX7_rivals_137 (by decide) ?_
                        exact L141 ((10 * ((i : Nat) : Int)) + ((j : Nat) : Int)) (by first | (rw [if_pos (by omega)]; done) | (rw [if_neg (by omega)]; exact hh78_2))
            exact L78 _ 0 x y (by omega) (by exact hh47_1) (by exact hh47_2) (Nat.lt_succ_self _)
      exact L47 _ 0 0 (-1000000) (by omega) (by rfl) (by rfl) (Nat.lt_succ_self _)
    · have hg19 := bz_f h19
      refine jj_ldc dX7_rivals_22 kk_X7_61 (kk := ?_)
      refine zz_retie dX7_rivals_24 rfl (by decide) ?_ ?_
      · unfold v_X7_rivals; (repeat (first | rw [if_pos (by omega)] | rw [if_neg (by omega)])) <;> first | rfl | done
      · rfl
  · have hg7 := by_f h7
    refine jj_ldc dX7_rivals_10 kk_X7_138 (kk := ?_)
    refine zz_retie dX7_rivals_12 rfl (by decide) ?_ ?_
    · unfold v_X7_rivals; (repeat (first | rw [if_pos (by omega)] | rw [if_neg (by omega)])) <;> first | rfl | done
    · rfl

