def v_X7_rivals (s : jz_St) (w : Int) : Int := if s 344 2 ≤ 0 then -1000002 else if 0 ≤ w ∧ w ≤ 1 then (if w = 0 then (fRvO s 7).1 else (fRvO s 7).2) else -1000001
set_option maxRecDepth 100000 in
set_option maxHeartbeats 4000000 in
theorem c_X7_rivals (g : jz_G) (s : jz_St) (w : Int) (hI : jInv s)  : jz_C g mX7_rivals [jr (0), ji (w)] s (jq_ie (v_X7_rivals s w) s) := by
  refine zz_C_of koX7_rivals rfl (Nat.le_of_ble_eq_true rfl) ?_
  refine zz_pad 10 ?_
  show jz_Z g mX7_rivals (jq_ie (v_X7_rivals s w) s) 0 [some (jr (0)), some (ji (w)), none, none, none, none, none, none, none, none, none, none] [] s
  obtain ⟨hN, hH, hP1, hP2, hT, hRw⟩ := hI
  refine jj_aload_n dX7_rivals_0 rfl ?_
  refine zz_getR dX7_rivals_1 kf_X7_39 tt0 rfl ?_
  refine zz_cVi (av := []) (st' := []) dX7_rivals_4 kn_X7_139 kmX5_isThere tt344 rfl rfl rfl (Nat.le_of_ble_eq_true rfl) (by decide) rfl (c_X5_isThere g s 344 tt344) (fun hr4 ho4 => ?_)
  refine jj_if_ne (tgt := 13) dX7_rivals_7 (by decide) (fun h7 => ?_) (fun h7 => ?_)
  · have hg7 := by_t h7
    refine jj_iload_n dX7_rivals_13 rfl ?_
    refine jj_iconst dX7_rivals_14 (kk := ?_)
    refine jj_iconst dX7_rivals_15 (kk := ?_)
    refine zz_cSi (av := [ji (w), ji (0), ji (1)]) (st' := []) dX7_rivals_16 kn_X7_57 kmX7_isWithin rfl rfl (Nat.le_of_ble_eq_true rfl) (by decide) rfl (c_X7_isWithin g s w 0 1) (fun hr16 ho16 => ?_)
    refine jj_if_ne (tgt := 25) dX7_rivals_19 (by decide) (fun h19 => ?_) (fun h19 => ?_)
    · have hg19 := bz_t h19
      refine jj_iconst dX7_rivals_25 (kk := ?_)
      refine jj_istore_n (ls' := [some (jr (0)), some (ji (w)), some (ji (0)), none, none, none, none, none, none, none, none, none]) dX7_rivals_26 (by decide) rfl rfl ?_
      refine jj_ldc dX7_rivals_27 kk_X7_202 (kk := ?_)
      refine jj_istore_n (ls' := [some (jr (0)), some (ji (w)), some (ji (0)), some (ji (-1000000)), none, none, none, none, none, none, none, none]) dX7_rivals_29 (by decide) rfl rfl ?_
      refine jj_aload_n dX7_rivals_30 rfl ?_
      refine zz_getR dX7_rivals_31 kf_X7_39 tt0 rfl ?_
      refine zz_getR dX7_rivals_34 kf_X7_255 tt344 rfl ?_
      refine jj_astore (ls' := [some (jr (0)), some (ji (w)), some (ji (0)), some (ji (-1000000)), some (jr (344 + 1)), none, none, none, none, none, none, none]) dX7_rivals_37 (by decide) rfl rfl ?_
      refine jj_aload dX7_rivals_39 rfl ?_
      refine zz_alen (z := 7) dX7_rivals_41 (jz_t_sqL tt344) (by decide) rfl (by decide) ?_
      refine jj_istore (ls' := [some (jr (0)), some (ji (w)), some (ji (0)), some (ji (-1000000)), some (jr (344 + 1)), some (ji (7)), none, none, none, none, none, none]) dX7_rivals_42 (by decide) rfl rfl ?_
      refine jj_iconst dX7_rivals_44 (kk := ?_)
      refine jj_istore (ls' := [some (jr (0)), some (ji (w)), some (ji (0)), some (ji (-1000000)), some (jr (344 + 1)), some (ji (7)), some (ji (0)), none, none, none, none, none]) dX7_rivals_45 (by decide) rfl rfl ?_
      have L47 : ∀ (nn : Nat) (i : Nat) (x y : Int) (hh47_0 : i ≤ 7) (hh47_1 : x = (fRvO s i).1) (hh47_2 : y = (fRvO s i).2), 7 - i < nn → jz_Z g mX7_rivals (jq_ie (v_X7_rivals s w) s) 47 [some (jr (0)), some (ji (w)), some (ji (x)), some (ji (y)), some (jr (344 + 1)), some (ji (7)), some (ji ((i : Int))), none, none, none, none, none] [] s := by
        intro nn
        induction nn with
        | zero => intro i x y hh47_0 hh47_1 hh47_2 hmz; exact absurd hmz (Nat.not_lt_zero _)
        | succ nn ih47 =>
          intro i x y hh47_0 hh47_1 hh47_2 hm47
          have hr0 := fRvO_r s i
          refine jj_iload dX7_rivals_47 rfl ?_
          refine jj_iload dX7_rivals_49 rfl ?_
          refine jj_icmp_ge (tgt := 157) dX7_rivals_51 (by decide) (fun h51 => ?_) (fun h51 => ?_)
          · refine jj_iload_n dX7_rivals_157 rfl ?_
            refine jj_if_ne (tgt := 165) dX7_rivals_158 (by decide) (fun h158 => ?_) (fun h158 => ?_)
            · refine jj_iload_n dX7_rivals_165 rfl ?_
              refine zz_retie dX7_rivals_166 rfl (by decide) ?_ ?_
              · unfold v_X7_rivals; rw [if_neg (by omega), if_pos (by omega), show 7 = i by omega, ← hh47_1, ← hh47_2]; first | (rw [if_pos (by omega)]; done) | (rw [if_neg (by omega)]; done)
              · rfl
            · refine jj_iload_n dX7_rivals_161 rfl ?_
              refine jj_goto (tgt := 166) dX7_rivals_162 (by decide) ?_
              refine zz_retie dX7_rivals_166 rfl (by decide) ?_ ?_
              · unfold v_X7_rivals; rw [if_neg (by omega), if_pos (by omega), show 7 = i by omega, ← hh47_1, ← hh47_2]; first | (rw [if_pos (by omega)]; done) | (rw [if_neg (by omega)]; done)
              · rfl
          · refine jj_aload dX7_rivals_54 rfl ?_
            refine jj_iload dX7_rivals_56 rfl ?_
            refine zz_leafld (k := 344) (j := i) dX7_rivals_58 tt344 (by omega) (by omega) ?_
            refine jj_astore (ls' := [some (jr (0)), some (ji (w)), some (ji (x)), some (ji (y)), some (jr (344 + 1)), some (ji (7)), some (ji ((i : Int))), some (jr (344 + 3 + i)), none, none, none, none]) dX7_rivals_59 (by decide) rfl rfl ?_
            refine jj_aload_n dX7_rivals_61 rfl ?_
            refine zz_getR dX7_rivals_62 kf_X7_39 tt0 rfl ?_
            refine zz_getR dX7_rivals_65 kf_X7_255 tt344 rfl ?_
            refine jj_astore (ls' := [some (jr (0)), some (ji (w)), some (ji (x)), some (ji (y)), some (jr (344 + 1)), some (ji (7)), some (ji ((i : Int))), some (jr (344 + 3 + i)), some (jr (344 + 1)), none, none, none]) dX7_rivals_68 (by decide) rfl rfl ?_
            refine jj_aload dX7_rivals_70 rfl ?_
            refine zz_alen (z := 7) dX7_rivals_72 (jz_t_sqL tt344) (by decide) rfl (by decide) ?_
            refine jj_istore (ls' := [some (jr (0)), some (ji (w)), some (ji (x)), some (ji (y)), some (jr (344 + 1)), some (ji (7)), some (ji ((i : Int))), some (jr (344 + 3 + i)), some (jr (344 + 1)), some (ji (7)), none, none]) dX7_rivals_73 (by decide) rfl rfl ?_
            refine jj_iconst dX7_rivals_75 (kk := ?_)
            refine jj_istore (ls' := [some (jr (0)), some (ji (w)), some (ji (x)), some (ji (y)), some (jr (344 + 1)), some (ji (7)), some (ji ((i : Int))), some (jr (344 + 3 + i)), some (jr (344 + 1)), some (ji (7)), some (ji (0)), none]) dX7_rivals_76 (by decide) rfl rfl ?_
            have L78 : ∀ (nn : Nat) (j : Nat) (x2 y2 : Int) (hh78_0 : j ≤ 7) (hh78_1 : x2 = (fRvI s i (fRvO s i) j).1) (hh78_2 : y2 = (fRvI s i (fRvO s i) j).2), 7 - j < nn → jz_Z g mX7_rivals (jq_ie (v_X7_rivals s w) s) 78 [some (jr (0)), some (ji (w)), some (ji (x2)), some (ji (y2)), some (jr (344 + 1)), some (ji (7)), some (ji ((i : Int))), some (jr (344 + 3 + i)), some (jr (344 + 1)), some (ji (7)), some (ji ((j : Int))), none] [] s := by
              intro nn
              induction nn with
              | zero => intro j x2 y2 hh78_0 hh78_1 hh78_2 hmz; exact absurd hmz (Nat.not_lt_zero _)
              | succ nn ih78 =>
                intro j x2 y2 hh78_0 hh78_1 hh78_2 hm78
                have hr1 := fRvI_r s i (fRvO s i) j
                refine jj_iload dX7_rivals_78 rfl ?_
                refine jj_iload dX7_rivals_80 rfl ?_
                refine jj_icmp_ge (tgt := 151) dX7_rivals_82 (by decide) (fun h82 => ?_) (fun h82 => ?_)
                · refine jj_iinc (ls' := [some (jr (0)), some (ji (w)), some (ji (x2)), some (ji (y2)), some (jr (344 + 1)), some (ji (7)), some (ji ((i : Int) + 1)), some (jr (344 + 3 + i)), some (jr (344 + 1)), some (ji (7)), some (ji ((j : Int))), none]) dX7_rivals_151 rfl (by decide) rfl (by omega) rfl ?_
                  refine jj_goto (tgt := 47) dX7_rivals_154 (by decide) ?_
                  refine jj_fgt (i := 7) (ls' := [some (jr (0)), some (ji (w)), some (ji (x2)), some (ji (y2)), some (jr (344 + 1)), some (ji (7)), some (ji ((i : Int) + 1)), none, some (jr (344 + 1)), some (ji (7)), some (ji ((j : Int))), none]) rfl ?_
                  refine jj_fgt (i := 8) (ls' := [some (jr (0)), some (ji (w)), some (ji (x2)), some (ji (y2)), some (jr (344 + 1)), some (ji (7)), some (ji ((i : Int) + 1)), none, none, some (ji (7)), some (ji ((j : Int))), none]) rfl ?_
                  refine jj_fgt (i := 9) (ls' := [some (jr (0)), some (ji (w)), some (ji (x2)), some (ji (y2)), some (jr (344 + 1)), some (ji (7)), some (ji ((i : Int) + 1)), none, none, none, some (ji ((j : Int))), none]) rfl ?_
                  refine jj_fgt (i := 10) (ls' := [some (jr (0)), some (ji (w)), some (ji (x2)), some (ji (y2)), some (jr (344 + 1)), some (ji (7)), some (ji ((i : Int) + 1)), none, none, none, none, none]) rfl ?_
                  exact ih47 (i + 1) x2 y2 (by omega) (by rw [hh78_1, show j = 7 by omega]; rfl) (by rw [hh78_2, show j = 7 by omega]; rfl) (by omega)
                · have L145 : ∀ (x3 y3 : Int) (hh145_0 : x3 = (fRvI s i (fRvO s i) (j + 1)).1) (hh145_1 : y3 = (fRvI s i (fRvO s i) (j + 1)).2), jz_Z g mX7_rivals (jq_ie (v_X7_rivals s w) s) 145 [some (jr (0)), some (ji (w)), some (ji (x3)), some (ji (y3)), some (jr (344 + 1)), some (ji (7)), some (ji ((i : Int))), some (jr (344 + 3 + i)), some (jr (344 + 1)), some (ji (7)), some (ji ((j : Int))), none] [] s := by
                    intro x3 y3 hh145_0 hh145_1
                    refine jj_iinc (ls' := [some (jr (0)), some (ji (w)), some (ji (x3)), some (ji (y3)), some (jr (344 + 1)), some (ji (7)), some (ji ((i : Int))), some (jr (344 + 3 + i)), some (jr (344 + 1)), some (ji (7)), some (ji ((j : Int) + 1)), none]) dX7_rivals_145 rfl (by decide) rfl (by omega) rfl ?_
                    refine jj_goto (tgt := 78) dX7_rivals_148 (by decide) ?_
                    exact ih78 (j + 1) x3 y3 (by omega) (by exact hh145_0) (by exact hh145_1) (by omega)
                  refine jj_aload dX7_rivals_85 rfl ?_
                  refine jj_iload dX7_rivals_87 rfl ?_
                  refine zz_leafld (k := 344) (j := j) dX7_rivals_89 tt344 (by omega) (by omega) ?_
                  refine jj_astore (ls' := [some (jr (0)), some (ji (w)), some (ji (x2)), some (ji (y2)), some (jr (344 + 1)), some (ji (7)), some (ji ((i : Int))), some (jr (344 + 3 + i)), some (jr (344 + 1)), some (ji (7)), some (ji ((j : Int))), some (jr (344 + 3 + j))]) dX7_rivals_90 (by decide) rfl rfl ?_
                  refine jj_aload dX7_rivals_92 rfl ?_
                  refine zz_getN (z := ((i : Nat) : Int)) dX7_rivals_94 kf_X7_203 (jz_t_leaf tt344 (by omega)) rfl rfl (jz_nm_leaf tt344 (by omega)) ?_
                  refine jj_aload dX7_rivals_97 rfl ?_
                  refine zz_getN (z := ((j : Nat) : Int)) dX7_rivals_99 kf_X7_203 (jz_t_leaf tt344 (by omega)) rfl rfl (jz_nm_leaf tt344 (by omega)) ?_
                  refine jj_icmp_ge (tgt := 145) dX7_rivals_102 (by decide) (fun h102 => ?_) (fun h102 => ?_)
                  · refine jj_fgt (i := 11) (ls' := [some (jr (0)), some (ji (w)), some (ji (x2)), some (ji (y2)), some (jr (344 + 1)), some (ji (7)), some (ji ((i : Int))), some (jr (344 + 3 + i)), some (jr (344 + 1)), some (ji (7)), some (ji ((j : Int))), none]) rfl ?_
                    exact L145 x2 y2 (by simp only [fRvI]; first | (rw [if_pos ⟨by omega, hg116⟩, hh78_1]; done) | (rw [if_neg (fun q => by have := q.1; omega)]; exact hh78_1) | (rw [if_neg (fun q => hg116 q.2)]; exact hh78_1)) (by simp only [fRvI]; first | (rw [if_pos ⟨by omega, hg116⟩, hh141_0]; done) | (rw [if_neg (fun q => by have := q.1; omega)]; exact hh78_2) | (rw [if_neg (fun q => hg116 q.2)]; exact hh78_2))
                  · refine jj_aload_n dX7_rivals_105 rfl ?_
                    refine zz_getR dX7_rivals_106 kf_X7_39 tt0 rfl ?_
                    refine jj_aload dX7_rivals_109 rfl ?_
                    refine jj_aload dX7_rivals_111 rfl ?_
                    refine zz_cVi (av := [jr (344 + 3 + i), jr (344 + 3 + j)]) (st' := []) dX7_rivals_113 kn_X7_259 kmX5_likesAlike tt344 rfl rfl rfl (Nat.le_of_ble_eq_true rfl) (by decide) rfl (c_X5_likesAlike g s 344 tt344 (344 + 3 + i) (344 + 3 + j) (jz_t_leaf tt344 (by omega)) (jz_t_leaf tt344 (by omega)) (fun h => by have := (hN.2.2.2.2.2.2.1 i (by omega)).2 h; have := hN.2.2.2.1; omega) (fun h => by have := (hN.2.2.2.2.2.2.1 j (by omega)).2 h; have := hN.2.2.2.1; omega) hN.2.2.2.2.1.1) (fun hr113 ho113 => ?_)
                    refine jj_if_eq (tgt := 145) dX7_rivals_116 (by decide) (fun h116 => ?_) (fun h116 => ?_)
                    · have hg116 := bz_f h116
                      refine jj_fgt (i := 11) (ls' := [some (jr (0)), some (ji (w)), some (ji (x2)), some (ji (y2)), some (jr (344 + 1)), some (ji (7)), some (ji ((i : Int))), some (jr (344 + 3 + i)), some (jr (344 + 1)), some (ji (7)), some (ji ((j : Int))), none]) rfl ?_
                      exact L145 x2 y2 (by simp only [fRvI]; first | (rw [if_pos ⟨by omega, hg116⟩, hh78_1]; done) | (rw [if_neg (fun q => by have := q.1; omega)]; exact hh78_1) | (rw [if_neg (fun q => hg116 q.2)]; exact hh78_1)) (by simp only [fRvI]; first | (rw [if_pos ⟨by omega, hg116⟩, hh141_0]; done) | (rw [if_neg (fun q => by have := q.1; omega)]; exact hh78_2) | (rw [if_neg (fun q => hg116 q.2)]; exact hh78_2))
                    · have hg116 := bz_t h116
                      have L141 : ∀ (z : Int) (hh141_0 : z = if (fRvI s i (fRvO s i) j).1 = 0 then 10 * (i : Int) + j else (fRvI s i (fRvO s i) j).2), jz_Z g mX7_rivals (jq_ie (v_X7_rivals s w) s) 141 [some (jr (0)), some (ji (w)), some (ji (x2)), some (ji (y2)), some (jr (344 + 1)), some (ji (7)), some (ji ((i : Int))), some (jr (344 + 3 + i)), some (jr (344 + 1)), some (ji (7)), some (ji ((j : Int))), some (jr (344 + 3 + j))] [ji (z)] s := by
                        intro z hh141_0
                        refine jj_istore_n (ls' := [some (jr (0)), some (ji (w)), some (ji (x2)), some (ji (z)), some (jr (344 + 1)), some (ji (7)), some (ji ((i : Int))), some (jr (344 + 3 + i)), some (jr (344 + 1)), some (ji (7)), some (ji ((j : Int))), some (jr (344 + 3 + j))]) dX7_rivals_141 (by decide) rfl rfl ?_
                        refine jj_iinc (ls' := [some (jr (0)), some (ji (w)), some (ji (x2 + 1)), some (ji (z)), some (jr (344 + 1)), some (ji (7)), some (ji ((i : Int))), some (jr (344 + 3 + i)), some (jr (344 + 1)), some (ji (7)), some (ji ((j : Int))), some (jr (344 + 3 + j))]) dX7_rivals_142 rfl (by decide) rfl (by omega) rfl ?_
                        refine jj_fgt (i := 11) (ls' := [some (jr (0)), some (ji (w)), some (ji (x2 + 1)), some (ji (z)), some (jr (344 + 1)), some (ji (7)), some (ji ((i : Int))), some (jr (344 + 3 + i)), some (jr (344 + 1)), some (ji (7)), some (ji ((j : Int))), none]) rfl ?_
                        exact L145 (x2 + 1) z (by simp only [fRvI]; first | (rw [if_pos ⟨by omega, hg116⟩, hh78_1]; done) | (rw [if_neg (fun q => by have := q.1; omega)]; exact hh78_1) | (rw [if_neg (fun q => hg116 q.2)]; exact hh78_1)) (by simp only [fRvI]; first | (rw [if_pos ⟨by omega, hg116⟩, hh141_0]; done) | (rw [if_neg (fun q => by have := q.1; omega)]; exact hh78_2) | (rw [if_neg (fun q => hg116 q.2)]; exact hh78_2))
                      refine jj_iload_n dX7_rivals_119 rfl ?_
                      refine jj_if_ne (tgt := 140) dX7_rivals_120 (by decide) (fun h120 => ?_) (fun h120 => ?_)
                      · refine jj_iload_n dX7_rivals_140 rfl ?_
                        exact L141 y2 (by first | (rw [if_pos (by omega)]; done) | (rw [if_neg (by omega)]; exact hh78_2))
                      · refine jj_bipush dX7_rivals_123 (kk := ?_)
                        refine jj_aload dX7_rivals_125 rfl ?_
                        refine zz_getN (z := ((i : Nat) : Int)) dX7_rivals_127 kf_X7_203 (jz_t_leaf tt344 (by omega)) rfl rfl (jz_nm_leaf tt344 (by omega)) ?_
                        refine jj_imul dX7_rivals_130 (by omega) ?_
                        refine jj_aload dX7_rivals_131 rfl ?_
                        refine zz_getN (z := ((j : Nat) : Int)) dX7_rivals_133 kf_X7_203 (jz_t_leaf tt344 (by omega)) rfl rfl (jz_nm_leaf tt344 (by omega)) ?_
                        refine jj_iadd dX7_rivals_136 (by omega) ?_
                        refine jj_goto (tgt := 141) dX7_rivals_137 (by decide) ?_
                        exact L141 ((10 * ((i : Nat) : Int)) + ((j : Nat) : Int)) (by first | (rw [if_pos (by omega)]; done) | (rw [if_neg (by omega)]; exact hh78_2))
            exact L78 _ 0 x y (by omega) (by exact hh47_1) (by exact hh47_2) (Nat.lt_succ_self _)
      exact L47 _ 0 0 (-1000000) (by omega) (by rfl) (by rfl) (Nat.lt_succ_self _)
    · have hg19 := bz_f h19
      refine jj_ldc dX7_rivals_22 kk_X7_61 (kk := ?_)
      refine zz_retie dX7_rivals_24 rfl (by decide) ?_ ?_
      · unfold v_X7_rivals; (repeat (first | rw [if_pos (by omega)] | rw [if_neg (by omega)])) <;> first | rfl | done
      · rfl
  · have hg7 := by_f h7
    refine jj_ldc dX7_rivals_10 kk_X7_138 (kk := ?_)
    refine zz_retie dX7_rivals_12 rfl (by decide) ?_ ?_
    · unfold v_X7_rivals; (repeat (first | rw [if_pos (by omega)] | rw [if_neg (by omega)])) <;> first | rfl | done
    · rfl

theorem tea_rng {s : jz_St} {k : Nat} {b bits : Int} (h : jRng s k b) : ∀ j, j ≤ 7 → jRng (f_X5_tea s k bits j) k b := by
  intro j
  induction j with
  | zero => intro _; exact h
  | succ j ih =>
    intro hj
    simp only [f_X5_tea]
    have h0 := ih (by omega)
    split
    · exact h0
    · obtain ⟨h1, h2, h3, h4, h5, h6, h7, h8⟩ := h0
      have e : ∀ (i : Nat) (z : Int), jz_su (f_X5_tea s k bits j) (k + 3 + j) 5 z k i = f_X5_tea s k bits j k i := fun i z => jz_su_n (Or.inl (by omega))
      unfold jRng
      simp only [e]
      refine ⟨h1, h2, h3, h4, h5, h6, fun i hi => ?_, fun i hi => ?_⟩
      · rw [jz_su_f (show 4 ≠ 5 by decide)]
        by_cases ej : i = j
        · subst ej
          rw [jz_su_s]
          have := h7 i hi
          rw [Int.tdiv_eq_ediv_of_nonneg this.1.1]
          omega
        · rw [jz_su_o (by omega)]; exact h7 i hi
      · rw [jz_su_o (by omega)]; exact h8 i hi
set_option maxRecDepth 100000 in
set_option maxHeartbeats 4000000 in
theorem c_X7_standingInWind (g : jz_G) (s : jz_St) (c : Int) (hH : s 344 6 ≤ 999) (hN : jRng s 344 (9 * s 344 6))  : jz_C g mX7_standingInWind [jr (0), ji (c)] s (jq_ie (fWiV s c) (fWiC s c)) := by
  refine zz_C_of koX7_standingInWind rfl (Nat.le_of_ble_eq_true rfl) ?_
  refine zz_pad 0 ?_
  show jz_Z g mX7_standingInWind (jq_ie (fWiV s c) (fWiC s c)) 0 [some (jr (0)), some (ji (c))] [] s
  have hTR := take_rng (s := s) (k := 358) (by decide) hN
  have hR2 := tea_rng (bits := c) hTR 7 (by omega)
  refine jj_aload_n dX7_standingInWind_0 rfl ?_
  refine zz_getR dX7_standingInWind_1 kf_X7_43 tt0 rfl ?_
  refine jj_aload_n dX7_standingInWind_4 rfl ?_
  refine zz_getR dX7_standingInWind_5 kf_X7_39 tt0 rfl ?_
  refine zz_cVv (av := [jr (344)]) (st' := []) dX7_standingInWind_8 kn_X7_122 kmX5_take tt358 rfl rfl rfl (Nat.le_of_ble_eq_true rfl) (by decide) rfl (c_X5_take g s 358 344 tt358 tt344) (fun ho8 => ?_)
  refine jj_aload_n dX7_standingInWind_11 rfl ?_
  refine zz_getR dX7_standingInWind_12 kf_X7_43 tt0 rfl ?_
  refine jj_iload_n dX7_standingInWind_15 rfl ?_
  refine zz_cVv (av := [ji (c)]) (st' := []) dX7_standingInWind_16 kn_X7_323 kmX5_tear tt358 rfl rfl rfl (Nat.le_of_ble_eq_true rfl) (by decide) rfl (c_X5_tear g (f_X5_take s 358 344) 358 tt358 c (jRng_if hTR)) (fun ho16 => ?_)
  refine jj_aload_n dX7_standingInWind_19 rfl ?_
  refine zz_getR dX7_standingInWind_20 kf_X7_43 tt0 rfl ?_
  refine zz_cVi (av := []) (st' := []) dX7_standingInWind_23 kn_X7_149 kmX5_passHour tt358 rfl rfl rfl (Nat.le_of_ble_eq_true rfl) (by decide) rfl (c_X5_passHour g (f_X5_tea (f_X5_take s 358 344) 358 c 7) 358 tt358 (s 344 6) (by omega) hR2) (fun hr23 ho23 => ?_)
  refine jj_pop dX7_standingInWind_26 (kk := ?_)
  refine jj_aload_n dX7_standingInWind_27 rfl ?_
  refine zz_getR dX7_standingInWind_28 kf_X7_43 tt0 rfl ?_
  refine zz_cVi (av := []) (st' := []) dX7_standingInWind_31 kn_X7_214 kmX5_inForce tt358 rfl rfl rfl (Nat.le_of_ble_eq_true rfl) (by decide) rfl (c_X5_inForce g (f_X5_passHour (f_X5_tea (f_X5_take s 358 344) 358 c 7) 358) 358 tt358 (jRng_if (passHour_rng hR2))) (fun hr31 ho31 => ?_)
  refine zz_cSi (av := [ji (fIF (f_X5_passHour (f_X5_tea (f_X5_take s 358 344) 358 c 7) 358) 358 7)]) (st' := []) dX7_standingInWind_34 kn_X7_233 kmJ6_bitCount_0f7a4 rfl rfl (Nat.le_of_ble_eq_true rfl) (by decide) rfl (c_bitc g (f_X5_passHour (f_X5_tea (f_X5_take s 358 344) 358 c 7) 358) (fIF (f_X5_passHour (f_X5_tea (f_X5_take s 358 344) 358 c 7) 358) 358 7) (fIF_r _ _)) (fun hr34 ho34 => ?_)
  refine zz_retie dX7_standingInWind_37 rfl (by decide) ?_ ?_
  · rfl
  · rfl

theorem fGC_r : ∀ (m : Nat) (a b : Int), 0 ≤ a → 0 ≤ b → 0 ≤ fGC m a b := by
  intro m
  induction m with
  | zero => intro a b h _; exact h
  | succ m ih =>
    intro a b ha hb
    simp only [fGC]
    split
    · exact ha
    · exact ih _ _ hb (by rw [Int.tmod_eq_emod_of_nonneg ha]; exact Int.emod_nonneg _ ‹_›)
theorem jc_le {a b : Int} : jcmp a b ≤ 0 ↔ a ≤ b := by
  unfold jcmp
  split
  · omega
  · split <;> omega
def v_X7_wind (s : jz_St) (k p w : Int) : Int := if s 344 2 ≤ 0 then -1000002 else if (0 ≤ k ∧ k ≤ 7) ∧ (0 ≤ p ∧ p ≤ 10) ∧ 0 ≤ w ∧ w ≤ 1 then (if 1 < (fGC 100 (fWi s (fNV s 344 7) k p ((fNV s 344 7).toNat + 1)) (fPow 10 (fBC (fNV s 344 7).toNat).toNat)) then Int.tdiv (if w = 0 then (fWi s (fNV s 344 7) k p ((fNV s 344 7).toNat + 1)) else (fPow 10 (fBC (fNV s 344 7).toNat).toNat)) (fGC 100 (fWi s (fNV s 344 7) k p ((fNV s 344 7).toNat + 1)) (fPow 10 (fBC (fNV s 344 7).toNat).toNat)) else (if w = 0 then (fWi s (fNV s 344 7) k p ((fNV s 344 7).toNat + 1)) else (fPow 10 (fBC (fNV s 344 7).toNat).toNat))) else -1000001
def f_X7_wind (s : jz_St) (k p w : Int) : jz_St := if s 344 2 ≤ 0 then s else if (0 ≤ k ∧ k ≤ 7) ∧ (0 ≤ p ∧ p ≤ 10) ∧ 0 ≤ w ∧ w ≤ 1 then fWiS s (fNV s 344 7) ((fNV s 344 7).toNat + 1) else s
set_option maxRecDepth 100000 in
set_option maxHeartbeats 4000000 in
theorem c_X7_wind (g : jz_G) (s : jz_St) (k p w : Int) (hI : jInv s)  : jz_C g mX7_wind [jr (0), ji (k), ji (p), ji (w)] s (jq_le (v_X7_wind s k p w) (f_X7_wind s k p w)) := by
  refine zz_C_of koX7_wind rfl (Nat.le_of_ble_eq_true rfl) ?_
  refine zz_pad 10 ?_
  show jz_Z g mX7_wind (jq_le (v_X7_wind s k p w) (f_X7_wind s k p w)) 0 [some (jr (0)), some (ji (k)), some (ji (p)), some (ji (w)), none, none, none, none, none, none, none, none, none, none] [] s
  obtain ⟨hN, hH, hP1, hP2, hT, hRw⟩ := hI
  have hal := fNV_r s 344
  have hbal := fBC_r _ hal
  have hbe := fPow_7 (b := 10) (by decide) (n := (fBC (fNV s 344 7).toNat).toNat) (by omega)
  refine jj_aload_n dX7_wind_0 rfl ?_
  refine zz_getR dX7_wind_1 kf_X7_39 tt0 rfl ?_
  refine zz_cVi (av := []) (st' := []) dX7_wind_4 kn_X7_139 kmX5_isThere tt344 rfl rfl rfl (Nat.le_of_ble_eq_true rfl) (by decide) rfl (c_X5_isThere g s 344 tt344) (fun hr4 ho4 => ?_)
  refine jj_if_ne (tgt := 14) dX7_wind_7 (by decide) (fun h7 => ?_) (fun h7 => ?_)
  · have hg7 := by_t h7
    refine jj_iload_n dX7_wind_14 rfl ?_
    refine jj_iconst dX7_wind_15 (kk := ?_)
    refine jj_bipush dX7_wind_16 (kk := ?_)
    refine zz_cSi (av := [ji (k), ji (0), ji (7)]) (st' := []) dX7_wind_18 kn_X7_57 kmX7_isWithin rfl rfl (Nat.le_of_ble_eq_true rfl) (by decide) rfl (c_X7_isWithin g s k 0 7) (fun hr18 ho18 => ?_)
    refine jj_if_eq (tgt := 43) dX7_wind_21 (by decide) (fun h21 => ?_) (fun h21 => ?_)
    · have hg21 := bz_f h21
      refine jj_ldc2 dX7_wind_43 kk_X7_265 (kk := ?_)
      refine zz_retle dX7_wind_46 rfl (by decide) ?_ ?_
      · unfold v_X7_wind; (repeat (first | rw [if_pos (by omega)] | rw [if_neg (by omega)])) <;> first | rfl | done
      · unfold f_X7_wind; (repeat (first | rw [if_pos (by omega)] | rw [if_neg (by omega)])) <;> first | rfl | done
    · have hg21 := bz_t h21
      refine jj_iload_n dX7_wind_24 rfl ?_
      refine jj_iconst dX7_wind_25 (kk := ?_)
      refine jj_bipush dX7_wind_26 (kk := ?_)
      refine zz_cSi (av := [ji (p), ji (0), ji (10)]) (st' := []) dX7_wind_28 kn_X7_57 kmX7_isWithin rfl rfl (Nat.le_of_ble_eq_true rfl) (by decide) rfl (c_X7_isWithin g s p 0 10) (fun hr28 ho28 => ?_)
      refine jj_if_eq (tgt := 43) dX7_wind_31 (by decide) (fun h31 => ?_) (fun h31 => ?_)
      · have hg31 := bz_f h31
        refine jj_ldc2 dX7_wind_43 kk_X7_265 (kk := ?_)
        refine zz_retle dX7_wind_46 rfl (by decide) ?_ ?_
        · unfold v_X7_wind; (repeat (first | rw [if_pos (by omega)] | rw [if_neg (by omega)])) <;> first | rfl | done
        · unfold f_X7_wind; (repeat (first | rw [if_pos (by omega)] | rw [if_neg (by omega)])) <;> first | rfl | done
      · have hg31 := bz_t h31
        refine jj_iload_n dX7_wind_34 rfl ?_
        refine jj_iconst dX7_wind_35 (kk := ?_)
        refine jj_iconst dX7_wind_36 (kk := ?_)
        refine zz_cSi (av := [ji (w), ji (0), ji (1)]) (st' := []) dX7_wind_37 kn_X7_57 kmX7_isWithin rfl rfl (Nat.le_of_ble_eq_true rfl) (by decide) rfl (c_X7_isWithin g s w 0 1) (fun hr37 ho37 => ?_)
        refine jj_if_ne (tgt := 47) dX7_wind_40 (by decide) (fun h40 => ?_) (fun h40 => ?_)
        · have hg40 := bz_t h40
          refine jj_aload_n dX7_wind_47 rfl ?_
          refine zz_getR dX7_wind_48 kf_X7_39 tt0 rfl ?_
          refine zz_cVi (av := []) (st' := []) dX7_wind_51 kn_X7_226 kmX5_notVoid tt344 rfl rfl rfl (Nat.le_of_ble_eq_true rfl) (by decide) rfl (c_X5_notVoid g s 344 tt344) (fun hr51 ho51 => ?_)
          refine jj_istore (ls' := [some (jr (0)), some (ji (k)), some (ji (p)), some (ji (w)), some (ji (fNV s 344 7)), none, none, none, none, none, none, none, none, none]) dX7_wind_54 (by decide) rfl rfl ?_
          refine jj_iload dX7_wind_56 rfl ?_
          refine zz_cSi (av := [ji (fNV s 344 7)]) (st' := []) dX7_wind_58 kn_X7_233 kmJ6_bitCount_0f7a4 rfl rfl (Nat.le_of_ble_eq_true rfl) (by decide) rfl (c_bitc g s (fNV s 344 7) hal) (fun hr58 ho58 => ?_)
          refine jj_istore (ls' := [some (jr (0)), some (ji (k)), some (ji (p)), some (ji (w)), some (ji (fNV s 344 7)), some (ji (fBC (fNV s 344 7).toNat)), none, none, none, none, none, none, none, none]) dX7_wind_61 (by decide) rfl rfl ?_
          refine jj_lconst (z := 0) dX7_wind_63 (kk := ?_)
          refine jj_lstore (ls' := [some (jr (0)), some (ji (k)), some (ji (p)), some (ji (w)), some (ji (fNV s 344 7)), some (ji (fBC (fNV s 344 7).toNat)), some (jl (0)), none, none, none, none, none, none, none]) dX7_wind_64 (by decide) rfl rfl ?_
          refine jj_iconst dX7_wind_66 (kk := ?_)
          refine jj_istore (ls' := [some (jr (0)), some (ji (k)), some (ji (p)), some (ji (w)), some (ji (fNV s 344 7)), some (ji (fBC (fNV s 344 7).toNat)), some (jl (0)), none, some (ji (0)), none, none, none, none, none]) dX7_wind_67 (by decide) rfl rfl ?_
          have L69 : ∀ (nn : Nat) (c : Nat) (ab : Int) (s' : jz_St) (hh69_0 : c ≤ (fNV s 344 7).toNat + 1) (hh69_1 : ab = fWi s (fNV s 344 7) k p c) (hh69_2 : s' = fWiS s (fNV s 344 7) c), (fNV s 344 7).toNat + 1 - c < nn → jz_Z g mX7_wind (jq_le (v_X7_wind s k p w) (f_X7_wind s k p w)) 69 [some (jr (0)), some (ji (k)), some (ji (p)), some (ji (w)), some (ji ((fNV s 344 7))), some (ji (fBC (fNV s 344 7).toNat)), some (jl (ab)), none, some (ji ((c : Int))), none, none, none, none, none] [] s' := by
            intro nn
            induction nn with
            | zero => intro c ab s' hh69_0 hh69_1 hh69_2 hmz; exact absurd hmz (Nat.not_lt_zero _)
            | succ nn ih69 =>
              intro c ab s' hh69_0 hh69_1 hh69_2 hm69
              have hoff : ∀ x, jOff 358 x → s' x = s x := fun x hx => by rw [hh69_2]; exact fWiS_off hx c
              have hS' : jRng s' 344 (9 * s 344 6) := jRng_off hN (fun x _ _ => hoff x (by unfold jOff; omega))
              have h6' : s' 344 6 = s 344 6 := by rw [hoff 344 (by unfold jOff; omega)]
              have hT' := take_rng (s := s') (k := 358) (by decide) hS'
              have hp2 : 0 ≤ p ∧ p ≤ 10 := by omega
              have hw := fWi_r (s := s) (k := k) hp2 hal c (by omega)
              have hc7 : c ≤ (fNV s 344 7).toNat → 0 ≤ fBC c ∧ fBC c ≤ 7 := fun hc => fBC_rng c (by omega)
              have hT7 : c ≤ (fNV s 344 7).toNat → fWiT (fNV s 344 7) c → fBC c ≤ fBC (fNV s 344 7).toNat := fun hc ht => fWiT_bc _ (by omega) c hc (by rw [Int.toNat_of_nonneg hal.1]; exact ht)
              refine jj_iload dX7_wind_69 rfl ?_
              refine jj_iload dX7_wind_71 rfl ?_
              refine jj_icmp_gt (tgt := 133) dX7_wind_73 (by decide) (fun h73 => ?_) (fun h73 => ?_)
              · obtain rfl : c = (fNV s 344 7).toNat + 1 := by omega
                subst hh69_1
                subst hh69_2
                refine jj_bipush dX7_wind_133 (kk := ?_)
                refine jj_iload dX7_wind_135 rfl ?_
                refine zz_cSl (av := [ji (10), ji (fBC (fNV s 344 7).toNat)]) (st' := []) dX7_wind_137 kn_X7_270 kmX7_power rfl rfl (Nat.le_of_ble_eq_true rfl) (by decide) rfl (by have q := c_X7_power g (fWiS s (fNV s 344 7) ((fNV s 344 7).toNat + 1)) 10 (fBC (fNV s 344 7).toNat).toNat (by decide) (by omega); rw [Int.toNat_of_nonneg (by omega)] at q; exact q) (fun hr137 ho137 => ?_)
                refine jj_lstore (ls' := [some (jr (0)), some (ji (k)), some (ji (p)), some (ji (w)), some (ji ((fNV s 344 7))), some (ji (fBC (fNV s 344 7).toNat)), some (jl ((fWi s (fNV s 344 7) k p ((fNV s 344 7).toNat + 1)))), none, some (jl (fPow 10 (fBC (fNV s 344 7).toNat).toNat)), none, none, none, none, none]) dX7_wind_140 (by decide) rfl rfl ?_
                refine jj_lload dX7_wind_142 rfl ?_
                refine jj_lload dX7_wind_144 rfl ?_
                refine zz_cSl (av := [jl ((fWi s (fNV s 344 7) k p ((fNV s 344 7).toNat + 1))), jl (fPow 10 (fBC (fNV s 344 7).toNat).toNat)]) (st' := []) dX7_wind_146 kn_X7_274 kmX7_commonDivisor rfl rfl (Nat.le_of_ble_eq_true rfl) (by decide) rfl (c_X7_commonDivisor g (fWiS s (fNV s 344 7) ((fNV s 344 7).toNat + 1)) (fWi s (fNV s 344 7) k p ((fNV s 344 7).toNat + 1)) (fPow 10 (fBC (fNV s 344 7).toNat).toNat) (by omega) (by omega)) (fun hr146 ho146 => ?_)
                refine jj_lstore (ls' := [some (jr (0)), some (ji (k)), some (ji (p)), some (ji (w)), some (ji ((fNV s 344 7))), some (ji (fBC (fNV s 344 7).toNat)), some (jl ((fWi s (fNV s 344 7) k p ((fNV s 344 7).toNat + 1)))), none, some (jl (fPow 10 (fBC (fNV s 344 7).toNat).toNat)), none, some (jl (fGC 100 (fWi s (fNV s 344 7) k p ((fNV s 344 7).toNat + 1)) (fPow 10 (fBC (fNV s 344 7).toNat).toNat))), none, none, none]) dX7_wind_149 (by decide) rfl rfl ?_
                have L162 : ∀ (z : Int) (hh162_0 : z = if w = 0 then (fWi s (fNV s 344 7) k p ((fNV s 344 7).toNat + 1)) else (fPow 10 (fBC (fNV s 344 7).toNat).toNat)) (hh162_1 : 0 ≤ z ∧ z ≤ 100000000000000000), jz_Z g mX7_wind (jq_le (v_X7_wind s k p w) (f_X7_wind s k p w)) 162 [some (jr (0)), some (ji (k)), some (ji (p)), some (ji (w)), some (ji ((fNV s 344 7))), some (ji (fBC (fNV s 344 7).toNat)), some (jl ((fWi s (fNV s 344 7) k p ((fNV s 344 7).toNat + 1)))), none, some (jl (fPow 10 (fBC (fNV s 344 7).toNat).toNat)), none, some (jl (fGC 100 (fWi s (fNV s 344 7) k p ((fNV s 344 7).toNat + 1)) (fPow 10 (fBC (fNV s 344 7).toNat).toNat))), none, none, none] [jl (z)] (fWiS s (fNV s 344 7) ((fNV s 344 7).toNat + 1)) := by
                  intro z hh162_0 hh162_1
                  have hg0 := fGC_r 100 (fWi s (fNV s 344 7) k p ((fNV s 344 7).toNat + 1)) (fPow 10 (fBC (fNV s 344 7).toNat).toNat) (by omega) (by omega)
                  have hj := @jc_le (fGC 100 (fWi s (fNV s 344 7) k p ((fNV s 344 7).toNat + 1)) (fPow 10 (fBC (fNV s 344 7).toNat).toNat)) 1
                  refine jj_lstore (ls' := [some (jr (0)), some (ji (k)), some (ji (p)), some (ji (w)), some (ji ((fNV s 344 7))), some (ji (fBC (fNV s 344 7).toNat)), some (jl ((fWi s (fNV s 344 7) k p ((fNV s 344 7).toNat + 1)))), none, some (jl (fPow 10 (fBC (fNV s 344 7).toNat).toNat)), none, some (jl (fGC 100 (fWi s (fNV s 344 7) k p ((fNV s 344 7).toNat + 1)) (fPow 10 (fBC (fNV s 344 7).toNat).toNat))), none, some (jl (z)), none]) dX7_wind_162 (by decide) rfl rfl ?_
                  refine jj_lload dX7_wind_164 rfl ?_
                  refine jj_lconst (z := 1) dX7_wind_166 (kk := ?_)
                  refine jj_lcmp dX7_wind_167 ?_
                  refine jj_if_le (tgt := 179) dX7_wind_168 (by decide) (fun h168 => ?_) (fun h168 => ?_)
                  · refine jj_lload dX7_wind_179 rfl ?_
                    refine zz_retle dX7_wind_181 rfl (by decide) ?_ ?_
                    · unfold v_X7_wind; rw [if_neg (by omega), if_pos (by omega)]; first | (rw [if_pos (by omega), ← hh162_0]; done) | (rw [if_neg (by omega), ← hh162_0]; done)
                    · unfold f_X7_wind; rw [if_neg (by omega), if_pos (by omega)]
                  · refine jj_lload dX7_wind_171 rfl ?_
                    refine jj_lload dX7_wind_173 rfl ?_
                    refine jj_ldiv dX7_wind_175 (by omega) (by rw [Int.tdiv_eq_ediv_of_nonneg hh162_1.1]; have h2 := Int.ediv_le_self (fGC 100 (fWi s (fNV s 344 7) k p ((fNV s 344 7).toNat + 1)) (fPow 10 (fBC (fNV s 344 7).toNat).toNat)) hh162_1.1; have h3 := Int.ediv_nonneg hh162_1.1 hg0; omega) ?_
                    refine jj_goto (tgt := 181) dX7_wind_176 (by decide) ?_
                    refine zz_retle dX7_wind_181 rfl (by decide) ?_ ?_
                    · unfold v_X7_wind; rw [if_neg (by omega), if_pos (by omega)]; first | (rw [if_pos (by omega), ← hh162_0]; done) | (rw [if_neg (by omega), ← hh162_0]; done)
                    · unfold f_X7_wind; rw [if_neg (by omega), if_pos (by omega)]
                refine jj_iload_n dX7_wind_151 rfl ?_
                refine jj_if_ne (tgt := 160) dX7_wind_152 (by decide) (fun h152 => ?_) (fun h152 => ?_)
                · refine jj_lload dX7_wind_160 rfl ?_
                  exact L162 (fPow 10 (fBC (fNV s 344 7).toNat).toNat) (by first | (rw [if_pos (by omega)]; done) | (rw [if_neg (by omega)]; done)) (by omega)
                · refine jj_lload dX7_wind_155 rfl ?_
                  refine jj_goto (tgt := 162) dX7_wind_157 (by decide) ?_
                  exact L162 ((fWi s (fNV s 344 7) k p ((fNV s 344 7).toNat + 1))) (by first | (rw [if_pos (by omega)]; done) | (rw [if_neg (by omega)]; done)) (by omega)
              · have L127 : ∀ (ab2 : Int) (s2 : jz_St) (hh127_0 : ab2 = fWi s (fNV s 344 7) k p (c + 1)) (hh127_1 : s2 = fWiS s (fNV s 344 7) (c + 1)), jz_Z g mX7_wind (jq_le (v_X7_wind s k p w) (f_X7_wind s k p w)) 127 [some (jr (0)), some (ji (k)), some (ji (p)), some (ji (w)), some (ji ((fNV s 344 7))), some (ji (fBC (fNV s 344 7).toNat)), some (jl (ab2)), none, some (ji ((c : Int))), none, none, none, none, none] [] s2 := by
                  intro ab2 s2 hh127_0 hh127_1
                  refine jj_iinc (ls' := [some (jr (0)), some (ji (k)), some (ji (p)), some (ji (w)), some (ji ((fNV s 344 7))), some (ji (fBC (fNV s 344 7).toNat)), some (jl (ab2)), none, some (ji ((c : Int) + 1)), none, none, none, none, none]) dX7_wind_127 rfl (by decide) rfl (by omega) rfl ?_
                  refine jj_goto (tgt := 69) dX7_wind_130 (by decide) ?_
                  exact ih69 (c + 1) ab2 s2 (by omega) (by exact hh127_0) (by exact hh127_1) (by omega)
                refine jj_iload dX7_wind_76 rfl ?_
                refine jj_iload dX7_wind_78 rfl ?_
                refine jj_iconst dX7_wind_80 (kk := ?_)
                refine jj_ixor dX7_wind_81 ?_
                refine jj_iand dX7_wind_82 ?_
                refine jj_if_ne (tgt := 127) dX7_wind_83 (by decide) (fun h83 => ?_) (fun h83 => ?_)
                · exact L127 ab s' (by simp only [fWi]; rw [if_neg (fun q => h83 q.1)]; exact hh69_1) (by simp only [fWiS]; rw [if_neg h83]; exact hh69_2)
                · refine jj_aload_n dX7_wind_86 rfl ?_
                  refine jj_iload dX7_wind_87 rfl ?_
                  refine zz_cVi (av := [ji ((c : Int))]) (st' := []) dX7_wind_89 kn_X7_267 kmX7_standingInWind tt0 rfl rfl rfl (Nat.le_of_ble_eq_true rfl) (by decide) rfl (c_X7_standingInWind g s' (c : Int) (by omega) (by rw [h6']; exact hS')) (fun hr89 ho89 => ?_)
                  refine jj_iload_n dX7_wind_92 rfl ?_
                  refine jj_icmp_lt (tgt := 127) dX7_wind_93 (by decide) (fun h93 => ?_) (fun h93 => ?_)
                  · exact L127 ab (fWiC s' (c : Int)) (by simp only [fWi]; rw [if_neg (fun q => by have := q.2; rw [← hh69_2] at this; omega)]; exact hh69_1) (by simp only [fWiS]; rw [if_pos h83, hh69_2])
                  · refine jj_iload dX7_wind_96 rfl ?_
                    refine zz_cSi (av := [ji ((c : Int))]) (st' := []) dX7_wind_98 kn_X7_233 kmJ6_bitCount_0f7a4 rfl rfl (Nat.le_of_ble_eq_true rfl) (by decide) rfl (c_bitc g (fWiC s' (c : Int)) (c : Int) (by omega)) (fun hr98 ho98 => ?_)
                    refine zz_top (b := fBC c) (by rw [Int.toNat_natCast]) ?_
                    refine jj_istore (ls' := [some (jr (0)), some (ji (k)), some (ji (p)), some (ji (w)), some (ji ((fNV s 344 7))), some (ji (fBC (fNV s 344 7).toNat)), some (jl (ab)), none, some (ji ((c : Int))), some (ji (fBC c)), none, none, none, none]) dX7_wind_101 (by decide) rfl rfl ?_
                    refine jj_lload dX7_wind_103 rfl ?_
                    refine jj_iload_n dX7_wind_105 rfl ?_
                    refine jj_iload dX7_wind_106 rfl ?_
                    refine zz_cSl (av := [ji (p), ji (fBC c)]) (st' := [jl (ab)]) dX7_wind_108 kn_X7_270 kmX7_power rfl rfl (Nat.le_of_ble_eq_true rfl) (by decide) rfl (by have q := c_X7_power g (fWiC s' (c : Int)) p (fBC c).toNat hp2 (by omega); rw [Int.toNat_of_nonneg (by omega)] at q; exact q) (fun hr108 ho108 => ?_)
                    refine jj_bipush dX7_wind_111 (kk := ?_)
                    refine jj_iload_n dX7_wind_113 rfl ?_
                    refine jj_isub dX7_wind_114 (by omega) ?_
                    refine jj_iload dX7_wind_115 rfl ?_
                    refine jj_iload dX7_wind_117 rfl ?_
                    refine jj_isub dX7_wind_119 (by omega) ?_
                    refine zz_cSl (av := [ji (10 - p), ji ((fBC (fNV s 344 7).toNat) - (fBC c))]) (st' := [jl (fPow p (fBC c).toNat), jl (ab)]) dX7_wind_120 kn_X7_270 kmX7_power rfl rfl (Nat.le_of_ble_eq_true rfl) (by decide) rfl (by have q := c_X7_power g (fWiC s' (c : Int)) (10 - p) ((fBC (fNV s 344 7).toNat) - (fBC c)).toNat (by omega) (by omega); rw [Int.toNat_of_nonneg (by omega)] at q; exact q) (fun hr120 ho120 => ?_)
                    refine jj_lmul dX7_wind_123 (by have := fPP_r hp2 (a := (fBC c).toNat) (b := (fBC (fNV s 344 7).toNat - fBC c).toNat) (by omega) (by omega); omega) ?_
                    refine jj_ladd dX7_wind_124 (by have := fPP_r hp2 (a := (fBC c).toNat) (b := (fBC (fNV s 344 7).toNat - fBC c).toNat) (by omega) (by omega); omega) ?_
                    refine jj_lstore (ls' := [some (jr (0)), some (ji (k)), some (ji (p)), some (ji (w)), some (ji ((fNV s 344 7))), some (ji (fBC (fNV s 344 7).toNat)), some (jl (ab + ((fPow p (fBC c).toNat) * (fPow (10 - p) ((fBC (fNV s 344 7).toNat) - (fBC c)).toNat)))), none, some (ji ((c : Int))), some (ji (fBC c)), none, none, none, none]) dX7_wind_125 (by decide) rfl rfl ?_
                    refine jj_fgt (i := 9) (ls' := [some (jr (0)), some (ji (k)), some (ji (p)), some (ji (w)), some (ji ((fNV s 344 7))), some (ji (fBC (fNV s 344 7).toNat)), some (jl (ab + ((fPow p (fBC c).toNat) * (fPow (10 - p) ((fBC (fNV s 344 7).toNat) - (fBC c)).toNat)))), none, some (ji ((c : Int))), none, none, none, none, none]) rfl ?_
                    exact L127 (ab + ((fPow p (fBC c).toNat) * (fPow (10 - p) ((fBC (fNV s 344 7).toNat) - (fBC c)).toNat))) (fWiC s' (c : Int)) (by simp only [fWi]; rw [if_pos ⟨h83, by rw [← hh69_2]; omega⟩, ← hh69_1]) (by simp only [fWiS]; rw [if_pos h83, hh69_2])
          exact L69 _ 0 0 s (by omega) (by rfl) (by rfl) (Nat.lt_succ_self _)
        · have hg40 := bz_f h40
          refine jj_ldc2 dX7_wind_43 kk_X7_265 (kk := ?_)
          refine zz_retle dX7_wind_46 rfl (by decide) ?_ ?_
          · unfold v_X7_wind; (repeat (first | rw [if_pos (by omega)] | rw [if_neg (by omega)])) <;> first | rfl | done
          · unfold f_X7_wind; (repeat (first | rw [if_pos (by omega)] | rw [if_neg (by omega)])) <;> first | rfl | done
  · have hg7 := by_f h7
    refine jj_ldc2 dX7_wind_10 kk_X7_263 (kk := ?_)
    refine zz_retle dX7_wind_13 rfl (by decide) ?_ ?_
    · unfold v_X7_wind; (repeat (first | rw [if_pos (by omega)] | rw [if_neg (by omega)])) <;> first | rfl | done
    · unfold f_X7_wind; (repeat (first | rw [if_pos (by omega)] | rw [if_neg (by omega)])) <;> first | rfl | done

def v_X7_drawn (s : jz_St) (n d w : Int) : Int := if s 344 2 ≤ 0 then -1000002 else if (0 ≤ n ∧ n ≤ 60) ∧ (1 ≤ d ∧ d ≤ 999999) ∧ 0 ≤ w ∧ w ≤ 1 then (if w = 0 then fLA (fDrS s d n.toNat) 358 7 else fDrS s d n.toNat 358 7) else -1000001
def f_X7_drawn (s : jz_St) (n d w : Int) : jz_St := if s 344 2 ≤ 0 then s else if (0 ≤ n ∧ n ≤ 60) ∧ (1 ≤ d ∧ d ≤ 999999) ∧ 0 ≤ w ∧ w ≤ 1 then fDrS s d n.toNat else s
set_option maxRecDepth 100000 in
set_option maxHeartbeats 4000000 in
theorem c_X7_drawn (g : jz_G) (s : jz_St) (n d w : Int) (hI : jInv s) (hZ : jSz s 344)  : jz_C g mX7_drawn [jr (0), ji (n), ji (d), ji (w)] s (jq_ie (v_X7_drawn s n d w) (f_X7_drawn s n d w)) := by
  refine zz_C_of koX7_drawn rfl (Nat.le_of_ble_eq_true rfl) ?_
  refine zz_pad 3 ?_
  show jz_Z g mX7_drawn (jq_ie (v_X7_drawn s n d w) (f_X7_drawn s n d w)) 0 [some (jr (0)), some (ji (n)), some (ji (d)), some (ji (w)), none, none, none] [] s
  obtain ⟨hN, hH, hP1, hP2, hT, hRw⟩ := hI
  refine jj_aload_n dX7_drawn_0 rfl ?_
  refine zz_getR dX7_drawn_1 kf_X7_39 tt0 rfl ?_
  refine zz_cVi (av := []) (st' := []) dX7_drawn_4 kn_X7_139 kmX5_isThere tt344 rfl rfl rfl (Nat.le_of_ble_eq_true rfl) (by decide) rfl (c_X5_isThere g s 344 tt344) (fun hr4 ho4 => ?_)
  refine jj_if_ne (tgt := 13) dX7_drawn_7 (by decide) (fun h7 => ?_) (fun h7 => ?_)
  · have hg7 := by_t h7
    refine jj_iload_n dX7_drawn_13 rfl ?_
    refine jj_iconst dX7_drawn_14 (kk := ?_)
    refine jj_bipush dX7_drawn_15 (kk := ?_)
    refine zz_cSi (av := [ji (n), ji (0), ji (60)]) (st' := []) dX7_drawn_17 kn_X7_57 kmX7_isWithin rfl rfl (Nat.le_of_ble_eq_true rfl) (by decide) rfl (c_X7_isWithin g s n 0 60) (fun hr17 ho17 => ?_)
    refine jj_if_eq (tgt := 43) dX7_drawn_20 (by decide) (fun h20 => ?_) (fun h20 => ?_)
    · have hg20 := bz_f h20
      refine jj_ldc dX7_drawn_43 kk_X7_61 (kk := ?_)
      refine zz_retie dX7_drawn_45 rfl (by decide) ?_ ?_
      · unfold v_X7_drawn; (repeat (first | rw [if_pos (by omega)] | rw [if_neg (by omega)])) <;> first | rfl | done
      · unfold f_X7_drawn; (repeat (first | rw [if_pos (by omega)] | rw [if_neg (by omega)])) <;> first | rfl | done
    · have hg20 := bz_t h20
      refine jj_iload_n dX7_drawn_23 rfl ?_
      refine jj_iconst dX7_drawn_24 (kk := ?_)
      refine jj_ldcw dX7_drawn_25 kk_X7_278 (kk := ?_)
      refine zz_cSi (av := [ji (d), ji (1), ji (999999)]) (st' := []) dX7_drawn_28 kn_X7_57 kmX7_isWithin rfl rfl (Nat.le_of_ble_eq_true rfl) (by decide) rfl (c_X7_isWithin g s d 1 999999) (fun hr28 ho28 => ?_)
      refine jj_if_eq (tgt := 43) dX7_drawn_31 (by decide) (fun h31 => ?_) (fun h31 => ?_)
      · have hg31 := bz_f h31
        refine jj_ldc dX7_drawn_43 kk_X7_61 (kk := ?_)
        refine zz_retie dX7_drawn_45 rfl (by decide) ?_ ?_
        · unfold v_X7_drawn; (repeat (first | rw [if_pos (by omega)] | rw [if_neg (by omega)])) <;> first | rfl | done
        · unfold f_X7_drawn; (repeat (first | rw [if_pos (by omega)] | rw [if_neg (by omega)])) <;> first | rfl | done
      · have hg31 := bz_t h31
        refine jj_iload_n dX7_drawn_34 rfl ?_
        refine jj_iconst dX7_drawn_35 (kk := ?_)
        refine jj_iconst dX7_drawn_36 (kk := ?_)
        refine zz_cSi (av := [ji (w), ji (0), ji (1)]) (st' := []) dX7_drawn_37 kn_X7_57 kmX7_isWithin rfl rfl (Nat.le_of_ble_eq_true rfl) (by decide) rfl (c_X7_isWithin g s w 0 1) (fun hr37 ho37 => ?_)
        refine jj_if_ne (tgt := 46) dX7_drawn_40 (by decide) (fun h40 => ?_) (fun h40 => ?_)
        · have hg40 := bz_t h40
          refine jj_aload_n dX7_drawn_46 rfl ?_
          refine zz_getR dX7_drawn_47 kf_X7_43 tt0 rfl ?_
          refine jj_aload_n dX7_drawn_50 rfl ?_
          refine zz_getR dX7_drawn_51 kf_X7_39 tt0 rfl ?_
          refine zz_cVv (av := [jr (344)]) (st' := []) dX7_drawn_54 kn_X7_122 kmX5_take tt358 rfl rfl rfl (Nat.le_of_ble_eq_true rfl) (by decide) rfl (c_X5_take g s 358 344 tt358 tt344) (fun ho54 => ?_)
          refine jj_iload_n dX7_drawn_57 rfl ?_
          refine jj_i2l dX7_drawn_58 ?_
          refine jj_lstore (ls' := [some (jr (0)), some (ji (n)), some (ji (d)), some (ji (w)), some (jl (d)), none, none]) dX7_drawn_59 (by decide) rfl rfl ?_
          refine jj_iconst dX7_drawn_61 (kk := ?_)
          refine jj_istore (ls' := [some (jr (0)), some (ji (n)), some (ji (d)), some (ji (w)), some (jl (d)), none, some (ji (0))]) dX7_drawn_62 (by decide) rfl rfl ?_
          have L64 : ∀ (nn : Nat) (j : Nat) (x : Int) (s' : jz_St) (hh64_0 : (j : Int) ≤ n) (hh64_1 : x = fDrX d j) (hh64_2 : s' = fDrS s d j), n.toNat - j < nn → jz_Z g mX7_drawn (jq_ie (v_X7_drawn s n d w) (f_X7_drawn s n d w)) 64 [some (jr (0)), some (ji (n)), some (ji (d)), some (ji (w)), some (jl (x)), none, some (ji ((j : Int)))] [] s' := by
            intro nn
            induction nn with
            | zero => intro j x s' hh64_0 hh64_1 hh64_2 hmz; exact absurd hmz (Nat.not_lt_zero _)
            | succ nn ih64 =>
              intro j x s' hh64_0 hh64_1 hh64_2 hm64
              have hR := (fDrS_off (x := d) (y := 0) hN hZ (by unfold jOff; omega) j).2
              rw [← hh64_2] at hR
              have hx := fDrX_r (x := d) (by omega) j
              rw [← hh64_1] at hx
              have hx1 := fDrX_r (x := d) (by omega) (j + 1)
              have e1 : Int.tmod (x * 16807) 2147483647 = fDrX d (j + 1) := by rw [hh64_1]; rfl
              refine jj_iload dX7_drawn_64 rfl ?_
              refine jj_iload_n dX7_drawn_66 rfl ?_
              refine jj_icmp_ge (tgt := 106) dX7_drawn_67 (by decide) (fun h67 => ?_) (fun h67 => ?_)
              · refine jj_iload_n dX7_drawn_106 rfl ?_
                refine jj_if_ne (tgt := 120) dX7_drawn_107 (by decide) (fun h107 => ?_) (fun h107 => ?_)
                · refine jj_aload_n dX7_drawn_120 rfl ?_
                  refine zz_getR dX7_drawn_121 kf_X7_43 tt0 rfl ?_
                  refine zz_getI dX7_drawn_124 kf_X7_289 tt358 rfl rfl ?_
                  refine zz_retie dX7_drawn_127 rfl (by decide) ?_ ?_
                  · unfold v_X7_drawn; rw [if_neg (by omega), if_pos (by omega), show n.toNat = j by omega, ← hh64_2]; first | (rw [if_pos (by omega)]; done) | (rw [if_neg (by omega)]; done)
                  · unfold f_X7_drawn; rw [if_neg (by omega), if_pos (by omega), show n.toNat = j by omega, ← hh64_2]
                · refine jj_aload_n dX7_drawn_110 rfl ?_
                  refine zz_getR dX7_drawn_111 kf_X7_43 tt0 rfl ?_
                  refine zz_cVi (av := []) (st' := []) dX7_drawn_114 kn_X7_286 kmX5_leftOfAll tt358 rfl rfl rfl (Nat.le_of_ble_eq_true rfl) (by decide) rfl (c_X5_leftOfAll g s' 358 tt358 (jRng_if hR.1)) (fun hr114 ho114 => ?_)
                  refine jj_goto (tgt := 127) dX7_drawn_117 (by decide) ?_
                  refine zz_retie dX7_drawn_127 rfl (by decide) ?_ ?_
                  · unfold v_X7_drawn; rw [if_neg (by omega), if_pos (by omega), show n.toNat = j by omega, ← hh64_2]; first | (rw [if_pos (by omega)]; done) | (rw [if_neg (by omega)]; done)
                  · unfold f_X7_drawn; rw [if_neg (by omega), if_pos (by omega), show n.toNat = j by omega, ← hh64_2]
              · refine jj_lload dX7_drawn_70 rfl ?_
                refine jj_ldc2 dX7_drawn_72 kk_X7_279 (kk := ?_)
                refine jj_lmul dX7_drawn_75 (by omega) ?_
                refine jj_ldc2 dX7_drawn_76 kk_X7_281 (kk := ?_)
                refine jj_lrem dX7_drawn_79 (by decide) (by rw [tm_e (by omega)]; have := em_b (x := x * 16807) (y := 2147483647) (by decide); omega) ?_
                refine jj_lstore (ls' := [some (jr (0)), some (ji (n)), some (ji (d)), some (ji (w)), some (jl (Int.tmod (x * 16807) (2147483647))), none, some (ji ((j : Int)))]) dX7_drawn_80 (by decide) rfl rfl ?_
                refine jj_aload_n dX7_drawn_82 rfl ?_
                refine zz_getR dX7_drawn_83 kf_X7_43 tt0 rfl ?_
                refine jj_lload dX7_drawn_86 rfl ?_
                refine jj_l2i dX7_drawn_88 (by omega) ?_
                refine zz_cVv (av := [ji (Int.tmod (x * 16807) (2147483647))]) (st' := []) dX7_drawn_89 kn_X7_283 kmX5_befall tt358 rfl rfl rfl (Nat.le_of_ble_eq_true rfl) (by decide) rfl (c_X5_befall g s' 358 tt358 (Int.tmod (x * 16807) (2147483647)) (by omega) hR.1.1.2 hR.1.2.1.2) (fun ho89 => ?_)
                refine jj_aload_n dX7_drawn_92 rfl ?_
                refine zz_getR dX7_drawn_93 kf_X7_43 tt0 rfl ?_
                refine zz_cVi (av := []) (st' := []) dX7_drawn_96 kn_X7_149 kmX5_passHour tt358 rfl rfl rfl (Nat.le_of_ble_eq_true rfl) (by decide) rfl (c_X5_passHour g (f_X5_befall s' 358 (Int.tmod (x * 16807) (2147483647))) 358 tt358 (s 344 6 + 9 * j) (by omega) (befall_rng hR.1 hR.2).1) (fun hr96 ho96 => ?_)
                refine zz_st (s1 := fDrS s d (j + 1)) (by rw [hh64_2, hh64_1]; rfl) ?_
                refine jj_pop dX7_drawn_99 (kk := ?_)
                refine jj_iinc (ls' := [some (jr (0)), some (ji (n)), some (ji (d)), some (ji (w)), some (jl (Int.tmod (x * 16807) (2147483647))), none, some (ji ((j : Int) + 1))]) dX7_drawn_100 rfl (by decide) rfl (by omega) rfl ?_
                refine jj_goto (tgt := 64) dX7_drawn_103 (by decide) ?_
                exact ih64 (j + 1) (Int.tmod (x * 16807) (2147483647)) (fDrS s d (j + 1)) (by omega) (by exact e1) (by rfl) (by omega)
          exact L64 _ 0 d (f_X5_take s 358 344) (by omega) (by rfl) (by rfl) (Nat.lt_succ_self _)
        · have hg40 := bz_f h40
          refine jj_ldc dX7_drawn_43 kk_X7_61 (kk := ?_)
          refine zz_retie dX7_drawn_45 rfl (by decide) ?_ ?_
          · unfold v_X7_drawn; (repeat (first | rw [if_pos (by omega)] | rw [if_neg (by omega)])) <;> first | rfl | done
          · unfold f_X7_drawn; (repeat (first | rw [if_pos (by omega)] | rw [if_neg (by omega)])) <;> first | rfl | done
  · have hg7 := by_f h7
    refine jj_ldc dX7_drawn_10 kk_X7_138 (kk := ?_)
    refine zz_retie dX7_drawn_12 rfl (by decide) ?_ ?_
    · unfold v_X7_drawn; (repeat (first | rw [if_pos (by omega)] | rw [if_neg (by omega)])) <;> first | rfl | done
    · unfold f_X7_drawn; (repeat (first | rw [if_pos (by omega)] | rw [if_neg (by omega)])) <;> first | rfl | done

