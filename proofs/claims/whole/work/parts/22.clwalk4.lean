set_option maxRecDepth 100000 in
set_option maxHeartbeats 4000000 in
theorem c_X7_leftByBait (g : jz_G) (s : jz_St) (l o n : Int) (hn : 0 ≤ n ∧ n ≤ 60) (hH : s 344 6 ≤ 999) (hN : jRng s 344 (9 * s 344 6))  : jz_C g mX7_leftByBait [jr (0), ji (l), ji (o), ji (n)] s (jq_ie (v_lbb s l o n) (f_lbb s l o n)) := by
  refine zz_C_of koX7_leftByBait rfl (Nat.le_of_ble_eq_true rfl) ?_
  refine zz_pad 2 ?_
  show jz_Z g mX7_leftByBait (jq_ie (v_lbb s l o n) (f_lbb s l o n)) 0 [some (jr (0)), some (ji (l)), some (ji (o)), some (ji (n)), none, none] [] s
  have hTR := take_rng (s := s) (k := 358) (by decide) hN
  have hT2 : f_X5_take s 358 344 358 2 = s 344 2 := take_k s (by decide) (by decide) (by decide)
  refine jj_aload_n dX7_leftByBait_0 rfl ?_
  refine zz_getR dX7_leftByBait_1 kf_X7_43 tt0 rfl ?_
  refine jj_aload_n dX7_leftByBait_4 rfl ?_
  refine zz_getR dX7_leftByBait_5 kf_X7_39 tt0 rfl ?_
  refine zz_cVv (av := [jr (344)]) (st' := []) dX7_leftByBait_8 kn_X7_122 kmX5_take tt358 rfl rfl rfl (Nat.le_of_ble_eq_true rfl) (by decide) rfl (c_X5_take g s 358 344 tt358 tt344) (fun ho8 => ?_)
  refine jj_aload_n dX7_leftByBait_11 rfl ?_
  refine zz_getR dX7_leftByBait_12 kf_X7_43 tt0 rfl ?_
  refine jj_iload_n dX7_leftByBait_15 rfl ?_
  refine zz_cVr (av := [ji (l)]) (st' := []) dX7_leftByBait_16 kn_X7_153 kmX5_leafAt tt358 rfl rfl rfl (Nat.le_of_ble_eq_true rfl) (by decide) rfl (c_X5_leafAt g (f_X5_take s 358 344) 358 tt358 l) (fun ho16 => ?_)
  by_cases hc16 : 0 ≤ l ∧ l < (f_X5_take s 358 344) 358 2 ∧ l < 7
  · refine jj_topO (o' := some (358 + 3 + l.toNat)) (if_pos hc16) ?_
    refine jj_astore (ls' := [some (jr (0)), some (ji (l)), some (ji (o)), some (ji (n)), some (jr (358 + 3 + l.toNat)), none]) dX7_leftByBait_19 (by decide) rfl rfl ?_
    refine jj_aload_n dX7_leftByBait_21 rfl ?_
    refine zz_getR dX7_leftByBait_22 kf_X7_43 tt0 rfl ?_
    refine jj_iload_n dX7_leftByBait_25 rfl ?_
    refine zz_cVr (av := [ji (o)]) (st' := []) dX7_leftByBait_26 kn_X7_153 kmX5_leafAt tt358 rfl rfl rfl (Nat.le_of_ble_eq_true rfl) (by decide) rfl (c_X5_leafAt g (f_X5_take s 358 344) 358 tt358 o) (fun ho26 => ?_)
    by_cases hc26 : 0 ≤ o ∧ o < (f_X5_take s 358 344) 358 2 ∧ o < 7
    · refine jj_topO (o' := some (358 + 3 + o.toNat)) (if_pos hc26) ?_
      refine jj_astore (ls' := [some (jr (0)), some (ji (l)), some (ji (o)), some (ji (n)), some (jr (358 + 3 + l.toNat)), some (jr (358 + 3 + o.toNat))]) dX7_leftByBait_29 (by decide) rfl rfl ?_
      refine jj_aload dX7_leftByBait_31 rfl ?_
      refine jj_ifnull (o := some (358 + 3 + l.toNat)) (tgt := 49) dX7_leftByBait_33 (by decide) (fun h => by cases h) (fun _ _ => ?_)
      refine jj_aload dX7_leftByBait_36 rfl ?_
      refine jj_ifnull (o := some (358 + 3 + o.toNat)) (tgt := 49) dX7_leftByBait_38 (by decide) (fun h => by cases h) (fun _ _ => ?_)
      refine jj_aload dX7_leftByBait_41 rfl ?_
      refine zz_cVi (av := []) (st' := []) dX7_leftByBait_43 kn_X7_157 kmX1_isVoid (jz_t_leaf tt358 (by omega)) rfl rfl rfl (Nat.le_of_ble_eq_true rfl) (by decide) rfl (c_X1_isVoid g (f_X5_take s 358 344) (358 + 3 + o.toNat) (jz_t_leaf tt358 (by omega))) (fun hr43 ho43 => ?_)
      refine jj_if_eq (tgt := 52) dX7_leftByBait_46 (by decide) (fun h46 => ?_) (fun h46 => ?_)
      · have hg46 := bz_f h46
        refine jj_aload dX7_leftByBait_52 rfl ?_
        refine jj_bipush dX7_leftByBait_54 (kk := ?_)
        refine zz_putI dX7_leftByBait_56 kw_X7_165 (jz_t_leaf tt358 (by omega)) rfl rfl ?_
        refine jj_aload_n dX7_leftByBait_59 rfl ?_
        refine zz_getR dX7_leftByBait_60 kf_X7_43 tt0 rfl ?_
        refine jj_iload_n dX7_leftByBait_63 rfl ?_
        refine zz_cVv (av := [ji (n)]) (st' := []) dX7_leftByBait_64 kn_X7_210 kmX5_passHours tt358 rfl rfl rfl (Nat.le_of_ble_eq_true rfl) (by decide) rfl (by have q := c_X5_passHours g (jz_su (f_X5_take s 358 344) (358 + 3 + o.toNat) 4 (19)) 358 tt358 (n).toNat (s 344 6) (by omega) (su_rng hTR (by omega) (by decide) (fun _ => by decide)); rw [Int.toNat_of_nonneg (by omega)] at q; exact q) (fun ho64 => ?_)
        refine jj_aload dX7_leftByBait_67 rfl ?_
        refine zz_getI dX7_leftByBait_69 kf_X7_168 (jz_t_leaf tt358 (by omega)) rfl rfl ?_
        refine zz_retie dX7_leftByBait_72 rfl (by decide) ?_ ?_
        · have hL : fLB s l o := ⟨by omega, by omega, hg46⟩; unfold v_lbb f_lbb; rw [if_pos hL, if_pos hL]
        · have hL : fLB s l o := ⟨by omega, by omega, hg46⟩; unfold f_lbb; rw [if_pos hL]
      · have hg46 := bz_t h46
        refine jj_ldc dX7_leftByBait_49 kk_X7_202 (kk := ?_)
        refine zz_retie dX7_leftByBait_51 rfl (by decide) ?_ ?_
        · unfold v_lbb; rw [if_neg (by rintro ⟨q1, q2, q3⟩; omega)]
        · unfold f_lbb; rw [if_neg (by rintro ⟨q1, q2, q3⟩; omega)]
    · refine jj_topO (o' := none) (if_neg hc26) ?_
      refine jj_astoreO (ls' := [some (jr (0)), some (ji (l)), some (ji (o)), some (ji (n)), some (jr (358 + 3 + l.toNat)), some (jn)]) dX7_leftByBait_29 (by decide) rfl rfl ?_
      refine jj_aload dX7_leftByBait_31 rfl ?_
      refine jj_ifnull (o := some (358 + 3 + l.toNat)) (tgt := 49) dX7_leftByBait_33 (by decide) (fun h => by cases h) (fun _ _ => ?_)
      refine jj_aloadO dX7_leftByBait_36 rfl ?_
      refine jj_ifnull (o := none) (tgt := 49) dX7_leftByBait_38 (by decide) (fun _ => ?_) (fun _ h => by cases h)
      refine jj_ldc dX7_leftByBait_49 kk_X7_202 (kk := ?_)
      refine zz_retie dX7_leftByBait_51 rfl (by decide) ?_ ?_
      · unfold v_lbb; rw [if_neg (by rintro ⟨q1, q2, q3⟩; omega)]
      · unfold f_lbb; rw [if_neg (by rintro ⟨q1, q2, q3⟩; omega)]
  · refine jj_topO (o' := none) (if_neg hc16) ?_
    refine jj_astoreO (ls' := [some (jr (0)), some (ji (l)), some (ji (o)), some (ji (n)), some (jn), none]) dX7_leftByBait_19 (by decide) rfl rfl ?_
    refine jj_aload_n dX7_leftByBait_21 rfl ?_
    refine zz_getR dX7_leftByBait_22 kf_X7_43 tt0 rfl ?_
    refine jj_iload_n dX7_leftByBait_25 rfl ?_
    refine zz_cVr (av := [ji (o)]) (st' := []) dX7_leftByBait_26 kn_X7_153 kmX5_leafAt tt358 rfl rfl rfl (Nat.le_of_ble_eq_true rfl) (by decide) rfl (c_X5_leafAt g (f_X5_take s 358 344) 358 tt358 o) (fun ho26 => ?_)
    by_cases hc26 : 0 ≤ o ∧ o < (f_X5_take s 358 344) 358 2 ∧ o < 7
    · refine jj_topO (o' := some (358 + 3 + o.toNat)) (if_pos hc26) ?_
      refine jj_astore (ls' := [some (jr (0)), some (ji (l)), some (ji (o)), some (ji (n)), some (jn), some (jr (358 + 3 + o.toNat))]) dX7_leftByBait_29 (by decide) rfl rfl ?_
      refine jj_aloadO dX7_leftByBait_31 rfl ?_
      refine jj_ifnull (o := none) (tgt := 49) dX7_leftByBait_33 (by decide) (fun _ => ?_) (fun _ h => by cases h)
      refine jj_ldc dX7_leftByBait_49 kk_X7_202 (kk := ?_)
      refine zz_retie dX7_leftByBait_51 rfl (by decide) ?_ ?_
      · unfold v_lbb; rw [if_neg (by rintro ⟨q1, q2, q3⟩; omega)]
      · unfold f_lbb; rw [if_neg (by rintro ⟨q1, q2, q3⟩; omega)]
    · refine jj_topO (o' := none) (if_neg hc26) ?_
      refine jj_astoreO (ls' := [some (jr (0)), some (ji (l)), some (ji (o)), some (ji (n)), some (jn), some (jn)]) dX7_leftByBait_29 (by decide) rfl rfl ?_
      refine jj_aloadO dX7_leftByBait_31 rfl ?_
      refine jj_ifnull (o := none) (tgt := 49) dX7_leftByBait_33 (by decide) (fun _ => ?_) (fun _ h => by cases h)
      refine jj_ldc dX7_leftByBait_49 kk_X7_202 (kk := ?_)
      refine zz_retie dX7_leftByBait_51 rfl (by decide) ?_ ?_
      · unfold v_lbb; rw [if_neg (by rintro ⟨q1, q2, q3⟩; omega)]
      · unfold f_lbb; rw [if_neg (by rintro ⟨q1, q2, q3⟩; omega)]

def v_X7_bait (s : jz_St) (l n w : Int) : Int := if (0 ≤ l ∧ l < s 344 2 ∧ l < 7) ∧ (1 ≤ n ∧ n ≤ 30) ∧ 0 ≤ w ∧ w ≤ 1 then (if w = 0 then (fBa s l n (s 344 2).toNat).1 else (fBa s l n (s 344 2).toNat).2) else -1000001
def f_X7_bait (s : jz_St) (l n w : Int) : jz_St := if (0 ≤ l ∧ l < s 344 2 ∧ l < 7) ∧ (1 ≤ n ∧ n ≤ 30) ∧ 0 ≤ w ∧ w ≤ 1 then fBaS s l n (s 344 2).toNat else s
set_option maxRecDepth 100000 in
set_option maxHeartbeats 4000000 in
theorem c_X7_bait (g : jz_G) (s : jz_St) (l n w : Int) (hI : jInv s)  : jz_C g mX7_bait [jr (0), ji (l), ji (n), ji (w)] s (jq_ie (v_X7_bait s l n w) (f_X7_bait s l n w)) := by
  refine zz_C_of koX7_bait rfl (Nat.le_of_ble_eq_true rfl) ?_
  refine zz_pad 4 ?_
  show jz_Z g mX7_bait (jq_ie (v_X7_bait s l n w) (f_X7_bait s l n w)) 0 [some (jr (0)), some (ji (l)), some (ji (n)), some (ji (w)), none, none, none, none] [] s
  obtain ⟨hN, hH, hP1, hP2, hT, hRw⟩ := hI
  have hN2 := hN.2.1
  have hN1 := hN.1
  refine jj_aload_n dX7_bait_0 rfl ?_
  refine zz_getR dX7_bait_1 kf_X7_39 tt0 rfl ?_
  refine jj_iload_n dX7_bait_4 rfl ?_
  refine zz_cVr (av := [ji (l)]) (st' := []) dX7_bait_5 kn_X7_153 kmX5_leafAt tt344 rfl rfl rfl (Nat.le_of_ble_eq_true rfl) (by decide) rfl (c_X5_leafAt g s 344 tt344 l) (fun ho5 => ?_)
  by_cases hc5 : 0 ≤ l ∧ l < s 344 2 ∧ l < 7
  · refine jj_topO (o' := some (344 + 3 + l.toNat)) (if_pos hc5) ?_
    refine jj_ifnull (o := some (344 + 3 + l.toNat)) (tgt := 30) dX7_bait_8 (by decide) (fun h => by cases h) (fun _ _ => ?_)
    refine jj_iload_n dX7_bait_11 rfl ?_
    refine jj_iconst dX7_bait_12 (kk := ?_)
    refine jj_bipush dX7_bait_13 (kk := ?_)
    refine zz_cSi (av := [ji (n), ji (1), ji (30)]) (st' := []) dX7_bait_15 kn_X7_57 kmX7_isWithin rfl rfl (Nat.le_of_ble_eq_true rfl) (by decide) rfl (c_X7_isWithin g s n 1 30) (fun hr15 ho15 => ?_)
    refine jj_if_eq (tgt := 30) dX7_bait_18 (by decide) (fun h18 => ?_) (fun h18 => ?_)
    · have hg18 := bz_f h18
      refine jj_ldc dX7_bait_30 kk_X7_61 (kk := ?_)
      refine zz_retie dX7_bait_32 rfl (by decide) ?_ ?_
      · unfold v_X7_bait; (repeat (first | rw [if_pos (by omega)] | rw [if_neg (by omega)])) <;> first | rfl | done
      · unfold f_X7_bait; (repeat (first | rw [if_pos (by omega)] | rw [if_neg (by omega)])) <;> first | rfl | done
    · have hg18 := bz_t h18
      refine jj_iload_n dX7_bait_21 rfl ?_
      refine jj_iconst dX7_bait_22 (kk := ?_)
      refine jj_iconst dX7_bait_23 (kk := ?_)
      refine zz_cSi (av := [ji (w), ji (0), ji (1)]) (st' := []) dX7_bait_24 kn_X7_57 kmX7_isWithin rfl rfl (Nat.le_of_ble_eq_true rfl) (by decide) rfl (c_X7_isWithin g s w 0 1) (fun hr24 ho24 => ?_)
      refine jj_if_ne (tgt := 33) dX7_bait_27 (by decide) (fun h27 => ?_) (fun h27 => ?_)
      · have hg27 := bz_t h27
        refine jj_ldc dX7_bait_33 kk_X7_202 (kk := ?_)
        refine jj_istore (ls' := [some (jr (0)), some (ji (l)), some (ji (n)), some (ji (w)), some (ji (-1000000)), none, none, none]) dX7_bait_35 (by decide) rfl rfl ?_
        refine jj_ldc dX7_bait_37 kk_X7_202 (kk := ?_)
        refine jj_istore (ls' := [some (jr (0)), some (ji (l)), some (ji (n)), some (ji (w)), some (ji (-1000000)), some (ji (-1000000)), none, none]) dX7_bait_39 (by decide) rfl rfl ?_
        refine jj_iconst dX7_bait_41 (kk := ?_)
        refine jj_istore (ls' := [some (jr (0)), some (ji (l)), some (ji (n)), some (ji (w)), some (ji (-1000000)), some (ji (-1000000)), some (ji (0)), none]) dX7_bait_42 (by decide) rfl rfl ?_
        have L44 : ∀ (nn : Nat) (j : Nat) (x y : Int) (s' : jz_St) (hh44_0 : (j : Int) ≤ s 344 2) (hh44_1 : x = (fBa s l n j).1) (hh44_2 : y = (fBa s l n j).2) (hh44_3 : s' = fBaS s l n j), (s 344 2).toNat - j < nn → jz_Z g mX7_bait (jq_ie (v_X7_bait s l n w) (f_X7_bait s l n w)) 44 [some (jr (0)), some (ji (l)), some (ji (n)), some (ji (w)), some (ji (x)), some (ji (y)), some (ji ((j : Int))), none] [] s' := by
          intro nn
          induction nn with
          | zero => intro j x y s' hh44_0 hh44_1 hh44_2 hh44_3 hmz; exact absurd hmz (Nat.not_lt_zero _)
          | succ nn ih44 =>
            intro j x y s' hh44_0 hh44_1 hh44_2 hh44_3 hm44
            have hoff : ∀ x, jOff 358 x → s' x = s x := fun x hx => by rw [hh44_3]; exact fBaS_off hx j
            have hA' : s' 344 2 = s 344 2 := by rw [hoff 344 (by unfold jOff; omega)]
            have hS' : jRng s' 344 (9 * s 344 6) := jRng_off hN (fun x _ _ => hoff x (by unfold jOff; omega))
            have h6' : s' 344 6 = s 344 6 := by rw [hoff 344 (by unfold jOff; omega)]
            have hT' := take_rng (s := s') (k := 358) (by decide) hS'
            refine jj_iload dX7_bait_44 rfl ?_
            refine jj_aload_n dX7_bait_46 rfl ?_
            refine zz_getR dX7_bait_47 kf_X7_39 tt0 rfl ?_
            refine zz_getI dX7_bait_50 kf_X7_129 tt344 rfl rfl ?_
            refine jj_icmp_ge (tgt := 98) dX7_bait_53 (by decide) (fun h53 => ?_) (fun h53 => ?_)
            · refine jj_iload_n dX7_bait_98 rfl ?_
              refine jj_if_ne (tgt := 107) dX7_bait_99 (by decide) (fun h99 => ?_) (fun h99 => ?_)
              · refine jj_iload dX7_bait_107 rfl ?_
                refine zz_retie dX7_bait_109 rfl (by decide) ?_ ?_
                · unfold v_X7_bait; rw [if_pos (by omega), show (s 344 2).toNat = j by omega, ← hh44_1, ← hh44_2]; first | (rw [if_pos (by omega)]; done) | (rw [if_neg (by omega)]; done)
                · unfold f_X7_bait; rw [if_pos (by omega), show (s 344 2).toNat = j by omega]; exact hh44_3
              · refine jj_iload dX7_bait_102 rfl ?_
                refine jj_goto (tgt := 109) dX7_bait_104 (by decide) ?_
                refine zz_retie dX7_bait_109 rfl (by decide) ?_ ?_
                · unfold v_X7_bait; rw [if_pos (by omega), show (s 344 2).toNat = j by omega, ← hh44_1, ← hh44_2]; first | (rw [if_pos (by omega)]; done) | (rw [if_neg (by omega)]; done)
                · unfold f_X7_bait; rw [if_pos (by omega), show (s 344 2).toNat = j by omega]; exact hh44_3
            · have L75 : ∀ (v : Int) (s5 : jz_St) (hh75_0 : v = fBaV s l n j) (hh75_1 : s5 = fBaS s l n (j + 1)), jz_Z g mX7_bait (jq_ie (v_X7_bait s l n w) (f_X7_bait s l n w)) 75 [some (jr (0)), some (ji (l)), some (ji (n)), some (ji (w)), some (ji (x)), some (ji (y)), some (ji ((j : Int))), none] [ji (v)] s5 := by
                intro v s5 hh75_0 hh75_1
                refine jj_istore (ls' := [some (jr (0)), some (ji (l)), some (ji (n)), some (ji (w)), some (ji (x)), some (ji (y)), some (ji ((j : Int))), some (ji (v))]) dX7_bait_75 (by decide) rfl rfl ?_
                refine jj_iload dX7_bait_77 rfl ?_
                refine jj_iload dX7_bait_79 rfl ?_
                refine jj_icmp_le (tgt := 92) dX7_bait_81 (by decide) (fun h81 => ?_) (fun h81 => ?_)
                · refine jj_iinc (ls' := [some (jr (0)), some (ji (l)), some (ji (n)), some (ji (w)), some (ji (x)), some (ji (y)), some (ji ((j : Int) + 1)), some (ji (v))]) dX7_bait_92 rfl (by decide) rfl (by omega) rfl ?_
                  refine jj_goto (tgt := 44) dX7_bait_95 (by decide) ?_
                  refine jj_fgt (i := 7) (ls' := [some (jr (0)), some (ji (l)), some (ji (n)), some (ji (w)), some (ji (x)), some (ji (y)), some (ji ((j : Int) + 1)), none]) rfl ?_
                  exact ih44 (j + 1) x y s5 (by omega) (by simp only [fBa]; first | (rw [if_pos (by rw [← hh44_2, ← hh75_0]; omega)]; done) | (rw [if_neg (by rw [← hh44_2, ← hh75_0]; omega)]; exact hh44_1)) (by simp only [fBa]; first | (rw [if_pos (by rw [← hh44_2, ← hh75_0]; omega)]; exact hh75_0) | (rw [if_neg (by rw [← hh44_2, ← hh75_0]; omega)]; exact hh44_2)) (by exact hh75_1) (by omega)
                · refine jj_iload dX7_bait_84 rfl ?_
                  refine jj_istore (ls' := [some (jr (0)), some (ji (l)), some (ji (n)), some (ji (w)), some (ji ((j : Int))), some (ji (y)), some (ji ((j : Int))), some (ji (v))]) dX7_bait_86 (by decide) rfl rfl ?_
                  refine jj_iload dX7_bait_88 rfl ?_
                  refine jj_istore (ls' := [some (jr (0)), some (ji (l)), some (ji (n)), some (ji (w)), some (ji ((j : Int))), some (ji (v)), some (ji ((j : Int))), some (ji (v))]) dX7_bait_90 (by decide) rfl rfl ?_
                  refine jj_iinc (ls' := [some (jr (0)), some (ji (l)), some (ji (n)), some (ji (w)), some (ji ((j : Int))), some (ji (v)), some (ji ((j : Int) + 1)), some (ji (v))]) dX7_bait_92 rfl (by decide) rfl (by omega) rfl ?_
                  refine jj_goto (tgt := 44) dX7_bait_95 (by decide) ?_
                  refine jj_fgt (i := 7) (ls' := [some (jr (0)), some (ji (l)), some (ji (n)), some (ji (w)), some (ji ((j : Int))), some (ji (v)), some (ji ((j : Int) + 1)), none]) rfl ?_
                  exact ih44 (j + 1) ((j : Int)) v s5 (by omega) (by simp only [fBa]; first | (rw [if_pos (by rw [← hh44_2, ← hh75_0]; omega)]; done) | (rw [if_neg (by rw [← hh44_2, ← hh75_0]; omega)]; exact hh44_1)) (by simp only [fBa]; first | (rw [if_pos (by rw [← hh44_2, ← hh75_0]; omega)]; exact hh75_0) | (rw [if_neg (by rw [← hh44_2, ← hh75_0]; omega)]; exact hh44_2)) (by exact hh75_1) (by omega)
              refine jj_iload dX7_bait_56 rfl ?_
              refine jj_iload_n dX7_bait_58 rfl ?_
              refine jj_icmp_ne (tgt := 67) dX7_bait_59 (by decide) (fun h59 => ?_) (fun h59 => ?_)
              · refine jj_aload_n dX7_bait_67 rfl ?_
                refine jj_iload_n dX7_bait_68 rfl ?_
                refine jj_iload dX7_bait_69 rfl ?_
                refine jj_iload_n dX7_bait_71 rfl ?_
                refine zz_cVi (av := [ji (l), ji ((j : Int)), ji (n)]) (st' := []) dX7_bait_72 kn_X7_244 kmX7_leftByBait tt0 rfl rfl rfl (Nat.le_of_ble_eq_true rfl) (by decide) rfl (c_X7_leftByBait g s' l (j : Int) n (by omega) (by omega) (by rw [h6']; exact hS')) (fun hr72 ho72 => ?_)
                exact L75 (v_lbb s' l (j : Int) n) (f_lbb s' l (j : Int) n) (by unfold fBaV; rw [if_neg h59, hh44_3]) (by simp only [fBaS]; rw [if_neg h59, hh44_3])
              · refine jj_ldc dX7_bait_62 kk_X7_202 (kk := ?_)
                refine jj_goto (tgt := 75) dX7_bait_64 (by decide) ?_
                exact L75 (-1000000) s' (by unfold fBaV; rw [if_pos h59]) (by simp only [fBaS]; rw [if_pos h59]; exact hh44_3)
        exact L44 _ 0 (-1000000) (-1000000) s (by omega) (by rfl) (by rfl) (by rfl) (Nat.lt_succ_self _)
      · have hg27 := bz_f h27
        refine jj_ldc dX7_bait_30 kk_X7_61 (kk := ?_)
        refine zz_retie dX7_bait_32 rfl (by decide) ?_ ?_
        · unfold v_X7_bait; (repeat (first | rw [if_pos (by omega)] | rw [if_neg (by omega)])) <;> first | rfl | done
        · unfold f_X7_bait; (repeat (first | rw [if_pos (by omega)] | rw [if_neg (by omega)])) <;> first | rfl | done
  · refine jj_topO (o' := none) (if_neg hc5) ?_
    refine jj_ifnull (o := none) (tgt := 30) dX7_bait_8 (by decide) (fun _ => ?_) (fun _ h => by cases h)
    refine jj_ldc dX7_bait_30 kk_X7_61 (kk := ?_)
    refine zz_retie dX7_bait_32 rfl (by decide) ?_ ?_
    · unfold v_X7_bait; (repeat (first | rw [if_pos (by omega)] | rw [if_neg (by omega)])) <;> first | rfl | done
    · unfold f_X7_bait; (repeat (first | rw [if_pos (by omega)] | rw [if_neg (by omega)])) <;> first | rfl | done

def v_X7_safeHeight (s : jz_St) (l n : Int) : Int := if (0 ≤ l ∧ l < s 344 2 ∧ l < 7) ∧ 1 ≤ n ∧ n ≤ 60 then (if s (344 + 3 + l.toNat) 5 ≤ 0 then -1000002 else (fSa l n s 0 10).1) else -1000001
def f_X7_safeHeight (s : jz_St) (l n : Int) : jz_St := if (0 ≤ l ∧ l < s 344 2 ∧ l < 7) ∧ 1 ≤ n ∧ n ≤ 60 then (if s (344 + 3 + l.toNat) 5 ≤ 0 then s else (fSa l n s 0 10).2) else s
set_option maxRecDepth 100000 in
set_option maxHeartbeats 4000000 in
theorem c_X7_safeHeight (g : jz_G) (s : jz_St) (l n : Int) (hI : jInv s)  : jz_C g mX7_safeHeight [jr (0), ji (l), ji (n)] s (jq_ie (v_X7_safeHeight s l n) (f_X7_safeHeight s l n)) := by
  refine zz_C_of koX7_safeHeight rfl (Nat.le_of_ble_eq_true rfl) ?_
  refine zz_pad 3 ?_
  show jz_Z g mX7_safeHeight (jq_ie (v_X7_safeHeight s l n) (f_X7_safeHeight s l n)) 0 [some (jr (0)), some (ji (l)), some (ji (n)), none, none, none] [] s
  obtain ⟨hN, hH, hP1, hP2, hT, hRw⟩ := hI
  refine jj_aload_n dX7_safeHeight_0 rfl ?_
  refine zz_getR dX7_safeHeight_1 kf_X7_39 tt0 rfl ?_
  refine jj_iload_n dX7_safeHeight_4 rfl ?_
  refine zz_cVr (av := [ji (l)]) (st' := []) dX7_safeHeight_5 kn_X7_153 kmX5_leafAt tt344 rfl rfl rfl (Nat.le_of_ble_eq_true rfl) (by decide) rfl (c_X5_leafAt g s 344 tt344 l) (fun ho5 => ?_)
  by_cases hc5 : 0 ≤ l ∧ l < s 344 2 ∧ l < 7
  · refine jj_topO (o' := some (344 + 3 + l.toNat)) (if_pos hc5) ?_
    refine jj_astore_n (ls' := [some (jr (0)), some (ji (l)), some (ji (n)), some (jr (344 + 3 + l.toNat)), none, none]) dX7_safeHeight_8 (by decide) rfl rfl ?_
    refine jj_aload_n dX7_safeHeight_9 rfl ?_
    refine jj_ifnull (o := some (344 + 3 + l.toNat)) (tgt := 23) dX7_safeHeight_10 (by decide) (fun h => by cases h) (fun _ _ => ?_)
    refine jj_iload_n dX7_safeHeight_13 rfl ?_
    refine jj_iconst dX7_safeHeight_14 (kk := ?_)
    refine jj_bipush dX7_safeHeight_15 (kk := ?_)
    refine zz_cSi (av := [ji (n), ji (1), ji (60)]) (st' := []) dX7_safeHeight_17 kn_X7_57 kmX7_isWithin rfl rfl (Nat.le_of_ble_eq_true rfl) (by decide) rfl (c_X7_isWithin g s n 1 60) (fun hr17 ho17 => ?_)
    refine jj_if_ne (tgt := 26) dX7_safeHeight_20 (by decide) (fun h20 => ?_) (fun h20 => ?_)
    · have hg20 := bz_t h20
      refine jj_aload_n dX7_safeHeight_26 rfl ?_
      refine zz_cVi (av := []) (st' := []) dX7_safeHeight_27 kn_X7_157 kmX1_isVoid (jz_t_leaf tt344 (by omega)) rfl rfl rfl (Nat.le_of_ble_eq_true rfl) (by decide) rfl (c_X1_isVoid g s (344 + 3 + l.toNat) (jz_t_leaf tt344 (by omega))) (fun hr27 ho27 => ?_)
      refine jj_if_eq (tgt := 36) dX7_safeHeight_30 (by decide) (fun h30 => ?_) (fun h30 => ?_)
      · have hg30 := bz_f h30
        refine jj_iconst dX7_safeHeight_36 (kk := ?_)
        refine jj_istore (ls' := [some (jr (0)), some (ji (l)), some (ji (n)), some (jr (344 + 3 + l.toNat)), some (ji (0)), none]) dX7_safeHeight_37 (by decide) rfl rfl ?_
        have L39 : ∀ (nn : Nat) (h : Nat) (s' : jz_St) (hh39_0 : h ≤ 10) (hh39_1 : fSa l n s 0 10 = fSa l n s' h (10 - h)) (hh39_2 : ∀ x, jOff 358 x → s' x = s x), 10 - h < nn → jz_Z g mX7_safeHeight (jq_ie (v_X7_safeHeight s l n) (f_X7_safeHeight s l n)) 39 [some (jr (0)), some (ji (l)), some (ji (n)), some (jr (344 + 3 + l.toNat)), some (ji ((h : Int))), none] [] s' := by
          intro nn
          induction nn with
          | zero => intro h s' hh39_0 hh39_1 hh39_2 hmz; exact absurd hmz (Nat.not_lt_zero _)
          | succ nn ih39 =>
            intro h s' hh39_0 hh39_1 hh39_2 hm39
            have hS' : jRng s' 344 (9 * s 344 6) := jRng_off hN (fun x _ _ => hh39_2 x (by unfold jOff; omega))
            have h6' : s' 344 6 = s 344 6 := by rw [hh39_2 344 (by unfold jOff; omega)]
            have hT' := take_rng (s := s') (k := 358) (by decide) hS'
            have hA2 : f_X5_take s' 358 344 358 2 = s 344 2 := by rw [take_k s' (by decide) (by decide) (by decide), hh39_2 344 (by unfold jOff; omega)]
            refine jj_iload dX7_safeHeight_39 rfl ?_
            refine jj_bipush dX7_safeHeight_41 (kk := ?_)
            refine jj_icmp_gt (tgt := 100) dX7_safeHeight_43 (by decide) (fun h43 => ?_) (fun h43 => ?_)
            · refine jj_ldc dX7_safeHeight_100 kk_X7_202 (kk := ?_)
              refine zz_retie dX7_safeHeight_102 rfl (by decide) ?_ ?_
              · unfold v_X7_safeHeight; rw [if_pos (by omega), if_neg hg30, hh39_1, show 10 - h = 0 by omega]; rfl
              · unfold f_X7_safeHeight; rw [if_pos (by omega), if_neg hg30, hh39_1, show 10 - h = 0 by omega]; rfl
            · refine jj_aload_n dX7_safeHeight_46 rfl ?_
              refine zz_getR dX7_safeHeight_47 kf_X7_43 tt0 rfl ?_
              refine jj_aload_n dX7_safeHeight_50 rfl ?_
              refine zz_getR dX7_safeHeight_51 kf_X7_39 tt0 rfl ?_
              refine jj_iload_n dX7_safeHeight_54 rfl ?_
              refine zz_cVr (av := [jr (344), ji (l)]) (st' := []) dX7_safeHeight_55 kn_X7_206 kmX5_leafIn tt358 rfl rfl rfl (Nat.le_of_ble_eq_true rfl) (by decide) rfl (c_X5_leafIn g s' 358 344 tt358 tt344 l) (fun ho55 => ?_)
              by_cases hc55 : 0 ≤ l ∧ l < (f_X5_take s' 358 344) 358 2 ∧ l < 7
              · refine jj_topO (o' := some (358 + 3 + l.toNat)) (if_pos hc55) ?_
                refine jj_astore (ls' := [some (jr (0)), some (ji (l)), some (ji (n)), some (jr (344 + 3 + l.toNat)), some (ji ((h : Int))), some (jr (358 + 3 + l.toNat))]) dX7_safeHeight_58 (by decide) rfl rfl ?_
                refine jj_aload dX7_safeHeight_60 rfl ?_
                refine jj_ifnonnull (o := some (358 + 3 + l.toNat)) (tgt := 68) dX7_safeHeight_62 (by decide) (fun _ _ => ?_) (fun h => by cases h)
                refine jj_aload dX7_safeHeight_68 rfl ?_
                refine jj_iload dX7_safeHeight_70 rfl ?_
                refine zz_putI dX7_safeHeight_72 kw_X7_162 (jz_t_leaf tt358 (by omega)) rfl rfl ?_
                refine jj_aload_n dX7_safeHeight_75 rfl ?_
                refine zz_getR dX7_safeHeight_76 kf_X7_43 tt0 rfl ?_
                refine jj_iload_n dX7_safeHeight_79 rfl ?_
                refine zz_cVv (av := [ji (n)]) (st' := []) dX7_safeHeight_80 kn_X7_210 kmX5_passHours tt358 rfl rfl rfl (Nat.le_of_ble_eq_true rfl) (by decide) rfl (by have q := c_X5_passHours g (jz_su (f_X5_take s' 358 344) (358 + 3 + l.toNat) 3 ((h : Int))) 358 tt358 (n).toNat (s' 344 6) (by omega) (su_rng hT' (by omega) (by decide) (fun q => absurd q (by decide))); rw [Int.toNat_of_nonneg (by omega)] at q; exact q) (fun ho80 => ?_)
                refine zz_st (s1 := fSaS s' l n h) (by rfl) ?_
                refine jj_aload dX7_safeHeight_83 rfl ?_
                refine zz_getI dX7_safeHeight_85 kf_X7_220 (jz_t_leaf tt358 (by omega)) rfl rfl ?_
                refine jj_if_ne (tgt := 94) dX7_safeHeight_88 (by decide) (fun h88 => ?_) (fun h88 => ?_)
                · refine jj_iinc (ls' := [some (jr (0)), some (ji (l)), some (ji (n)), some (jr (344 + 3 + l.toNat)), some (ji ((h : Int) + 1)), some (jr (358 + 3 + l.toNat))]) dX7_safeHeight_94 rfl (by decide) rfl (by omega) rfl ?_
                  refine jj_goto (tgt := 39) dX7_safeHeight_97 (by decide) ?_
                  refine jj_fgt (i := 5) (ls' := [some (jr (0)), some (ji (l)), some (ji (n)), some (jr (344 + 3 + l.toNat)), some (ji ((h : Int) + 1)), none]) rfl ?_
                  exact ih39 (h + 1) (fSaS s' l n h) (by omega) (by rw [hh39_1, show 10 - h = (10 - (h + 1)) + 1 by omega]; simp only [fSa]; rw [if_neg h88]) (by intro x hx; rw [fSaS_off (by omega) hx]; exact hh39_2 x hx) (by omega)
                · refine jj_iload dX7_safeHeight_91 rfl ?_
                  refine zz_retie dX7_safeHeight_93 rfl (by decide) ?_ ?_
                  · unfold v_X7_safeHeight; rw [if_pos (by omega), if_neg hg30, hh39_1, show 10 - h = (10 - (h + 1)) + 1 by omega]; simp only [fSa]; rw [if_pos h88]
                  · unfold f_X7_safeHeight; rw [if_pos (by omega), if_neg hg30, hh39_1, show 10 - h = (10 - (h + 1)) + 1 by omega]; simp only [fSa]; rw [if_pos h88]
              · refine jj_topO (o' := none) (if_neg hc55) ?_
                refine jj_astoreO (ls' := [some (jr (0)), some (ji (l)), some (ji (n)), some (jr (344 + 3 + l.toNat)), some (ji ((h : Int))), some (jn)]) dX7_safeHeight_58 (by decide) rfl rfl ?_
                refine jj_aloadO dX7_safeHeight_60 rfl ?_
                refine jj_ifnonnull (o := none) (tgt := 68) dX7_safeHeight_62 (by decide) (fun _ h => by cases h) (fun _ => ?_)
                refine jj_ldc dX7_safeHeight_65 kk_X7_61 (kk := ?_)
                refine zz_retie dX7_safeHeight_67 rfl (by decide) ?_ ?_
                · exfalso; omega
                · exfalso; omega
        exact L39 _ 0 s (by omega) (by rfl) (by intro x _; rfl) (Nat.lt_succ_self _)
      · have hg30 := bz_t h30
        refine jj_ldc dX7_safeHeight_33 kk_X7_138 (kk := ?_)
        refine zz_retie dX7_safeHeight_35 rfl (by decide) ?_ ?_
        · unfold v_X7_safeHeight; (repeat (first | rw [if_pos (by omega)] | rw [if_neg (by omega)])) <;> first | rfl | done
        · unfold f_X7_safeHeight; (repeat (first | rw [if_pos (by omega)] | rw [if_neg (by omega)])) <;> first | rfl | done
    · have hg20 := bz_f h20
      refine jj_ldc dX7_safeHeight_23 kk_X7_61 (kk := ?_)
      refine zz_retie dX7_safeHeight_25 rfl (by decide) ?_ ?_
      · unfold v_X7_safeHeight; (repeat (first | rw [if_pos (by omega)] | rw [if_neg (by omega)])) <;> first | rfl | done
      · unfold f_X7_safeHeight; (repeat (first | rw [if_pos (by omega)] | rw [if_neg (by omega)])) <;> first | rfl | done
  · refine jj_topO (o' := none) (if_neg hc5) ?_
    refine jj_astore_nO (ls' := [some (jr (0)), some (ji (l)), some (ji (n)), some (jn), none, none]) dX7_safeHeight_8 (by decide) rfl rfl ?_
    refine jj_aload_nO dX7_safeHeight_9 rfl ?_
    refine jj_ifnull (o := none) (tgt := 23) dX7_safeHeight_10 (by decide) (fun _ => ?_) (fun _ h => by cases h)
    refine jj_ldc dX7_safeHeight_23 kk_X7_61 (kk := ?_)
    refine zz_retie dX7_safeHeight_25 rfl (by decide) ?_ ?_
    · unfold v_X7_safeHeight; (repeat (first | rw [if_pos (by omega)] | rw [if_neg (by omega)])) <;> first | rfl | done
    · unfold f_X7_safeHeight; (repeat (first | rw [if_pos (by omega)] | rw [if_neg (by omega)])) <;> first | rfl | done

