set_option maxRecDepth 100000 in
set_option maxHeartbeats 4000000 in
theorem c_X8_began (g : jz_G) (s : jz_St) (z : Int) (hT : mTr s) : jz_C g mX8_began [jr (416), ji (z)] s (jq_ve (f_X8_bg s z)) := by
  refine zz_C_of koX8_began rfl (Nat.le_of_ble_eq_true rfl) ?_
  refine zz_pad 0 ?_
  show jz_Z g mX8_began (jq_ve (f_X8_bg s z)) 0 [some (jr (416)), some (ji (z))] [] s
  unfold mTr at hT
  refine jj_aload_n dX8_began_0 rfl ?_
  refine zz_getI dX8_began_1 kf_X8_255 tt416 rfl rfl ?_
  refine jj_bipush dX8_began_4 (kk := ?_)
  refine jj_icmp_ge (tgt := 29) dX8_began_6 (by decide) (fun h6 => ?_) (fun h6 => ?_)
  · refine zz_retve dX8_began_29 rfl (by decide) ?_
    · unfold f_X8_bg; first | (rw [if_pos (by omega)]; done) | (rw [if_neg (by omega)]; done)
  · refine jj_aload_n dX8_began_9 rfl ?_
    refine zz_getR dX8_began_10 kf_X8_47 tt416 rfl ?_
    refine jj_aload_n dX8_began_13 rfl ?_
    refine zz_getI dX8_began_14 kf_X8_255 tt416 rfl rfl ?_
    refine jj_iload_n dX8_began_17 rfl ?_
    refine zz_iastN (j := (s 416 24).toNat) dX8_began_18 tt429 (by omega) (by omega) ?_
    refine jj_aload_n dX8_began_19 rfl ?_
    refine jj_dup dX8_began_20 (kk := ?_)
    refine zz_getI dX8_began_21 kf_X8_255 tt416 rfl rfl ?_
    refine zz_top (b := s 416 24) (jz_su_n (Or.inl (by decide))) ?_
    refine jj_iconst dX8_began_24 (kk := ?_)
    refine jj_iadd dX8_began_25 (by omega) ?_
    refine zz_putI dX8_began_26 kw_X8_255 tt416 rfl rfl ?_
    refine zz_retve dX8_began_29 rfl (by decide) ?_
    · unfold f_X8_bg; first | (rw [if_pos (by omega)]; done) | (rw [if_neg (by omega)]; done)

set_option maxRecDepth 100000 in
set_option maxHeartbeats 4000000 in
theorem c_X8_plainSize (g : jz_G) (s : jz_St) (l : Nat) (li : Int) (hl : li = l) (h : l < 7) (b : Int) (hm : mRw (s 420) b) (hT : mTr s)  : jz_C g mX8_plainSize [jr (416), ji (li)] s (jq_ie (s 420 (6 + 5 * l + 1)) (f_X8_bg s 10)) := by
  refine zz_C_of koX8_plainSize rfl (Nat.le_of_ble_eq_true rfl) ?_
  refine zz_pad 0 ?_
  show jz_Z g mX8_plainSize (jq_ie (s 420 (6 + 5 * l + 1)) (f_X8_bg s 10)) 0 [some (jr (416)), some (ji (li))] [] s
  have hml := mRw_l hm l h
  refine jj_aload_n dX8_plainSize_0 rfl ?_
  refine jj_bipush dX8_plainSize_1 (kk := ?_)
  refine zz_cVv (av := [ji (10)]) (st' := []) dX8_plainSize_3 kn_X8_258 kmX8_began tt416 rfl rfl rfl (Nat.le_of_ble_eq_true rfl) (by decide) rfl (c_X8_began g s 10 hT) (fun ho3 => ?_)
  refine jj_aload_n dX8_plainSize_6 rfl ?_
  refine zz_getR dX8_plainSize_7 kf_X8_19 tt416 rfl ?_
  refine jj_iload_n dX8_plainSize_10 rfl ?_
  refine jj_iconst dX8_plainSize_11 (kk := ?_)
  refine zz_cSi (av := [jr (420), ji (li), ji (1)]) (st' := []) dX8_plainSize_12 kn_X8_155 kmX8_of rfl rfl (Nat.le_of_ble_eq_true rfl) (by decide) rfl (c_X8_of g (f_X8_bg s 10) 420 (Or.inl rfl) li 1 (6 + 5 * l + 1) (by omega) (by omega)) (fun hr12 ho12 => ?_)
  refine zz_top (b := s 420 (6 + 5 * l + 1)) (by rw [bg_o _ _ (by decide) (by decide)]) ?_
  refine zz_retie dX8_plainSize_15 rfl (by decide) ?_ ?_
  · rfl
  · rfl

set_option maxRecDepth 100000 in
set_option maxHeartbeats 4000000 in
theorem c_X8_bitterSize (g : jz_G) (s : jz_St) (l : Nat) (li : Int) (hl : li = l) (h : l < 7) (b : Int) (hm : mRw (s 420) b) (hT : mTr s)  : jz_C g mX8_bitterSize [jr (416), ji (li)] s (jq_ie (v_X8_bs s l) (f_X8_bs s l)) := by
  refine zz_C_of koX8_bitterSize rfl (Nat.le_of_ble_eq_true rfl) ?_
  refine zz_pad 2 ?_
  show jz_Z g mX8_bitterSize (jq_ie (v_X8_bs s l) (f_X8_bs s l)) 0 [some (jr (416)), some (ji (li)), none, none] [] s
  have hml := mRw_l hm l h
  refine jj_aload_n dX8_bitterSize_0 rfl ?_
  refine zz_getR dX8_bitterSize_1 kf_X8_19 tt416 rfl ?_
  refine jj_iload_n dX8_bitterSize_4 rfl ?_
  refine jj_iconst dX8_bitterSize_5 (kk := ?_)
  refine zz_cSi (av := [jr (420), ji (li), ji (0)]) (st' := []) dX8_bitterSize_6 kn_X8_155 kmX8_of rfl rfl (Nat.le_of_ble_eq_true rfl) (by decide) rfl (c_X8_of g s 420 (Or.inl rfl) li 0 (6 + 5 * l) (by omega) (by omega)) (fun hr6 ho6 => ?_)
  have L18 : ∀ (t : Int) (hh18_0 : t = if s 420 (6 + 5 * l) = 5 then 1 else 0), jz_Z g mX8_bitterSize (jq_ie (v_X8_bs s l) (f_X8_bs s l)) 18 [some (jr (416)), some (ji (li)), none, none] [ji (t)] s := by
    intro t hh18_0
    refine jj_istore_n (ls' := [some (jr (416)), some (ji (li)), some (ji (t)), none]) dX8_bitterSize_18 (by decide) rfl rfl ?_
    have L29 : ∀ (sx : jz_St) (hh29_0 : sx = f_X8_bs1 s l), jz_Z g mX8_bitterSize (jq_ie (v_X8_bs s l) (f_X8_bs s l)) 29 [some (jr (416)), some (ji (li)), some (ji (t)), none] [] sx := by
      intro sx hh29_0
      subst hh29_0
      refine jj_aload_n dX8_bitterSize_29 rfl ?_
      refine jj_bipush dX8_bitterSize_30 (kk := ?_)
      refine zz_cVv (av := [ji (13)]) (st' := []) dX8_bitterSize_32 kn_X8_258 kmX8_began tt416 rfl rfl rfl (Nat.le_of_ble_eq_true rfl) (by decide) rfl (c_X8_began g (f_X8_bs1 s l) 13 (tr_bs1 hT)) (fun ho32 => ?_)
      have h420 : (f_X8_bg (f_X8_bs1 s l) 13) 420 = s 420 := by rw [bg_o _ _ (by decide) (by decide), bs1_o _ _ (by decide) (by decide)]
      refine jj_aload_n dX8_bitterSize_35 rfl ?_
      refine jj_iload_n dX8_bitterSize_36 rfl ?_
      refine zz_cVi (av := [ji (li)]) (st' := []) dX8_bitterSize_37 kn_X8_261 kmX8_plainSize tt416 rfl rfl rfl (Nat.le_of_ble_eq_true rfl) (by decide) rfl (c_X8_plainSize g (f_X8_bg (f_X8_bs1 s l) 13) l li (by omega) (by omega) b (by rw [h420]; exact hm) (tr_bg (tr_bs1 hT))) (fun hr37 ho37 => ?_)
      refine zz_top (b := s 420 (6 + 5 * l + 1)) (by rw [h420]) ?_
      refine jj_bipush dX8_bitterSize_40 (kk := ?_)
      refine jj_isub dX8_bitterSize_42 (by omega) ?_
      refine jj_istore_n (ls' := [some (jr (416)), some (ji (li)), some (ji (t)), some (ji ((s 420 (6 + 5 * l + 1)) - 100))]) dX8_bitterSize_43 (by decide) rfl rfl ?_
      refine jj_iload_n dX8_bitterSize_44 rfl ?_
      refine jj_if_eq (tgt := 54) dX8_bitterSize_45 (by decide) (fun h45 => ?_) (fun h45 => ?_)
      · refine jj_iload_n dX8_bitterSize_54 rfl ?_
        refine zz_retie dX8_bitterSize_55 rfl (by decide) ?_ ?_
        · unfold v_X8_bs; first | (rw [if_pos (by omega)]; done) | (rw [if_neg (by omega)]; done)
        · rfl
      · refine jj_iconst dX8_bitterSize_48 (kk := ?_)
        refine jj_iload_n dX8_bitterSize_49 rfl ?_
        refine jj_imul dX8_bitterSize_50 (by omega) ?_
        refine jj_goto (tgt := 55) dX8_bitterSize_51 (by decide) ?_
        refine zz_retie dX8_bitterSize_55 rfl (by decide) ?_ ?_
        · unfold v_X8_bs; first | (rw [if_pos (by omega)]; done) | (rw [if_neg (by omega)]; done)
        · rfl
    refine jj_iload_n dX8_bitterSize_19 rfl ?_
    refine jj_if_eq (tgt := 29) dX8_bitterSize_20 (by decide) (fun h20 => ?_) (fun h20 => ?_)
    · exact L29 s (by unfold f_X8_bs1; first | (rw [if_pos (by omega)]; done) | (rw [if_neg (by omega)]; done))
    · refine jj_aload_n dX8_bitterSize_23 rfl ?_
      refine jj_bipush dX8_bitterSize_24 (kk := ?_)
      refine zz_cVv (av := [ji (14)]) (st' := []) dX8_bitterSize_26 kn_X8_258 kmX8_began tt416 rfl rfl rfl (Nat.le_of_ble_eq_true rfl) (by decide) rfl (c_X8_began g s 14 hT) (fun ho26 => ?_)
      exact L29 (f_X8_bg s 14) (by unfold f_X8_bs1; first | (rw [if_pos (by omega)]; done) | (rw [if_neg (by omega)]; done))
  refine jj_iconst dX8_bitterSize_9 (kk := ?_)
  refine jj_icmp_ne (tgt := 17) dX8_bitterSize_10 (by decide) (fun h10 => ?_) (fun h10 => ?_)
  · refine jj_iconst dX8_bitterSize_17 (kk := ?_)
    exact L18 0 (by first | (rw [if_pos (by omega)]; done) | (rw [if_neg (by omega)]; done))
  · refine jj_iconst dX8_bitterSize_13 (kk := ?_)
    refine jj_goto (tgt := 18) dX8_bitterSize_14 (by decide) ?_
    exact L18 1 (by first | (rw [if_pos (by omega)]; done) | (rw [if_neg (by omega)]; done))

set_option maxRecDepth 100000 in
set_option maxHeartbeats 4000000 in
theorem c_X8_markOf (g : jz_G) (s : jz_St) (l : Nat) (li : Int) (hl : li = l) (h : l < 7) (b : Int) (hm : mRw (s 420) b) (hT : mTr s)  : jz_C g mX8_markOf [jr (416), ji (li)] s (jq_ie (v_X8_mk s l) (f_X8_mk s l)) := by
  refine zz_C_of koX8_markOf rfl (Nat.le_of_ble_eq_true rfl) ?_
  refine zz_pad 2 ?_
  show jz_Z g mX8_markOf (jq_ie (v_X8_mk s l) (f_X8_mk s l)) 0 [some (jr (416)), some (ji (li)), none, none] [] s
  have hml := mRw_l hm l h
  refine jj_aload_n dX8_markOf_0 rfl ?_
  refine zz_getR dX8_markOf_1 kf_X8_19 tt416 rfl ?_
  refine jj_iload_n dX8_markOf_4 rfl ?_
  refine jj_iconst dX8_markOf_5 (kk := ?_)
  refine zz_cSi (av := [jr (420), ji (li), ji (0)]) (st' := []) dX8_markOf_6 kn_X8_155 kmX8_of rfl rfl (Nat.le_of_ble_eq_true rfl) (by decide) rfl (c_X8_of g s 420 (Or.inl rfl) li 0 (6 + 5 * l) (by omega) (by omega)) (fun hr6 ho6 => ?_)
  refine jj_istore_n (ls' := [some (jr (416)), some (ji (li)), some (ji (s 420 (6 + 5 * l))), none]) dX8_markOf_9 (by decide) rfl rfl ?_
  refine jj_iload_n dX8_markOf_10 rfl ?_
  refine jj_iconst dX8_markOf_11 (kk := ?_)
  refine jj_icmp_lt (tgt := 35) dX8_markOf_12 (by decide) (fun h12 => ?_) (fun h12 => ?_)
  · have L56 : ∀ (sx : jz_St) (hh56_0 : sx = f_X8_mk1 s l), jz_Z g mX8_markOf (jq_ie (v_X8_mk s l) (f_X8_mk s l)) 56 [some (jr (416)), some (ji (li)), some (ji (s 420 (6 + 5 * l))), none] [] sx := by
      intro sx hh56_0
      subst hh56_0
      refine jj_aload_n dX8_markOf_56 rfl ?_
      refine jj_bipush dX8_markOf_57 (kk := ?_)
      refine zz_cVv (av := [ji (21)]) (st' := []) dX8_markOf_59 kn_X8_258 kmX8_began tt416 rfl rfl rfl (Nat.le_of_ble_eq_true rfl) (by decide) rfl (c_X8_began g (f_X8_mk1 s l) 21 (tr_mk1 hT)) (fun ho59 => ?_)
      refine jj_aload_n dX8_markOf_62 rfl ?_
      refine jj_bipush dX8_markOf_63 (kk := ?_)
      refine zz_cVv (av := [ji (20)]) (st' := []) dX8_markOf_65 kn_X8_258 kmX8_began tt416 rfl rfl rfl (Nat.le_of_ble_eq_true rfl) (by decide) rfl (c_X8_began g (f_X8_bg (f_X8_mk1 s l) 21) 20 (tr_bg (tr_mk1 hT))) (fun ho65 => ?_)
      have h420 : (f_X8_bg (f_X8_bg (f_X8_mk1 s l) 21) 20) 420 = s 420 := by rw [bg_o _ _ (by decide) (by decide), bg_o _ _ (by decide) (by decide), mk1_o _ _ (by decide) (by decide)]
      refine jj_iload_n dX8_markOf_68 rfl ?_
      refine jj_aload_n dX8_markOf_69 rfl ?_
      refine zz_getR dX8_markOf_70 kf_X8_19 tt416 rfl ?_
      refine jj_iload_n dX8_markOf_73 rfl ?_
      refine jj_iconst dX8_markOf_74 (kk := ?_)
      refine zz_cSi (av := [jr (420), ji (li), ji (4)]) (st' := [ji (li)]) dX8_markOf_75 kn_X8_155 kmX8_of rfl rfl (Nat.le_of_ble_eq_true rfl) (by decide) rfl (c_X8_of g (f_X8_bg (f_X8_bg (f_X8_mk1 s l) 21) 20) 420 (Or.inl rfl) li 4 (6 + 5 * l + 4) (by omega) (by omega)) (fun hr75 ho75 => ?_)
      refine zz_top (b := s 420 (6 + 5 * l + 4)) (by rw [h420]) ?_
      refine jj_iadd dX8_markOf_78 (by omega) ?_
      refine jj_istore_n (ls' := [some (jr (416)), some (ji (li)), some (ji (s 420 (6 + 5 * l))), some (ji (li + (s 420 (6 + 5 * l + 4))))]) dX8_markOf_79 (by decide) rfl rfl ?_
      refine jj_iload_n dX8_markOf_80 rfl ?_
      refine jj_iconst dX8_markOf_81 (kk := ?_)
      refine jj_icmp_ne (tgt := 89) dX8_markOf_82 (by decide) (fun h82 => ?_) (fun h82 => ?_)
      · refine jj_iload_n dX8_markOf_89 rfl ?_
        refine jj_iconst dX8_markOf_90 (kk := ?_)
        refine jj_icmp_ne (tgt := 102) dX8_markOf_91 (by decide) (fun h91 => ?_) (fun h91 => ?_)
        · refine jj_iconst dX8_markOf_102 (kk := ?_)
          refine jj_iload_n dX8_markOf_103 rfl ?_
          refine jj_imul dX8_markOf_104 (by omega) ?_
          refine zz_retie dX8_markOf_105 rfl (by decide) ?_ ?_
          · unfold v_X8_mk; rw [if_neg (by omega)]; first | (rw [if_pos (by omega)]; omega) | (rw [if_neg (by omega), if_pos (by omega)]; omega) | (rw [if_neg (by omega), if_neg (by omega)]; omega)
          · unfold f_X8_mk; rw [if_neg (by omega)]
        · refine jj_iload_n dX8_markOf_94 rfl ?_
          refine jj_sipush dX8_markOf_95 (kk := ?_)
          refine jj_isub dX8_markOf_98 (by omega) ?_
          refine jj_goto (tgt := 105) dX8_markOf_99 (by decide) ?_
          refine zz_retie dX8_markOf_105 rfl (by decide) ?_ ?_
          · unfold v_X8_mk; rw [if_neg (by omega)]; first | (rw [if_pos (by omega)]; omega) | (rw [if_neg (by omega), if_pos (by omega)]; omega) | (rw [if_neg (by omega), if_neg (by omega)]; omega)
          · unfold f_X8_mk; rw [if_neg (by omega)]
      · refine jj_iload_n dX8_markOf_85 rfl ?_
        refine jj_goto (tgt := 105) dX8_markOf_86 (by decide) ?_
        refine zz_retie dX8_markOf_105 rfl (by decide) ?_ ?_
        · unfold v_X8_mk; rw [if_neg (by omega)]; first | (rw [if_pos (by omega)]; omega) | (rw [if_neg (by omega), if_pos (by omega)]; omega) | (rw [if_neg (by omega), if_neg (by omega)]; omega)
        · unfold f_X8_mk; rw [if_neg (by omega)]
    refine jj_iload_n dX8_markOf_35 rfl ?_
    refine jj_iconst dX8_markOf_36 (kk := ?_)
    refine jj_icmp_eq (tgt := 56) dX8_markOf_37 (by decide) (fun h37 => ?_) (fun h37 => ?_)
    · exact L56 s (by unfold f_X8_mk1; first | (rw [if_pos (by omega)]; done) | (rw [if_neg (by omega), ← hh53_0]; done))
    · refine jj_aload_n dX8_markOf_40 rfl ?_
      have L53 : ∀ (y : Int) (hh53_0 : y = if s 420 (6 + 5 * l) = 3 then 22 else 24), jz_Z g mX8_markOf (jq_ie (v_X8_mk s l) (f_X8_mk s l)) 53 [some (jr (416)), some (ji (li)), some (ji (s 420 (6 + 5 * l))), none] [ji (y), jr (416)] s := by
        intro y hh53_0
        refine zz_cVv (av := [ji (y)]) (st' := []) dX8_markOf_53 kn_X8_258 kmX8_began tt416 rfl rfl rfl (Nat.le_of_ble_eq_true rfl) (by decide) rfl (c_X8_began g s y hT) (fun ho53 => ?_)
        exact L56 (f_X8_bg s y) (by unfold f_X8_mk1; first | (rw [if_pos (by omega)]; done) | (rw [if_neg (by omega), ← hh53_0]; done))
      refine jj_iload_n dX8_markOf_41 rfl ?_
      refine jj_iconst dX8_markOf_42 (kk := ?_)
      refine jj_icmp_ne (tgt := 51) dX8_markOf_43 (by decide) (fun h43 => ?_) (fun h43 => ?_)
      · refine jj_bipush dX8_markOf_51 (kk := ?_)
        exact L53 24 (by first | (rw [if_pos (by omega)]; done) | (rw [if_neg (by omega)]; done))
      · refine jj_bipush dX8_markOf_46 (kk := ?_)
        refine jj_goto (tgt := 53) dX8_markOf_48 (by decide) ?_
        exact L53 22 (by first | (rw [if_pos (by omega)]; done) | (rw [if_neg (by omega)]; done))
  · refine jj_aload_n dX8_markOf_15 rfl ?_
    refine jj_bipush dX8_markOf_16 (kk := ?_)
    refine zz_cVv (av := [ji (23)]) (st' := []) dX8_markOf_18 kn_X8_258 kmX8_began tt416 rfl rfl rfl (Nat.le_of_ble_eq_true rfl) (by decide) rfl (c_X8_began g s 23 hT) (fun ho18 => ?_)
    refine jj_aload_n dX8_markOf_21 rfl ?_
    refine jj_bipush dX8_markOf_22 (kk := ?_)
    refine zz_cVv (av := [ji (20)]) (st' := []) dX8_markOf_24 kn_X8_258 kmX8_began tt416 rfl rfl rfl (Nat.le_of_ble_eq_true rfl) (by decide) rfl (c_X8_began g (f_X8_bg s 23) 20 (tr_bg hT)) (fun ho24 => ?_)
    have h420 : (f_X8_bg (f_X8_bg s 23) 20) 420 = s 420 := by rw [bg_o _ _ (by decide) (by decide), bg_o _ _ (by decide) (by decide)]
    have hvb : v_X8_bs s l = if s 420 (6 + 5 * l) = 5 then 2 * (s 420 (6 + 5 * l + 1) - 100) else s 420 (6 + 5 * l + 1) - 100 := rfl
    refine jj_iload_n dX8_markOf_27 rfl ?_
    refine jj_aload_n dX8_markOf_28 rfl ?_
    refine jj_iload_n dX8_markOf_29 rfl ?_
    refine zz_cVi (av := [ji (li)]) (st' := [ji (li)]) dX8_markOf_30 kn_X8_264 kmX8_bitterSize tt416 rfl rfl rfl (Nat.le_of_ble_eq_true rfl) (by decide) rfl (c_X8_bitterSize g (f_X8_bg (f_X8_bg s 23) 20) l li (by omega) (by omega) b (by rw [h420]; exact hm) (tr_bg (tr_bg hT))) (fun hr30 ho30 => ?_)
    refine zz_top (b := v_X8_bs s l) (by exact vbs_e l h420) ?_
    refine jj_isub dX8_markOf_33 (by split at hvb <;> omega) ?_
    refine zz_retie dX8_markOf_34 rfl (by decide) ?_ ?_
    · unfold v_X8_mk; rw [if_pos (by omega)]; omega
    · unfold f_X8_mk; rw [if_pos (by omega)]

theorem vbs_rng {s : jz_St} {b : Int} {l : Nat} (hm : mRw (s 420) b) (h : l < 7) : -200 ≤ v_X8_bs s l ∧ v_X8_bs s l ≤ 0 := by
  have := mRw_l hm l h
  unfold v_X8_bs
  split <;> omega
theorem vmk_rng {s : jz_St} {b : Int} {l : Nat} (hm : mRw (s 420) b) (h : l < 7) : -2000 ≤ v_X8_mk s l ∧ v_X8_mk s l ≤ 2000 := by
  have h1 := mRw_l hm l h
  have h2 := vbs_rng hm h
  unfold v_X8_mk
  (repeat' split) <;> omega
set_option maxRecDepth 100000 in
set_option maxHeartbeats 4000000 in
theorem c_X8_sizeOf (g : jz_G) (s : jz_St) (l : Nat) (li : Int) (hl : li = l) (h : l < 7) (b : Int) (hm : mRw (s 420) b) (hT : mTr s)  : jz_C g mX8_sizeOf [jr (416), ji (li)] s (jq_ie (v_X8_sz s l) (f_X8_sz s l)) := by
  refine zz_C_of koX8_sizeOf rfl (Nat.le_of_ble_eq_true rfl) ?_
  refine zz_pad 2 ?_
  show jz_Z g mX8_sizeOf (jq_ie (v_X8_sz s l) (f_X8_sz s l)) 0 [some (jr (416)), some (ji (li)), none, none] [] s
  have hml := mRw_l hm l h
  refine jj_aload_n dX8_sizeOf_0 rfl ?_
  refine zz_getR dX8_sizeOf_1 kf_X8_19 tt416 rfl ?_
  refine jj_iload_n dX8_sizeOf_4 rfl ?_
  refine jj_iconst dX8_sizeOf_5 (kk := ?_)
  refine zz_cSi (av := [jr (420), ji (li), ji (0)]) (st' := []) dX8_sizeOf_6 kn_X8_155 kmX8_of rfl rfl (Nat.le_of_ble_eq_true rfl) (by decide) rfl (c_X8_of g s 420 (Or.inl rfl) li 0 (6 + 5 * l) (by omega) (by omega)) (fun hr6 ho6 => ?_)
  refine jj_istore_n (ls' := [some (jr (416)), some (ji (li)), some (ji (s 420 (6 + 5 * l))), none]) dX8_sizeOf_9 (by decide) rfl rfl ?_
  refine jj_iload_n dX8_sizeOf_10 rfl ?_
  refine jj_iconst dX8_sizeOf_11 (kk := ?_)
  refine jj_icmp_lt (tgt := 21) dX8_sizeOf_12 (by decide) (fun h12 => ?_) (fun h12 => ?_)
  · have L32 : ∀ (sx : jz_St) (hh32_0 : sx = f_X8_sz1 s l), jz_Z g mX8_sizeOf (jq_ie (v_X8_sz s l) (f_X8_sz s l)) 32 [some (jr (416)), some (ji (li)), some (ji (s 420 (6 + 5 * l))), none] [] sx := by
      intro sx hh32_0
      subst hh32_0
      refine jj_aload_n dX8_sizeOf_32 rfl ?_
      refine jj_bipush dX8_sizeOf_33 (kk := ?_)
      refine zz_cVv (av := [ji (11)]) (st' := []) dX8_sizeOf_35 kn_X8_258 kmX8_began tt416 rfl rfl rfl (Nat.le_of_ble_eq_true rfl) (by decide) rfl (c_X8_began g (f_X8_sz1 s l) 11 (tr_sz1 hT)) (fun ho35 => ?_)
      have h420 : (f_X8_bg (f_X8_sz1 s l) 11) 420 = s 420 := by rw [bg_o _ _ (by decide) (by decide), sz1_o _ _ (by decide) (by decide)]
      have h421 : (f_X8_bg (f_X8_bg (f_X8_sz1 s l) 11) 10) 420 = s 420 := by rw [bg_o _ _ (by decide) (by decide), h420]
      have hvm := vmk_rng hm h
      refine jj_aload_n dX8_sizeOf_38 rfl ?_
      refine jj_iload_n dX8_sizeOf_39 rfl ?_
      refine zz_cVi (av := [ji (li)]) (st' := []) dX8_sizeOf_40 kn_X8_261 kmX8_plainSize tt416 rfl rfl rfl (Nat.le_of_ble_eq_true rfl) (by decide) rfl (c_X8_plainSize g (f_X8_bg (f_X8_sz1 s l) 11) l li (by omega) (by omega) b (by rw [h420]; exact hm) (tr_bg (tr_sz1 hT))) (fun hr40 ho40 => ?_)
      refine zz_top (b := s 420 (6 + 5 * l + 1)) (by rw [h420]) ?_
      refine jj_istore_n (ls' := [some (jr (416)), some (ji (li)), some (ji (s 420 (6 + 5 * l))), some (ji (s 420 (6 + 5 * l + 1)))]) dX8_sizeOf_43 (by decide) rfl rfl ?_
      refine jj_iload_n dX8_sizeOf_44 rfl ?_
      refine jj_aload_n dX8_sizeOf_45 rfl ?_
      refine jj_iload_n dX8_sizeOf_46 rfl ?_
      refine zz_cVi (av := [ji (li)]) (st' := [ji (s 420 (6 + 5 * l + 1))]) dX8_sizeOf_47 kn_X8_267 kmX8_markOf tt416 rfl rfl rfl (Nat.le_of_ble_eq_true rfl) (by decide) rfl (c_X8_markOf g (f_X8_bg (f_X8_bg (f_X8_sz1 s l) 11) 10) l li (by omega) (by omega) b (by rw [h421]; exact hm) (tr_bg (tr_bg (tr_sz1 hT)))) (fun hr47 ho47 => ?_)
      refine zz_top (b := v_X8_mk s l) (by exact vmk_e l h421) ?_
      refine jj_iadd dX8_sizeOf_50 (by omega) ?_
      refine jj_istore_n (ls' := [some (jr (416)), some (ji (li)), some (ji (s 420 (6 + 5 * l))), some (ji ((s 420 (6 + 5 * l + 1)) + (v_X8_mk s l)))]) dX8_sizeOf_51 (by decide) rfl rfl ?_
      refine jj_iload_n dX8_sizeOf_52 rfl ?_
      refine jj_iconst dX8_sizeOf_53 (kk := ?_)
      refine jj_icmp_ne (tgt := 62) dX8_sizeOf_54 (by decide) (fun h54 => ?_) (fun h54 => ?_)
      · refine jj_iload_n dX8_sizeOf_62 rfl ?_
        refine zz_retie dX8_sizeOf_63 rfl (by decide) ?_ ?_
        · unfold v_X8_sz; rw [if_neg (by omega)]; first | (rw [if_pos (by omega)]; done) | (rw [if_neg (by omega)]; done)
        · unfold f_X8_sz; rw [if_neg (by omega)]
      · refine jj_iload_n dX8_sizeOf_57 rfl ?_
        refine jj_ineg dX8_sizeOf_58 (by omega) ?_
        refine jj_goto (tgt := 63) dX8_sizeOf_59 (by decide) ?_
        refine zz_retie dX8_sizeOf_63 rfl (by decide) ?_ ?_
        · unfold v_X8_sz; rw [if_neg (by omega)]; first | (rw [if_pos (by omega)]; done) | (rw [if_neg (by omega)]; done)
        · unfold f_X8_sz; rw [if_neg (by omega)]
    refine jj_iload_n dX8_sizeOf_21 rfl ?_
    refine jj_iconst dX8_sizeOf_22 (kk := ?_)
    refine jj_icmp_ne (tgt := 32) dX8_sizeOf_23 (by decide) (fun h23 => ?_) (fun h23 => ?_)
    · exact L32 s (by unfold f_X8_sz1; first | (rw [if_pos (by omega)]; done) | (rw [if_neg (by omega)]; done))
    · refine jj_aload_n dX8_sizeOf_26 rfl ?_
      refine jj_bipush dX8_sizeOf_27 (kk := ?_)
      refine zz_cVv (av := [ji (12)]) (st' := []) dX8_sizeOf_29 kn_X8_258 kmX8_began tt416 rfl rfl rfl (Nat.le_of_ble_eq_true rfl) (by decide) rfl (c_X8_began g s 12 hT) (fun ho29 => ?_)
      exact L32 (f_X8_bg s 12) (by unfold f_X8_sz1; first | (rw [if_pos (by omega)]; done) | (rw [if_neg (by omega)]; done))
  · refine jj_aload_n dX8_sizeOf_15 rfl ?_
    refine jj_iload_n dX8_sizeOf_16 rfl ?_
    refine zz_cVi (av := [ji (li)]) (st' := []) dX8_sizeOf_17 kn_X8_264 kmX8_bitterSize tt416 rfl rfl rfl (Nat.le_of_ble_eq_true rfl) (by decide) rfl (c_X8_bitterSize g s l li (by omega) (by omega) b hm hT) (fun hr17 ho17 => ?_)
    refine zz_retie dX8_sizeOf_20 rfl (by decide) ?_ ?_
    · unfold v_X8_sz; rw [if_pos (by omega)]
    · unfold f_X8_sz; rw [if_pos (by omega)]

def v_X8_ask (s : jz_St) (l w : Int) : Int := if (0 ≤ l ∧ l ≤ s 420 3 - 1) ∧ 0 ≤ w ∧ w ≤ 1 then (if w = 0 then v_X8_sz (jz_su s 416 24 0) l.toNat else v_X8_mk (jz_su s 416 24 0) l.toNat) else -1000001
def f_X8_ask (s : jz_St) (l w : Int) : jz_St := if (0 ≤ l ∧ l ≤ s 420 3 - 1) ∧ 0 ≤ w ∧ w ≤ 1 then (if w = 0 then f_X8_sz (jz_su s 416 24 0) l.toNat else f_X8_mk (jz_su s 416 24 0) l.toNat) else s
set_option maxRecDepth 100000 in
set_option maxHeartbeats 4000000 in
theorem c_X8_ask (g : jz_G) (s : jz_St) (l w : Int) (hM : mIn s)  : jz_C g mX8_ask [jr (416), ji (l), ji (w)] s (jq_ie (v_X8_ask s l w) (f_X8_ask s l w)) := by
  refine zz_C_of koX8_ask rfl (Nat.le_of_ble_eq_true rfl) ?_
  refine zz_pad 0 ?_
  show jz_Z g mX8_ask (jq_ie (v_X8_ask s l w) (f_X8_ask s l w)) 0 [some (jr (416)), some (ji (l)), some (ji (w))] [] s
  have hL := hM.1
  have hm := hM.2.1
  have ha := hM.2.2.1
  have htr := hM.2.2.2
  have hmh := mRw_h hm
  refine jj_aload_n dX8_ask_0 rfl ?_
  refine jj_iconst dX8_ask_1 (kk := ?_)
  refine zz_putI dX8_ask_2 kw_X8_50 tt416 rfl rfl ?_
  refine zz_st (s1 := s) (by exact jz_su_id hL.1) ?_
  refine jj_aload_n dX8_ask_5 rfl ?_
  refine jj_iload_n dX8_ask_6 rfl ?_
  refine zz_cVi (av := [ji (l)]) (st' := []) dX8_ask_7 kn_X8_193 kmX8_isLeaf tt416 rfl rfl rfl (Nat.le_of_ble_eq_true rfl) (by decide) rfl (c_X8_isLeaf g s l (by omega)) (fun hr7 ho7 => ?_)
  refine jj_if_eq (tgt := 23) dX8_ask_10 (by decide) (fun h10 => ?_) (fun h10 => ?_)
  · have hg10 := bz_f h10
    refine jj_ldc dX8_ask_23 kk_X8_70 (kk := ?_)
    refine zz_retie dX8_ask_25 rfl (by decide) ?_ ?_
    · unfold v_X8_ask; (repeat (first | rw [if_pos (by omega)] | rw [if_neg (by omega)])) <;> first | rfl | done
    · unfold f_X8_ask; (repeat (first | rw [if_pos (by omega)] | rw [if_neg (by omega)])) <;> first | rfl | done
  · have hg10 := bz_t h10
    refine jj_iload_n dX8_ask_13 rfl ?_
    refine jj_i2l dX8_ask_14 ?_
    refine jj_lconst (z := 0) dX8_ask_15 (kk := ?_)
    refine jj_lconst (z := 1) dX8_ask_16 (kk := ?_)
    refine zz_cSi (av := [jl (w), jl (0), jl (1)]) (st' := []) dX8_ask_17 kn_X8_60 kmX8_in rfl rfl (Nat.le_of_ble_eq_true rfl) (by decide) rfl (c_X8_in g s w 0 1) (fun hr17 ho17 => ?_)
    refine jj_if_ne (tgt := 26) dX8_ask_20 (by decide) (fun h20 => ?_) (fun h20 => ?_)
    · have hg20 := bz_t h20
      refine jj_aload_n dX8_ask_26 rfl ?_
      refine jj_iconst dX8_ask_27 (kk := ?_)
      refine zz_putI dX8_ask_28 kw_X8_255 tt416 rfl rfl ?_
      refine jj_iload_n dX8_ask_31 rfl ?_
      refine jj_if_ne (tgt := 43) dX8_ask_32 (by decide) (fun h32 => ?_) (fun h32 => ?_)
      · refine jj_aload_n dX8_ask_43 rfl ?_
        refine jj_iload_n dX8_ask_44 rfl ?_
        refine zz_cVi (av := [ji (l)]) (st' := []) dX8_ask_45 kn_X8_267 kmX8_markOf tt416 rfl rfl rfl (Nat.le_of_ble_eq_true rfl) (by decide) rfl (c_X8_markOf g (jz_su s 416 24 (0)) l.toNat l (by omega) (by omega) 999 (by rw [jz_su_o (by decide)]; exact hm) (by unfold mTr; rw [jz_su_s]; decide)) (fun hr45 ho45 => ?_)
        refine zz_retie dX8_ask_48 rfl (by decide) ?_ ?_
        · unfold v_X8_ask; (repeat (first | rw [if_pos (by omega)] | rw [if_neg (by omega)])) <;> first | rfl | done
        · unfold f_X8_ask; (repeat (first | rw [if_pos (by omega)] | rw [if_neg (by omega)])) <;> first | rfl | done
      · refine jj_aload_n dX8_ask_35 rfl ?_
        refine jj_iload_n dX8_ask_36 rfl ?_
        refine zz_cVi (av := [ji (l)]) (st' := []) dX8_ask_37 kn_X8_270 kmX8_sizeOf tt416 rfl rfl rfl (Nat.le_of_ble_eq_true rfl) (by decide) rfl (c_X8_sizeOf g (jz_su s 416 24 (0)) l.toNat l (by omega) (by omega) 999 (by rw [jz_su_o (by decide)]; exact hm) (by unfold mTr; rw [jz_su_s]; decide)) (fun hr37 ho37 => ?_)
        refine jj_goto (tgt := 48) dX8_ask_40 (by decide) ?_
        refine zz_retie dX8_ask_48 rfl (by decide) ?_ ?_
        · unfold v_X8_ask; (repeat (first | rw [if_pos (by omega)] | rw [if_neg (by omega)])) <;> first | rfl | done
        · unfold f_X8_ask; (repeat (first | rw [if_pos (by omega)] | rw [if_neg (by omega)])) <;> first | rfl | done
    · have hg20 := bz_f h20
      refine jj_ldc dX8_ask_23 kk_X8_70 (kk := ?_)
      refine zz_retie dX8_ask_25 rfl (by decide) ?_ ?_
      · unfold v_X8_ask; (repeat (first | rw [if_pos (by omega)] | rw [if_neg (by omega)])) <;> first | rfl | done
      · unfold f_X8_ask; (repeat (first | rw [if_pos (by omega)] | rw [if_neg (by omega)])) <;> first | rfl | done

