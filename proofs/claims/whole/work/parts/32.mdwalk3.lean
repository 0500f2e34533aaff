set_option maxRecDepth 100000 in
set_option maxHeartbeats 4000000 in
theorem c_X8_number (g : jz_G) (s : jz_St) (lo hi : Int) (hT : mTk s) : jz_C g mX8_number [jr (416), ji (lo), ji (hi)] s (jq_ie (v_X8_number s lo hi) (f_X8_number s lo hi)) := by
  refine zz_C_of koX8_number rfl (Nat.le_of_ble_eq_true rfl) ?_
  refine zz_pad 1 ?_
  show jz_Z g mX8_number (jq_ie (v_X8_number s lo hi) (f_X8_number s lo hi)) 0 [some (jr (416)), some (ji (lo)), some (ji (hi)), none] [] s
  have L47 : ∀ (s' : jz_St) (hh47_0 : s' = if s 416 16 = 0 then (if s 416 14 = 3 then (if lo ≤ s 416 15 ∧ s 416 15 ≤ hi then s else f_X8_bad s 2) else f_X8_bad s 1) else s) (hh47_1 : mTk s'), jz_Z g mX8_number (jq_ie (v_X8_number s lo hi) (f_X8_number s lo hi)) 47 [some (jr (416)), some (ji (lo)), some (ji (hi)), none] [] s' := by
    intro s' hh47_0 hh47_1
    refine jj_aload_n dX8_number_47 rfl ?_
    refine zz_getI dX8_number_48 kf_X8_81 tt416 rfl rfl ?_
    refine jj_if_ne (tgt := 61) dX8_number_51 (by decide) (fun h51 => ?_) (fun h51 => ?_)
    · refine jj_iload_n dX8_number_61 rfl ?_
      refine jj_istore_n (ls' := [some (jr (416)), some (ji (lo)), some (ji (hi)), some (ji (lo))]) dX8_number_62 (by decide) rfl rfl ?_
      refine jj_aload_n dX8_number_63 rfl ?_
      refine jj_iconst dX8_number_64 (kk := ?_)
      refine zz_cVv (av := [ji (1)]) (st' := []) dX8_number_65 kn_X8_115 kmX8_must tt416 rfl rfl rfl (Nat.le_of_ble_eq_true rfl) (by decide) rfl (c_X8_must g s' 1 hh47_1) (fun ho65 => ?_)
      refine jj_iload_n dX8_number_68 rfl ?_
      refine zz_retie dX8_number_69 rfl (by decide) ?_ ?_
      · exact ((nm_a hh47_0).2 h51).1
      · unfold f_X8_must; rw [if_neg h51]; exact ((nm_a hh47_0).2 h51).2
    · refine jj_aload_n dX8_number_54 rfl ?_
      refine zz_getI dX8_number_55 kf_X8_94 tt416 rfl rfl ?_
      refine jj_goto (tgt := 62) dX8_number_58 (by decide) ?_
      refine jj_istore_n (ls' := [some (jr (416)), some (ji (lo)), some (ji (hi)), some (ji (s' 416 15))]) dX8_number_62 (by decide) rfl rfl ?_
      refine jj_aload_n dX8_number_63 rfl ?_
      refine jj_iconst dX8_number_64 (kk := ?_)
      refine zz_cVv (av := [ji (1)]) (st' := []) dX8_number_65 kn_X8_115 kmX8_must tt416 rfl rfl rfl (Nat.le_of_ble_eq_true rfl) (by decide) rfl (c_X8_must g s' 1 hh47_1) (fun ho65 => ?_)
      refine jj_iload_n dX8_number_68 rfl ?_
      refine zz_retie dX8_number_69 rfl (by decide) ?_ ?_
      · have e := (nm_a hh47_0).1 h51; rw [e.1]; exact e.2.1
      · have e := (nm_a hh47_0).1 h51; unfold f_X8_must; rw [if_pos h51, if_neg (by decide), e.1]; exact e.2.2
  refine jj_aload_n dX8_number_0 rfl ?_
  refine zz_getI dX8_number_1 kf_X8_81 tt416 rfl rfl ?_
  refine jj_if_ne (tgt := 20) dX8_number_4 (by decide) (fun h4 => ?_) (fun h4 => ?_)
  · refine jj_aload_n dX8_number_20 rfl ?_
    refine zz_getI dX8_number_21 kf_X8_81 tt416 rfl rfl ?_
    refine jj_if_ne (tgt := 47) dX8_number_24 (by decide) (fun h24 => ?_) (fun h24 => ?_)
    · exact L47 s (by first | (rw [if_neg (by assumption)]; done) | (rw [if_pos (by omega), if_neg (by omega)]; done) | (rw [if_pos (by omega), if_pos (by omega), if_pos (by omega)]; done) | (rw [if_pos (by omega), if_pos (by omega), if_neg (by omega)]; done) | exact absurd h24 (bad_16 s 1 (by decide)) | (exfalso; omega)) (by first | exact hT | exact mTk_bad hT | exact mTk_bad (mTk_bad hT))
    · refine jj_aload_n dX8_number_27 rfl ?_
      refine zz_getI dX8_number_28 kf_X8_94 tt416 rfl rfl ?_
      refine jj_i2l dX8_number_31 ?_
      refine jj_iload_n dX8_number_32 rfl ?_
      refine jj_i2l dX8_number_33 ?_
      refine jj_iload_n dX8_number_34 rfl ?_
      refine jj_i2l dX8_number_35 ?_
      refine zz_cSi (av := [jl (s 416 15), jl (lo), jl (hi)]) (st' := []) dX8_number_36 kn_X8_60 kmX8_in rfl rfl (Nat.le_of_ble_eq_true rfl) (by decide) rfl (c_X8_in g s (s 416 15) lo hi) (fun hr36 ho36 => ?_)
      refine jj_if_ne (tgt := 47) dX8_number_39 (by decide) (fun h39 => ?_) (fun h39 => ?_)
      · have hg39 := bz_t h39
        exact L47 s (by first | (rw [if_neg (by assumption)]; done) | (rw [if_pos (by omega), if_neg (by omega)]; done) | (rw [if_pos (by omega), if_pos (by omega), if_pos (by omega)]; done) | (rw [if_pos (by omega), if_pos (by omega), if_neg (by omega)]; done) | exact absurd h24 (bad_16 s 1 (by decide)) | (exfalso; omega)) (by first | exact hT | exact mTk_bad hT | exact mTk_bad (mTk_bad hT))
      · have hg39 := bz_f h39
        refine jj_aload_n dX8_number_42 rfl ?_
        refine jj_iconst dX8_number_43 (kk := ?_)
        refine zz_cVv (av := [ji (2)]) (st' := []) dX8_number_44 kn_X8_108 kmX8_bad tt416 rfl rfl rfl (Nat.le_of_ble_eq_true rfl) (by decide) rfl (c_X8_bad g s 2) (fun ho44 => ?_)
        exact L47 (f_X8_bad s 2) (by first | (rw [if_neg (by assumption)]; done) | (rw [if_pos (by omega), if_neg (by omega)]; done) | (rw [if_pos (by omega), if_pos (by omega), if_pos (by omega)]; done) | (rw [if_pos (by omega), if_pos (by omega), if_neg (by omega)]; done) | exact absurd h24 (bad_16 s 1 (by decide)) | (exfalso; omega)) (by first | exact hT | exact mTk_bad hT | exact mTk_bad (mTk_bad hT))
  · refine jj_aload_n dX8_number_7 rfl ?_
    refine zz_getI dX8_number_8 kf_X8_105 tt416 rfl rfl ?_
    refine jj_iconst dX8_number_11 (kk := ?_)
    refine jj_icmp_eq (tgt := 20) dX8_number_12 (by decide) (fun h12 => ?_) (fun h12 => ?_)
    · refine jj_aload_n dX8_number_20 rfl ?_
      refine zz_getI dX8_number_21 kf_X8_81 tt416 rfl rfl ?_
      refine jj_if_ne (tgt := 47) dX8_number_24 (by decide) (fun h24 => ?_) (fun h24 => ?_)
      · exact L47 s (by first | (rw [if_neg (by assumption)]; done) | (rw [if_pos (by omega), if_neg (by omega)]; done) | (rw [if_pos (by omega), if_pos (by omega), if_pos (by omega)]; done) | (rw [if_pos (by omega), if_pos (by omega), if_neg (by omega)]; done) | exact absurd h24 (bad_16 s 1 (by decide)) | (exfalso; omega)) (by first | exact hT | exact mTk_bad hT | exact mTk_bad (mTk_bad hT))
      · refine jj_aload_n dX8_number_27 rfl ?_
        refine zz_getI dX8_number_28 kf_X8_94 tt416 rfl rfl ?_
        refine jj_i2l dX8_number_31 ?_
        refine jj_iload_n dX8_number_32 rfl ?_
        refine jj_i2l dX8_number_33 ?_
        refine jj_iload_n dX8_number_34 rfl ?_
        refine jj_i2l dX8_number_35 ?_
        refine zz_cSi (av := [jl (s 416 15), jl (lo), jl (hi)]) (st' := []) dX8_number_36 kn_X8_60 kmX8_in rfl rfl (Nat.le_of_ble_eq_true rfl) (by decide) rfl (c_X8_in g s (s 416 15) lo hi) (fun hr36 ho36 => ?_)
        refine jj_if_ne (tgt := 47) dX8_number_39 (by decide) (fun h39 => ?_) (fun h39 => ?_)
        · have hg39 := bz_t h39
          exact L47 s (by first | (rw [if_neg (by assumption)]; done) | (rw [if_pos (by omega), if_neg (by omega)]; done) | (rw [if_pos (by omega), if_pos (by omega), if_pos (by omega)]; done) | (rw [if_pos (by omega), if_pos (by omega), if_neg (by omega)]; done) | exact absurd h24 (bad_16 s 1 (by decide)) | (exfalso; omega)) (by first | exact hT | exact mTk_bad hT | exact mTk_bad (mTk_bad hT))
        · have hg39 := bz_f h39
          refine jj_aload_n dX8_number_42 rfl ?_
          refine jj_iconst dX8_number_43 (kk := ?_)
          refine zz_cVv (av := [ji (2)]) (st' := []) dX8_number_44 kn_X8_108 kmX8_bad tt416 rfl rfl rfl (Nat.le_of_ble_eq_true rfl) (by decide) rfl (c_X8_bad g s 2) (fun ho44 => ?_)
          exact L47 (f_X8_bad s 2) (by first | (rw [if_neg (by assumption)]; done) | (rw [if_pos (by omega), if_neg (by omega)]; done) | (rw [if_pos (by omega), if_pos (by omega), if_pos (by omega)]; done) | (rw [if_pos (by omega), if_pos (by omega), if_neg (by omega)]; done) | exact absurd h24 (bad_16 s 1 (by decide)) | (exfalso; omega)) (by first | exact hT | exact mTk_bad hT | exact mTk_bad (mTk_bad hT))
    · refine jj_aload_n dX8_number_15 rfl ?_
      refine jj_iconst dX8_number_16 (kk := ?_)
      refine zz_cVv (av := [ji (1)]) (st' := []) dX8_number_17 kn_X8_108 kmX8_bad tt416 rfl rfl rfl (Nat.le_of_ble_eq_true rfl) (by decide) rfl (c_X8_bad g s 1) (fun ho17 => ?_)
      refine jj_aload_n dX8_number_20 rfl ?_
      refine zz_getI dX8_number_21 kf_X8_81 tt416 rfl rfl ?_
      refine jj_if_ne (tgt := 47) dX8_number_24 (by decide) (fun h24 => ?_) (fun h24 => ?_)
      · exact L47 (f_X8_bad s 1) (by first | (rw [if_neg (by assumption)]; done) | (rw [if_pos (by omega), if_neg (by omega)]; done) | (rw [if_pos (by omega), if_pos (by omega), if_pos (by omega)]; done) | (rw [if_pos (by omega), if_pos (by omega), if_neg (by omega)]; done) | exact absurd h24 (bad_16 s 1 (by decide)) | (exfalso; omega)) (by first | exact hT | exact mTk_bad hT | exact mTk_bad (mTk_bad hT))
      · refine jj_aload_n dX8_number_27 rfl ?_
        refine zz_getI dX8_number_28 kf_X8_94 tt416 rfl rfl ?_
        refine jj_i2l dX8_number_31 ?_
        refine jj_iload_n dX8_number_32 rfl ?_
        refine jj_i2l dX8_number_33 ?_
        refine jj_iload_n dX8_number_34 rfl ?_
        refine jj_i2l dX8_number_35 ?_
        refine zz_cSi (av := [jl ((f_X8_bad s 1) 416 15), jl (lo), jl (hi)]) (st' := []) dX8_number_36 kn_X8_60 kmX8_in rfl rfl (Nat.le_of_ble_eq_true rfl) (by decide) rfl (c_X8_in g (f_X8_bad s 1) ((f_X8_bad s 1) 416 15) lo hi) (fun hr36 ho36 => ?_)
        refine jj_if_ne (tgt := 47) dX8_number_39 (by decide) (fun h39 => ?_) (fun h39 => ?_)
        · have hg39 := bz_t h39
          exact L47 (f_X8_bad s 1) (by first | (rw [if_neg (by assumption)]; done) | (rw [if_pos (by omega), if_neg (by omega)]; done) | (rw [if_pos (by omega), if_pos (by omega), if_pos (by omega)]; done) | (rw [if_pos (by omega), if_pos (by omega), if_neg (by omega)]; done) | exact absurd h24 (bad_16 s 1 (by decide)) | (exfalso; omega)) (by first | exact hT | exact mTk_bad hT | exact mTk_bad (mTk_bad hT))
        · have hg39 := bz_f h39
          refine jj_aload_n dX8_number_42 rfl ?_
          refine jj_iconst dX8_number_43 (kk := ?_)
          refine zz_cVv (av := [ji (2)]) (st' := []) dX8_number_44 kn_X8_108 kmX8_bad tt416 rfl rfl rfl (Nat.le_of_ble_eq_true rfl) (by decide) rfl (c_X8_bad g (f_X8_bad s 1) 2) (fun ho44 => ?_)
          exact L47 (f_X8_bad (f_X8_bad s 1) 2) (by first | (rw [if_neg (by assumption)]; done) | (rw [if_pos (by omega), if_neg (by omega)]; done) | (rw [if_pos (by omega), if_pos (by omega), if_pos (by omega)]; done) | (rw [if_pos (by omega), if_pos (by omega), if_neg (by omega)]; done) | exact absurd h24 (bad_16 s 1 (by decide)) | (exfalso; omega)) (by first | exact hT | exact mTk_bad hT | exact mTk_bad (mTk_bad hT))

set_option maxRecDepth 100000 in
set_option maxHeartbeats 4000000 in
theorem c_X8_mustSign (g : jz_G) (s : jz_St) (c : Int) (hT : mTk s) : jz_C g mX8_mustSign [jr (416), ji (c)] s (jq_ve (f_X8_sign s c)) := by
  refine zz_C_of koX8_mustSign rfl (Nat.le_of_ble_eq_true rfl) ?_
  refine zz_pad 0 ?_
  show jz_Z g mX8_mustSign (jq_ve (f_X8_sign s c)) 0 [some (jr (416)), some (ji (c))] [] s
  have L22 : ∀ (b : Int) (hh22_0 : b = if s 416 14 = 4 ∧ s 416 15 = c then 1 else 0), jz_Z g mX8_mustSign (jq_ve (f_X8_sign s c)) 22 [some (jr (416)), some (ji (c))] [ji (b), jr (416)] s := by
    intro b hh22_0
    refine zz_cVv (av := [ji (b)]) (st' := []) dX8_mustSign_22 kn_X8_115 kmX8_must tt416 rfl rfl rfl (Nat.le_of_ble_eq_true rfl) (by decide) rfl (c_X8_must g s b hT) (fun ho22 => ?_)
    refine zz_retve dX8_mustSign_25 rfl (by decide) ?_
    · unfold f_X8_sign; rw [hh22_0]
  refine jj_aload_n dX8_mustSign_0 rfl ?_
  refine jj_aload_n dX8_mustSign_1 rfl ?_
  refine zz_getI dX8_mustSign_2 kf_X8_105 tt416 rfl rfl ?_
  refine jj_iconst dX8_mustSign_5 (kk := ?_)
  refine jj_icmp_ne (tgt := 21) dX8_mustSign_6 (by decide) (fun h6 => ?_) (fun h6 => ?_)
  · refine jj_iconst dX8_mustSign_21 (kk := ?_)
    exact L22 0 (by first | (rw [if_pos (by omega)]; done) | (rw [if_neg (by omega)]; done))
  · refine jj_aload_n dX8_mustSign_9 rfl ?_
    refine zz_getI dX8_mustSign_10 kf_X8_94 tt416 rfl rfl ?_
    refine jj_iload_n dX8_mustSign_13 rfl ?_
    refine jj_icmp_ne (tgt := 21) dX8_mustSign_14 (by decide) (fun h14 => ?_) (fun h14 => ?_)
    · refine jj_iconst dX8_mustSign_21 (kk := ?_)
      exact L22 0 (by first | (rw [if_pos (by omega)]; done) | (rw [if_neg (by omega)]; done))
    · refine jj_iconst dX8_mustSign_17 (kk := ?_)
      refine jj_goto (tgt := 22) dX8_mustSign_18 (by decide) ?_
      exact L22 1 (by first | (rw [if_pos (by omega)]; done) | (rw [if_neg (by omega)]; done))

set_option maxRecDepth 100000 in
set_option maxHeartbeats 4000000 in
theorem c_X8_begin (g : jz_G) (s : jz_St) (hT : mTp s) : jz_C g mX8_begin [jr (416)] s (jq_ve (f_X8_begin s)) := by
  refine zz_C_of koX8_begin rfl (Nat.le_of_ble_eq_true rfl) ?_
  refine zz_pad 0 ?_
  show jz_Z g mX8_begin (jq_ve (f_X8_begin s)) 0 [some (jr (416))] [] s
  refine jj_aload_n dX8_begin_0 rfl ?_
  refine jj_iconst dX8_begin_1 (kk := ?_)
  refine zz_putI dX8_begin_2 kw_X8_90 tt416 rfl rfl ?_
  refine jj_aload_n dX8_begin_5 rfl ?_
  refine jj_iconst dX8_begin_6 (kk := ?_)
  refine zz_putI dX8_begin_7 kw_X8_81 tt416 rfl rfl ?_
  refine jj_aload_n dX8_begin_10 rfl ?_
  refine zz_cVv (av := []) (st' := []) dX8_begin_11 kn_X8_112 kmX8_nextToken tt416 rfl rfl rfl (Nat.le_of_ble_eq_true rfl) (by decide) rfl (c_X8_nextToken g (jz_su (jz_su s 416 12 (0)) 416 16 (0)) (mTk_begin hT)) (fun ho11 => ?_)
  refine zz_retve dX8_begin_14 rfl (by decide) ?_
  · rfl

set_option maxRecDepth 100000 in
set_option maxHeartbeats 4000000 in
theorem c_X8_failed (g : jz_G) (s : jz_St)  : jz_C g mX8_failed [jr (416)] s (jq_ie (if 0 < f_X8_fail1 s 416 16 then 1 else 0) (f_X8_failed s)) := by
  refine zz_C_of koX8_failed rfl (Nat.le_of_ble_eq_true rfl) ?_
  refine zz_pad 0 ?_
  show jz_Z g mX8_failed (jq_ie (if 0 < f_X8_fail1 s 416 16 then 1 else 0) (f_X8_failed s)) 0 [some (jr (416))] [] s
  have L20 : ∀ (s' : jz_St) (hh20_0 : s' = f_X8_fail1 s), jz_Z g mX8_failed (jq_ie (if 0 < f_X8_fail1 s 416 16 then 1 else 0) (f_X8_failed s)) 20 [some (jr (416))] [] s' := by
    intro s' hh20_0
    refine jj_aload_n dX8_failed_20 rfl ?_
    refine jj_iconst dX8_failed_21 (kk := ?_)
    refine zz_putI dX8_failed_22 kw_X8_77 tt416 rfl rfl ?_
    refine jj_aload_n dX8_failed_25 rfl ?_
    refine jj_aload_n dX8_failed_26 rfl ?_
    refine zz_getI dX8_failed_27 kf_X8_81 tt416 rfl rfl ?_
    refine zz_top (b := s' 416 16) (jz_su_f (by decide)) ?_
    refine jj_if_le (tgt := 40) dX8_failed_30 (by decide) (fun h30 => ?_) (fun h30 => ?_)
    · refine jj_aload_n dX8_failed_40 rfl ?_
      refine zz_getI dX8_failed_41 kf_X8_119 tt416 rfl rfl ?_
      refine zz_top (b := s' 416 18) (jz_su_f (by decide)) ?_
      refine zz_putI dX8_failed_44 kw_X8_119 tt416 rfl rfl ?_
      refine jj_aload_n dX8_failed_47 rfl ?_
      refine zz_getI dX8_failed_48 kf_X8_81 tt416 rfl rfl ?_
      refine zz_top (b := s' 416 16) ((jz_su_f (by decide)).trans (jz_su_f (by decide))) ?_
      refine jj_if_le (tgt := 58) dX8_failed_51 (by decide) (fun h51 => ?_) (fun h51 => ?_)
      · refine jj_iconst dX8_failed_58 (kk := ?_)
        refine zz_retze dX8_failed_59 rfl (by first | exact Or.inl rfl | exact Or.inr rfl) (by decide) ?_ ?_
        · rw [← hh20_0]; first | (rw [if_pos (by omega)]; done) | (rw [if_neg (by omega)]; done)
        · unfold f_X8_failed; rw [← hh20_0]; first | (rw [if_pos (by omega)]; done) | (rw [if_neg (by omega), ← fail1_18 s, ← hh20_0]; done) | (exfalso; omega)
      · refine jj_iconst dX8_failed_54 (kk := ?_)
        refine jj_goto (tgt := 59) dX8_failed_55 (by decide) ?_
        refine zz_retze dX8_failed_59 rfl (by first | exact Or.inl rfl | exact Or.inr rfl) (by decide) ?_ ?_
        · rw [← hh20_0]; first | (rw [if_pos (by omega)]; done) | (rw [if_neg (by omega)]; done)
        · unfold f_X8_failed; rw [← hh20_0]; first | (rw [if_pos (by omega)]; done) | (rw [if_neg (by omega), ← fail1_18 s, ← hh20_0]; done) | (exfalso; omega)
    · refine jj_aload_n dX8_failed_33 rfl ?_
      refine zz_getI dX8_failed_34 kf_X8_81 tt416 rfl rfl ?_
      refine zz_top (b := s' 416 16) (jz_su_f (by decide)) ?_
      refine jj_goto (tgt := 44) dX8_failed_37 (by decide) ?_
      refine zz_putI dX8_failed_44 kw_X8_119 tt416 rfl rfl ?_
      refine jj_aload_n dX8_failed_47 rfl ?_
      refine zz_getI dX8_failed_48 kf_X8_81 tt416 rfl rfl ?_
      refine zz_top (b := s' 416 16) ((jz_su_f (by decide)).trans (jz_su_f (by decide))) ?_
      refine jj_if_le (tgt := 58) dX8_failed_51 (by decide) (fun h51 => ?_) (fun h51 => ?_)
      · refine jj_iconst dX8_failed_58 (kk := ?_)
        refine zz_retze dX8_failed_59 rfl (by first | exact Or.inl rfl | exact Or.inr rfl) (by decide) ?_ ?_
        · rw [← hh20_0]; first | (rw [if_pos (by omega)]; done) | (rw [if_neg (by omega)]; done)
        · unfold f_X8_failed; rw [← hh20_0]; first | (rw [if_pos (by omega)]; done) | (rw [if_neg (by omega), ← fail1_18 s, ← hh20_0]; done) | (exfalso; omega)
      · refine jj_iconst dX8_failed_54 (kk := ?_)
        refine jj_goto (tgt := 59) dX8_failed_55 (by decide) ?_
        refine zz_retze dX8_failed_59 rfl (by first | exact Or.inl rfl | exact Or.inr rfl) (by decide) ?_ ?_
        · rw [← hh20_0]; first | (rw [if_pos (by omega)]; done) | (rw [if_neg (by omega)]; done)
        · unfold f_X8_failed; rw [← hh20_0]; first | (rw [if_pos (by omega)]; done) | (rw [if_neg (by omega), ← fail1_18 s, ← hh20_0]; done) | (exfalso; omega)
  refine jj_aload_n dX8_failed_0 rfl ?_
  refine zz_getI dX8_failed_1 kf_X8_81 tt416 rfl rfl ?_
  refine jj_if_ne (tgt := 20) dX8_failed_4 (by decide) (fun h4 => ?_) (fun h4 => ?_)
  · exact L20 s (by unfold f_X8_fail1; first | (rw [if_pos (by omega)]; done) | (rw [if_neg (by omega)]; done))
  · refine jj_aload_n dX8_failed_7 rfl ?_
    refine zz_getI dX8_failed_8 kf_X8_105 tt416 rfl rfl ?_
    refine jj_iconst dX8_failed_11 (kk := ?_)
    refine jj_icmp_eq (tgt := 20) dX8_failed_12 (by decide) (fun h12 => ?_) (fun h12 => ?_)
    · exact L20 s (by unfold f_X8_fail1; first | (rw [if_pos (by omega)]; done) | (rw [if_neg (by omega)]; done))
    · refine jj_aload_n dX8_failed_15 rfl ?_
      refine jj_iconst dX8_failed_16 (kk := ?_)
      refine zz_cVv (av := [ji (1)]) (st' := []) dX8_failed_17 kn_X8_108 kmX8_bad tt416 rfl rfl rfl (Nat.le_of_ble_eq_true rfl) (by decide) rfl (c_X8_bad g s 1) (fun ho17 => ?_)
      exact L20 (f_X8_bad s 1) (by unfold f_X8_fail1; first | (rw [if_pos (by omega)]; done) | (rw [if_neg (by omega)]; done))

def v_X8_fault (s : jz_St)  : Int := s 416 18
set_option maxRecDepth 100000 in
set_option maxHeartbeats 4000000 in
theorem c_X8_fault (g : jz_G) (s : jz_St)  (hL : mLn s)  : jz_C g mX8_fault [jr (416)] s (jq_ie (v_X8_fault s ) s) := by
  refine zz_C_of koX8_fault rfl (Nat.le_of_ble_eq_true rfl) ?_
  refine zz_pad 0 ?_
  show jz_Z g mX8_fault (jq_ie (v_X8_fault s ) s) 0 [some (jr (416))] [] s
  refine jj_aload_n dX8_fault_0 rfl ?_
  refine jj_iconst dX8_fault_1 (kk := ?_)
  refine zz_putI dX8_fault_2 kw_X8_50 tt416 rfl rfl ?_
  refine zz_st (s1 := s) (by exact jz_su_id hL.1) ?_
  refine jj_aload_n dX8_fault_5 rfl ?_
  refine zz_getI dX8_fault_6 kf_X8_119 tt416 rfl rfl ?_
  refine zz_retie dX8_fault_9 rfl (by decide) ?_ ?_
  · rfl
  · rfl

def v_X8_status (s : jz_St)  : Int := s 416 1
set_option maxRecDepth 100000 in
set_option maxHeartbeats 4000000 in
theorem c_X8_status (g : jz_G) (s : jz_St)  (hL : mLn s)  : jz_C g mX8_status [jr (416)] s (jq_ie (v_X8_status s ) s) := by
  refine zz_C_of koX8_status rfl (Nat.le_of_ble_eq_true rfl) ?_
  refine zz_pad 0 ?_
  show jz_Z g mX8_status (jq_ie (v_X8_status s ) s) 0 [some (jr (416))] [] s
  refine jj_aload_n dX8_status_0 rfl ?_
  refine jj_iconst dX8_status_1 (kk := ?_)
  refine zz_putI dX8_status_2 kw_X8_50 tt416 rfl rfl ?_
  refine zz_st (s1 := s) (by exact jz_su_id hL.1) ?_
  refine jj_aload_n dX8_status_5 rfl ?_
  refine zz_getI dX8_status_6 kf_X8_54 tt416 rfl rfl ?_
  refine zz_retie dX8_status_9 rfl (by decide) ?_ ?_
  · rfl
  · rfl

def v_X8_feed (s : jz_St) (z : Int) : Int := if 0 ≤ z ∧ z ≤ 255 then (if s 416 11 = 120 then -1000003 else s 416 11 + 1) else -1000001
def f_X8_feed (s : jz_St) (z : Int) : jz_St := if 0 ≤ z ∧ z ≤ 255 then (if s 416 11 = 120 then s else jz_su (jz_su s 424 (s 416 11).toNat z) 416 11 (s 416 11 + 1)) else s
set_option maxRecDepth 100000 in
set_option maxHeartbeats 4000000 in
theorem c_X8_feed (g : jz_G) (s : jz_St) (z : Int) (hL : mLn s) (hT : 0 ≤ s 416 11 ∧ s 416 11 ≤ 120)  : jz_C g mX8_feed [jr (416), ji (z)] s (jq_ie (v_X8_feed s z) (f_X8_feed s z)) := by
  refine zz_C_of koX8_feed rfl (Nat.le_of_ble_eq_true rfl) ?_
  refine zz_pad 0 ?_
  show jz_Z g mX8_feed (jq_ie (v_X8_feed s z) (f_X8_feed s z)) 0 [some (jr (416)), some (ji (z))] [] s
  refine jj_aload_n dX8_feed_0 rfl ?_
  refine jj_iconst dX8_feed_1 (kk := ?_)
  refine zz_putI dX8_feed_2 kw_X8_50 tt416 rfl rfl ?_
  refine zz_st (s1 := s) (by exact jz_su_id hL.1) ?_
  refine jj_iload_n dX8_feed_5 rfl ?_
  refine jj_i2l dX8_feed_6 ?_
  refine jj_lconst (z := 0) dX8_feed_7 (kk := ?_)
  refine jj_ldc2 dX8_feed_8 kk_X8_75 (kk := ?_)
  refine zz_cSi (av := [jl (z), jl (0), jl (255)]) (st' := []) dX8_feed_11 kn_X8_60 kmX8_in rfl rfl (Nat.le_of_ble_eq_true rfl) (by decide) rfl (c_X8_in g s z 0 255) (fun hr11 ho11 => ?_)
  refine jj_if_ne (tgt := 20) dX8_feed_14 (by decide) (fun h14 => ?_) (fun h14 => ?_)
  · have hg14 := bz_t h14
    refine jj_aload_n dX8_feed_20 rfl ?_
    refine zz_getI dX8_feed_21 kf_X8_77 tt416 rfl rfl ?_
    refine jj_bipush dX8_feed_24 (kk := ?_)
    refine jj_icmp_ne (tgt := 32) dX8_feed_26 (by decide) (fun h26 => ?_) (fun h26 => ?_)
    · refine jj_aload_n dX8_feed_32 rfl ?_
      refine zz_getR dX8_feed_33 kf_X8_31 tt416 rfl ?_
      refine jj_aload_n dX8_feed_36 rfl ?_
      refine zz_getI dX8_feed_37 kf_X8_77 tt416 rfl rfl ?_
      refine jj_iload_n dX8_feed_40 rfl ?_
      refine zz_iastN (j := (s 416 11).toNat) dX8_feed_41 tt424 (by omega) (by omega) ?_
      refine jj_aload_n dX8_feed_42 rfl ?_
      refine jj_dup dX8_feed_43 (kk := ?_)
      refine zz_getI dX8_feed_44 kf_X8_77 tt416 rfl rfl ?_
      refine zz_top (b := s 416 11) (jz_su_n (Or.inl (by decide))) ?_
      refine jj_iconst dX8_feed_47 (kk := ?_)
      refine jj_iadd dX8_feed_48 (by omega) ?_
      refine zz_putI dX8_feed_49 kw_X8_77 tt416 rfl rfl ?_
      refine jj_aload_n dX8_feed_52 rfl ?_
      refine zz_getI dX8_feed_53 kf_X8_77 tt416 rfl rfl ?_
      refine zz_top (b := (s 416 11) + 1) (jz_su_s _ _ _ _) ?_
      refine zz_retie dX8_feed_56 rfl (by decide) ?_ ?_
      · unfold v_X8_feed; (repeat (first | rw [if_pos (by omega)] | rw [if_neg (by omega)])) <;> first | rfl | done
      · unfold f_X8_feed; (repeat (first | rw [if_pos (by omega)] | rw [if_neg (by omega)])) <;> first | rfl | done
    · refine jj_ldc dX8_feed_29 kk_X8_80 (kk := ?_)
      refine zz_retie dX8_feed_31 rfl (by decide) ?_ ?_
      · unfold v_X8_feed; (repeat (first | rw [if_pos (by omega)] | rw [if_neg (by omega)])) <;> first | rfl | done
      · unfold f_X8_feed; (repeat (first | rw [if_pos (by omega)] | rw [if_neg (by omega)])) <;> first | rfl | done
  · have hg14 := bz_f h14
    refine jj_ldc dX8_feed_17 kk_X8_70 (kk := ?_)
    refine zz_retie dX8_feed_19 rfl (by decide) ?_ ?_
    · unfold v_X8_feed; (repeat (first | rw [if_pos (by omega)] | rw [if_neg (by omega)])) <;> first | rfl | done
    · unfold f_X8_feed; (repeat (first | rw [if_pos (by omega)] | rw [if_neg (by omega)])) <;> first | rfl | done

def v_X8_copy (s : jz_St) (a i c j n : Int) : Int := if (0 ≤ a ∧ a ≤ 7) ∧ 0 ≤ c ∧ c ≤ 7 then (if s 417 a.toNat < 0 ∨ s 417 c.toNat < 0 then -1000011 else if s 417 a.toNat ≠ s 417 c.toNat then -1000015 else if (0 ≤ i ∧ 0 ≤ j ∧ 0 ≤ n) ∧ i + n ≤ s 418 a.toNat ∧ j + n ≤ s 418 c.toNat then n else -1000012) else -1000001
def f_X8_copy (s : jz_St) (a i c j n : Int) : jz_St := if (0 ≤ a ∧ a ≤ 7) ∧ 0 ≤ c ∧ c ≤ 7 then (if s 417 a.toNat < 0 ∨ s 417 c.toNat < 0 then jz_su (jz_su s 416 1 0) 416 1 1 else if s 417 a.toNat ≠ s 417 c.toNat then jz_su (jz_su s 416 1 0) 416 1 5 else if (0 ≤ i ∧ 0 ≤ j ∧ 0 ≤ n) ∧ i + n ≤ s 418 a.toNat ∧ j + n ≤ s 418 c.toNat then f_X8_cp (jz_su s 416 1 0) (40 * a.toNat + i.toNat) (40 * c.toNat + j.toNat) (if j ≤ i then 1 else 0) n.toNat n.toNat else jz_su (jz_su s 416 1 0) 416 1 2) else s
set_option maxRecDepth 100000 in
set_option maxHeartbeats 4000000 in
theorem c_X8_copy (g : jz_G) (s : jz_St) (a i c j n : Int) (hL : mLn s)  : jz_C g mX8_copy [jr (416), ji (a), ji (i), ji (c), ji (j), ji (n)] s (jq_ie (v_X8_copy s a i c j n) (f_X8_copy s a i c j n)) := by
  refine zz_C_of koX8_copy rfl (Nat.le_of_ble_eq_true rfl) ?_
  refine zz_pad 3 ?_
  show jz_Z g mX8_copy (jq_ie (v_X8_copy s a i c j n) (f_X8_copy s a i c j n)) 0 [some (jr (416)), some (ji (a)), some (ji (i)), some (ji (c)), some (ji (j)), some (ji (n)), none, none, none] [] s
  refine zz_rng fun _ _ hl => ?_
  have hIi : jI i := hl (ji i) (by simp)
  have hIj : jI j := hl (ji j) (by simp)
  have hIn : jI n := hl (ji n) (by simp)
  have hLa := hL.2 a.toNat
  have hLc := hL.2 c.toNat
  have hj0_0 := @jc_lt (i + n) (s 418 a.toNat)
  have hj0_1 := @jc_gt (i + n) (s 418 a.toNat)
  have hj0_2 := @jc_le (i + n) (s 418 a.toNat)
  have hj1_0 := @jc_lt (j + n) (s 418 c.toNat)
  have hj1_1 := @jc_gt (j + n) (s 418 c.toNat)
  have hj1_2 := @jc_le (j + n) (s 418 c.toNat)
  refine jj_aload_n dX8_copy_0 rfl ?_
  refine jj_iconst dX8_copy_1 (kk := ?_)
  refine zz_putI dX8_copy_2 kw_X8_50 tt416 rfl rfl ?_
  refine zz_st (s1 := s) (by exact jz_su_id hL.1) ?_
  refine jj_iload_n dX8_copy_5 rfl ?_
  refine zz_cSi (av := [ji (a)]) (st' := []) dX8_copy_6 kn_X8_64 kmX8_isRow rfl rfl (Nat.le_of_ble_eq_true rfl) (by decide) rfl (c_X8_isRow g s a) (fun hr6 ho6 => ?_)
  refine jj_if_eq (tgt := 19) dX8_copy_9 (by decide) (fun h9 => ?_) (fun h9 => ?_)
  · have hg9 := bz_f h9
    refine jj_ldc dX8_copy_19 kk_X8_70 (kk := ?_)
    refine zz_retie dX8_copy_21 rfl (by decide) ?_ ?_
    · unfold v_X8_copy; (repeat (first | rw [if_pos (by omega)] | rw [if_neg (by omega)])) <;> first | rfl | done
    · unfold f_X8_copy; (repeat (first | rw [if_pos (by omega)] | rw [if_neg (by omega)])) <;> first | rfl | done
  · have hg9 := bz_t h9
    refine jj_iload_n dX8_copy_12 rfl ?_
    refine zz_cSi (av := [ji (c)]) (st' := []) dX8_copy_13 kn_X8_64 kmX8_isRow rfl rfl (Nat.le_of_ble_eq_true rfl) (by decide) rfl (c_X8_isRow g s c) (fun hr13 ho13 => ?_)
    refine jj_if_ne (tgt := 22) dX8_copy_16 (by decide) (fun h16 => ?_) (fun h16 => ?_)
    · have hg16 := bz_t h16
      refine jj_aload_n dX8_copy_22 rfl ?_
      refine jj_iconst dX8_copy_23 (kk := ?_)
      refine zz_putI dX8_copy_24 kw_X8_54 tt416 rfl rfl ?_
      refine jj_aload_n dX8_copy_27 rfl ?_
      refine zz_getR dX8_copy_28 kf_X8_7 tt416 rfl ?_
      refine jj_iload_n dX8_copy_31 rfl ?_
      refine zz_ialdN (j := a.toNat) dX8_copy_32 tt417 (by omega) (by omega) ?_
      refine zz_top (b := s 417 a.toNat) (jz_su_n (Or.inl (by decide))) ?_
      refine jj_if_lt (tgt := 45) dX8_copy_33 (by decide) (fun h33 => ?_) (fun h33 => ?_)
      · refine jj_aload_n dX8_copy_45 rfl ?_
        refine jj_iconst dX8_copy_46 (kk := ?_)
        refine zz_cVi (av := [ji (1)]) (st' := []) dX8_copy_47 kn_X8_71 kmX8_finding tt416 rfl rfl rfl (Nat.le_of_ble_eq_true rfl) (by decide) rfl (c_X8_finding g (jz_su s 416 1 (0)) 1 (by omega)) (fun hr47 ho47 => ?_)
        refine zz_retie dX8_copy_50 rfl (by decide) ?_ ?_
        · unfold v_X8_copy; (repeat (first | rw [if_pos (by omega)] | rw [if_neg (by omega)])) <;> first | rfl | done
        · unfold f_X8_copy; (repeat (first | rw [if_pos (by omega)] | rw [if_neg (by omega)])) <;> first | rfl | done
      · refine jj_aload_n dX8_copy_36 rfl ?_
        refine zz_getR dX8_copy_37 kf_X8_7 tt416 rfl ?_
        refine jj_iload_n dX8_copy_40 rfl ?_
        refine zz_ialdN (j := c.toNat) dX8_copy_41 tt417 (by omega) (by omega) ?_
        refine zz_top (b := s 417 c.toNat) (jz_su_n (Or.inl (by decide))) ?_
        refine jj_if_ge (tgt := 51) dX8_copy_42 (by decide) (fun h42 => ?_) (fun h42 => ?_)
        · refine jj_aload_n dX8_copy_51 rfl ?_
          refine zz_getR dX8_copy_52 kf_X8_7 tt416 rfl ?_
          refine jj_iload_n dX8_copy_55 rfl ?_
          refine zz_ialdN (j := a.toNat) dX8_copy_56 tt417 (by omega) (by omega) ?_
          refine zz_top (b := s 417 a.toNat) (jz_su_n (Or.inl (by decide))) ?_
          refine jj_aload_n dX8_copy_57 rfl ?_
          refine zz_getR dX8_copy_58 kf_X8_7 tt416 rfl ?_
          refine jj_iload_n dX8_copy_61 rfl ?_
          refine zz_ialdN (j := c.toNat) dX8_copy_62 tt417 (by omega) (by omega) ?_
          refine zz_top (b := s 417 c.toNat) (jz_su_n (Or.inl (by decide))) ?_
          refine jj_icmp_eq (tgt := 72) dX8_copy_63 (by decide) (fun h63 => ?_) (fun h63 => ?_)
          · refine jj_iload_n dX8_copy_72 rfl ?_
            refine jj_if_lt (tgt := 121) dX8_copy_73 (by decide) (fun h73 => ?_) (fun h73 => ?_)
            · refine jj_aload_n dX8_copy_121 rfl ?_
              refine jj_iconst dX8_copy_122 (kk := ?_)
              refine zz_cVi (av := [ji (2)]) (st' := []) dX8_copy_123 kn_X8_71 kmX8_finding tt416 rfl rfl rfl (Nat.le_of_ble_eq_true rfl) (by decide) rfl (c_X8_finding g (jz_su s 416 1 (0)) 2 (by omega)) (fun hr123 ho123 => ?_)
              refine zz_retie dX8_copy_126 rfl (by decide) ?_ ?_
              · unfold v_X8_copy; (repeat (first | rw [if_pos (by omega)] | rw [if_neg (by omega)])) <;> first | rfl | done
              · unfold f_X8_copy; (repeat (first | rw [if_pos (by omega)] | rw [if_neg (by omega)])) <;> first | rfl | done
            · refine jj_iload dX8_copy_76 rfl ?_
              refine jj_if_lt (tgt := 121) dX8_copy_78 (by decide) (fun h78 => ?_) (fun h78 => ?_)
              · refine jj_aload_n dX8_copy_121 rfl ?_
                refine jj_iconst dX8_copy_122 (kk := ?_)
                refine zz_cVi (av := [ji (2)]) (st' := []) dX8_copy_123 kn_X8_71 kmX8_finding tt416 rfl rfl rfl (Nat.le_of_ble_eq_true rfl) (by decide) rfl (c_X8_finding g (jz_su s 416 1 (0)) 2 (by omega)) (fun hr123 ho123 => ?_)
                refine zz_retie dX8_copy_126 rfl (by decide) ?_ ?_
                · unfold v_X8_copy; (repeat (first | rw [if_pos (by omega)] | rw [if_neg (by omega)])) <;> first | rfl | done
                · unfold f_X8_copy; (repeat (first | rw [if_pos (by omega)] | rw [if_neg (by omega)])) <;> first | rfl | done
              · refine jj_iload dX8_copy_81 rfl ?_
                refine jj_if_lt (tgt := 121) dX8_copy_83 (by decide) (fun h83 => ?_) (fun h83 => ?_)
                · refine jj_aload_n dX8_copy_121 rfl ?_
                  refine jj_iconst dX8_copy_122 (kk := ?_)
                  refine zz_cVi (av := [ji (2)]) (st' := []) dX8_copy_123 kn_X8_71 kmX8_finding tt416 rfl rfl rfl (Nat.le_of_ble_eq_true rfl) (by decide) rfl (c_X8_finding g (jz_su s 416 1 (0)) 2 (by omega)) (fun hr123 ho123 => ?_)
                  refine zz_retie dX8_copy_126 rfl (by decide) ?_ ?_
                  · unfold v_X8_copy; (repeat (first | rw [if_pos (by omega)] | rw [if_neg (by omega)])) <;> first | rfl | done
                  · unfold f_X8_copy; (repeat (first | rw [if_pos (by omega)] | rw [if_neg (by omega)])) <;> first | rfl | done
                · refine jj_iload_n dX8_copy_86 rfl ?_
                  refine jj_i2l dX8_copy_87 ?_
                  refine jj_iload dX8_copy_88 rfl ?_
                  refine jj_i2l dX8_copy_90 ?_
                  refine jj_ladd dX8_copy_91 (by omega) ?_
                  refine jj_aload_n dX8_copy_92 rfl ?_
                  refine zz_getR dX8_copy_93 kf_X8_13 tt416 rfl ?_
                  refine jj_iload_n dX8_copy_96 rfl ?_
                  refine zz_ialdN (j := a.toNat) dX8_copy_97 tt418 (by omega) (by omega) ?_
                  refine zz_top (b := s 418 a.toNat) (jz_su_n (Or.inl (by decide))) ?_
                  refine jj_i2l dX8_copy_98 ?_
                  refine jj_lcmp dX8_copy_99 ?_
                  refine jj_if_gt (tgt := 121) dX8_copy_100 (by decide) (fun h100 => ?_) (fun h100 => ?_)
                  · refine jj_aload_n dX8_copy_121 rfl ?_
                    refine jj_iconst dX8_copy_122 (kk := ?_)
                    refine zz_cVi (av := [ji (2)]) (st' := []) dX8_copy_123 kn_X8_71 kmX8_finding tt416 rfl rfl rfl (Nat.le_of_ble_eq_true rfl) (by decide) rfl (c_X8_finding g (jz_su s 416 1 (0)) 2 (by omega)) (fun hr123 ho123 => ?_)
                    refine zz_retie dX8_copy_126 rfl (by decide) ?_ ?_
                    · unfold v_X8_copy; (repeat (first | rw [if_pos (by omega)] | rw [if_neg (by omega)])) <;> first | rfl | done
                    · unfold f_X8_copy; (repeat (first | rw [if_pos (by omega)] | rw [if_neg (by omega)])) <;> first | rfl | done
                  · refine jj_iload dX8_copy_103 rfl ?_
                    refine jj_i2l dX8_copy_105 ?_
                    refine jj_iload dX8_copy_106 rfl ?_
                    refine jj_i2l dX8_copy_108 ?_
                    refine jj_ladd dX8_copy_109 (by omega) ?_
                    refine jj_aload_n dX8_copy_110 rfl ?_
                    refine zz_getR dX8_copy_111 kf_X8_13 tt416 rfl ?_
                    refine jj_iload_n dX8_copy_114 rfl ?_
                    refine zz_ialdN (j := c.toNat) dX8_copy_115 tt418 (by omega) (by omega) ?_
                    refine zz_top (b := s 418 c.toNat) (jz_su_n (Or.inl (by decide))) ?_
                    refine jj_i2l dX8_copy_116 ?_
                    refine jj_lcmp dX8_copy_117 ?_
                    refine jj_if_le (tgt := 127) dX8_copy_118 (by decide) (fun h118 => ?_) (fun h118 => ?_)
                    · have L138 : ∀ (up : Int) (hh138_0 : up = if j ≤ i then 1 else 0), jz_Z g mX8_copy (jq_ie (v_X8_copy s a i c j n) (f_X8_copy s a i c j n)) 138 [some (jr (416)), some (ji (a)), some (ji (i)), some (ji (c)), some (ji (j)), some (ji (n)), none, none, none] [ji (up)] (jz_su s 416 1 (0)) := by
                        intro up hh138_0
                        refine jj_istore (ls' := [some (jr (416)), some (ji (a)), some (ji (i)), some (ji (c)), some (ji (j)), some (ji (n)), some (ji (up)), none, none]) dX8_copy_138 (by decide) rfl rfl ?_
                        refine jj_iconst dX8_copy_140 (kk := ?_)
                        refine jj_istore (ls' := [some (jr (416)), some (ji (a)), some (ji (i)), some (ji (c)), some (ji (j)), some (ji (n)), some (ji (up)), some (ji (0)), none]) dX8_copy_141 (by decide) rfl rfl ?_
                        have L143 : ∀ (nn : Nat) (k : Nat) (hh143_0 : (k : Int) ≤ n), n.toNat - k < nn → jz_Z g mX8_copy (jq_ie (v_X8_copy s a i c j n) (f_X8_copy s a i c j n)) 143 [some (jr (416)), some (ji (a)), some (ji (i)), some (ji (c)), some (ji (j)), some (ji (n)), some (ji (up)), some (ji ((k : Int))), none] [] (f_X8_cp (jz_su s 416 1 0) (40 * a.toNat + i.toNat) (40 * c.toNat + j.toNat) (if j ≤ i then 1 else 0) n.toNat k) := by
                          intro nn
                          induction nn with
                          | zero => intro k hh143_0 hmz; exact absurd hmz (Nat.not_lt_zero _)
                          | succ nn ih143 =>
                            intro k hh143_0 hm143
                            refine jj_iload dX8_copy_143 rfl ?_
                            refine jj_iload dX8_copy_145 rfl ?_
                            refine jj_icmp_ge (tgt := 204) dX8_copy_147 (by decide) (fun h147 => ?_) (fun h147 => ?_)
                            · refine jj_iload dX8_copy_204 rfl ?_
                              refine zz_retie dX8_copy_206 rfl (by decide) ?_ ?_
                              · unfold v_X8_copy; rw [if_pos (by omega), if_neg (by omega), if_neg (by omega), if_pos (by omega)]
                              · unfold f_X8_copy; generalize (if j ≤ i then (1 : Int) else 0) = U; rw [if_pos (by omega), if_neg (by omega), if_neg (by omega), if_pos (by omega)]; congr 1; omega
                            · have L167 : ∀ (t : Nat) (hh167_0 : t = if (if j ≤ i then (1 : Int) else 0) = 0 then n.toNat - 1 - k else k) (hh167_1 : (t : Int) < n), jz_Z g mX8_copy (jq_ie (v_X8_copy s a i c j n) (f_X8_copy s a i c j n)) 167 [some (jr (416)), some (ji (a)), some (ji (i)), some (ji (c)), some (ji (j)), some (ji (n)), some (ji (up)), some (ji ((k : Int))), none] [ji ((t : Int))] (f_X8_cp (jz_su s 416 1 0) (40 * a.toNat + i.toNat) (40 * c.toNat + j.toNat) (if j ≤ i then 1 else 0) n.toNat k) := by
                                intro t hh167_0 hh167_1
                                refine jj_istore (ls' := [some (jr (416)), some (ji (a)), some (ji (i)), some (ji (c)), some (ji (j)), some (ji (n)), some (ji (up)), some (ji ((k : Int))), some (ji ((t : Int)))]) dX8_copy_167 (by decide) rfl rfl ?_
                                refine jj_aload_n dX8_copy_169 rfl ?_
                                refine zz_getR dX8_copy_170 kf_X8_16 tt416 rfl ?_
                                refine jj_bipush dX8_copy_173 (kk := ?_)
                                refine jj_iload_n dX8_copy_175 rfl ?_
                                refine jj_imul dX8_copy_176 (by omega) ?_
                                refine jj_iload dX8_copy_177 rfl ?_
                                refine jj_iadd dX8_copy_179 (by omega) ?_
                                refine jj_iload dX8_copy_180 rfl ?_
                                refine jj_iadd dX8_copy_182 (by omega) ?_
                                refine jj_aload_n dX8_copy_183 rfl ?_
                                refine zz_getR dX8_copy_184 kf_X8_16 tt416 rfl ?_
                                refine jj_bipush dX8_copy_187 (kk := ?_)
                                refine jj_iload_n dX8_copy_189 rfl ?_
                                refine jj_imul dX8_copy_190 (by omega) ?_
                                refine jj_iload_n dX8_copy_191 rfl ?_
                                refine jj_iadd dX8_copy_192 (by omega) ?_
                                refine jj_iload dX8_copy_193 rfl ?_
                                refine jj_iadd dX8_copy_195 (by omega) ?_
                                refine zz_ialdN (j := 40 * a.toNat + i.toNat + t) dX8_copy_196 tt419 (by omega) (by omega) ?_
                                refine zz_iastN (j := 40 * c.toNat + j.toNat + t) dX8_copy_197 tt419 (by omega) (by omega) ?_
                                refine jj_iinc (ls' := [some (jr (416)), some (ji (a)), some (ji (i)), some (ji (c)), some (ji (j)), some (ji (n)), some (ji (up)), some (ji ((k : Int) + 1)), some (ji ((t : Int)))]) dX8_copy_198 rfl (by decide) rfl (by omega) rfl ?_
                                refine jj_goto (tgt := 143) dX8_copy_201 (by decide) ?_
                                refine jj_fgt (i := 8) (ls' := [some (jr (416)), some (ji (a)), some (ji (i)), some (ji (c)), some (ji (j)), some (ji (n)), some (ji (up)), some (ji ((k : Int) + 1)), none]) rfl ?_
                                refine zz_st (s1 := f_X8_cp (jz_su s 416 1 0) (40 * a.toNat + i.toNat) (40 * c.toNat + j.toNat) (if j ≤ i then 1 else 0) n.toNat (k + 1)) (by simp only [f_X8_cp]; rw [hh167_0]) ?_
                                exact ih143 (k + 1) (by first | assumption | omega) (by omega)
                              refine jj_iload dX8_copy_150 rfl ?_
                              refine jj_if_eq (tgt := 160) dX8_copy_152 (by decide) (fun h152 => ?_) (fun h152 => ?_)
                              · refine jj_iload dX8_copy_160 rfl ?_
                                refine jj_iconst dX8_copy_162 (kk := ?_)
                                refine jj_isub dX8_copy_163 (by omega) ?_
                                refine jj_iload dX8_copy_164 rfl ?_
                                refine jj_isub dX8_copy_166 (by omega) ?_
                                refine zz_top (b := ((n.toNat - 1 - k : Nat) : Int)) (by omega) ?_
                                exact L167 (n.toNat - 1 - k) (by rw [← hh138_0]; first | (rw [if_pos (by omega)]; done) | (rw [if_neg (by omega)]; done)) (by omega)
                              · refine jj_iload dX8_copy_155 rfl ?_
                                refine jj_goto (tgt := 167) dX8_copy_157 (by decide) ?_
                                exact L167 k (by rw [← hh138_0]; first | (rw [if_pos (by omega)]; done) | (rw [if_neg (by omega)]; done)) (by omega)
                        refine zz_st (s1 := f_X8_cp (jz_su s 416 1 0) (40 * a.toNat + i.toNat) (40 * c.toNat + j.toNat) (if j ≤ i then 1 else 0) n.toNat 0) (by rfl) ?_
                        exact L143 _ 0 (by first | assumption | omega) (Nat.lt_succ_self _)
                      refine jj_iload_n dX8_copy_127 rfl ?_
                      refine jj_iload dX8_copy_128 rfl ?_
                      refine jj_icmp_lt (tgt := 137) dX8_copy_130 (by decide) (fun h130 => ?_) (fun h130 => ?_)
                      · refine jj_iconst dX8_copy_137 (kk := ?_)
                        exact L138 0 (by first | (rw [if_pos (by omega)]; done) | (rw [if_neg (by omega)]; done))
                      · refine jj_iconst dX8_copy_133 (kk := ?_)
                        refine jj_goto (tgt := 138) dX8_copy_134 (by decide) ?_
                        exact L138 1 (by first | (rw [if_pos (by omega)]; done) | (rw [if_neg (by omega)]; done))
                    · refine jj_aload_n dX8_copy_121 rfl ?_
                      refine jj_iconst dX8_copy_122 (kk := ?_)
                      refine zz_cVi (av := [ji (2)]) (st' := []) dX8_copy_123 kn_X8_71 kmX8_finding tt416 rfl rfl rfl (Nat.le_of_ble_eq_true rfl) (by decide) rfl (c_X8_finding g (jz_su s 416 1 (0)) 2 (by omega)) (fun hr123 ho123 => ?_)
                      refine zz_retie dX8_copy_126 rfl (by decide) ?_ ?_
                      · unfold v_X8_copy; (repeat (first | rw [if_pos (by omega)] | rw [if_neg (by omega)])) <;> first | rfl | done
                      · unfold f_X8_copy; (repeat (first | rw [if_pos (by omega)] | rw [if_neg (by omega)])) <;> first | rfl | done
          · refine jj_aload_n dX8_copy_66 rfl ?_
            refine jj_iconst dX8_copy_67 (kk := ?_)
            refine zz_cVi (av := [ji (5)]) (st' := []) dX8_copy_68 kn_X8_71 kmX8_finding tt416 rfl rfl rfl (Nat.le_of_ble_eq_true rfl) (by decide) rfl (c_X8_finding g (jz_su s 416 1 (0)) 5 (by omega)) (fun hr68 ho68 => ?_)
            refine zz_retie dX8_copy_71 rfl (by decide) ?_ ?_
            · unfold v_X8_copy; (repeat (first | rw [if_pos (by omega)] | rw [if_neg (by omega)])) <;> first | rfl | done
            · unfold f_X8_copy; (repeat (first | rw [if_pos (by omega)] | rw [if_neg (by omega)])) <;> first | rfl | done
        · refine jj_aload_n dX8_copy_45 rfl ?_
          refine jj_iconst dX8_copy_46 (kk := ?_)
          refine zz_cVi (av := [ji (1)]) (st' := []) dX8_copy_47 kn_X8_71 kmX8_finding tt416 rfl rfl rfl (Nat.le_of_ble_eq_true rfl) (by decide) rfl (c_X8_finding g (jz_su s 416 1 (0)) 1 (by omega)) (fun hr47 ho47 => ?_)
          refine zz_retie dX8_copy_50 rfl (by decide) ?_ ?_
          · unfold v_X8_copy; (repeat (first | rw [if_pos (by omega)] | rw [if_neg (by omega)])) <;> first | rfl | done
          · unfold f_X8_copy; (repeat (first | rw [if_pos (by omega)] | rw [if_neg (by omega)])) <;> first | rfl | done
    · have hg16 := bz_f h16
      refine jj_ldc dX8_copy_19 kk_X8_70 (kk := ?_)
      refine zz_retie dX8_copy_21 rfl (by decide) ?_ ?_
      · unfold v_X8_copy; (repeat (first | rw [if_pos (by omega)] | rw [if_neg (by omega)])) <;> first | rfl | done
      · unfold f_X8_copy; (repeat (first | rw [if_pos (by omega)] | rw [if_neg (by omega)])) <;> first | rfl | done

set_option maxRecDepth 100000 in
set_option maxHeartbeats 4000000 in
theorem c_X8_readLeaf (g : jz_G) (s : jz_St) (hT : mTk s) (hF : 0 ≤ s 421 3 ∧ s 421 3 ≤ 7) : jz_C g mX8_readLeaf [jr (416)] s (jq_ve (f_X8_readLeaf s)) := by
  refine zz_C_of koX8_readLeaf rfl (Nat.le_of_ble_eq_true rfl) ?_
  refine zz_pad 5 ?_
  show jz_Z g mX8_readLeaf (jq_ve (f_X8_readLeaf s)) 0 [some (jr (416)), none, none, none, none, none] [] s
  refine jj_aload_n dX8_readLeaf_0 rfl ?_
  refine zz_getI dX8_readLeaf_1 kf_X8_94 tt416 rfl rfl ?_
  refine zz_cSi (av := [ji (s 416 15)]) (st' := []) dX8_readLeaf_4 kn_X8_122 kmX8_kindBy rfl rfl (Nat.le_of_ble_eq_true rfl) (by decide) rfl (c_X8_kindBy g s (s 416 15)) (fun hr4 ho4 => ?_)
  refine jj_istore_n (ls' := [some (jr (416)), some (ji (fKb (s 416 15))), none, none, none, none]) dX8_readLeaf_7 (by decide) rfl rfl ?_
  have L24 : ∀ (s' : jz_St) (hh24_0 : s' = if s 421 3 = 7 then f_X8_bad s 3 else s) (hh24_1 : mTk s'), jz_Z g mX8_readLeaf (jq_ve (f_X8_readLeaf s)) 24 [some (jr (416)), some (ji (fKb (s 416 15))), none, none, none, none] [] s' := by
    intro s' hh24_0 hh24_1
    refine jj_aload_n dX8_readLeaf_24 rfl ?_
    refine jj_iconst dX8_readLeaf_25 (kk := ?_)
    refine zz_cVv (av := [ji (1)]) (st' := []) dX8_readLeaf_26 kn_X8_115 kmX8_must tt416 rfl rfl rfl (Nat.le_of_ble_eq_true rfl) (by decide) rfl (c_X8_must g s' 1 hh24_1) (fun ho26 => ?_)
    refine zz_st (s1 := f_X8_rlA s) (by unfold f_X8_rlA; rw [hh24_0]) ?_
    refine jj_aload_n dX8_readLeaf_29 rfl ?_
    refine jj_iconst dX8_readLeaf_30 (kk := ?_)
    refine jj_bipush dX8_readLeaf_31 (kk := ?_)
    refine zz_cVi (av := [ji (1), ji (20)]) (st' := []) dX8_readLeaf_33 kn_X8_125 kmX8_number tt416 rfl rfl rfl (Nat.le_of_ble_eq_true rfl) (by decide) rfl (c_X8_number g (f_X8_rlA s) 1 20 (mTk_rlA hT)) (fun hr33 ho33 => ?_)
    refine jj_istore_n (ls' := [some (jr (416)), some (ji (fKb (s 416 15))), some (ji (v_X8_number (f_X8_rlA s) 1 20)), none, none, none]) dX8_readLeaf_36 (by decide) rfl rfl ?_
    refine jj_aload_n dX8_readLeaf_37 rfl ?_
    refine jj_bipush dX8_readLeaf_38 (kk := ?_)
    refine zz_cVv (av := [ji (44)]) (st' := []) dX8_readLeaf_40 kn_X8_129 kmX8_mustSign tt416 rfl rfl rfl (Nat.le_of_ble_eq_true rfl) (by decide) rfl (c_X8_mustSign g (f_X8_number (f_X8_rlA s) 1 20) 44 (mTk_number (mTk_rlA hT))) (fun ho40 => ?_)
    refine zz_st (s1 := f_X8_rlB s) (by rfl) ?_
    refine jj_aload_n dX8_readLeaf_43 rfl ?_
    refine jj_iconst dX8_readLeaf_44 (kk := ?_)
    refine jj_bipush dX8_readLeaf_45 (kk := ?_)
    refine zz_cVi (av := [ji (0), ji (9)]) (st' := []) dX8_readLeaf_47 kn_X8_125 kmX8_number tt416 rfl rfl rfl (Nat.le_of_ble_eq_true rfl) (by decide) rfl (c_X8_number g (f_X8_rlB s) 0 9 (mTk_rlB hT)) (fun hr47 ho47 => ?_)
    refine jj_istore_n (ls' := [some (jr (416)), some (ji (fKb (s 416 15))), some (ji (v_X8_number (f_X8_rlA s) 1 20)), some (ji (v_X8_number (f_X8_rlB s) 0 9)), none, none]) dX8_readLeaf_50 (by decide) rfl rfl ?_
    refine jj_aload_n dX8_readLeaf_51 rfl ?_
    refine jj_bipush dX8_readLeaf_52 (kk := ?_)
    refine zz_cVv (av := [ji (44)]) (st' := []) dX8_readLeaf_54 kn_X8_129 kmX8_mustSign tt416 rfl rfl rfl (Nat.le_of_ble_eq_true rfl) (by decide) rfl (c_X8_mustSign g (f_X8_number (f_X8_rlB s) 0 9) 44 (mTk_number (mTk_rlB hT))) (fun ho54 => ?_)
    refine zz_st (s1 := f_X8_rlC s) (by rfl) ?_
    refine jj_aload_n dX8_readLeaf_57 rfl ?_
    refine jj_iconst dX8_readLeaf_58 (kk := ?_)
    refine jj_bipush dX8_readLeaf_59 (kk := ?_)
    refine zz_cVi (av := [ji (0), ji (9)]) (st' := []) dX8_readLeaf_61 kn_X8_125 kmX8_number tt416 rfl rfl rfl (Nat.le_of_ble_eq_true rfl) (by decide) rfl (c_X8_number g (f_X8_rlC s) 0 9 (mTk_rlC hT)) (fun hr61 ho61 => ?_)
    refine jj_istore (ls' := [some (jr (416)), some (ji (fKb (s 416 15))), some (ji (v_X8_number (f_X8_rlA s) 1 20)), some (ji (v_X8_number (f_X8_rlB s) 0 9)), some (ji (v_X8_number (f_X8_rlC s) 0 9)), none]) dX8_readLeaf_64 (by decide) rfl rfl ?_
    refine jj_aload_n dX8_readLeaf_66 rfl ?_
    refine jj_bipush dX8_readLeaf_67 (kk := ?_)
    refine zz_cVv (av := [ji (59)]) (st' := []) dX8_readLeaf_69 kn_X8_129 kmX8_mustSign tt416 rfl rfl rfl (Nat.le_of_ble_eq_true rfl) (by decide) rfl (c_X8_mustSign g (f_X8_number (f_X8_rlC s) 0 9) 59 (mTk_number (mTk_rlC hT))) (fun ho69 => ?_)
    refine zz_st (s1 := f_X8_rlD s) (by rfl) ?_
    refine jj_aload_n dX8_readLeaf_72 rfl ?_
    refine zz_getI dX8_readLeaf_73 kf_X8_81 tt416 rfl rfl ?_
    refine jj_if_ne (tgt := 151) dX8_readLeaf_76 (by decide) (fun h76 => ?_) (fun h76 => ?_)
    · refine zz_retve dX8_readLeaf_151 rfl (by decide) ?_
      · unfold f_X8_readLeaf; first | (rw [if_pos h76]; rfl) | (rw [if_neg h76]; done)
    · have hD3 : f_X8_rlD s 421 3 = s 421 3 := by rw [rlD_o s (by decide)]
      refine jj_bipush dX8_readLeaf_79 (kk := ?_)
      refine jj_iconst dX8_readLeaf_81 (kk := ?_)
      refine jj_aload_n dX8_readLeaf_82 rfl ?_
      refine zz_getR dX8_readLeaf_83 kf_X8_22 tt416 rfl ?_
      refine jj_iconst dX8_readLeaf_86 (kk := ?_)
      refine zz_ialdN (j := 3) dX8_readLeaf_87 tt421 (by omega) (by omega) ?_
      refine jj_imul dX8_readLeaf_88 (by omega) ?_
      refine jj_iadd dX8_readLeaf_89 (by omega) ?_
      refine jj_istore (ls' := [some (jr (416)), some (ji (fKb (s 416 15))), some (ji (v_X8_number (f_X8_rlA s) 1 20)), some (ji (v_X8_number (f_X8_rlB s) 0 9)), some (ji (v_X8_number (f_X8_rlC s) 0 9)), some (ji (6 + (5 * ((f_X8_rlD s) 421 3))))]) dX8_readLeaf_90 (by decide) rfl rfl ?_
      refine jj_aload_n dX8_readLeaf_92 rfl ?_
      refine zz_getR dX8_readLeaf_93 kf_X8_22 tt416 rfl ?_
      refine jj_iload dX8_readLeaf_96 rfl ?_
      refine jj_iload_n dX8_readLeaf_98 rfl ?_
      refine zz_iastN (j := 6 + 5 * (f_X8_rlD s 421 3).toNat) dX8_readLeaf_99 tt421 (by omega) (by omega) ?_
      refine jj_aload_n dX8_readLeaf_100 rfl ?_
      refine zz_getR dX8_readLeaf_101 kf_X8_22 tt416 rfl ?_
      refine jj_iload dX8_readLeaf_104 rfl ?_
      refine jj_iconst dX8_readLeaf_106 (kk := ?_)
      refine jj_iadd dX8_readLeaf_107 (by omega) ?_
      refine jj_iload_n dX8_readLeaf_108 rfl ?_
      refine zz_iastN (j := 6 + 5 * (f_X8_rlD s 421 3).toNat + 1) dX8_readLeaf_109 tt421 (by omega) (by omega) ?_
      refine jj_aload_n dX8_readLeaf_110 rfl ?_
      refine zz_getR dX8_readLeaf_111 kf_X8_22 tt416 rfl ?_
      refine jj_iload dX8_readLeaf_114 rfl ?_
      refine jj_iconst dX8_readLeaf_116 (kk := ?_)
      refine jj_iadd dX8_readLeaf_117 (by omega) ?_
      refine jj_iload_n dX8_readLeaf_118 rfl ?_
      refine zz_iastN (j := 6 + 5 * (f_X8_rlD s 421 3).toNat + 2) dX8_readLeaf_119 tt421 (by omega) (by omega) ?_
      refine jj_aload_n dX8_readLeaf_120 rfl ?_
      refine zz_getR dX8_readLeaf_121 kf_X8_22 tt416 rfl ?_
      refine jj_iload dX8_readLeaf_124 rfl ?_
      refine jj_iconst dX8_readLeaf_126 (kk := ?_)
      refine jj_iadd dX8_readLeaf_127 (by omega) ?_
      refine jj_iload dX8_readLeaf_128 rfl ?_
      refine zz_iastN (j := 6 + 5 * (f_X8_rlD s 421 3).toNat + 3) dX8_readLeaf_130 tt421 (by omega) (by omega) ?_
      refine jj_aload_n dX8_readLeaf_131 rfl ?_
      refine zz_getR dX8_readLeaf_132 kf_X8_22 tt416 rfl ?_
      refine jj_iload dX8_readLeaf_135 rfl ?_
      refine jj_iconst dX8_readLeaf_137 (kk := ?_)
      refine jj_iadd dX8_readLeaf_138 (by omega) ?_
      refine jj_iload_n dX8_readLeaf_139 rfl ?_
      refine zz_iastN (j := 6 + 5 * (f_X8_rlD s 421 3).toNat + 4) dX8_readLeaf_140 tt421 (by omega) (by omega) ?_
      refine jj_aload_n dX8_readLeaf_141 rfl ?_
      refine zz_getR dX8_readLeaf_142 kf_X8_22 tt416 rfl ?_
      refine jj_iconst dX8_readLeaf_145 (kk := ?_)
      refine jj_dup2 dX8_readLeaf_146 (kk := ?_)
      refine zz_ialdN (j := 3) dX8_readLeaf_147 tt421 (by omega) (by omega) ?_
      refine zz_top (b := f_X8_rlD s 421 3) (by rw [jz_su_f (by omega), jz_su_f (by omega), jz_su_f (by omega), jz_su_f (by omega), jz_su_f (by omega)]) ?_
      refine jj_iconst dX8_readLeaf_148 (kk := ?_)
      refine jj_iadd dX8_readLeaf_149 (by omega) ?_
      refine zz_iastN (j := 3) dX8_readLeaf_150 tt421 (by omega) (by omega) ?_
      refine zz_retve dX8_readLeaf_151 rfl (by decide) ?_
      · unfold f_X8_readLeaf; first | (rw [if_pos h76]; rfl) | (rw [if_neg h76]; done)
  refine jj_aload_n dX8_readLeaf_8 rfl ?_
  refine zz_getR dX8_readLeaf_9 kf_X8_22 tt416 rfl ?_
  refine jj_iconst dX8_readLeaf_12 (kk := ?_)
  refine zz_ialdN (j := 3) dX8_readLeaf_13 tt421 (by omega) (by omega) ?_
  refine jj_bipush dX8_readLeaf_14 (kk := ?_)
  refine jj_icmp_ne (tgt := 24) dX8_readLeaf_16 (by decide) (fun h16 => ?_) (fun h16 => ?_)
  · exact L24 s (by first | (rw [if_pos (by omega)]; done) | (rw [if_neg (by omega)]; done)) (by first | exact hT | exact mTk_bad hT)
  · refine jj_aload_n dX8_readLeaf_19 rfl ?_
    refine jj_iconst dX8_readLeaf_20 (kk := ?_)
    refine zz_cVv (av := [ji (3)]) (st' := []) dX8_readLeaf_21 kn_X8_108 kmX8_bad tt416 rfl rfl rfl (Nat.le_of_ble_eq_true rfl) (by decide) rfl (c_X8_bad g s 3) (fun ho21 => ?_)
    exact L24 (f_X8_bad s 3) (by first | (rw [if_pos (by omega)]; done) | (rw [if_neg (by omega)]; done)) (by first | exact hT | exact mTk_bad hT)

set_option maxRecDepth 100000 in
set_option maxHeartbeats 4000000 in
theorem c_X8_readGoat (g : jz_G) (s : jz_St) (hT : mTk s) (hF : 0 ≤ s 421 4 ∧ s 421 4 ≤ 4) : jz_C g mX8_readGoat [jr (416)] s (jq_ve (f_X8_readGoat s)) := by
  refine zz_C_of koX8_readGoat rfl (Nat.le_of_ble_eq_true rfl) ?_
  refine zz_pad 2 ?_
  show jz_Z g mX8_readGoat (jq_ve (f_X8_readGoat s)) 0 [some (jr (416)), none, none] [] s
  have L15 : ∀ (s' : jz_St) (hh15_0 : s' = f_X8_gt0 s) (hh15_1 : mTk s'), jz_Z g mX8_readGoat (jq_ve (f_X8_readGoat s)) 15 [some (jr (416)), none, none] [] s' := by
    intro s' hh15_0 hh15_1
    refine jj_aload_n dX8_readGoat_15 rfl ?_
    refine jj_aload_n dX8_readGoat_16 rfl ?_
    refine jj_bipush dX8_readGoat_17 (kk := ?_)
    refine zz_cVi (av := [ji (103)]) (st' := [jr (416)]) dX8_readGoat_19 kn_X8_132 kmX8_isLetter tt416 rfl rfl rfl (Nat.le_of_ble_eq_true rfl) (by decide) rfl (c_X8_isLetter g s' 103) (fun hr19 ho19 => ?_)
    refine zz_cVv (av := [ji (v_X8_isLetter s' 103)]) (st' := []) dX8_readGoat_22 kn_X8_115 kmX8_must tt416 rfl rfl rfl (Nat.le_of_ble_eq_true rfl) (by decide) rfl (c_X8_must g s' (v_X8_isLetter s' 103) hh15_1) (fun ho22 => ?_)
    refine zz_st (s1 := f_X8_rgA s) (by unfold f_X8_rgA; rw [hh15_0]) ?_
    refine jj_aload_n dX8_readGoat_25 rfl ?_
    refine jj_iconst dX8_readGoat_26 (kk := ?_)
    refine jj_bipush dX8_readGoat_27 (kk := ?_)
    refine zz_cVi (av := [ji (0), ji (40)]) (st' := []) dX8_readGoat_29 kn_X8_125 kmX8_number tt416 rfl rfl rfl (Nat.le_of_ble_eq_true rfl) (by decide) rfl (c_X8_number g (f_X8_rgA s) 0 40 (mTk_rgA hT)) (fun hr29 ho29 => ?_)
    refine jj_istore_n (ls' := [some (jr (416)), some (ji (v_X8_number (f_X8_rgA s) 0 40)), none]) dX8_readGoat_32 (by decide) rfl rfl ?_
    refine jj_aload_n dX8_readGoat_33 rfl ?_
    refine jj_bipush dX8_readGoat_34 (kk := ?_)
    refine zz_cVv (av := [ji (44)]) (st' := []) dX8_readGoat_36 kn_X8_129 kmX8_mustSign tt416 rfl rfl rfl (Nat.le_of_ble_eq_true rfl) (by decide) rfl (c_X8_mustSign g (f_X8_number (f_X8_rgA s) 0 40) 44 (mTk_number (mTk_rgA hT))) (fun ho36 => ?_)
    refine zz_st (s1 := f_X8_rgB s) (by rfl) ?_
    refine jj_aload_n dX8_readGoat_39 rfl ?_
    refine jj_iconst dX8_readGoat_40 (kk := ?_)
    refine jj_bipush dX8_readGoat_41 (kk := ?_)
    refine zz_cVi (av := [ji (0), ji (9)]) (st' := []) dX8_readGoat_43 kn_X8_125 kmX8_number tt416 rfl rfl rfl (Nat.le_of_ble_eq_true rfl) (by decide) rfl (c_X8_number g (f_X8_rgB s) 0 9 (mTk_rgB hT)) (fun hr43 ho43 => ?_)
    refine jj_istore_n (ls' := [some (jr (416)), some (ji (v_X8_number (f_X8_rgA s) 0 40)), some (ji (v_X8_number (f_X8_rgB s) 0 9))]) dX8_readGoat_46 (by decide) rfl rfl ?_
    refine jj_aload_n dX8_readGoat_47 rfl ?_
    refine jj_bipush dX8_readGoat_48 (kk := ?_)
    refine zz_cVv (av := [ji (59)]) (st' := []) dX8_readGoat_50 kn_X8_129 kmX8_mustSign tt416 rfl rfl rfl (Nat.le_of_ble_eq_true rfl) (by decide) rfl (c_X8_mustSign g (f_X8_number (f_X8_rgB s) 0 9) 59 (mTk_number (mTk_rgB hT))) (fun ho50 => ?_)
    refine zz_st (s1 := f_X8_rgC s) (by rfl) ?_
    refine jj_aload_n dX8_readGoat_53 rfl ?_
    refine zz_getI dX8_readGoat_54 kf_X8_81 tt416 rfl rfl ?_
    refine jj_if_ne (tgt := 106) dX8_readGoat_57 (by decide) (fun h57 => ?_) (fun h57 => ?_)
    · refine zz_retve dX8_readGoat_106 rfl (by decide) ?_
      · unfold f_X8_readGoat; first | (rw [if_pos h57]; rfl) | (rw [if_neg h57]; done)
    · have hD3 : f_X8_rgC s 421 4 = s 421 4 := by rw [rgC_o s (by decide)]
      have hD4 := rgC_4 h57
      refine jj_aload_n dX8_readGoat_60 rfl ?_
      refine zz_getR dX8_readGoat_61 kf_X8_22 tt416 rfl ?_
      refine jj_bipush dX8_readGoat_64 (kk := ?_)
      refine jj_iconst dX8_readGoat_66 (kk := ?_)
      refine jj_aload_n dX8_readGoat_67 rfl ?_
      refine zz_getR dX8_readGoat_68 kf_X8_22 tt416 rfl ?_
      refine jj_iconst dX8_readGoat_71 (kk := ?_)
      refine zz_ialdN (j := 4) dX8_readGoat_72 tt421 (by omega) (by omega) ?_
      refine jj_imul dX8_readGoat_73 (by omega) ?_
      refine jj_iadd dX8_readGoat_74 (by omega) ?_
      refine jj_iload_n dX8_readGoat_75 rfl ?_
      refine zz_iastN (j := 41 + 3 * (f_X8_rgC s 421 4).toNat) dX8_readGoat_76 tt421 (by omega) (by omega) ?_
      refine jj_aload_n dX8_readGoat_77 rfl ?_
      refine zz_getR dX8_readGoat_78 kf_X8_22 tt416 rfl ?_
      refine jj_bipush dX8_readGoat_81 (kk := ?_)
      refine jj_iconst dX8_readGoat_83 (kk := ?_)
      refine jj_aload_n dX8_readGoat_84 rfl ?_
      refine zz_getR dX8_readGoat_85 kf_X8_22 tt416 rfl ?_
      refine jj_iconst dX8_readGoat_88 (kk := ?_)
      refine zz_ialdN (j := 4) dX8_readGoat_89 tt421 (by omega) (by omega) ?_
      refine zz_top (b := f_X8_rgC s 421 4) (by rw [jz_su_f (by omega)]) ?_
      refine jj_imul dX8_readGoat_90 (by omega) ?_
      refine jj_iadd dX8_readGoat_91 (by omega) ?_
      refine jj_iconst dX8_readGoat_92 (kk := ?_)
      refine jj_iadd dX8_readGoat_93 (by omega) ?_
      refine jj_iload_n dX8_readGoat_94 rfl ?_
      refine zz_iastN (j := 41 + 3 * (f_X8_rgC s 421 4).toNat + 1) dX8_readGoat_95 tt421 (by omega) (by omega) ?_
      refine jj_aload_n dX8_readGoat_96 rfl ?_
      refine zz_getR dX8_readGoat_97 kf_X8_22 tt416 rfl ?_
      refine jj_iconst dX8_readGoat_100 (kk := ?_)
      refine jj_dup2 dX8_readGoat_101 (kk := ?_)
      refine zz_ialdN (j := 4) dX8_readGoat_102 tt421 (by omega) (by omega) ?_
      refine zz_top (b := f_X8_rgC s 421 4) (by rw [jz_su_f (by omega), jz_su_f (by omega)]) ?_
      refine jj_iconst dX8_readGoat_103 (kk := ?_)
      refine jj_iadd dX8_readGoat_104 (by omega) ?_
      refine zz_iastN (j := 4) dX8_readGoat_105 tt421 (by omega) (by omega) ?_
      refine zz_retve dX8_readGoat_106 rfl (by decide) ?_
      · unfold f_X8_readGoat; first | (rw [if_pos h57]; rfl) | (rw [if_neg h57]; done)
  refine jj_aload_n dX8_readGoat_0 rfl ?_
  refine zz_getR dX8_readGoat_1 kf_X8_22 tt416 rfl ?_
  refine jj_iconst dX8_readGoat_4 (kk := ?_)
  refine zz_ialdN (j := 4) dX8_readGoat_5 tt421 (by omega) (by omega) ?_
  refine jj_iconst dX8_readGoat_6 (kk := ?_)
  refine jj_icmp_ne (tgt := 15) dX8_readGoat_7 (by decide) (fun h7 => ?_) (fun h7 => ?_)
  · exact L15 s (by unfold f_X8_gt0; first | (rw [if_pos (by omega)]; done) | (rw [if_neg (by omega)]; done)) (by first | exact hT | exact mTk_bad hT)
  · refine jj_aload_n dX8_readGoat_10 rfl ?_
    refine jj_iconst dX8_readGoat_11 (kk := ?_)
    refine zz_cVv (av := [ji (3)]) (st' := []) dX8_readGoat_12 kn_X8_108 kmX8_bad tt416 rfl rfl rfl (Nat.le_of_ble_eq_true rfl) (by decide) rfl (c_X8_bad g s 3) (fun ho12 => ?_)
    exact L15 (f_X8_bad s 3) (by unfold f_X8_gt0; first | (rw [if_pos (by omega)]; done) | (rw [if_neg (by omega)]; done)) (by first | exact hT | exact mTk_bad hT)

