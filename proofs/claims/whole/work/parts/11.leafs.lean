def f_X0_take (s : jz_St) (a b : Nat) : jz_St := jz_su (jz_su (jz_su (jz_su s a 1 (s b 1)) a 2 (s b 2)) a 3 (s b 3)) a 4 (0)
set_option maxRecDepth 100000 in
set_option maxHeartbeats 4000000 in
theorem c_X0_take (g : jz_G) (s : jz_St) (a b : Nat) (ha : jz_t a = .inl 0) (hb : jz_t b = .inl 0) : jz_C g mX0_take [jr (a), jr (b)] s (jq_ve (f_X0_take s a b)) := by
  refine zz_C_of koX0_take rfl (Nat.le_of_ble_eq_true rfl) ?_
  refine zz_pad 0 ?_
  show jz_Z g mX0_take (jq_ve (f_X0_take s a b)) 0 [some (jr (a)), some (jr (b))] [] s
  refine jj_aload_n dX0_take_0 rfl ?_
  refine jj_aload_n dX0_take_1 rfl ?_
  refine zz_getI dX0_take_2 kf_X0_15 hb rfl rfl ?_
  refine zz_putI dX0_take_5 kw_X0_15 ha rfl rfl ?_
  refine jj_aload_n dX0_take_8 rfl ?_
  refine jj_aload_n dX0_take_9 rfl ?_
  refine zz_getI dX0_take_10 kf_X0_18 hb rfl rfl ?_
  refine zz_top (b := s b 2) (jz_su_f (by decide)) ?_
  refine zz_putI dX0_take_13 kw_X0_18 ha rfl rfl ?_
  refine jj_aload_n dX0_take_16 rfl ?_
  refine jj_aload_n dX0_take_17 rfl ?_
  refine zz_getI dX0_take_18 kf_X0_21 hb rfl rfl ?_
  refine zz_top (b := s b 3) ((jz_su_f (by decide)).trans (jz_su_f (by decide))) ?_
  refine zz_putI dX0_take_21 kw_X0_21 ha rfl rfl ?_
  refine jj_aload_n dX0_take_24 rfl ?_
  refine jj_iconst dX0_take_25 (kk := ?_)
  refine zz_putI dX0_take_26 kw_X0_24 ha rfl rfl ?_
  refine zz_retve dX0_take_29 rfl (by decide) ?_
  · rfl

set_option maxRecDepth 100000 in
set_option maxHeartbeats 4000000 in
theorem c_X0_isBiting (g : jz_G) (s : jz_St) (a : Nat) (ha : jz_t a = .inl 0) : jz_C g mX0_isBiting [jr (a)] s (jq_ie (if s a 3 ≤ 0 ∧ 0 < s a 1 then 1 else 0) s) := by
  refine zz_C_of koX0_isBiting rfl (Nat.le_of_ble_eq_true rfl) ?_
  refine zz_pad 0 ?_
  show jz_Z g mX0_isBiting (jq_ie (if s a 3 ≤ 0 ∧ 0 < s a 1 then 1 else 0) s) 0 [some (jr (a))] [] s
  refine jj_aload_n dX0_isBiting_0 rfl ?_
  refine zz_getI dX0_isBiting_1 kf_X0_21 ha rfl rfl ?_
  refine jj_if_gt (tgt := 18) dX0_isBiting_4 (by decide) (fun h4 => ?_) (fun h4 => ?_)
  · refine jj_iconst dX0_isBiting_18 (kk := ?_)
    refine zz_retze dX0_isBiting_19 rfl (by first | exact Or.inl rfl | exact Or.inr rfl) (by decide) ?_ ?_
    · first | rfl | ((repeat' split) <;> omega)
    · rfl
  · refine jj_aload_n dX0_isBiting_7 rfl ?_
    refine zz_getI dX0_isBiting_8 kf_X0_15 ha rfl rfl ?_
    refine jj_if_le (tgt := 18) dX0_isBiting_11 (by decide) (fun h11 => ?_) (fun h11 => ?_)
    · refine jj_iconst dX0_isBiting_18 (kk := ?_)
      refine zz_retze dX0_isBiting_19 rfl (by first | exact Or.inl rfl | exact Or.inr rfl) (by decide) ?_ ?_
      · first | rfl | ((repeat' split) <;> omega)
      · rfl
    · refine jj_iconst dX0_isBiting_14 (kk := ?_)
      refine jj_goto (tgt := 19) dX0_isBiting_15 (by decide) ?_
      refine zz_retze dX0_isBiting_19 rfl (by first | exact Or.inl rfl | exact Or.inr rfl) (by decide) ?_ ?_
      · first | rfl | ((repeat' split) <;> omega)
      · rfl

def f_X0_swallow (s : jz_St) (a : Nat) (z : Int) : jz_St := jz_su (jz_su s a 1 (if 0 < ((s a 1) - z) then ((s a 1) - z) else 0)) a 4 ((s a 4) + z)
set_option maxRecDepth 100000 in
set_option maxHeartbeats 4000000 in
theorem c_X0_swallow (g : jz_G) (s : jz_St) (a : Nat) (z : Int) (ha : jz_t a = .inl 0) (h1 : jI (s a 1 - z)) (h2 : jI (s a 4 + z)) : jz_C g mX0_swallow [jr (a), ji (z)] s (jq_ve (f_X0_swallow s a z)) := by
  refine zz_C_of koX0_swallow rfl (Nat.le_of_ble_eq_true rfl) ?_
  refine zz_pad 0 ?_
  show jz_Z g mX0_swallow (jq_ve (f_X0_swallow s a z)) 0 [some (jr (a)), some (ji (z))] [] s
  refine jj_aload_n dX0_swallow_0 rfl ?_
  refine jj_iconst dX0_swallow_1 (kk := ?_)
  refine jj_aload_n dX0_swallow_2 rfl ?_
  refine zz_getI dX0_swallow_3 kf_X0_15 ha rfl rfl ?_
  refine jj_iload_n dX0_swallow_6 rfl ?_
  refine jj_isub dX0_swallow_7 (by omega) ?_
  refine jj_max dX0_swallow_8 kn_X0_27 (Nat.le_of_ble_eq_true rfl) (by decide) ?_
  refine zz_putI dX0_swallow_11 kw_X0_15 ha rfl rfl ?_
  refine jj_aload_n dX0_swallow_14 rfl ?_
  refine jj_dup dX0_swallow_15 (kk := ?_)
  refine zz_getI dX0_swallow_16 kf_X0_24 ha rfl rfl ?_
  refine zz_top (b := s a 4) (jz_su_f (by decide)) ?_
  refine jj_iload_n dX0_swallow_19 rfl ?_
  refine jj_iadd dX0_swallow_20 (by omega) ?_
  refine zz_putI dX0_swallow_21 kw_X0_24 ha rfl rfl ?_
  refine zz_retve dX0_swallow_24 rfl (by decide) ?_
  · rfl

def f_X0_endHour (s : jz_St) (a : Nat) (z : Int) : jz_St := jz_su (jz_su s a 1 (if ((s a 1) + z) < 99 then ((s a 1) + z) else 99)) a 3 (if 0 < ((s a 3) - 1) then ((s a 3) - 1) else 0)
set_option maxRecDepth 100000 in
set_option maxHeartbeats 4000000 in
theorem c_X0_endHour (g : jz_G) (s : jz_St) (a : Nat) (z : Int) (ha : jz_t a = .inl 0) (h1 : jI (s a 1 + z)) (h2 : jI (s a 3 - 1)) : jz_C g mX0_endHour [jr (a), ji (z)] s (jq_ve (f_X0_endHour s a z)) := by
  refine zz_C_of koX0_endHour rfl (Nat.le_of_ble_eq_true rfl) ?_
  refine zz_pad 0 ?_
  show jz_Z g mX0_endHour (jq_ve (f_X0_endHour s a z)) 0 [some (jr (a)), some (ji (z))] [] s
  refine jj_aload_n dX0_endHour_0 rfl ?_
  refine jj_bipush dX0_endHour_1 (kk := ?_)
  refine jj_aload_n dX0_endHour_3 rfl ?_
  refine zz_getI dX0_endHour_4 kf_X0_15 ha rfl rfl ?_
  refine jj_iload_n dX0_endHour_7 rfl ?_
  refine jj_iadd dX0_endHour_8 (by omega) ?_
  refine jj_min dX0_endHour_9 kn_X0_33 (Nat.le_of_ble_eq_true rfl) (by decide) ?_
  refine zz_putI dX0_endHour_12 kw_X0_15 ha rfl rfl ?_
  refine jj_aload_n dX0_endHour_15 rfl ?_
  refine jj_iconst dX0_endHour_16 (kk := ?_)
  refine jj_aload_n dX0_endHour_17 rfl ?_
  refine zz_getI dX0_endHour_18 kf_X0_21 ha rfl rfl ?_
  refine zz_top (b := s a 3) (jz_su_f (by decide)) ?_
  refine jj_iconst dX0_endHour_21 (kk := ?_)
  refine jj_isub dX0_endHour_22 (by omega) ?_
  refine jj_max dX0_endHour_23 kn_X0_27 (Nat.le_of_ble_eq_true rfl) (by decide) ?_
  refine zz_putI dX0_endHour_26 kw_X0_21 ha rfl rfl ?_
  refine zz_retve dX0_endHour_29 rfl (by decide) ?_
  · rfl

def f_X1_take (s : jz_St) (a b : Nat) : jz_St := jz_su (jz_su (jz_su (jz_su (jz_su (jz_su s a 1 (s b 1)) a 2 (s b 2)) a 3 (s b 3)) a 4 (s b 4)) a 5 (s b 5)) a 6 (0)
set_option maxRecDepth 100000 in
set_option maxHeartbeats 4000000 in
theorem c_X1_take (g : jz_G) (s : jz_St) (a b : Nat) (ha : jz_t a = .inl 1) (hb : jz_t b = .inl 1) : jz_C g mX1_take [jr (a), jr (b)] s (jq_ve (f_X1_take s a b)) := by
  refine zz_C_of koX1_take rfl (Nat.le_of_ble_eq_true rfl) ?_
  refine zz_pad 0 ?_
  show jz_Z g mX1_take (jq_ve (f_X1_take s a b)) 0 [some (jr (a)), some (jr (b))] [] s
  refine jj_aload_n dX1_take_0 rfl ?_
  refine jj_aload_n dX1_take_1 rfl ?_
  refine zz_getI dX1_take_2 kf_X1_15 hb rfl rfl ?_
  refine zz_putI dX1_take_5 kw_X1_15 ha rfl rfl ?_
  refine jj_aload_n dX1_take_8 rfl ?_
  refine jj_aload_n dX1_take_9 rfl ?_
  refine zz_getI dX1_take_10 kf_X1_18 hb rfl rfl ?_
  refine zz_top (b := s b 2) (jz_su_f (by decide)) ?_
  refine zz_putI dX1_take_13 kw_X1_18 ha rfl rfl ?_
  refine jj_aload_n dX1_take_16 rfl ?_
  refine jj_aload_n dX1_take_17 rfl ?_
  refine zz_getI dX1_take_18 kf_X1_21 hb rfl rfl ?_
  refine zz_top (b := s b 3) ((jz_su_f (by decide)).trans (jz_su_f (by decide))) ?_
  refine zz_putI dX1_take_21 kw_X1_21 ha rfl rfl ?_
  refine jj_aload_n dX1_take_24 rfl ?_
  refine jj_aload_n dX1_take_25 rfl ?_
  refine zz_getI dX1_take_26 kf_X1_24 hb rfl rfl ?_
  refine zz_top (b := s b 4) (((jz_su_f (by decide)).trans (jz_su_f (by decide))).trans (jz_su_f (by decide))) ?_
  refine zz_putI dX1_take_29 kw_X1_24 ha rfl rfl ?_
  refine jj_aload_n dX1_take_32 rfl ?_
  refine jj_aload_n dX1_take_33 rfl ?_
  refine zz_getI dX1_take_34 kf_X1_27 hb rfl rfl ?_
  refine zz_top (b := s b 5) ((((jz_su_f (by decide)).trans (jz_su_f (by decide))).trans (jz_su_f (by decide))).trans (jz_su_f (by decide))) ?_
  refine zz_putI dX1_take_37 kw_X1_27 ha rfl rfl ?_
  refine jj_aload_n dX1_take_40 rfl ?_
  refine jj_iconst dX1_take_41 (kk := ?_)
  refine zz_putI dX1_take_42 kw_X1_30 ha rfl rfl ?_
  refine zz_retve dX1_take_45 rfl (by decide) ?_
  · rfl

set_option maxRecDepth 100000 in
set_option maxHeartbeats 4000000 in
theorem c_X1_isVoid (g : jz_G) (s : jz_St) (a : Nat) (ha : jz_t a = .inl 1) : jz_C g mX1_isVoid [jr (a)] s (jq_ie (if s a 5 ≤ 0 then 1 else 0) s) := by
  refine zz_C_of koX1_isVoid rfl (Nat.le_of_ble_eq_true rfl) ?_
  refine zz_pad 0 ?_
  show jz_Z g mX1_isVoid (jq_ie (if s a 5 ≤ 0 then 1 else 0) s) 0 [some (jr (a))] [] s
  refine jj_aload_n dX1_isVoid_0 rfl ?_
  refine zz_getI dX1_isVoid_1 kf_X1_27 ha rfl rfl ?_
  refine jj_if_gt (tgt := 11) dX1_isVoid_4 (by decide) (fun h4 => ?_) (fun h4 => ?_)
  · refine jj_iconst dX1_isVoid_11 (kk := ?_)
    refine zz_retze dX1_isVoid_12 rfl (by first | exact Or.inl rfl | exact Or.inr rfl) (by decide) ?_ ?_
    · first | rfl | ((repeat' split) <;> omega)
    · rfl
  · refine jj_iconst dX1_isVoid_7 (kk := ?_)
    refine jj_goto (tgt := 12) dX1_isVoid_8 (by decide) ?_
    refine zz_retze dX1_isVoid_12 rfl (by first | exact Or.inl rfl | exact Or.inr rfl) (by decide) ?_ ?_
    · first | rfl | ((repeat' split) <;> omega)
    · rfl

set_option maxRecDepth 100000 in
set_option maxHeartbeats 4000000 in
theorem c_X1_isInForce (g : jz_G) (s : jz_St) (a : Nat) (ha : jz_t a = .inl 1) (h1 : jI (2 * s a 5)) : jz_C g mX1_isInForce [jr (a)] s (jq_ie (if 0 < s a 5 ∧ s a 2 ≤ 2 * s a 5 then 1 else 0) s) := by
  refine zz_C_of koX1_isInForce rfl (Nat.le_of_ble_eq_true rfl) ?_
  refine zz_pad 0 ?_
  show jz_Z g mX1_isInForce (jq_ie (if 0 < s a 5 ∧ s a 2 ≤ 2 * s a 5 then 1 else 0) s) 0 [some (jr (a))] [] s
  refine jj_aload_n dX1_isInForce_0 rfl ?_
  refine zz_getI dX1_isInForce_1 kf_X1_27 ha rfl rfl ?_
  refine jj_if_le (tgt := 24) dX1_isInForce_4 (by decide) (fun h4 => ?_) (fun h4 => ?_)
  · refine jj_iconst dX1_isInForce_24 (kk := ?_)
    refine zz_retze dX1_isInForce_25 rfl (by first | exact Or.inl rfl | exact Or.inr rfl) (by decide) ?_ ?_
    · first | rfl | ((repeat' split) <;> omega)
    · rfl
  · refine jj_iconst dX1_isInForce_7 (kk := ?_)
    refine jj_aload_n dX1_isInForce_8 rfl ?_
    refine zz_getI dX1_isInForce_9 kf_X1_27 ha rfl rfl ?_
    refine jj_imul dX1_isInForce_12 (by omega) ?_
    refine jj_aload_n dX1_isInForce_13 rfl ?_
    refine zz_getI dX1_isInForce_14 kf_X1_18 ha rfl rfl ?_
    refine jj_icmp_lt (tgt := 24) dX1_isInForce_17 (by decide) (fun h17 => ?_) (fun h17 => ?_)
    · refine jj_iconst dX1_isInForce_24 (kk := ?_)
      refine zz_retze dX1_isInForce_25 rfl (by first | exact Or.inl rfl | exact Or.inr rfl) (by decide) ?_ ?_
      · first | rfl | ((repeat' split) <;> omega)
      · rfl
    · refine jj_iconst dX1_isInForce_20 (kk := ?_)
      refine jj_goto (tgt := 25) dX1_isInForce_21 (by decide) ?_
      refine zz_retze dX1_isInForce_25 rfl (by first | exact Or.inl rfl | exact Or.inr rfl) (by decide) ?_ ?_
      · first | rfl | ((repeat' split) <;> omega)
      · rfl

set_option maxRecDepth 100000 in
set_option maxHeartbeats 4000000 in
theorem c_X1_standing (g : jz_G) (s : jz_St) (a : Nat) (ha : jz_t a = .inl 1) (h1 : jI (2 * s a 5)) : jz_C g mX1_standing [jr (a)] s (jq_ie (if s a 5 ≤ 0 then 0 else if 0 < s a 5 ∧ s a 2 ≤ 2 * s a 5 then 2 else 1) s) := by
  refine zz_C_of koX1_standing rfl (Nat.le_of_ble_eq_true rfl) ?_
  refine zz_pad 0 ?_
  show jz_Z g mX1_standing (jq_ie (if s a 5 ≤ 0 then 0 else if 0 < s a 5 ∧ s a 2 ≤ 2 * s a 5 then 2 else 1) s) 0 [some (jr (a))] [] s
  refine jj_aload_n dX1_standing_0 rfl ?_
  refine zz_cVi (av := []) (st' := []) dX1_standing_1 kn_X1_33 kmX1_isVoid ha rfl rfl rfl (Nat.le_of_ble_eq_true rfl) (by decide) rfl (c_X1_isVoid g s a ha) (fun hr1 ho1 => ?_)
  refine jj_if_eq (tgt := 11) dX1_standing_4 (by decide) (fun h4 => ?_) (fun h4 => ?_)
  · refine jj_aload_n dX1_standing_11 rfl ?_
    refine zz_cVi (av := []) (st' := []) dX1_standing_12 kn_X1_37 kmX1_isInForce ha rfl rfl rfl (Nat.le_of_ble_eq_true rfl) (by decide) rfl (c_X1_isInForce g s a ha (by omega)) (fun hr12 ho12 => ?_)
    refine jj_if_eq (tgt := 22) dX1_standing_15 (by decide) (fun h15 => ?_) (fun h15 => ?_)
    · refine jj_iconst dX1_standing_22 (kk := ?_)
      refine zz_retie dX1_standing_23 rfl (by decide) ?_ ?_
      · first | rfl | (repeat' split at *) <;> omega
      · rfl
    · refine jj_iconst dX1_standing_18 (kk := ?_)
      refine jj_goto (tgt := 23) dX1_standing_19 (by decide) ?_
      refine zz_retie dX1_standing_23 rfl (by decide) ?_ ?_
      · first | rfl | (repeat' split at *) <;> omega
      · rfl
  · refine jj_iconst dX1_standing_7 (kk := ?_)
    refine jj_goto (tgt := 23) dX1_standing_8 (by decide) ?_
    refine zz_retie dX1_standing_23 rfl (by decide) ?_ ?_
    · first | rfl | (repeat' split at *) <;> omega
    · rfl

/-- by how much a leaf is liked, from its numbers -/
def fLk (kind taste left hour salt : Int) : Int := if left ≤ 0 ∨ (kind = 5 ∧ Int.tmod hour 2 ≠ 0) then -1000000 else let t := if kind = 2 then taste + salt else if kind = 4 ∨ kind = 5 then taste - 3 else taste; if t < 0 then -1000000 else t
set_option maxRecDepth 100000 in
set_option maxHeartbeats 4000000 in
theorem c_X1_liking (g : jz_G) (s : jz_St) (a : Nat) (hour salt : Int) (ha : jz_t a = .inl 1) (h1 : 0 < s a 5 → jI (s a 4 + salt)) (h2 : 0 < s a 5 → jI (s a 4 - 3)) (hh : 0 ≤ hour) : jz_C g mX1_liking [jr (a), ji (hour), ji (salt)] s (jq_ie (fLk (s a 1) (s a 4) (s a 5) hour salt) s) := by
  refine zz_C_of koX1_liking rfl (Nat.le_of_ble_eq_true rfl) ?_
  refine zz_pad 1 ?_
  show jz_Z g mX1_liking (jq_ie (fLk (s a 1) (s a 4) (s a 5) hour salt) s) 0 [some (jr (a)), some (ji (hour)), some (ji (salt)), none] [] s
  refine jj_aload_n dX1_liking_0 rfl ?_
  refine zz_getI dX1_liking_1 kf_X1_27 ha rfl rfl ?_
  refine jj_if_le (tgt := 21) dX1_liking_4 (by decide) (fun h4 => ?_) (fun h4 => ?_)
  · refine jj_ldc dX1_liking_21 kk_X1_40 (kk := ?_)
    refine zz_retie dX1_liking_23 rfl (by decide) ?_ ?_
    · simp only [fLk]; first | rfl | ((repeat' split) <;> omega)
    · rfl
  · refine jj_aload_n dX1_liking_7 rfl ?_
    refine zz_getI dX1_liking_8 kf_X1_15 ha rfl rfl ?_
    refine jj_iconst dX1_liking_11 (kk := ?_)
    refine jj_icmp_ne (tgt := 24) dX1_liking_12 (by decide) (fun h12 => ?_) (fun h12 => ?_)
    · refine jj_aload_n dX1_liking_24 rfl ?_
      refine zz_getI dX1_liking_25 kf_X1_24 ha rfl rfl ?_
      refine jj_istore_n (ls' := [some (jr (a)), some (ji (hour)), some (ji (salt)), some (ji (s a 4))]) dX1_liking_28 (by decide) rfl rfl ?_
      refine jj_aload_n dX1_liking_29 rfl ?_
      refine zz_getI dX1_liking_30 kf_X1_15 ha rfl rfl ?_
      refine jj_iconst dX1_liking_33 (kk := ?_)
      refine jj_icmp_ne (tgt := 44) dX1_liking_34 (by decide) (fun h34 => ?_) (fun h34 => ?_)
      · refine jj_aload_n dX1_liking_44 rfl ?_
        refine zz_getI dX1_liking_45 kf_X1_15 ha rfl rfl ?_
        refine jj_iconst dX1_liking_48 (kk := ?_)
        refine jj_icmp_eq (tgt := 60) dX1_liking_49 (by decide) (fun h49 => ?_) (fun h49 => ?_)
        · refine jj_iinc (ls' := [some (jr (a)), some (ji (hour)), some (ji (salt)), some (ji (s a 4 + (-3)))]) dX1_liking_60 rfl (by decide) rfl (by have := h2 (by omega); omega) rfl ?_
          refine jj_iload_n dX1_liking_63 rfl ?_
          refine jj_if_ge (tgt := 72) dX1_liking_64 (by decide) (fun h64 => ?_) (fun h64 => ?_)
          · refine jj_iload_n dX1_liking_72 rfl ?_
            refine zz_retie dX1_liking_73 rfl (by decide) ?_ ?_
            · simp only [fLk]; first | rfl | ((repeat' split) <;> omega)
            · rfl
          · refine jj_ldc dX1_liking_67 kk_X1_40 (kk := ?_)
            refine jj_goto (tgt := 73) dX1_liking_69 (by decide) ?_
            refine zz_retie dX1_liking_73 rfl (by decide) ?_ ?_
            · simp only [fLk]; first | rfl | ((repeat' split) <;> omega)
            · rfl
        · refine jj_aload_n dX1_liking_52 rfl ?_
          refine zz_getI dX1_liking_53 kf_X1_15 ha rfl rfl ?_
          refine jj_iconst dX1_liking_56 (kk := ?_)
          refine jj_icmp_ne (tgt := 63) dX1_liking_57 (by decide) (fun h57 => ?_) (fun h57 => ?_)
          · refine jj_iload_n dX1_liking_63 rfl ?_
            refine jj_if_ge (tgt := 72) dX1_liking_64 (by decide) (fun h64 => ?_) (fun h64 => ?_)
            · refine jj_iload_n dX1_liking_72 rfl ?_
              refine zz_retie dX1_liking_73 rfl (by decide) ?_ ?_
              · simp only [fLk]; first | rfl | ((repeat' split) <;> omega)
              · rfl
            · refine jj_ldc dX1_liking_67 kk_X1_40 (kk := ?_)
              refine jj_goto (tgt := 73) dX1_liking_69 (by decide) ?_
              refine zz_retie dX1_liking_73 rfl (by decide) ?_ ?_
              · simp only [fLk]; first | rfl | ((repeat' split) <;> omega)
              · rfl
          · refine jj_iinc (ls' := [some (jr (a)), some (ji (hour)), some (ji (salt)), some (ji (s a 4 + (-3)))]) dX1_liking_60 rfl (by decide) rfl (by have := h2 (by omega); omega) rfl ?_
            refine jj_iload_n dX1_liking_63 rfl ?_
            refine jj_if_ge (tgt := 72) dX1_liking_64 (by decide) (fun h64 => ?_) (fun h64 => ?_)
            · refine jj_iload_n dX1_liking_72 rfl ?_
              refine zz_retie dX1_liking_73 rfl (by decide) ?_ ?_
              · simp only [fLk]; first | rfl | ((repeat' split) <;> omega)
              · rfl
            · refine jj_ldc dX1_liking_67 kk_X1_40 (kk := ?_)
              refine jj_goto (tgt := 73) dX1_liking_69 (by decide) ?_
              refine zz_retie dX1_liking_73 rfl (by decide) ?_ ?_
              · simp only [fLk]; first | rfl | ((repeat' split) <;> omega)
              · rfl
      · refine jj_iload_n dX1_liking_37 rfl ?_
        refine jj_iload_n dX1_liking_38 rfl ?_
        refine jj_iadd dX1_liking_39 (by have := h1 (by omega); omega) ?_
        refine jj_istore_n (ls' := [some (jr (a)), some (ji (hour)), some (ji (salt)), some (ji ((s a 4) + salt))]) dX1_liking_40 (by decide) rfl rfl ?_
        refine jj_goto (tgt := 63) dX1_liking_41 (by decide) ?_
        refine jj_iload_n dX1_liking_63 rfl ?_
        refine jj_if_ge (tgt := 72) dX1_liking_64 (by decide) (fun h64 => ?_) (fun h64 => ?_)
        · refine jj_iload_n dX1_liking_72 rfl ?_
          refine zz_retie dX1_liking_73 rfl (by decide) ?_ ?_
          · simp only [fLk]; first | rfl | ((repeat' split) <;> omega)
          · rfl
        · refine jj_ldc dX1_liking_67 kk_X1_40 (kk := ?_)
          refine jj_goto (tgt := 73) dX1_liking_69 (by decide) ?_
          refine zz_retie dX1_liking_73 rfl (by decide) ?_ ?_
          · simp only [fLk]; first | rfl | ((repeat' split) <;> omega)
          · rfl
    · refine jj_iload_n dX1_liking_15 rfl ?_
      refine jj_iconst dX1_liking_16 (kk := ?_)
      refine jj_irem dX1_liking_17 (by decide) (by rw [Int.tmod_eq_emod_of_nonneg hh]; omega) ?_
      refine jj_if_eq (tgt := 24) dX1_liking_18 (by decide) (fun h18 => ?_) (fun h18 => ?_)
      · refine jj_aload_n dX1_liking_24 rfl ?_
        refine zz_getI dX1_liking_25 kf_X1_24 ha rfl rfl ?_
        refine jj_istore_n (ls' := [some (jr (a)), some (ji (hour)), some (ji (salt)), some (ji (s a 4))]) dX1_liking_28 (by decide) rfl rfl ?_
        refine jj_aload_n dX1_liking_29 rfl ?_
        refine zz_getI dX1_liking_30 kf_X1_15 ha rfl rfl ?_
        refine jj_iconst dX1_liking_33 (kk := ?_)
        refine jj_icmp_ne (tgt := 44) dX1_liking_34 (by decide) (fun h34 => ?_) (fun h34 => ?_)
        · refine jj_aload_n dX1_liking_44 rfl ?_
          refine zz_getI dX1_liking_45 kf_X1_15 ha rfl rfl ?_
          refine jj_iconst dX1_liking_48 (kk := ?_)
          refine jj_icmp_eq (tgt := 60) dX1_liking_49 (by decide) (fun h49 => ?_) (fun h49 => ?_)
          · refine jj_iinc (ls' := [some (jr (a)), some (ji (hour)), some (ji (salt)), some (ji (s a 4 + (-3)))]) dX1_liking_60 rfl (by decide) rfl (by have := h2 (by omega); omega) rfl ?_
            refine jj_iload_n dX1_liking_63 rfl ?_
            refine jj_if_ge (tgt := 72) dX1_liking_64 (by decide) (fun h64 => ?_) (fun h64 => ?_)
            · refine jj_iload_n dX1_liking_72 rfl ?_
              refine zz_retie dX1_liking_73 rfl (by decide) ?_ ?_
              · simp only [fLk]; first | rfl | ((repeat' split) <;> omega)
              · rfl
            · refine jj_ldc dX1_liking_67 kk_X1_40 (kk := ?_)
              refine jj_goto (tgt := 73) dX1_liking_69 (by decide) ?_
              refine zz_retie dX1_liking_73 rfl (by decide) ?_ ?_
              · simp only [fLk]; first | rfl | ((repeat' split) <;> omega)
              · rfl
          · refine jj_aload_n dX1_liking_52 rfl ?_
            refine zz_getI dX1_liking_53 kf_X1_15 ha rfl rfl ?_
            refine jj_iconst dX1_liking_56 (kk := ?_)
            refine jj_icmp_ne (tgt := 63) dX1_liking_57 (by decide) (fun h57 => ?_) (fun h57 => ?_)
            · refine jj_iload_n dX1_liking_63 rfl ?_
              refine jj_if_ge (tgt := 72) dX1_liking_64 (by decide) (fun h64 => ?_) (fun h64 => ?_)
              · refine jj_iload_n dX1_liking_72 rfl ?_
                refine zz_retie dX1_liking_73 rfl (by decide) ?_ ?_
                · simp only [fLk]; first | rfl | ((repeat' split) <;> omega)
                · rfl
              · refine jj_ldc dX1_liking_67 kk_X1_40 (kk := ?_)
                refine jj_goto (tgt := 73) dX1_liking_69 (by decide) ?_
                refine zz_retie dX1_liking_73 rfl (by decide) ?_ ?_
                · simp only [fLk]; first | rfl | ((repeat' split) <;> omega)
                · rfl
            · refine jj_iinc (ls' := [some (jr (a)), some (ji (hour)), some (ji (salt)), some (ji (s a 4 + (-3)))]) dX1_liking_60 rfl (by decide) rfl (by have := h2 (by omega); omega) rfl ?_
              refine jj_iload_n dX1_liking_63 rfl ?_
              refine jj_if_ge (tgt := 72) dX1_liking_64 (by decide) (fun h64 => ?_) (fun h64 => ?_)
              · refine jj_iload_n dX1_liking_72 rfl ?_
                refine zz_retie dX1_liking_73 rfl (by decide) ?_ ?_
                · simp only [fLk]; first | rfl | ((repeat' split) <;> omega)
                · rfl
              · refine jj_ldc dX1_liking_67 kk_X1_40 (kk := ?_)
                refine jj_goto (tgt := 73) dX1_liking_69 (by decide) ?_
                refine zz_retie dX1_liking_73 rfl (by decide) ?_ ?_
                · simp only [fLk]; first | rfl | ((repeat' split) <;> omega)
                · rfl
        · refine jj_iload_n dX1_liking_37 rfl ?_
          refine jj_iload_n dX1_liking_38 rfl ?_
          refine jj_iadd dX1_liking_39 (by have := h1 (by omega); omega) ?_
          refine jj_istore_n (ls' := [some (jr (a)), some (ji (hour)), some (ji (salt)), some (ji ((s a 4) + salt))]) dX1_liking_40 (by decide) rfl rfl ?_
          refine jj_goto (tgt := 63) dX1_liking_41 (by decide) ?_
          refine jj_iload_n dX1_liking_63 rfl ?_
          refine jj_if_ge (tgt := 72) dX1_liking_64 (by decide) (fun h64 => ?_) (fun h64 => ?_)
          · refine jj_iload_n dX1_liking_72 rfl ?_
            refine zz_retie dX1_liking_73 rfl (by decide) ?_ ?_
            · simp only [fLk]; first | rfl | ((repeat' split) <;> omega)
            · rfl
          · refine jj_ldc dX1_liking_67 kk_X1_40 (kk := ?_)
            refine jj_goto (tgt := 73) dX1_liking_69 (by decide) ?_
            refine zz_retie dX1_liking_73 rfl (by decide) ?_ ?_
            · simp only [fLk]; first | rfl | ((repeat' split) <;> omega)
            · rfl
      · refine jj_ldc dX1_liking_21 kk_X1_40 (kk := ?_)
        refine zz_retie dX1_liking_23 rfl (by decide) ?_ ?_
        · simp only [fLk]; first | rfl | ((repeat' split) <;> omega)
        · rfl

def fBite (kind left : Int) : Int := if (if kind = 1 ∨ kind = 2 then 2 else 1) < left then (if kind = 1 ∨ kind = 2 then 2 else 1) else left
theorem fBite_rng (k l : Int) : fBite k l ≤ l ∧ fBite k l ≤ 2 ∧ (0 ≤ l → 0 ≤ fBite k l) ∧ (0 < l → 0 < fBite k l) := by
  unfold fBite
  (repeat' split) <;> omega
def f_X1_loseBite (s : jz_St) (a : Nat) (z : Int) : jz_St := jz_su (jz_su s a 5 (s a 5 - fBite (s a 1) (s a 5))) a 6 (jor (s a 6) (jshl 1 z))
set_option maxRecDepth 100000 in
set_option maxHeartbeats 4000000 in
theorem c_X1_loseBite (g : jz_G) (s : jz_St) (a : Nat) (z : Int) (ha : jz_t a = .inl 1) (h1 : 0 ≤ s a 5) (h5 : s a 5 ≤ 1000) : jz_C g mX1_loseBite [jr (a), ji (z)] s (jq_ie (fBite (s a 1) (s a 5)) (f_X1_loseBite s a z)) := by
  refine zz_C_of koX1_loseBite rfl (Nat.le_of_ble_eq_true rfl) ?_
  refine zz_pad 1 ?_
  show jz_Z g mX1_loseBite (jq_ie (fBite (s a 1) (s a 5)) (f_X1_loseBite s a z)) 0 [some (jr (a)), some (ji (z)), none] [] s
  have L25 : ∀ (tk : Int) (hh25_0 : tk = if s a 1 = 1 ∨ s a 1 = 2 then 2 else 1), jz_Z g mX1_loseBite (jq_ie (fBite (s a 1) (s a 5)) (f_X1_loseBite s a z)) 25 [some (jr (a)), some (ji (z)), none] [ji (tk), ji (s a 5)] s := by
    intro tk hh25_0
    refine jj_min dX1_loseBite_25 kn_X1_41 (Nat.le_of_ble_eq_true rfl) (by decide) ?_
    refine zz_top (b := fBite (s a 1) (s a 5)) (by rw [hh25_0]; rfl) ?_
    refine jj_istore_n (ls' := [some (jr (a)), some (ji (z)), some (ji (fBite (s a 1) (s a 5)))]) dX1_loseBite_28 (by decide) rfl rfl ?_
    refine jj_aload_n dX1_loseBite_29 rfl ?_
    refine jj_dup dX1_loseBite_30 (kk := ?_)
    refine zz_getI dX1_loseBite_31 kf_X1_27 ha rfl rfl ?_
    refine jj_iload_n dX1_loseBite_34 rfl ?_
    refine jj_isub dX1_loseBite_35 (by have := fBite_rng (s a 1) (s a 5); omega) ?_
    refine zz_putI dX1_loseBite_36 kw_X1_27 ha rfl rfl ?_
    refine jj_aload_n dX1_loseBite_39 rfl ?_
    refine jj_dup dX1_loseBite_40 (kk := ?_)
    refine zz_getI dX1_loseBite_41 kf_X1_30 ha rfl rfl ?_
    refine zz_top (b := s a 6) (jz_su_f (by decide)) ?_
    refine jj_iconst dX1_loseBite_44 (kk := ?_)
    refine jj_iload_n dX1_loseBite_45 rfl ?_
    refine jj_ishl dX1_loseBite_46 ?_
    refine jj_ior dX1_loseBite_47 ?_
    refine zz_putI dX1_loseBite_48 kw_X1_30 ha rfl rfl ?_
    refine jj_iload_n dX1_loseBite_51 rfl ?_
    refine zz_retie dX1_loseBite_52 rfl (by decide) ?_ ?_
    · first | rfl | ((repeat' split) <;> omega)
    · rfl
  refine jj_aload_n dX1_loseBite_0 rfl ?_
  refine zz_getI dX1_loseBite_1 kf_X1_27 ha rfl rfl ?_
  refine jj_aload_n dX1_loseBite_4 rfl ?_
  refine zz_getI dX1_loseBite_5 kf_X1_15 ha rfl rfl ?_
  refine jj_iconst dX1_loseBite_8 (kk := ?_)
  refine jj_icmp_eq (tgt := 20) dX1_loseBite_9 (by decide) (fun h9 => ?_) (fun h9 => ?_)
  · refine jj_iconst dX1_loseBite_20 (kk := ?_)
    refine jj_goto (tgt := 25) dX1_loseBite_21 (by decide) ?_
    exact L25 2 (by first | (rw [if_pos (by omega)]; done) | (rw [if_neg (by omega)]; done))
  · refine jj_aload_n dX1_loseBite_12 rfl ?_
    refine zz_getI dX1_loseBite_13 kf_X1_15 ha rfl rfl ?_
    refine jj_iconst dX1_loseBite_16 (kk := ?_)
    refine jj_icmp_ne (tgt := 24) dX1_loseBite_17 (by decide) (fun h17 => ?_) (fun h17 => ?_)
    · refine jj_iconst dX1_loseBite_24 (kk := ?_)
      exact L25 1 (by first | (rw [if_pos (by omega)]; done) | (rw [if_neg (by omega)]; done))
    · refine jj_iconst dX1_loseBite_20 (kk := ?_)
      refine jj_goto (tgt := 25) dX1_loseBite_21 (by decide) ?_
      exact L25 2 (by first | (rw [if_pos (by omega)]; done) | (rw [if_neg (by omega)]; done))

set_option maxRecDepth 100000 in
set_option maxHeartbeats 4000000 in
theorem c_X1_become (g : jz_G) (s : jz_St) (a : Nat) (w z : Int) (ha : jz_t a = .inl 1) : jz_C g mX1_become [jr (a), ji (w), ji (z)] s (jq_ve (jz_su s a (if w = 0 then 1 else if w = 1 then 3 else 4) z)) := by
  refine zz_C_of koX1_become rfl (Nat.le_of_ble_eq_true rfl) ?_
  refine zz_pad 0 ?_
  show jz_Z g mX1_become (jq_ve (jz_su s a (if w = 0 then 1 else if w = 1 then 3 else 4) z)) 0 [some (jr (a)), some (ji (w)), some (ji (z))] [] s
  refine jj_iload_n dX1_become_0 rfl ?_
  refine jj_if_ne (tgt := 12) dX1_become_1 (by decide) (fun h1 => ?_) (fun h1 => ?_)
  · refine jj_iload_n dX1_become_12 rfl ?_
    refine jj_iconst dX1_become_13 (kk := ?_)
    refine jj_icmp_ne (tgt := 25) dX1_become_14 (by decide) (fun h14 => ?_) (fun h14 => ?_)
    · refine jj_aload_n dX1_become_25 rfl ?_
      refine jj_iload_n dX1_become_26 rfl ?_
      refine zz_putI dX1_become_27 kw_X1_24 ha rfl rfl ?_
      refine zz_retve dX1_become_30 rfl (by decide) ?_
      · (repeat' split) <;> first | rfl | omega
    · refine jj_aload_n dX1_become_17 rfl ?_
      refine jj_iload_n dX1_become_18 rfl ?_
      refine zz_putI dX1_become_19 kw_X1_21 ha rfl rfl ?_
      refine jj_goto (tgt := 30) dX1_become_22 (by decide) ?_
      refine zz_retve dX1_become_30 rfl (by decide) ?_
      · (repeat' split) <;> first | rfl | omega
  · refine jj_aload_n dX1_become_4 rfl ?_
    refine jj_iload_n dX1_become_5 rfl ?_
    refine zz_putI dX1_become_6 kw_X1_15 ha rfl rfl ?_
    refine jj_goto (tgt := 30) dX1_become_9 (by decide) ?_
    refine zz_retve dX1_become_30 rfl (by decide) ?_
    · (repeat' split) <;> first | rfl | omega

def f_X2_add (s : jz_St) (z : Int) : jz_St := if 0 ≤ s 342 1 ∧ s 342 1 < 16 then jz_su (jz_su s 343 (s 342 1).toNat z) 342 1 (s 342 1 + 1) else s
set_option maxRecDepth 100000 in
set_option maxHeartbeats 4000000 in
theorem c_X2_add (g : jz_G) (s : jz_St) (z : Int) : jz_C g mX2_add [jr (342), ji (z)] s (jq_ve (f_X2_add s z)) := by
  refine zz_C_of koX2_add rfl (Nat.le_of_ble_eq_true rfl) ?_
  refine zz_pad 0 ?_
  show jz_Z g mX2_add (jq_ve (f_X2_add s z)) 0 [some (jr (342)), some (ji (z))] [] s
  refine jj_aload_n dX2_add_0 rfl ?_
  refine zz_getI dX2_add_1 kf_X2_15 tt342 rfl rfl ?_
  refine jj_if_lt (tgt := 39) dX2_add_4 (by decide) (fun h4 => ?_) (fun h4 => ?_)
  · refine zz_retve dX2_add_39 rfl (by decide) ?_
    · unfold f_X2_add; first | rw [if_pos (by omega)] | rw [if_neg (by omega)]
  · refine jj_aload_n dX2_add_7 rfl ?_
    refine zz_getI dX2_add_8 kf_X2_15 tt342 rfl rfl ?_
    refine jj_aload_n dX2_add_11 rfl ?_
    refine zz_getR dX2_add_12 kf_X2_9 tt342 rfl ?_
    refine zz_alen (z := 16) dX2_add_15 tt343 (by decide) rfl (by decide) ?_
    refine jj_icmp_ge (tgt := 39) dX2_add_16 (by decide) (fun h16 => ?_) (fun h16 => ?_)
    · refine zz_retve dX2_add_39 rfl (by decide) ?_
      · unfold f_X2_add; first | rw [if_pos (by omega)] | rw [if_neg (by omega)]
    · refine jj_aload_n dX2_add_19 rfl ?_
      refine zz_getR dX2_add_20 kf_X2_9 tt342 rfl ?_
      refine jj_aload_n dX2_add_23 rfl ?_
      refine zz_getI dX2_add_24 kf_X2_15 tt342 rfl rfl ?_
      refine jj_iload_n dX2_add_27 rfl ?_
      refine zz_iastN (j := (s 342 1).toNat) dX2_add_28 tt343 (by omega) (by omega) ?_
      refine jj_aload_n dX2_add_29 rfl ?_
      refine jj_dup dX2_add_30 (kk := ?_)
      refine zz_getI dX2_add_31 kf_X2_15 tt342 rfl rfl ?_
      refine zz_top (b := s 342 1) (jz_su_n (Or.inl (by decide))) ?_
      refine jj_iconst dX2_add_34 (kk := ?_)
      refine jj_iadd dX2_add_35 (by omega) ?_
      refine zz_putI dX2_add_36 kw_X2_15 tt342 rfl rfl ?_
      refine zz_retve dX2_add_39 rfl (by decide) ?_
      · unfold f_X2_add; first | rw [if_pos (by omega)] | rw [if_neg (by omega)]

set_option maxRecDepth 100000 in
set_option maxHeartbeats 4000000 in
theorem c_X2_at (g : jz_G) (s : jz_St) (i : Int) : jz_C g mX2_at [jr (342), ji (i)] s (jq_ie (if 0 ≤ i ∧ i < s 342 1 ∧ i < 16 then s 343 i.toNat else -1000000) s) := by
  refine zz_C_of koX2_at rfl (Nat.le_of_ble_eq_true rfl) ?_
  refine zz_pad 0 ?_
  show jz_Z g mX2_at (jq_ie (if 0 ≤ i ∧ i < s 342 1 ∧ i < 16 then s 343 i.toNat else -1000000) s) 0 [some (jr (342)), some (ji (i))] [] s
  refine jj_iload_n dX2_at_0 rfl ?_
  refine jj_if_lt (tgt := 30) dX2_at_1 (by decide) (fun h1 => ?_) (fun h1 => ?_)
  · refine jj_ldc dX2_at_30 kk_X2_19 (kk := ?_)
    refine zz_retie dX2_at_32 rfl (by decide) ?_ ?_
    · first | rw [if_pos (by omega)] | rw [if_neg (by omega)]
    · rfl
  · refine jj_iload_n dX2_at_4 rfl ?_
    refine jj_aload_n dX2_at_5 rfl ?_
    refine zz_getI dX2_at_6 kf_X2_15 tt342 rfl rfl ?_
    refine jj_icmp_ge (tgt := 30) dX2_at_9 (by decide) (fun h9 => ?_) (fun h9 => ?_)
    · refine jj_ldc dX2_at_30 kk_X2_19 (kk := ?_)
      refine zz_retie dX2_at_32 rfl (by decide) ?_ ?_
      · first | rw [if_pos (by omega)] | rw [if_neg (by omega)]
      · rfl
    · refine jj_iload_n dX2_at_12 rfl ?_
      refine jj_aload_n dX2_at_13 rfl ?_
      refine zz_getR dX2_at_14 kf_X2_9 tt342 rfl ?_
      refine zz_alen (z := 16) dX2_at_17 tt343 (by decide) rfl (by decide) ?_
      refine jj_icmp_ge (tgt := 30) dX2_at_18 (by decide) (fun h18 => ?_) (fun h18 => ?_)
      · refine jj_ldc dX2_at_30 kk_X2_19 (kk := ?_)
        refine zz_retie dX2_at_32 rfl (by decide) ?_ ?_
        · first | rw [if_pos (by omega)] | rw [if_neg (by omega)]
        · rfl
      · refine jj_aload_n dX2_at_21 rfl ?_
        refine zz_getR dX2_at_22 kf_X2_9 tt342 rfl ?_
        refine jj_iload_n dX2_at_25 rfl ?_
        refine zz_ialdN (j := (i).toNat) dX2_at_26 tt343 (by omega) (by omega) ?_
        refine jj_goto (tgt := 32) dX2_at_27 (by decide) ?_
        refine zz_retie dX2_at_32 rfl (by decide) ?_ ?_
        · first | rw [if_pos (by omega)] | rw [if_neg (by omega)]
        · rfl

def f_X4_beginL (s : jz_St) (a : Nat) : Nat → jz_St
  | 0 => s
  | j + 1 => jz_su (f_X4_beginL s a j) (a + 1) j 0
def f_X4_begin (s : jz_St) (a : Nat) (l m : Int) : jz_St := f_X4_beginL (jz_su (jz_su (jz_su s a 1 1) a 2 l) a 3 m) a 40
set_option maxRecDepth 100000 in
set_option maxHeartbeats 4000000 in
theorem c_X4_begin (g : jz_G) (s : jz_St) (a : Nat) (ha : jz_t a = .inl 4) (l m : Int) (hm : 0 ≤ m) (hm2 : m ≤ 40) : jz_C g mX4_begin [jr (a), ji (l), ji (m)] s (jq_ve (f_X4_begin s a l m)) := by
  refine zz_C_of koX4_begin rfl (Nat.le_of_ble_eq_true rfl) ?_
  refine zz_pad 1 ?_
  show jz_Z g mX4_begin (jq_ve (f_X4_begin s a l m)) 0 [some (jr (a)), some (ji (l)), some (ji (m)), none] [] s
  refine jj_aload_n dX4_begin_0 rfl ?_
  refine jj_iconst dX4_begin_1 (kk := ?_)
  refine zz_putZ dX4_begin_2 kw_X4_15 ha rfl rfl (by first | exact Or.inl rfl | exact Or.inr rfl) ?_
  refine jj_aload_n dX4_begin_5 rfl ?_
  refine jj_iload_n dX4_begin_6 rfl ?_
  refine zz_putI dX4_begin_7 kw_X4_19 ha rfl rfl ?_
  refine jj_aload_n dX4_begin_10 rfl ?_
  refine jj_iconst dX4_begin_11 (kk := ?_)
  refine jj_iload_n dX4_begin_12 rfl ?_
  refine jj_aload_n dX4_begin_13 rfl ?_
  refine zz_getR dX4_begin_14 kf_X4_9 ha rfl ?_
  refine zz_alen (z := 40) dX4_begin_17 (jz_t_row ha) (by decide) rfl (by decide) ?_
  refine jj_min dX4_begin_18 kn_X4_23 (Nat.le_of_ble_eq_true rfl) (by decide) ?_
  refine jj_max dX4_begin_21 kn_X4_29 (Nat.le_of_ble_eq_true rfl) (by decide) ?_
  refine zz_top (b := m) (by (repeat' split) <;> omega) ?_
  refine zz_putI dX4_begin_24 kw_X4_32 ha rfl rfl ?_
  refine jj_iconst dX4_begin_27 (kk := ?_)
  refine jj_istore_n (ls' := [some (jr (a)), some (ji (l)), some (ji (m)), some (ji (0))]) dX4_begin_28 (by decide) rfl rfl ?_
  have L29 : ∀ (nn : Nat) (j : Nat) (hh29_0 : j ≤ 40), 40 - j < nn → jz_Z g mX4_begin (jq_ve (f_X4_begin s a l m)) 29 [some (jr (a)), some (ji (l)), some (ji (m)), some (ji ((j : Int)))] [] (f_X4_beginL (jz_su (jz_su (jz_su s a 1 1) a 2 l) a 3 m) a j) := by
    intro nn
    induction nn with
    | zero => intro j hh29_0 hmz; exact absurd hmz (Nat.not_lt_zero _)
    | succ nn ih29 =>
      intro j hh29_0 hm29
      refine jj_iload_n dX4_begin_29 rfl ?_
      refine jj_aload_n dX4_begin_30 rfl ?_
      refine zz_getR dX4_begin_31 kf_X4_9 ha rfl ?_
      refine zz_alen (z := 40) dX4_begin_34 (jz_t_row ha) (by decide) rfl (by decide) ?_
      refine jj_icmp_ge (tgt := 51) dX4_begin_35 (by decide) (fun h35 => ?_) (fun h35 => ?_)
      · refine zz_retve dX4_begin_51 rfl (by decide) ?_
        · (obtain rfl : j = 40 := (by omega)); rfl
      · refine jj_aload_n dX4_begin_38 rfl ?_
        refine zz_getR dX4_begin_39 kf_X4_9 ha rfl ?_
        refine jj_iload_n dX4_begin_42 rfl ?_
        refine jj_iconst dX4_begin_43 (kk := ?_)
        refine zz_iastN (j := j) dX4_begin_44 (jz_t_row ha) (by omega) (by omega) ?_
        refine jj_iinc (ls' := [some (jr (a)), some (ji (l)), some (ji (m)), some (ji ((j : Int) + 1))]) dX4_begin_45 rfl (by decide) rfl (by omega) rfl ?_
        refine jj_goto (tgt := 29) dX4_begin_48 (by decide) ?_
        exact ih29 (j + 1) (by omega) (by omega)
  exact L29 _ 0 (by omega) (Nat.lt_succ_self _)

set_option maxRecDepth 100000 in
set_option maxHeartbeats 4000000 in
theorem c_X4_hasPlaces (g : jz_G) (s : jz_St) (a : Nat) (ha : jz_t a = .inl 4) (i n : Int) (h0 : 0 ≤ s a 3) : jz_C g mX4_hasPlaces [jr (a), ji (i), ji (n)] s (jq_ie (if 0 ≤ i ∧ 0 ≤ n ∧ i + n ≤ s a 3 then 1 else 0) s) := by
  refine zz_C_of koX4_hasPlaces rfl (Nat.le_of_ble_eq_true rfl) ?_
  refine zz_pad 0 ?_
  show jz_Z g mX4_hasPlaces (jq_ie (if 0 ≤ i ∧ 0 ≤ n ∧ i + n ≤ s a 3 then 1 else 0) s) 0 [some (jr (a)), some (ji (i)), some (ji (n))] [] s
  refine zz_rng fun hs0 _ _ => ?_
  have hs3 : jI (s a 3) := hs0 a 3 (by unfold jz_rf; rw [ha]; rfl) (by rw [ha]; rfl)
  refine jj_iload_n dX4_hasPlaces_0 rfl ?_
  refine jj_if_lt (tgt := 30) dX4_hasPlaces_1 (by decide) (fun h1 => ?_) (fun h1 => ?_)
  · refine jj_iconst dX4_hasPlaces_30 (kk := ?_)
    refine zz_retze dX4_hasPlaces_31 rfl (by first | exact Or.inl rfl | exact Or.inr rfl) (by decide) ?_ ?_
    · first | rfl | ((repeat' split) <;> omega)
    · rfl
  · refine jj_iload_n dX4_hasPlaces_4 rfl ?_
    refine jj_if_lt (tgt := 30) dX4_hasPlaces_5 (by decide) (fun h5 => ?_) (fun h5 => ?_)
    · refine jj_iconst dX4_hasPlaces_30 (kk := ?_)
      refine zz_retze dX4_hasPlaces_31 rfl (by first | exact Or.inl rfl | exact Or.inr rfl) (by decide) ?_ ?_
      · first | rfl | ((repeat' split) <;> omega)
      · rfl
    · refine jj_iload_n dX4_hasPlaces_8 rfl ?_
      refine jj_aload_n dX4_hasPlaces_9 rfl ?_
      refine zz_getI dX4_hasPlaces_10 kf_X4_32 ha rfl rfl ?_
      refine jj_icmp_gt (tgt := 30) dX4_hasPlaces_13 (by decide) (fun h13 => ?_) (fun h13 => ?_)
      · refine jj_iconst dX4_hasPlaces_30 (kk := ?_)
        refine zz_retze dX4_hasPlaces_31 rfl (by first | exact Or.inl rfl | exact Or.inr rfl) (by decide) ?_ ?_
        · first | rfl | ((repeat' split) <;> omega)
        · rfl
      · refine jj_iload_n dX4_hasPlaces_16 rfl ?_
        refine jj_aload_n dX4_hasPlaces_17 rfl ?_
        refine zz_getI dX4_hasPlaces_18 kf_X4_32 ha rfl rfl ?_
        refine jj_iload_n dX4_hasPlaces_21 rfl ?_
        refine jj_isub dX4_hasPlaces_22 (by omega) ?_
        refine jj_icmp_gt (tgt := 30) dX4_hasPlaces_23 (by decide) (fun h23 => ?_) (fun h23 => ?_)
        · refine jj_iconst dX4_hasPlaces_30 (kk := ?_)
          refine zz_retze dX4_hasPlaces_31 rfl (by first | exact Or.inl rfl | exact Or.inr rfl) (by decide) ?_ ?_
          · first | rfl | ((repeat' split) <;> omega)
          · rfl
        · refine jj_iconst dX4_hasPlaces_26 (kk := ?_)
          refine jj_goto (tgt := 31) dX4_hasPlaces_27 (by decide) ?_
          refine zz_retze dX4_hasPlaces_31 rfl (by first | exact Or.inl rfl | exact Or.inr rfl) (by decide) ?_ ?_
          · first | rfl | ((repeat' split) <;> omega)
          · rfl

set_option maxRecDepth 100000 in
set_option maxHeartbeats 4000000 in
theorem c_X4_at (g : jz_G) (s : jz_St) (a : Nat) (ha : jz_t a = .inl 4) (i : Int) : jz_C g mX4_at [jr (a), ji (i)] s (jq_ie (if 0 ≤ i ∧ i < 40 then s (a + 1) i.toNat else 0) s) := by
  refine zz_C_of koX4_at rfl (Nat.le_of_ble_eq_true rfl) ?_
  refine zz_pad 0 ?_
  show jz_Z g mX4_at (jq_ie (if 0 ≤ i ∧ i < 40 then s (a + 1) i.toNat else 0) s) 0 [some (jr (a)), some (ji (i))] [] s
  refine jj_iload_n dX4_at_0 rfl ?_
  refine jj_if_lt (tgt := 22) dX4_at_1 (by decide) (fun h1 => ?_) (fun h1 => ?_)
  · refine jj_iconst dX4_at_22 (kk := ?_)
    refine zz_retie dX4_at_23 rfl (by decide) ?_ ?_
    · first | rfl | ((repeat' split) <;> omega)
    · rfl
  · refine jj_iload_n dX4_at_4 rfl ?_
    refine jj_aload_n dX4_at_5 rfl ?_
    refine zz_getR dX4_at_6 kf_X4_9 ha rfl ?_
    refine zz_alen (z := 40) dX4_at_9 (jz_t_row ha) (by decide) rfl (by decide) ?_
    refine jj_icmp_ge (tgt := 22) dX4_at_10 (by decide) (fun h10 => ?_) (fun h10 => ?_)
    · refine jj_iconst dX4_at_22 (kk := ?_)
      refine zz_retie dX4_at_23 rfl (by decide) ?_ ?_
      · first | rfl | ((repeat' split) <;> omega)
      · rfl
    · refine jj_aload_n dX4_at_13 rfl ?_
      refine zz_getR dX4_at_14 kf_X4_9 ha rfl ?_
      refine jj_iload_n dX4_at_17 rfl ?_
      refine zz_ialdN (j := (i).toNat) dX4_at_18 (jz_t_row ha) (by omega) (by omega) ?_
      refine jj_goto (tgt := 23) dX4_at_19 (by decide) ?_
      refine zz_retie dX4_at_23 rfl (by decide) ?_ ?_
      · first | rfl | ((repeat' split) <;> omega)
      · rfl

def fNarrow (l z : Int) : Int := if l = 0 then jb z else if l = 1 then js z else z
def f_X4_put (s : jz_St) (a : Nat) (i z : Int) : jz_St := if 0 ≤ i ∧ i < 40 then jz_su s (a + 1) i.toNat (fNarrow (s a 2) z) else s
set_option maxRecDepth 100000 in
set_option maxHeartbeats 4000000 in
theorem c_X4_put (g : jz_G) (s : jz_St) (a : Nat) (ha : jz_t a = .inl 4) (i z : Int) : jz_C g mX4_put [jr (a), ji (i), ji (z)] s (jq_ie (fNarrow (s a 2) z) (f_X4_put s a i z)) := by
  refine zz_C_of koX4_put rfl (Nat.le_of_ble_eq_true rfl) ?_
  refine zz_pad 1 ?_
  show jz_Z g mX4_put (jq_ie (fNarrow (s a 2) z) (f_X4_put s a i z)) 0 [some (jr (a)), some (ji (i)), some (ji (z)), none] [] s
  have L26 : ∀ (y : Int) (hh26_0 : y = fNarrow (s a 2) z), jz_Z g mX4_put (jq_ie (fNarrow (s a 2) z) (f_X4_put s a i z)) 26 [some (jr (a)), some (ji (i)), some (ji (z)), none] [ji (y)] s := by
    intro y hh26_0
    refine jj_istore_n (ls' := [some (jr (a)), some (ji (i)), some (ji (z)), some (ji (y))]) dX4_put_26 (by decide) rfl rfl ?_
    refine jj_iload_n dX4_put_27 rfl ?_
    refine jj_if_lt (tgt := 47) dX4_put_28 (by decide) (fun h28 => ?_) (fun h28 => ?_)
    · refine jj_iload_n dX4_put_47 rfl ?_
      refine zz_retie dX4_put_48 rfl (by decide) ?_ ?_
      · exact hh26_0
      · unfold f_X4_put; first | (rw [if_pos (by omega), hh26_0]; done) | (rw [if_neg (by omega)]; done)
    · refine jj_iload_n dX4_put_31 rfl ?_
      refine jj_aload_n dX4_put_32 rfl ?_
      refine zz_getR dX4_put_33 kf_X4_9 ha rfl ?_
      refine zz_alen (z := 40) dX4_put_36 (jz_t_row ha) (by decide) rfl (by decide) ?_
      refine jj_icmp_ge (tgt := 47) dX4_put_37 (by decide) (fun h37 => ?_) (fun h37 => ?_)
      · refine jj_iload_n dX4_put_47 rfl ?_
        refine zz_retie dX4_put_48 rfl (by decide) ?_ ?_
        · exact hh26_0
        · unfold f_X4_put; first | (rw [if_pos (by omega), hh26_0]; done) | (rw [if_neg (by omega)]; done)
      · refine jj_aload_n dX4_put_40 rfl ?_
        refine zz_getR dX4_put_41 kf_X4_9 ha rfl ?_
        refine jj_iload_n dX4_put_44 rfl ?_
        refine jj_iload_n dX4_put_45 rfl ?_
        refine zz_iastN (j := (i).toNat) dX4_put_46 (jz_t_row ha) (by omega) (by omega) ?_
        refine jj_iload_n dX4_put_47 rfl ?_
        refine zz_retie dX4_put_48 rfl (by decide) ?_ ?_
        · exact hh26_0
        · unfold f_X4_put; first | (rw [if_pos (by omega), hh26_0]; done) | (rw [if_neg (by omega)]; done)
  refine jj_aload_n dX4_put_0 rfl ?_
  refine zz_getI dX4_put_1 kf_X4_19 ha rfl rfl ?_
  refine jj_if_ne (tgt := 12) dX4_put_4 (by decide) (fun h4 => ?_) (fun h4 => ?_)
  · refine jj_aload_n dX4_put_12 rfl ?_
    refine zz_getI dX4_put_13 kf_X4_19 ha rfl rfl ?_
    refine jj_iconst dX4_put_16 (kk := ?_)
    refine jj_icmp_ne (tgt := 25) dX4_put_17 (by decide) (fun h17 => ?_) (fun h17 => ?_)
    · refine jj_iload_n dX4_put_25 rfl ?_
      exact L26 z (by unfold fNarrow; first | (rw [if_pos (by omega)]; done) | (rw [if_neg (by omega), if_pos (by omega)]; done) | (rw [if_neg (by omega), if_neg (by omega)]; done))
    · refine jj_iload_n dX4_put_20 rfl ?_
      refine jj_i2s dX4_put_21 ?_
      refine jj_goto (tgt := 26) dX4_put_22 (by decide) ?_
      exact L26 (js (z)) (by unfold fNarrow; first | (rw [if_pos (by omega)]; done) | (rw [if_neg (by omega), if_pos (by omega)]; done) | (rw [if_neg (by omega), if_neg (by omega)]; done))
  · refine jj_iload_n dX4_put_7 rfl ?_
    refine jj_i2b dX4_put_8 ?_
    refine jj_goto (tgt := 26) dX4_put_9 (by decide) ?_
    exact L26 (jb (z)) (by unfold fNarrow; first | (rw [if_pos (by omega)]; done) | (rw [if_neg (by omega), if_pos (by omega)]; done) | (rw [if_neg (by omega), if_neg (by omega)]; done))

