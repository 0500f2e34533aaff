set_option maxRecDepth 100000 in
set_option maxHeartbeats 4000000 in
theorem c_X3_forget (g : jz_G) (s : jz_St)  : jz_C g mX3_forget [jr (4)] s (jq_ve (jz_su s 4 2 0)) := by
  refine zz_C_of koX3_forget rfl (Nat.le_of_ble_eq_true rfl) ?_
  refine zz_pad 0 ?_
  show jz_Z g mX3_forget (jq_ve (jz_su s 4 2 0)) 0 [some (jr (4))] [] s
  refine jj_aload_n dX3_forget_0 rfl ?_
  refine jj_iconst dX3_forget_1 (kk := ?_)
  refine zz_putI dX3_forget_2 kw_X3_18 tt4 rfl rfl ?_
  refine zz_retve dX3_forget_5 rfl (by decide) ?_
  · first | rfl | ((repeat' split) <;> omega)

set_option maxRecDepth 100000 in
set_option maxHeartbeats 4000000 in
theorem c_X3_keep (g : jz_G) (s : jz_St) (k : Nat) (hk : jz_t k = .inl 5) (hn : 0 ≤ s 4 1 ∧ s 4 1 < 24) (hc : 0 ≤ s 4 2 ∧ s 4 2 ≤ 24) : jz_C g mX3_keep [jr (4), jr (k)] s (jq_ve (f_X3_keep s k)) := by
  refine zz_C_of koX3_keep rfl (Nat.le_of_ble_eq_true rfl) ?_
  refine zz_pad 0 ?_
  show jz_Z g mX3_keep (jq_ve (f_X3_keep s k)) 0 [some (jr (4)), some (jr (k))] [] s
  have hk6 := sq_ne2 hk
  refine jj_aload_n dX3_keep_0 rfl ?_
  refine zz_getI dX3_keep_1 kf_X3_22 tt4 rfl rfl ?_
  refine jj_if_lt (tgt := 19) dX3_keep_4 (by decide) (fun h4 => ?_) (fun h4 => ?_)
  · omega
  · refine jj_aload_n dX3_keep_7 rfl ?_
    refine zz_getI dX3_keep_8 kf_X3_22 tt4 rfl rfl ?_
    refine jj_aload_n dX3_keep_11 rfl ?_
    refine zz_getR dX3_keep_12 kf_X3_11 tt4 rfl ?_
    refine zz_alen (z := 24) dX3_keep_15 tt5 (by decide) rfl (by decide) ?_
    refine jj_icmp_lt (tgt := 20) dX3_keep_16 (by decide) (fun h16 => ?_) (fun h16 => ?_)
    · refine jj_aload_n dX3_keep_20 rfl ?_
      refine zz_getR dX3_keep_21 kf_X3_11 tt4 rfl ?_
      refine jj_aload_n dX3_keep_24 rfl ?_
      refine zz_getI dX3_keep_25 kf_X3_22 tt4 rfl rfl ?_
      refine zz_sqld (j := (s 4 1).toNat) dX3_keep_28 (by omega) (by omega) ?_
      refine jj_aload_n dX3_keep_29 rfl ?_
      refine zz_cVv (av := [jr (k)]) (st' := []) dX3_keep_30 kn_X3_25 kmX5_take (jz_t_past (by omega)) rfl rfl rfl (Nat.le_of_ble_eq_true rfl) (by decide) rfl (c_X5_take g s (6 + 14 * ((s 4 1).toNat)) k (jz_t_past (by omega)) hk) (fun ho30 => ?_)
      have L58 : ∀ (nn : Int) (hh58_0 : nn = if s 4 1 + 1 < 24 then s 4 1 + 1 else 0), jz_Z g mX3_keep (jq_ve (f_X3_keep s k)) 58 [some (jr (4)), some (jr (k))] [ji (nn), jr (4)] (f_X5_take s (6 + 14 * (s 4 1).toNat) k) := by
        intro nn hh58_0
        refine zz_putI dX3_keep_58 kw_X3_22 tt4 rfl rfl ?_
        refine jj_aload_n dX3_keep_61 rfl ?_
        refine jj_aload_n dX3_keep_62 rfl ?_
        refine zz_getI dX3_keep_63 kf_X3_18 tt4 rfl rfl ?_
        refine zz_top (b := (f_X5_take s (6 + 14 * (s 4 1).toNat) k) 4 2) (jz_su_f (by decide)) ?_
        refine zz_top (b := s 4 2) (by rw [take_o _ _ _ (by omega)]) ?_
        refine jj_iconst dX3_keep_66 (kk := ?_)
        refine jj_iadd dX3_keep_67 (by omega) ?_
        refine jj_aload_n dX3_keep_68 rfl ?_
        refine zz_getR dX3_keep_69 kf_X3_11 tt4 rfl ?_
        refine zz_alen (z := 24) dX3_keep_72 tt5 (by decide) rfl (by decide) ?_
        refine jj_min dX3_keep_73 kn_X3_29 (Nat.le_of_ble_eq_true rfl) (by decide) ?_
        refine zz_top (b := if s 4 2 + 1 < 24 then s 4 2 + 1 else 24) (by split <;> split <;> omega) ?_
        refine zz_putI dX3_keep_76 kw_X3_18 tt4 rfl rfl ?_
        refine zz_retve dX3_keep_79 rfl (by decide) ?_
        · unfold f_X3_keep; rw [hh58_0]
      refine jj_aload_n dX3_keep_33 rfl ?_
      refine jj_aload_n dX3_keep_34 rfl ?_
      refine zz_getI dX3_keep_35 kf_X3_22 tt4 rfl rfl ?_
      refine zz_top (b := s 4 1) (by rw [take_o _ _ _ (by omega)]) ?_
      refine jj_iconst dX3_keep_38 (kk := ?_)
      refine jj_iadd dX3_keep_39 (by omega) ?_
      refine jj_aload_n dX3_keep_40 rfl ?_
      refine zz_getR dX3_keep_41 kf_X3_11 tt4 rfl ?_
      refine zz_alen (z := 24) dX3_keep_44 tt5 (by decide) rfl (by decide) ?_
      refine jj_icmp_ge (tgt := 57) dX3_keep_45 (by decide) (fun h45 => ?_) (fun h45 => ?_)
      · refine jj_iconst dX3_keep_57 (kk := ?_)
        exact L58 0 (by first | (rw [if_pos (by omega)]; done) | (rw [if_neg (by omega)]; done))
      · refine jj_aload_n dX3_keep_48 rfl ?_
        refine zz_getI dX3_keep_49 kf_X3_22 tt4 rfl rfl ?_
        refine zz_top (b := s 4 1) (by rw [take_o _ _ _ (by omega)]) ?_
        refine jj_iconst dX3_keep_52 (kk := ?_)
        refine jj_iadd dX3_keep_53 (by omega) ?_
        refine jj_goto (tgt := 58) dX3_keep_54 (by decide) ?_
        exact L58 ((s 4 1) + 1) (by first | (rw [if_pos (by omega)]; done) | (rw [if_neg (by omega)]; done))
    · omega

set_option maxRecDepth 100000 in
set_option maxHeartbeats 4000000 in
theorem c_X3_bringBack (g : jz_G) (s : jz_St) (k : Nat) (hk : jz_t k = .inl 5) (hn : 0 ≤ s 4 1 ∧ s 4 1 < 24) (hc : 0 ≤ s 4 2 ∧ s 4 2 ≤ 24) : jz_C g mX3_bringBack [jr (4), jr (k)] s (jq_ie (if s 4 2 ≤ 0 then 0 else 1) (f_X3_back s k)) := by
  refine zz_C_of koX3_bringBack rfl (Nat.le_of_ble_eq_true rfl) ?_
  refine zz_pad 1 ?_
  show jz_Z g mX3_bringBack (jq_ie (if s 4 2 ≤ 0 then 0 else 1) (f_X3_back s k)) 0 [some (jr (4)), some (jr (k)), none] [] s
  have hk6 := sq_ne2 hk
  have L23 : ∀ (la : Int) (hh23_0 : la = fLat s), jz_Z g mX3_bringBack (jq_ie (if s 4 2 ≤ 0 then 0 else 1) (f_X3_back s k)) 23 [some (jr (4)), some (jr (k)), none] [ji (la)] s := by
    intro la hh23_0
    have hl : 0 ≤ la ∧ la < 24 := by rw [hh23_0]; unfold fLat; split <;> omega
    refine jj_istore_n (ls' := [some (jr (4)), some (jr (k)), some (ji (la))]) dX3_bringBack_23 (by decide) rfl rfl ?_
    refine jj_aload_n dX3_bringBack_24 rfl ?_
    refine zz_getI dX3_bringBack_25 kf_X3_18 tt4 rfl rfl ?_
    refine jj_if_le (tgt := 44) dX3_bringBack_28 (by decide) (fun h28 => ?_) (fun h28 => ?_)
    · refine jj_iconst dX3_bringBack_44 (kk := ?_)
      refine zz_retze dX3_bringBack_45 rfl (by first | exact Or.inl rfl | exact Or.inr rfl) (by decide) ?_ ?_
      · first | rw [if_pos (by omega)] | rfl
      · unfold f_X3_back; rw [if_pos (by omega)]
    · refine jj_iload_n dX3_bringBack_31 rfl ?_
      refine jj_if_lt (tgt := 44) dX3_bringBack_32 (by decide) (fun h32 => ?_) (fun h32 => ?_)
      · exact absurd h32 (by omega)
      · refine jj_iload_n dX3_bringBack_35 rfl ?_
        refine jj_aload_n dX3_bringBack_36 rfl ?_
        refine zz_getR dX3_bringBack_37 kf_X3_11 tt4 rfl ?_
        refine zz_alen (z := 24) dX3_bringBack_40 tt5 (by decide) rfl (by decide) ?_
        refine jj_icmp_lt (tgt := 46) dX3_bringBack_41 (by decide) (fun h41 => ?_) (fun h41 => ?_)
        · refine jj_aload_n dX3_bringBack_46 rfl ?_
          refine jj_aload_n dX3_bringBack_47 rfl ?_
          refine zz_getR dX3_bringBack_48 kf_X3_11 tt4 rfl ?_
          refine jj_iload_n dX3_bringBack_51 rfl ?_
          refine zz_sqld (j := la.toNat) dX3_bringBack_52 (by omega) (by omega) ?_
          refine zz_cVv (av := [jr (6 + 14 * la.toNat)]) (st' := []) dX3_bringBack_53 kn_X3_25 kmX5_take hk rfl rfl rfl (Nat.le_of_ble_eq_true rfl) (by decide) rfl (c_X5_take g s k (6 + 14 * la.toNat) hk (jz_t_past (by omega))) (fun ho53 => ?_)
          refine jj_aload_n dX3_bringBack_56 rfl ?_
          refine jj_iload_n dX3_bringBack_57 rfl ?_
          refine zz_putI dX3_bringBack_58 kw_X3_22 tt4 rfl rfl ?_
          refine jj_aload_n dX3_bringBack_61 rfl ?_
          refine jj_dup dX3_bringBack_62 (kk := ?_)
          refine zz_getI dX3_bringBack_63 kf_X3_18 tt4 rfl rfl ?_
          refine zz_top (b := (f_X5_take s k (6 + 14 * la.toNat)) 4 2) (jz_su_f (by decide)) ?_
          refine zz_top (b := s 4 2) (by rw [take_o _ _ _ (by omega)]) ?_
          refine jj_iconst dX3_bringBack_66 (kk := ?_)
          refine jj_isub dX3_bringBack_67 (by omega) ?_
          refine zz_putI dX3_bringBack_68 kw_X3_18 tt4 rfl rfl ?_
          refine jj_iconst dX3_bringBack_71 (kk := ?_)
          refine zz_retze dX3_bringBack_72 rfl (by first | exact Or.inl rfl | exact Or.inr rfl) (by decide) ?_ ?_
          · rw [if_neg (by omega)]
          · unfold f_X3_back; rw [if_neg (by omega), hh23_0]
        · exact absurd h41 (by omega)
  refine jj_aload_n dX3_bringBack_0 rfl ?_
  refine zz_getI dX3_bringBack_1 kf_X3_22 tt4 rfl rfl ?_
  refine jj_if_le (tgt := 16) dX3_bringBack_4 (by decide) (fun h4 => ?_) (fun h4 => ?_)
  · refine jj_aload_n dX3_bringBack_16 rfl ?_
    refine zz_getR dX3_bringBack_17 kf_X3_11 tt4 rfl ?_
    refine zz_alen (z := 24) dX3_bringBack_20 tt5 (by decide) rfl (by decide) ?_
    refine jj_iconst dX3_bringBack_21 (kk := ?_)
    refine jj_isub dX3_bringBack_22 (by omega) ?_
    exact L23 (24 - 1) (by unfold fLat; first | (rw [if_pos (by omega)]; done) | (rw [if_neg (by omega)]; rfl))
  · refine jj_aload_n dX3_bringBack_7 rfl ?_
    refine zz_getI dX3_bringBack_8 kf_X3_22 tt4 rfl rfl ?_
    refine jj_iconst dX3_bringBack_11 (kk := ?_)
    refine jj_isub dX3_bringBack_12 (by omega) ?_
    refine jj_goto (tgt := 23) dX3_bringBack_13 (by decide) ?_
    exact L23 ((s 4 1) - 1) (by unfold fLat; first | (rw [if_pos (by omega)]; done) | (rw [if_neg (by omega)]; rfl))

set_option maxRecDepth 100000 in
set_option maxHeartbeats 4000000 in
theorem c_X6_add (g : jz_G) (s : jz_St) (z : Int) : jz_C g mX6_add [jr (2), ji (z)] s (jq_ie (if 0 ≤ s 2 1 ∧ s 2 1 < 120 then 1 else 0) (f_X6_add s z)) := by
  refine zz_C_of koX6_add rfl (Nat.le_of_ble_eq_true rfl) ?_
  refine zz_pad 0 ?_
  show jz_Z g mX6_add (jq_ie (if 0 ≤ s 2 1 ∧ s 2 1 < 120 then 1 else 0) (f_X6_add s z)) 0 [some (jr (2)), some (ji (z))] [] s
  refine jj_aload_n dX6_add_0 rfl ?_
  refine zz_getI dX6_add_1 kf_X6_15 tt2 rfl rfl ?_
  refine jj_if_lt (tgt := 19) dX6_add_4 (by decide) (fun h4 => ?_) (fun h4 => ?_)
  · refine jj_iconst dX6_add_19 (kk := ?_)
    refine zz_retze dX6_add_20 rfl (by first | exact Or.inl rfl | exact Or.inr rfl) (by decide) ?_ ?_
    · first | (rw [if_pos (by omega)]; done) | (rw [if_neg (by omega)]; done)
    · unfold f_X6_add; first | (rw [if_pos (by omega)]; done) | (rw [if_neg (by omega)]; done)
  · refine jj_aload_n dX6_add_7 rfl ?_
    refine zz_getI dX6_add_8 kf_X6_15 tt2 rfl rfl ?_
    refine jj_aload_n dX6_add_11 rfl ?_
    refine zz_getR dX6_add_12 kf_X6_9 tt2 rfl ?_
    refine zz_alen (z := 120) dX6_add_15 tt3 (by decide) rfl (by decide) ?_
    refine jj_icmp_lt (tgt := 21) dX6_add_16 (by decide) (fun h16 => ?_) (fun h16 => ?_)
    · refine jj_aload_n dX6_add_21 rfl ?_
      refine zz_getR dX6_add_22 kf_X6_9 tt2 rfl ?_
      refine jj_aload_n dX6_add_25 rfl ?_
      refine zz_getI dX6_add_26 kf_X6_15 tt2 rfl rfl ?_
      refine jj_iload_n dX6_add_29 rfl ?_
      refine zz_iastN (j := (s 2 1).toNat) dX6_add_30 tt3 (by omega) (by omega) ?_
      refine jj_aload_n dX6_add_31 rfl ?_
      refine jj_dup dX6_add_32 (kk := ?_)
      refine zz_getI dX6_add_33 kf_X6_15 tt2 rfl rfl ?_
      refine zz_top (b := s 2 1) (jz_su_n (Or.inl (by decide))) ?_
      refine jj_iconst dX6_add_36 (kk := ?_)
      refine jj_iadd dX6_add_37 (by omega) ?_
      refine zz_putI dX6_add_38 kw_X6_15 tt2 rfl rfl ?_
      refine jj_iconst dX6_add_41 (kk := ?_)
      refine zz_retze dX6_add_42 rfl (by first | exact Or.inl rfl | exact Or.inr rfl) (by decide) ?_ ?_
      · first | (rw [if_pos (by omega)]; done) | (rw [if_neg (by omega)]; done)
      · unfold f_X6_add; first | (rw [if_pos (by omega)]; done) | (rw [if_neg (by omega)]; done)
    · refine jj_iconst dX6_add_19 (kk := ?_)
      refine zz_retze dX6_add_20 rfl (by first | exact Or.inl rfl | exact Or.inr rfl) (by decide) ?_ ?_
      · first | (rw [if_pos (by omega)]; done) | (rw [if_neg (by omega)]; done)
      · unfold f_X6_add; first | (rw [if_pos (by omega)]; done) | (rw [if_neg (by omega)]; done)

set_option maxRecDepth 100000 in
set_option maxHeartbeats 4000000 in
theorem c_X6_byteAt (g : jz_G) (s : jz_St) (z : Int) (p : Nat) (e : Int) (hz : z = (p : Int)) (he : fBn s p = e) : jz_C g mX6_byteAt [jr (2), ji (z)] s (jq_ie e s) := by
  refine zz_C_of koX6_byteAt rfl (Nat.le_of_ble_eq_true rfl) ?_
  refine zz_pad 0 ?_
  show jz_Z g mX6_byteAt (jq_ie e s) 0 [some (jr (2)), some (ji (z))] [] s
  refine jj_iload_n dX6_byteAt_0 rfl ?_
  refine jj_if_lt (tgt := 30) dX6_byteAt_1 (by decide) (fun h1 => ?_) (fun h1 => ?_)
  · refine jj_iconst dX6_byteAt_30 (kk := ?_)
    refine zz_retie dX6_byteAt_31 rfl (by decide) ?_ ?_
    · rw [← he]; unfold fBn; first | (rw [if_pos (by omega)]; done) | (rw [if_neg (by omega)]; done)
    · rfl
  · refine jj_iload_n dX6_byteAt_4 rfl ?_
    refine jj_aload_n dX6_byteAt_5 rfl ?_
    refine zz_getI dX6_byteAt_6 kf_X6_15 tt2 rfl rfl ?_
    refine jj_icmp_ge (tgt := 30) dX6_byteAt_9 (by decide) (fun h9 => ?_) (fun h9 => ?_)
    · refine jj_iconst dX6_byteAt_30 (kk := ?_)
      refine zz_retie dX6_byteAt_31 rfl (by decide) ?_ ?_
      · rw [← he]; unfold fBn; first | (rw [if_pos (by omega)]; done) | (rw [if_neg (by omega)]; done)
      · rfl
    · refine jj_iload_n dX6_byteAt_12 rfl ?_
      refine jj_aload_n dX6_byteAt_13 rfl ?_
      refine zz_getR dX6_byteAt_14 kf_X6_9 tt2 rfl ?_
      refine zz_alen (z := 120) dX6_byteAt_17 tt3 (by decide) rfl (by decide) ?_
      refine jj_icmp_ge (tgt := 30) dX6_byteAt_18 (by decide) (fun h18 => ?_) (fun h18 => ?_)
      · refine jj_iconst dX6_byteAt_30 (kk := ?_)
        refine zz_retie dX6_byteAt_31 rfl (by decide) ?_ ?_
        · rw [← he]; unfold fBn; first | (rw [if_pos (by omega)]; done) | (rw [if_neg (by omega)]; done)
        · rfl
      · refine jj_aload_n dX6_byteAt_21 rfl ?_
        refine zz_getR dX6_byteAt_22 kf_X6_9 tt2 rfl ?_
        refine jj_iload_n dX6_byteAt_25 rfl ?_
        refine zz_ialdN (j := p) dX6_byteAt_26 tt3 (by omega) (by omega) ?_
        refine jj_goto (tgt := 31) dX6_byteAt_27 (by decide) ?_
        refine zz_retie dX6_byteAt_31 rfl (by decide) ?_ ?_
        · rw [← he]; unfold fBn; first | (rw [if_pos (by omega)]; done) | (rw [if_neg (by omega)]; done)
        · rfl

set_option maxRecDepth 100000 in
set_option maxHeartbeats 4000000 in
theorem c_X6_advance (g : jz_G) (s : jz_St) (hT : jTk s) : jz_C g mX6_advance [jr (2)] s (jq_ve (f_X6_adv s)) := by
  refine zz_C_of koX6_advance rfl (Nat.le_of_ble_eq_true rfl) ?_
  refine zz_pad 3 ?_
  show jz_Z g mX6_advance (jq_ve (f_X6_adv s)) 0 [some (jr (2)), none, none, none] [] s
  have hT1 := hT.1
  have L92 : ∀ (c : Nat) (hh92_0 : c = lxC (fBn s) (s 2 3).toNat 120) (hh92_1 : (s 2 3).toNat + c ≤ 120) (hh92_2 : c ≤ 120), jz_Z g mX6_advance (jq_ve (f_X6_adv s)) 92 [some (jr (2)), some (ji ((c : Int))), some (ji (fBn s ((s 2 3).toNat + c))), none] [] (jz_su (jz_su s 2 2 (s 2 3)) 2 5 (lxV (fBn s) (s 2 3).toNat c)) := by
    intro c hh92_0 hh92_1 hh92_2
    refine jj_iload_n dX6_advance_92 rfl ?_
    refine jj_if_le (tgt := 125) dX6_advance_93 (by decide) (fun h93 => ?_) (fun h93 => ?_)
    · refine jj_aload_n dX6_advance_125 rfl ?_
      refine jj_iload_n dX6_advance_126 rfl ?_
      refine zz_putI dX6_advance_127 kw_X6_47 tt2 rfl rfl ?_
      refine jj_aload_n dX6_advance_130 rfl ?_
      refine jj_iload_n dX6_advance_131 rfl ?_
      refine jj_iconst dX6_advance_132 (kk := ?_)
      refine jj_icmp_ne (tgt := 143) dX6_advance_133 (by decide) (fun h133 => ?_) (fun h133 => ?_)
      · refine jj_aload_n dX6_advance_143 rfl ?_
        refine zz_getI dX6_advance_144 kf_X6_103 tt2 rfl rfl ?_
        refine zz_top (b := s 2 3) (((jz_su_f (by decide)).trans (jz_su_f (by decide))).trans (jz_su_s _ _ _ _)) ?_
        refine jj_iconst dX6_advance_147 (kk := ?_)
        refine jj_iadd dX6_advance_148 (by omega) ?_
        refine zz_putI dX6_advance_149 kw_X6_27 tt2 rfl rfl ?_
        refine zz_retve dX6_advance_152 rfl (by decide) ?_
        · first | (unfold f_X6_adv lxW; rw [← hh92_0, ← hh109_0, show ((lxN (fBn s) (s 2 3).toNat : Nat) : Int) = s 2 3 + (c : Int) by unfold lxN; rw [← hh92_0, if_pos (by omega)]; omega]; done) | ((obtain rfl : c = 0 := (by omega)); rw [Nat.add_zero] at h133; unfold f_X6_adv lxW; rw [← hh92_0, show lxT (fBn s) (s 2 3).toNat = fBn s ((s 2 3).toNat + 0) by unfold lxT; rw [← hh92_0]; rfl, show ((lxN (fBn s) (s 2 3).toNat : Nat) : Int) = s 2 3 + 1 by unfold lxN; rw [← hh92_0, if_neg (by omega), if_neg h133]; omega]; done) | ((obtain rfl : c = 0 := (by omega)); rw [Nat.add_zero] at h133; unfold f_X6_adv lxW; rw [← hh92_0, show lxT (fBn s) (s 2 3).toNat = fBn s ((s 2 3).toNat + 0) by unfold lxT; rw [← hh92_0]; rfl, show ((lxN (fBn s) (s 2 3).toNat : Nat) : Int) = s 2 3 by unfold lxN; rw [← hh92_0, if_neg (by omega), if_pos h133]; omega])
      · refine jj_aload_n dX6_advance_136 rfl ?_
        refine zz_getI dX6_advance_137 kf_X6_103 tt2 rfl rfl ?_
        refine zz_top (b := s 2 3) (((jz_su_f (by decide)).trans (jz_su_f (by decide))).trans (jz_su_s _ _ _ _)) ?_
        refine jj_goto (tgt := 149) dX6_advance_140 (by decide) ?_
        refine zz_putI dX6_advance_149 kw_X6_27 tt2 rfl rfl ?_
        refine zz_retve dX6_advance_152 rfl (by decide) ?_
        · first | (unfold f_X6_adv lxW; rw [← hh92_0, ← hh109_0, show ((lxN (fBn s) (s 2 3).toNat : Nat) : Int) = s 2 3 + (c : Int) by unfold lxN; rw [← hh92_0, if_pos (by omega)]; omega]; done) | ((obtain rfl : c = 0 := (by omega)); rw [Nat.add_zero] at h133; unfold f_X6_adv lxW; rw [← hh92_0, show lxT (fBn s) (s 2 3).toNat = fBn s ((s 2 3).toNat + 0) by unfold lxT; rw [← hh92_0]; rfl, show ((lxN (fBn s) (s 2 3).toNat : Nat) : Int) = s 2 3 + 1 by unfold lxN; rw [← hh92_0, if_neg (by omega), if_neg h133]; omega]; done) | ((obtain rfl : c = 0 := (by omega)); rw [Nat.add_zero] at h133; unfold f_X6_adv lxW; rw [← hh92_0, show lxT (fBn s) (s 2 3).toNat = fBn s ((s 2 3).toNat + 0) by unfold lxT; rw [← hh92_0]; rfl, show ((lxN (fBn s) (s 2 3).toNat : Nat) : Int) = s 2 3 by unfold lxN; rw [← hh92_0, if_neg (by omega), if_pos h133]; omega])
    · have L109 : ∀ (tk : Int) (hh109_0 : tk = lxT (fBn s) (s 2 3).toNat), jz_Z g mX6_advance (jq_ve (f_X6_adv s)) 109 [some (jr (2)), some (ji ((c : Int))), some (ji (fBn s ((s 2 3).toNat + c))), none] [ji (tk), jr (2)] (jz_su (jz_su s 2 2 (s 2 3)) 2 5 (lxV (fBn s) (s 2 3).toNat c)) := by
        intro tk hh109_0
        refine zz_putI dX6_advance_109 kw_X6_47 tt2 rfl rfl ?_
        refine jj_aload_n dX6_advance_112 rfl ?_
        refine jj_aload_n dX6_advance_113 rfl ?_
        refine zz_getI dX6_advance_114 kf_X6_103 tt2 rfl rfl ?_
        refine zz_top (b := s 2 3) (((jz_su_f (by decide)).trans (jz_su_f (by decide))).trans (jz_su_s _ _ _ _)) ?_
        refine jj_iload_n dX6_advance_117 rfl ?_
        refine jj_iadd dX6_advance_118 (by omega) ?_
        refine zz_putI dX6_advance_119 kw_X6_27 tt2 rfl rfl ?_
        refine jj_goto (tgt := 152) dX6_advance_122 (by decide) ?_
        refine zz_retve dX6_advance_152 rfl (by decide) ?_
        · first | (unfold f_X6_adv lxW; rw [← hh92_0, ← hh109_0, show ((lxN (fBn s) (s 2 3).toNat : Nat) : Int) = s 2 3 + (c : Int) by unfold lxN; rw [← hh92_0, if_pos (by omega)]; omega]; done) | ((obtain rfl : c = 0 := (by omega)); rw [Nat.add_zero] at h133; unfold f_X6_adv lxW; rw [← hh92_0, show lxT (fBn s) (s 2 3).toNat = fBn s ((s 2 3).toNat + 0) by unfold lxT; rw [← hh92_0]; rfl, show ((lxN (fBn s) (s 2 3).toNat : Nat) : Int) = s 2 3 + 1 by unfold lxN; rw [← hh92_0, if_neg (by omega), if_neg h133]; omega]; done) | ((obtain rfl : c = 0 := (by omega)); rw [Nat.add_zero] at h133; unfold f_X6_adv lxW; rw [← hh92_0, show lxT (fBn s) (s 2 3).toNat = fBn s ((s 2 3).toNat + 0) by unfold lxT; rw [← hh92_0]; rfl, show ((lxN (fBn s) (s 2 3).toNat : Nat) : Int) = s 2 3 by unfold lxN; rw [← hh92_0, if_neg (by omega), if_pos h133]; omega])
      refine jj_aload_n dX6_advance_96 rfl ?_
      refine jj_iload_n dX6_advance_97 rfl ?_
      refine jj_iconst dX6_advance_98 (kk := ?_)
      refine jj_icmp_gt (tgt := 107) dX6_advance_99 (by decide) (fun h99 => ?_) (fun h99 => ?_)
      · refine jj_bipush dX6_advance_107 (kk := ?_)
        exact L109 (-3) (by unfold lxT; rw [← hh92_0, if_pos (by omega)]; first | (rw [if_pos (by omega)]; done) | (rw [if_neg (by omega)]; done))
      · refine jj_bipush dX6_advance_102 (kk := ?_)
        refine jj_goto (tgt := 109) dX6_advance_104 (by decide) ?_
        exact L109 (-2) (by unfold lxT; rw [← hh92_0, if_pos (by omega)]; first | (rw [if_pos (by omega)]; done) | (rw [if_neg (by omega)]; done))
  refine jj_aload_n dX6_advance_0 rfl ?_
  refine jj_aload_n dX6_advance_1 rfl ?_
  refine zz_getI dX6_advance_2 kf_X6_27 tt2 rfl rfl ?_
  refine zz_putI dX6_advance_5 kw_X6_103 tt2 rfl rfl ?_
  refine jj_aload_n dX6_advance_8 rfl ?_
  refine jj_iconst dX6_advance_9 (kk := ?_)
  refine zz_putI dX6_advance_10 kw_X6_100 tt2 rfl rfl ?_
  refine jj_iconst dX6_advance_13 (kk := ?_)
  refine jj_istore_n (ls' := [some (jr (2)), some (ji (0)), none, none]) dX6_advance_14 (by decide) rfl rfl ?_
  refine jj_aload_n dX6_advance_15 rfl ?_
  refine jj_aload_n dX6_advance_16 rfl ?_
  refine zz_getI dX6_advance_17 kf_X6_103 tt2 rfl rfl ?_
  refine zz_top (b := s 2 3) ((jz_su_f (by decide)).trans (jz_su_s _ _ _ _)) ?_
  refine zz_cVi (av := [ji (s 2 3)]) (st' := []) dX6_advance_20 kn_X6_106 kmX6_byteAt tt2 rfl rfl rfl (Nat.le_of_ble_eq_true rfl) (by decide) rfl (c_X6_byteAt g (jz_su (jz_su s 2 2 (s 2 3)) 2 5 (0)) (s 2 3) ((s 2 3).toNat) (fBn s (s 2 3).toNat) (by omega) (by simp [fBn, jz_su])) (fun hr20 ho20 => ?_)
  refine jj_istore_n (ls' := [some (jr (2)), some (ji (0)), some (ji (fBn s (s 2 3).toNat)), none]) dX6_advance_23 (by decide) rfl rfl ?_
  refine jj_iconst dX6_advance_24 (kk := ?_)
  refine jj_istore_n (ls' := [some (jr (2)), some (ji (0)), some (ji (fBn s (s 2 3).toNat)), some (ji (0))]) dX6_advance_25 (by decide) rfl rfl ?_
  have L26 : ∀ (nn : Nat) (j : Nat) (hh26_0 : j ≤ 120) (hh26_1 : lxC (fBn s) (s 2 3).toNat 120 = j + lxC (fBn s) ((s 2 3).toNat + j) (120 - j)) (hh26_2 : 0 ≤ lxV (fBn s) (s 2 3).toNat j ∧ lxV (fBn s) (s 2 3).toNat j ≤ 99 ∧ (j = 0 → lxV (fBn s) (s 2 3).toNat j = 0) ∧ (j = 1 → lxV (fBn s) (s 2 3).toNat j ≤ 9)) (hh26_3 : (s 2 3).toNat + j ≤ 120), 120 - j < nn → jz_Z g mX6_advance (jq_ve (f_X6_adv s)) 26 [some (jr (2)), some (ji ((j : Int))), some (ji (fBn s ((s 2 3).toNat + j))), some (ji ((j : Int)))] [] (jz_su (jz_su s 2 2 (s 2 3)) 2 5 (lxV (fBn s) (s 2 3).toNat j)) := by
    intro nn
    induction nn with
    | zero => intro j hh26_0 hh26_1 hh26_2 hh26_3 hmz; exact absurd hmz (Nat.not_lt_zero _)
    | succ nn ih26 =>
      intro j hh26_0 hh26_1 hh26_2 hh26_3 hm26
      refine jj_iload_n dX6_advance_26 rfl ?_
      refine jj_bipush dX6_advance_27 (kk := ?_)
      refine jj_icmp_ge (tgt := 92) dX6_advance_29 (by decide) (fun h29 => ?_) (fun h29 => ?_)
      · refine jj_fgt (i := 3) (ls' := [some (jr (2)), some (ji ((j : Int))), some (ji (fBn s ((s 2 3).toNat + j))), none]) rfl ?_
        exact L92 j (by rw [hh26_1, lxC_zero _ _ _ (by omega), Nat.add_zero]) (by omega) (by omega)
      · refine jj_iload_n dX6_advance_32 rfl ?_
        refine jj_bipush dX6_advance_33 (kk := ?_)
        refine jj_icmp_lt (tgt := 92) dX6_advance_35 (by decide) (fun h35 => ?_) (fun h35 => ?_)
        · refine jj_fgt (i := 3) (ls' := [some (jr (2)), some (ji ((j : Int))), some (ji (fBn s ((s 2 3).toNat + j))), none]) rfl ?_
          exact L92 j (by rw [hh26_1, lxC_zero _ _ _ (by omega), Nat.add_zero]) (by omega) (by omega)
        · refine jj_iload_n dX6_advance_38 rfl ?_
          refine jj_bipush dX6_advance_39 (kk := ?_)
          refine jj_icmp_gt (tgt := 92) dX6_advance_41 (by decide) (fun h41 => ?_) (fun h41 => ?_)
          · refine jj_fgt (i := 3) (ls' := [some (jr (2)), some (ji ((j : Int))), some (ji (fBn s ((s 2 3).toNat + j))), none]) rfl ?_
            exact L92 j (by rw [hh26_1, lxC_zero _ _ _ (by omega), Nat.add_zero]) (by omega) (by omega)
          · have L69 : ∀ (vv : Int) (hh69_0 : vv = lxV (fBn s) (s 2 3).toNat (j + 1)), jz_Z g mX6_advance (jq_ve (f_X6_adv s)) 69 [some (jr (2)), some (ji ((j : Int))), some (ji (fBn s ((s 2 3).toNat + j))), some (ji ((j : Int)))] [ji (vv), jr (2)] (jz_su (jz_su s 2 2 (s 2 3)) 2 5 (lxV (fBn s) (s 2 3).toNat j)) := by
              intro vv hh69_0
              refine zz_putI dX6_advance_69 kw_X6_100 tt2 rfl rfl ?_
              refine jj_iinc (ls' := [some (jr (2)), some (ji ((j : Int) + 1)), some (ji (fBn s ((s 2 3).toNat + j))), some (ji ((j : Int)))]) dX6_advance_72 rfl (by decide) rfl (by omega) rfl ?_
              refine jj_aload_n dX6_advance_75 rfl ?_
              refine jj_aload_n dX6_advance_76 rfl ?_
              refine zz_getI dX6_advance_77 kf_X6_103 tt2 rfl rfl ?_
              refine zz_top (b := s 2 3) (((jz_su_f (by decide)).trans (jz_su_f (by decide))).trans (jz_su_s _ _ _ _)) ?_
              refine jj_iload_n dX6_advance_80 rfl ?_
              refine jj_iadd dX6_advance_81 (by omega) ?_
              refine zz_cVi (av := [ji ((s 2 3) + ((j : Int) + 1))]) (st' := []) dX6_advance_82 kn_X6_106 kmX6_byteAt tt2 rfl rfl rfl (Nat.le_of_ble_eq_true rfl) (by decide) rfl (c_X6_byteAt g (jz_su (jz_su (jz_su s 2 2 (s 2 3)) 2 5 (lxV (fBn s) (s 2 3).toNat j)) 2 5 (vv)) ((s 2 3) + ((j : Int) + 1)) ((s 2 3).toNat + (j + 1)) (fBn s ((s 2 3).toNat + (j + 1))) (by omega) (by simp [fBn, jz_su])) (fun hr82 ho82 => ?_)
              refine jj_istore_n (ls' := [some (jr (2)), some (ji ((j : Int) + 1)), some (ji (fBn s ((s 2 3).toNat + (j + 1)))), some (ji ((j : Int)))]) dX6_advance_85 (by decide) rfl rfl ?_
              refine jj_iinc (ls' := [some (jr (2)), some (ji ((j : Int) + 1)), some (ji (fBn s ((s 2 3).toNat + (j + 1)))), some (ji ((j : Int) + 1))]) dX6_advance_86 rfl (by decide) rfl (by omega) rfl ?_
              refine jj_goto (tgt := 26) dX6_advance_89 (by decide) ?_
              refine zz_st (s1 := jz_su (jz_su s 2 2 (s 2 3)) 2 5 (lxV (fBn s) (s 2 3).toNat (j + 1))) (by first | rfl | rw [jz_su_su, hh69_0]) ?_
              exact ih26 (j + 1) (by omega) (by rw [hh26_1, show 120 - j = (120 - (j + 1)) + 1 by omega]; simp only [lxC]; rw [if_pos ⟨h35, h41⟩, Nat.add_assoc (s 2 3).toNat j 1]; omega) (by simp only [lxV]; split <;> omega) (by have := fBn_lt (s := s) (p := (s 2 3).toNat + j) (by omega); omega) (by omega)
            refine jj_aload_n dX6_advance_44 rfl ?_
            refine jj_iload_n dX6_advance_45 rfl ?_
            refine jj_iconst dX6_advance_46 (kk := ?_)
            refine jj_icmp_ge (tgt := 65) dX6_advance_47 (by decide) (fun h47 => ?_) (fun h47 => ?_)
            · refine jj_aload_n dX6_advance_65 rfl ?_
              refine zz_getI dX6_advance_66 kf_X6_100 tt2 rfl rfl ?_
              refine zz_top (b := lxV (fBn s) (s 2 3).toNat j) (jz_su_s _ _ _ _) ?_
              exact L69 (lxV (fBn s) (s 2 3).toNat j) (by simp only [lxV]; first | (rw [if_pos (by omega)]; done) | (rw [if_neg (by omega)]; done))
            · refine jj_bipush dX6_advance_50 (kk := ?_)
              refine jj_aload_n dX6_advance_52 rfl ?_
              refine zz_getI dX6_advance_53 kf_X6_100 tt2 rfl rfl ?_
              refine zz_top (b := lxV (fBn s) (s 2 3).toNat j) (jz_su_s _ _ _ _) ?_
              refine jj_imul dX6_advance_56 (by omega) ?_
              refine jj_iload_n dX6_advance_57 rfl ?_
              refine jj_iadd dX6_advance_58 (by omega) ?_
              refine jj_bipush dX6_advance_59 (kk := ?_)
              refine jj_isub dX6_advance_61 (by omega) ?_
              refine jj_goto (tgt := 69) dX6_advance_62 (by decide) ?_
              exact L69 (((10 * (lxV (fBn s) (s 2 3).toNat j)) + (fBn s ((s 2 3).toNat + j))) - 48) (by simp only [lxV]; first | (rw [if_pos (by omega)]; done) | (rw [if_neg (by omega)]; done))
  refine zz_st (s1 := jz_su (jz_su s 2 2 (s 2 3)) 2 5 (lxV (fBn s) (s 2 3).toNat 0)) (by first | rfl | rw [jz_su_su, hh69_0]) ?_
  exact L26 _ 0 (by omega) (by simp) (by simp [lxV]) (by omega) (Nat.lt_succ_self _)

set_option maxRecDepth 100000 in
set_option maxHeartbeats 4000000 in
theorem c_X6_takeSign (g : jz_G) (s : jz_St) (c : Int) (hT : jTk s) : jz_C g mX6_takeSign [jr (2), ji (c)] s (jq_ve (f_X6_tS s c)) := by
  refine zz_C_of koX6_takeSign rfl (Nat.le_of_ble_eq_true rfl) ?_
  refine zz_pad 0 ?_
  show jz_Z g mX6_takeSign (jq_ve (f_X6_tS s c)) 0 [some (jr (2)), some (ji (c))] [] s
  refine jj_aload_n dX6_takeSign_0 rfl ?_
  refine zz_getI dX6_takeSign_1 kf_X6_24 tt2 rfl rfl ?_
  refine jj_if_eq (tgt := 8) dX6_takeSign_4 (by decide) (fun h4 => ?_) (fun h4 => ?_)
  · refine jj_aload_n dX6_takeSign_8 rfl ?_
    refine zz_getI dX6_takeSign_9 kf_X6_47 tt2 rfl rfl ?_
    refine jj_iload_n dX6_takeSign_12 rfl ?_
    refine jj_icmp_eq (tgt := 22) dX6_takeSign_13 (by decide) (fun h13 => ?_) (fun h13 => ?_)
    · refine jj_aload_n dX6_takeSign_22 rfl ?_
      refine zz_cVv (av := []) (st' := []) dX6_takeSign_23 kn_X6_30 kmX6_advance tt2 rfl rfl rfl (Nat.le_of_ble_eq_true rfl) (by decide) rfl (c_X6_advance g s hT) (fun ho23 => ?_)
      refine zz_retve dX6_takeSign_26 rfl (by decide) ?_
      · unfold f_X6_tS; first | (rw [if_neg (by omega)]; done) | (rw [if_pos (by omega), if_pos (by omega)]; done) | (rw [if_pos (by omega), if_neg (by omega)]; done)
    · refine jj_aload_n dX6_takeSign_16 rfl ?_
      refine jj_iconst dX6_takeSign_17 (kk := ?_)
      refine zz_putI dX6_takeSign_18 kw_X6_24 tt2 rfl rfl ?_
      refine zz_retve dX6_takeSign_21 rfl (by decide) ?_
      · unfold f_X6_tS; first | (rw [if_neg (by omega)]; done) | (rw [if_pos (by omega), if_pos (by omega)]; done) | (rw [if_pos (by omega), if_neg (by omega)]; done)
  · refine zz_retve dX6_takeSign_7 rfl (by decide) ?_
    · unfold f_X6_tS; first | (rw [if_neg (by omega)]; done) | (rw [if_pos (by omega), if_pos (by omega)]; done) | (rw [if_pos (by omega), if_neg (by omega)]; done)

set_option maxRecDepth 100000 in
set_option maxHeartbeats 4000000 in
theorem c_X6_takeNumber (g : jz_G) (s : jz_St) (lo hi : Int) (hT : jTk s) : jz_C g mX6_takeNumber [jr (2), ji (lo), ji (hi)] s (jq_ie (v_X6_tN s lo hi) (f_X6_tN s lo hi)) := by
  refine zz_C_of koX6_takeNumber rfl (Nat.le_of_ble_eq_true rfl) ?_
  refine zz_pad 1 ?_
  show jz_Z g mX6_takeNumber (jq_ie (v_X6_tN s lo hi) (f_X6_tN s lo hi)) 0 [some (jr (2)), some (ji (lo)), some (ji (hi)), none] [] s
  refine jj_aload_n dX6_takeNumber_0 rfl ?_
  refine zz_getI dX6_takeNumber_1 kf_X6_24 tt2 rfl rfl ?_
  refine jj_if_eq (tgt := 9) dX6_takeNumber_4 (by decide) (fun h4 => ?_) (fun h4 => ?_)
  · refine jj_aload_n dX6_takeNumber_9 rfl ?_
    refine zz_getI dX6_takeNumber_10 kf_X6_47 tt2 rfl rfl ?_
    refine jj_bipush dX6_takeNumber_13 (kk := ?_)
    refine jj_icmp_eq (tgt := 25) dX6_takeNumber_15 (by decide) (fun h15 => ?_) (fun h15 => ?_)
    · refine jj_aload_n dX6_takeNumber_25 rfl ?_
      refine zz_getI dX6_takeNumber_26 kf_X6_100 tt2 rfl rfl ?_
      refine jj_istore_n (ls' := [some (jr (2)), some (ji (lo)), some (ji (hi)), some (ji (s 2 5))]) dX6_takeNumber_29 (by decide) rfl rfl ?_
      refine jj_iload_n dX6_takeNumber_30 rfl ?_
      refine jj_iload_n dX6_takeNumber_31 rfl ?_
      refine jj_icmp_lt (tgt := 40) dX6_takeNumber_32 (by decide) (fun h32 => ?_) (fun h32 => ?_)
      · refine jj_aload_n dX6_takeNumber_40 rfl ?_
        refine jj_iconst dX6_takeNumber_41 (kk := ?_)
        refine zz_putI dX6_takeNumber_42 kw_X6_24 tt2 rfl rfl ?_
        refine jj_iconst dX6_takeNumber_45 (kk := ?_)
        refine zz_retie dX6_takeNumber_46 rfl (by decide) ?_ ?_
        · unfold v_X6_tN; first | (rw [if_neg (by omega)]; done) | (rw [if_pos (by omega)]; done)
        · unfold f_X6_tN; first | (rw [if_neg (by omega)]; done) | (rw [if_pos (by omega), if_neg (by omega)]; done) | (rw [if_pos (by omega), if_pos (by omega), if_pos (by omega)]; done) | (rw [if_pos (by omega), if_pos (by omega), if_neg (by omega)]; done)
      · refine jj_iload_n dX6_takeNumber_35 rfl ?_
        refine jj_iload_n dX6_takeNumber_36 rfl ?_
        refine jj_icmp_le (tgt := 47) dX6_takeNumber_37 (by decide) (fun h37 => ?_) (fun h37 => ?_)
        · refine jj_aload_n dX6_takeNumber_47 rfl ?_
          refine zz_cVv (av := []) (st' := []) dX6_takeNumber_48 kn_X6_30 kmX6_advance tt2 rfl rfl rfl (Nat.le_of_ble_eq_true rfl) (by decide) rfl (c_X6_advance g s hT) (fun ho48 => ?_)
          refine jj_iload_n dX6_takeNumber_51 rfl ?_
          refine zz_retie dX6_takeNumber_52 rfl (by decide) ?_ ?_
          · unfold v_X6_tN; first | (rw [if_neg (by omega)]; done) | (rw [if_pos (by omega)]; done)
          · unfold f_X6_tN; first | (rw [if_neg (by omega)]; done) | (rw [if_pos (by omega), if_neg (by omega)]; done) | (rw [if_pos (by omega), if_pos (by omega), if_pos (by omega)]; done) | (rw [if_pos (by omega), if_pos (by omega), if_neg (by omega)]; done)
        · refine jj_aload_n dX6_takeNumber_40 rfl ?_
          refine jj_iconst dX6_takeNumber_41 (kk := ?_)
          refine zz_putI dX6_takeNumber_42 kw_X6_24 tt2 rfl rfl ?_
          refine jj_iconst dX6_takeNumber_45 (kk := ?_)
          refine zz_retie dX6_takeNumber_46 rfl (by decide) ?_ ?_
          · unfold v_X6_tN; first | (rw [if_neg (by omega)]; done) | (rw [if_pos (by omega)]; done)
          · unfold f_X6_tN; first | (rw [if_neg (by omega)]; done) | (rw [if_pos (by omega), if_neg (by omega)]; done) | (rw [if_pos (by omega), if_pos (by omega), if_pos (by omega)]; done) | (rw [if_pos (by omega), if_pos (by omega), if_neg (by omega)]; done)
    · refine jj_aload_n dX6_takeNumber_18 rfl ?_
      refine jj_iconst dX6_takeNumber_19 (kk := ?_)
      refine zz_putI dX6_takeNumber_20 kw_X6_24 tt2 rfl rfl ?_
      refine jj_iconst dX6_takeNumber_23 (kk := ?_)
      refine zz_retie dX6_takeNumber_24 rfl (by decide) ?_ ?_
      · unfold v_X6_tN; first | (rw [if_neg (by omega)]; done) | (rw [if_pos (by omega)]; done)
      · unfold f_X6_tN; first | (rw [if_neg (by omega)]; done) | (rw [if_pos (by omega), if_neg (by omega)]; done) | (rw [if_pos (by omega), if_pos (by omega), if_pos (by omega)]; done) | (rw [if_pos (by omega), if_pos (by omega), if_neg (by omega)]; done)
  · refine jj_iconst dX6_takeNumber_7 (kk := ?_)
    refine zz_retie dX6_takeNumber_8 rfl (by decide) ?_ ?_
    · unfold v_X6_tN; first | (rw [if_neg (by omega)]; done) | (rw [if_pos (by omega)]; done)
    · unfold f_X6_tN; first | (rw [if_neg (by omega)]; done) | (rw [if_pos (by omega), if_neg (by omega)]; done) | (rw [if_pos (by omega), if_pos (by omega), if_pos (by omega)]; done) | (rw [if_pos (by omega), if_pos (by omega), if_neg (by omega)]; done)

set_option maxRecDepth 100000 in
set_option maxHeartbeats 4000000 in
theorem c_X6_sortOf (g : jz_G) (s : jz_St) (c : Int) : jz_C g mX6_sortOf [ji (c)] s (jq_ie (fSort c) s) := by
  refine zz_C_of koX6_sortOf rfl (Nat.le_of_ble_eq_true rfl) ?_
  refine zz_pad 0 ?_
  show jz_Z g mX6_sortOf (jq_ie (fSort c) s) 0 [some (ji (c))] [] s
  refine jj_iload_n dX6_sortOf_0 rfl ?_
  by_cases q97 : c = 97
  · refine jj_lsw (off := 53) (tgt := 54) dX6_sortOf_1 (by decide) (by rw [q97]; rfl) (by decide) ?_
    refine jj_iconst dX6_sortOf_54 (kk := ?_)
    refine zz_retie dX6_sortOf_55 rfl (by decide) ?_ ?_
    · unfold fSort; (repeat' split) <;> omega
    · rfl
  by_cases q98 : c = 98
  · refine jj_lsw (off := 57) (tgt := 58) dX6_sortOf_1 (by decide) (by rw [q98]; rfl) (by decide) ?_
    refine jj_iconst dX6_sortOf_58 (kk := ?_)
    refine zz_retie dX6_sortOf_59 rfl (by decide) ?_ ?_
    · unfold fSort; (repeat' split) <;> omega
    · rfl
  by_cases q104 : c = 104
  · refine jj_lsw (off := 55) (tgt := 56) dX6_sortOf_1 (by decide) (by rw [q104]; rfl) (by decide) ?_
    refine jj_iconst dX6_sortOf_56 (kk := ?_)
    refine zz_retie dX6_sortOf_57 rfl (by decide) ?_ ?_
    · unfold fSort; (repeat' split) <;> omega
    · rfl
  by_cases q115 : c = 115
  · refine jj_lsw (off := 51) (tgt := 52) dX6_sortOf_1 (by decide) (by rw [q115]; rfl) (by decide) ?_
    refine jj_iconst dX6_sortOf_52 (kk := ?_)
    refine zz_retie dX6_sortOf_53 rfl (by decide) ?_ ?_
    · unfold fSort; (repeat' split) <;> omega
    · rfl
  by_cases q116 : c = 116
  · refine jj_lsw (off := 59) (tgt := 60) dX6_sortOf_1 (by decide) (by rw [q116]; rfl) (by decide) ?_
    refine jj_iconst dX6_sortOf_60 (kk := ?_)
    refine zz_retie dX6_sortOf_61 rfl (by decide) ?_ ?_
    · unfold fSort; (repeat' split) <;> omega
    · rfl
  refine jj_lsw (off := 61) (tgt := 62) dX6_sortOf_1 (by decide) (by simp [Op.lookupswitch.offset, q97, q98, q104, q115, q116, Ne.symm q97, Ne.symm q98, Ne.symm q104, Ne.symm q115, Ne.symm q116]) (by decide) ?_
  refine jj_iconst dX6_sortOf_62 (kk := ?_)
  refine zz_retie dX6_sortOf_63 rfl (by decide) ?_ ?_
  · unfold fSort; (repeat' split) <;> omega
  · rfl

set_option maxRecDepth 100000 in
set_option maxHeartbeats 4000000 in
theorem c_X6_readLeaf (g : jz_G) (s : jz_St) (k : Nat) (hk : jz_t k = .inl 5) (hT : jTk s) (hC : jCt s k) : jz_C g mX6_readLeaf [jr (2), jr (k)] s (jq_ve (f_X6_readLeaf s k)) := by
  refine zz_C_of koX6_readLeaf rfl (Nat.le_of_ble_eq_true rfl) ?_
  refine zz_pad 3 ?_
  show jz_Z g mX6_readLeaf (jq_ve (f_X6_readLeaf s k)) 0 [some (jr (2)), some (jr (k)), none, none, none] [] s
  have hk6 := sq_ne2 hk
  have hC1 := hC.1
  refine jj_aload_n dX6_readLeaf_0 rfl ?_
  refine zz_getI dX6_readLeaf_1 kf_X6_47 tt2 rfl rfl ?_
  refine zz_cSi (av := [ji (s 2 4)]) (st' := []) dX6_readLeaf_4 kn_X6_50 kmX6_sortOf rfl rfl (Nat.le_of_ble_eq_true rfl) (by decide) rfl (c_X6_sortOf g s (s 2 4)) (fun hr4 ho4 => ?_)
  refine jj_istore_n (ls' := [some (jr (2)), some (jr (k)), some (ji (fSort (s 2 4))), none, none]) dX6_readLeaf_7 (by decide) rfl rfl ?_
  refine jj_aload_n dX6_readLeaf_8 rfl ?_
  refine zz_getI dX6_readLeaf_9 kf_X6_61 hk rfl rfl ?_
  refine jj_istore_n (ls' := [some (jr (2)), some (jr (k)), some (ji (fSort (s 2 4))), some (ji (s k 2)), none]) dX6_readLeaf_12 (by decide) rfl rfl ?_
  refine jj_iload_n dX6_readLeaf_13 rfl ?_
  refine jj_if_ne (tgt := 23) dX6_readLeaf_14 (by decide) (fun h14 => ?_) (fun h14 => ?_)
  · refine jj_iload_n dX6_readLeaf_23 rfl ?_
    refine jj_if_lt (tgt := 36) dX6_readLeaf_24 (by decide) (fun h24 => ?_) (fun h24 => ?_)
    · refine jj_aload_n dX6_readLeaf_36 rfl ?_
      refine jj_iconst dX6_readLeaf_37 (kk := ?_)
      refine zz_putI dX6_readLeaf_38 kw_X6_24 tt2 rfl rfl ?_
      refine zz_retve dX6_readLeaf_41 rfl (by decide) ?_
      · unfold f_X6_readLeaf; simp only; first | (rw [if_pos (by omega)]; done) | (rw [if_neg (by omega), if_pos (by omega)]; done) | (rw [if_neg (by omega), if_neg (by omega)]; done)
    · refine jj_iload_n dX6_readLeaf_27 rfl ?_
      refine jj_aload_n dX6_readLeaf_28 rfl ?_
      refine zz_getR dX6_readLeaf_29 kf_X6_64 hk rfl ?_
      refine zz_alen (z := 7) dX6_readLeaf_32 (jz_t_sqL hk) (by decide) rfl (by decide) ?_
      refine jj_icmp_lt (tgt := 42) dX6_readLeaf_33 (by decide) (fun h33 => ?_) (fun h33 => ?_)
      · refine jj_aload_n dX6_readLeaf_42 rfl ?_
        refine zz_getR dX6_readLeaf_43 kf_X6_64 hk rfl ?_
        refine jj_iload_n dX6_readLeaf_46 rfl ?_
        refine zz_leafld (k := k) (j := (s k 2).toNat) dX6_readLeaf_47 hk (by omega) (by omega) ?_
        refine jj_astore (ls' := [some (jr (2)), some (jr (k)), some (ji (fSort (s 2 4))), some (ji (s k 2)), some (jr (k + 3 + ((s k 2).toNat)))]) dX6_readLeaf_48 (by decide) rfl rfl ?_
        refine jj_aload_n dX6_readLeaf_50 rfl ?_
        refine zz_cVv (av := []) (st' := []) dX6_readLeaf_51 kn_X6_30 kmX6_advance tt2 rfl rfl rfl (Nat.le_of_ble_eq_true rfl) (by decide) rfl (c_X6_advance g s (by first | assumption | (repeat (first | assumption | refine jTk_tS ?_ | refine jTk_tN ?_ | refine jTk_adv ?_ | refine jTk_su ?_ (by omega))))) (fun ho51 => ?_)
        refine jj_aload dX6_readLeaf_54 rfl ?_
        refine jj_iload_n dX6_readLeaf_56 rfl ?_
        refine zz_putI dX6_readLeaf_57 kw_X6_68 (jz_t_leaf hk (by omega)) rfl rfl ?_
        refine jj_aload dX6_readLeaf_60 rfl ?_
        refine jj_aload_n dX6_readLeaf_62 rfl ?_
        refine jj_iconst dX6_readLeaf_63 (kk := ?_)
        refine jj_bipush dX6_readLeaf_64 (kk := ?_)
        refine zz_cVi (av := [ji (1), ji (20)]) (st' := [jr (k + 3 + ((s k 2).toNat))]) dX6_readLeaf_66 kn_X6_37 kmX6_takeNumber tt2 rfl rfl rfl (Nat.le_of_ble_eq_true rfl) (by decide) rfl (c_X6_takeNumber g (jz_su (f_X6_adv s) (k + 3 + ((s k 2).toNat)) 1 (fSort (s 2 4))) 1 20 (by first | assumption | (repeat (first | assumption | refine jTk_tS ?_ | refine jTk_tN ?_ | refine jTk_adv ?_ | refine jTk_su ?_ (by omega))))) (fun hr66 ho66 => ?_)
        refine zz_putI dX6_readLeaf_69 kw_X6_73 (jz_t_leaf hk (by omega)) rfl rfl ?_
        refine jj_aload dX6_readLeaf_72 rfl ?_
        refine jj_aload dX6_readLeaf_74 rfl ?_
        refine zz_getI dX6_readLeaf_76 kf_X6_73 (jz_t_leaf hk (by omega)) rfl rfl ?_
        refine zz_top (b := v_X6_tN (jz_su (f_X6_adv s) (k + 3 + ((s k 2).toNat)) 1 (fSort (s 2 4))) 1 20) (jz_su_s _ _ _ _) ?_
        refine zz_putI dX6_readLeaf_79 kw_X6_76 (jz_t_leaf hk (by omega)) rfl rfl ?_
        refine jj_aload_n dX6_readLeaf_82 rfl ?_
        refine jj_bipush dX6_readLeaf_83 (kk := ?_)
        refine zz_cVv (av := [ji (44)]) (st' := []) dX6_readLeaf_85 kn_X6_33 kmX6_takeSign tt2 rfl rfl rfl (Nat.le_of_ble_eq_true rfl) (by decide) rfl (c_X6_takeSign g (jz_su (jz_su (f_X6_tN (jz_su (f_X6_adv s) (k + 3 + ((s k 2).toNat)) 1 (fSort (s 2 4))) 1 20) (k + 3 + ((s k 2).toNat)) 2 (v_X6_tN (jz_su (f_X6_adv s) (k + 3 + ((s k 2).toNat)) 1 (fSort (s 2 4))) 1 20)) (k + 3 + ((s k 2).toNat)) 5 (v_X6_tN (jz_su (f_X6_adv s) (k + 3 + ((s k 2).toNat)) 1 (fSort (s 2 4))) 1 20)) 44 (by first | assumption | (repeat (first | assumption | refine jTk_tS ?_ | refine jTk_tN ?_ | refine jTk_adv ?_ | refine jTk_su ?_ (by omega))))) (fun ho85 => ?_)
        refine jj_aload dX6_readLeaf_88 rfl ?_
        refine jj_aload_n dX6_readLeaf_90 rfl ?_
        refine jj_iconst dX6_readLeaf_91 (kk := ?_)
        refine jj_bipush dX6_readLeaf_92 (kk := ?_)
        refine zz_cVi (av := [ji (0), ji (9)]) (st' := [jr (k + 3 + ((s k 2).toNat))]) dX6_readLeaf_94 kn_X6_37 kmX6_takeNumber tt2 rfl rfl rfl (Nat.le_of_ble_eq_true rfl) (by decide) rfl (c_X6_takeNumber g (f_X6_tS (jz_su (jz_su (f_X6_tN (jz_su (f_X6_adv s) (k + 3 + ((s k 2).toNat)) 1 (fSort (s 2 4))) 1 20) (k + 3 + ((s k 2).toNat)) 2 (v_X6_tN (jz_su (f_X6_adv s) (k + 3 + ((s k 2).toNat)) 1 (fSort (s 2 4))) 1 20)) (k + 3 + ((s k 2).toNat)) 5 (v_X6_tN (jz_su (f_X6_adv s) (k + 3 + ((s k 2).toNat)) 1 (fSort (s 2 4))) 1 20)) 44) 0 9 (by first | assumption | (repeat (first | assumption | refine jTk_tS ?_ | refine jTk_tN ?_ | refine jTk_adv ?_ | refine jTk_su ?_ (by omega))))) (fun hr94 ho94 => ?_)
        refine zz_putI dX6_readLeaf_97 kw_X6_79 (jz_t_leaf hk (by omega)) rfl rfl ?_
        refine jj_aload_n dX6_readLeaf_100 rfl ?_
        refine jj_bipush dX6_readLeaf_101 (kk := ?_)
        refine zz_cVv (av := [ji (44)]) (st' := []) dX6_readLeaf_103 kn_X6_33 kmX6_takeSign tt2 rfl rfl rfl (Nat.le_of_ble_eq_true rfl) (by decide) rfl (c_X6_takeSign g (jz_su (f_X6_tN (f_X6_tS (jz_su (jz_su (f_X6_tN (jz_su (f_X6_adv s) (k + 3 + ((s k 2).toNat)) 1 (fSort (s 2 4))) 1 20) (k + 3 + ((s k 2).toNat)) 2 (v_X6_tN (jz_su (f_X6_adv s) (k + 3 + ((s k 2).toNat)) 1 (fSort (s 2 4))) 1 20)) (k + 3 + ((s k 2).toNat)) 5 (v_X6_tN (jz_su (f_X6_adv s) (k + 3 + ((s k 2).toNat)) 1 (fSort (s 2 4))) 1 20)) 44) 0 9) (k + 3 + ((s k 2).toNat)) 3 (v_X6_tN (f_X6_tS (jz_su (jz_su (f_X6_tN (jz_su (f_X6_adv s) (k + 3 + ((s k 2).toNat)) 1 (fSort (s 2 4))) 1 20) (k + 3 + ((s k 2).toNat)) 2 (v_X6_tN (jz_su (f_X6_adv s) (k + 3 + ((s k 2).toNat)) 1 (fSort (s 2 4))) 1 20)) (k + 3 + ((s k 2).toNat)) 5 (v_X6_tN (jz_su (f_X6_adv s) (k + 3 + ((s k 2).toNat)) 1 (fSort (s 2 4))) 1 20)) 44) 0 9)) 44 (by first | assumption | (repeat (first | assumption | refine jTk_tS ?_ | refine jTk_tN ?_ | refine jTk_adv ?_ | refine jTk_su ?_ (by omega))))) (fun ho103 => ?_)
        refine jj_aload dX6_readLeaf_106 rfl ?_
        refine jj_aload_n dX6_readLeaf_108 rfl ?_
        refine jj_iconst dX6_readLeaf_109 (kk := ?_)
        refine jj_bipush dX6_readLeaf_110 (kk := ?_)
        refine zz_cVi (av := [ji (0), ji (9)]) (st' := [jr (k + 3 + ((s k 2).toNat))]) dX6_readLeaf_112 kn_X6_37 kmX6_takeNumber tt2 rfl rfl rfl (Nat.le_of_ble_eq_true rfl) (by decide) rfl (c_X6_takeNumber g (f_X6_tS (jz_su (f_X6_tN (f_X6_tS (jz_su (jz_su (f_X6_tN (jz_su (f_X6_adv s) (k + 3 + ((s k 2).toNat)) 1 (fSort (s 2 4))) 1 20) (k + 3 + ((s k 2).toNat)) 2 (v_X6_tN (jz_su (f_X6_adv s) (k + 3 + ((s k 2).toNat)) 1 (fSort (s 2 4))) 1 20)) (k + 3 + ((s k 2).toNat)) 5 (v_X6_tN (jz_su (f_X6_adv s) (k + 3 + ((s k 2).toNat)) 1 (fSort (s 2 4))) 1 20)) 44) 0 9) (k + 3 + ((s k 2).toNat)) 3 (v_X6_tN (f_X6_tS (jz_su (jz_su (f_X6_tN (jz_su (f_X6_adv s) (k + 3 + ((s k 2).toNat)) 1 (fSort (s 2 4))) 1 20) (k + 3 + ((s k 2).toNat)) 2 (v_X6_tN (jz_su (f_X6_adv s) (k + 3 + ((s k 2).toNat)) 1 (fSort (s 2 4))) 1 20)) (k + 3 + ((s k 2).toNat)) 5 (v_X6_tN (jz_su (f_X6_adv s) (k + 3 + ((s k 2).toNat)) 1 (fSort (s 2 4))) 1 20)) 44) 0 9)) 44) 0 9 (by first | assumption | (repeat (first | assumption | refine jTk_tS ?_ | refine jTk_tN ?_ | refine jTk_adv ?_ | refine jTk_su ?_ (by omega))))) (fun hr112 ho112 => ?_)
        refine zz_putI dX6_readLeaf_115 kw_X6_82 (jz_t_leaf hk (by omega)) rfl rfl ?_
        refine jj_aload_n dX6_readLeaf_118 rfl ?_
        refine jj_bipush dX6_readLeaf_119 (kk := ?_)
        refine zz_cVv (av := [ji (59)]) (st' := []) dX6_readLeaf_121 kn_X6_33 kmX6_takeSign tt2 rfl rfl rfl (Nat.le_of_ble_eq_true rfl) (by decide) rfl (c_X6_takeSign g (jz_su (f_X6_tN (f_X6_tS (jz_su (f_X6_tN (f_X6_tS (jz_su (jz_su (f_X6_tN (jz_su (f_X6_adv s) (k + 3 + ((s k 2).toNat)) 1 (fSort (s 2 4))) 1 20) (k + 3 + ((s k 2).toNat)) 2 (v_X6_tN (jz_su (f_X6_adv s) (k + 3 + ((s k 2).toNat)) 1 (fSort (s 2 4))) 1 20)) (k + 3 + ((s k 2).toNat)) 5 (v_X6_tN (jz_su (f_X6_adv s) (k + 3 + ((s k 2).toNat)) 1 (fSort (s 2 4))) 1 20)) 44) 0 9) (k + 3 + ((s k 2).toNat)) 3 (v_X6_tN (f_X6_tS (jz_su (jz_su (f_X6_tN (jz_su (f_X6_adv s) (k + 3 + ((s k 2).toNat)) 1 (fSort (s 2 4))) 1 20) (k + 3 + ((s k 2).toNat)) 2 (v_X6_tN (jz_su (f_X6_adv s) (k + 3 + ((s k 2).toNat)) 1 (fSort (s 2 4))) 1 20)) (k + 3 + ((s k 2).toNat)) 5 (v_X6_tN (jz_su (f_X6_adv s) (k + 3 + ((s k 2).toNat)) 1 (fSort (s 2 4))) 1 20)) 44) 0 9)) 44) 0 9) (k + 3 + ((s k 2).toNat)) 4 (v_X6_tN (f_X6_tS (jz_su (f_X6_tN (f_X6_tS (jz_su (jz_su (f_X6_tN (jz_su (f_X6_adv s) (k + 3 + ((s k 2).toNat)) 1 (fSort (s 2 4))) 1 20) (k + 3 + ((s k 2).toNat)) 2 (v_X6_tN (jz_su (f_X6_adv s) (k + 3 + ((s k 2).toNat)) 1 (fSort (s 2 4))) 1 20)) (k + 3 + ((s k 2).toNat)) 5 (v_X6_tN (jz_su (f_X6_adv s) (k + 3 + ((s k 2).toNat)) 1 (fSort (s 2 4))) 1 20)) 44) 0 9) (k + 3 + ((s k 2).toNat)) 3 (v_X6_tN (f_X6_tS (jz_su (jz_su (f_X6_tN (jz_su (f_X6_adv s) (k + 3 + ((s k 2).toNat)) 1 (fSort (s 2 4))) 1 20) (k + 3 + ((s k 2).toNat)) 2 (v_X6_tN (jz_su (f_X6_adv s) (k + 3 + ((s k 2).toNat)) 1 (fSort (s 2 4))) 1 20)) (k + 3 + ((s k 2).toNat)) 5 (v_X6_tN (jz_su (f_X6_adv s) (k + 3 + ((s k 2).toNat)) 1 (fSort (s 2 4))) 1 20)) 44) 0 9)) 44) 0 9)) 59 (by first | assumption | (repeat (first | assumption | refine jTk_tS ?_ | refine jTk_tN ?_ | refine jTk_adv ?_ | refine jTk_su ?_ (by omega))))) (fun ho121 => ?_)
        have hct : (f_X6_tS (jz_su (f_X6_tN (f_X6_tS (jz_su (f_X6_tN (f_X6_tS (jz_su (jz_su (f_X6_tN (jz_su (f_X6_adv s) (k + 3 + ((s k 2).toNat)) 1 (fSort (s 2 4))) 1 20) (k + 3 + ((s k 2).toNat)) 2 (v_X6_tN (jz_su (f_X6_adv s) (k + 3 + ((s k 2).toNat)) 1 (fSort (s 2 4))) 1 20)) (k + 3 + ((s k 2).toNat)) 5 (v_X6_tN (jz_su (f_X6_adv s) (k + 3 + ((s k 2).toNat)) 1 (fSort (s 2 4))) 1 20)) 44) 0 9) (k + 3 + ((s k 2).toNat)) 3 (v_X6_tN (f_X6_tS (jz_su (jz_su (f_X6_tN (jz_su (f_X6_adv s) (k + 3 + ((s k 2).toNat)) 1 (fSort (s 2 4))) 1 20) (k + 3 + ((s k 2).toNat)) 2 (v_X6_tN (jz_su (f_X6_adv s) (k + 3 + ((s k 2).toNat)) 1 (fSort (s 2 4))) 1 20)) (k + 3 + ((s k 2).toNat)) 5 (v_X6_tN (jz_su (f_X6_adv s) (k + 3 + ((s k 2).toNat)) 1 (fSort (s 2 4))) 1 20)) 44) 0 9)) 44) 0 9) (k + 3 + ((s k 2).toNat)) 4 (v_X6_tN (f_X6_tS (jz_su (f_X6_tN (f_X6_tS (jz_su (jz_su (f_X6_tN (jz_su (f_X6_adv s) (k + 3 + ((s k 2).toNat)) 1 (fSort (s 2 4))) 1 20) (k + 3 + ((s k 2).toNat)) 2 (v_X6_tN (jz_su (f_X6_adv s) (k + 3 + ((s k 2).toNat)) 1 (fSort (s 2 4))) 1 20)) (k + 3 + ((s k 2).toNat)) 5 (v_X6_tN (jz_su (f_X6_adv s) (k + 3 + ((s k 2).toNat)) 1 (fSort (s 2 4))) 1 20)) 44) 0 9) (k + 3 + ((s k 2).toNat)) 3 (v_X6_tN (f_X6_tS (jz_su (jz_su (f_X6_tN (jz_su (f_X6_adv s) (k + 3 + ((s k 2).toNat)) 1 (fSort (s 2 4))) 1 20) (k + 3 + ((s k 2).toNat)) 2 (v_X6_tN (jz_su (f_X6_adv s) (k + 3 + ((s k 2).toNat)) 1 (fSort (s 2 4))) 1 20)) (k + 3 + ((s k 2).toNat)) 5 (v_X6_tN (jz_su (f_X6_adv s) (k + 3 + ((s k 2).toNat)) 1 (fSort (s 2 4))) 1 20)) 44) 0 9)) 44) 0 9)) 59) k 2 = s k 2 := by rw [tS_o _ _ (by omega), jz_su_o (by omega), tN_o _ _ _ (by omega), tS_o _ _ (by omega), jz_su_o (by omega), tN_o _ _ _ (by omega), tS_o _ _ (by omega), jz_su_o (by omega), jz_su_o (by omega), tN_o _ _ _ (by omega), jz_su_o (by omega), adv_o _ (by omega)]
        refine jj_aload_n dX6_readLeaf_124 rfl ?_
        refine jj_dup dX6_readLeaf_125 (kk := ?_)
        refine zz_getI dX6_readLeaf_126 kf_X6_61 hk rfl rfl ?_
        refine jj_iconst dX6_readLeaf_129 (kk := ?_)
        refine jj_iadd dX6_readLeaf_130 (by have := hct; omega) ?_
        refine zz_putI dX6_readLeaf_131 kw_X6_61 hk rfl rfl ?_
        refine zz_retve dX6_readLeaf_134 rfl (by decide) ?_
        · unfold f_X6_readLeaf; simp only; first | (rw [if_pos (by omega)]; done) | (rw [if_neg (by omega), if_pos (by omega)]; done) | (rw [if_neg (by omega), if_neg (by omega)]; done)
      · refine jj_aload_n dX6_readLeaf_36 rfl ?_
        refine jj_iconst dX6_readLeaf_37 (kk := ?_)
        refine zz_putI dX6_readLeaf_38 kw_X6_24 tt2 rfl rfl ?_
        refine zz_retve dX6_readLeaf_41 rfl (by decide) ?_
        · unfold f_X6_readLeaf; simp only; first | (rw [if_pos (by omega)]; done) | (rw [if_neg (by omega), if_pos (by omega)]; done) | (rw [if_neg (by omega), if_neg (by omega)]; done)
  · refine jj_aload_n dX6_readLeaf_17 rfl ?_
    refine jj_iconst dX6_readLeaf_18 (kk := ?_)
    refine zz_putI dX6_readLeaf_19 kw_X6_24 tt2 rfl rfl ?_
    refine zz_retve dX6_readLeaf_22 rfl (by decide) ?_
    · unfold f_X6_readLeaf; simp only; first | (rw [if_pos (by omega)]; done) | (rw [if_neg (by omega), if_pos (by omega)]; done) | (rw [if_neg (by omega), if_neg (by omega)]; done)

set_option maxRecDepth 100000 in
set_option maxHeartbeats 4000000 in
theorem c_X6_readGoat (g : jz_G) (s : jz_St) (k : Nat) (hk : jz_t k = .inl 5) (hT : jTk s) (hC : jCt s k) : jz_C g mX6_readGoat [jr (2), jr (k)] s (jq_ve (f_X6_readGoat s k)) := by
  refine zz_C_of koX6_readGoat rfl (Nat.le_of_ble_eq_true rfl) ?_
  refine zz_pad 2 ?_
  show jz_Z g mX6_readGoat (jq_ve (f_X6_readGoat s k)) 0 [some (jr (2)), some (jr (k)), none, none] [] s
  have hk6 := sq_ne2 hk
  have hC2 := hC.2
  refine jj_aload_n dX6_readGoat_0 rfl ?_
  refine zz_getI dX6_readGoat_1 kf_X6_85 hk rfl rfl ?_
  refine jj_istore_n (ls' := [some (jr (2)), some (jr (k)), some (ji (s k 3)), none]) dX6_readGoat_4 (by decide) rfl rfl ?_
  refine jj_aload_n dX6_readGoat_5 rfl ?_
  refine zz_getI dX6_readGoat_6 kf_X6_47 tt2 rfl rfl ?_
  refine jj_bipush dX6_readGoat_9 (kk := ?_)
  refine jj_icmp_eq (tgt := 20) dX6_readGoat_11 (by decide) (fun h11 => ?_) (fun h11 => ?_)
  · refine jj_iload_n dX6_readGoat_20 rfl ?_
    refine jj_if_lt (tgt := 33) dX6_readGoat_21 (by decide) (fun h21 => ?_) (fun h21 => ?_)
    · refine jj_aload_n dX6_readGoat_33 rfl ?_
      refine jj_iconst dX6_readGoat_34 (kk := ?_)
      refine zz_putI dX6_readGoat_35 kw_X6_24 tt2 rfl rfl ?_
      refine zz_retve dX6_readGoat_38 rfl (by decide) ?_
      · unfold f_X6_readGoat; simp only; first | (rw [if_neg (by omega)]; done) | (rw [if_pos (by omega), if_pos (by omega)]; done) | (rw [if_pos (by omega), if_neg (by omega)]; done)
    · refine jj_iload_n dX6_readGoat_24 rfl ?_
      refine jj_aload_n dX6_readGoat_25 rfl ?_
      refine zz_getR dX6_readGoat_26 kf_X6_88 hk rfl ?_
      refine zz_alen (z := 4) dX6_readGoat_29 (jz_t_sqG hk) (by decide) rfl (by decide) ?_
      refine jj_icmp_lt (tgt := 39) dX6_readGoat_30 (by decide) (fun h30 => ?_) (fun h30 => ?_)
      · refine jj_aload_n dX6_readGoat_39 rfl ?_
        refine zz_getR dX6_readGoat_40 kf_X6_88 hk rfl ?_
        refine jj_iload_n dX6_readGoat_43 rfl ?_
        refine zz_goatld (k := k) (j := (s k 3).toNat) dX6_readGoat_44 hk (by omega) (by omega) ?_
        refine jj_astore_n (ls' := [some (jr (2)), some (jr (k)), some (ji (s k 3)), some (jr (k + 10 + ((s k 3).toNat)))]) dX6_readGoat_45 (by decide) rfl rfl ?_
        refine jj_aload_n dX6_readGoat_46 rfl ?_
        refine zz_cVv (av := []) (st' := []) dX6_readGoat_47 kn_X6_30 kmX6_advance tt2 rfl rfl rfl (Nat.le_of_ble_eq_true rfl) (by decide) rfl (c_X6_advance g s (by first | assumption | (repeat (first | assumption | refine jTk_tS ?_ | refine jTk_tN ?_ | refine jTk_adv ?_ | refine jTk_su ?_ (by omega))))) (fun ho47 => ?_)
        refine jj_aload_n dX6_readGoat_50 rfl ?_
        refine jj_aload_n dX6_readGoat_51 rfl ?_
        refine jj_iconst dX6_readGoat_52 (kk := ?_)
        refine jj_bipush dX6_readGoat_53 (kk := ?_)
        refine zz_cVi (av := [ji (0), ji (40)]) (st' := [jr (k + 10 + ((s k 3).toNat))]) dX6_readGoat_55 kn_X6_37 kmX6_takeNumber tt2 rfl rfl rfl (Nat.le_of_ble_eq_true rfl) (by decide) rfl (c_X6_takeNumber g (f_X6_adv s) 0 40 (by first | assumption | (repeat (first | assumption | refine jTk_tS ?_ | refine jTk_tN ?_ | refine jTk_adv ?_ | refine jTk_su ?_ (by omega))))) (fun hr55 ho55 => ?_)
        refine zz_putI dX6_readGoat_58 kw_X6_92 (jz_t_goat hk (by omega)) rfl rfl ?_
        refine jj_aload_n dX6_readGoat_61 rfl ?_
        refine jj_bipush dX6_readGoat_62 (kk := ?_)
        refine zz_cVv (av := [ji (44)]) (st' := []) dX6_readGoat_64 kn_X6_33 kmX6_takeSign tt2 rfl rfl rfl (Nat.le_of_ble_eq_true rfl) (by decide) rfl (c_X6_takeSign g (jz_su (f_X6_tN (f_X6_adv s) 0 40) (k + 10 + ((s k 3).toNat)) 1 (v_X6_tN (f_X6_adv s) 0 40)) 44 (by first | assumption | (repeat (first | assumption | refine jTk_tS ?_ | refine jTk_tN ?_ | refine jTk_adv ?_ | refine jTk_su ?_ (by omega))))) (fun ho64 => ?_)
        refine jj_aload_n dX6_readGoat_67 rfl ?_
        refine jj_aload_n dX6_readGoat_68 rfl ?_
        refine jj_iconst dX6_readGoat_69 (kk := ?_)
        refine jj_bipush dX6_readGoat_70 (kk := ?_)
        refine zz_cVi (av := [ji (0), ji (9)]) (st' := [jr (k + 10 + ((s k 3).toNat))]) dX6_readGoat_72 kn_X6_37 kmX6_takeNumber tt2 rfl rfl rfl (Nat.le_of_ble_eq_true rfl) (by decide) rfl (c_X6_takeNumber g (f_X6_tS (jz_su (f_X6_tN (f_X6_adv s) 0 40) (k + 10 + ((s k 3).toNat)) 1 (v_X6_tN (f_X6_adv s) 0 40)) 44) 0 9 (by first | assumption | (repeat (first | assumption | refine jTk_tS ?_ | refine jTk_tN ?_ | refine jTk_adv ?_ | refine jTk_su ?_ (by omega))))) (fun hr72 ho72 => ?_)
        refine zz_putI dX6_readGoat_75 kw_X6_97 (jz_t_goat hk (by omega)) rfl rfl ?_
        refine jj_aload_n dX6_readGoat_78 rfl ?_
        refine jj_bipush dX6_readGoat_79 (kk := ?_)
        refine zz_cVv (av := [ji (59)]) (st' := []) dX6_readGoat_81 kn_X6_33 kmX6_takeSign tt2 rfl rfl rfl (Nat.le_of_ble_eq_true rfl) (by decide) rfl (c_X6_takeSign g (jz_su (f_X6_tN (f_X6_tS (jz_su (f_X6_tN (f_X6_adv s) 0 40) (k + 10 + ((s k 3).toNat)) 1 (v_X6_tN (f_X6_adv s) 0 40)) 44) 0 9) (k + 10 + ((s k 3).toNat)) 2 (v_X6_tN (f_X6_tS (jz_su (f_X6_tN (f_X6_adv s) 0 40) (k + 10 + ((s k 3).toNat)) 1 (v_X6_tN (f_X6_adv s) 0 40)) 44) 0 9)) 59 (by first | assumption | (repeat (first | assumption | refine jTk_tS ?_ | refine jTk_tN ?_ | refine jTk_adv ?_ | refine jTk_su ?_ (by omega))))) (fun ho81 => ?_)
        have hct : (f_X6_tS (jz_su (f_X6_tN (f_X6_tS (jz_su (f_X6_tN (f_X6_adv s) 0 40) (k + 10 + ((s k 3).toNat)) 1 (v_X6_tN (f_X6_adv s) 0 40)) 44) 0 9) (k + 10 + ((s k 3).toNat)) 2 (v_X6_tN (f_X6_tS (jz_su (f_X6_tN (f_X6_adv s) 0 40) (k + 10 + ((s k 3).toNat)) 1 (v_X6_tN (f_X6_adv s) 0 40)) 44) 0 9)) 59) k 3 = s k 3 := by rw [tS_o _ _ (by omega), jz_su_o (by omega), tN_o _ _ _ (by omega), tS_o _ _ (by omega), jz_su_o (by omega), tN_o _ _ _ (by omega), adv_o _ (by omega)]
        refine jj_aload_n dX6_readGoat_84 rfl ?_
        refine jj_dup dX6_readGoat_85 (kk := ?_)
        refine zz_getI dX6_readGoat_86 kf_X6_85 hk rfl rfl ?_
        refine jj_iconst dX6_readGoat_89 (kk := ?_)
        refine jj_iadd dX6_readGoat_90 (by have := hct; omega) ?_
        refine zz_putI dX6_readGoat_91 kw_X6_85 hk rfl rfl ?_
        refine zz_retve dX6_readGoat_94 rfl (by decide) ?_
        · unfold f_X6_readGoat; simp only; first | (rw [if_neg (by omega)]; done) | (rw [if_pos (by omega), if_pos (by omega)]; done) | (rw [if_pos (by omega), if_neg (by omega)]; done)
      · refine jj_aload_n dX6_readGoat_33 rfl ?_
        refine jj_iconst dX6_readGoat_34 (kk := ?_)
        refine zz_putI dX6_readGoat_35 kw_X6_24 tt2 rfl rfl ?_
        refine zz_retve dX6_readGoat_38 rfl (by decide) ?_
        · unfold f_X6_readGoat; simp only; first | (rw [if_neg (by omega)]; done) | (rw [if_pos (by omega), if_pos (by omega)]; done) | (rw [if_pos (by omega), if_neg (by omega)]; done)
  · refine jj_aload_n dX6_readGoat_14 rfl ?_
    refine jj_iconst dX6_readGoat_15 (kk := ?_)
    refine zz_putI dX6_readGoat_16 kw_X6_24 tt2 rfl rfl ?_
    refine zz_retve dX6_readGoat_19 rfl (by decide) ?_
    · unfold f_X6_readGoat; simp only; first | (rw [if_neg (by omega)]; done) | (rw [if_pos (by omega), if_pos (by omega)]; done) | (rw [if_pos (by omega), if_neg (by omega)]; done)

theorem rH_t0 {s : jz_St} {k : Nat} (hk : 6 ≤ k) (h : jTk s) : jTk (jz_su (jz_su (f_X5_clear s k) 2 6 0) 2 3 0) := by
  unfold jTk at h ⊢
  rw [jz_su_s, jz_su_f (by decide), jz_su_f (by decide), clear_o _ _ (by omega)]
  omega
theorem rH_tk {s : jz_St} {k : Nat} (hk : 6 ≤ k) (h : jTk s) : jTk (f_X6_rH s k) := by
  have h0 := rH_t0 hk h
  unfold f_X6_rH
  (try simp only)
  exact jTk_tS (jTk_su (jTk_tN (jTk_tS (jTk_su (jTk_tN (jTk_tS (jTk_adv h0))) (by omega)))) (by omega))
theorem rH_k {s : jz_St} {k : Nat} (hk : 6 ≤ k) {i : Nat} (h4 : i ≠ 4) (h5 : i ≠ 5) : f_X6_rH s k k i = f_X5_clear s k k i := by
  unfold f_X6_rH
  (try simp only)
  rw [tS_o _ _ (by omega), jz_su_f h5, tN_o _ _ _ (by omega), tS_o _ _ (by omega), jz_su_f h4, tN_o _ _ _ (by omega), tS_o _ _ (by omega), adv_o _ (by omega), jz_su_o (by omega), jz_su_o (by omega)]
theorem rH_ct {s : jz_St} {k : Nat} (hk : 6 ≤ k) : jCt (f_X6_rH s k) k := by
  unfold jCt
  rw [rH_k hk (by decide) (by decide), rH_k hk (by decide) (by decide), clear_k]
  simp [jz_su]
set_option maxRecDepth 100000 in
set_option maxHeartbeats 4000000 in
theorem c_X6_readInto (g : jz_G) (s : jz_St) (k : Nat) (hk : jz_t k = .inl 5) (hT : jTk s) : jz_C g mX6_readInto [jr (2), jr (k)] s (jq_ie (if f_X6_readInto s k 2 6 = 0 then 1 else 0) (f_X6_readInto s k)) := by
  refine zz_C_of koX6_readInto rfl (Nat.le_of_ble_eq_true rfl) ?_
  refine zz_pad 1 ?_
  show jz_Z g mX6_readInto (jq_ie (if f_X6_readInto s k 2 6 = 0 then 1 else 0) (f_X6_readInto s k)) 0 [some (jr (2)), some (jr (k)), none] [] s
  have hk6 := sq_ne2 hk
  have hT0 := rH_t0 hk6 hT
  refine jj_aload_n dX6_readInto_0 rfl ?_
  refine zz_cVv (av := []) (st' := []) dX6_readInto_1 kn_X6_19 kmX5_clear hk rfl rfl rfl (Nat.le_of_ble_eq_true rfl) (by decide) rfl (c_X5_clear g s k hk) (fun ho1 => ?_)
  refine jj_aload_n dX6_readInto_4 rfl ?_
  refine jj_iconst dX6_readInto_5 (kk := ?_)
  refine zz_putI dX6_readInto_6 kw_X6_24 tt2 rfl rfl ?_
  refine jj_aload_n dX6_readInto_9 rfl ?_
  refine jj_iconst dX6_readInto_10 (kk := ?_)
  refine zz_putI dX6_readInto_11 kw_X6_27 tt2 rfl rfl ?_
  refine jj_aload_n dX6_readInto_14 rfl ?_
  refine zz_cVv (av := []) (st' := []) dX6_readInto_15 kn_X6_30 kmX6_advance tt2 rfl rfl rfl (Nat.le_of_ble_eq_true rfl) (by decide) rfl (c_X6_advance g (jz_su (jz_su (f_X5_clear s k) 2 6 (0)) 2 3 (0)) (by first | assumption | (repeat (first | assumption | refine jTk_tS ?_ | refine jTk_tN ?_ | refine jTk_adv ?_ | refine jTk_su ?_ (by omega))))) (fun ho15 => ?_)
  refine jj_aload_n dX6_readInto_18 rfl ?_
  refine jj_bipush dX6_readInto_19 (kk := ?_)
  refine zz_cVv (av := [ji (118)]) (st' := []) dX6_readInto_21 kn_X6_33 kmX6_takeSign tt2 rfl rfl rfl (Nat.le_of_ble_eq_true rfl) (by decide) rfl (c_X6_takeSign g (f_X6_adv (jz_su (jz_su (f_X5_clear s k) 2 6 (0)) 2 3 (0))) 118 (by first | assumption | (repeat (first | assumption | refine jTk_tS ?_ | refine jTk_tN ?_ | refine jTk_adv ?_ | refine jTk_su ?_ (by omega))))) (fun ho21 => ?_)
  refine jj_aload_n dX6_readInto_24 rfl ?_
  refine jj_aload_n dX6_readInto_25 rfl ?_
  refine jj_iconst dX6_readInto_26 (kk := ?_)
  refine jj_bipush dX6_readInto_27 (kk := ?_)
  refine zz_cVi (av := [ji (0), ji (9)]) (st' := [jr (k)]) dX6_readInto_29 kn_X6_37 kmX6_takeNumber tt2 rfl rfl rfl (Nat.le_of_ble_eq_true rfl) (by decide) rfl (c_X6_takeNumber g (f_X6_tS (f_X6_adv (jz_su (jz_su (f_X5_clear s k) 2 6 (0)) 2 3 (0))) 118) 0 9 (by first | assumption | (repeat (first | assumption | refine jTk_tS ?_ | refine jTk_tN ?_ | refine jTk_adv ?_ | refine jTk_su ?_ (by omega))))) (fun hr29 ho29 => ?_)
  refine zz_putI dX6_readInto_32 kw_X6_41 hk rfl rfl ?_
  refine jj_aload_n dX6_readInto_35 rfl ?_
  refine jj_bipush dX6_readInto_36 (kk := ?_)
  refine zz_cVv (av := [ji (44)]) (st' := []) dX6_readInto_38 kn_X6_33 kmX6_takeSign tt2 rfl rfl rfl (Nat.le_of_ble_eq_true rfl) (by decide) rfl (c_X6_takeSign g (jz_su (f_X6_tN (f_X6_tS (f_X6_adv (jz_su (jz_su (f_X5_clear s k) 2 6 (0)) 2 3 (0))) 118) 0 9) k 4 (v_X6_tN (f_X6_tS (f_X6_adv (jz_su (jz_su (f_X5_clear s k) 2 6 (0)) 2 3 (0))) 118) 0 9)) 44 (by first | assumption | (repeat (first | assumption | refine jTk_tS ?_ | refine jTk_tN ?_ | refine jTk_adv ?_ | refine jTk_su ?_ (by omega))))) (fun ho38 => ?_)
  refine jj_aload_n dX6_readInto_41 rfl ?_
  refine jj_aload_n dX6_readInto_42 rfl ?_
  refine jj_iconst dX6_readInto_43 (kk := ?_)
  refine jj_bipush dX6_readInto_44 (kk := ?_)
  refine zz_cVi (av := [ji (1), ji (9)]) (st' := [jr (k)]) dX6_readInto_46 kn_X6_37 kmX6_takeNumber tt2 rfl rfl rfl (Nat.le_of_ble_eq_true rfl) (by decide) rfl (c_X6_takeNumber g (f_X6_tS (jz_su (f_X6_tN (f_X6_tS (f_X6_adv (jz_su (jz_su (f_X5_clear s k) 2 6 (0)) 2 3 (0))) 118) 0 9) k 4 (v_X6_tN (f_X6_tS (f_X6_adv (jz_su (jz_su (f_X5_clear s k) 2 6 (0)) 2 3 (0))) 118) 0 9)) 44) 1 9 (by first | assumption | (repeat (first | assumption | refine jTk_tS ?_ | refine jTk_tN ?_ | refine jTk_adv ?_ | refine jTk_su ?_ (by omega))))) (fun hr46 ho46 => ?_)
  refine zz_putI dX6_readInto_49 kw_X6_44 hk rfl rfl ?_
  refine jj_aload_n dX6_readInto_52 rfl ?_
  refine jj_bipush dX6_readInto_53 (kk := ?_)
  refine zz_cVv (av := [ji (59)]) (st' := []) dX6_readInto_55 kn_X6_33 kmX6_takeSign tt2 rfl rfl rfl (Nat.le_of_ble_eq_true rfl) (by decide) rfl (c_X6_takeSign g (jz_su (f_X6_tN (f_X6_tS (jz_su (f_X6_tN (f_X6_tS (f_X6_adv (jz_su (jz_su (f_X5_clear s k) 2 6 (0)) 2 3 (0))) 118) 0 9) k 4 (v_X6_tN (f_X6_tS (f_X6_adv (jz_su (jz_su (f_X5_clear s k) 2 6 (0)) 2 3 (0))) 118) 0 9)) 44) 1 9) k 5 (v_X6_tN (f_X6_tS (jz_su (f_X6_tN (f_X6_tS (f_X6_adv (jz_su (jz_su (f_X5_clear s k) 2 6 (0)) 2 3 (0))) 118) 0 9) k 4 (v_X6_tN (f_X6_tS (f_X6_adv (jz_su (jz_su (f_X5_clear s k) 2 6 (0)) 2 3 (0))) 118) 0 9)) 44) 1 9)) 59 (by first | assumption | (repeat (first | assumption | refine jTk_tS ?_ | refine jTk_tN ?_ | refine jTk_adv ?_ | refine jTk_su ?_ (by omega))))) (fun ho55 => ?_)
  have L98 : ∀ (s1 : jz_St) (hh98_0 : s1 = f_X6_rL (f_X6_rH s k) k 0 8) (hh98_1 : jTk s1) (hh98_2 : jCt s1 k), jz_Z g mX6_readInto (jq_ie (if f_X6_readInto s k 2 6 = 0 then 1 else 0) (f_X6_readInto s k)) 98 [some (jr (2)), some (jr (k)), none] [] s1 := by
    intro s1 hh98_0 hh98_1 hh98_2
    have L135 : ∀ (s3 : jz_St) (hh135_0 : s3 = f_X6_rG s1 k 0 5), jz_Z g mX6_readInto (jq_ie (if f_X6_readInto s k 2 6 = 0 then 1 else 0) (f_X6_readInto s k)) 135 [some (jr (2)), some (jr (k)), none] [] s3 := by
      intro s3 hh135_0
      refine jj_aload_n dX6_readInto_135 rfl ?_
      refine zz_getI dX6_readInto_136 kf_X6_24 tt2 rfl rfl ?_
      refine jj_if_ne (tgt := 146) dX6_readInto_139 (by decide) (fun h139 => ?_) (fun h139 => ?_)
      · refine jj_iconst dX6_readInto_146 (kk := ?_)
        refine zz_retze dX6_readInto_147 rfl (by first | exact Or.inl rfl | exact Or.inr rfl) (by decide) ?_ ?_
        · rw [show f_X6_readInto s k = s3 by unfold f_X6_readInto; rw [← hh98_0, ← hh135_0]]; first | (rw [if_pos (by omega)]; done) | (rw [if_neg (by omega)]; done)
        · unfold f_X6_readInto; rw [← hh98_0, ← hh135_0]
      · refine jj_iconst dX6_readInto_142 (kk := ?_)
        refine jj_goto (tgt := 147) dX6_readInto_143 (by decide) ?_
        refine zz_retze dX6_readInto_147 rfl (by first | exact Or.inl rfl | exact Or.inr rfl) (by decide) ?_ ?_
        · rw [show f_X6_readInto s k = s3 by unfold f_X6_readInto; rw [← hh98_0, ← hh135_0]]; first | (rw [if_pos (by omega)]; done) | (rw [if_neg (by omega)]; done)
        · unfold f_X6_readInto; rw [← hh98_0, ← hh135_0]
    refine jj_iconst dX6_readInto_98 (kk := ?_)
    refine jj_istore_n (ls' := [some (jr (2)), some (jr (k)), some (ji (0))]) dX6_readInto_99 (by decide) rfl rfl ?_
    have L100 : ∀ (nn : Nat) (i : Nat) (s2 : jz_St) (hh100_0 : i ≤ 5) (hh100_1 : f_X6_rG s1 k 0 5 = f_X6_rG s2 k i (5 - i)) (hh100_2 : jTk s2) (hh100_3 : jCt s2 k), 5 - i < nn → jz_Z g mX6_readInto (jq_ie (if f_X6_readInto s k 2 6 = 0 then 1 else 0) (f_X6_readInto s k)) 100 [some (jr (2)), some (jr (k)), some (ji ((i : Int)))] [] s2 := by
      intro nn
      induction nn with
      | zero => intro i s2 hh100_0 hh100_1 hh100_2 hh100_3 hmz; exact absurd hmz (Nat.not_lt_zero _)
      | succ nn ih100 =>
        intro i s2 hh100_0 hh100_1 hh100_2 hh100_3 hm100
        refine jj_iload_n dX6_readInto_100 rfl ?_
        refine jj_iconst dX6_readInto_101 (kk := ?_)
        refine jj_icmp_gt (tgt := 135) dX6_readInto_102 (by decide) (fun h102 => ?_) (fun h102 => ?_)
        · refine jj_fgt (i := 2) (ls' := [some (jr (2)), some (jr (k)), none]) rfl ?_
          exact L135 s2 (by rw [hh100_1]; first | (rw [show 5 - i = 0 by omega]; rfl) | (rw [show 5 - i = (5 - (i + 1)) + 1 by omega]; simp only [f_X6_rG]; rw [if_neg (by omega)]))
        · refine jj_aload_n dX6_readInto_105 rfl ?_
          refine zz_getI dX6_readInto_106 kf_X6_24 tt2 rfl rfl ?_
          refine jj_if_ne (tgt := 135) dX6_readInto_109 (by decide) (fun h109 => ?_) (fun h109 => ?_)
          · refine jj_fgt (i := 2) (ls' := [some (jr (2)), some (jr (k)), none]) rfl ?_
            exact L135 s2 (by rw [hh100_1]; first | (rw [show 5 - i = 0 by omega]; rfl) | (rw [show 5 - i = (5 - (i + 1)) + 1 by omega]; simp only [f_X6_rG]; rw [if_neg (by omega)]))
          · refine jj_iload_n dX6_readInto_112 rfl ?_
            refine jj_if_eq (tgt := 124) dX6_readInto_113 (by decide) (fun h113 => ?_) (fun h113 => ?_)
            · refine jj_aload_n dX6_readInto_124 rfl ?_
              refine jj_aload_n dX6_readInto_125 rfl ?_
              refine zz_cVv (av := [jr (k)]) (st' := []) dX6_readInto_126 kn_X6_58 kmX6_readGoat tt2 rfl rfl rfl (Nat.le_of_ble_eq_true rfl) (by decide) rfl (c_X6_readGoat g s2 k hk hh100_2 hh100_3) (fun ho126 => ?_)
              refine jj_iinc (ls' := [some (jr (2)), some (jr (k)), some (ji ((i : Int) + 1))]) dX6_readInto_129 rfl (by decide) rfl (by omega) rfl ?_
              refine jj_goto (tgt := 100) dX6_readInto_132 (by decide) ?_
              exact ih100 (i + 1) (f_X6_readGoat s2 k) (by omega) (by rw [hh100_1, show 5 - i = (5 - (i + 1)) + 1 by omega]; simp only [f_X6_rG]; rw [if_pos ⟨h109, by omega⟩]) (by exact readGoat_tk hk6 hh100_2) (by exact readGoat_ct hk6 hh100_3) (by omega)
            · refine jj_aload_n dX6_readInto_116 rfl ?_
              refine zz_getI dX6_readInto_117 kf_X6_47 tt2 rfl rfl ?_
              refine jj_iconst dX6_readInto_120 (kk := ?_)
              refine jj_icmp_eq (tgt := 135) dX6_readInto_121 (by decide) (fun h121 => ?_) (fun h121 => ?_)
              · refine jj_fgt (i := 2) (ls' := [some (jr (2)), some (jr (k)), none]) rfl ?_
                exact L135 s2 (by rw [hh100_1]; first | (rw [show 5 - i = 0 by omega]; rfl) | (rw [show 5 - i = (5 - (i + 1)) + 1 by omega]; simp only [f_X6_rG]; rw [if_neg (by omega)]))
              · refine jj_aload_n dX6_readInto_124 rfl ?_
                refine jj_aload_n dX6_readInto_125 rfl ?_
                refine zz_cVv (av := [jr (k)]) (st' := []) dX6_readInto_126 kn_X6_58 kmX6_readGoat tt2 rfl rfl rfl (Nat.le_of_ble_eq_true rfl) (by decide) rfl (c_X6_readGoat g s2 k hk hh100_2 hh100_3) (fun ho126 => ?_)
                refine jj_iinc (ls' := [some (jr (2)), some (jr (k)), some (ji ((i : Int) + 1))]) dX6_readInto_129 rfl (by decide) rfl (by omega) rfl ?_
                refine jj_goto (tgt := 100) dX6_readInto_132 (by decide) ?_
                exact ih100 (i + 1) (f_X6_readGoat s2 k) (by omega) (by rw [hh100_1, show 5 - i = (5 - (i + 1)) + 1 by omega]; simp only [f_X6_rG]; rw [if_pos ⟨h109, by omega⟩]) (by exact readGoat_tk hk6 hh100_2) (by exact readGoat_ct hk6 hh100_3) (by omega)
    exact L100 _ 0 s1 (by omega) (by rfl) (by exact hh98_1) (by exact hh98_2) (Nat.lt_succ_self _)
  refine zz_st (s1 := f_X6_rH s k) rfl ?_
  have hT1 : jTk (f_X6_rH s k) := rH_tk hk6 hT
  have hC1 : jCt (f_X6_rH s k) k := rH_ct hk6
  refine jj_iconst dX6_readInto_58 (kk := ?_)
  refine jj_istore_n (ls' := [some (jr (2)), some (jr (k)), some (ji (0))]) dX6_readInto_59 (by decide) rfl rfl ?_
  have L60 : ∀ (nn : Nat) (i : Nat) (s' : jz_St) (hh60_0 : i ≤ 8) (hh60_1 : f_X6_rL (f_X6_rH s k) k 0 8 = f_X6_rL s' k i (8 - i)) (hh60_2 : jTk s') (hh60_3 : jCt s' k), 8 - i < nn → jz_Z g mX6_readInto (jq_ie (if f_X6_readInto s k 2 6 = 0 then 1 else 0) (f_X6_readInto s k)) 60 [some (jr (2)), some (jr (k)), some (ji ((i : Int)))] [] s' := by
    intro nn
    induction nn with
    | zero => intro i s' hh60_0 hh60_1 hh60_2 hh60_3 hmz; exact absurd hmz (Nat.not_lt_zero _)
    | succ nn ih60 =>
      intro i s' hh60_0 hh60_1 hh60_2 hh60_3 hm60
      refine jj_iload_n dX6_readInto_60 rfl ?_
      refine jj_bipush dX6_readInto_61 (kk := ?_)
      refine jj_icmp_gt (tgt := 98) dX6_readInto_63 (by decide) (fun h63 => ?_) (fun h63 => ?_)
      · refine jj_fgt (i := 2) (ls' := [some (jr (2)), some (jr (k)), none]) rfl ?_
        exact L98 s' (by rw [hh60_1]; first | (rw [show 8 - i = 0 by omega]; rfl) | (rw [show 8 - i = (8 - (i + 1)) + 1 by omega]; simp only [f_X6_rL]; rw [if_neg (by omega)])) (by exact hh60_2) (by exact hh60_3)
      · refine jj_aload_n dX6_readInto_66 rfl ?_
        refine zz_getI dX6_readInto_67 kf_X6_24 tt2 rfl rfl ?_
        refine jj_if_ne (tgt := 98) dX6_readInto_70 (by decide) (fun h70 => ?_) (fun h70 => ?_)
        · refine jj_fgt (i := 2) (ls' := [some (jr (2)), some (jr (k)), none]) rfl ?_
          exact L98 s' (by rw [hh60_1]; first | (rw [show 8 - i = 0 by omega]; rfl) | (rw [show 8 - i = (8 - (i + 1)) + 1 by omega]; simp only [f_X6_rL]; rw [if_neg (by omega)])) (by exact hh60_2) (by exact hh60_3)
        · refine jj_iload_n dX6_readInto_73 rfl ?_
          refine jj_if_eq (tgt := 87) dX6_readInto_74 (by decide) (fun h74 => ?_) (fun h74 => ?_)
          · refine jj_aload_n dX6_readInto_87 rfl ?_
            refine jj_aload_n dX6_readInto_88 rfl ?_
            refine zz_cVv (av := [jr (k)]) (st' := []) dX6_readInto_89 kn_X6_54 kmX6_readLeaf tt2 rfl rfl rfl (Nat.le_of_ble_eq_true rfl) (by decide) rfl (c_X6_readLeaf g s' k hk hh60_2 hh60_3) (fun ho89 => ?_)
            refine jj_iinc (ls' := [some (jr (2)), some (jr (k)), some (ji ((i : Int) + 1))]) dX6_readInto_92 rfl (by decide) rfl (by omega) rfl ?_
            refine jj_goto (tgt := 60) dX6_readInto_95 (by decide) ?_
            exact ih60 (i + 1) (f_X6_readLeaf s' k) (by omega) (by rw [hh60_1, show 8 - i = (8 - (i + 1)) + 1 by omega]; simp only [f_X6_rL]; rw [if_pos ⟨h70, by omega⟩]) (by exact readLeaf_tk hk6 hh60_2) (by exact readLeaf_ct hk6 hh60_3) (by omega)
          · refine jj_aload_n dX6_readInto_77 rfl ?_
            refine zz_getI dX6_readInto_78 kf_X6_47 tt2 rfl rfl ?_
            refine zz_cSi (av := [ji (s' 2 4)]) (st' := []) dX6_readInto_81 kn_X6_50 kmX6_sortOf rfl rfl (Nat.le_of_ble_eq_true rfl) (by decide) rfl (c_X6_sortOf g s' (s' 2 4)) (fun hr81 ho81 => ?_)
            refine jj_if_eq (tgt := 98) dX6_readInto_84 (by decide) (fun h84 => ?_) (fun h84 => ?_)
            · refine jj_fgt (i := 2) (ls' := [some (jr (2)), some (jr (k)), none]) rfl ?_
              exact L98 s' (by rw [hh60_1]; first | (rw [show 8 - i = 0 by omega]; rfl) | (rw [show 8 - i = (8 - (i + 1)) + 1 by omega]; simp only [f_X6_rL]; rw [if_neg (by omega)])) (by exact hh60_2) (by exact hh60_3)
            · refine jj_aload_n dX6_readInto_87 rfl ?_
              refine jj_aload_n dX6_readInto_88 rfl ?_
              refine zz_cVv (av := [jr (k)]) (st' := []) dX6_readInto_89 kn_X6_54 kmX6_readLeaf tt2 rfl rfl rfl (Nat.le_of_ble_eq_true rfl) (by decide) rfl (c_X6_readLeaf g s' k hk hh60_2 hh60_3) (fun ho89 => ?_)
              refine jj_iinc (ls' := [some (jr (2)), some (jr (k)), some (ji ((i : Int) + 1))]) dX6_readInto_92 rfl (by decide) rfl (by omega) rfl ?_
              refine jj_goto (tgt := 60) dX6_readInto_95 (by decide) ?_
              exact ih60 (i + 1) (f_X6_readLeaf s' k) (by omega) (by rw [hh60_1, show 8 - i = (8 - (i + 1)) + 1 by omega]; simp only [f_X6_rL]; rw [if_pos ⟨h70, by omega⟩]) (by exact readLeaf_tk hk6 hh60_2) (by exact readLeaf_ct hk6 hh60_3) (by omega)
  exact L60 _ 0 (f_X6_rH s k) (by omega) (by rfl) (by exact hT1) (by exact hC1) (Nat.lt_succ_self _)

