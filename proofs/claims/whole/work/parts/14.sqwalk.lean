set_option maxRecDepth 100000 in
set_option maxHeartbeats 4000000 in
theorem c_X5_take (g : jz_G) (s : jz_St) (k k2 : Nat) (hk : jz_t k = .inl 5) (hk2 : jz_t k2 = .inl 5) : jz_C g mX5_take [jr (k), jr (k2)] s (jq_ve (f_X5_take s k k2)) := by
  refine zz_C_of koX5_take rfl (Nat.le_of_ble_eq_true rfl) ?_
  refine zz_pad 1 ?_
  show jz_Z g mX5_take (jq_ve (f_X5_take s k k2)) 0 [some (jr (k)), some (jr (k2)), none] [] s
  have L88 : ∀ (nn : Nat) (j : Nat) (hh88_0 : j ≤ 4), 4 - j < nn → jz_Z g mX5_take (jq_ve (f_X5_take s k k2)) 88 [some (jr (k)), some (jr (k2)), some (ji ((j : Int)))] [] (f_X5_tkG (f_X5_tkL (f_X5_hdr s k k2) k k2 7) k k2 j) := by
    intro nn
    induction nn with
    | zero => intro j hh88_0 hmz; exact absurd hmz (Nat.not_lt_zero _)
    | succ nn ih88 =>
      intro j hh88_0 hm88
      refine jj_iload_n dX5_take_88 rfl ?_
      refine jj_aload_n dX5_take_89 rfl ?_
      refine zz_getR dX5_take_90 kf_X5_19 hk rfl ?_
      refine zz_alen (z := 4) dX5_take_93 (jz_t_sqG hk) (by decide) rfl (by decide) ?_
      refine jj_icmp_ge (tgt := 127) dX5_take_94 (by decide) (fun h94 => ?_) (fun h94 => ?_)
      · refine zz_retve dX5_take_127 rfl (by decide) ?_
        · (obtain rfl : j = 4 := (by omega)); rfl
      · refine jj_iload_n dX5_take_97 rfl ?_
        refine jj_aload_n dX5_take_98 rfl ?_
        refine zz_getR dX5_take_99 kf_X5_19 hk2 rfl ?_
        refine zz_alen (z := 4) dX5_take_102 (jz_t_sqG hk2) (by decide) rfl (by decide) ?_
        refine jj_icmp_ge (tgt := 127) dX5_take_103 (by decide) (fun h103 => ?_) (fun h103 => ?_)
        · refine zz_retve dX5_take_127 rfl (by decide) ?_
          · (obtain rfl : j = 4 := (by omega)); rfl
        · refine jj_aload_n dX5_take_106 rfl ?_
          refine zz_getR dX5_take_107 kf_X5_19 hk rfl ?_
          refine jj_iload_n dX5_take_110 rfl ?_
          refine zz_goatld (k := k) (j := j) dX5_take_111 hk (by omega) (by omega) ?_
          refine jj_aload_n dX5_take_112 rfl ?_
          refine zz_getR dX5_take_113 kf_X5_19 hk2 rfl ?_
          refine jj_iload_n dX5_take_116 rfl ?_
          refine zz_goatld (k := k2) (j := j) dX5_take_117 hk2 (by omega) (by omega) ?_
          refine zz_cVv (av := [jr (k2 + 10 + j)]) (st' := []) dX5_take_118 kn_X5_50 kmX0_take (jz_t_goat hk (by omega)) rfl rfl rfl (Nat.le_of_ble_eq_true rfl) (by decide) rfl (c_X0_take g (f_X5_tkG (f_X5_tkL (f_X5_hdr s k k2) k k2 7) k k2 j) (k + 10 + j) (k2 + 10 + j) (jz_t_goat hk (by omega)) (jz_t_goat hk2 (by omega))) (fun ho118 => ?_)
          refine jj_iinc (ls' := [some (jr (k)), some (jr (k2)), some (ji ((j : Int) + 1))]) dX5_take_121 rfl (by decide) rfl (by omega) rfl ?_
          refine jj_goto (tgt := 88) dX5_take_124 (by decide) ?_
          exact ih88 (j + 1) (by first | assumption | omega) (by omega)
  refine jj_aload_n dX5_take_0 rfl ?_
  refine jj_aload_n dX5_take_1 rfl ?_
  refine zz_getI dX5_take_2 kf_X5_27 hk2 rfl rfl ?_
  refine zz_putI dX5_take_5 kw_X5_27 hk rfl rfl ?_
  refine jj_aload_n dX5_take_8 rfl ?_
  refine jj_aload_n dX5_take_9 rfl ?_
  refine zz_getI dX5_take_10 kf_X5_31 hk2 rfl rfl ?_
  refine zz_top (b := s k2 3) (jz_su_f (by decide)) ?_
  refine zz_putI dX5_take_13 kw_X5_31 hk rfl rfl ?_
  refine jj_aload_n dX5_take_16 rfl ?_
  refine jj_aload_n dX5_take_17 rfl ?_
  refine zz_getI dX5_take_18 kf_X5_34 hk2 rfl rfl ?_
  refine zz_top (b := s k2 4) ((jz_su_f (by decide)).trans (jz_su_f (by decide))) ?_
  refine zz_putI dX5_take_21 kw_X5_34 hk rfl rfl ?_
  refine jj_aload_n dX5_take_24 rfl ?_
  refine jj_aload_n dX5_take_25 rfl ?_
  refine zz_getI dX5_take_26 kf_X5_37 hk2 rfl rfl ?_
  refine zz_top (b := s k2 5) (((jz_su_f (by decide)).trans (jz_su_f (by decide))).trans (jz_su_f (by decide))) ?_
  refine zz_putI dX5_take_29 kw_X5_37 hk rfl rfl ?_
  refine jj_aload_n dX5_take_32 rfl ?_
  refine jj_aload_n dX5_take_33 rfl ?_
  refine zz_getI dX5_take_34 kf_X5_40 hk2 rfl rfl ?_
  refine zz_top (b := s k2 6) ((((jz_su_f (by decide)).trans (jz_su_f (by decide))).trans (jz_su_f (by decide))).trans (jz_su_f (by decide))) ?_
  refine zz_putI dX5_take_37 kw_X5_40 hk rfl rfl ?_
  refine jj_aload_n dX5_take_40 rfl ?_
  refine jj_iconst dX5_take_41 (kk := ?_)
  refine zz_putI dX5_take_42 kw_X5_43 hk rfl rfl ?_
  refine jj_iconst dX5_take_45 (kk := ?_)
  refine jj_istore_n (ls' := [some (jr (k)), some (jr (k2)), some (ji (0))]) dX5_take_46 (by decide) rfl rfl ?_
  have L47 : ∀ (nn : Nat) (j : Nat) (hh47_0 : j ≤ 7), 7 - j < nn → jz_Z g mX5_take (jq_ve (f_X5_take s k k2)) 47 [some (jr (k)), some (jr (k2)), some (ji ((j : Int)))] [] (f_X5_tkL (f_X5_hdr s k k2) k k2 j) := by
    intro nn
    induction nn with
    | zero => intro j hh47_0 hmz; exact absurd hmz (Nat.not_lt_zero _)
    | succ nn ih47 =>
      intro j hh47_0 hm47
      refine jj_iload_n dX5_take_47 rfl ?_
      refine jj_aload_n dX5_take_48 rfl ?_
      refine zz_getR dX5_take_49 kf_X5_11 hk rfl ?_
      refine zz_alen (z := 7) dX5_take_52 (jz_t_sqL hk) (by decide) rfl (by decide) ?_
      refine jj_icmp_ge (tgt := 86) dX5_take_53 (by decide) (fun h53 => ?_) (fun h53 => ?_)
      · obtain rfl : j = 7 := (by omega)
        refine jj_iconst dX5_take_86 (kk := ?_)
        refine jj_istore_n (ls' := [some (jr (k)), some (jr (k2)), some (ji (0))]) dX5_take_87 (by decide) rfl rfl ?_
        exact L88 _ 0 (by first | assumption | omega) (Nat.lt_succ_self _)
      · refine jj_iload_n dX5_take_56 rfl ?_
        refine jj_aload_n dX5_take_57 rfl ?_
        refine zz_getR dX5_take_58 kf_X5_11 hk2 rfl ?_
        refine zz_alen (z := 7) dX5_take_61 (jz_t_sqL hk2) (by decide) rfl (by decide) ?_
        refine jj_icmp_ge (tgt := 86) dX5_take_62 (by decide) (fun h62 => ?_) (fun h62 => ?_)
        · obtain rfl : j = 7 := (by omega)
          refine jj_iconst dX5_take_86 (kk := ?_)
          refine jj_istore_n (ls' := [some (jr (k)), some (jr (k2)), some (ji (0))]) dX5_take_87 (by decide) rfl rfl ?_
          exact L88 _ 0 (by first | assumption | omega) (Nat.lt_succ_self _)
        · refine jj_aload_n dX5_take_65 rfl ?_
          refine zz_getR dX5_take_66 kf_X5_11 hk rfl ?_
          refine jj_iload_n dX5_take_69 rfl ?_
          refine zz_leafld (k := k) (j := j) dX5_take_70 hk (by omega) (by omega) ?_
          refine jj_aload_n dX5_take_71 rfl ?_
          refine zz_getR dX5_take_72 kf_X5_11 hk2 rfl ?_
          refine jj_iload_n dX5_take_75 rfl ?_
          refine zz_leafld (k := k2) (j := j) dX5_take_76 hk2 (by omega) (by omega) ?_
          refine zz_cVv (av := [jr (k2 + 3 + j)]) (st' := []) dX5_take_77 kn_X5_46 kmX1_take (jz_t_leaf hk (by omega)) rfl rfl rfl (Nat.le_of_ble_eq_true rfl) (by decide) rfl (c_X1_take g (f_X5_tkL (f_X5_hdr s k k2) k k2 j) (k + 3 + j) (k2 + 3 + j) (jz_t_leaf hk (by omega)) (jz_t_leaf hk2 (by omega))) (fun ho77 => ?_)
          refine jj_iinc (ls' := [some (jr (k)), some (jr (k2)), some (ji ((j : Int) + 1))]) dX5_take_80 rfl (by decide) rfl (by omega) rfl ?_
          refine jj_goto (tgt := 47) dX5_take_83 (by decide) ?_
          exact ih47 (j + 1) (by first | assumption | omega) (by omega)
  exact L47 _ 0 (by first | assumption | omega) (Nat.lt_succ_self _)

set_option maxRecDepth 100000 in
set_option maxHeartbeats 4000000 in
theorem c_X5_clear (g : jz_G) (s : jz_St) (k : Nat) (hk : jz_t k = .inl 5)  : jz_C g mX5_clear [jr (k)] s (jq_ve (f_X5_clear s k)) := by
  refine zz_C_of koX5_clear rfl (Nat.le_of_ble_eq_true rfl) ?_
  refine zz_pad 4 ?_
  show jz_Z g mX5_clear (jq_ve (f_X5_clear s k)) 0 [some (jr (k)), none, none, none, none] [] s
  have L57 : ∀ (nn : Nat) (j : Nat) (hh57_0 : j ≤ 4), 4 - j < nn → jz_Z g mX5_clear (jq_ve (f_X5_clear s k)) 57 [some (jr (k)), some (jr (k + 2)), some (ji (4)), some (ji ((j : Int))), none] [] (f_X5_clG (f_X5_clL (jz_su (jz_su (jz_su s k 2 0) k 3 0) k 6 0) k 7) k j) := by
    intro nn
    induction nn with
    | zero => intro j hh57_0 hmz; exact absurd hmz (Nat.not_lt_zero _)
    | succ nn ih57 =>
      intro j hh57_0 hm57
      refine jj_iload_n dX5_clear_57 rfl ?_
      refine jj_iload_n dX5_clear_58 rfl ?_
      refine jj_icmp_ge (tgt := 79) dX5_clear_59 (by decide) (fun h59 => ?_) (fun h59 => ?_)
      · refine zz_retve dX5_clear_79 rfl (by decide) ?_
        · (obtain rfl : j = 4 := (by omega)); rfl
      · refine jj_aload_n dX5_clear_62 rfl ?_
        refine jj_iload_n dX5_clear_63 rfl ?_
        refine zz_goatld (k := k) (j := j) dX5_clear_64 hk (by omega) (by omega) ?_
        refine jj_astore (ls' := [some (jr (k)), some (jr (k + 2)), some (ji (4)), some (ji ((j : Int))), some (jr (k + 10 + j))]) dX5_clear_65 (by decide) rfl rfl ?_
        refine jj_aload dX5_clear_67 rfl ?_
        refine jj_iconst dX5_clear_69 (kk := ?_)
        refine zz_putI dX5_clear_70 kw_X5_56 (jz_t_goat hk (by omega)) rfl rfl ?_
        refine jj_iinc (ls' := [some (jr (k)), some (jr (k + 2)), some (ji (4)), some (ji ((j : Int) + 1)), some (jr (k + 10 + j))]) dX5_clear_73 rfl (by decide) rfl (by omega) rfl ?_
        refine jj_goto (tgt := 57) dX5_clear_76 (by decide) ?_
        refine jj_fgt (i := 4) (ls' := [some (jr (k)), some (jr (k + 2)), some (ji (4)), some (ji ((j : Int) + 1)), none]) rfl ?_
        exact ih57 (j + 1) (by first | assumption | omega) (by omega)
  refine jj_aload_n dX5_clear_0 rfl ?_
  refine jj_iconst dX5_clear_1 (kk := ?_)
  refine zz_putI dX5_clear_2 kw_X5_27 hk rfl rfl ?_
  refine jj_aload_n dX5_clear_5 rfl ?_
  refine jj_iconst dX5_clear_6 (kk := ?_)
  refine zz_putI dX5_clear_7 kw_X5_31 hk rfl rfl ?_
  refine jj_aload_n dX5_clear_10 rfl ?_
  refine jj_iconst dX5_clear_11 (kk := ?_)
  refine zz_putI dX5_clear_12 kw_X5_40 hk rfl rfl ?_
  refine jj_aload_n dX5_clear_15 rfl ?_
  refine zz_getR dX5_clear_16 kf_X5_11 hk rfl ?_
  refine jj_astore_n (ls' := [some (jr (k)), some (jr (k + 1)), none, none, none]) dX5_clear_19 (by decide) rfl rfl ?_
  refine jj_aload_n dX5_clear_20 rfl ?_
  refine zz_alen (z := 7) dX5_clear_21 (jz_t_sqL hk) (by decide) rfl (by decide) ?_
  refine jj_istore_n (ls' := [some (jr (k)), some (jr (k + 1)), some (ji (7)), none, none]) dX5_clear_22 (by decide) rfl rfl ?_
  refine jj_iconst dX5_clear_23 (kk := ?_)
  refine jj_istore_n (ls' := [some (jr (k)), some (jr (k + 1)), some (ji (7)), some (ji (0)), none]) dX5_clear_24 (by decide) rfl rfl ?_
  have L25 : ∀ (nn : Nat) (j : Nat) (hh25_0 : j ≤ 7), 7 - j < nn → jz_Z g mX5_clear (jq_ve (f_X5_clear s k)) 25 [some (jr (k)), some (jr (k + 1)), some (ji (7)), some (ji ((j : Int))), none] [] (f_X5_clL (jz_su (jz_su (jz_su s k 2 0) k 3 0) k 6 0) k j) := by
    intro nn
    induction nn with
    | zero => intro j hh25_0 hmz; exact absurd hmz (Nat.not_lt_zero _)
    | succ nn ih25 =>
      intro j hh25_0 hm25
      refine jj_iload_n dX5_clear_25 rfl ?_
      refine jj_iload_n dX5_clear_26 rfl ?_
      refine jj_icmp_ge (tgt := 47) dX5_clear_27 (by decide) (fun h27 => ?_) (fun h27 => ?_)
      · obtain rfl : j = 7 := (by omega)
        refine jj_aload_n dX5_clear_47 rfl ?_
        refine zz_getR dX5_clear_48 kf_X5_19 hk rfl ?_
        refine jj_astore_n (ls' := [some (jr (k)), some (jr (k + 2)), some (ji (7)), some (ji ((7 : Int))), none]) dX5_clear_51 (by decide) rfl rfl ?_
        refine jj_aload_n dX5_clear_52 rfl ?_
        refine zz_alen (z := 4) dX5_clear_53 (jz_t_sqG hk) (by decide) rfl (by decide) ?_
        refine jj_istore_n (ls' := [some (jr (k)), some (jr (k + 2)), some (ji (4)), some (ji ((7 : Int))), none]) dX5_clear_54 (by decide) rfl rfl ?_
        refine jj_iconst dX5_clear_55 (kk := ?_)
        refine jj_istore_n (ls' := [some (jr (k)), some (jr (k + 2)), some (ji (4)), some (ji (0)), none]) dX5_clear_56 (by decide) rfl rfl ?_
        exact L57 _ 0 (by first | assumption | omega) (Nat.lt_succ_self _)
      · refine jj_aload_n dX5_clear_30 rfl ?_
        refine jj_iload_n dX5_clear_31 rfl ?_
        refine zz_leafld (k := k) (j := j) dX5_clear_32 hk (by omega) (by omega) ?_
        refine jj_astore (ls' := [some (jr (k)), some (jr (k + 1)), some (ji (7)), some (ji ((j : Int))), some (jr (k + 3 + j))]) dX5_clear_33 (by decide) rfl rfl ?_
        refine jj_aload dX5_clear_35 rfl ?_
        refine jj_iconst dX5_clear_37 (kk := ?_)
        refine zz_putI dX5_clear_38 kw_X5_53 (jz_t_leaf hk (by omega)) rfl rfl ?_
        refine jj_iinc (ls' := [some (jr (k)), some (jr (k + 1)), some (ji (7)), some (ji ((j : Int) + 1)), some (jr (k + 3 + j))]) dX5_clear_41 rfl (by decide) rfl (by omega) rfl ?_
        refine jj_goto (tgt := 25) dX5_clear_44 (by decide) ?_
        refine jj_fgt (i := 4) (ls' := [some (jr (k)), some (jr (k + 1)), some (ji (7)), some (ji ((j : Int) + 1)), none]) rfl ?_
        exact ih25 (j + 1) (by first | assumption | omega) (by omega)
  exact L25 _ 0 (by first | assumption | omega) (Nat.lt_succ_self _)

set_option maxRecDepth 100000 in
set_option maxHeartbeats 4000000 in
theorem c_X5_isThere (g : jz_G) (s : jz_St) (k : Nat) (hk : jz_t k = .inl 5)  : jz_C g mX5_isThere [jr (k)] s (jq_ie (if s k 2 ≤ 0 then 0 else 1) s) := by
  refine zz_C_of koX5_isThere rfl (Nat.le_of_ble_eq_true rfl) ?_
  refine zz_pad 0 ?_
  show jz_Z g mX5_isThere (jq_ie (if s k 2 ≤ 0 then 0 else 1) s) 0 [some (jr (k))] [] s
  refine jj_aload_n dX5_isThere_0 rfl ?_
  refine zz_getI dX5_isThere_1 kf_X5_27 hk rfl rfl ?_
  refine jj_if_le (tgt := 11) dX5_isThere_4 (by decide) (fun h4 => ?_) (fun h4 => ?_)
  · refine jj_iconst dX5_isThere_11 (kk := ?_)
    refine zz_retze dX5_isThere_12 rfl (by first | exact Or.inl rfl | exact Or.inr rfl) (by decide) ?_ ?_
    · first | rfl | ((repeat' split) <;> omega)
    · rfl
  · refine jj_iconst dX5_isThere_7 (kk := ?_)
    refine jj_goto (tgt := 12) dX5_isThere_8 (by decide) ?_
    refine zz_retze dX5_isThere_12 rfl (by first | exact Or.inl rfl | exact Or.inr rfl) (by decide) ?_ ?_
    · first | rfl | ((repeat' split) <;> omega)
    · rfl

set_option maxRecDepth 100000 in
set_option maxHeartbeats 4000000 in
theorem c_X5_leafAt (g : jz_G) (s : jz_St) (k : Nat) (hk : jz_t k = .inl 5) (z : Int) : jz_C g mX5_leafAt [jr (k), ji (z)] s (jq_re (fLfO s k z) s) := by
  refine zz_C_of koX5_leafAt rfl (Nat.le_of_ble_eq_true rfl) ?_
  refine zz_pad 0 ?_
  show jz_Z g mX5_leafAt (jq_re (fLfO s k z) s) 0 [some (jr (k)), some (ji (z))] [] s
  refine jj_iload_n dX5_leafAt_0 rfl ?_
  refine jj_if_lt (tgt := 30) dX5_leafAt_1 (by decide) (fun h1 => ?_) (fun h1 => ?_)
  · refine jj_null dX5_leafAt_30 ?_
    refine zz_retre (o := none) dX5_leafAt_31 rfl (by decide) ?_ ?_
    · unfold fLfO; first | (rw [if_pos (by omega)]; done) | (rw [if_neg (by omega)]; done)
    · rfl
  · refine jj_iload_n dX5_leafAt_4 rfl ?_
    refine jj_aload_n dX5_leafAt_5 rfl ?_
    refine zz_getI dX5_leafAt_6 kf_X5_27 hk rfl rfl ?_
    refine jj_icmp_ge (tgt := 30) dX5_leafAt_9 (by decide) (fun h9 => ?_) (fun h9 => ?_)
    · refine jj_null dX5_leafAt_30 ?_
      refine zz_retre (o := none) dX5_leafAt_31 rfl (by decide) ?_ ?_
      · unfold fLfO; first | (rw [if_pos (by omega)]; done) | (rw [if_neg (by omega)]; done)
      · rfl
    · refine jj_iload_n dX5_leafAt_12 rfl ?_
      refine jj_aload_n dX5_leafAt_13 rfl ?_
      refine zz_getR dX5_leafAt_14 kf_X5_11 hk rfl ?_
      refine zz_alen (z := 7) dX5_leafAt_17 (jz_t_sqL hk) (by decide) rfl (by decide) ?_
      refine jj_icmp_ge (tgt := 30) dX5_leafAt_18 (by decide) (fun h18 => ?_) (fun h18 => ?_)
      · refine jj_null dX5_leafAt_30 ?_
        refine zz_retre (o := none) dX5_leafAt_31 rfl (by decide) ?_ ?_
        · unfold fLfO; first | (rw [if_pos (by omega)]; done) | (rw [if_neg (by omega)]; done)
        · rfl
      · refine jj_aload_n dX5_leafAt_21 rfl ?_
        refine zz_getR dX5_leafAt_22 kf_X5_11 hk rfl ?_
        refine jj_iload_n dX5_leafAt_25 rfl ?_
        refine zz_leafld (k := k) (j := z.toNat) dX5_leafAt_26 hk (by omega) (by omega) ?_
        refine jj_goto (tgt := 31) dX5_leafAt_27 (by decide) ?_
        refine zz_retre (o := some (k + 3 + z.toNat)) dX5_leafAt_31 rfl (by decide) ?_ ?_
        · unfold fLfO; first | (rw [if_pos (by omega)]; done) | (rw [if_neg (by omega)]; done)
        · rfl

set_option maxRecDepth 100000 in
set_option maxHeartbeats 4000000 in
theorem c_X5_goatAt (g : jz_G) (s : jz_St) (k : Nat) (hk : jz_t k = .inl 5) (z : Int) : jz_C g mX5_goatAt [jr (k), ji (z)] s (jq_re (fGtO s k z) s) := by
  refine zz_C_of koX5_goatAt rfl (Nat.le_of_ble_eq_true rfl) ?_
  refine zz_pad 0 ?_
  show jz_Z g mX5_goatAt (jq_re (fGtO s k z) s) 0 [some (jr (k)), some (ji (z))] [] s
  refine jj_iload_n dX5_goatAt_0 rfl ?_
  refine jj_if_lt (tgt := 30) dX5_goatAt_1 (by decide) (fun h1 => ?_) (fun h1 => ?_)
  · refine jj_null dX5_goatAt_30 ?_
    refine zz_retre (o := none) dX5_goatAt_31 rfl (by decide) ?_ ?_
    · unfold fGtO; first | (rw [if_pos (by omega)]; done) | (rw [if_neg (by omega)]; done)
    · rfl
  · refine jj_iload_n dX5_goatAt_4 rfl ?_
    refine jj_aload_n dX5_goatAt_5 rfl ?_
    refine zz_getI dX5_goatAt_6 kf_X5_31 hk rfl rfl ?_
    refine jj_icmp_ge (tgt := 30) dX5_goatAt_9 (by decide) (fun h9 => ?_) (fun h9 => ?_)
    · refine jj_null dX5_goatAt_30 ?_
      refine zz_retre (o := none) dX5_goatAt_31 rfl (by decide) ?_ ?_
      · unfold fGtO; first | (rw [if_pos (by omega)]; done) | (rw [if_neg (by omega)]; done)
      · rfl
    · refine jj_iload_n dX5_goatAt_12 rfl ?_
      refine jj_aload_n dX5_goatAt_13 rfl ?_
      refine zz_getR dX5_goatAt_14 kf_X5_19 hk rfl ?_
      refine zz_alen (z := 4) dX5_goatAt_17 (jz_t_sqG hk) (by decide) rfl (by decide) ?_
      refine jj_icmp_ge (tgt := 30) dX5_goatAt_18 (by decide) (fun h18 => ?_) (fun h18 => ?_)
      · refine jj_null dX5_goatAt_30 ?_
        refine zz_retre (o := none) dX5_goatAt_31 rfl (by decide) ?_ ?_
        · unfold fGtO; first | (rw [if_pos (by omega)]; done) | (rw [if_neg (by omega)]; done)
        · rfl
      · refine jj_aload_n dX5_goatAt_21 rfl ?_
        refine zz_getR dX5_goatAt_22 kf_X5_19 hk rfl ?_
        refine jj_iload_n dX5_goatAt_25 rfl ?_
        refine zz_goatld (k := k) (j := z.toNat) dX5_goatAt_26 hk (by omega) (by omega) ?_
        refine jj_goto (tgt := 31) dX5_goatAt_27 (by decide) ?_
        refine zz_retre (o := some (k + 10 + z.toNat)) dX5_goatAt_31 rfl (by decide) ?_ ?_
        · unfold fGtO; first | (rw [if_pos (by omega)]; done) | (rw [if_neg (by omega)]; done)
        · rfl

set_option maxRecDepth 100000 in
set_option maxHeartbeats 4000000 in
theorem c_X5_leafIn (g : jz_G) (s : jz_St) (k k2 : Nat) (hk : jz_t k = .inl 5) (hk2 : jz_t k2 = .inl 5) (z : Int) : jz_C g mX5_leafIn [jr (k), jr (k2), ji (z)] s (jq_re (fLfO (f_X5_take s k k2) k z) (f_X5_take s k k2)) := by
  refine zz_C_of koX5_leafIn rfl (Nat.le_of_ble_eq_true rfl) ?_
  refine zz_pad 0 ?_
  show jz_Z g mX5_leafIn (jq_re (fLfO (f_X5_take s k k2) k z) (f_X5_take s k k2)) 0 [some (jr (k)), some (jr (k2)), some (ji (z))] [] s
  refine jj_aload_n dX5_leafIn_0 rfl ?_
  refine jj_aload_n dX5_leafIn_1 rfl ?_
  refine zz_cVv (av := [jr (k2)]) (st' := []) dX5_leafIn_2 kn_X5_59 kmX5_take hk rfl rfl rfl (Nat.le_of_ble_eq_true rfl) (by decide) rfl (c_X5_take g s k k2 hk hk2) (fun ho2 => ?_)
  refine jj_aload_n dX5_leafIn_5 rfl ?_
  refine jj_iload_n dX5_leafIn_6 rfl ?_
  refine zz_cVr (av := [ji (z)]) (st' := []) dX5_leafIn_7 kn_X5_62 kmX5_leafAt hk rfl rfl rfl (Nat.le_of_ble_eq_true rfl) (by decide) rfl (c_X5_leafAt g (f_X5_take s k k2) k hk z) (fun ho7 => ?_)
  refine zz_retre (o := fLfO (f_X5_take s k k2) k z) dX5_leafIn_10 rfl (by decide) ?_ ?_
  · rfl
  · rfl

set_option maxRecDepth 100000 in
set_option maxHeartbeats 4000000 in
theorem c_X5_hasLeaves (g : jz_G) (s : jz_St) (k : Nat) (hk : jz_t k = .inl 5) (z : Int) : jz_C g mX5_hasLeaves [jr (k), ji (z)] s (jq_ie (if 0 ≤ z ∧ z < jshl 1 (s k 2) then 1 else 0) s) := by
  refine zz_C_of koX5_hasLeaves rfl (Nat.le_of_ble_eq_true rfl) ?_
  refine zz_pad 0 ?_
  show jz_Z g mX5_hasLeaves (jq_ie (if 0 ≤ z ∧ z < jshl 1 (s k 2) then 1 else 0) s) 0 [some (jr (k)), some (ji (z))] [] s
  refine jj_iload_n dX5_hasLeaves_0 rfl ?_
  refine jj_if_lt (tgt := 18) dX5_hasLeaves_1 (by decide) (fun h1 => ?_) (fun h1 => ?_)
  · refine jj_iconst dX5_hasLeaves_18 (kk := ?_)
    refine zz_retze dX5_hasLeaves_19 rfl (by first | exact Or.inl rfl | exact Or.inr rfl) (by decide) ?_ ?_
    · first | rfl | ((repeat' split) <;> omega)
    · rfl
  · refine jj_iload_n dX5_hasLeaves_4 rfl ?_
    refine jj_iconst dX5_hasLeaves_5 (kk := ?_)
    refine jj_aload_n dX5_hasLeaves_6 rfl ?_
    refine zz_getI dX5_hasLeaves_7 kf_X5_27 hk rfl rfl ?_
    refine jj_ishl dX5_hasLeaves_10 ?_
    refine jj_icmp_ge (tgt := 18) dX5_hasLeaves_11 (by decide) (fun h11 => ?_) (fun h11 => ?_)
    · refine jj_iconst dX5_hasLeaves_18 (kk := ?_)
      refine zz_retze dX5_hasLeaves_19 rfl (by first | exact Or.inl rfl | exact Or.inr rfl) (by decide) ?_ ?_
      · first | rfl | ((repeat' split) <;> omega)
      · rfl
    · refine jj_iconst dX5_hasLeaves_14 (kk := ?_)
      refine jj_goto (tgt := 19) dX5_hasLeaves_15 (by decide) ?_
      refine zz_retze dX5_hasLeaves_19 rfl (by first | exact Or.inl rfl | exact Or.inr rfl) (by decide) ?_ ?_
      · first | rfl | ((repeat' split) <;> omega)
      · rfl

set_option maxRecDepth 100000 in
set_option maxHeartbeats 4000000 in
theorem c_X5_inForce (g : jz_G) (s : jz_St) (k : Nat) (hk : jz_t k = .inl 5) (hR : ∀ j, j < 7 → 0 ≤ s (k + 3 + j) 5 ∧ s (k + 3 + j) 5 ≤ 1000) : jz_C g mX5_inForce [jr (k)] s (jq_ie (fIF s k 7) s) := by
  refine zz_C_of koX5_inForce rfl (Nat.le_of_ble_eq_true rfl) ?_
  refine zz_pad 5 ?_
  show jz_Z g mX5_inForce (jq_ie (fIF s k 7) s) 0 [some (jr (k)), none, none, none, none, none] [] s
  refine jj_iconst dX5_inForce_0 (kk := ?_)
  refine jj_istore_n (ls' := [some (jr (k)), some (ji (0)), none, none, none, none]) dX5_inForce_1 (by decide) rfl rfl ?_
  refine jj_aload_n dX5_inForce_2 rfl ?_
  refine zz_getR dX5_inForce_3 kf_X5_11 hk rfl ?_
  refine jj_astore_n (ls' := [some (jr (k)), some (ji (0)), some (jr (k + 1)), none, none, none]) dX5_inForce_6 (by decide) rfl rfl ?_
  refine jj_aload_n dX5_inForce_7 rfl ?_
  refine zz_alen (z := 7) dX5_inForce_8 (jz_t_sqL hk) (by decide) rfl (by decide) ?_
  refine jj_istore_n (ls' := [some (jr (k)), some (ji (0)), some (jr (k + 1)), some (ji (7)), none, none]) dX5_inForce_9 (by decide) rfl rfl ?_
  refine jj_iconst dX5_inForce_10 (kk := ?_)
  refine jj_istore (ls' := [some (jr (k)), some (ji (0)), some (jr (k + 1)), some (ji (7)), some (ji (0)), none]) dX5_inForce_11 (by decide) rfl rfl ?_
  have L13 : ∀ (nn : Nat) (j : Nat) (acc : Int) (hh13_0 : j ≤ 7) (hh13_1 : acc = fIF s k j), 7 - j < nn → jz_Z g mX5_inForce (jq_ie (fIF s k 7) s) 13 [some (jr (k)), some (ji (acc)), some (jr (k + 1)), some (ji (7)), some (ji ((j : Int))), none] [] s := by
    intro nn
    induction nn with
    | zero => intro j acc hh13_0 hh13_1 hmz; exact absurd hmz (Nat.not_lt_zero _)
    | succ nn ih13 =>
      intro j acc hh13_0 hh13_1 hm13
      have hRj := fun h => hR j h
      refine jj_iload dX5_inForce_13 rfl ?_
      refine jj_iload_n dX5_inForce_15 rfl ?_
      refine jj_icmp_ge (tgt := 53) dX5_inForce_16 (by decide) (fun h16 => ?_) (fun h16 => ?_)
      · refine jj_iload_n dX5_inForce_53 rfl ?_
        refine zz_retie dX5_inForce_54 rfl (by decide) ?_ ?_
        · (obtain rfl : j = 7 := (by omega)); exact hh13_1
        · rfl
      · refine jj_aload_n dX5_inForce_19 rfl ?_
        refine jj_iload dX5_inForce_20 rfl ?_
        refine zz_leafld (k := k) (j := j) dX5_inForce_22 hk (by omega) (by omega) ?_
        refine jj_astore (ls' := [some (jr (k)), some (ji (acc)), some (jr (k + 1)), some (ji (7)), some (ji ((j : Int))), some (jr (k + 3 + j))]) dX5_inForce_23 (by decide) rfl rfl ?_
        refine jj_iload_n dX5_inForce_25 rfl ?_
        refine jj_aload dX5_inForce_26 rfl ?_
        refine zz_cVi (av := []) (st' := [ji (acc)]) dX5_inForce_28 kn_X5_66 kmX1_isInForce (jz_t_leaf hk (by omega)) rfl rfl rfl (Nat.le_of_ble_eq_true rfl) (by decide) rfl (c_X1_isInForce g s (k + 3 + j) (jz_t_leaf hk (by omega)) (by have := hR j (by omega); omega)) (fun hr28 ho28 => ?_)
        refine jj_if_eq (tgt := 44) dX5_inForce_31 (by decide) (fun h31 => ?_) (fun h31 => ?_)
        · refine jj_iconst dX5_inForce_44 (kk := ?_)
          refine jj_ior dX5_inForce_45 ?_
          refine jj_istore_n (ls' := [some (jr (k)), some (ji (jor (acc) (0))), some (jr (k + 1)), some (ji (7)), some (ji ((j : Int))), some (jr (k + 3 + j))]) dX5_inForce_46 (by decide) rfl rfl ?_
          refine jj_iinc (ls' := [some (jr (k)), some (ji (jor (acc) (0))), some (jr (k + 1)), some (ji (7)), some (ji ((j : Int) + 1)), some (jr (k + 3 + j))]) dX5_inForce_47 rfl (by decide) rfl (by omega) rfl ?_
          refine jj_goto (tgt := 13) dX5_inForce_50 (by decide) ?_
          refine jj_fgt (i := 5) (ls' := [some (jr (k)), some (ji (jor (acc) (0))), some (jr (k + 1)), some (ji (7)), some (ji ((j : Int) + 1)), none]) rfl ?_
          exact ih13 (j + 1) (jor (acc) (0)) (by omega) (by simp only [fIF]; rw [hh13_1]; first | (rw [if_pos (by split at h31 <;> omega)]; done) | (rw [if_neg (by split at h31 <;> omega)]; done)) (by omega)
        · refine jj_iconst dX5_inForce_34 (kk := ?_)
          refine jj_aload dX5_inForce_35 rfl ?_
          refine zz_getN (z := ((j : Nat) : Int)) dX5_inForce_37 kf_X5_70 (jz_t_leaf hk (by omega)) rfl rfl (jz_nm_leaf hk (by omega)) ?_
          refine jj_ishl dX5_inForce_40 ?_
          refine jj_goto (tgt := 45) dX5_inForce_41 (by decide) ?_
          refine jj_ior dX5_inForce_45 ?_
          refine jj_istore_n (ls' := [some (jr (k)), some (ji (jor (acc) (jshl (1) (((j : Nat) : Int))))), some (jr (k + 1)), some (ji (7)), some (ji ((j : Int))), some (jr (k + 3 + j))]) dX5_inForce_46 (by decide) rfl rfl ?_
          refine jj_iinc (ls' := [some (jr (k)), some (ji (jor (acc) (jshl (1) (((j : Nat) : Int))))), some (jr (k + 1)), some (ji (7)), some (ji ((j : Int) + 1)), some (jr (k + 3 + j))]) dX5_inForce_47 rfl (by decide) rfl (by omega) rfl ?_
          refine jj_goto (tgt := 13) dX5_inForce_50 (by decide) ?_
          refine jj_fgt (i := 5) (ls' := [some (jr (k)), some (ji (jor (acc) (jshl (1) (((j : Nat) : Int))))), some (jr (k + 1)), some (ji (7)), some (ji ((j : Int) + 1)), none]) rfl ?_
          exact ih13 (j + 1) (jor (acc) (jshl (1) (((j : Nat) : Int)))) (by omega) (by simp only [fIF]; rw [hh13_1]; first | (rw [if_pos (by split at h31 <;> omega)]; done) | (rw [if_neg (by split at h31 <;> omega)]; done)) (by omega)
  exact L13 _ 0 0 (by omega) (by rfl) (Nat.lt_succ_self _)

set_option maxRecDepth 100000 in
set_option maxHeartbeats 4000000 in
theorem c_X5_notVoid (g : jz_G) (s : jz_St) (k : Nat) (hk : jz_t k = .inl 5)  : jz_C g mX5_notVoid [jr (k)] s (jq_ie (fNV s k 7) s) := by
  refine zz_C_of koX5_notVoid rfl (Nat.le_of_ble_eq_true rfl) ?_
  refine zz_pad 5 ?_
  show jz_Z g mX5_notVoid (jq_ie (fNV s k 7) s) 0 [some (jr (k)), none, none, none, none, none] [] s
  refine jj_iconst dX5_notVoid_0 (kk := ?_)
  refine jj_istore_n (ls' := [some (jr (k)), some (ji (0)), none, none, none, none]) dX5_notVoid_1 (by decide) rfl rfl ?_
  refine jj_aload_n dX5_notVoid_2 rfl ?_
  refine zz_getR dX5_notVoid_3 kf_X5_11 hk rfl ?_
  refine jj_astore_n (ls' := [some (jr (k)), some (ji (0)), some (jr (k + 1)), none, none, none]) dX5_notVoid_6 (by decide) rfl rfl ?_
  refine jj_aload_n dX5_notVoid_7 rfl ?_
  refine zz_alen (z := 7) dX5_notVoid_8 (jz_t_sqL hk) (by decide) rfl (by decide) ?_
  refine jj_istore_n (ls' := [some (jr (k)), some (ji (0)), some (jr (k + 1)), some (ji (7)), none, none]) dX5_notVoid_9 (by decide) rfl rfl ?_
  refine jj_iconst dX5_notVoid_10 (kk := ?_)
  refine jj_istore (ls' := [some (jr (k)), some (ji (0)), some (jr (k + 1)), some (ji (7)), some (ji (0)), none]) dX5_notVoid_11 (by decide) rfl rfl ?_
  have L13 : ∀ (nn : Nat) (j : Nat) (acc : Int) (hh13_0 : j ≤ 7) (hh13_1 : acc = fNV s k j), 7 - j < nn → jz_Z g mX5_notVoid (jq_ie (fNV s k 7) s) 13 [some (jr (k)), some (ji (acc)), some (jr (k + 1)), some (ji (7)), some (ji ((j : Int))), none] [] s := by
    intro nn
    induction nn with
    | zero => intro j acc hh13_0 hh13_1 hmz; exact absurd hmz (Nat.not_lt_zero _)
    | succ nn ih13 =>
      intro j acc hh13_0 hh13_1 hm13
      refine jj_iload dX5_notVoid_13 rfl ?_
      refine jj_iload_n dX5_notVoid_15 rfl ?_
      refine jj_icmp_ge (tgt := 53) dX5_notVoid_16 (by decide) (fun h16 => ?_) (fun h16 => ?_)
      · refine jj_iload_n dX5_notVoid_53 rfl ?_
        refine zz_retie dX5_notVoid_54 rfl (by decide) ?_ ?_
        · (obtain rfl : j = 7 := (by omega)); exact hh13_1
        · rfl
      · refine jj_aload_n dX5_notVoid_19 rfl ?_
        refine jj_iload dX5_notVoid_20 rfl ?_
        refine zz_leafld (k := k) (j := j) dX5_notVoid_22 hk (by omega) (by omega) ?_
        refine jj_astore (ls' := [some (jr (k)), some (ji (acc)), some (jr (k + 1)), some (ji (7)), some (ji ((j : Int))), some (jr (k + 3 + j))]) dX5_notVoid_23 (by decide) rfl rfl ?_
        refine jj_iload_n dX5_notVoid_25 rfl ?_
        refine jj_aload dX5_notVoid_26 rfl ?_
        refine zz_cVi (av := []) (st' := [ji (acc)]) dX5_notVoid_28 kn_X5_73 kmX1_isVoid (jz_t_leaf hk (by omega)) rfl rfl rfl (Nat.le_of_ble_eq_true rfl) (by decide) rfl (c_X1_isVoid g s (k + 3 + j) (jz_t_leaf hk (by omega))) (fun hr28 ho28 => ?_)
        refine jj_if_eq (tgt := 38) dX5_notVoid_31 (by decide) (fun h31 => ?_) (fun h31 => ?_)
        · refine jj_iconst dX5_notVoid_38 (kk := ?_)
          refine jj_aload dX5_notVoid_39 rfl ?_
          refine zz_getN (z := ((j : Nat) : Int)) dX5_notVoid_41 kf_X5_70 (jz_t_leaf hk (by omega)) rfl rfl (jz_nm_leaf hk (by omega)) ?_
          refine jj_ishl dX5_notVoid_44 ?_
          refine jj_ior dX5_notVoid_45 ?_
          refine jj_istore_n (ls' := [some (jr (k)), some (ji (jor (acc) (jshl (1) (((j : Nat) : Int))))), some (jr (k + 1)), some (ji (7)), some (ji ((j : Int))), some (jr (k + 3 + j))]) dX5_notVoid_46 (by decide) rfl rfl ?_
          refine jj_iinc (ls' := [some (jr (k)), some (ji (jor (acc) (jshl (1) (((j : Nat) : Int))))), some (jr (k + 1)), some (ji (7)), some (ji ((j : Int) + 1)), some (jr (k + 3 + j))]) dX5_notVoid_47 rfl (by decide) rfl (by omega) rfl ?_
          refine jj_goto (tgt := 13) dX5_notVoid_50 (by decide) ?_
          refine jj_fgt (i := 5) (ls' := [some (jr (k)), some (ji (jor (acc) (jshl (1) (((j : Nat) : Int))))), some (jr (k + 1)), some (ji (7)), some (ji ((j : Int) + 1)), none]) rfl ?_
          exact ih13 (j + 1) (jor (acc) (jshl (1) (((j : Nat) : Int)))) (by omega) (by simp only [fNV]; rw [hh13_1]; first | (rw [if_pos (by split at h31 <;> omega)]; done) | (rw [if_neg (by split at h31 <;> omega)]; done)) (by omega)
        · refine jj_iconst dX5_notVoid_34 (kk := ?_)
          refine jj_goto (tgt := 45) dX5_notVoid_35 (by decide) ?_
          refine jj_ior dX5_notVoid_45 ?_
          refine jj_istore_n (ls' := [some (jr (k)), some (ji (jor (acc) (0))), some (jr (k + 1)), some (ji (7)), some (ji ((j : Int))), some (jr (k + 3 + j))]) dX5_notVoid_46 (by decide) rfl rfl ?_
          refine jj_iinc (ls' := [some (jr (k)), some (ji (jor (acc) (0))), some (jr (k + 1)), some (ji (7)), some (ji ((j : Int) + 1)), some (jr (k + 3 + j))]) dX5_notVoid_47 rfl (by decide) rfl (by omega) rfl ?_
          refine jj_goto (tgt := 13) dX5_notVoid_50 (by decide) ?_
          refine jj_fgt (i := 5) (ls' := [some (jr (k)), some (ji (jor (acc) (0))), some (jr (k + 1)), some (ji (7)), some (ji ((j : Int) + 1)), none]) rfl ?_
          exact ih13 (j + 1) (jor (acc) (0)) (by omega) (by simp only [fNV]; rw [hh13_1]; first | (rw [if_pos (by split at h31 <;> omega)]; done) | (rw [if_neg (by split at h31 <;> omega)]; done)) (by omega)
  exact L13 _ 0 0 (by omega) (by rfl) (Nat.lt_succ_self _)

set_option maxRecDepth 100000 in
set_option maxHeartbeats 4000000 in
theorem c_X5_leftOfAll (g : jz_G) (s : jz_St) (k : Nat) (hk : jz_t k = .inl 5) (hR : ∀ j, j < 7 → 0 ≤ s (k + 3 + j) 5 ∧ s (k + 3 + j) 5 ≤ 1000) : jz_C g mX5_leftOfAll [jr (k)] s (jq_ie (fLA s k 7) s) := by
  refine zz_C_of koX5_leftOfAll rfl (Nat.le_of_ble_eq_true rfl) ?_
  refine zz_pad 5 ?_
  show jz_Z g mX5_leftOfAll (jq_ie (fLA s k 7) s) 0 [some (jr (k)), none, none, none, none, none] [] s
  refine jj_iconst dX5_leftOfAll_0 (kk := ?_)
  refine jj_istore_n (ls' := [some (jr (k)), some (ji (0)), none, none, none, none]) dX5_leftOfAll_1 (by decide) rfl rfl ?_
  refine jj_aload_n dX5_leftOfAll_2 rfl ?_
  refine zz_getR dX5_leftOfAll_3 kf_X5_11 hk rfl ?_
  refine jj_astore_n (ls' := [some (jr (k)), some (ji (0)), some (jr (k + 1)), none, none, none]) dX5_leftOfAll_6 (by decide) rfl rfl ?_
  refine jj_aload_n dX5_leftOfAll_7 rfl ?_
  refine zz_alen (z := 7) dX5_leftOfAll_8 (jz_t_sqL hk) (by decide) rfl (by decide) ?_
  refine jj_istore_n (ls' := [some (jr (k)), some (ji (0)), some (jr (k + 1)), some (ji (7)), none, none]) dX5_leftOfAll_9 (by decide) rfl rfl ?_
  refine jj_iconst dX5_leftOfAll_10 (kk := ?_)
  refine jj_istore (ls' := [some (jr (k)), some (ji (0)), some (jr (k + 1)), some (ji (7)), some (ji (0)), none]) dX5_leftOfAll_11 (by decide) rfl rfl ?_
  have L13 : ∀ (nn : Nat) (j : Nat) (acc : Int) (hh13_0 : j ≤ 7) (hh13_1 : acc = fLA s k j) (hh13_2 : 0 ≤ acc ∧ acc ≤ 1000 * j), 7 - j < nn → jz_Z g mX5_leftOfAll (jq_ie (fLA s k 7) s) 13 [some (jr (k)), some (ji (acc)), some (jr (k + 1)), some (ji (7)), some (ji ((j : Int))), none] [] s := by
    intro nn
    induction nn with
    | zero => intro j acc hh13_0 hh13_1 hh13_2 hmz; exact absurd hmz (Nat.not_lt_zero _)
    | succ nn ih13 =>
      intro j acc hh13_0 hh13_1 hh13_2 hm13
      refine jj_iload dX5_leftOfAll_13 rfl ?_
      refine jj_iload_n dX5_leftOfAll_15 rfl ?_
      refine jj_icmp_ge (tgt := 39) dX5_leftOfAll_16 (by decide) (fun h16 => ?_) (fun h16 => ?_)
      · refine jj_iload_n dX5_leftOfAll_39 rfl ?_
        refine zz_retie dX5_leftOfAll_40 rfl (by decide) ?_ ?_
        · (obtain rfl : j = 7 := (by omega)); exact hh13_1
        · rfl
      · refine jj_aload_n dX5_leftOfAll_19 rfl ?_
        refine jj_iload dX5_leftOfAll_20 rfl ?_
        refine zz_leafld (k := k) (j := j) dX5_leftOfAll_22 hk (by omega) (by omega) ?_
        refine jj_astore (ls' := [some (jr (k)), some (ji (acc)), some (jr (k + 1)), some (ji (7)), some (ji ((j : Int))), some (jr (k + 3 + j))]) dX5_leftOfAll_23 (by decide) rfl rfl ?_
        refine jj_iload_n dX5_leftOfAll_25 rfl ?_
        refine jj_aload dX5_leftOfAll_26 rfl ?_
        refine zz_getI dX5_leftOfAll_28 kf_X5_53 (jz_t_leaf hk (by omega)) rfl rfl ?_
        refine jj_iadd dX5_leftOfAll_31 (by have := hR j (by omega); omega) ?_
        refine jj_istore_n (ls' := [some (jr (k)), some (ji (acc + (s (k + 3 + j) 5))), some (jr (k + 1)), some (ji (7)), some (ji ((j : Int))), some (jr (k + 3 + j))]) dX5_leftOfAll_32 (by decide) rfl rfl ?_
        refine jj_iinc (ls' := [some (jr (k)), some (ji (acc + (s (k + 3 + j) 5))), some (jr (k + 1)), some (ji (7)), some (ji ((j : Int) + 1)), some (jr (k + 3 + j))]) dX5_leftOfAll_33 rfl (by decide) rfl (by omega) rfl ?_
        refine jj_goto (tgt := 13) dX5_leftOfAll_36 (by decide) ?_
        refine jj_fgt (i := 5) (ls' := [some (jr (k)), some (ji (acc + (s (k + 3 + j) 5))), some (jr (k + 1)), some (ji (7)), some (ji ((j : Int) + 1)), none]) rfl ?_
        exact ih13 (j + 1) (acc + (s (k + 3 + j) 5)) (by omega) (by simp only [fLA]; rw [hh13_1]) (by have := hR j (by omega); omega) (by omega)
  exact L13 _ 0 0 (by omega) (by rfl) (by omega) (Nat.lt_succ_self _)

set_option maxRecDepth 100000 in
set_option maxHeartbeats 4000000 in
theorem c_X5_likesAlike (g : jz_G) (s : jz_St) (k : Nat) (hk : jz_t k = .inl 5) (a b : Nat) (ha : jz_t a = .inl 1) (hb : jz_t b = .inl 1) (ha1 : 0 < s a 5 → jI (s a 4 + s k 5) ∧ jI (s a 4 - 3)) (hb1 : 0 < s b 5 → jI (s b 4 + s k 5) ∧ jI (s b 4 - 3)) (hh : 0 ≤ s k 6) : jz_C g mX5_likesAlike [jr (k), jr (a), jr (b)] s (jq_ie (if fLk (s a 1) (s a 4) (s a 5) (s k 6) (s k 5) ≠ -1000000 ∧ fLk (s a 1) (s a 4) (s a 5) (s k 6) (s k 5) = fLk (s b 1) (s b 4) (s b 5) (s k 6) (s k 5) then 1 else 0) s) := by
  refine zz_C_of koX5_likesAlike rfl (Nat.le_of_ble_eq_true rfl) ?_
  refine zz_pad 1 ?_
  show jz_Z g mX5_likesAlike (jq_ie (if fLk (s a 1) (s a 4) (s a 5) (s k 6) (s k 5) ≠ -1000000 ∧ fLk (s a 1) (s a 4) (s a 5) (s k 6) (s k 5) = fLk (s b 1) (s b 4) (s b 5) (s k 6) (s k 5) then 1 else 0) s) 0 [some (jr (k)), some (jr (a)), some (jr (b)), none] [] s
  refine jj_aload_n dX5_likesAlike_0 rfl ?_
  refine jj_aload_n dX5_likesAlike_1 rfl ?_
  refine zz_getI dX5_likesAlike_2 kf_X5_40 hk rfl rfl ?_
  refine jj_aload_n dX5_likesAlike_5 rfl ?_
  refine zz_getI dX5_likesAlike_6 kf_X5_37 hk rfl rfl ?_
  refine zz_cVi (av := [ji (s k 6), ji (s k 5)]) (st' := []) dX5_likesAlike_9 kn_X5_76 kmX1_liking ha rfl rfl rfl (Nat.le_of_ble_eq_true rfl) (by decide) rfl (c_X1_liking g s a (s k 6) (s k 5) ha (fun h => (ha1 h).1) (fun h => (ha1 h).2) hh) (fun hr9 ho9 => ?_)
  refine jj_istore_n (ls' := [some (jr (k)), some (jr (a)), some (jr (b)), some (ji (fLk (s a 1) (s a 4) (s a 5) (s k 6) (s k 5)))]) dX5_likesAlike_12 (by decide) rfl rfl ?_
  refine jj_iload_n dX5_likesAlike_13 rfl ?_
  refine jj_ldc dX5_likesAlike_14 kk_X5_80 (kk := ?_)
  refine jj_icmp_eq (tgt := 39) dX5_likesAlike_16 (by decide) (fun h16 => ?_) (fun h16 => ?_)
  · refine jj_iconst dX5_likesAlike_39 (kk := ?_)
    refine zz_retze dX5_likesAlike_40 rfl (by first | exact Or.inl rfl | exact Or.inr rfl) (by decide) ?_ ?_
    · first | (rw [if_pos ⟨h16, h32⟩]; done) | (rw [if_neg (fun q => h16x q.1)]; done) | ((repeat' split) <;> omega)
    · rfl
  · refine jj_iload_n dX5_likesAlike_19 rfl ?_
    refine jj_aload_n dX5_likesAlike_20 rfl ?_
    refine jj_aload_n dX5_likesAlike_21 rfl ?_
    refine zz_getI dX5_likesAlike_22 kf_X5_40 hk rfl rfl ?_
    refine jj_aload_n dX5_likesAlike_25 rfl ?_
    refine zz_getI dX5_likesAlike_26 kf_X5_37 hk rfl rfl ?_
    refine zz_cVi (av := [ji (s k 6), ji (s k 5)]) (st' := [ji (fLk (s a 1) (s a 4) (s a 5) (s k 6) (s k 5))]) dX5_likesAlike_29 kn_X5_76 kmX1_liking hb rfl rfl rfl (Nat.le_of_ble_eq_true rfl) (by decide) rfl (c_X1_liking g s b (s k 6) (s k 5) hb (fun h => (hb1 h).1) (fun h => (hb1 h).2) hh) (fun hr29 ho29 => ?_)
    refine jj_icmp_ne (tgt := 39) dX5_likesAlike_32 (by decide) (fun h32 => ?_) (fun h32 => ?_)
    · refine jj_iconst dX5_likesAlike_39 (kk := ?_)
      refine zz_retze dX5_likesAlike_40 rfl (by first | exact Or.inl rfl | exact Or.inr rfl) (by decide) ?_ ?_
      · first | (rw [if_pos ⟨h16, h32⟩]; done) | (rw [if_neg (fun q => h16x q.1)]; done) | ((repeat' split) <;> omega)
      · rfl
    · refine jj_iconst dX5_likesAlike_35 (kk := ?_)
      refine jj_goto (tgt := 40) dX5_likesAlike_36 (by decide) ?_
      refine zz_retze dX5_likesAlike_40 rfl (by first | exact Or.inl rfl | exact Or.inr rfl) (by decide) ?_ ?_
      · first | (rw [if_pos ⟨h16, h32⟩]; done) | (rw [if_neg (fun q => h16x q.1)]; done) | ((repeat' split) <;> omega)
      · rfl

set_option maxRecDepth 100000 in
set_option maxHeartbeats 4000000 in
theorem c_X5_choiceOf (g : jz_G) (s : jz_St) (k : Nat) (hk : jz_t k = .inl 5) (a : Nat) (ha : jz_t a = .inl 0) (b : Int) (hb : b ≤ 1000000) (hR : jRng s k b) : jz_C g mX5_choiceOf [jr (k), jr (a)] s (jq_re (fChoA s k a) s) := by
  refine zz_C_of koX5_choiceOf rfl (Nat.le_of_ble_eq_true rfl) ?_
  refine zz_pad 7 ?_
  show jz_Z g mX5_choiceOf (jq_re (fChoA s k a) s) 0 [some (jr (k)), some (jr (a)), none, none, none, none, none, none, none] [] s
  refine jj_aload_n dX5_choiceOf_0 rfl ?_
  refine zz_cVi (av := []) (st' := []) dX5_choiceOf_1 kn_X5_81 kmX0_isBiting ha rfl rfl rfl (Nat.le_of_ble_eq_true rfl) (by decide) rfl (c_X0_isBiting g s a ha) (fun hr1 ho1 => ?_)
  refine jj_if_ne (tgt := 9) dX5_choiceOf_4 (by decide) (fun h4 => ?_) (fun h4 => ?_)
  · refine jj_null dX5_choiceOf_9 ?_
    refine jj_astore_nO (ls' := [some (jr (k)), some (jr (a)), some (jn), none, none, none, none, none, none]) dX5_choiceOf_10 (by decide) rfl rfl ?_
    refine jj_ldc dX5_choiceOf_11 kk_X5_80 (kk := ?_)
    refine jj_istore_n (ls' := [some (jr (k)), some (jr (a)), some (jn), some (ji (-1000000)), none, none, none, none, none]) dX5_choiceOf_13 (by decide) rfl rfl ?_
    refine jj_aload_n dX5_choiceOf_14 rfl ?_
    refine zz_getR dX5_choiceOf_15 kf_X5_11 hk rfl ?_
    refine jj_astore (ls' := [some (jr (k)), some (jr (a)), some (jn), some (ji (-1000000)), some (jr (k + 1)), none, none, none, none]) dX5_choiceOf_18 (by decide) rfl rfl ?_
    refine jj_aload dX5_choiceOf_20 rfl ?_
    refine zz_alen (z := 7) dX5_choiceOf_22 (jz_t_sqL hk) (by decide) rfl (by decide) ?_
    refine jj_istore (ls' := [some (jr (k)), some (jr (a)), some (jn), some (ji (-1000000)), some (jr (k + 1)), some (ji (7)), none, none, none]) dX5_choiceOf_23 (by decide) rfl rfl ?_
    refine jj_iconst dX5_choiceOf_25 (kk := ?_)
    refine jj_istore (ls' := [some (jr (k)), some (jr (a)), some (jn), some (ji (-1000000)), some (jr (k + 1)), some (ji (7)), some (ji (0)), none, none]) dX5_choiceOf_26 (by decide) rfl rfl ?_
    have L28 : ∀ (nn : Nat) (j : Nat) (o : Option Nat) (mo : Int) (hh28_0 : j ≤ 7) (hh28_1 : o = (fChS s k (s a 2) j).1.map fun j => k + 3 + j) (hh28_2 : mo = (fChS s k (s a 2) j).2), 7 - j < nn → jz_Z g mX5_choiceOf (jq_re (fChoA s k a) s) 28 [some (jr (k)), some (jr (a)), some (Sum.inr (Sum.inr (o))), some (ji (mo)), some (jr (k + 1)), some (ji (7)), some (ji ((j : Int))), none, none] [] s := by
      intro nn
      induction nn with
      | zero => intro j o mo hh28_0 hh28_1 hh28_2 hmz; exact absurd hmz (Nat.not_lt_zero _)
      | succ nn ih28 =>
        intro j o mo hh28_0 hh28_1 hh28_2 hm28
        refine jj_iload dX5_choiceOf_28 rfl ?_
        refine jj_iload dX5_choiceOf_30 rfl ?_
        refine jj_icmp_ge (tgt := 92) dX5_choiceOf_32 (by decide) (fun h32 => ?_) (fun h32 => ?_)
        · refine jj_aload_nO dX5_choiceOf_92 rfl ?_
          refine zz_retre (o := o) dX5_choiceOf_93 rfl (by decide) ?_ ?_
          · (obtain rfl : j = 7 := (by omega)); rw [hh28_1]; unfold fChoA fCho; rw [if_pos (by split at h4 <;> omega)]
          · rfl
        · refine jj_aload dX5_choiceOf_35 rfl ?_
          refine jj_iload dX5_choiceOf_37 rfl ?_
          refine zz_leafld (k := k) (j := j) dX5_choiceOf_39 hk (by omega) (by omega) ?_
          refine jj_astore (ls' := [some (jr (k)), some (jr (a)), some (Sum.inr (Sum.inr (o))), some (ji (mo)), some (jr (k + 1)), some (ji (7)), some (ji ((j : Int))), some (jr (k + 3 + j)), none]) dX5_choiceOf_40 (by decide) rfl rfl ?_
          have L72 : ∀ (y : Int) (hh72_0 : y = fLkR s k (s a 2) j), jz_Z g mX5_choiceOf (jq_re (fChoA s k a) s) 72 [some (jr (k)), some (jr (a)), some (Sum.inr (Sum.inr (o))), some (ji (mo)), some (jr (k + 1)), some (ji (7)), some (ji ((j : Int))), some (jr (k + 3 + j)), none] [ji (y)] s := by
            intro y hh72_0
            refine jj_istore (ls' := [some (jr (k)), some (jr (a)), some (Sum.inr (Sum.inr (o))), some (ji (mo)), some (jr (k + 1)), some (ji (7)), some (ji ((j : Int))), some (jr (k + 3 + j)), some (ji (y))]) dX5_choiceOf_72 (by decide) rfl rfl ?_
            refine jj_iload dX5_choiceOf_74 rfl ?_
            refine jj_iload_n dX5_choiceOf_76 rfl ?_
            refine jj_icmp_le (tgt := 86) dX5_choiceOf_77 (by decide) (fun h77 => ?_) (fun h77 => ?_)
            · refine jj_iinc (ls' := [some (jr (k)), some (jr (a)), some (Sum.inr (Sum.inr (o))), some (ji (mo)), some (jr (k + 1)), some (ji (7)), some (ji ((j : Int) + 1)), some (jr (k + 3 + j)), some (ji (y))]) dX5_choiceOf_86 rfl (by decide) rfl (by omega) rfl ?_
              refine jj_goto (tgt := 28) dX5_choiceOf_89 (by decide) ?_
              refine jj_fgt (i := 7) (ls' := [some (jr (k)), some (jr (a)), some (Sum.inr (Sum.inr (o))), some (ji (mo)), some (jr (k + 1)), some (ji (7)), some (ji ((j : Int) + 1)), none, some (ji (y))]) rfl ?_
              refine jj_fgt (i := 8) (ls' := [some (jr (k)), some (jr (a)), some (Sum.inr (Sum.inr (o))), some (ji (mo)), some (jr (k + 1)), some (ji (7)), some (ji ((j : Int) + 1)), none, none]) rfl ?_
              exact ih28 (j + 1) o mo (by omega) (by simp only [fChS]; first | (rw [if_pos (by rw [← hh72_0, ← hh28_2]; exact h77)]; rfl) | (rw [if_neg (by rw [← hh72_0, ← hh28_2]; omega)]; exact hh28_1)) (by simp only [fChS]; first | (rw [if_pos (by rw [← hh72_0, ← hh28_2]; exact h77)]; exact hh72_0) | (rw [if_neg (by rw [← hh72_0, ← hh28_2]; omega)]; exact hh28_2)) (by omega)
            · refine jj_aload dX5_choiceOf_80 rfl ?_
              refine jj_astore_n (ls' := [some (jr (k)), some (jr (a)), some (jr (k + 3 + j)), some (ji (mo)), some (jr (k + 1)), some (ji (7)), some (ji ((j : Int))), some (jr (k + 3 + j)), some (ji (y))]) dX5_choiceOf_82 (by decide) rfl rfl ?_
              refine jj_iload dX5_choiceOf_83 rfl ?_
              refine jj_istore_n (ls' := [some (jr (k)), some (jr (a)), some (jr (k + 3 + j)), some (ji (y)), some (jr (k + 1)), some (ji (7)), some (ji ((j : Int))), some (jr (k + 3 + j)), some (ji (y))]) dX5_choiceOf_85 (by decide) rfl rfl ?_
              refine jj_iinc (ls' := [some (jr (k)), some (jr (a)), some (jr (k + 3 + j)), some (ji (y)), some (jr (k + 1)), some (ji (7)), some (ji ((j : Int) + 1)), some (jr (k + 3 + j)), some (ji (y))]) dX5_choiceOf_86 rfl (by decide) rfl (by omega) rfl ?_
              refine jj_goto (tgt := 28) dX5_choiceOf_89 (by decide) ?_
              refine jj_fgt (i := 7) (ls' := [some (jr (k)), some (jr (a)), some (jr (k + 3 + j)), some (ji (y)), some (jr (k + 1)), some (ji (7)), some (ji ((j : Int) + 1)), none, some (ji (y))]) rfl ?_
              refine jj_fgt (i := 8) (ls' := [some (jr (k)), some (jr (a)), some (jr (k + 3 + j)), some (ji (y)), some (jr (k + 1)), some (ji (7)), some (ji ((j : Int) + 1)), none, none]) rfl ?_
              exact ih28 (j + 1) (some (k + 3 + j)) y (by omega) (by simp only [fChS]; first | (rw [if_pos (by rw [← hh72_0, ← hh28_2]; exact h77)]; rfl) | (rw [if_neg (by rw [← hh72_0, ← hh28_2]; omega)]; exact hh28_1)) (by simp only [fChS]; first | (rw [if_pos (by rw [← hh72_0, ← hh28_2]; exact h77)]; exact hh72_0) | (rw [if_neg (by rw [← hh72_0, ← hh28_2]; omega)]; exact hh28_2)) (by omega)
          refine jj_aload dX5_choiceOf_42 rfl ?_
          refine zz_getI dX5_choiceOf_44 kf_X5_84 (jz_t_leaf hk (by omega)) rfl rfl ?_
          refine jj_aload_n dX5_choiceOf_47 rfl ?_
          refine zz_getI dX5_choiceOf_48 kf_X5_87 ha rfl rfl ?_
          refine jj_icmp_gt (tgt := 70) dX5_choiceOf_51 (by decide) (fun h51 => ?_) (fun h51 => ?_)
          · refine jj_ldc dX5_choiceOf_70 kk_X5_80 (kk := ?_)
            exact L72 (-1000000) (by unfold fLkR; first | (rw [if_pos (by omega)]; rfl) | (rw [if_neg (by omega)]; done))
          · refine jj_aload dX5_choiceOf_54 rfl ?_
            refine jj_aload_n dX5_choiceOf_56 rfl ?_
            refine zz_getI dX5_choiceOf_57 kf_X5_40 hk rfl rfl ?_
            refine jj_aload_n dX5_choiceOf_60 rfl ?_
            refine zz_getI dX5_choiceOf_61 kf_X5_37 hk rfl rfl ?_
            refine zz_cVi (av := [ji (s k 6), ji (s k 5)]) (st' := []) dX5_choiceOf_64 kn_X5_76 kmX1_liking (jz_t_leaf hk (by omega)) rfl rfl rfl (Nat.le_of_ble_eq_true rfl) (by decide) rfl (c_X1_liking g s (k + 3 + j) (s k 6) (s k 5) (jz_t_leaf hk (by omega)) (fun h => by have := (hR.2.2.2.2.2.2.1 j (by omega)).2 h; have := hR.2.2.2.1; omega) (fun h => by have := (hR.2.2.2.2.2.2.1 j (by omega)).2 h; omega) hR.2.2.2.2.1.1) (fun hr64 ho64 => ?_)
            refine jj_goto (tgt := 72) dX5_choiceOf_67 (by decide) ?_
            exact L72 (fLk (s (k + 3 + j) 1) (s (k + 3 + j) 4) (s (k + 3 + j) 5) (s k 6) (s k 5)) (by unfold fLkR; first | (rw [if_pos (by omega)]; rfl) | (rw [if_neg (by omega)]; done))
    exact L28 _ 0 none (-1000000) (by omega) (by rfl) (by rfl) (Nat.lt_succ_self _)
  · refine jj_null dX5_choiceOf_7 ?_
    refine zz_retre (o := none) dX5_choiceOf_8 rfl (by decide) ?_ ?_
    · unfold fChoA fCho; split at h4 <;> first | (rw [if_neg (by omega)]; rfl) | omega
    · rfl

theorem lbn (s : jz_St) (a : Nat) (z : Int) (x : Nat) {i : Nat} (h5 : i ≠ 5) (h6 : i ≠ 6) : f_X1_loseBite s a z x i = s x i := by
  simp [f_X1_loseBite, jz_su, h5, h6]
theorem swn (s : jz_St) (a : Nat) (z : Int) (x : Nat) {i : Nat} (h1 : i ≠ 1) (h4 : i ≠ 4) : f_X0_swallow s a z x i = s x i := by
  simp [f_X0_swallow, jz_su, h1, h4]
set_option maxRecDepth 100000 in
set_option maxHeartbeats 4000000 in
theorem c_X5_letBite (g : jz_G) (s : jz_St) (k : Nat) (hk : jz_t k = .inl 5) (gg : Nat) (hg : gg < 4) (b : Int) (hb : b ≤ 1000000) (hR : jRng s k b) : jz_C g mX5_letBite [jr (k), jr (k + 10 + gg)] s (jq_ie (v_X5_letBite s k gg) (f_X5_letBite s k gg)) := by
  refine zz_C_of koX5_letBite rfl (Nat.le_of_ble_eq_true rfl) ?_
  refine zz_pad 2 ?_
  show jz_Z g mX5_letBite (jq_ie (v_X5_letBite s k gg) (f_X5_letBite s k gg)) 0 [some (jr (k)), some (jr (k + 10 + gg)), none, none] [] s
  refine jj_aload_n dX5_letBite_0 rfl ?_
  refine jj_aload_n dX5_letBite_1 rfl ?_
  refine zz_cVr (av := [jr (k + 10 + gg)]) (st' := []) dX5_letBite_2 kn_X5_90 kmX5_choiceOf hk rfl rfl rfl (Nat.le_of_ble_eq_true rfl) (by decide) rfl (c_X5_choiceOf g s k hk (k + 10 + gg) (jz_t_goat hk hg) b hb hR) (fun ho2 => ?_)
  rcases hX2 : fCho s k (k + 10 + gg) with _ | j
  · refine jj_topO (o' := none) (by unfold fChoA; rw [hX2]; rfl) ?_
    refine jj_astore_nO (ls' := [some (jr (k)), some (jr (k + 10 + gg)), some (jn), none]) dX5_letBite_5 (by decide) rfl rfl ?_
    refine jj_aload_nO dX5_letBite_6 rfl ?_
    refine jj_ifnonnull (o := none) (tgt := 12) dX5_letBite_7 (by decide) (fun _ h => by cases h) (fun _ => ?_)
    refine jj_iconst dX5_letBite_10 (kk := ?_)
    refine zz_retie dX5_letBite_11 rfl (by decide) ?_ ?_
    · unfold v_X5_letBite; rw [hX2]
    · unfold f_X5_letBite; rw [hX2]
  · refine jj_topO (o' := some (k + 3 + j)) (by unfold fChoA; rw [hX2]; rfl) ?_
    obtain ⟨hj1, hj2, hj3, hj4, hj5⟩ := fCho_some hX2
    refine jj_astore_n (ls' := [some (jr (k)), some (jr (k + 10 + gg)), some (jr (k + 3 + j)), none]) dX5_letBite_5 (by decide) rfl rfl ?_
    refine jj_aload_n dX5_letBite_6 rfl ?_
    refine jj_ifnonnull (o := some (k + 3 + j)) (tgt := 12) dX5_letBite_7 (by decide) (fun _ _ => ?_) (fun h => by cases h)
    refine jj_aload_n dX5_letBite_12 rfl ?_
    refine jj_aload_n dX5_letBite_13 rfl ?_
    refine zz_getN (z := ((gg : Nat) : Int)) dX5_letBite_14 kf_X5_94 (jz_t_goat hk hg) rfl rfl (jz_nm_goat hk hg) ?_
    refine zz_cVi (av := [ji (((gg : Nat) : Int))]) (st' := []) dX5_letBite_17 kn_X5_95 kmX1_loseBite (jz_t_leaf hk (fCho_some hX2).1) rfl rfl rfl (Nat.le_of_ble_eq_true rfl) (by decide) rfl (c_X1_loseBite g s (k + 3 + j) ((gg : Nat) : Int) (jz_t_leaf hk (fCho_some hX2).1) (by have := hR.2.2.2.2.2.2.1 j (by omega); omega) (by have := hR.2.2.2.2.2.2.1 j (by omega); omega)) (fun hr17 ho17 => ?_)
    refine jj_istore_n (ls' := [some (jr (k)), some (jr (k + 10 + gg)), some (jr (k + 3 + j)), some (ji (fBite (s (k + 3 + j) 1) (s (k + 3 + j) 5)))]) dX5_letBite_20 (by decide) rfl rfl ?_
    refine jj_aload_n dX5_letBite_21 rfl ?_
    refine jj_iload_n dX5_letBite_22 rfl ?_
    refine zz_cVv (av := [ji (fBite (s (k + 3 + j) 1) (s (k + 3 + j) 5))]) (st' := []) dX5_letBite_23 kn_X5_99 kmX0_swallow (jz_t_goat hk hg) rfl rfl rfl (Nat.le_of_ble_eq_true rfl) (by decide) rfl (c_X0_swallow g (f_X1_loseBite s (k + 3 + j) ((gg : Nat) : Int)) (k + 10 + gg) (fBite (s (k + 3 + j) 1) (s (k + 3 + j) 5)) (jz_t_goat hk hg) (by rw [lbn _ _ _ _ (by decide) (by decide)]; have := hR.2.2.2.2.2.2.2 gg hg; have := fBite_rng (s (k + 3 + j) 1) (s (k + 3 + j) 5); have := hR.2.2.2.2.2.2.1 j (by omega); omega) (by rw [lbn _ _ _ _ (by decide) (by decide)]; have := hR.2.2.2.2.2.2.2 gg hg; have := fBite_rng (s (k + 3 + j) 1) (s (k + 3 + j) 5); have := hR.2.2.2.2.2.2.1 j (by omega); omega)) (fun ho23 => ?_)
    refine jj_aload_n dX5_letBite_26 rfl ?_
    refine jj_dup dX5_letBite_27 (kk := ?_)
    refine zz_getI dX5_letBite_28 kf_X5_43 hk rfl rfl ?_
    refine jj_aload_n dX5_letBite_31 rfl ?_
    refine zz_getI dX5_letBite_32 kf_X5_53 (jz_t_leaf hk (fCho_some hX2).1) rfl rfl ?_
    refine jj_if_gt (tgt := 42) dX5_letBite_35 (by decide) (fun h35 => ?_) (fun h35 => ?_)
    · refine jj_iconst dX5_letBite_42 (kk := ?_)
      refine jj_iadd dX5_letBite_43 (by rw [swn _ _ _ _ (by decide) (by decide), lbn _ _ _ _ (by decide) (by decide)]; have := hR.2.2.2.2.2.1; omega) ?_
      refine zz_putI dX5_letBite_44 kw_X5_43 hk rfl rfl ?_
      refine jj_iload_n dX5_letBite_47 rfl ?_
      refine zz_retie dX5_letBite_48 rfl (by decide) ?_ ?_
      · unfold v_X5_letBite; rw [hX2]
      · unfold f_X5_letBite; rw [hX2]; unfold f_X5_bite; first | (simp only [if_pos h35]; done) | (simp only [if_neg (show ¬ _ ≤ (0 : Int) from Int.not_le.mpr h35)]; done)
    · refine jj_iconst dX5_letBite_38 (kk := ?_)
      refine jj_goto (tgt := 43) dX5_letBite_39 (by decide) ?_
      refine jj_iadd dX5_letBite_43 (by rw [swn _ _ _ _ (by decide) (by decide), lbn _ _ _ _ (by decide) (by decide)]; have := hR.2.2.2.2.2.1; omega) ?_
      refine zz_putI dX5_letBite_44 kw_X5_43 hk rfl rfl ?_
      refine jj_iload_n dX5_letBite_47 rfl ?_
      refine zz_retie dX5_letBite_48 rfl (by decide) ?_ ?_
      · unfold v_X5_letBite; rw [hX2]
      · unfold f_X5_letBite; rw [hX2]; unfold f_X5_bite; first | (simp only [if_pos h35]; done) | (simp only [if_neg (show ¬ _ ≤ (0 : Int) from Int.not_le.mpr h35)]; done)

theorem lbv_rng {s : jz_St} {k g : Nat} {b : Int} (h : jRng s k b) : 0 ≤ v_X5_letBite s k g ∧ v_X5_letBite s k g ≤ 2 := by
  unfold v_X5_letBite
  split
  · omega
  · next j hj =>
    obtain ⟨a1, a2, a3, -⟩ := fCho_some hj
    have := fBite_rng (s (k + 3 + j) 1) (s (k + 3 + j) 5)
    omega
theorem phv_rng {s : jz_St} {k : Nat} {b : Int} (h : jRng s k b) : ∀ g : Nat, g ≤ 4 → 0 ≤ v_X5_phB s k g ∧ v_X5_phB s k g ≤ 2 * g := by
  intro g
  induction g with
  | zero => intro _; simp [v_X5_phB]
  | succ g ih =>
    intro hg
    simp only [v_X5_phB]
    have h1 := ih (by omega)
    have h2 := lbv_rng (g := g) (phB_rng h g (by omega))
    split <;> omega
set_option maxRecDepth 100000 in
set_option maxHeartbeats 4000000 in
theorem c_X5_passHour (g : jz_G) (s : jz_St) (k : Nat) (hk : jz_t k = .inl 5) (b : Int) (hb : b ≤ 900000) (hR : jRng s k b) : jz_C g mX5_passHour [jr (k)] s (jq_ie (v_X5_passHour s k) (f_X5_passHour s k)) := by
  refine zz_C_of koX5_passHour rfl (Nat.le_of_ble_eq_true rfl) ?_
  refine zz_pad 5 ?_
  show jz_Z g mX5_passHour (jq_ie (v_X5_passHour s k) (f_X5_passHour s k)) 0 [some (jr (k)), none, none, none, none, none] [] s
  have L67 : ∀ (nn : Nat) (gg : Nat) (hh67_0 : gg ≤ 4), 4 - gg < nn → jz_Z g mX5_passHour (jq_ie (v_X5_passHour s k) (f_X5_passHour s k)) 67 [some (jr (k)), some (ji (v_X5_phB s k 4)), some (jr (k + 2)), some (ji (4)), some (ji ((gg : Int))), none] [] (f_X5_phE (f_X5_phB s k 4) k gg) := by
    intro nn
    induction nn with
    | zero => intro gg hh67_0 hmz; exact absurd hmz (Nat.not_lt_zero _)
    | succ nn ih67 =>
      intro gg hh67_0 hm67
      refine jj_iload dX5_passHour_67 rfl ?_
      refine jj_iload_n dX5_passHour_69 rfl ?_
      refine jj_icmp_ge (tgt := 94) dX5_passHour_70 (by decide) (fun h70 => ?_) (fun h70 => ?_)
      · obtain rfl : gg = 4 := (by omega)
        have hE := phE_rng (phB_rng hR 4 (by omega)) 4 (by omega)
        refine jj_aload_n dX5_passHour_94 rfl ?_
        refine jj_dup dX5_passHour_95 (kk := ?_)
        refine zz_getI dX5_passHour_96 kf_X5_40 hk rfl rfl ?_
        refine jj_iconst dX5_passHour_99 (kk := ?_)
        refine jj_iadd dX5_passHour_100 (by have := hE.2.2.2.2.1; omega) ?_
        refine zz_putI dX5_passHour_101 kw_X5_40 hk rfl rfl ?_
        refine jj_iload_n dX5_passHour_104 rfl ?_
        refine zz_retie dX5_passHour_105 rfl (by decide) ?_ ?_
        · rfl
        · rfl
      · refine jj_aload_n dX5_passHour_73 rfl ?_
        refine jj_iload dX5_passHour_74 rfl ?_
        refine zz_goatld (k := k) (j := gg) dX5_passHour_76 hk (by omega) (by omega) ?_
        refine jj_astore (ls' := [some (jr (k)), some (ji (v_X5_phB s k 4)), some (jr (k + 2)), some (ji (4)), some (ji ((gg : Int))), some (jr (k + 10 + gg))]) dX5_passHour_77 (by decide) rfl rfl ?_
        refine jj_aload dX5_passHour_79 rfl ?_
        refine jj_aload_n dX5_passHour_81 rfl ?_
        refine zz_getI dX5_passHour_82 kf_X5_34 hk rfl rfl ?_
        refine zz_cVv (av := [ji ((f_X5_phE (f_X5_phB s k 4) k gg) k 4)]) (st' := []) dX5_passHour_85 kn_X5_106 kmX0_endHour (jz_t_goat hk (by omega)) rfl rfl rfl (Nat.le_of_ble_eq_true rfl) (by decide) rfl (c_X0_endHour g (f_X5_phE (f_X5_phB s k 4) k gg) (k + 10 + gg) ((f_X5_phE (f_X5_phB s k 4) k gg) k 4) (jz_t_goat hk (by omega)) (by have := (phE_rng (phB_rng hR 4 (by omega)) gg (by omega)); have h1 := this.2.2.2.2.2.2.2 gg (by omega); have h2 := this.2.2.1; omega) (by have := (phE_rng (phB_rng hR 4 (by omega)) gg (by omega)); have h1 := this.2.2.2.2.2.2.2 gg (by omega); omega)) (fun ho85 => ?_)
        refine jj_iinc (ls' := [some (jr (k)), some (ji (v_X5_phB s k 4)), some (jr (k + 2)), some (ji (4)), some (ji ((gg : Int) + 1)), some (jr (k + 10 + gg))]) dX5_passHour_88 rfl (by decide) rfl (by omega) rfl ?_
        refine jj_goto (tgt := 67) dX5_passHour_91 (by decide) ?_
        refine jj_fgt (i := 5) (ls' := [some (jr (k)), some (ji (v_X5_phB s k 4)), some (jr (k + 2)), some (ji (4)), some (ji ((gg : Int) + 1)), none]) rfl ?_
        exact ih67 (gg + 1) (by omega) (by omega)
  refine jj_iconst dX5_passHour_0 (kk := ?_)
  refine jj_istore_n (ls' := [some (jr (k)), some (ji (0)), none, none, none, none]) dX5_passHour_1 (by decide) rfl rfl ?_
  refine jj_aload_n dX5_passHour_2 rfl ?_
  refine zz_getR dX5_passHour_3 kf_X5_19 hk rfl ?_
  refine jj_astore_n (ls' := [some (jr (k)), some (ji (0)), some (jr (k + 2)), none, none, none]) dX5_passHour_6 (by decide) rfl rfl ?_
  refine jj_aload_n dX5_passHour_7 rfl ?_
  refine zz_alen (z := 4) dX5_passHour_8 (jz_t_sqG hk) (by decide) rfl (by decide) ?_
  refine jj_istore_n (ls' := [some (jr (k)), some (ji (0)), some (jr (k + 2)), some (ji (4)), none, none]) dX5_passHour_9 (by decide) rfl rfl ?_
  refine jj_iconst dX5_passHour_10 (kk := ?_)
  refine jj_istore (ls' := [some (jr (k)), some (ji (0)), some (jr (k + 2)), some (ji (4)), some (ji (0)), none]) dX5_passHour_11 (by decide) rfl rfl ?_
  have L13 : ∀ (nn : Nat) (gg : Nat) (acc : Int) (hh13_0 : gg ≤ 4) (hh13_1 : acc = v_X5_phB s k gg), 4 - gg < nn → jz_Z g mX5_passHour (jq_ie (v_X5_passHour s k) (f_X5_passHour s k)) 13 [some (jr (k)), some (ji (acc)), some (jr (k + 2)), some (ji (4)), some (ji ((gg : Int))), none] [] (f_X5_phB s k gg) := by
    intro nn
    induction nn with
    | zero => intro gg acc hh13_0 hh13_1 hmz; exact absurd hmz (Nat.not_lt_zero _)
    | succ nn ih13 =>
      intro gg acc hh13_0 hh13_1 hm13
      refine jj_iload dX5_passHour_13 rfl ?_
      refine jj_iload_n dX5_passHour_15 rfl ?_
      refine jj_icmp_ge (tgt := 56) dX5_passHour_16 (by decide) (fun h16 => ?_) (fun h16 => ?_)
      · obtain rfl : gg = 4 := (by omega)
        subst hh13_1
        refine jj_aload_n dX5_passHour_56 rfl ?_
        refine zz_getR dX5_passHour_57 kf_X5_19 hk rfl ?_
        refine jj_astore_n (ls' := [some (jr (k)), some (ji (v_X5_phB s k 4)), some (jr (k + 2)), some (ji (4)), some (ji ((4 : Int))), none]) dX5_passHour_60 (by decide) rfl rfl ?_
        refine jj_aload_n dX5_passHour_61 rfl ?_
        refine zz_alen (z := 4) dX5_passHour_62 (jz_t_sqG hk) (by decide) rfl (by decide) ?_
        refine jj_istore_n (ls' := [some (jr (k)), some (ji (v_X5_phB s k 4)), some (jr (k + 2)), some (ji (4)), some (ji ((4 : Int))), none]) dX5_passHour_63 (by decide) rfl rfl ?_
        refine jj_iconst dX5_passHour_64 (kk := ?_)
        refine jj_istore (ls' := [some (jr (k)), some (ji (v_X5_phB s k 4)), some (jr (k + 2)), some (ji (4)), some (ji (0)), none]) dX5_passHour_65 (by decide) rfl rfl ?_
        exact L67 _ 0 (by omega) (Nat.lt_succ_self _)
      · refine jj_aload_n dX5_passHour_19 rfl ?_
        refine jj_iload dX5_passHour_20 rfl ?_
        refine zz_goatld (k := k) (j := gg) dX5_passHour_22 hk (by omega) (by omega) ?_
        refine jj_astore (ls' := [some (jr (k)), some (ji (acc)), some (jr (k + 2)), some (ji (4)), some (ji ((gg : Int))), some (jr (k + 10 + gg))]) dX5_passHour_23 (by decide) rfl rfl ?_
        refine jj_iload_n dX5_passHour_25 rfl ?_
        refine jj_aload dX5_passHour_26 rfl ?_
        refine zz_getN (z := ((gg : Nat) : Int)) dX5_passHour_28 kf_X5_94 (jz_t_goat hk (by omega)) rfl rfl (jz_nm_goat hk (by omega)) ?_
        refine jj_aload_n dX5_passHour_31 rfl ?_
        refine zz_getI dX5_passHour_32 kf_X5_31 hk rfl rfl ?_
        refine jj_icmp_ge (tgt := 47) dX5_passHour_35 (by decide) (fun h35 => ?_) (fun h35 => ?_)
        · refine jj_iconst dX5_passHour_47 (kk := ?_)
          refine jj_iadd dX5_passHour_48 (by have h1 := phv_rng hR gg (by omega); have h2 := lbv_rng (g := gg) (phB_rng hR gg (by omega)); omega) ?_
          refine jj_istore_n (ls' := [some (jr (k)), some (ji (acc + 0)), some (jr (k + 2)), some (ji (4)), some (ji ((gg : Int))), some (jr (k + 10 + gg))]) dX5_passHour_49 (by decide) rfl rfl ?_
          refine jj_iinc (ls' := [some (jr (k)), some (ji (acc + 0)), some (jr (k + 2)), some (ji (4)), some (ji ((gg : Int) + 1)), some (jr (k + 10 + gg))]) dX5_passHour_50 rfl (by decide) rfl (by omega) rfl ?_
          refine jj_goto (tgt := 13) dX5_passHour_53 (by decide) ?_
          refine jj_fgt (i := 5) (ls' := [some (jr (k)), some (ji (acc + 0)), some (jr (k + 2)), some (ji (4)), some (ji ((gg : Int) + 1)), none]) rfl ?_
          refine zz_st (s1 := f_X5_phB s k (gg + 1)) (by first | rfl | (simp only [f_X5_phB]; first | (rw [if_pos h35]; done) | (rw [if_neg (by omega)]; done))) ?_
          exact ih13 (gg + 1) (acc + 0) (by omega) (by simp only [v_X5_phB]; rw [hh13_1]; first | (rw [if_pos h35]; done) | (rw [if_neg (by omega)]; done)) (by omega)
        · refine jj_aload_n dX5_passHour_38 rfl ?_
          refine jj_aload dX5_passHour_39 rfl ?_
          refine zz_cVi (av := [jr (k + 10 + gg)]) (st' := [ji (acc)]) dX5_passHour_41 kn_X5_102 kmX5_letBite hk rfl rfl rfl (Nat.le_of_ble_eq_true rfl) (by decide) rfl (c_X5_letBite g (f_X5_phB s k gg) k hk gg (by omega) (b + 2 * gg) (by omega) (phB_rng hR gg (by omega))) (fun hr41 ho41 => ?_)
          refine jj_goto (tgt := 48) dX5_passHour_44 (by decide) ?_
          refine jj_iadd dX5_passHour_48 (by have h1 := phv_rng hR gg (by omega); have h2 := lbv_rng (g := gg) (phB_rng hR gg (by omega)); omega) ?_
          refine jj_istore_n (ls' := [some (jr (k)), some (ji (acc + (v_X5_letBite (f_X5_phB s k gg) k gg))), some (jr (k + 2)), some (ji (4)), some (ji ((gg : Int))), some (jr (k + 10 + gg))]) dX5_passHour_49 (by decide) rfl rfl ?_
          refine jj_iinc (ls' := [some (jr (k)), some (ji (acc + (v_X5_letBite (f_X5_phB s k gg) k gg))), some (jr (k + 2)), some (ji (4)), some (ji ((gg : Int) + 1)), some (jr (k + 10 + gg))]) dX5_passHour_50 rfl (by decide) rfl (by omega) rfl ?_
          refine jj_goto (tgt := 13) dX5_passHour_53 (by decide) ?_
          refine jj_fgt (i := 5) (ls' := [some (jr (k)), some (ji (acc + (v_X5_letBite (f_X5_phB s k gg) k gg))), some (jr (k + 2)), some (ji (4)), some (ji ((gg : Int) + 1)), none]) rfl ?_
          refine zz_st (s1 := f_X5_phB s k (gg + 1)) (by first | rfl | (simp only [f_X5_phB]; first | (rw [if_pos h35]; done) | (rw [if_neg (by omega)]; done))) ?_
          exact ih13 (gg + 1) (acc + (v_X5_letBite (f_X5_phB s k gg) k gg)) (by omega) (by simp only [v_X5_phB]; rw [hh13_1]; first | (rw [if_pos h35]; done) | (rw [if_neg (by omega)]; done)) (by omega)
  refine zz_st (s1 := f_X5_phB s k 0) (by first | rfl | (simp only [f_X5_phB]; first | (rw [if_pos h35]; done) | (rw [if_neg (by omega)]; done))) ?_
  exact L13 _ 0 0 (by omega) (by rfl) (Nat.lt_succ_self _)

set_option maxRecDepth 100000 in
set_option maxHeartbeats 4000000 in
theorem c_X5_passHours (g : jz_G) (s : jz_St) (k : Nat) (hk : jz_t k = .inl 5) (n : Nat) (b : Int) (hb : b + 9 * n ≤ 900000) (hR : jRng s k b) : jz_C g mX5_passHours [jr (k), ji ((n : Int))] s (jq_ve (f_X5_passHours s k n)) := by
  refine zz_C_of koX5_passHours rfl (Nat.le_of_ble_eq_true rfl) ?_
  refine zz_pad 1 ?_
  show jz_Z g mX5_passHours (jq_ve (f_X5_passHours s k n)) 0 [some (jr (k)), some (ji ((n : Int))), none] [] s
  have hb0 := hR.2.2.2.2.1
  refine jj_iconst dX5_passHours_0 (kk := ?_)
  refine jj_istore_n (ls' := [some (jr (k)), some (ji ((n : Int))), some (ji (0))]) dX5_passHours_1 (by decide) rfl rfl ?_
  have L2 : ∀ (nn : Nat) (j : Nat) (hh2_0 : j ≤ n), n - j < nn → jz_Z g mX5_passHours (jq_ve (f_X5_passHours s k n)) 2 [some (jr (k)), some (ji ((n : Int))), some (ji ((j : Int)))] [] (f_X5_passHours s k j) := by
    intro nn
    induction nn with
    | zero => intro j hh2_0 hmz; exact absurd hmz (Nat.not_lt_zero _)
    | succ nn ih2 =>
      intro j hh2_0 hm2
      refine jj_iload_n dX5_passHours_2 rfl ?_
      refine jj_iload_n dX5_passHours_3 rfl ?_
      refine jj_icmp_ge (tgt := 18) dX5_passHours_4 (by decide) (fun h4 => ?_) (fun h4 => ?_)
      · refine zz_retve dX5_passHours_18 rfl (by decide) ?_
        · (obtain rfl : j = n := (by omega)); rfl
      · refine jj_aload_n dX5_passHours_7 rfl ?_
        refine zz_cVi (av := []) (st' := []) dX5_passHours_8 kn_X5_109 kmX5_passHour hk rfl rfl rfl (Nat.le_of_ble_eq_true rfl) (by decide) rfl (c_X5_passHour g (f_X5_passHours s k j) k hk (b + 9 * j) (by omega) (passHours_rng hR j)) (fun hr8 ho8 => ?_)
        refine jj_pop dX5_passHours_11 (kk := ?_)
        refine jj_iinc (ls' := [some (jr (k)), some (ji ((n : Int))), some (ji ((j : Int) + 1))]) dX5_passHours_12 rfl (by decide) rfl (by omega) rfl ?_
        refine jj_goto (tgt := 2) dX5_passHours_15 (by decide) ?_
        refine zz_st (s1 := f_X5_passHours s k (j + 1)) (by rfl) ?_
        exact ih2 (j + 1) (by first | assumption | omega) (by omega)
  refine zz_st (s1 := f_X5_passHours s k 0) (by rfl) ?_
  exact L2 _ 0 (by first | assumption | omega) (Nat.lt_succ_self _)

def fKeep (s : jz_St) (k : Nat) (told : Int) : Nat → Int × jz_St
  | 0 => (if jand told (jxor (fIF s k 7) (-1)) = 0 then 1 else 0, s)
  | n + 1 => if jand told (jxor (fIF s k 7) (-1)) = 0 then fKeep (f_X5_passHour s k) k told n else (0, s)
theorem jRng_if {s : jz_St} {k : Nat} {b : Int} (h : jRng s k b) : ∀ j, j < 7 → 0 ≤ s (k + 3 + j) 5 ∧ s (k + 3 + j) 5 ≤ 1000 := fun j hj => (h.2.2.2.2.2.2.1 j hj).1
set_option maxRecDepth 100000 in
set_option maxHeartbeats 4000000 in
theorem c_X5_keepsInForce (g : jz_G) (s : jz_St) (k : Nat) (hk : jz_t k = .inl 5) (told : Int) (n : Nat) (b : Int) (hb : b + 9 * n ≤ 900000) (hR : jRng s k b) : jz_C g mX5_keepsInForce [jr (k), ji (told), ji ((n : Int))] s (jq_ie (fKeep s k told n).1 (fKeep s k told n).2) := by
  refine zz_C_of koX5_keepsInForce rfl (Nat.le_of_ble_eq_true rfl) ?_
  refine zz_pad 1 ?_
  show jz_Z g mX5_keepsInForce (jq_ie (fKeep s k told n).1 (fKeep s k told n).2) 0 [some (jr (k)), some (ji (told)), some (ji ((n : Int))), none] [] s
  have hb0 := hR.2.2.2.2.1
  refine jj_iconst dX5_keepsInForce_0 (kk := ?_)
  refine jj_istore_n (ls' := [some (jr (k)), some (ji (told)), some (ji ((n : Int))), some (ji (0))]) dX5_keepsInForce_1 (by decide) rfl rfl ?_
  have L2 : ∀ (nn : Nat) (j : Nat) (s' : jz_St) (hh2_0 : j ≤ n) (hh2_1 : fKeep s k told n = fKeep s' k told (n - j)) (hh2_2 : jRng s' k (b + 9 * j)), n - j < nn → jz_Z g mX5_keepsInForce (jq_ie (fKeep s k told n).1 (fKeep s k told n).2) 2 [some (jr (k)), some (ji (told)), some (ji ((n : Int))), some (ji ((j : Int)))] [] s' := by
    intro nn
    induction nn with
    | zero => intro j s' hh2_0 hh2_1 hh2_2 hmz; exact absurd hmz (Nat.not_lt_zero _)
    | succ nn ih2 =>
      intro j s' hh2_0 hh2_1 hh2_2 hm2
      refine jj_iload_n dX5_keepsInForce_2 rfl ?_
      refine jj_iload_n dX5_keepsInForce_3 rfl ?_
      refine jj_icmp_ge (tgt := 31) dX5_keepsInForce_4 (by decide) (fun h4 => ?_) (fun h4 => ?_)
      · refine jj_iload_n dX5_keepsInForce_31 rfl ?_
        refine jj_aload_n dX5_keepsInForce_32 rfl ?_
        refine zz_cVi (av := []) (st' := [ji (told)]) dX5_keepsInForce_33 kn_X5_113 kmX5_inForce hk rfl rfl rfl (Nat.le_of_ble_eq_true rfl) (by decide) rfl (c_X5_inForce g s' k hk (jRng_if hh2_2)) (fun hr33 ho33 => ?_)
        refine jj_iconst dX5_keepsInForce_36 (kk := ?_)
        refine jj_ixor dX5_keepsInForce_37 ?_
        refine jj_iand dX5_keepsInForce_38 ?_
        refine jj_if_ne (tgt := 46) dX5_keepsInForce_39 (by decide) (fun h39 => ?_) (fun h39 => ?_)
        · refine jj_iconst dX5_keepsInForce_46 (kk := ?_)
          refine zz_retze dX5_keepsInForce_47 rfl (by first | exact Or.inl rfl | exact Or.inr rfl) (by decide) ?_ ?_
          · rw [hh2_1, show n - j = 0 by omega]; simp only [fKeep]; first | (rw [if_pos (by omega)]; done) | (rw [if_neg (by omega)]; done)
          · rw [hh2_1, show n - j = 0 by omega]; rfl
        · refine jj_iconst dX5_keepsInForce_42 (kk := ?_)
          refine jj_goto (tgt := 47) dX5_keepsInForce_43 (by decide) ?_
          refine zz_retze dX5_keepsInForce_47 rfl (by first | exact Or.inl rfl | exact Or.inr rfl) (by decide) ?_ ?_
          · rw [hh2_1, show n - j = 0 by omega]; simp only [fKeep]; first | (rw [if_pos (by omega)]; done) | (rw [if_neg (by omega)]; done)
          · rw [hh2_1, show n - j = 0 by omega]; rfl
      · refine jj_iload_n dX5_keepsInForce_7 rfl ?_
        refine jj_aload_n dX5_keepsInForce_8 rfl ?_
        refine zz_cVi (av := []) (st' := [ji (told)]) dX5_keepsInForce_9 kn_X5_113 kmX5_inForce hk rfl rfl rfl (Nat.le_of_ble_eq_true rfl) (by decide) rfl (c_X5_inForce g s' k hk (jRng_if hh2_2)) (fun hr9 ho9 => ?_)
        refine jj_iconst dX5_keepsInForce_12 (kk := ?_)
        refine jj_ixor dX5_keepsInForce_13 ?_
        refine jj_iand dX5_keepsInForce_14 ?_
        refine jj_if_eq (tgt := 20) dX5_keepsInForce_15 (by decide) (fun h15 => ?_) (fun h15 => ?_)
        · refine jj_aload_n dX5_keepsInForce_20 rfl ?_
          refine zz_cVi (av := []) (st' := []) dX5_keepsInForce_21 kn_X5_109 kmX5_passHour hk rfl rfl rfl (Nat.le_of_ble_eq_true rfl) (by decide) rfl (c_X5_passHour g s' k hk (b + 9 * j) (by omega) hh2_2) (fun hr21 ho21 => ?_)
          refine jj_pop dX5_keepsInForce_24 (kk := ?_)
          refine jj_iinc (ls' := [some (jr (k)), some (ji (told)), some (ji ((n : Int))), some (ji ((j : Int) + 1))]) dX5_keepsInForce_25 rfl (by decide) rfl (by omega) rfl ?_
          refine jj_goto (tgt := 2) dX5_keepsInForce_28 (by decide) ?_
          exact ih2 (j + 1) (f_X5_passHour s' k) (by omega) (by rw [hh2_1, show n - j = (n - (j + 1)) + 1 by omega]; simp only [fKeep]; rw [if_pos h15]) (by exact jRng_mono (passHour_rng hh2_2) (by omega)) (by omega)
        · refine jj_iconst dX5_keepsInForce_18 (kk := ?_)
          refine zz_retze dX5_keepsInForce_19 rfl (by first | exact Or.inl rfl | exact Or.inr rfl) (by decide) ?_ ?_
          · rw [hh2_1, show n - j = (n - (j + 1)) + 1 by omega]; simp only [fKeep]; rw [if_neg h15]
          · rw [hh2_1, show n - j = (n - (j + 1)) + 1 by omega]; simp only [fKeep]; rw [if_neg h15]
  exact L2 _ 0 s (by omega) (by rfl) (by simpa using hR) (Nat.lt_succ_self _)

def fGoes (s : jz_St) (k a r : Nat) (fr : Int) (i : Nat) : Nat → Int × jz_St
  | 0 => (1, s)
  | m + 1 => if f_X5_passHour s k a 5 = (if 0 ≤ fr + i ∧ fr + i < 40 then f_X5_passHour s k (r + 1) (fr + i).toNat else 0) then fGoes (f_X5_passHour s k) k a r fr (i + 1) m else (0, f_X5_passHour s k)
set_option maxRecDepth 100000 in
set_option maxHeartbeats 4000000 in
theorem c_X5_goesAs (g : jz_G) (s : jz_St) (k : Nat) (hk : jz_t k = .inl 5) (z : Int) (hz : 0 ≤ z ∧ z < s k 2) (r : Nat) (hr : jz_t r = .inl 4) (fr : Int) (hf : 0 ≤ fr ∧ fr ≤ 100) (n : Nat) (hn : n ≤ 1000) (b : Int) (hb : b + 9 * n ≤ 900000) (hR : jRng s k b) : jz_C g mX5_goesAs [jr (k), ji (z), jr (r), ji (fr), ji ((n : Int))] s (jq_ie (fGoes s k (k + 3 + z.toNat) r fr 0 n).1 (fGoes s k (k + 3 + z.toNat) r fr 0 n).2) := by
  refine zz_C_of koX5_goesAs rfl (Nat.le_of_ble_eq_true rfl) ?_
  refine zz_pad 2 ?_
  show jz_Z g mX5_goesAs (jq_ie (fGoes s k (k + 3 + z.toNat) r fr 0 n).1 (fGoes s k (k + 3 + z.toNat) r fr 0 n).2) 0 [some (jr (k)), some (ji (z)), some (jr (r)), some (ji (fr)), some (ji ((n : Int))), none, none] [] s
  refine jj_aload_n dX5_goesAs_0 rfl ?_
  refine jj_iload_n dX5_goesAs_1 rfl ?_
  refine zz_cVr (av := [ji (z)]) (st' := []) dX5_goesAs_2 kn_X5_62 kmX5_leafAt hk rfl rfl rfl (Nat.le_of_ble_eq_true rfl) (by decide) rfl (c_X5_leafAt g s k hk z) (fun ho2 => ?_)
  by_cases hc2 : 0 ≤ z ∧ z < s k 2 ∧ z < 7
  · refine jj_topO (o' := some (k + 3 + z.toNat)) (if_pos hc2) ?_
    refine jj_astore (ls' := [some (jr (k)), some (ji (z)), some (jr (r)), some (ji (fr)), some (ji ((n : Int))), some (jr (k + 3 + z.toNat)), none]) dX5_goesAs_5 (by decide) rfl rfl ?_
    refine jj_aload dX5_goesAs_7 rfl ?_
    refine jj_ifnonnull (o := some (k + 3 + z.toNat)) (tgt := 14) dX5_goesAs_9 (by decide) (fun _ _ => ?_) (fun h => by cases h)
    refine jj_iconst dX5_goesAs_14 (kk := ?_)
    refine jj_istore (ls' := [some (jr (k)), some (ji (z)), some (jr (r)), some (ji (fr)), some (ji ((n : Int))), some (jr (k + 3 + z.toNat)), some (ji (0))]) dX5_goesAs_15 (by decide) rfl rfl ?_
    have L17 : ∀ (nn : Nat) (j : Nat) (s' : jz_St) (hh17_0 : j ≤ n) (hh17_1 : fGoes s k (k + 3 + z.toNat) r fr 0 n = fGoes s' k (k + 3 + z.toNat) r fr j (n - j)) (hh17_2 : jRng s' k (b + 9 * j)), n - j < nn → jz_Z g mX5_goesAs (jq_ie (fGoes s k (k + 3 + z.toNat) r fr 0 n).1 (fGoes s k (k + 3 + z.toNat) r fr 0 n).2) 17 [some (jr (k)), some (ji (z)), some (jr (r)), some (ji (fr)), some (ji ((n : Int))), some (jr (k + 3 + z.toNat)), some (ji ((j : Int)))] [] s' := by
      intro nn
      induction nn with
      | zero => intro j s' hh17_0 hh17_1 hh17_2 hmz; exact absurd hmz (Nat.not_lt_zero _)
      | succ nn ih17 =>
        intro j s' hh17_0 hh17_1 hh17_2 hm17
        refine jj_iload dX5_goesAs_17 rfl ?_
        refine jj_iload dX5_goesAs_19 rfl ?_
        refine jj_icmp_ge (tgt := 53) dX5_goesAs_21 (by decide) (fun h21 => ?_) (fun h21 => ?_)
        · refine jj_iconst dX5_goesAs_53 (kk := ?_)
          refine zz_retze dX5_goesAs_54 rfl (by first | exact Or.inl rfl | exact Or.inr rfl) (by decide) ?_ ?_
          · rw [hh17_1, show n - j = 0 by omega]; rfl
          · rw [hh17_1, show n - j = 0 by omega]; rfl
        · refine jj_aload_n dX5_goesAs_24 rfl ?_
          refine zz_cVi (av := []) (st' := []) dX5_goesAs_25 kn_X5_109 kmX5_passHour hk rfl rfl rfl (Nat.le_of_ble_eq_true rfl) (by decide) rfl (c_X5_passHour g s' k hk (b + 9 * j) (by omega) hh17_2) (fun hr25 ho25 => ?_)
          refine jj_pop dX5_goesAs_28 (kk := ?_)
          refine jj_aload dX5_goesAs_29 rfl ?_
          refine zz_getI dX5_goesAs_31 kf_X5_53 (jz_t_leaf hk (by omega)) rfl rfl ?_
          refine jj_aload_n dX5_goesAs_34 rfl ?_
          refine jj_iload_n dX5_goesAs_35 rfl ?_
          refine jj_iload dX5_goesAs_36 rfl ?_
          refine jj_iadd dX5_goesAs_38 (by omega) ?_
          refine zz_cVi (av := [ji (fr + (j : Int))]) (st' := [ji ((f_X5_passHour s' k) (k + 3 + z.toNat) 5)]) dX5_goesAs_39 kn_X5_116 kmX4_at hr rfl rfl rfl (Nat.le_of_ble_eq_true rfl) (by decide) rfl (c_X4_at g (f_X5_passHour s' k) r hr (fr + (j : Int))) (fun hr39 ho39 => ?_)
          refine jj_icmp_eq (tgt := 47) dX5_goesAs_42 (by decide) (fun h42 => ?_) (fun h42 => ?_)
          · refine jj_iinc (ls' := [some (jr (k)), some (ji (z)), some (jr (r)), some (ji (fr)), some (ji ((n : Int))), some (jr (k + 3 + z.toNat)), some (ji ((j : Int) + 1))]) dX5_goesAs_47 rfl (by decide) rfl (by omega) rfl ?_
            refine jj_goto (tgt := 17) dX5_goesAs_50 (by decide) ?_
            exact ih17 (j + 1) (f_X5_passHour s' k) (by omega) (by rw [hh17_1, show n - j = (n - (j + 1)) + 1 by omega]; simp only [fGoes]; rw [if_pos h42]) (by exact jRng_mono (passHour_rng hh17_2) (by omega)) (by omega)
          · refine jj_iconst dX5_goesAs_45 (kk := ?_)
            refine zz_retze dX5_goesAs_46 rfl (by first | exact Or.inl rfl | exact Or.inr rfl) (by decide) ?_ ?_
            · rw [hh17_1, show n - j = (n - (j + 1)) + 1 by omega]; simp only [fGoes]; rw [if_neg h42]
            · rw [hh17_1, show n - j = (n - (j + 1)) + 1 by omega]; simp only [fGoes]; rw [if_neg h42]
    exact L17 _ 0 s (by omega) (by rfl) (by simpa using hR) (Nat.lt_succ_self _)
  · refine jj_topO (o' := none) (if_neg hc2) ?_
    refine jj_astoreO (ls' := [some (jr (k)), some (ji (z)), some (jr (r)), some (ji (fr)), some (ji ((n : Int))), some (jn), none]) dX5_goesAs_5 (by decide) rfl rfl ?_
    refine jj_aloadO dX5_goesAs_7 rfl ?_
    refine jj_ifnonnull (o := none) (tgt := 14) dX5_goesAs_9 (by decide) (fun _ h => by cases h) (fun _ => ?_)
    exact absurd hc2 (by have := hR.1; omega)

def f_X5_drv (s : jz_St) (k : Nat) (bits n : Int) : Nat → jz_St
  | 0 => s
  | j + 1 => if jand (jshr bits j) 1 = 0 then f_X5_drv s k bits n j else jz_su (f_X5_drv s k bits n j) (k + 10 + j) 3 n
def f_X5_hot (s : jz_St) (k : Nat) (bits : Int) : Nat → jz_St
  | 0 => s
  | j + 1 => if jand (jshr bits j) 1 = 0 then f_X5_hot s k bits j else jz_su (f_X5_hot s k bits j) (k + 3 + j) 3 9
def f_X5_tea (s : jz_St) (k : Nat) (bits : Int) : Nat → jz_St
  | 0 => s
  | j + 1 => if jand (jshr bits j) 1 = 0 then f_X5_tea s k bits j else jz_su (f_X5_tea s k bits j) (k + 3 + j) 5 (Int.tdiv (f_X5_tea s k bits j (k + 3 + j) 5) 2)
set_option maxRecDepth 100000 in
set_option maxHeartbeats 4000000 in
theorem c_X5_driveOff (g : jz_G) (s : jz_St) (k : Nat) (hk : jz_t k = .inl 5) (bits n : Int) : jz_C g mX5_driveOff [jr (k), ji (bits), ji (n)] s (jq_ve (f_X5_drv s k bits n 4)) := by
  refine zz_C_of koX5_driveOff rfl (Nat.le_of_ble_eq_true rfl) ?_
  refine zz_pad 4 ?_
  show jz_Z g mX5_driveOff (jq_ve (f_X5_drv s k bits n 4)) 0 [some (jr (k)), some (ji (bits)), some (ji (n)), none, none, none, none] [] s
  refine jj_aload_n dX5_driveOff_0 rfl ?_
  refine zz_getR dX5_driveOff_1 kf_X5_19 hk rfl ?_
  refine jj_astore_n (ls' := [some (jr (k)), some (ji (bits)), some (ji (n)), some (jr (k + 2)), none, none, none]) dX5_driveOff_4 (by decide) rfl rfl ?_
  refine jj_aload_n dX5_driveOff_5 rfl ?_
  refine zz_alen (z := 4) dX5_driveOff_6 (jz_t_sqG hk) (by decide) rfl (by decide) ?_
  refine jj_istore (ls' := [some (jr (k)), some (ji (bits)), some (ji (n)), some (jr (k + 2)), some (ji (4)), none, none]) dX5_driveOff_7 (by decide) rfl rfl ?_
  refine jj_iconst dX5_driveOff_9 (kk := ?_)
  refine jj_istore (ls' := [some (jr (k)), some (ji (bits)), some (ji (n)), some (jr (k + 2)), some (ji (4)), some (ji (0)), none]) dX5_driveOff_10 (by decide) rfl rfl ?_
  have L12 : ∀ (nn : Nat) (j : Nat) (hh12_0 : j ≤ 4), 4 - j < nn → jz_Z g mX5_driveOff (jq_ve (f_X5_drv s k bits n 4)) 12 [some (jr (k)), some (ji (bits)), some (ji (n)), some (jr (k + 2)), some (ji (4)), some (ji ((j : Int))), none] [] (f_X5_drv s k bits n j) := by
    intro nn
    induction nn with
    | zero => intro j hh12_0 hmz; exact absurd hmz (Nat.not_lt_zero _)
    | succ nn ih12 =>
      intro j hh12_0 hm12
      refine jj_iload dX5_driveOff_12 rfl ?_
      refine jj_iload dX5_driveOff_14 rfl ?_
      refine jj_icmp_ge (tgt := 49) dX5_driveOff_16 (by decide) (fun h16 => ?_) (fun h16 => ?_)
      · refine zz_retve dX5_driveOff_49 rfl (by decide) ?_
        · (obtain rfl : j = 4 := (by omega)); rfl
      · refine jj_aload_n dX5_driveOff_19 rfl ?_
        refine jj_iload dX5_driveOff_20 rfl ?_
        refine zz_goatld (k := k) (j := j) dX5_driveOff_22 hk (by omega) (by omega) ?_
        refine jj_astore (ls' := [some (jr (k)), some (ji (bits)), some (ji (n)), some (jr (k + 2)), some (ji (4)), some (ji ((j : Int))), some (jr (k + 10 + j))]) dX5_driveOff_23 (by decide) rfl rfl ?_
        refine jj_iload_n dX5_driveOff_25 rfl ?_
        refine jj_aload dX5_driveOff_26 rfl ?_
        refine zz_getN (z := ((j : Nat) : Int)) dX5_driveOff_28 kf_X5_94 (jz_t_goat hk (by omega)) rfl rfl (jz_nm_goat hk (by omega)) ?_
        refine jj_ishr dX5_driveOff_31 ?_
        refine jj_iconst dX5_driveOff_32 (kk := ?_)
        refine jj_iand dX5_driveOff_33 ?_
        refine jj_if_eq (tgt := 43) dX5_driveOff_34 (by decide) (fun h34 => ?_) (fun h34 => ?_)
        · refine jj_iinc (ls' := [some (jr (k)), some (ji (bits)), some (ji (n)), some (jr (k + 2)), some (ji (4)), some (ji ((j : Int) + 1)), some (jr (k + 10 + j))]) dX5_driveOff_43 rfl (by decide) rfl (by omega) rfl ?_
          refine jj_goto (tgt := 12) dX5_driveOff_46 (by decide) ?_
          refine jj_fgt (i := 6) (ls' := [some (jr (k)), some (ji (bits)), some (ji (n)), some (jr (k + 2)), some (ji (4)), some (ji ((j : Int) + 1)), none]) rfl ?_
          refine zz_st (s1 := f_X5_drv s k bits n (j + 1)) (by first | rfl | (simp only [f_X5_drv]; first | (rw [if_pos h34]; done) | (rw [if_neg h34]; done))) ?_
          exact ih12 (j + 1) (by first | assumption | omega) (by omega)
        · refine jj_aload dX5_driveOff_37 rfl ?_
          refine jj_iload_n dX5_driveOff_39 rfl ?_
          refine zz_putI dX5_driveOff_40 kw_X5_56 (jz_t_goat hk (by omega)) rfl rfl ?_
          refine jj_iinc (ls' := [some (jr (k)), some (ji (bits)), some (ji (n)), some (jr (k + 2)), some (ji (4)), some (ji ((j : Int) + 1)), some (jr (k + 10 + j))]) dX5_driveOff_43 rfl (by decide) rfl (by omega) rfl ?_
          refine jj_goto (tgt := 12) dX5_driveOff_46 (by decide) ?_
          refine jj_fgt (i := 6) (ls' := [some (jr (k)), some (ji (bits)), some (ji (n)), some (jr (k + 2)), some (ji (4)), some (ji ((j : Int) + 1)), none]) rfl ?_
          refine zz_st (s1 := f_X5_drv s k bits n (j + 1)) (by first | rfl | (simp only [f_X5_drv]; first | (rw [if_pos h34]; done) | (rw [if_neg h34]; done))) ?_
          exact ih12 (j + 1) (by first | assumption | omega) (by omega)
  refine zz_st (s1 := f_X5_drv s k bits n 0) (by first | rfl | (simp only [f_X5_drv]; first | (rw [if_pos h34]; done) | (rw [if_neg h34]; done))) ?_
  exact L12 _ 0 (by first | assumption | omega) (Nat.lt_succ_self _)

set_option maxRecDepth 100000 in
set_option maxHeartbeats 4000000 in
theorem c_X5_hangOnTop (g : jz_G) (s : jz_St) (k : Nat) (hk : jz_t k = .inl 5) (bits : Int) : jz_C g mX5_hangOnTop [jr (k), ji (bits)] s (jq_ve (f_X5_hot s k bits 7)) := by
  refine zz_C_of koX5_hangOnTop rfl (Nat.le_of_ble_eq_true rfl) ?_
  refine zz_pad 4 ?_
  show jz_Z g mX5_hangOnTop (jq_ve (f_X5_hot s k bits 7)) 0 [some (jr (k)), some (ji (bits)), none, none, none, none] [] s
  refine jj_aload_n dX5_hangOnTop_0 rfl ?_
  refine zz_getR dX5_hangOnTop_1 kf_X5_11 hk rfl ?_
  refine jj_astore_n (ls' := [some (jr (k)), some (ji (bits)), some (jr (k + 1)), none, none, none]) dX5_hangOnTop_4 (by decide) rfl rfl ?_
  refine jj_aload_n dX5_hangOnTop_5 rfl ?_
  refine zz_alen (z := 7) dX5_hangOnTop_6 (jz_t_sqL hk) (by decide) rfl (by decide) ?_
  refine jj_istore_n (ls' := [some (jr (k)), some (ji (bits)), some (jr (k + 1)), some (ji (7)), none, none]) dX5_hangOnTop_7 (by decide) rfl rfl ?_
  refine jj_iconst dX5_hangOnTop_8 (kk := ?_)
  refine jj_istore (ls' := [some (jr (k)), some (ji (bits)), some (jr (k + 1)), some (ji (7)), some (ji (0)), none]) dX5_hangOnTop_9 (by decide) rfl rfl ?_
  have L11 : ∀ (nn : Nat) (j : Nat) (hh11_0 : j ≤ 7), 7 - j < nn → jz_Z g mX5_hangOnTop (jq_ve (f_X5_hot s k bits 7)) 11 [some (jr (k)), some (ji (bits)), some (jr (k + 1)), some (ji (7)), some (ji ((j : Int))), none] [] (f_X5_hot s k bits j) := by
    intro nn
    induction nn with
    | zero => intro j hh11_0 hmz; exact absurd hmz (Nat.not_lt_zero _)
    | succ nn ih11 =>
      intro j hh11_0 hm11
      refine jj_iload dX5_hangOnTop_11 rfl ?_
      refine jj_iload_n dX5_hangOnTop_13 rfl ?_
      refine jj_icmp_ge (tgt := 48) dX5_hangOnTop_14 (by decide) (fun h14 => ?_) (fun h14 => ?_)
      · refine zz_retve dX5_hangOnTop_48 rfl (by decide) ?_
        · (obtain rfl : j = 7 := (by omega)); rfl
      · refine jj_aload_n dX5_hangOnTop_17 rfl ?_
        refine jj_iload dX5_hangOnTop_18 rfl ?_
        refine zz_leafld (k := k) (j := j) dX5_hangOnTop_20 hk (by omega) (by omega) ?_
        refine jj_astore (ls' := [some (jr (k)), some (ji (bits)), some (jr (k + 1)), some (ji (7)), some (ji ((j : Int))), some (jr (k + 3 + j))]) dX5_hangOnTop_21 (by decide) rfl rfl ?_
        refine jj_iload_n dX5_hangOnTop_23 rfl ?_
        refine jj_aload dX5_hangOnTop_24 rfl ?_
        refine zz_getN (z := ((j : Nat) : Int)) dX5_hangOnTop_26 kf_X5_70 (jz_t_leaf hk (by omega)) rfl rfl (jz_nm_leaf hk (by omega)) ?_
        refine jj_ishr dX5_hangOnTop_29 ?_
        refine jj_iconst dX5_hangOnTop_30 (kk := ?_)
        refine jj_iand dX5_hangOnTop_31 ?_
        refine jj_if_eq (tgt := 42) dX5_hangOnTop_32 (by decide) (fun h32 => ?_) (fun h32 => ?_)
        · refine jj_iinc (ls' := [some (jr (k)), some (ji (bits)), some (jr (k + 1)), some (ji (7)), some (ji ((j : Int) + 1)), some (jr (k + 3 + j))]) dX5_hangOnTop_42 rfl (by decide) rfl (by omega) rfl ?_
          refine jj_goto (tgt := 11) dX5_hangOnTop_45 (by decide) ?_
          refine jj_fgt (i := 5) (ls' := [some (jr (k)), some (ji (bits)), some (jr (k + 1)), some (ji (7)), some (ji ((j : Int) + 1)), none]) rfl ?_
          refine zz_st (s1 := f_X5_hot s k bits (j + 1)) (by first | rfl | (simp only [f_X5_hot]; first | (rw [if_pos h32]; done) | (rw [if_neg h32]; done))) ?_
          exact ih11 (j + 1) (by first | assumption | omega) (by omega)
        · refine jj_aload dX5_hangOnTop_35 rfl ?_
          refine jj_bipush dX5_hangOnTop_37 (kk := ?_)
          refine zz_putI dX5_hangOnTop_39 kw_X5_84 (jz_t_leaf hk (by omega)) rfl rfl ?_
          refine jj_iinc (ls' := [some (jr (k)), some (ji (bits)), some (jr (k + 1)), some (ji (7)), some (ji ((j : Int) + 1)), some (jr (k + 3 + j))]) dX5_hangOnTop_42 rfl (by decide) rfl (by omega) rfl ?_
          refine jj_goto (tgt := 11) dX5_hangOnTop_45 (by decide) ?_
          refine jj_fgt (i := 5) (ls' := [some (jr (k)), some (ji (bits)), some (jr (k + 1)), some (ji (7)), some (ji ((j : Int) + 1)), none]) rfl ?_
          refine zz_st (s1 := f_X5_hot s k bits (j + 1)) (by first | rfl | (simp only [f_X5_hot]; first | (rw [if_pos h32]; done) | (rw [if_neg h32]; done))) ?_
          exact ih11 (j + 1) (by first | assumption | omega) (by omega)
  refine zz_st (s1 := f_X5_hot s k bits 0) (by first | rfl | (simp only [f_X5_hot]; first | (rw [if_pos h32]; done) | (rw [if_neg h32]; done))) ?_
  exact L11 _ 0 (by first | assumption | omega) (Nat.lt_succ_self _)

theorem tea_o (s : jz_St) (k : Nat) (bits : Int) : ∀ j x i, (∀ m, m < j → x ≠ k + 3 + m) → f_X5_tea s k bits j x i = s x i := by
  intro j
  induction j with
  | zero => intro x i _; rfl
  | succ j ih =>
    intro x i h
    simp only [f_X5_tea]
    split
    · exact ih x i fun m hm => h m (by omega)
    · rw [jz_su_n (Or.inl (h j (by omega)))]
      exact ih x i fun m hm => h m (by omega)
set_option maxRecDepth 100000 in
set_option maxHeartbeats 4000000 in
theorem c_X5_tear (g : jz_G) (s : jz_St) (k : Nat) (hk : jz_t k = .inl 5) (bits : Int) (hR : ∀ j, j < 7 → 0 ≤ s (k + 3 + j) 5 ∧ s (k + 3 + j) 5 ≤ 1000) : jz_C g mX5_tear [jr (k), ji (bits)] s (jq_ve (f_X5_tea s k bits 7)) := by
  refine zz_C_of koX5_tear rfl (Nat.le_of_ble_eq_true rfl) ?_
  refine zz_pad 4 ?_
  show jz_Z g mX5_tear (jq_ve (f_X5_tea s k bits 7)) 0 [some (jr (k)), some (ji (bits)), none, none, none, none] [] s
  refine jj_aload_n dX5_tear_0 rfl ?_
  refine zz_getR dX5_tear_1 kf_X5_11 hk rfl ?_
  refine jj_astore_n (ls' := [some (jr (k)), some (ji (bits)), some (jr (k + 1)), none, none, none]) dX5_tear_4 (by decide) rfl rfl ?_
  refine jj_aload_n dX5_tear_5 rfl ?_
  refine zz_alen (z := 7) dX5_tear_6 (jz_t_sqL hk) (by decide) rfl (by decide) ?_
  refine jj_istore_n (ls' := [some (jr (k)), some (ji (bits)), some (jr (k + 1)), some (ji (7)), none, none]) dX5_tear_7 (by decide) rfl rfl ?_
  refine jj_iconst dX5_tear_8 (kk := ?_)
  refine jj_istore (ls' := [some (jr (k)), some (ji (bits)), some (jr (k + 1)), some (ji (7)), some (ji (0)), none]) dX5_tear_9 (by decide) rfl rfl ?_
  have L11 : ∀ (nn : Nat) (j : Nat) (hh11_0 : j ≤ 7), 7 - j < nn → jz_Z g mX5_tear (jq_ve (f_X5_tea s k bits 7)) 11 [some (jr (k)), some (ji (bits)), some (jr (k + 1)), some (ji (7)), some (ji ((j : Int))), none] [] (f_X5_tea s k bits j) := by
    intro nn
    induction nn with
    | zero => intro j hh11_0 hmz; exact absurd hmz (Nat.not_lt_zero _)
    | succ nn ih11 =>
      intro j hh11_0 hm11
      refine jj_iload dX5_tear_11 rfl ?_
      refine jj_iload_n dX5_tear_13 rfl ?_
      refine jj_icmp_ge (tgt := 52) dX5_tear_14 (by decide) (fun h14 => ?_) (fun h14 => ?_)
      · refine zz_retve dX5_tear_52 rfl (by decide) ?_
        · (obtain rfl : j = 7 := (by omega)); rfl
      · refine jj_aload_n dX5_tear_17 rfl ?_
        refine jj_iload dX5_tear_18 rfl ?_
        refine zz_leafld (k := k) (j := j) dX5_tear_20 hk (by omega) (by omega) ?_
        refine jj_astore (ls' := [some (jr (k)), some (ji (bits)), some (jr (k + 1)), some (ji (7)), some (ji ((j : Int))), some (jr (k + 3 + j))]) dX5_tear_21 (by decide) rfl rfl ?_
        refine jj_iload_n dX5_tear_23 rfl ?_
        refine jj_aload dX5_tear_24 rfl ?_
        refine zz_getN (z := ((j : Nat) : Int)) dX5_tear_26 kf_X5_70 (jz_t_leaf hk (by omega)) rfl rfl (jz_nm_leaf hk (by omega)) ?_
        refine jj_ishr dX5_tear_29 ?_
        refine jj_iconst dX5_tear_30 (kk := ?_)
        refine jj_iand dX5_tear_31 ?_
        refine jj_if_eq (tgt := 46) dX5_tear_32 (by decide) (fun h32 => ?_) (fun h32 => ?_)
        · refine jj_iinc (ls' := [some (jr (k)), some (ji (bits)), some (jr (k + 1)), some (ji (7)), some (ji ((j : Int) + 1)), some (jr (k + 3 + j))]) dX5_tear_46 rfl (by decide) rfl (by omega) rfl ?_
          refine jj_goto (tgt := 11) dX5_tear_49 (by decide) ?_
          refine jj_fgt (i := 5) (ls' := [some (jr (k)), some (ji (bits)), some (jr (k + 1)), some (ji (7)), some (ji ((j : Int) + 1)), none]) rfl ?_
          refine zz_st (s1 := f_X5_tea s k bits (j + 1)) (by first | rfl | (simp only [f_X5_tea]; first | (rw [if_pos h32]; done) | (rw [if_neg h32]; done))) ?_
          exact ih11 (j + 1) (by first | assumption | omega) (by omega)
        · refine jj_aload dX5_tear_35 rfl ?_
          refine jj_dup dX5_tear_37 (kk := ?_)
          refine zz_getI dX5_tear_38 kf_X5_53 (jz_t_leaf hk (by omega)) rfl rfl ?_
          refine jj_iconst dX5_tear_41 (kk := ?_)
          refine jj_idiv dX5_tear_42 (by decide) (by rw [tea_o s k bits j _ _ (fun m hm => by omega), Int.tdiv_eq_ediv_of_nonneg (hR j (by omega)).1]; have := hR j (by omega); omega) ?_
          refine zz_putI dX5_tear_43 kw_X5_53 (jz_t_leaf hk (by omega)) rfl rfl ?_
          refine jj_iinc (ls' := [some (jr (k)), some (ji (bits)), some (jr (k + 1)), some (ji (7)), some (ji ((j : Int) + 1)), some (jr (k + 3 + j))]) dX5_tear_46 rfl (by decide) rfl (by omega) rfl ?_
          refine jj_goto (tgt := 11) dX5_tear_49 (by decide) ?_
          refine jj_fgt (i := 5) (ls' := [some (jr (k)), some (ji (bits)), some (jr (k + 1)), some (ji (7)), some (ji ((j : Int) + 1)), none]) rfl ?_
          refine zz_st (s1 := f_X5_tea s k bits (j + 1)) (by first | rfl | (simp only [f_X5_tea]; first | (rw [if_pos h32]; done) | (rw [if_neg h32]; done))) ?_
          exact ih11 (j + 1) (by first | assumption | omega) (by omega)
  refine zz_st (s1 := f_X5_tea s k bits 0) (by first | rfl | (simp only [f_X5_tea]; first | (rw [if_pos h32]; done) | (rw [if_neg h32]; done))) ?_
  exact L11 _ 0 (by first | assumption | omega) (Nat.lt_succ_self _)

def f_X5_bfG (s : jz_St) (k : Nat) (x : Int) : jz_St := if x % 3 = 0 ∧ 0 < s k 3 then jz_su s (k + 10 + (x % s k 3).toNat) 3 2 else s
def f_X5_bfL (s : jz_St) (k : Nat) (x : Int) : jz_St := if x % 5 = 0 ∧ 0 < s k 2 then jz_su s (k + 3 + (x % s k 2).toNat) 5 (s (k + 3 + (x % s k 2).toNat) 2) else s
def f_X5_befall (s : jz_St) (k : Nat) (x : Int) : jz_St := f_X5_bfL (f_X5_bfG s k x) k x
theorem tm_e {x y : Int} (h : 0 ≤ x) : x.tmod y = x % y := Int.tmod_eq_emod_of_nonneg h
theorem em_b {x y : Int} (h : 0 < y) : 0 ≤ x % y ∧ x % y < y := ⟨Int.emod_nonneg _ (by omega), Int.emod_lt_of_pos _ h⟩
theorem bfG_2 (s : jz_St) (k : Nat) (x : Int) : f_X5_bfG s k x k 2 = s k 2 := by
  unfold f_X5_bfG
  split
  · exact jz_su_f (by decide)
  · rfl
set_option maxRecDepth 100000 in
set_option maxHeartbeats 4000000 in
theorem c_X5_befall (g : jz_G) (s : jz_St) (k : Nat) (hk : jz_t k = .inl 5) (x : Int) (hx : 0 ≤ x) (hL : s k 2 ≤ 7) (hG : s k 3 ≤ 4) : jz_C g mX5_befall [jr (k), ji (x)] s (jq_ve (f_X5_befall s k x)) := by
  refine zz_C_of koX5_befall rfl (Nat.le_of_ble_eq_true rfl) ?_
  refine zz_pad 2 ?_
  show jz_Z g mX5_befall (jq_ve (f_X5_befall s k x)) 0 [some (jr (k)), some (ji (x)), none, none] [] s
  have L37 : ∀ (s' : jz_St) (hh37_0 : s' = f_X5_bfG s k x), jz_Z g mX5_befall (jq_ve (f_X5_befall s k x)) 37 [some (jr (k)), some (ji (x)), none, none] [] s' := by
    intro s' hh37_0
    have e2 : s' k 2 = s k 2 := by rw [hh37_0]; exact bfG_2 s k x
    refine jj_iload_n dX5_befall_37 rfl ?_
    refine jj_iconst dX5_befall_38 (kk := ?_)
    refine jj_irem dX5_befall_39 (by decide) (by rw [tm_e hx]; omega) ?_
    refine zz_top (b := x % 5) (by exact tm_e hx) ?_
    refine jj_if_ne (tgt := 63) dX5_befall_40 (by decide) (fun h40 => ?_) (fun h40 => ?_)
    · refine jj_null dX5_befall_63 ?_
      refine jj_astore_nO (ls' := [some (jr (k)), some (ji (x)), none, some (jn)]) dX5_befall_64 (by decide) rfl rfl ?_
      refine jj_aload_nO dX5_befall_65 rfl ?_
      refine jj_ifnull (o := none) (tgt := 77) dX5_befall_66 (by decide) (fun _ => ?_) (fun _ h => by cases h)
      refine zz_retve dX5_befall_77 rfl (by decide) ?_
      · unfold f_X5_befall; rw [← hh37_0]; unfold f_X5_bfL; first | (rw [if_pos (by omega)]; done) | (rw [if_neg (by omega)]; done) | (exfalso; have := em_b (x := x) (y := s' k 2) (by omega); omega)
    · refine jj_aload_n dX5_befall_43 rfl ?_
      refine zz_getI dX5_befall_44 kf_X5_27 hk rfl rfl ?_
      refine jj_if_le (tgt := 63) dX5_befall_47 (by decide) (fun h47 => ?_) (fun h47 => ?_)
      · refine jj_null dX5_befall_63 ?_
        refine jj_astore_nO (ls' := [some (jr (k)), some (ji (x)), none, some (jn)]) dX5_befall_64 (by decide) rfl rfl ?_
        refine jj_aload_nO dX5_befall_65 rfl ?_
        refine jj_ifnull (o := none) (tgt := 77) dX5_befall_66 (by decide) (fun _ => ?_) (fun _ h => by cases h)
        refine zz_retve dX5_befall_77 rfl (by decide) ?_
        · unfold f_X5_befall; rw [← hh37_0]; unfold f_X5_bfL; first | (rw [if_pos (by omega)]; done) | (rw [if_neg (by omega)]; done) | (exfalso; have := em_b (x := x) (y := s' k 2) (by omega); omega)
      · refine jj_aload_n dX5_befall_50 rfl ?_
        refine jj_iload_n dX5_befall_51 rfl ?_
        refine jj_aload_n dX5_befall_52 rfl ?_
        refine zz_getI dX5_befall_53 kf_X5_27 hk rfl rfl ?_
        refine jj_irem dX5_befall_56 (by omega) (by rw [tm_e hx]; have := em_b (x := x) (y := s' k 2) (by omega); omega) ?_
        refine zz_top (b := x % s' k 2) (by exact tm_e hx) ?_
        refine zz_cVr (av := [ji (x % s' k 2)]) (st' := []) dX5_befall_57 kn_X5_62 kmX5_leafAt hk rfl rfl rfl (Nat.le_of_ble_eq_true rfl) (by decide) rfl (c_X5_leafAt g s' k hk (x % s' k 2)) (fun ho57 => ?_)
        by_cases hc57 : 0 ≤ (x % s' k 2) ∧ (x % s' k 2) < s' k 2 ∧ (x % s' k 2) < 7
        · refine jj_topO (o' := some (k + 3 + (x % s' k 2).toNat)) (if_pos hc57) ?_
          refine jj_goto (tgt := 64) dX5_befall_60 (by decide) ?_
          refine jj_astore_n (ls' := [some (jr (k)), some (ji (x)), none, some (jr (k + 3 + (x % s' k 2).toNat))]) dX5_befall_64 (by decide) rfl rfl ?_
          refine jj_aload_n dX5_befall_65 rfl ?_
          refine jj_ifnull (o := some (k + 3 + (x % s' k 2).toNat)) (tgt := 77) dX5_befall_66 (by decide) (fun h => by cases h) (fun _ _ => ?_)
          refine jj_aload_n dX5_befall_69 rfl ?_
          refine jj_aload_n dX5_befall_70 rfl ?_
          refine zz_getI dX5_befall_71 kf_X5_125 (jz_t_leaf hk (by omega)) rfl rfl ?_
          refine zz_putI dX5_befall_74 kw_X5_53 (jz_t_leaf hk (by omega)) rfl rfl ?_
          refine zz_retve dX5_befall_77 rfl (by decide) ?_
          · unfold f_X5_befall; rw [← hh37_0]; unfold f_X5_bfL; first | (rw [if_pos (by omega)]; done) | (rw [if_neg (by omega)]; done) | (exfalso; have := em_b (x := x) (y := s' k 2) (by omega); omega)
        · refine jj_topO (o' := none) (if_neg hc57) ?_
          refine jj_goto (tgt := 64) dX5_befall_60 (by decide) ?_
          refine jj_astore_nO (ls' := [some (jr (k)), some (ji (x)), none, some (jn)]) dX5_befall_64 (by decide) rfl rfl ?_
          refine jj_aload_nO dX5_befall_65 rfl ?_
          refine jj_ifnull (o := none) (tgt := 77) dX5_befall_66 (by decide) (fun _ => ?_) (fun _ h => by cases h)
          refine zz_retve dX5_befall_77 rfl (by decide) ?_
          · unfold f_X5_befall; rw [← hh37_0]; unfold f_X5_bfL; first | (rw [if_pos (by omega)]; done) | (rw [if_neg (by omega)]; done) | (exfalso; have := em_b (x := x) (y := s' k 2) (by omega); omega)
  refine jj_iload_n dX5_befall_0 rfl ?_
  refine jj_iconst dX5_befall_1 (kk := ?_)
  refine jj_irem dX5_befall_2 (by decide) (by rw [tm_e hx]; omega) ?_
  refine zz_top (b := x % 3) (by exact tm_e hx) ?_
  refine jj_if_ne (tgt := 26) dX5_befall_3 (by decide) (fun h3 => ?_) (fun h3 => ?_)
  · refine jj_null dX5_befall_26 ?_
    refine jj_astore_nO (ls' := [some (jr (k)), some (ji (x)), some (jn), none]) dX5_befall_27 (by decide) rfl rfl ?_
    refine jj_aload_nO dX5_befall_28 rfl ?_
    refine jj_ifnull (o := none) (tgt := 37) dX5_befall_29 (by decide) (fun _ => ?_) (fun _ h => by cases h)
    refine jj_fgt (i := 2) (ls' := [some (jr (k)), some (ji (x)), none, none]) rfl ?_
    exact L37 s (by first | (unfold f_X5_bfG; rw [if_pos (by omega)]; done) | (unfold f_X5_bfG; rw [if_neg (by omega)]; done) | (exfalso; have := em_b (x := x) (y := s k 3) (by omega); omega))
  · refine jj_aload_n dX5_befall_6 rfl ?_
    refine zz_getI dX5_befall_7 kf_X5_31 hk rfl rfl ?_
    refine jj_if_le (tgt := 26) dX5_befall_10 (by decide) (fun h10 => ?_) (fun h10 => ?_)
    · refine jj_null dX5_befall_26 ?_
      refine jj_astore_nO (ls' := [some (jr (k)), some (ji (x)), some (jn), none]) dX5_befall_27 (by decide) rfl rfl ?_
      refine jj_aload_nO dX5_befall_28 rfl ?_
      refine jj_ifnull (o := none) (tgt := 37) dX5_befall_29 (by decide) (fun _ => ?_) (fun _ h => by cases h)
      refine jj_fgt (i := 2) (ls' := [some (jr (k)), some (ji (x)), none, none]) rfl ?_
      exact L37 s (by first | (unfold f_X5_bfG; rw [if_pos (by omega)]; done) | (unfold f_X5_bfG; rw [if_neg (by omega)]; done) | (exfalso; have := em_b (x := x) (y := s k 3) (by omega); omega))
    · refine jj_aload_n dX5_befall_13 rfl ?_
      refine jj_iload_n dX5_befall_14 rfl ?_
      refine jj_aload_n dX5_befall_15 rfl ?_
      refine zz_getI dX5_befall_16 kf_X5_31 hk rfl rfl ?_
      refine jj_irem dX5_befall_19 (by omega) (by rw [tm_e hx]; have := em_b (x := x) (y := s k 3) (by omega); omega) ?_
      refine zz_top (b := x % s k 3) (by exact tm_e hx) ?_
      refine zz_cVr (av := [ji (x % s k 3)]) (st' := []) dX5_befall_20 kn_X5_121 kmX5_goatAt hk rfl rfl rfl (Nat.le_of_ble_eq_true rfl) (by decide) rfl (c_X5_goatAt g s k hk (x % s k 3)) (fun ho20 => ?_)
      by_cases hc20 : 0 ≤ (x % s k 3) ∧ (x % s k 3) < s k 3 ∧ (x % s k 3) < 4
      · refine jj_topO (o' := some (k + 10 + (x % s k 3).toNat)) (if_pos hc20) ?_
        refine jj_goto (tgt := 27) dX5_befall_23 (by decide) ?_
        refine jj_astore_n (ls' := [some (jr (k)), some (ji (x)), some (jr (k + 10 + (x % s k 3).toNat)), none]) dX5_befall_27 (by decide) rfl rfl ?_
        refine jj_aload_n dX5_befall_28 rfl ?_
        refine jj_ifnull (o := some (k + 10 + (x % s k 3).toNat)) (tgt := 37) dX5_befall_29 (by decide) (fun h => by cases h) (fun _ _ => ?_)
        refine jj_aload_n dX5_befall_32 rfl ?_
        refine jj_iconst dX5_befall_33 (kk := ?_)
        refine zz_putI dX5_befall_34 kw_X5_56 (jz_t_goat hk (by omega)) rfl rfl ?_
        refine jj_fgt (i := 2) (ls' := [some (jr (k)), some (ji (x)), none, none]) rfl ?_
        exact L37 (jz_su s (k + 10 + (x % s k 3).toNat) 3 (2)) (by first | (unfold f_X5_bfG; rw [if_pos (by omega)]; done) | (unfold f_X5_bfG; rw [if_neg (by omega)]; done) | (exfalso; have := em_b (x := x) (y := s k 3) (by omega); omega))
      · refine jj_topO (o' := none) (if_neg hc20) ?_
        refine jj_goto (tgt := 27) dX5_befall_23 (by decide) ?_
        refine jj_astore_nO (ls' := [some (jr (k)), some (ji (x)), some (jn), none]) dX5_befall_27 (by decide) rfl rfl ?_
        refine jj_aload_nO dX5_befall_28 rfl ?_
        refine jj_ifnull (o := none) (tgt := 37) dX5_befall_29 (by decide) (fun _ => ?_) (fun _ h => by cases h)
        refine jj_fgt (i := 2) (ls' := [some (jr (k)), some (ji (x)), none, none]) rfl ?_
        exact L37 s (by first | (unfold f_X5_bfG; rw [if_pos (by omega)]; done) | (unfold f_X5_bfG; rw [if_neg (by omega)]; done) | (exfalso; have := em_b (x := x) (y := s k 3) (by omega); omega))

