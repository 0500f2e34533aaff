set_option maxRecDepth 100000 in
set_option maxHeartbeats 4000000 in
theorem c_X8_isSo (g : jz_G) (s : jz_St) (l : Nat) (li : Int) (hl : li = l) (f : Nat) (fi : Int) (hf : fi = f) (n : Nat) (ni : Int) (hn : ni = n) (b : Int) (hm : mRw (s 422) b) (hb : b + n ≤ 100000) (h : l < 7 ∧ f + n ≤ 320)  : jz_C g mX8_isSo [jr (416), ji (li), ji (fi), ji (ni)] s (jq_ie (rSo s l f n) (f_X8_hoursOf s 422 n)) := by
  refine zz_C_of koX8_isSo rfl (Nat.le_of_ble_eq_true rfl) ?_
  refine zz_pad 3 ?_
  show jz_Z g mX8_isSo (jq_ie (rSo s l f n) (f_X8_hoursOf s 422 n)) 0 [some (jr (416)), some (ji (li)), some (ji (fi)), some (ji (ni)), none, none, none] [] s
  refine jj_iconst dX8_isSo_0 (kk := ?_)
  refine jj_istore (ls' := [some (jr (416)), some (ji (li)), some (ji (fi)), some (ji (ni)), some (ji (1)), none, none]) dX8_isSo_1 (by decide) rfl rfl ?_
  refine jj_iconst dX8_isSo_3 (kk := ?_)
  refine jj_istore (ls' := [some (jr (416)), some (ji (li)), some (ji (fi)), some (ji (ni)), some (ji (1)), some (ji (0)), none]) dX8_isSo_4 (by decide) rfl rfl ?_
  have L6 : ∀ (nn : Nat) (j : Nat) (acc : Int) (hh6_0 : j ≤ n) (hh6_1 : acc = rSo s l f j), n - j < nn → jz_Z g mX8_isSo (jq_ie (rSo s l f n) (f_X8_hoursOf s 422 n)) 6 [some (jr (416)), some (ji (li)), some (ji (fi)), some (ji (ni)), some (ji (acc)), some (ji ((j : Int))), none] [] (f_X8_hoursOf s 422 j) := by
    intro nn
    induction nn with
    | zero => intro j acc hh6_0 hh6_1 hmz; exact absurd hmz (Nat.not_lt_zero _)
    | succ nn ih6 =>
      intro j acc hh6_0 hh6_1 hm6
      refine jj_iload dX8_isSo_6 rfl ?_
      refine jj_iload_n dX8_isSo_8 rfl ?_
      refine jj_icmp_ge (tgt := 61) dX8_isSo_9 (by decide) (fun h9 => ?_) (fun h9 => ?_)
      · refine jj_iload dX8_isSo_61 rfl ?_
        refine zz_retze dX8_isSo_63 rfl (by rw [hh6_1]; exact rSo_01 _ _ _ _) (by decide) ?_ ?_
        · (obtain rfl : j = n := (by omega)); exact hh6_1
        · (obtain rfl : j = n := (by omega)); rfl
      · refine jj_aload_n dX8_isSo_12 rfl ?_
        refine jj_aload_n dX8_isSo_13 rfl ?_
        refine zz_getR dX8_isSo_14 kf_X8_25 tt416 rfl ?_
        refine zz_cVi (av := [jr (422)]) (st' := []) dX8_isSo_17 kn_X8_169 kmX8_hour tt416 rfl rfl rfl (Nat.le_of_ble_eq_true rfl) (by decide) rfl (c_X8_hour g (f_X8_hoursOf s 422 j) 422 (Or.inr rfl) (b + j) (hoursOf_mr (Or.inr rfl) hm j) (by omega)) (fun hr17 ho17 => ?_)
        refine jj_istore (ls' := [some (jr (416)), some (ji (li)), some (ji (fi)), some (ji (ni)), some (ji (acc)), some (ji ((j : Int))), some (ji (v_X8_hour (f_X8_hoursOf s 422 j) 422))]) dX8_isSo_20 (by decide) rfl rfl ?_
        have L53 : ∀ (d : Int) (hh53_0 : d = if acc ≠ 0 ∧ (f_X8_hoursOf s 422 (j + 1)) 422 (6 + 5 * l + 4) = s 419 (f + j) then 1 else 0), jz_Z g mX8_isSo (jq_ie (rSo s l f n) (f_X8_hoursOf s 422 n)) 53 [some (jr (416)), some (ji (li)), some (ji (fi)), some (ji (ni)), some (ji (acc)), some (ji ((j : Int))), some (ji (v_X8_hour (f_X8_hoursOf s 422 j) 422))] [ji (d)] (f_X8_hoursOf s 422 (j + 1)) := by
          intro d hh53_0
          refine jj_istore (ls' := [some (jr (416)), some (ji (li)), some (ji (fi)), some (ji (ni)), some (ji (d)), some (ji ((j : Int))), some (ji (v_X8_hour (f_X8_hoursOf s 422 j) 422))]) dX8_isSo_53 (by decide) rfl rfl ?_
          refine jj_iinc (ls' := [some (jr (416)), some (ji (li)), some (ji (fi)), some (ji (ni)), some (ji (d)), some (ji ((j : Int) + 1)), some (ji (v_X8_hour (f_X8_hoursOf s 422 j) 422))]) dX8_isSo_55 rfl (by decide) rfl (by omega) rfl ?_
          refine jj_goto (tgt := 6) dX8_isSo_58 (by decide) ?_
          refine jj_fgt (i := 6) (ls' := [some (jr (416)), some (ji (li)), some (ji (fi)), some (ji (ni)), some (ji (d)), some (ji ((j : Int) + 1)), none]) rfl ?_
          exact ih6 (j + 1) d (by omega) (by simp only [rSo]; rw [← hh6_1]; exact hh53_0) (by omega)
        refine zz_st (s1 := f_X8_hoursOf s 422 (j + 1)) (by rfl) ?_
        refine jj_iload dX8_isSo_22 rfl ?_
        refine jj_if_eq (tgt := 52) dX8_isSo_24 (by decide) (fun h24 => ?_) (fun h24 => ?_)
        · refine jj_iconst dX8_isSo_52 (kk := ?_)
          exact L53 0 (by first | (rw [if_pos (by omega)]; done) | (rw [if_neg (by omega)]; done))
        · refine jj_aload_n dX8_isSo_27 rfl ?_
          refine zz_getR dX8_isSo_28 kf_X8_25 tt416 rfl ?_
          refine jj_iload_n dX8_isSo_31 rfl ?_
          refine jj_iconst dX8_isSo_32 (kk := ?_)
          refine zz_cSi (av := [jr (422), ji (li), ji (4)]) (st' := []) dX8_isSo_33 kn_X8_155 kmX8_of rfl rfl (Nat.le_of_ble_eq_true rfl) (by decide) rfl (c_X8_of g (f_X8_hoursOf s 422 (j + 1)) 422 (Or.inr rfl) li 4 (6 + 5 * l + 4) (by omega) (by omega)) (fun hr33 ho33 => ?_)
          refine jj_aload_n dX8_isSo_36 rfl ?_
          refine zz_getR dX8_isSo_37 kf_X8_16 tt416 rfl ?_
          refine jj_iload_n dX8_isSo_40 rfl ?_
          refine jj_iload dX8_isSo_41 rfl ?_
          refine jj_iadd dX8_isSo_43 (by omega) ?_
          refine zz_ialdN (j := f + j) dX8_isSo_44 tt419 (by omega) (by omega) ?_
          refine zz_top (b := s 419 (f + j)) (by rw [hoursOf_o (by decide) (by decide) (by decide)]) ?_
          refine jj_icmp_ne (tgt := 52) dX8_isSo_45 (by decide) (fun h45 => ?_) (fun h45 => ?_)
          · refine jj_iconst dX8_isSo_52 (kk := ?_)
            exact L53 0 (by first | (rw [if_pos (by omega)]; done) | (rw [if_neg (by omega)]; done))
          · refine jj_iconst dX8_isSo_48 (kk := ?_)
            refine jj_goto (tgt := 53) dX8_isSo_49 (by decide) ?_
            exact L53 1 (by first | (rw [if_pos (by omega)]; done) | (rw [if_neg (by omega)]; done))
  refine zz_st (s1 := f_X8_hoursOf s 422 0) (by rfl) ?_
  exact L6 _ 0 1 (by omega) (by rfl) (Nat.lt_succ_self _)

