set_option maxRecDepth 100000 in
set_option maxHeartbeats 4000000 in
theorem c_X8_voids (g : jz_G) (s : jz_St) (r : Nat) (hr : r = 420 ∨ r = 422) (b : Int) (hm : mRw (s r) b)  : jz_C g mX8_voids [jr (r)] s (jq_ie (rVo (s r) (s r 3).toNat) s) := by
  refine zz_C_of koX8_voids rfl (Nat.le_of_ble_eq_true rfl) ?_
  refine zz_pad 2 ?_
  show jz_Z g mX8_voids (jq_ie (rVo (s r) (s r 3).toNat) s) 0 [some (jr (r)), none, none] [] s
  have hmh := mRw_h hm
  refine jj_iconst dX8_voids_0 (kk := ?_)
  refine jj_istore_n (ls' := [some (jr (r)), some (ji (0)), none]) dX8_voids_1 (by decide) rfl rfl ?_
  refine jj_iconst dX8_voids_2 (kk := ?_)
  refine jj_istore_n (ls' := [some (jr (r)), some (ji (0)), some (ji (0))]) dX8_voids_3 (by decide) rfl rfl ?_
  have L4 : ∀ (nn : Nat) (j : Nat) (acc : Int) (hh4_0 : (j : Int) ≤ s r 3) (hh4_1 : acc = rVo (s r) j), 7 - j < nn → jz_Z g mX8_voids (jq_ie (rVo (s r) (s r 3).toNat) s) 4 [some (jr (r)), some (ji (acc)), some (ji ((j : Int)))] [] s := by
    intro nn
    induction nn with
    | zero => intro j acc hh4_0 hh4_1 hmz; exact absurd hmz (Nat.not_lt_zero _)
    | succ nn ih4 =>
      intro j acc hh4_0 hh4_1 hm4
      have hv := rVo_rng (s r) j
      refine jj_iload_n dX8_voids_4 rfl ?_
      refine jj_aload_n dX8_voids_5 rfl ?_
      refine jj_iconst dX8_voids_6 (kk := ?_)
      refine zz_ialdN (j := 3) dX8_voids_7 (tRw hr) (by omega) (by omega) ?_
      refine jj_icmp_ge (tgt := 34) dX8_voids_8 (by decide) (fun h8 => ?_) (fun h8 => ?_)
      · refine jj_iload_n dX8_voids_34 rfl ?_
        refine zz_retie dX8_voids_35 rfl (by decide) ?_ ?_
        · rw [show (s r 3).toNat = j by omega]; exact hh4_1
        · rfl
      · refine jj_iload_n dX8_voids_11 rfl ?_
        have L26 : ∀ (d : Int) (hh26_0 : d = if s r (6 + 5 * j + 4) = 0 then 1 else 0) (hh26_1 : 0 ≤ d ∧ d ≤ 1), jz_Z g mX8_voids (jq_ie (rVo (s r) (s r 3).toNat) s) 26 [some (jr (r)), some (ji (acc)), some (ji ((j : Int)))] [ji (d), ji (acc)] s := by
          intro d hh26_0 hh26_1
          refine jj_iadd dX8_voids_26 (by omega) ?_
          refine jj_istore_n (ls' := [some (jr (r)), some (ji (acc + d)), some (ji ((j : Int)))]) dX8_voids_27 (by decide) rfl rfl ?_
          refine jj_iinc (ls' := [some (jr (r)), some (ji (acc + d)), some (ji ((j : Int) + 1))]) dX8_voids_28 rfl (by decide) rfl (by omega) rfl ?_
          refine jj_goto (tgt := 4) dX8_voids_31 (by decide) ?_
          exact ih4 (j + 1) (acc + d) (by omega) (by simp only [rVo]; rw [← hh4_1, ← hh26_0]) (by omega)
        refine jj_aload_n dX8_voids_12 rfl ?_
        refine jj_iload_n dX8_voids_13 rfl ?_
        refine jj_iconst dX8_voids_14 (kk := ?_)
        refine zz_cSi (av := [jr (r), ji ((j : Int)), ji (4)]) (st' := [ji (acc)]) dX8_voids_15 kn_X8_155 kmX8_of rfl rfl (Nat.le_of_ble_eq_true rfl) (by decide) rfl (c_X8_of g s r hr (j : Int) 4 (6 + 5 * j + 4) (by omega) (by omega)) (fun hr15 ho15 => ?_)
        refine jj_if_ne (tgt := 25) dX8_voids_18 (by decide) (fun h18 => ?_) (fun h18 => ?_)
        · refine jj_iconst dX8_voids_25 (kk := ?_)
          exact L26 0 (by first | (rw [if_pos (by omega)]; done) | (rw [if_neg (by omega)]; done)) (by omega)
        · refine jj_iconst dX8_voids_21 (kk := ?_)
          refine jj_goto (tgt := 26) dX8_voids_22 (by decide) ?_
          exact L26 1 (by first | (rw [if_pos (by omega)]; done) | (rw [if_neg (by omega)]; done)) (by omega)
  exact L4 _ 0 0 (by omega) (by rfl) (Nat.lt_succ_self _)

