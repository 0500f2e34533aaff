set_option maxRecDepth 100000 in
set_option maxHeartbeats 4000000 in
theorem c_X7_fewest (g : jz_G) (s : jz_St) (al : Nat) (hal : al < 128) (b : Int) (dr : Bool) (hdr : dr = true ↔ ¬ b = 0) (told : Int) (n : Nat) (hn : n ≤ 60) (h999 : s 344 6 ≤ 999) (hN : jRng s 344 (9 * s 344 6)) : jz_C g mX7_fewest [jr (0), ji ((al : Int)), ji (b), ji (told), ji ((n : Int))] s (jq_ie (fON (fFwO s al dr told n 0 8).1) (fFwO s al dr told n 0 8).2) := by
  refine zz_C_of koX7_fewest rfl (Nat.le_of_ble_eq_true rfl) ?_
  refine zz_pad 2 ?_
  show jz_Z g mX7_fewest (jq_ie (fON (fFwO s al dr told n 0 8).1) (fFwO s al dr told n 0 8).2) 0 [some (jr (0)), some (ji ((al : Int))), some (ji (b)), some (ji (told)), some (ji ((n : Int))), none, none] [] s
  refine jj_iconst dX7_fewest_0 (kk := ?_)
  refine jj_istore (ls' := [some (jr (0)), some (ji ((al : Int))), some (ji (b)), some (ji (told)), some (ji ((n : Int))), some (ji (0)), none]) dX7_fewest_1 (by decide) rfl rfl ?_
  have L3 : ∀ (nn : Nat) (j : Nat) (s' : jz_St) (hh3_0 : j ≤ 8) (hh3_1 : fFwO s al dr told n 0 8 = fFwO s' al dr told n j (8 - j)) (hh3_2 : ∀ x, jOff 358 x → s' x = s x), 8 - j < nn → jz_Z g mX7_fewest (jq_ie (fON (fFwO s al dr told n 0 8).1) (fFwO s al dr told n 0 8).2) 3 [some (jr (0)), some (ji ((al : Int))), some (ji (b)), some (ji (told)), some (ji ((n : Int))), some (ji ((j : Int))), none] [] s' := by
    intro nn
    induction nn with
    | zero => intro j s' hh3_0 hh3_1 hh3_2 hmz; exact absurd hmz (Nat.not_lt_zero _)
    | succ nn ih3 =>
      intro j s' hh3_0 hh3_1 hh3_2 hm3
      refine jj_iload dX7_fewest_3 rfl ?_
      refine jj_bipush dX7_fewest_5 (kk := ?_)
      refine jj_icmp_gt (tgt := 107) dX7_fewest_7 (by decide) (fun h7 => ?_) (fun h7 => ?_)
      · refine jj_ldc dX7_fewest_107 kk_X7_202 (kk := ?_)
        refine zz_retie dX7_fewest_109 rfl (by decide) ?_ ?_
        · rw [hh3_1, show 8 - j = 0 by omega]; rfl
        · rw [hh3_1, show 8 - j = 0 by omega]; rfl
      · refine jj_iconst dX7_fewest_10 (kk := ?_)
        refine jj_istore (ls' := [some (jr (0)), some (ji ((al : Int))), some (ji (b)), some (ji (told)), some (ji ((n : Int))), some (ji ((j : Int))), some (ji (0))]) dX7_fewest_11 (by decide) rfl rfl ?_
        have L13 : ∀ (nn : Nat) (c : Nat) (s2 : jz_St) (hh13_0 : c ≤ al + 1) (hh13_1 : fFwI s' al dr told n j 0 (al + 1) = fFwI s2 al dr told n j c (al + 1 - c)) (hh13_2 : ∀ x, jOff 358 x → s2 x = s x), al + 1 - c < nn → jz_Z g mX7_fewest (jq_ie (fON (fFwO s al dr told n 0 8).1) (fFwO s al dr told n 0 8).2) 13 [some (jr (0)), some (ji ((al : Int))), some (ji (b)), some (ji (told)), some (ji ((n : Int))), some (ji ((j : Int))), some (ji ((c : Int)))] [] s2 := by
          intro nn
          induction nn with
          | zero => intro c s2 hh13_0 hh13_1 hh13_2 hmz; exact absurd hmz (Nat.not_lt_zero _)
          | succ nn ih13 =>
            intro c s2 hh13_0 hh13_1 hh13_2 hm13
            have hS' : jRng s2 344 (9 * s 344 6) := jRng_off hN (fun x _ _ => hh13_2 x (by unfold jOff; omega))
            have h6' : s2 344 6 = s 344 6 := by rw [hh13_2 344 (by unfold jOff; omega)]
            have hT' := take_rng (s := s2) (k := 358) (by decide) hS'
            refine jj_iload dX7_fewest_13 rfl ?_
            refine jj_iload_n dX7_fewest_15 rfl ?_
            refine jj_icmp_gt (tgt := 101) dX7_fewest_16 (by decide) (fun h16 => ?_) (fun h16 => ?_)
            · refine jj_iinc (ls' := [some (jr (0)), some (ji ((al : Int))), some (ji (b)), some (ji (told)), some (ji ((n : Int))), some (ji ((j : Int) + 1)), some (ji ((c : Int)))]) dX7_fewest_101 rfl (by decide) rfl (by omega) rfl ?_
              refine jj_goto (tgt := 3) dX7_fewest_104 (by decide) ?_
              refine jj_fgt (i := 6) (ls' := [some (jr (0)), some (ji ((al : Int))), some (ji (b)), some (ji (told)), some (ji ((n : Int))), some (ji ((j : Int) + 1)), none]) rfl ?_
              exact ih3 (j + 1) s2 (by omega) (by rw [hh3_1, show 8 - j = (8 - (j + 1)) + 1 by omega]; simp only [fFwO]; rw [hh13_1, show al + 1 - c = 0 by omega]; rfl) (by exact hh13_2) (by omega)
            · have L95 : ∀ (s4 : jz_St) (hh95_0 : fFwI s2 al dr told n j c (al + 1 - c) = fFwI s4 al dr told n j (c + 1) (al - c)) (hh95_1 : ∀ x, jOff 358 x → s4 x = s x), jz_Z g mX7_fewest (jq_ie (fON (fFwO s al dr told n 0 8).1) (fFwO s al dr told n 0 8).2) 95 [some (jr (0)), some (ji ((al : Int))), some (ji (b)), some (ji (told)), some (ji ((n : Int))), some (ji ((j : Int))), some (ji ((c : Int)))] [] s4 := by
                intro s4 hh95_0 hh95_1
                refine jj_iinc (ls' := [some (jr (0)), some (ji ((al : Int))), some (ji (b)), some (ji (told)), some (ji ((n : Int))), some (ji ((j : Int))), some (ji ((c : Int) + 1))]) dX7_fewest_95 rfl (by decide) rfl (by omega) rfl ?_
                refine jj_goto (tgt := 13) dX7_fewest_98 (by decide) ?_
                exact ih13 (c + 1) s4 (by omega) (by rw [hh13_1, hh95_0, show al + 1 - (c + 1) = al - c by omega]) (by exact hh95_1) (by omega)
              refine jj_iload dX7_fewest_19 rfl ?_
              refine zz_cSi (av := [ji ((c : Int))]) (st' := []) dX7_fewest_21 kn_X7_233 kmJ6_bitCount_0f7a4 rfl rfl (Nat.le_of_ble_eq_true rfl) (by decide) rfl (c_bitc g s2 (c : Int) (by omega)) (fun hr21 ho21 => ?_)
              refine zz_top (b := fBC c) (by rw [Int.toNat_natCast]) ?_
              refine jj_iload dX7_fewest_24 rfl ?_
              refine jj_icmp_ne (tgt := 95) dX7_fewest_26 (by decide) (fun h26 => ?_) (fun h26 => ?_)
              · exact L95 s2 (by rw [show al + 1 - c = (al - c) + 1 by omega]; simp only [fFwI]; rw [if_neg (fun q => h26 q.1)]) (by exact hh13_2)
              · refine jj_iload dX7_fewest_29 rfl ?_
                refine jj_iload_n dX7_fewest_31 rfl ?_
                refine jj_iconst dX7_fewest_32 (kk := ?_)
                refine jj_ixor dX7_fewest_33 ?_
                refine jj_iand dX7_fewest_34 ?_
                refine jj_if_eq (tgt := 41) dX7_fewest_35 (by decide) (fun h35 => ?_) (fun h35 => ?_)
                · have L79 : ∀ (s3 : jz_St) (hh79_0 : s3 = if dr then f_X5_drv (f_X5_take s2 358 344) 358 c n 4 else f_X5_hot (f_X5_take s2 358 344) 358 c 7), jz_Z g mX7_fewest (jq_ie (fON (fFwO s al dr told n 0 8).1) (fFwO s al dr told n 0 8).2) 79 [some (jr (0)), some (ji ((al : Int))), some (ji (b)), some (ji (told)), some (ji ((n : Int))), some (ji ((j : Int))), some (ji ((c : Int)))] [] s3 := by
                    intro s3 hh79_0
                    have hR3 : jRng s3 358 (s2 344 6) := by rw [hh79_0]; split; (· exact drv_rng hT' (by omega) 4 (by omega)); (· exact hot_rng hT' 7 (by omega))
                    refine jj_aload_n dX7_fewest_79 rfl ?_
                    refine zz_getR dX7_fewest_80 kf_X7_43 tt0 rfl ?_
                    refine jj_iload_n dX7_fewest_83 rfl ?_
                    refine jj_iload dX7_fewest_84 rfl ?_
                    refine zz_cVi (av := [ji (told), ji ((n : Int))]) (st' := []) dX7_fewest_86 kn_X7_320 kmX5_keepsInForce tt358 rfl rfl rfl (Nat.le_of_ble_eq_true rfl) (by decide) rfl (c_X5_keepsInForce g s3 358 tt358 told n (s2 344 6) (by omega) hR3) (fun hr86 ho86 => ?_)
                    refine jj_if_eq (tgt := 95) dX7_fewest_89 (by decide) (fun h89 => ?_) (fun h89 => ?_)
                    · exact L95 ((fKeep s3 358 told n).2) (by rw [show al + 1 - c = (al - c) + 1 by omega]; simp only [fFwI]; rw [if_pos ⟨h26, h35⟩, if_pos (by unfold fAtt; rw [← hh79_0]; exact h89)]; unfold fAtt; rw [← hh79_0]) (by intro x hx; rw [show (fKeep s3 358 told n).2 = (fAtt s2 dr told n c).2 by unfold fAtt; rw [← hh79_0], att_off hx]; exact hh13_2 x hx)
                    · refine jj_iload dX7_fewest_92 rfl ?_
                      refine zz_retie dX7_fewest_94 rfl (by decide) ?_ ?_
                      · rw [hh3_1, show 8 - j = (8 - (j + 1)) + 1 by omega]; simp only [fFwO]; rw [hh13_1, show al + 1 - c = (al - c) + 1 by omega]; simp only [fFwI]; rw [if_pos ⟨h26, h35⟩, if_neg (by unfold fAtt; rw [← hh79_0]; exact h89)]; rfl
                      · rw [hh3_1, show 8 - j = (8 - (j + 1)) + 1 by omega]; simp only [fFwO]; rw [hh13_1, show al + 1 - c = (al - c) + 1 by omega]; simp only [fFwI]; rw [if_pos ⟨h26, h35⟩, if_neg (by unfold fAtt; rw [← hh79_0]; exact h89)]; unfold fAtt; rw [← hh79_0]
                  refine jj_aload_n dX7_fewest_41 rfl ?_
                  refine zz_getR dX7_fewest_42 kf_X7_43 tt0 rfl ?_
                  refine jj_aload_n dX7_fewest_45 rfl ?_
                  refine zz_getR dX7_fewest_46 kf_X7_39 tt0 rfl ?_
                  refine zz_cVv (av := [jr (344)]) (st' := []) dX7_fewest_49 kn_X7_122 kmX5_take tt358 rfl rfl rfl (Nat.le_of_ble_eq_true rfl) (by decide) rfl (c_X5_take g s2 358 344 tt358 tt344) (fun ho49 => ?_)
                  refine jj_iload_n dX7_fewest_52 rfl ?_
                  refine jj_if_eq (tgt := 70) dX7_fewest_53 (by decide) (fun h53 => ?_) (fun h53 => ?_)
                  · refine jj_aload_n dX7_fewest_70 rfl ?_
                    refine zz_getR dX7_fewest_71 kf_X7_43 tt0 rfl ?_
                    refine jj_iload dX7_fewest_74 rfl ?_
                    refine zz_cVv (av := [ji ((c : Int))]) (st' := []) dX7_fewest_76 kn_X7_317 kmX5_hangOnTop tt358 rfl rfl rfl (Nat.le_of_ble_eq_true rfl) (by decide) rfl (c_X5_hangOnTop g (f_X5_take s2 358 344) 358 tt358 (c : Int)) (fun ho76 => ?_)
                    exact L79 (f_X5_hot (f_X5_take s2 358 344) 358 (c : Int) 7) (by first | (rw [if_pos (hdr.2 h53)]; done) | (rw [if_neg (fun q => hdr.1 q h53)]; done))
                  · refine jj_aload_n dX7_fewest_56 rfl ?_
                    refine zz_getR dX7_fewest_57 kf_X7_43 tt0 rfl ?_
                    refine jj_iload dX7_fewest_60 rfl ?_
                    refine jj_iload dX7_fewest_62 rfl ?_
                    refine zz_cVv (av := [ji ((c : Int)), ji ((n : Int))]) (st' := []) dX7_fewest_64 kn_X7_241 kmX5_driveOff tt358 rfl rfl rfl (Nat.le_of_ble_eq_true rfl) (by decide) rfl (c_X5_driveOff g (f_X5_take s2 358 344) 358 tt358 (c : Int) (n : Int)) (fun ho64 => ?_)
                    refine jj_goto (tgt := 79) dX7_fewest_67 (by decide) ?_
                    exact L79 (f_X5_drv (f_X5_take s2 358 344) 358 (c : Int) (n : Int) 4) (by rw [if_pos (hdr.2 h53)])
                · refine jj_goto (tgt := 95) dX7_fewest_38 (by decide) ?_
                  exact L95 s2 (by rw [show al + 1 - c = (al - c) + 1 by omega]; simp only [fFwI]; rw [if_neg (fun q => h35 q.2)]) (by exact hh13_2)
        exact L13 _ 0 s' (by omega) (by rfl) (by exact hh3_2) (Nat.lt_succ_self _)
  exact L3 _ 0 s (by omega) (by rfl) (by intro x _; rfl) (Nat.lt_succ_self _)

def v_X7_hangs (s : jz_St) (l n w : Int) : Int := if s 344 2 ≤ 0 then -1000002 else if (0 ≤ l ∧ l < jshl 1 (s 344 2)) ∧ (1 ≤ n ∧ n ≤ 30) ∧ 0 ≤ w ∧ w ≤ 1 then (if w = 0 ∧ fON (fFwO s (fNV s 344 7).toNat false l n.toNat 0 8).1 ≠ -1000000 then fBC (fON (fFwO s (fNV s 344 7).toNat false l n.toNat 0 8).1).toNat else fON (fFwO s (fNV s 344 7).toNat false l n.toNat 0 8).1) else -1000001
def f_X7_hangs (s : jz_St) (l n w : Int) : jz_St := if s 344 2 ≤ 0 then s else if (0 ≤ l ∧ l < jshl 1 (s 344 2)) ∧ (1 ≤ n ∧ n ≤ 30) ∧ 0 ≤ w ∧ w ≤ 1 then (fFwO s (fNV s 344 7).toNat false l n.toNat 0 8).2 else s
set_option maxRecDepth 100000 in
set_option maxHeartbeats 4000000 in
theorem c_X7_hangs (g : jz_G) (s : jz_St) (l n w : Int) (hI : jInv s)  : jz_C g mX7_hangs [jr (0), ji (l), ji (n), ji (w)] s (jq_ie (v_X7_hangs s l n w) (f_X7_hangs s l n w)) := by
  refine zz_C_of koX7_hangs rfl (Nat.le_of_ble_eq_true rfl) ?_
  refine zz_pad 1 ?_
  show jz_Z g mX7_hangs (jq_ie (v_X7_hangs s l n w) (f_X7_hangs s l n w)) 0 [some (jr (0)), some (ji (l)), some (ji (n)), some (ji (w)), none] [] s
  obtain ⟨hN, hH, hP1, hP2, hT, hRw⟩ := hI
  have hal := fNV_r s 344
  have hon := fwO_on (s := s) (al := (fNV s 344 7).toNat) (dr := false) (told := l) (n := n.toNat) (m := 8) (many := 0) (by omega)
  refine jj_aload_n dX7_hangs_0 rfl ?_
  refine zz_getR dX7_hangs_1 kf_X7_39 tt0 rfl ?_
  refine zz_cVi (av := []) (st' := []) dX7_hangs_4 kn_X7_139 kmX5_isThere tt344 rfl rfl rfl (Nat.le_of_ble_eq_true rfl) (by decide) rfl (c_X5_isThere g s 344 tt344) (fun hr4 ho4 => ?_)
  refine jj_if_ne (tgt := 13) dX7_hangs_7 (by decide) (fun h7 => ?_) (fun h7 => ?_)
  · have hg7 := by_t h7
    refine jj_aload_n dX7_hangs_13 rfl ?_
    refine zz_getR dX7_hangs_14 kf_X7_39 tt0 rfl ?_
    refine jj_iload_n dX7_hangs_17 rfl ?_
    refine zz_cVi (av := [ji (l)]) (st' := []) dX7_hangs_18 kn_X7_223 kmX5_hasLeaves tt344 rfl rfl rfl (Nat.le_of_ble_eq_true rfl) (by decide) rfl (c_X5_hasLeaves g s 344 tt344 l) (fun hr18 ho18 => ?_)
    refine jj_if_eq (tgt := 43) dX7_hangs_21 (by decide) (fun h21 => ?_) (fun h21 => ?_)
    · have hg21 := bz_f h21
      refine jj_ldc dX7_hangs_43 kk_X7_61 (kk := ?_)
      refine zz_retie dX7_hangs_45 rfl (by decide) ?_ ?_
      · unfold v_X7_hangs; (repeat (first | rw [if_pos (by omega)] | rw [if_neg (by omega)])) <;> first | rfl | done
      · unfold f_X7_hangs; (repeat (first | rw [if_pos (by omega)] | rw [if_neg (by omega)])) <;> first | rfl | done
    · have hg21 := bz_t h21
      refine jj_iload_n dX7_hangs_24 rfl ?_
      refine jj_iconst dX7_hangs_25 (kk := ?_)
      refine jj_bipush dX7_hangs_26 (kk := ?_)
      refine zz_cSi (av := [ji (n), ji (1), ji (30)]) (st' := []) dX7_hangs_28 kn_X7_57 kmX7_isWithin rfl rfl (Nat.le_of_ble_eq_true rfl) (by decide) rfl (c_X7_isWithin g s n 1 30) (fun hr28 ho28 => ?_)
      refine jj_if_eq (tgt := 43) dX7_hangs_31 (by decide) (fun h31 => ?_) (fun h31 => ?_)
      · have hg31 := bz_f h31
        refine jj_ldc dX7_hangs_43 kk_X7_61 (kk := ?_)
        refine zz_retie dX7_hangs_45 rfl (by decide) ?_ ?_
        · unfold v_X7_hangs; (repeat (first | rw [if_pos (by omega)] | rw [if_neg (by omega)])) <;> first | rfl | done
        · unfold f_X7_hangs; (repeat (first | rw [if_pos (by omega)] | rw [if_neg (by omega)])) <;> first | rfl | done
      · have hg31 := bz_t h31
        refine jj_iload_n dX7_hangs_34 rfl ?_
        refine jj_iconst dX7_hangs_35 (kk := ?_)
        refine jj_iconst dX7_hangs_36 (kk := ?_)
        refine zz_cSi (av := [ji (w), ji (0), ji (1)]) (st' := []) dX7_hangs_37 kn_X7_57 kmX7_isWithin rfl rfl (Nat.le_of_ble_eq_true rfl) (by decide) rfl (c_X7_isWithin g s w 0 1) (fun hr37 ho37 => ?_)
        refine jj_if_ne (tgt := 46) dX7_hangs_40 (by decide) (fun h40 => ?_) (fun h40 => ?_)
        · have hg40 := bz_t h40
          refine jj_aload_n dX7_hangs_46 rfl ?_
          refine jj_aload_n dX7_hangs_47 rfl ?_
          refine zz_getR dX7_hangs_48 kf_X7_39 tt0 rfl ?_
          refine zz_cVi (av := []) (st' := [jr (0)]) dX7_hangs_51 kn_X7_226 kmX5_notVoid tt344 rfl rfl rfl (Nat.le_of_ble_eq_true rfl) (by decide) rfl (c_X5_notVoid g s 344 tt344) (fun hr51 ho51 => ?_)
          refine jj_iconst dX7_hangs_54 (kk := ?_)
          refine jj_iload_n dX7_hangs_55 rfl ?_
          refine jj_iload_n dX7_hangs_56 rfl ?_
          refine zz_cVi (av := [ji (fNV s 344 7), ji (0), ji (l), ji (n)]) (st' := []) dX7_hangs_57 kn_X7_229 kmX7_fewest tt0 rfl rfl rfl (Nat.le_of_ble_eq_true rfl) (by decide) rfl (by have q := c_X7_fewest g s ((fNV s 344 7)).toNat (by omega) 0 false (by decide) l (n).toNat (by omega) (by have := hH; omega) hN; rw [Int.toNat_of_nonneg (by omega), Int.toNat_of_nonneg (by omega)] at q; exact q) (fun hr57 ho57 => ?_)
          refine jj_istore (ls' := [some (jr (0)), some (ji (l)), some (ji (n)), some (ji (w)), some (ji (fON (fFwO s (fNV s 344 7).toNat false l (n).toNat 0 8).1))]) dX7_hangs_60 (by decide) rfl rfl ?_
          refine jj_iload_n dX7_hangs_62 rfl ?_
          refine jj_if_ne (tgt := 81) dX7_hangs_63 (by decide) (fun h63 => ?_) (fun h63 => ?_)
          · refine jj_iload dX7_hangs_81 rfl ?_
            refine zz_retie dX7_hangs_83 rfl (by decide) ?_ ?_
            · unfold v_X7_hangs; rw [if_neg (by omega), if_pos (by omega)]; first | (rw [if_pos (by omega)]; done) | (rw [if_neg (by omega)]; done)
            · unfold f_X7_hangs; rw [if_neg (by omega), if_pos (by omega)]
          · refine jj_iload dX7_hangs_66 rfl ?_
            refine jj_ldc dX7_hangs_68 kk_X7_202 (kk := ?_)
            refine jj_icmp_eq (tgt := 81) dX7_hangs_70 (by decide) (fun h70 => ?_) (fun h70 => ?_)
            · refine jj_iload dX7_hangs_81 rfl ?_
              refine zz_retie dX7_hangs_83 rfl (by decide) ?_ ?_
              · unfold v_X7_hangs; rw [if_neg (by omega), if_pos (by omega)]; first | (rw [if_pos (by omega)]; done) | (rw [if_neg (by omega)]; done)
              · unfold f_X7_hangs; rw [if_neg (by omega), if_pos (by omega)]
            · refine jj_iload dX7_hangs_73 rfl ?_
              refine zz_cSi (av := [ji (fON (fFwO s (fNV s 344 7).toNat false l (n).toNat 0 8).1)]) (st' := []) dX7_hangs_75 kn_X7_233 kmJ6_bitCount_0f7a4 rfl rfl (Nat.le_of_ble_eq_true rfl) (by decide) rfl (c_bitc g ((fFwO s (fNV s 344 7).toNat false l (n).toNat 0 8).2) (fON (fFwO s (fNV s 344 7).toNat false l (n).toNat 0 8).1) (by omega)) (fun hr75 ho75 => ?_)
              refine jj_goto (tgt := 83) dX7_hangs_78 (by decide) ?_
              refine zz_retie dX7_hangs_83 rfl (by decide) ?_ ?_
              · unfold v_X7_hangs; rw [if_neg (by omega), if_pos (by omega)]; first | (rw [if_pos (by omega)]; done) | (rw [if_neg (by omega)]; done)
              · unfold f_X7_hangs; rw [if_neg (by omega), if_pos (by omega)]
        · have hg40 := bz_f h40
          refine jj_ldc dX7_hangs_43 kk_X7_61 (kk := ?_)
          refine zz_retie dX7_hangs_45 rfl (by decide) ?_ ?_
          · unfold v_X7_hangs; (repeat (first | rw [if_pos (by omega)] | rw [if_neg (by omega)])) <;> first | rfl | done
          · unfold f_X7_hangs; (repeat (first | rw [if_pos (by omega)] | rw [if_neg (by omega)])) <;> first | rfl | done
  · have hg7 := by_f h7
    refine jj_ldc dX7_hangs_10 kk_X7_138 (kk := ?_)
    refine zz_retie dX7_hangs_12 rfl (by decide) ?_ ?_
    · unfold v_X7_hangs; (repeat (first | rw [if_pos (by omega)] | rw [if_neg (by omega)])) <;> first | rfl | done
    · unfold f_X7_hangs; (repeat (first | rw [if_pos (by omega)] | rw [if_neg (by omega)])) <;> first | rfl | done

def v_X7_drives (s : jz_St) (l n w : Int) : Int := if s 344 2 ≤ 0 then -1000002 else if (0 ≤ l ∧ l < jshl 1 (s 344 2)) ∧ (1 ≤ n ∧ n ≤ 30) ∧ 0 ≤ w ∧ w ≤ 1 then (if w = 0 ∧ fON (fFwO s (jshl 1 (s 344 3) - 1).toNat true l n.toNat 0 8).1 ≠ -1000000 then fBC (fON (fFwO s (jshl 1 (s 344 3) - 1).toNat true l n.toNat 0 8).1).toNat else fON (fFwO s (jshl 1 (s 344 3) - 1).toNat true l n.toNat 0 8).1) else -1000001
def f_X7_drives (s : jz_St) (l n w : Int) : jz_St := if s 344 2 ≤ 0 then s else if (0 ≤ l ∧ l < jshl 1 (s 344 2)) ∧ (1 ≤ n ∧ n ≤ 30) ∧ 0 ≤ w ∧ w ≤ 1 then (fFwO s (jshl 1 (s 344 3) - 1).toNat true l n.toNat 0 8).2 else s
set_option maxRecDepth 100000 in
set_option maxHeartbeats 4000000 in
theorem c_X7_drives (g : jz_G) (s : jz_St) (l n w : Int) (hI : jInv s)  : jz_C g mX7_drives [jr (0), ji (l), ji (n), ji (w)] s (jq_ie (v_X7_drives s l n w) (f_X7_drives s l n w)) := by
  refine zz_C_of koX7_drives rfl (Nat.le_of_ble_eq_true rfl) ?_
  refine zz_pad 1 ?_
  show jz_Z g mX7_drives (jq_ie (v_X7_drives s l n w) (f_X7_drives s l n w)) 0 [some (jr (0)), some (ji (l)), some (ji (n)), some (ji (w)), none] [] s
  obtain ⟨hN, hH, hP1, hP2, hT, hRw⟩ := hI
  have hal := gcb (s 344 3) hN.2.1.1 hN.2.1.2
  have hon := fwO_on (s := s) (al := (jshl 1 (s 344 3) - 1).toNat) (dr := true) (told := l) (n := n.toNat) (m := 8) (many := 0) (by omega)
  refine jj_aload_n dX7_drives_0 rfl ?_
  refine zz_getR dX7_drives_1 kf_X7_39 tt0 rfl ?_
  refine zz_cVi (av := []) (st' := []) dX7_drives_4 kn_X7_139 kmX5_isThere tt344 rfl rfl rfl (Nat.le_of_ble_eq_true rfl) (by decide) rfl (c_X5_isThere g s 344 tt344) (fun hr4 ho4 => ?_)
  refine jj_if_ne (tgt := 13) dX7_drives_7 (by decide) (fun h7 => ?_) (fun h7 => ?_)
  · have hg7 := by_t h7
    refine jj_aload_n dX7_drives_13 rfl ?_
    refine zz_getR dX7_drives_14 kf_X7_39 tt0 rfl ?_
    refine jj_iload_n dX7_drives_17 rfl ?_
    refine zz_cVi (av := [ji (l)]) (st' := []) dX7_drives_18 kn_X7_223 kmX5_hasLeaves tt344 rfl rfl rfl (Nat.le_of_ble_eq_true rfl) (by decide) rfl (c_X5_hasLeaves g s 344 tt344 l) (fun hr18 ho18 => ?_)
    refine jj_if_eq (tgt := 43) dX7_drives_21 (by decide) (fun h21 => ?_) (fun h21 => ?_)
    · have hg21 := bz_f h21
      refine jj_ldc dX7_drives_43 kk_X7_61 (kk := ?_)
      refine zz_retie dX7_drives_45 rfl (by decide) ?_ ?_
      · unfold v_X7_drives; (repeat (first | rw [if_pos (by omega)] | rw [if_neg (by omega)])) <;> first | rfl | done
      · unfold f_X7_drives; (repeat (first | rw [if_pos (by omega)] | rw [if_neg (by omega)])) <;> first | rfl | done
    · have hg21 := bz_t h21
      refine jj_iload_n dX7_drives_24 rfl ?_
      refine jj_iconst dX7_drives_25 (kk := ?_)
      refine jj_bipush dX7_drives_26 (kk := ?_)
      refine zz_cSi (av := [ji (n), ji (1), ji (30)]) (st' := []) dX7_drives_28 kn_X7_57 kmX7_isWithin rfl rfl (Nat.le_of_ble_eq_true rfl) (by decide) rfl (c_X7_isWithin g s n 1 30) (fun hr28 ho28 => ?_)
      refine jj_if_eq (tgt := 43) dX7_drives_31 (by decide) (fun h31 => ?_) (fun h31 => ?_)
      · have hg31 := bz_f h31
        refine jj_ldc dX7_drives_43 kk_X7_61 (kk := ?_)
        refine zz_retie dX7_drives_45 rfl (by decide) ?_ ?_
        · unfold v_X7_drives; (repeat (first | rw [if_pos (by omega)] | rw [if_neg (by omega)])) <;> first | rfl | done
        · unfold f_X7_drives; (repeat (first | rw [if_pos (by omega)] | rw [if_neg (by omega)])) <;> first | rfl | done
      · have hg31 := bz_t h31
        refine jj_iload_n dX7_drives_34 rfl ?_
        refine jj_iconst dX7_drives_35 (kk := ?_)
        refine jj_iconst dX7_drives_36 (kk := ?_)
        refine zz_cSi (av := [ji (w), ji (0), ji (1)]) (st' := []) dX7_drives_37 kn_X7_57 kmX7_isWithin rfl rfl (Nat.le_of_ble_eq_true rfl) (by decide) rfl (c_X7_isWithin g s w 0 1) (fun hr37 ho37 => ?_)
        refine jj_if_ne (tgt := 46) dX7_drives_40 (by decide) (fun h40 => ?_) (fun h40 => ?_)
        · have hg40 := bz_t h40
          refine jj_aload_n dX7_drives_46 rfl ?_
          refine jj_iconst dX7_drives_47 (kk := ?_)
          refine jj_aload_n dX7_drives_48 rfl ?_
          refine zz_getR dX7_drives_49 kf_X7_39 tt0 rfl ?_
          refine zz_getI dX7_drives_52 kf_X7_238 tt344 rfl rfl ?_
          refine jj_ishl dX7_drives_55 ?_
          refine jj_iconst dX7_drives_56 (kk := ?_)
          refine jj_isub dX7_drives_57 (by omega) ?_
          refine jj_iconst dX7_drives_58 (kk := ?_)
          refine jj_iload_n dX7_drives_59 rfl ?_
          refine jj_iload_n dX7_drives_60 rfl ?_
          refine zz_cVi (av := [ji ((jshl (1) (s 344 3)) - 1), ji (1), ji (l), ji (n)]) (st' := []) dX7_drives_61 kn_X7_229 kmX7_fewest tt0 rfl rfl rfl (Nat.le_of_ble_eq_true rfl) (by decide) rfl (by have q := c_X7_fewest g s (((jshl (1) (s 344 3)) - 1)).toNat (by omega) 1 true (by decide) l (n).toNat (by omega) (by have := hH; omega) hN; rw [Int.toNat_of_nonneg (by omega), Int.toNat_of_nonneg (by omega)] at q; exact q) (fun hr61 ho61 => ?_)
          refine jj_istore (ls' := [some (jr (0)), some (ji (l)), some (ji (n)), some (ji (w)), some (ji (fON (fFwO s ((jshl (1) (s 344 3)) - 1).toNat true l (n).toNat 0 8).1))]) dX7_drives_64 (by decide) rfl rfl ?_
          refine jj_iload_n dX7_drives_66 rfl ?_
          refine jj_if_ne (tgt := 85) dX7_drives_67 (by decide) (fun h67 => ?_) (fun h67 => ?_)
          · refine jj_iload dX7_drives_85 rfl ?_
            refine zz_retie dX7_drives_87 rfl (by decide) ?_ ?_
            · unfold v_X7_drives; rw [if_neg (by omega), if_pos (by omega)]; first | (rw [if_pos (by omega)]; done) | (rw [if_neg (by omega)]; done)
            · unfold f_X7_drives; rw [if_neg (by omega), if_pos (by omega)]
          · refine jj_iload dX7_drives_70 rfl ?_
            refine jj_ldc dX7_drives_72 kk_X7_202 (kk := ?_)
            refine jj_icmp_eq (tgt := 85) dX7_drives_74 (by decide) (fun h74 => ?_) (fun h74 => ?_)
            · refine jj_iload dX7_drives_85 rfl ?_
              refine zz_retie dX7_drives_87 rfl (by decide) ?_ ?_
              · unfold v_X7_drives; rw [if_neg (by omega), if_pos (by omega)]; first | (rw [if_pos (by omega)]; done) | (rw [if_neg (by omega)]; done)
              · unfold f_X7_drives; rw [if_neg (by omega), if_pos (by omega)]
            · refine jj_iload dX7_drives_77 rfl ?_
              refine zz_cSi (av := [ji (fON (fFwO s ((jshl (1) (s 344 3)) - 1).toNat true l (n).toNat 0 8).1)]) (st' := []) dX7_drives_79 kn_X7_233 kmJ6_bitCount_0f7a4 rfl rfl (Nat.le_of_ble_eq_true rfl) (by decide) rfl (c_bitc g ((fFwO s ((jshl (1) (s 344 3)) - 1).toNat true l (n).toNat 0 8).2) (fON (fFwO s ((jshl (1) (s 344 3)) - 1).toNat true l (n).toNat 0 8).1) (by omega)) (fun hr79 ho79 => ?_)
              refine jj_goto (tgt := 87) dX7_drives_82 (by decide) ?_
              refine zz_retie dX7_drives_87 rfl (by decide) ?_ ?_
              · unfold v_X7_drives; rw [if_neg (by omega), if_pos (by omega)]; first | (rw [if_pos (by omega)]; done) | (rw [if_neg (by omega)]; done)
              · unfold f_X7_drives; rw [if_neg (by omega), if_pos (by omega)]
        · have hg40 := bz_f h40
          refine jj_ldc dX7_drives_43 kk_X7_61 (kk := ?_)
          refine zz_retie dX7_drives_45 rfl (by decide) ?_ ?_
          · unfold v_X7_drives; (repeat (first | rw [if_pos (by omega)] | rw [if_neg (by omega)])) <;> first | rfl | done
          · unfold f_X7_drives; (repeat (first | rw [if_pos (by omega)] | rw [if_neg (by omega)])) <;> first | rfl | done
  · have hg7 := by_f h7
    refine jj_ldc dX7_drives_10 kk_X7_138 (kk := ?_)
    refine zz_retie dX7_drives_12 rfl (by decide) ?_ ?_
    · unfold v_X7_drives; (repeat (first | rw [if_pos (by omega)] | rw [if_neg (by omega)])) <;> first | rfl | done
    · unfold f_X7_drives; (repeat (first | rw [if_pos (by omega)] | rw [if_neg (by omega)])) <;> first | rfl | done

def v_X7_harm (s : jz_St) (n w : Int) : Int := if s 344 2 ≤ 0 then -1000002 else if (1 ≤ n ∧ n ≤ 60) ∧ 0 ≤ w ∧ w ≤ 1 then (if w = 0 then (fHa s n (s 344 3).toNat).1 else (fHa s n (s 344 3).toNat).2) else -1000001
def f_X7_harm (s : jz_St) (n w : Int) : jz_St := if s 344 2 ≤ 0 then s else if (1 ≤ n ∧ n ≤ 60) ∧ 0 ≤ w ∧ w ≤ 1 then fHaS s n (s 344 3).toNat else s
set_option maxRecDepth 100000 in
set_option maxHeartbeats 4000000 in
theorem c_X7_harm (g : jz_G) (s : jz_St) (n w : Int) (hI : jInv s)  : jz_C g mX7_harm [jr (0), ji (n), ji (w)] s (jq_ie (v_X7_harm s n w) (f_X7_harm s n w)) := by
  refine zz_C_of koX7_harm rfl (Nat.le_of_ble_eq_true rfl) ?_
  refine zz_pad 4 ?_
  show jz_Z g mX7_harm (jq_ie (v_X7_harm s n w) (f_X7_harm s n w)) 0 [some (jr (0)), some (ji (n)), some (ji (w)), none, none, none, none] [] s
  obtain ⟨hN, hH, hP1, hP2, hT, hRw⟩ := hI
  have hN2 := hN.2.1
  have hN1 := hN.1
  refine jj_aload_n dX7_harm_0 rfl ?_
  refine zz_getR dX7_harm_1 kf_X7_39 tt0 rfl ?_
  refine zz_cVi (av := []) (st' := []) dX7_harm_4 kn_X7_139 kmX5_isThere tt344 rfl rfl rfl (Nat.le_of_ble_eq_true rfl) (by decide) rfl (c_X5_isThere g s 344 tt344) (fun hr4 ho4 => ?_)
  refine jj_if_ne (tgt := 13) dX7_harm_7 (by decide) (fun h7 => ?_) (fun h7 => ?_)
  · have hg7 := by_t h7
    refine jj_iload_n dX7_harm_13 rfl ?_
    refine jj_iconst dX7_harm_14 (kk := ?_)
    refine jj_bipush dX7_harm_15 (kk := ?_)
    refine zz_cSi (av := [ji (n), ji (1), ji (60)]) (st' := []) dX7_harm_17 kn_X7_57 kmX7_isWithin rfl rfl (Nat.le_of_ble_eq_true rfl) (by decide) rfl (c_X7_isWithin g s n 1 60) (fun hr17 ho17 => ?_)
    refine jj_if_eq (tgt := 32) dX7_harm_20 (by decide) (fun h20 => ?_) (fun h20 => ?_)
    · have hg20 := bz_f h20
      refine jj_ldc dX7_harm_32 kk_X7_61 (kk := ?_)
      refine zz_retie dX7_harm_34 rfl (by decide) ?_ ?_
      · unfold v_X7_harm; (repeat (first | rw [if_pos (by omega)] | rw [if_neg (by omega)])) <;> first | rfl | done
      · unfold f_X7_harm; (repeat (first | rw [if_pos (by omega)] | rw [if_neg (by omega)])) <;> first | rfl | done
    · have hg20 := bz_t h20
      refine jj_iload_n dX7_harm_23 rfl ?_
      refine jj_iconst dX7_harm_24 (kk := ?_)
      refine jj_iconst dX7_harm_25 (kk := ?_)
      refine zz_cSi (av := [ji (w), ji (0), ji (1)]) (st' := []) dX7_harm_26 kn_X7_57 kmX7_isWithin rfl rfl (Nat.le_of_ble_eq_true rfl) (by decide) rfl (c_X7_isWithin g s w 0 1) (fun hr26 ho26 => ?_)
      refine jj_if_ne (tgt := 35) dX7_harm_29 (by decide) (fun h29 => ?_) (fun h29 => ?_)
      · have hg29 := bz_t h29
        refine jj_ldc dX7_harm_35 kk_X7_202 (kk := ?_)
        refine jj_istore_n (ls' := [some (jr (0)), some (ji (n)), some (ji (w)), some (ji (-1000000)), none, none, none]) dX7_harm_37 (by decide) rfl rfl ?_
        refine jj_ldc dX7_harm_38 kk_X7_202 (kk := ?_)
        refine jj_istore (ls' := [some (jr (0)), some (ji (n)), some (ji (w)), some (ji (-1000000)), some (ji (-1000000)), none, none]) dX7_harm_40 (by decide) rfl rfl ?_
        refine jj_iconst dX7_harm_42 (kk := ?_)
        refine jj_istore (ls' := [some (jr (0)), some (ji (n)), some (ji (w)), some (ji (-1000000)), some (ji (-1000000)), some (ji (0)), none]) dX7_harm_43 (by decide) rfl rfl ?_
        have L45 : ∀ (nn : Nat) (j : Nat) (x y : Int) (s' : jz_St) (hh45_0 : (j : Int) ≤ s 344 3) (hh45_1 : x = (fHa s n j).1) (hh45_2 : y = (fHa s n j).2) (hh45_3 : s' = fHaS s n j), (s 344 3).toNat - j < nn → jz_Z g mX7_harm (jq_ie (v_X7_harm s n w) (f_X7_harm s n w)) 45 [some (jr (0)), some (ji (n)), some (ji (w)), some (ji (x)), some (ji (y)), some (ji ((j : Int))), none] [] s' := by
          intro nn
          induction nn with
          | zero => intro j x y s' hh45_0 hh45_1 hh45_2 hh45_3 hmz; exact absurd hmz (Nat.not_lt_zero _)
          | succ nn ih45 =>
            intro j x y s' hh45_0 hh45_1 hh45_2 hh45_3 hm45
            have hoff : ∀ x, jOff 358 x → s' x = s x := fun x hx => by rw [hh45_3]; exact fHaS_off hx j
            have hA' : s' 344 3 = s 344 3 := by rw [hoff 344 (by unfold jOff; omega)]
            have hS' : jRng s' 344 (9 * s 344 6) := jRng_off hN (fun x _ _ => hoff x (by unfold jOff; omega))
            have h6' : s' 344 6 = s 344 6 := by rw [hoff 344 (by unfold jOff; omega)]
            have hT' := take_rng (s := s') (k := 358) (by decide) hS'
            have hRR0 : jRng (f_X5_drv (f_X5_take s' 358 344) 358 (jshl 1 j) n 4) 358 (s' 344 6) := drv_rng hT' (by omega) 4 (by omega)
            have hRR := passHours_rng hRR0 n.toNat
            have eS : fHaS s n (j + 1) = f_X5_passHours (f_X5_drv (f_X5_take s' 358 344) 358 (jshl 1 j) n 4) 358 n.toNat := by rw [hh45_3]; rfl
            rw [← eS] at hRR
            have hif := fIF_r (fHaS s n (j + 1)) 358
            have hbc := fBC_r _ hif
            refine jj_iload dX7_harm_45 rfl ?_
            refine jj_aload_n dX7_harm_47 rfl ?_
            refine zz_getR dX7_harm_48 kf_X7_39 tt0 rfl ?_
            refine zz_getI dX7_harm_51 kf_X7_238 tt344 rfl rfl ?_
            refine jj_icmp_ge (tgt := 120) dX7_harm_54 (by decide) (fun h54 => ?_) (fun h54 => ?_)
            · refine jj_iload_n dX7_harm_120 rfl ?_
              refine jj_if_ne (tgt := 128) dX7_harm_121 (by decide) (fun h121 => ?_) (fun h121 => ?_)
              · refine jj_iload dX7_harm_128 rfl ?_
                refine zz_retie dX7_harm_130 rfl (by decide) ?_ ?_
                · unfold v_X7_harm; rw [if_neg (by omega), if_pos (by omega), show (s 344 3).toNat = j by omega, ← hh45_1, ← hh45_2]; first | (rw [if_pos (by omega)]; done) | (rw [if_neg (by omega)]; done)
                · unfold f_X7_harm; rw [if_neg (by omega), if_pos (by omega), show (s 344 3).toNat = j by omega]; exact hh45_3
              · refine jj_iload_n dX7_harm_124 rfl ?_
                refine jj_goto (tgt := 130) dX7_harm_125 (by decide) ?_
                refine zz_retie dX7_harm_130 rfl (by decide) ?_ ?_
                · unfold v_X7_harm; rw [if_neg (by omega), if_pos (by omega), show (s 344 3).toNat = j by omega, ← hh45_1, ← hh45_2]; first | (rw [if_pos (by omega)]; done) | (rw [if_neg (by omega)]; done)
                · unfold f_X7_harm; rw [if_neg (by omega), if_pos (by omega), show (s 344 3).toNat = j by omega]; exact hh45_3
            · refine jj_aload_n dX7_harm_57 rfl ?_
              refine zz_getR dX7_harm_58 kf_X7_43 tt0 rfl ?_
              refine jj_aload_n dX7_harm_61 rfl ?_
              refine zz_getR dX7_harm_62 kf_X7_39 tt0 rfl ?_
              refine zz_cVv (av := [jr (344)]) (st' := []) dX7_harm_65 kn_X7_122 kmX5_take tt358 rfl rfl rfl (Nat.le_of_ble_eq_true rfl) (by decide) rfl (c_X5_take g s' 358 344 tt358 tt344) (fun ho65 => ?_)
              refine jj_aload_n dX7_harm_68 rfl ?_
              refine zz_getR dX7_harm_69 kf_X7_43 tt0 rfl ?_
              refine jj_iconst dX7_harm_72 (kk := ?_)
              refine jj_iload dX7_harm_73 rfl ?_
              refine jj_ishl dX7_harm_75 ?_
              refine jj_iload_n dX7_harm_76 rfl ?_
              refine zz_cVv (av := [ji (jshl (1) ((j : Int))), ji (n)]) (st' := []) dX7_harm_77 kn_X7_241 kmX5_driveOff tt358 rfl rfl rfl (Nat.le_of_ble_eq_true rfl) (by decide) rfl (c_X5_driveOff g (f_X5_take s' 358 344) 358 tt358 (jshl (1) ((j : Int))) n) (fun ho77 => ?_)
              refine jj_aload_n dX7_harm_80 rfl ?_
              refine zz_getR dX7_harm_81 kf_X7_43 tt0 rfl ?_
              refine jj_iload_n dX7_harm_84 rfl ?_
              refine zz_cVv (av := [ji (n)]) (st' := []) dX7_harm_85 kn_X7_210 kmX5_passHours tt358 rfl rfl rfl (Nat.le_of_ble_eq_true rfl) (by decide) rfl (by have q := c_X5_passHours g (f_X5_drv (f_X5_take s' 358 344) 358 (jshl (1) ((j : Int))) n 4) 358 tt358 (n).toNat (s' 344 6) (by omega) hRR0; rw [Int.toNat_of_nonneg (by omega)] at q; exact q) (fun ho85 => ?_)
              refine zz_st (s1 := fHaS s n (j + 1)) (by exact eS.symm) ?_
              refine jj_aload_n dX7_harm_88 rfl ?_
              refine zz_getR dX7_harm_89 kf_X7_43 tt0 rfl ?_
              refine zz_cVi (av := []) (st' := []) dX7_harm_92 kn_X7_214 kmX5_inForce tt358 rfl rfl rfl (Nat.le_of_ble_eq_true rfl) (by decide) rfl (c_X5_inForce g (fHaS s n (j + 1)) 358 tt358 (jRng_if hRR)) (fun hr92 ho92 => ?_)
              refine zz_cSi (av := [ji (fIF (fHaS s n (j + 1)) 358 7)]) (st' := []) dX7_harm_95 kn_X7_233 kmJ6_bitCount_0f7a4 rfl rfl (Nat.le_of_ble_eq_true rfl) (by decide) rfl (c_bitc g (fHaS s n (j + 1)) (fIF (fHaS s n (j + 1)) 358 7) hif) (fun hr95 ho95 => ?_)
              refine jj_istore (ls' := [some (jr (0)), some (ji (n)), some (ji (w)), some (ji (x)), some (ji (y)), some (ji ((j : Int))), some (ji (fBC (fIF (fHaS s n (j + 1)) 358 7).toNat))]) dX7_harm_98 (by decide) rfl rfl ?_
              refine jj_iload dX7_harm_100 rfl ?_
              refine jj_iload dX7_harm_102 rfl ?_
              refine jj_icmp_le (tgt := 114) dX7_harm_104 (by decide) (fun h104 => ?_) (fun h104 => ?_)
              · refine jj_iinc (ls' := [some (jr (0)), some (ji (n)), some (ji (w)), some (ji (x)), some (ji (y)), some (ji ((j : Int) + 1)), some (ji (fBC (fIF (fHaS s n (j + 1)) 358 7).toNat))]) dX7_harm_114 rfl (by decide) rfl (by omega) rfl ?_
                refine jj_goto (tgt := 45) dX7_harm_117 (by decide) ?_
                refine jj_fgt (i := 6) (ls' := [some (jr (0)), some (ji (n)), some (ji (w)), some (ji (x)), some (ji (y)), some (ji ((j : Int) + 1)), none]) rfl ?_
                exact ih45 (j + 1) x y (fHaS s n (j + 1)) (by omega) (by simp only [fHa]; first | (rw [if_pos (by rw [← hh45_2]; omega)]; done) | (rw [if_neg (by rw [← hh45_2]; omega)]; exact hh45_1)) (by simp only [fHa]; first | (rw [if_pos (by rw [← hh45_2]; omega)]; done) | (rw [if_neg (by rw [← hh45_2]; omega)]; exact hh45_2)) (by rfl) (by omega)
              · refine jj_iload dX7_harm_107 rfl ?_
                refine jj_istore_n (ls' := [some (jr (0)), some (ji (n)), some (ji (w)), some (ji ((j : Int))), some (ji (y)), some (ji ((j : Int))), some (ji (fBC (fIF (fHaS s n (j + 1)) 358 7).toNat))]) dX7_harm_109 (by decide) rfl rfl ?_
                refine jj_iload dX7_harm_110 rfl ?_
                refine jj_istore (ls' := [some (jr (0)), some (ji (n)), some (ji (w)), some (ji ((j : Int))), some (ji (fBC (fIF (fHaS s n (j + 1)) 358 7).toNat)), some (ji ((j : Int))), some (ji (fBC (fIF (fHaS s n (j + 1)) 358 7).toNat))]) dX7_harm_112 (by decide) rfl rfl ?_
                refine jj_iinc (ls' := [some (jr (0)), some (ji (n)), some (ji (w)), some (ji ((j : Int))), some (ji (fBC (fIF (fHaS s n (j + 1)) 358 7).toNat)), some (ji ((j : Int) + 1)), some (ji (fBC (fIF (fHaS s n (j + 1)) 358 7).toNat))]) dX7_harm_114 rfl (by decide) rfl (by omega) rfl ?_
                refine jj_goto (tgt := 45) dX7_harm_117 (by decide) ?_
                refine jj_fgt (i := 6) (ls' := [some (jr (0)), some (ji (n)), some (ji (w)), some (ji ((j : Int))), some (ji (fBC (fIF (fHaS s n (j + 1)) 358 7).toNat)), some (ji ((j : Int) + 1)), none]) rfl ?_
                exact ih45 (j + 1) ((j : Int)) (fBC (fIF (fHaS s n (j + 1)) 358 7).toNat) (fHaS s n (j + 1)) (by omega) (by simp only [fHa]; first | (rw [if_pos (by rw [← hh45_2]; omega)]; done) | (rw [if_neg (by rw [← hh45_2]; omega)]; exact hh45_1)) (by simp only [fHa]; first | (rw [if_pos (by rw [← hh45_2]; omega)]; done) | (rw [if_neg (by rw [← hh45_2]; omega)]; exact hh45_2)) (by rfl) (by omega)
        exact L45 _ 0 (-1000000) (-1000000) s (by omega) (by rfl) (by rfl) (by rfl) (Nat.lt_succ_self _)
      · have hg29 := bz_f h29
        refine jj_ldc dX7_harm_32 kk_X7_61 (kk := ?_)
        refine zz_retie dX7_harm_34 rfl (by decide) ?_ ?_
        · unfold v_X7_harm; (repeat (first | rw [if_pos (by omega)] | rw [if_neg (by omega)])) <;> first | rfl | done
        · unfold f_X7_harm; (repeat (first | rw [if_pos (by omega)] | rw [if_neg (by omega)])) <;> first | rfl | done
  · have hg7 := by_f h7
    refine jj_ldc dX7_harm_10 kk_X7_138 (kk := ?_)
    refine zz_retie dX7_harm_12 rfl (by decide) ?_ ?_
    · unfold v_X7_harm; (repeat (first | rw [if_pos (by omega)] | rw [if_neg (by omega)])) <;> first | rfl | done
    · unfold f_X7_harm; (repeat (first | rw [if_pos (by omega)] | rw [if_neg (by omega)])) <;> first | rfl | done

