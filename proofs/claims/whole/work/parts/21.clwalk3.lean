set_option maxRecDepth 100000 in
set_option maxHeartbeats 4000000 in
theorem c_X7_fewest (g : jz_G) (s : jz_St) (al : Nat) (hal : al < 128) (b : Int) (dr : Bool) (hdr : dr = true ↔ ¬ b = 0) (told : Int) (n : Nat) (hn : n ≤ 60) (h999 : s 344 6 ≤ 999) (hN : jRng s 344 (9 * s 344 6)) : jz_C g mX7_fewest [jr (0), ji ((al : Int)), ji (b), ji (told), ji ((n : Int))] s (jq_ie (fON (fFwO s al dr told n 0 8).1) (fFwO s al dr told n 0 8).2) := by
  refine zz_C_of koX7_fewest rfl (Nat.le_of_ble_eq_true rfl) ?_
  refine zz_pad 2 ?_
  show jz_Z g mX7_fewest (jq_ie (fON (fFwO s al dr told n 0 8).1) (fFwO s al dr told n 0 8).2) 0 [some (jr (0)), some (ji ((al : Int))), some (ji (b)), some (ji (told)), some (ji ((n : Int))), none, none] [] s
  refine jj_iconst dX7_fewest_0 (kk := ?_)
  refine jj_istore (ls' := [some (jr (0)), some (ji ((al : Int))), some (ji (b)), some (ji (told)), some (ji ((n : Int))), some (ji (0)), none]) dX7_fewest_1 (by decide) rfl rfl ?_
  have L3 : ∀ (nn : Nat) (j : Nat) (s' : jz_St) (hh3_0 : j ≤ 8) (hh3_1 : fFwO s al dr told n 0 8 = fFwO s' al dr told n j (8 - j)) (hh3_2 : ∀ x, jOff 358 x → s' x = s x), 8 - j < nn → jz_Z g mX7_fewest (jq_ie (fON (fFwO s al dr told n 0 8).1) (fFwO s al dr told n 0 8).2) 3 [some (jr (0)), some (ji ((al : Int))), some (ji (b)), some (ji (told)), some (ji ((n : Int))), some (ji ((j : Int))), none] [] s' := by
    intro nn
    induction nn with
    | zero => intro j s' hh3_0 hh3_1 hh3_2 hmz; exact absurd hmz (Nat.not_lt_zero _)
    | succ nn ih3 =>
      intro j s' hh3_0 hh3_1 hh3_2 hm3
      refine jj_iload dX7_fewest_3 rfl ?_
      refine jj_bipush dX7_fewest_5 (kk := ?_)
      refine jj_icmp_gt (tgt := 107) dX7_fewest_7 (by decide) (fun h7 => ?_) (fun h7 => ?_)
      · refine jj_ldc dX7_fewest_107 kk_X7_202 (kk := ?_)
        refine zz_retie dX7_fewest_109 rfl (by decide) ?_ ?_
        · rw [hh3_1, show 8 - j = 0 by omega]; rfl
        · rw [hh3_1, show 8 - j = 0 by omega]; rfl
      · refine jj_iconst dX7_fewest_10 (kk := ?_)
        refine jj_istore (ls' := [some (jr (0)), some (ji ((al : Int))), some (ji (b)), some (ji (told)), some (ji ((n : Int))), some (ji ((j : Int))), some (ji (0))]) dX7_fewest_11 (by decide) rfl rfl ?_
        have L13 : ∀ (nn : Nat) (c : Nat) (s2 : jz_St) (hh13_0 : c ≤ al + 1) (hh13_1 : fFwI s' al dr told n j 0 (al + 1) = fFwI s2 al dr told n j c (al + 1 - c)) (hh13_2 : ∀ x, jOff 358 x → s2 x = s x), al + 1 - c < nn → jz_Z g mX7_fewest (jq_ie (fON (fFwO s al dr told n 0 8).1) (fFwO s al dr told n 0 8).2) 13 [some (jr (0)), some (ji ((al : Int))), some (ji (b)), some (ji (told)), some (ji ((n : Int))), some (ji ((j : Int))), some (ji ((c : Int)))] [] s2 := by
          intro nn
          induction nn with
          | zero => intro c s2 hh13_0 hh13_1 hh13_2 hmz; exact absurd hmz (Nat.not_lt_zero _)
          | succ nn ih13 =>
            intro c s2 hh13_0 hh13_1 hh13_2 hm13
            have hS' : jRng s2 344 (9 * s 344 6) := jRng_off hN (fun x _ _ => hh13_2 x (by unfold jOff; omega))
            have h6' : s2 344 6 = s 344 6 := by rw [hh13_2 344 (by unfold jOff; omega)]
            have hT' := take_rng (s := s2) (k := 358) (by decide) hS'
            refine jj_iload dX7_fewest_13 rfl ?_
            refine jj_iload_n dX7_fewest_15 rfl ?_
            refine jj_icmp_gt (tgt := 101) dX7_fewest_16 (by decide) (fun h16 => ?_) (fun h16 => ?_)
            · refine jj_iinc (ls' := [some (jr (0)), some (ji ((al : Int))), some (ji (b)), some (ji (told)), some (ji ((n : Int))), some (ji ((j : Int) + 1)), some (ji ((c : Int)))]) dX7_fewest_101 rfl (by decide) rfl (by omega) rfl ?_
              refine jj_goto (tgt := 3) dX7_fewest_104 (by decide) ?_
              refine jj_fgt (i := 6) (ls' := [some (jr (0)), some (ji ((al : Int))), some (ji (b)), some (ji (told)), some (ji ((n : Int))), some (ji ((j : Int) + 1)), none]) rfl ?_
              exact ih3 (j + 1) s2 (by omega) (by rw [hh3_1, show 8 - j = (8 - (j + 1)) + 1 by omega]; simp only [fFwO]; rw [hh13_1, show al + 1 - c = 0 by omega]; rfl) (by exact hh13_2) (by omega)
            · have L95 : ∀ (s4 : jz_St) (hh95_0 : fFwI s2 al dr told n j c (al + 1 - c) = fFwI s4 al dr told n j (c + 1) (al - c)) (hh95_1 : ∀ x, jOff 358 x → s4 x = s x), jz_Z g mX7_fewest (jq_ie (fON (fFwO s al dr told n 0 8).1) (fFwO s al dr told n 0 8).2) 95 [some (jr (0)), some (ji ((al : Int))), some (ji (b)), some (ji (told)), some (ji ((n : Int))), some (ji ((j : Int))), some (ji ((c : Int)))] [] s4 := by
                intro s4 hh95_0 hh95_1
                refine jj_iinc (ls' := [some (jr (0)), some (ji ((al : Int))), some (ji (b)), some (ji (told)), some (ji ((n : Int))), some (ji ((j : Int))), some (ji ((c : Int) + 1))]) dX7_fewest_95 rfl (by decide) rfl (by omega) rfl ?_
                refine jj_goto (tgt := 13) dX7_fewest_98 (by decide) ?_
                exact ih13 (c + 1) s4 (by omega) (by rw [hh13_1, hh95_0, show al + 1 - (c + 1) = al - c by omega]) (by exact hh95_1) (by omega)
              refine jj_iload dX7_fewest_19 rfl ?_
              refine zz_cSi (av := [ji ((c : Int))]) (st' := []) dX7_fewest_21 kn_X7_233 kmJ6_bitCount_0f7a4 rfl rfl (Nat.le_of_ble_eq_true rfl) (by decide) rfl (c_bitc g s2 (c : Int) (by omega)) (fun hr21 ho21 => ?_)
              refine zz_top (b := fBC c) (by rw [Int.toNat_natCast]) ?_
              refine jj_iload dX7_fewest_24 rfl ?_
              refine jj_icmp_ne (tgt := 95) dX7_fewest_26 (by decide) (fun h26 => ?_) (fun h26 => ?_)
              · exact L95 s2 (by rw [show al + 1 - c = (al - c) + 1 by omega]; simp only [fFwI]; rw [if_neg (fun q => h26 q.1)]) (by exact hh13_2)
              · refine jj_iload dX7_fewest_29 rfl ?_
                refine jj_iload_n dX7_fewest_31 rfl ?_
                refine jj_iconst dX7_fewest_32 (kk := ?_)
                refine jj_ixor dX7_fewest_33 ?_
                refine jj_iand dX7_fewest_34 ?_
                refine jj_if_eq (tgt := 41) dX7_fewest_35 (by decide) (fun h35 => ?_) (fun h35 => ?_)
                · have L79 : ∀ (s3 : jz_St) (hh79_0 : s3 = if dr then f_X5_drv (f_X5_take s2 358 344) 358 c n 4 else f_X5_hot (f_X5_take s2 358 344) 358 c 7), jz_Z g mX7_fewest (jq_ie (fON (fFwO s al dr told n 0 8).1) (fFwO s al dr told n 0 8).2) 79 [some (jr (0)), some (ji ((al : Int))), some (ji (b)), some (ji (told)), some (ji ((n : Int))), some (ji ((j : Int))), some (ji ((c : Int)))] [] s3 := by
                    intro s3 hh79_0
                    have hR3 : jRng s3 358 (s2 344 6) := by rw [hh79_0]; split; (· exact drv_rng hT' (by omega) 4 (by omega)); (· exact hot_rng hT' 7 (by omega))
                    refine jj_aload_n dX7_fewest_79 rfl ?_
                    refine zz_getR dX7_fewest_80 kf_X7_43 tt0 rfl ?_
                    refine jj_iload_n dX7_fewest_83 rfl ?_
                    refine jj_iload dX7_fewest_84 rfl ?_
                    refine zz_cVi (av := [ji (told), ji ((n : Int))]) (st' := []) dX7_fewest_86 kn_X7_320 kmX5_keepsInForce tt358 rfl rfl rfl (Nat.le_of_ble_eq_true rfl) (by decide) rfl (c_X5_keepsInForce g s3 358 tt358 told n (s2 344 6) (by omega) hR3) (fun hr86 ho86 => ?_)
                    refine jj_if_eq (tgt := 95) dX7_fewest_89 (by decide) (fun h89 => ?_) (fun h89 => ?_)
                    · exact L95 ((fKeep s3 358 told n).2) (by rw [show al + 1 - c = (al - c) + 1 by omega]; simp only [fFwI]; rw [if_pos ⟨h26, h35⟩, if_pos (by unfold fAtt; rw [← hh79_0]; exact h89)]; unfold fAtt; rw [← hh79_0]) (by intro x hx; rw [show (fKeep s3 358 told n).2 = (fAtt s2 dr told n c).2 by unfold fAtt; rw [← hh79_0], att_off hx]; exact hh13_2 x hx)
                    · refine jj_iload dX7_fewest_92 rfl ?_
                      refine zz_retie dX7_fewest_94 rfl (by decide) ?_ ?_
                      · rw [hh3_1, show 8 - j = (8 - (j + 1)) + 1 by omega]; simp only [fFwO]; rw [hh13_1, show al + 1 - c = (al - c) + 1 by omega]; simp only [fFwI]; rw [if_pos ⟨h26, h35⟩, if_neg (by unfold fAtt; rw [← hh79_0]; exact h89)]; rfl
                      · rw [hh3_1, show 8 - j = (8 - (j + 1)) + 1 by omega]; simp only [fFwO]; rw [hh13_1, show al + 1 - c = (al - c) + 1 by omega]; simp only [fFwI]; rw [if_pos ⟨h26, h35⟩, if_neg (by unfold fAtt; rw [← hh79_0]; exact h89)]; unfold fAtt; rw [← hh79_0]
                  refine jj_aload_n dX7_fewest_41 rfl ?_
                  refine zz_getR dX7_fewest_42 kf_X7_43 tt0 rfl ?_
                  refine jj_aload_n dX7_fewest_45 rfl ?_
                  refine zz_getR dX7_fewest_46 kf_X7_39 tt0 rfl ?_
                  refine zz_cVv (av := [jr (344)]) (st' := []) dX7_fewest_49 kn_X7_122 kmX5_take tt358 rfl rfl rfl (Nat.le_of_ble_eq_true rfl) (by decide) rfl (c_X5_take g s2 358 344 tt358 tt344) (fun ho49 => ?_)
                  refine jj_iload_n dX7_fewest_52 rfl ?_
                  refine jj_if_eq (tgt := 70) dX7_fewest_53 (by decide) (fun h53 => ?_) (fun h53 => ?_)
                  · refine jj_aload_n dX7_fewest_70 rfl ?_
                    refine zz_getR dX7_fewest_71 kf_X7_43 tt0 rfl ?_
                    refine jj_iload dX7_fewest_74 rfl ?_
                    refine zz_cVv (av := [ji ((c : Int))]) (st' := []) dX7_fewest_76 kn_X7_317 kmX5_hangOnTop tt358 rfl rfl rfl (Nat.le_of_ble_eq_true rfl) (by decide) rfl (c_X5_hangOnTop g (f_X5_take s2 358 344) 358 tt358 (c : Int)) (fun ho76 => ?_)
                    exact L79 (f_X5_hot (f_X5_take s2 358 344) 358 (c : Int) 7) (by first | (rw [if_pos (hdr.2 h53)]; done) | (rw [if_neg (fun q => hdr.1 q h53)]; done))
                  · refine jj_aload_n dX7_fewest_56 rfl ?_
                    refine zz_getR dX7_fewest_57 kf_X7_43 tt0 rfl ?_
                    refine jj_iload dX7_fewest_60 rfl ?_
                    refine jj_iload dX7_fewest_62 rfl ?_
                    refine zz_cVv (av := [ji ((c : Int)), ji ((n : Int))]) (st' := []) dX7_fewest_64 kn_X7_241 kmX5_driveOff tt358 rfl rfl rfl (Nat.le_of_ble_eq_true rfl) (by decide) rfl (c_X5_driveOff g (f_X5_take s2 358 344) 358 tt358 (c : Int) (n : Int)) (fun ho64 => ?_)
                    refine jj_goto (tgt := 79) dX7_fewest_67 (by decide) ?_
                    exact L79 (f_X5_drv (f_X5_take s2 358 344) 358 (c : Int) (n : Int) 4) (by rw [if_pos (hdr.2 h53)])
                · refine jj_goto (tgt := 95) dX7_fewest_38 (by decide) ?_
                  exact L95 s2 (by rw [show al + 1 - c = (al - c) + 1 by omega]; simp only [fFwI]; rw [if_neg (fun q => h35 q.2)]) (by exact hh13_2)
        exact L13 _ 0 s' (by omega) (by rfl) (by exact hh3_2) (Nat.lt_succ_self _)
  exact L3 _ 0 s (by omega) (by rfl) (by intro x _; rfl) (Nat.lt_succ_self _)

