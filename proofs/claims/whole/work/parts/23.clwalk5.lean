def v_X7_who (s : jz_St) (l w o r fr n : Int) : Int := if (0 ≤ l ∧ l < s 344 2 ∧ l < 7) ∧ (0 ≤ o ∧ o < s 344 2 ∧ o < 7) ∧ (0 ≤ r ∧ r < 8) ∧ (0 ≤ w ∧ w ≤ 2) ∧ 1 ≤ n ∧ n ≤ 12 then (if s (400 + 2 * r.toNat) 1 = 0 then -1000011 else if 0 ≤ fr ∧ 0 ≤ n ∧ fr + n ≤ s (400 + 2 * r.toNat) 3 then (fWh l w o (400 + 2 * r.toNat) fr n.toNat 0 (jz_su s 0 8 0) (fWlo w).toNat ((fWhi w).toNat + 1 - (fWlo w).toNat)).1 else -1000012) else -1000001
def f_X7_who (s : jz_St) (l w o r fr n : Int) : jz_St := if (0 ≤ l ∧ l < s 344 2 ∧ l < 7) ∧ (0 ≤ o ∧ o < s 344 2 ∧ o < 7) ∧ (0 ≤ r ∧ r < 8) ∧ (0 ≤ w ∧ w ≤ 2) ∧ 1 ≤ n ∧ n ≤ 12 then (if s (400 + 2 * r.toNat) 1 = 0 then jz_su s 0 8 1 else if 0 ≤ fr ∧ 0 ≤ n ∧ fr + n ≤ s (400 + 2 * r.toNat) 3 then (fWh l w o (400 + 2 * r.toNat) fr n.toNat 0 (jz_su s 0 8 0) (fWlo w).toNat ((fWhi w).toNat + 1 - (fWlo w).toNat)).2 else jz_su s 0 8 2) else s
set_option maxRecDepth 100000 in
set_option maxHeartbeats 4000000 in
theorem c_X7_who (g : jz_G) (s : jz_St) (l w o r fr n : Int) (hI : jInv s)  : jz_C g mX7_who [jr (0), ji (l), ji (w), ji (o), ji (r), ji (fr), ji (n)] s (jq_ie (v_X7_who s l w o r fr n) (f_X7_who s l w o r fr n)) := by
  refine zz_C_of koX7_who rfl (Nat.le_of_ble_eq_true rfl) ?_
  refine zz_pad 6 ?_
  show jz_Z g mX7_who (jq_ie (v_X7_who s l w o r fr n) (f_X7_who s l w o r fr n)) 0 [some (jr (0)), some (ji (l)), some (ji (w)), some (ji (o)), some (ji (r)), some (ji (fr)), some (ji (n)), none, none, none, none, none, none] [] s
  obtain ⟨hN, hH, hP1, hP2, hT, hRw⟩ := hI
  refine jj_aload_n dX7_who_0 rfl ?_
  refine jj_iload dX7_who_1 rfl ?_
  refine zz_cVr (av := [ji (r)]) (st' := []) dX7_who_3 kn_X7_53 kmX7_rowAt tt0 rfl rfl rfl (Nat.le_of_ble_eq_true rfl) (by decide) rfl (c_X7_rowAt g s r) (fun ho3 => ?_)
  by_cases hc3 : 0 ≤ r ∧ r < 8
  · refine jj_topO (o' := some (400 + 2 * r.toNat)) (if_pos hc3) ?_
    refine jj_astore (ls' := [some (jr (0)), some (ji (l)), some (ji (w)), some (ji (o)), some (ji (r)), some (ji (fr)), some (ji (n)), some (jr (400 + 2 * r.toNat)), none, none, none, none, none]) dX7_who_6 (by decide) rfl rfl ?_
    refine jj_aload_n dX7_who_8 rfl ?_
    refine zz_getR dX7_who_9 kf_X7_39 tt0 rfl ?_
    refine jj_iload_n dX7_who_12 rfl ?_
    refine zz_cVr (av := [ji (l)]) (st' := []) dX7_who_13 kn_X7_153 kmX5_leafAt tt344 rfl rfl rfl (Nat.le_of_ble_eq_true rfl) (by decide) rfl (c_X5_leafAt g s 344 tt344 l) (fun ho13 => ?_)
    by_cases hc13 : 0 ≤ l ∧ l < s 344 2 ∧ l < 7
    · refine jj_topO (o' := some (344 + 3 + l.toNat)) (if_pos hc13) ?_
      refine jj_ifnull (o := some (344 + 3 + l.toNat)) (tgt := 55) dX7_who_16 (by decide) (fun h => by cases h) (fun _ _ => ?_)
      refine jj_aload_n dX7_who_19 rfl ?_
      refine zz_getR dX7_who_20 kf_X7_39 tt0 rfl ?_
      refine jj_iload_n dX7_who_23 rfl ?_
      refine zz_cVr (av := [ji (o)]) (st' := []) dX7_who_24 kn_X7_153 kmX5_leafAt tt344 rfl rfl rfl (Nat.le_of_ble_eq_true rfl) (by decide) rfl (c_X5_leafAt g s 344 tt344 o) (fun ho24 => ?_)
      by_cases hc24 : 0 ≤ o ∧ o < s 344 2 ∧ o < 7
      · refine jj_topO (o' := some (344 + 3 + o.toNat)) (if_pos hc24) ?_
        refine jj_ifnull (o := some (344 + 3 + o.toNat)) (tgt := 55) dX7_who_27 (by decide) (fun h => by cases h) (fun _ _ => ?_)
        refine jj_aload dX7_who_30 rfl ?_
        refine jj_ifnull (o := some (400 + 2 * r.toNat)) (tgt := 55) dX7_who_32 (by decide) (fun h => by cases h) (fun _ _ => ?_)
        refine jj_iload_n dX7_who_35 rfl ?_
        refine jj_iconst dX7_who_36 (kk := ?_)
        refine jj_iconst dX7_who_37 (kk := ?_)
        refine zz_cSi (av := [ji (w), ji (0), ji (2)]) (st' := []) dX7_who_38 kn_X7_57 kmX7_isWithin rfl rfl (Nat.le_of_ble_eq_true rfl) (by decide) rfl (c_X7_isWithin g s w 0 2) (fun hr38 ho38 => ?_)
        refine jj_if_eq (tgt := 55) dX7_who_41 (by decide) (fun h41 => ?_) (fun h41 => ?_)
        · have hg41 := bz_f h41
          refine jj_ldc dX7_who_55 kk_X7_61 (kk := ?_)
          refine zz_retie dX7_who_57 rfl (by decide) ?_ ?_
          · unfold v_X7_who; (repeat (first | rw [if_pos (by omega)] | rw [if_neg (by omega)])) <;> first | rfl | done
          · unfold f_X7_who; (repeat (first | rw [if_pos (by omega)] | rw [if_neg (by omega)])) <;> first | rfl | done
        · have hg41 := bz_t h41
          refine jj_iload dX7_who_44 rfl ?_
          refine jj_iconst dX7_who_46 (kk := ?_)
          refine jj_bipush dX7_who_47 (kk := ?_)
          refine zz_cSi (av := [ji (n), ji (1), ji (12)]) (st' := []) dX7_who_49 kn_X7_57 kmX7_isWithin rfl rfl (Nat.le_of_ble_eq_true rfl) (by decide) rfl (c_X7_isWithin g s n 1 12) (fun hr49 ho49 => ?_)
          refine jj_if_ne (tgt := 58) dX7_who_52 (by decide) (fun h52 => ?_) (fun h52 => ?_)
          · have hg52 := bz_t h52
            refine jj_aload dX7_who_58 rfl ?_
            refine zz_getI dX7_who_60 kf_X7_74 (jz_t_rows (by omega)) rfl rfl ?_
            refine jj_if_ne (tgt := 72) dX7_who_63 (by decide) (fun h63 => ?_) (fun h63 => ?_)
            · refine jj_aload dX7_who_72 rfl ?_
              refine jj_iload dX7_who_74 rfl ?_
              refine jj_iload dX7_who_76 rfl ?_
              refine zz_cVi (av := [ji (fr), ji (n)]) (st' := []) dX7_who_78 kn_X7_78 kmX4_hasPlaces (jz_t_rows (by omega)) rfl rfl rfl (Nat.le_of_ble_eq_true rfl) (by decide) rfl (c_X4_hasPlaces g s (400 + 2 * r.toNat) (jz_t_rows (by omega)) fr n (by first | exact (hRw _ (by omega)).1 | omega)) (fun hr78 ho78 => ?_)
              refine jj_if_ne (tgt := 90) dX7_who_81 (by decide) (fun h81 => ?_) (fun h81 => ?_)
              · have hg81 := bz_t h81
                refine jj_aload_n dX7_who_90 rfl ?_
                refine jj_iconst dX7_who_91 (kk := ?_)
                refine zz_putI dX7_who_92 kw_X7_66 tt0 rfl rfl ?_
                have L104 : ∀ (lo : Nat) (hh104_0 : lo = (fWlo w).toNat), jz_Z g mX7_who (jq_ie (v_X7_who s l w o r fr n) (f_X7_who s l w o r fr n)) 104 [some (jr (0)), some (ji (l)), some (ji (w)), some (ji (o)), some (ji (r)), some (ji (fr)), some (ji (n)), some (jr (400 + 2 * r.toNat)), none, none, none, none, none] [ji ((lo : Int))] (jz_su s 0 8 0) := by
                  intro lo hh104_0
                  refine jj_istore (ls' := [some (jr (0)), some (ji (l)), some (ji (w)), some (ji (o)), some (ji (r)), some (ji (fr)), some (ji (n)), some (jr (400 + 2 * r.toNat)), some (ji ((lo : Int))), none, none, none, none]) dX7_who_104 (by decide) rfl rfl ?_
                  have L126 : ∀ (hi : Nat) (hh126_0 : hi = (fWhi w).toNat) (hh126_1 : hi ≤ 19), jz_Z g mX7_who (jq_ie (v_X7_who s l w o r fr n) (f_X7_who s l w o r fr n)) 126 [some (jr (0)), some (ji (l)), some (ji (w)), some (ji (o)), some (ji (r)), some (ji (fr)), some (ji (n)), some (jr (400 + 2 * r.toNat)), some (ji ((lo : Int))), none, none, none, none] [ji ((hi : Int))] (jz_su s 0 8 0) := by
                    intro hi hh126_0 hh126_1
                    refine jj_istore (ls' := [some (jr (0)), some (ji (l)), some (ji (w)), some (ji (o)), some (ji (r)), some (ji (fr)), some (ji (n)), some (jr (400 + 2 * r.toNat)), some (ji ((lo : Int))), some (ji ((hi : Int))), none, none, none]) dX7_who_126 (by decide) rfl rfl ?_
                    refine jj_iconst dX7_who_128 (kk := ?_)
                    refine jj_istore (ls' := [some (jr (0)), some (ji (l)), some (ji (w)), some (ji (o)), some (ji (r)), some (ji (fr)), some (ji (n)), some (jr (400 + 2 * r.toNat)), some (ji ((lo : Int))), some (ji ((hi : Int))), some (ji (0)), none, none]) dX7_who_129 (by decide) rfl rfl ?_
                    refine jj_iload dX7_who_131 rfl ?_
                    refine jj_istore (ls' := [some (jr (0)), some (ji (l)), some (ji (w)), some (ji (o)), some (ji (r)), some (ji (fr)), some (ji (n)), some (jr (400 + 2 * r.toNat)), some (ji ((lo : Int))), some (ji ((hi : Int))), some (ji (0)), some (ji ((lo : Int))), none]) dX7_who_133 (by decide) rfl rfl ?_
                    have L135 : ∀ (nn : Nat) (j : Nat) (acc : Int) (s' : jz_St) (hh135_0 : j ≤ hi + 1) (hh135_1 : fWh l w o (400 + 2 * r.toNat) fr n.toNat 0 (jz_su s 0 8 0) lo (hi + 1 - lo) = fWh l w o (400 + 2 * r.toNat) fr n.toNat acc s' j (hi + 1 - j)) (hh135_2 : ∀ x, jOff 358 x → s' x = (jz_su s 0 8 0) x), hi + 1 - j < nn → jz_Z g mX7_who (jq_ie (v_X7_who s l w o r fr n) (f_X7_who s l w o r fr n)) 135 [some (jr (0)), some (ji (l)), some (ji (w)), some (ji (o)), some (ji (r)), some (ji (fr)), some (ji (n)), some (jr (400 + 2 * r.toNat)), some (ji ((lo : Int))), some (ji ((hi : Int))), some (ji (acc)), some (ji ((j : Int))), none] [] s' := by
                      intro nn
                      induction nn with
                      | zero => intro j acc s' hh135_0 hh135_1 hh135_2 hmz; exact absurd hmz (Nat.not_lt_zero _)
                      | succ nn ih135 =>
                        intro j acc s' hh135_0 hh135_1 hh135_2 hm135
                        have hoff : ∀ x, jOff 358 x → x ≠ 0 → s' x = s x := fun x hx h0 => by rw [hh135_2 x hx, jz_su_o h0]
                        have hS' : jRng s' 344 (9 * s 344 6) := jRng_off hN (fun x _ _ => hoff x (by unfold jOff; omega) (by omega))
                        have h6' : s' 344 6 = s 344 6 := by rw [hoff 344 (by unfold jOff; omega) (by decide)]
                        have hT' := take_rng (s := s') (k := 358) (by decide) hS'
                        have hA2 : f_X5_take s' 358 344 358 2 = s 344 2 := by rw [take_k s' (by decide) (by decide) (by decide), hoff 344 (by unfold jOff; omega) (by decide)]
                        have hC2 : fWhC s' l w j 358 2 = s 344 2 := by unfold fWhC; rw [jz_su_o (by omega), hA2]
                        have hRR : j ≤ hi → jRng (fWhC s' l w j) 358 (s' 344 6) := fun hj => su_rng hT' (by omega) (by (repeat' split) <;> decide) (fun _ => by omega)
                        refine jj_iload dX7_who_135 rfl ?_
                        refine jj_iload dX7_who_137 rfl ?_
                        refine jj_icmp_gt (tgt := 204) dX7_who_139 (by decide) (fun h139 => ?_) (fun h139 => ?_)
                        · refine jj_iload dX7_who_204 rfl ?_
                          refine zz_retie dX7_who_206 rfl (by decide) ?_ ?_
                          · unfold v_X7_who; rw [if_pos (by omega), if_neg h63, if_pos (by omega), ← hh104_0, ← hh126_0, hh135_1, show hi + 1 - j = 0 by omega]; rfl
                          · unfold f_X7_who; rw [if_pos (by omega), if_neg h63, if_pos (by omega), ← hh104_0, ← hh126_0, hh135_1, show hi + 1 - j = 0 by omega]; rfl
                        · refine jj_aload_n dX7_who_142 rfl ?_
                          refine zz_getR dX7_who_143 kf_X7_43 tt0 rfl ?_
                          refine jj_aload_n dX7_who_146 rfl ?_
                          refine zz_getR dX7_who_147 kf_X7_39 tt0 rfl ?_
                          refine jj_iload_n dX7_who_150 rfl ?_
                          refine zz_cVr (av := [jr (344), ji (l)]) (st' := []) dX7_who_151 kn_X7_206 kmX5_leafIn tt358 rfl rfl rfl (Nat.le_of_ble_eq_true rfl) (by decide) rfl (c_X5_leafIn g s' 358 344 tt358 tt344 l) (fun ho151 => ?_)
                          by_cases hc151 : 0 ≤ l ∧ l < (f_X5_take s' 358 344) 358 2 ∧ l < 7
                          · refine jj_topO (o' := some (358 + 3 + l.toNat)) (if_pos hc151) ?_
                            refine jj_astore (ls' := [some (jr (0)), some (ji (l)), some (ji (w)), some (ji (o)), some (ji (r)), some (ji (fr)), some (ji (n)), some (jr (400 + 2 * r.toNat)), some (ji ((lo : Int))), some (ji ((hi : Int))), some (ji (acc)), some (ji ((j : Int))), some (jr (358 + 3 + l.toNat))]) dX7_who_154 (by decide) rfl rfl ?_
                            refine jj_aload dX7_who_156 rfl ?_
                            refine jj_ifnonnull (o := some (358 + 3 + l.toNat)) (tgt := 164) dX7_who_158 (by decide) (fun _ _ => ?_) (fun h => by cases h)
                            refine jj_aload dX7_who_164 rfl ?_
                            refine jj_iload_n dX7_who_166 rfl ?_
                            refine jj_iload dX7_who_167 rfl ?_
                            refine zz_cVv (av := [ji (w), ji ((j : Int))]) (st' := []) dX7_who_169 kn_X7_248 kmX1_become (jz_t_leaf tt358 (by omega)) rfl rfl rfl (Nat.le_of_ble_eq_true rfl) (by decide) rfl (c_X1_become g (f_X5_take s' 358 344) (358 + 3 + l.toNat) w (j : Int) (jz_t_leaf tt358 (by omega))) (fun ho169 => ?_)
                            refine zz_st (s1 := fWhC s' l w j) (by rfl) ?_
                            refine jj_aload_n dX7_who_172 rfl ?_
                            refine zz_getR dX7_who_173 kf_X7_43 tt0 rfl ?_
                            refine jj_iload_n dX7_who_176 rfl ?_
                            refine jj_aload dX7_who_177 rfl ?_
                            refine jj_iload dX7_who_179 rfl ?_
                            refine jj_iload dX7_who_181 rfl ?_
                            refine zz_cVi (av := [ji (o), jr (400 + 2 * r.toNat), ji (fr), ji (n)]) (st' := []) dX7_who_183 kn_X7_251 kmX5_goesAs tt358 rfl rfl rfl (Nat.le_of_ble_eq_true rfl) (by decide) rfl (by have q := c_X5_goesAs g (fWhC s' l w j) 358 tt358 o (by rw [hC2]; omega) (400 + 2 * r.toNat) (jz_t_rows (by omega)) fr (by have := hRw r.toNat (by omega); omega) (n).toNat (by omega) (s' 344 6) (by omega) (hRR (by omega)); rw [Int.toNat_of_nonneg (by omega)] at q; exact q) (fun hr183 ho183 => ?_)
                            refine jj_if_eq (tgt := 198) dX7_who_186 (by decide) (fun h186 => ?_) (fun h186 => ?_)
                            · refine jj_iinc (ls' := [some (jr (0)), some (ji (l)), some (ji (w)), some (ji (o)), some (ji (r)), some (ji (fr)), some (ji (n)), some (jr (400 + 2 * r.toNat)), some (ji ((lo : Int))), some (ji ((hi : Int))), some (ji (acc)), some (ji ((j : Int) + 1)), some (jr (358 + 3 + l.toNat))]) dX7_who_198 rfl (by decide) rfl (by omega) rfl ?_
                              refine jj_goto (tgt := 135) dX7_who_201 (by decide) ?_
                              refine jj_fgt (i := 12) (ls' := [some (jr (0)), some (ji (l)), some (ji (w)), some (ji (o)), some (ji (r)), some (ji (fr)), some (ji (n)), some (jr (400 + 2 * r.toNat)), some (ji ((lo : Int))), some (ji ((hi : Int))), some (ji (acc)), some (ji ((j : Int) + 1)), none]) rfl ?_
                              exact ih135 (j + 1) acc ((fGoes (fWhC s' l w j) 358 (358 + 3 + o.toNat) (400 + 2 * r.toNat) fr 0 (n).toNat).2) (by omega) (by rw [hh135_1, show hi + 1 - j = (hi + 1 - (j + 1)) + 1 by omega]; simp only [fWh]; first | (rw [if_pos (show (fWhG s' l w o (400 + 2 * r.toNat) fr n.toNat j).1 = 0 from h186)]; rfl) | (rw [if_neg (show ¬ (fWhG s' l w o (400 + 2 * r.toNat) fr n.toNat j).1 = 0 from h186)]; rfl)) (by intro x hx; exact (fWhG_off (by omega) hx).trans (hh135_2 x hx)) (by omega)
                            · refine jj_iload dX7_who_189 rfl ?_
                              refine jj_iconst dX7_who_191 (kk := ?_)
                              refine jj_iload dX7_who_192 rfl ?_
                              refine jj_ishl dX7_who_194 ?_
                              refine jj_ior dX7_who_195 ?_
                              refine jj_istore (ls' := [some (jr (0)), some (ji (l)), some (ji (w)), some (ji (o)), some (ji (r)), some (ji (fr)), some (ji (n)), some (jr (400 + 2 * r.toNat)), some (ji ((lo : Int))), some (ji ((hi : Int))), some (ji (jor (acc) (jshl (1) ((j : Int))))), some (ji ((j : Int))), some (jr (358 + 3 + l.toNat))]) dX7_who_196 (by decide) rfl rfl ?_
                              refine jj_iinc (ls' := [some (jr (0)), some (ji (l)), some (ji (w)), some (ji (o)), some (ji (r)), some (ji (fr)), some (ji (n)), some (jr (400 + 2 * r.toNat)), some (ji ((lo : Int))), some (ji ((hi : Int))), some (ji (jor (acc) (jshl (1) ((j : Int))))), some (ji ((j : Int) + 1)), some (jr (358 + 3 + l.toNat))]) dX7_who_198 rfl (by decide) rfl (by omega) rfl ?_
                              refine jj_goto (tgt := 135) dX7_who_201 (by decide) ?_
                              refine jj_fgt (i := 12) (ls' := [some (jr (0)), some (ji (l)), some (ji (w)), some (ji (o)), some (ji (r)), some (ji (fr)), some (ji (n)), some (jr (400 + 2 * r.toNat)), some (ji ((lo : Int))), some (ji ((hi : Int))), some (ji (jor (acc) (jshl (1) ((j : Int))))), some (ji ((j : Int) + 1)), none]) rfl ?_
                              exact ih135 (j + 1) (jor (acc) (jshl (1) ((j : Int)))) ((fGoes (fWhC s' l w j) 358 (358 + 3 + o.toNat) (400 + 2 * r.toNat) fr 0 (n).toNat).2) (by omega) (by rw [hh135_1, show hi + 1 - j = (hi + 1 - (j + 1)) + 1 by omega]; simp only [fWh]; first | (rw [if_pos (show (fWhG s' l w o (400 + 2 * r.toNat) fr n.toNat j).1 = 0 from h186)]; rfl) | (rw [if_neg (show ¬ (fWhG s' l w o (400 + 2 * r.toNat) fr n.toNat j).1 = 0 from h186)]; rfl)) (by intro x hx; exact (fWhG_off (by omega) hx).trans (hh135_2 x hx)) (by omega)
                          · refine jj_topO (o' := none) (if_neg hc151) ?_
                            refine jj_astoreO (ls' := [some (jr (0)), some (ji (l)), some (ji (w)), some (ji (o)), some (ji (r)), some (ji (fr)), some (ji (n)), some (jr (400 + 2 * r.toNat)), some (ji ((lo : Int))), some (ji ((hi : Int))), some (ji (acc)), some (ji ((j : Int))), some (jn)]) dX7_who_154 (by decide) rfl rfl ?_
                            refine jj_aloadO dX7_who_156 rfl ?_
                            refine jj_ifnonnull (o := none) (tgt := 164) dX7_who_158 (by decide) (fun _ h => by cases h) (fun _ => ?_)
                            refine jj_ldc dX7_who_161 kk_X7_61 (kk := ?_)
                            refine zz_retie dX7_who_163 rfl (by decide) ?_ ?_
                            · exfalso; omega
                            · exfalso; omega
                    exact L135 _ lo 0 (jz_su s 0 8 0) (by have h0 : (fWlo w).toNat ≤ 1 := (by unfold fWlo; split <;> decide); omega) (by rfl) (by intro x _; rfl) (Nat.lt_succ_self _)
                  refine jj_iload_n dX7_who_106 rfl ?_
                  refine jj_if_ne (tgt := 114) dX7_who_107 (by decide) (fun h107 => ?_) (fun h107 => ?_)
                  · refine jj_iload_n dX7_who_114 rfl ?_
                    refine jj_iconst dX7_who_115 (kk := ?_)
                    refine jj_icmp_ne (tgt := 124) dX7_who_116 (by decide) (fun h116 => ?_) (fun h116 => ?_)
                    · refine jj_bipush dX7_who_124 (kk := ?_)
                      exact L126 19 (by unfold fWhi; first | (rw [if_pos h107]; rfl) | (rw [if_neg h107, if_pos h116]; rfl) | (rw [if_neg h107, if_neg h116]; rfl)) (by decide)
                    · refine jj_bipush dX7_who_119 (kk := ?_)
                      refine jj_goto (tgt := 126) dX7_who_121 (by decide) ?_
                      exact L126 9 (by unfold fWhi; first | (rw [if_pos h107]; rfl) | (rw [if_neg h107, if_pos h116]; rfl) | (rw [if_neg h107, if_neg h116]; rfl)) (by decide)
                  · refine jj_iconst dX7_who_110 (kk := ?_)
                    refine jj_goto (tgt := 126) dX7_who_111 (by decide) ?_
                    exact L126 5 (by unfold fWhi; first | (rw [if_pos h107]; rfl) | (rw [if_neg h107, if_pos h116]; rfl) | (rw [if_neg h107, if_neg h116]; rfl)) (by decide)
                refine jj_iload_n dX7_who_95 rfl ?_
                refine jj_if_ne (tgt := 103) dX7_who_96 (by decide) (fun h96 => ?_) (fun h96 => ?_)
                · refine jj_iconst dX7_who_103 (kk := ?_)
                  exact L104 0 (by unfold fWlo; first | (rw [if_pos h96]; rfl) | (rw [if_neg h96]; rfl))
                · refine jj_iconst dX7_who_99 (kk := ?_)
                  refine jj_goto (tgt := 104) dX7_who_100 (by decide) ?_
                  exact L104 1 (by unfold fWlo; first | (rw [if_pos h96]; rfl) | (rw [if_neg h96]; rfl))
              · have hg81 := bz_f h81
                refine jj_aload_n dX7_who_84 rfl ?_
                refine jj_iconst dX7_who_85 (kk := ?_)
                refine zz_cVi (av := [ji (2)]) (st' := []) dX7_who_86 kn_X7_62 kmX7_found tt0 rfl rfl rfl (Nat.le_of_ble_eq_true rfl) (by decide) rfl (c_X7_found g s 2 (by omega)) (fun hr86 ho86 => ?_)
                refine zz_retie dX7_who_89 rfl (by decide) ?_ ?_
                · unfold v_X7_who; (repeat (first | rw [if_pos (by omega)] | rw [if_neg (by omega)])) <;> first | rfl | done
                · unfold f_X7_who; (repeat (first | rw [if_pos (by omega)] | rw [if_neg (by omega)])) <;> first | rfl | done
            · refine jj_aload_n dX7_who_66 rfl ?_
              refine jj_iconst dX7_who_67 (kk := ?_)
              refine zz_cVi (av := [ji (1)]) (st' := []) dX7_who_68 kn_X7_62 kmX7_found tt0 rfl rfl rfl (Nat.le_of_ble_eq_true rfl) (by decide) rfl (c_X7_found g s 1 (by omega)) (fun hr68 ho68 => ?_)
              refine zz_retie dX7_who_71 rfl (by decide) ?_ ?_
              · unfold v_X7_who; (repeat (first | rw [if_pos (by omega)] | rw [if_neg (by omega)])) <;> first | rfl | done
              · unfold f_X7_who; (repeat (first | rw [if_pos (by omega)] | rw [if_neg (by omega)])) <;> first | rfl | done
          · have hg52 := bz_f h52
            refine jj_ldc dX7_who_55 kk_X7_61 (kk := ?_)
            refine zz_retie dX7_who_57 rfl (by decide) ?_ ?_
            · unfold v_X7_who; (repeat (first | rw [if_pos (by omega)] | rw [if_neg (by omega)])) <;> first | rfl | done
            · unfold f_X7_who; (repeat (first | rw [if_pos (by omega)] | rw [if_neg (by omega)])) <;> first | rfl | done
      · refine jj_topO (o' := none) (if_neg hc24) ?_
        refine jj_ifnull (o := none) (tgt := 55) dX7_who_27 (by decide) (fun _ => ?_) (fun _ h => by cases h)
        refine jj_ldc dX7_who_55 kk_X7_61 (kk := ?_)
        refine zz_retie dX7_who_57 rfl (by decide) ?_ ?_
        · unfold v_X7_who; (repeat (first | rw [if_pos (by omega)] | rw [if_neg (by omega)])) <;> first | rfl | done
        · unfold f_X7_who; (repeat (first | rw [if_pos (by omega)] | rw [if_neg (by omega)])) <;> first | rfl | done
    · refine jj_topO (o' := none) (if_neg hc13) ?_
      refine jj_ifnull (o := none) (tgt := 55) dX7_who_16 (by decide) (fun _ => ?_) (fun _ h => by cases h)
      refine jj_ldc dX7_who_55 kk_X7_61 (kk := ?_)
      refine zz_retie dX7_who_57 rfl (by decide) ?_ ?_
      · unfold v_X7_who; (repeat (first | rw [if_pos (by omega)] | rw [if_neg (by omega)])) <;> first | rfl | done
      · unfold f_X7_who; (repeat (first | rw [if_pos (by omega)] | rw [if_neg (by omega)])) <;> first | rfl | done
  · refine jj_topO (o' := none) (if_neg hc3) ?_
    refine jj_astoreO (ls' := [some (jr (0)), some (ji (l)), some (ji (w)), some (ji (o)), some (ji (r)), some (ji (fr)), some (ji (n)), some (jn), none, none, none, none, none]) dX7_who_6 (by decide) rfl rfl ?_
    refine jj_aload_n dX7_who_8 rfl ?_
    refine zz_getR dX7_who_9 kf_X7_39 tt0 rfl ?_
    refine jj_iload_n dX7_who_12 rfl ?_
    refine zz_cVr (av := [ji (l)]) (st' := []) dX7_who_13 kn_X7_153 kmX5_leafAt tt344 rfl rfl rfl (Nat.le_of_ble_eq_true rfl) (by decide) rfl (c_X5_leafAt g s 344 tt344 l) (fun ho13 => ?_)
    by_cases hc13 : 0 ≤ l ∧ l < s 344 2 ∧ l < 7
    · refine jj_topO (o' := some (344 + 3 + l.toNat)) (if_pos hc13) ?_
      refine jj_ifnull (o := some (344 + 3 + l.toNat)) (tgt := 55) dX7_who_16 (by decide) (fun h => by cases h) (fun _ _ => ?_)
      refine jj_aload_n dX7_who_19 rfl ?_
      refine zz_getR dX7_who_20 kf_X7_39 tt0 rfl ?_
      refine jj_iload_n dX7_who_23 rfl ?_
      refine zz_cVr (av := [ji (o)]) (st' := []) dX7_who_24 kn_X7_153 kmX5_leafAt tt344 rfl rfl rfl (Nat.le_of_ble_eq_true rfl) (by decide) rfl (c_X5_leafAt g s 344 tt344 o) (fun ho24 => ?_)
      by_cases hc24 : 0 ≤ o ∧ o < s 344 2 ∧ o < 7
      · refine jj_topO (o' := some (344 + 3 + o.toNat)) (if_pos hc24) ?_
        refine jj_ifnull (o := some (344 + 3 + o.toNat)) (tgt := 55) dX7_who_27 (by decide) (fun h => by cases h) (fun _ _ => ?_)
        refine jj_aloadO dX7_who_30 rfl ?_
        refine jj_ifnull (o := none) (tgt := 55) dX7_who_32 (by decide) (fun _ => ?_) (fun _ h => by cases h)
        refine jj_ldc dX7_who_55 kk_X7_61 (kk := ?_)
        refine zz_retie dX7_who_57 rfl (by decide) ?_ ?_
        · unfold v_X7_who; (repeat (first | rw [if_pos (by omega)] | rw [if_neg (by omega)])) <;> first | rfl | done
        · unfold f_X7_who; (repeat (first | rw [if_pos (by omega)] | rw [if_neg (by omega)])) <;> first | rfl | done
      · refine jj_topO (o' := none) (if_neg hc24) ?_
        refine jj_ifnull (o := none) (tgt := 55) dX7_who_27 (by decide) (fun _ => ?_) (fun _ h => by cases h)
        refine jj_ldc dX7_who_55 kk_X7_61 (kk := ?_)
        refine zz_retie dX7_who_57 rfl (by decide) ?_ ?_
        · unfold v_X7_who; (repeat (first | rw [if_pos (by omega)] | rw [if_neg (by omega)])) <;> first | rfl | done
        · unfold f_X7_who; (repeat (first | rw [if_pos (by omega)] | rw [if_neg (by omega)])) <;> first | rfl | done
    · refine jj_topO (o' := none) (if_neg hc13) ?_
      refine jj_ifnull (o := none) (tgt := 55) dX7_who_16 (by decide) (fun _ => ?_) (fun _ h => by cases h)
      refine jj_ldc dX7_who_55 kk_X7_61 (kk := ?_)
      refine zz_retie dX7_who_57 rfl (by decide) ?_ ?_
      · unfold v_X7_who; (repeat (first | rw [if_pos (by omega)] | rw [if_neg (by omega)])) <;> first | rfl | done
      · unfold f_X7_who; (repeat (first | rw [if_pos (by omega)] | rw [if_neg (by omega)])) <;> first | rfl | done

theorem drv_k2 (s : jz_St) (k : Nat) (bits n : Int) : f_X5_drv s k bits n 4 k 2 = s k 2 := by
  have h : ∀ j, f_X5_drv s k bits n j k 2 = s k 2 := by
    intro j
    induction j with
    | zero => rfl
    | succ j ih =>
      simp only [f_X5_drv]
      split
      · exact ih
      · rw [jz_su_f (by decide)]; exact ih
  exact h 4
def v_X7_strayed (s : jz_St) (l r fr n : Int) : Int := if (0 ≤ l ∧ l < s 344 2 ∧ l < 7) ∧ (0 ≤ r ∧ r < 8) ∧ 1 ≤ n ∧ n ≤ 12 then (if s (400 + 2 * r.toNat) 1 = 0 then -1000011 else if 0 ≤ fr ∧ 0 ≤ n ∧ fr + n ≤ s (400 + 2 * r.toNat) 3 then fSt (jz_su s 0 8 0) l (400 + 2 * r.toNat) fr n.toNat (s 344 3).toNat else -1000012) else -1000001
def f_X7_strayed (s : jz_St) (l r fr n : Int) : jz_St := if (0 ≤ l ∧ l < s 344 2 ∧ l < 7) ∧ (0 ≤ r ∧ r < 8) ∧ 1 ≤ n ∧ n ≤ 12 then (if s (400 + 2 * r.toNat) 1 = 0 then jz_su s 0 8 1 else if 0 ≤ fr ∧ 0 ≤ n ∧ fr + n ≤ s (400 + 2 * r.toNat) 3 then fStS (jz_su s 0 8 0) l (400 + 2 * r.toNat) fr n.toNat (s 344 3).toNat else jz_su s 0 8 2) else s
set_option maxRecDepth 100000 in
set_option maxHeartbeats 4000000 in
theorem c_X7_strayed (g : jz_G) (s : jz_St) (l r fr n : Int) (hI : jInv s)  : jz_C g mX7_strayed [jr (0), ji (l), ji (r), ji (fr), ji (n)] s (jq_ie (v_X7_strayed s l r fr n) (f_X7_strayed s l r fr n)) := by
  refine zz_C_of koX7_strayed rfl (Nat.le_of_ble_eq_true rfl) ?_
  refine zz_pad 3 ?_
  show jz_Z g mX7_strayed (jq_ie (v_X7_strayed s l r fr n) (f_X7_strayed s l r fr n)) 0 [some (jr (0)), some (ji (l)), some (ji (r)), some (ji (fr)), some (ji (n)), none, none, none] [] s
  obtain ⟨hN, hH, hP1, hP2, hT, hRw⟩ := hI
  have hN2 := hN.2.1
  have hA0 : (jz_su s 0 8 0) 344 = s 344 := jz_su_o (by decide)
  have hS0 : jRng (jz_su s 0 8 0) 344 (9 * s 344 6) := jRng_off hN (fun x _ _ => jz_su_o (by omega))
  have hTR0 : jRng (f_X5_take (jz_su s 0 8 0) 358 344) 358 (s 344 6) := by have q := take_rng (s := (jz_su s 0 8 0)) (k := 358) (by decide) hS0; rw [hA0] at q; exact q
  have hK0 : f_X5_take (jz_su s 0 8 0) 358 344 358 2 = s 344 2 := by rw [take_k _ (by decide) (by decide) (by decide), hA0]
  refine jj_aload_n dX7_strayed_0 rfl ?_
  refine jj_iload_n dX7_strayed_1 rfl ?_
  refine zz_cVr (av := [ji (r)]) (st' := []) dX7_strayed_2 kn_X7_53 kmX7_rowAt tt0 rfl rfl rfl (Nat.le_of_ble_eq_true rfl) (by decide) rfl (c_X7_rowAt g s r) (fun ho2 => ?_)
  by_cases hc2 : 0 ≤ r ∧ r < 8
  · refine jj_topO (o' := some (400 + 2 * r.toNat)) (if_pos hc2) ?_
    refine jj_astore (ls' := [some (jr (0)), some (ji (l)), some (ji (r)), some (ji (fr)), some (ji (n)), some (jr (400 + 2 * r.toNat)), none, none]) dX7_strayed_5 (by decide) rfl rfl ?_
    refine jj_aload_n dX7_strayed_7 rfl ?_
    refine zz_getR dX7_strayed_8 kf_X7_39 tt0 rfl ?_
    refine jj_iload_n dX7_strayed_11 rfl ?_
    refine zz_cVr (av := [ji (l)]) (st' := []) dX7_strayed_12 kn_X7_153 kmX5_leafAt tt344 rfl rfl rfl (Nat.le_of_ble_eq_true rfl) (by decide) rfl (c_X5_leafAt g s 344 tt344 l) (fun ho12 => ?_)
    by_cases hc12 : 0 ≤ l ∧ l < s 344 2 ∧ l < 7
    · refine jj_topO (o' := some (344 + 3 + l.toNat)) (if_pos hc12) ?_
      refine jj_ifnull (o := some (344 + 3 + l.toNat)) (tgt := 34) dX7_strayed_15 (by decide) (fun h => by cases h) (fun _ _ => ?_)
      refine jj_aload dX7_strayed_18 rfl ?_
      refine jj_ifnull (o := some (400 + 2 * r.toNat)) (tgt := 34) dX7_strayed_20 (by decide) (fun h => by cases h) (fun _ _ => ?_)
      refine jj_iload dX7_strayed_23 rfl ?_
      refine jj_iconst dX7_strayed_25 (kk := ?_)
      refine jj_bipush dX7_strayed_26 (kk := ?_)
      refine zz_cSi (av := [ji (n), ji (1), ji (12)]) (st' := []) dX7_strayed_28 kn_X7_57 kmX7_isWithin rfl rfl (Nat.le_of_ble_eq_true rfl) (by decide) rfl (c_X7_isWithin g s n 1 12) (fun hr28 ho28 => ?_)
      refine jj_if_ne (tgt := 37) dX7_strayed_31 (by decide) (fun h31 => ?_) (fun h31 => ?_)
      · have hg31 := bz_t h31
        refine jj_aload dX7_strayed_37 rfl ?_
        refine zz_getI dX7_strayed_39 kf_X7_74 (jz_t_rows (by omega)) rfl rfl ?_
        refine jj_if_ne (tgt := 51) dX7_strayed_42 (by decide) (fun h42 => ?_) (fun h42 => ?_)
        · refine jj_aload dX7_strayed_51 rfl ?_
          refine jj_iload_n dX7_strayed_53 rfl ?_
          refine jj_iload dX7_strayed_54 rfl ?_
          refine zz_cVi (av := [ji (fr), ji (n)]) (st' := []) dX7_strayed_56 kn_X7_78 kmX4_hasPlaces (jz_t_rows (by omega)) rfl rfl rfl (Nat.le_of_ble_eq_true rfl) (by decide) rfl (c_X4_hasPlaces g s (400 + 2 * r.toNat) (jz_t_rows (by omega)) fr n (by first | exact (hRw _ (by omega)).1 | omega)) (fun hr56 ho56 => ?_)
          refine jj_if_ne (tgt := 68) dX7_strayed_59 (by decide) (fun h59 => ?_) (fun h59 => ?_)
          · have hg59 := bz_t h59
            refine jj_aload_n dX7_strayed_68 rfl ?_
            refine jj_iconst dX7_strayed_69 (kk := ?_)
            refine zz_putI dX7_strayed_70 kw_X7_66 tt0 rfl rfl ?_
            refine jj_aload_n dX7_strayed_73 rfl ?_
            refine zz_getR dX7_strayed_74 kf_X7_43 tt0 rfl ?_
            refine jj_aload_n dX7_strayed_77 rfl ?_
            refine zz_getR dX7_strayed_78 kf_X7_39 tt0 rfl ?_
            refine zz_cVv (av := [jr (344)]) (st' := []) dX7_strayed_81 kn_X7_122 kmX5_take tt358 rfl rfl rfl (Nat.le_of_ble_eq_true rfl) (by decide) rfl (c_X5_take g (jz_su s 0 8 (0)) 358 344 tt358 tt344) (fun ho81 => ?_)
            refine jj_aload_n dX7_strayed_84 rfl ?_
            refine zz_getR dX7_strayed_85 kf_X7_43 tt0 rfl ?_
            refine jj_iload_n dX7_strayed_88 rfl ?_
            refine jj_aload dX7_strayed_89 rfl ?_
            refine jj_iload_n dX7_strayed_91 rfl ?_
            refine jj_iload dX7_strayed_92 rfl ?_
            refine zz_cVi (av := [ji (l), jr (400 + 2 * r.toNat), ji (fr), ji (n)]) (st' := []) dX7_strayed_94 kn_X7_251 kmX5_goesAs tt358 rfl rfl rfl (Nat.le_of_ble_eq_true rfl) (by decide) rfl (by have q := c_X5_goesAs g (f_X5_take (jz_su s 0 8 (0)) 358 344) 358 tt358 l (by omega) (400 + 2 * r.toNat) (jz_t_rows (by omega)) fr (by have := hRw r.toNat (by omega); omega) (n).toNat (by omega) (s 344 6) (by omega) hTR0; rw [Int.toNat_of_nonneg (by omega)] at q; exact q) (fun hr94 ho94 => ?_)
            have L106 : ∀ (a0 : Int) (hh106_0 : a0 = fSt (jz_su s 0 8 0) l (400 + 2 * r.toNat) fr n.toNat 0), jz_Z g mX7_strayed (jq_ie (v_X7_strayed s l r fr n) (f_X7_strayed s l r fr n)) 106 [some (jr (0)), some (ji (l)), some (ji (r)), some (ji (fr)), some (ji (n)), some (jr (400 + 2 * r.toNat)), none, none] [ji (a0)] (fStS (jz_su s 0 8 0) l (400 + 2 * r.toNat) fr n.toNat 0) := by
              intro a0 hh106_0
              refine jj_istore (ls' := [some (jr (0)), some (ji (l)), some (ji (r)), some (ji (fr)), some (ji (n)), some (jr (400 + 2 * r.toNat)), some (ji (a0)), none]) dX7_strayed_106 (by decide) rfl rfl ?_
              refine jj_iconst dX7_strayed_108 (kk := ?_)
              refine jj_istore (ls' := [some (jr (0)), some (ji (l)), some (ji (r)), some (ji (fr)), some (ji (n)), some (jr (400 + 2 * r.toNat)), some (ji (a0)), some (ji (0))]) dX7_strayed_109 (by decide) rfl rfl ?_
              have L111 : ∀ (nn : Nat) (j : Nat) (acc : Int) (s' : jz_St) (hh111_0 : (j : Int) ≤ s 344 3) (hh111_1 : acc = fSt (jz_su s 0 8 0) l (400 + 2 * r.toNat) fr n.toNat j) (hh111_2 : s' = fStS (jz_su s 0 8 0) l (400 + 2 * r.toNat) fr n.toNat j), (s 344 3).toNat - j < nn → jz_Z g mX7_strayed (jq_ie (v_X7_strayed s l r fr n) (f_X7_strayed s l r fr n)) 111 [some (jr (0)), some (ji (l)), some (ji (r)), some (ji (fr)), some (ji (n)), some (jr (400 + 2 * r.toNat)), some (ji (acc)), some (ji ((j : Int)))] [] s' := by
                intro nn
                induction nn with
                | zero => intro j acc s' hh111_0 hh111_1 hh111_2 hmz; exact absurd hmz (Nat.not_lt_zero _)
                | succ nn ih111 =>
                  intro j acc s' hh111_0 hh111_1 hh111_2 hm111
                  have hq : ∀ x, jOff 358 x → s' x = (jz_su s 0 8 0) x := fun x hx => by rw [hh111_2]; exact fStS_off hx j
                  have hoff : ∀ x, jOff 358 x → x ≠ 0 → s' x = s x := fun x hx h0 => by rw [hq x hx, jz_su_o h0]
                  have hS' : jRng s' 344 (9 * s 344 6) := jRng_off hN (fun x _ _ => hoff x (by unfold jOff; omega) (by omega))
                  have h6' : s' 344 6 = s 344 6 := by rw [hoff 344 (by unfold jOff; omega) (by decide)]
                  have hT' := take_rng (s := s') (k := 358) (by decide) hS'
                  have hA2 : f_X5_take s' 358 344 358 2 = s 344 2 := by rw [take_k s' (by decide) (by decide) (by decide), hoff 344 (by unfold jOff; omega) (by decide)]
                  have hA3 : s' 344 3 = s 344 3 := by rw [hoff 344 (by unfold jOff; omega) (by decide)]
                  have hRR := drv_rng (bits := jshl 1 j) (n := n) hT' (by omega) 4 (by omega)
                  have hK2 : f_X5_drv (f_X5_take s' 358 344) 358 (jshl 1 j) n 4 358 2 = s 344 2 := by rw [drv_k2, hA2]
                  have eG : fGoes (f_X5_drv (f_X5_take s' 358 344) 358 (jshl 1 j) n 4) 358 (358 + 3 + l.toNat) (400 + 2 * r.toNat) fr 0 n.toNat = fStG (fStS (jz_su s 0 8 0) l (400 + 2 * r.toNat) fr n.toNat j) l (400 + 2 * r.toNat) fr n.toNat (some j) := by rw [hh111_2]; unfold fStG; simp only; rw [Int.toNat_of_nonneg (by omega)]
                  refine jj_iload dX7_strayed_111 rfl ?_
                  refine jj_aload_n dX7_strayed_113 rfl ?_
                  refine zz_getR dX7_strayed_114 kf_X7_39 tt0 rfl ?_
                  refine zz_getI dX7_strayed_117 kf_X7_238 tt344 rfl rfl ?_
                  refine jj_icmp_ge (tgt := 178) dX7_strayed_120 (by decide) (fun h120 => ?_) (fun h120 => ?_)
                  · refine jj_iload dX7_strayed_178 rfl ?_
                    refine zz_retie dX7_strayed_180 rfl (by decide) ?_ ?_
                    · unfold v_X7_strayed; rw [if_pos (by omega), if_neg h42, if_pos (by omega), show (s 344 3).toNat = j by omega]; exact hh111_1
                    · unfold f_X7_strayed; rw [if_pos (by omega), if_neg h42, if_pos (by omega), show (s 344 3).toNat = j by omega]; exact hh111_2
                  · refine jj_aload_n dX7_strayed_123 rfl ?_
                    refine zz_getR dX7_strayed_124 kf_X7_43 tt0 rfl ?_
                    refine jj_aload_n dX7_strayed_127 rfl ?_
                    refine zz_getR dX7_strayed_128 kf_X7_39 tt0 rfl ?_
                    refine zz_cVv (av := [jr (344)]) (st' := []) dX7_strayed_131 kn_X7_122 kmX5_take tt358 rfl rfl rfl (Nat.le_of_ble_eq_true rfl) (by decide) rfl (c_X5_take g s' 358 344 tt358 tt344) (fun ho131 => ?_)
                    refine jj_aload_n dX7_strayed_134 rfl ?_
                    refine zz_getR dX7_strayed_135 kf_X7_43 tt0 rfl ?_
                    refine jj_iconst dX7_strayed_138 (kk := ?_)
                    refine jj_iload dX7_strayed_139 rfl ?_
                    refine jj_ishl dX7_strayed_141 ?_
                    refine jj_iload dX7_strayed_142 rfl ?_
                    refine zz_cVv (av := [ji (jshl (1) ((j : Int))), ji (n)]) (st' := []) dX7_strayed_144 kn_X7_241 kmX5_driveOff tt358 rfl rfl rfl (Nat.le_of_ble_eq_true rfl) (by decide) rfl (c_X5_driveOff g (f_X5_take s' 358 344) 358 tt358 (jshl (1) ((j : Int))) n) (fun ho144 => ?_)
                    refine jj_aload_n dX7_strayed_147 rfl ?_
                    refine zz_getR dX7_strayed_148 kf_X7_43 tt0 rfl ?_
                    refine jj_iload_n dX7_strayed_151 rfl ?_
                    refine jj_aload dX7_strayed_152 rfl ?_
                    refine jj_iload_n dX7_strayed_154 rfl ?_
                    refine jj_iload dX7_strayed_155 rfl ?_
                    refine zz_cVi (av := [ji (l), jr (400 + 2 * r.toNat), ji (fr), ji (n)]) (st' := []) dX7_strayed_157 kn_X7_251 kmX5_goesAs tt358 rfl rfl rfl (Nat.le_of_ble_eq_true rfl) (by decide) rfl (by have q := c_X5_goesAs g (f_X5_drv (f_X5_take s' 358 344) 358 (jshl (1) ((j : Int))) n 4) 358 tt358 l (by omega) (400 + 2 * r.toNat) (jz_t_rows (by omega)) fr (by have := hRw r.toNat (by omega); omega) (n).toNat (by omega) (s' 344 6) (by omega) hRR; rw [Int.toNat_of_nonneg (by omega)] at q; exact q) (fun hr157 ho157 => ?_)
                    refine jj_if_eq (tgt := 172) dX7_strayed_160 (by decide) (fun h160 => ?_) (fun h160 => ?_)
                    · refine jj_iinc (ls' := [some (jr (0)), some (ji (l)), some (ji (r)), some (ji (fr)), some (ji (n)), some (jr (400 + 2 * r.toNat)), some (ji (acc)), some (ji ((j : Int) + 1))]) dX7_strayed_172 rfl (by decide) rfl (by omega) rfl ?_
                      refine jj_goto (tgt := 111) dX7_strayed_175 (by decide) ?_
                      exact ih111 (j + 1) acc ((fGoes (f_X5_drv (f_X5_take s' 358 344) 358 (jshl (1) ((j : Int))) n 4) 358 (358 + 3 + l.toNat) (400 + 2 * r.toNat) fr 0 (n).toNat).2) (by omega) (by simp only [fSt]; rw [← eG]; first | (rw [if_pos h160]; exact hh111_1) | (rw [if_neg h160, hh111_1]; done)) (by simp only [fStS]; rw [← eG]) (by omega)
                    · refine jj_iload dX7_strayed_163 rfl ?_
                      refine jj_iconst dX7_strayed_165 (kk := ?_)
                      refine jj_iload dX7_strayed_166 rfl ?_
                      refine jj_ishl dX7_strayed_168 ?_
                      refine jj_ior dX7_strayed_169 ?_
                      refine jj_istore (ls' := [some (jr (0)), some (ji (l)), some (ji (r)), some (ji (fr)), some (ji (n)), some (jr (400 + 2 * r.toNat)), some (ji (jor (acc) (jshl (1) ((j : Int))))), some (ji ((j : Int)))]) dX7_strayed_170 (by decide) rfl rfl ?_
                      refine jj_iinc (ls' := [some (jr (0)), some (ji (l)), some (ji (r)), some (ji (fr)), some (ji (n)), some (jr (400 + 2 * r.toNat)), some (ji (jor (acc) (jshl (1) ((j : Int))))), some (ji ((j : Int) + 1))]) dX7_strayed_172 rfl (by decide) rfl (by omega) rfl ?_
                      refine jj_goto (tgt := 111) dX7_strayed_175 (by decide) ?_
                      exact ih111 (j + 1) (jor (acc) (jshl (1) ((j : Int)))) ((fGoes (f_X5_drv (f_X5_take s' 358 344) 358 (jshl (1) ((j : Int))) n 4) 358 (358 + 3 + l.toNat) (400 + 2 * r.toNat) fr 0 (n).toNat).2) (by omega) (by simp only [fSt]; rw [← eG]; first | (rw [if_pos h160]; exact hh111_1) | (rw [if_neg h160, hh111_1]; done)) (by simp only [fStS]; rw [← eG]) (by omega)
              exact L111 _ 0 a0 (fStS (jz_su s 0 8 0) l (400 + 2 * r.toNat) fr n.toNat 0) (by omega) (by exact hh106_0) (by rfl) (Nat.lt_succ_self _)
            refine jj_if_eq (tgt := 105) dX7_strayed_97 (by decide) (fun h97 => ?_) (fun h97 => ?_)
            · refine jj_iconst dX7_strayed_105 (kk := ?_)
              refine zz_st (s1 := fStS (jz_su s 0 8 0) l (400 + 2 * r.toNat) fr n.toNat 0) (by rfl) ?_
              exact L106 0 (by simp only [fSt]; first | (rw [if_pos (show (fStG (jz_su s 0 8 0) l (400 + 2 * r.toNat) fr n.toNat none).1 = 0 from h97)]; done) | (rw [if_neg (show ¬ (fStG (jz_su s 0 8 0) l (400 + 2 * r.toNat) fr n.toNat none).1 = 0 from h97)]; done))
            · refine jj_bipush dX7_strayed_100 (kk := ?_)
              refine jj_goto (tgt := 106) dX7_strayed_102 (by decide) ?_
              refine zz_st (s1 := fStS (jz_su s 0 8 0) l (400 + 2 * r.toNat) fr n.toNat 0) (by rfl) ?_
              exact L106 16 (by simp only [fSt]; first | (rw [if_pos (show (fStG (jz_su s 0 8 0) l (400 + 2 * r.toNat) fr n.toNat none).1 = 0 from h97)]; done) | (rw [if_neg (show ¬ (fStG (jz_su s 0 8 0) l (400 + 2 * r.toNat) fr n.toNat none).1 = 0 from h97)]; done))
          · have hg59 := bz_f h59
            refine jj_aload_n dX7_strayed_62 rfl ?_
            refine jj_iconst dX7_strayed_63 (kk := ?_)
            refine zz_cVi (av := [ji (2)]) (st' := []) dX7_strayed_64 kn_X7_62 kmX7_found tt0 rfl rfl rfl (Nat.le_of_ble_eq_true rfl) (by decide) rfl (c_X7_found g s 2 (by omega)) (fun hr64 ho64 => ?_)
            refine zz_retie dX7_strayed_67 rfl (by decide) ?_ ?_
            · unfold v_X7_strayed; (repeat (first | rw [if_pos (by omega)] | rw [if_neg (by omega)])) <;> first | rfl | done
            · unfold f_X7_strayed; (repeat (first | rw [if_pos (by omega)] | rw [if_neg (by omega)])) <;> first | rfl | done
        · refine jj_aload_n dX7_strayed_45 rfl ?_
          refine jj_iconst dX7_strayed_46 (kk := ?_)
          refine zz_cVi (av := [ji (1)]) (st' := []) dX7_strayed_47 kn_X7_62 kmX7_found tt0 rfl rfl rfl (Nat.le_of_ble_eq_true rfl) (by decide) rfl (c_X7_found g s 1 (by omega)) (fun hr47 ho47 => ?_)
          refine zz_retie dX7_strayed_50 rfl (by decide) ?_ ?_
          · unfold v_X7_strayed; (repeat (first | rw [if_pos (by omega)] | rw [if_neg (by omega)])) <;> first | rfl | done
          · unfold f_X7_strayed; (repeat (first | rw [if_pos (by omega)] | rw [if_neg (by omega)])) <;> first | rfl | done
      · have hg31 := bz_f h31
        refine jj_ldc dX7_strayed_34 kk_X7_61 (kk := ?_)
        refine zz_retie dX7_strayed_36 rfl (by decide) ?_ ?_
        · unfold v_X7_strayed; (repeat (first | rw [if_pos (by omega)] | rw [if_neg (by omega)])) <;> first | rfl | done
        · unfold f_X7_strayed; (repeat (first | rw [if_pos (by omega)] | rw [if_neg (by omega)])) <;> first | rfl | done
    · refine jj_topO (o' := none) (if_neg hc12) ?_
      refine jj_ifnull (o := none) (tgt := 34) dX7_strayed_15 (by decide) (fun _ => ?_) (fun _ h => by cases h)
      refine jj_ldc dX7_strayed_34 kk_X7_61 (kk := ?_)
      refine zz_retie dX7_strayed_36 rfl (by decide) ?_ ?_
      · unfold v_X7_strayed; (repeat (first | rw [if_pos (by omega)] | rw [if_neg (by omega)])) <;> first | rfl | done
      · unfold f_X7_strayed; (repeat (first | rw [if_pos (by omega)] | rw [if_neg (by omega)])) <;> first | rfl | done
  · refine jj_topO (o' := none) (if_neg hc2) ?_
    refine jj_astoreO (ls' := [some (jr (0)), some (ji (l)), some (ji (r)), some (ji (fr)), some (ji (n)), some (jn), none, none]) dX7_strayed_5 (by decide) rfl rfl ?_
    refine jj_aload_n dX7_strayed_7 rfl ?_
    refine zz_getR dX7_strayed_8 kf_X7_39 tt0 rfl ?_
    refine jj_iload_n dX7_strayed_11 rfl ?_
    refine zz_cVr (av := [ji (l)]) (st' := []) dX7_strayed_12 kn_X7_153 kmX5_leafAt tt344 rfl rfl rfl (Nat.le_of_ble_eq_true rfl) (by decide) rfl (c_X5_leafAt g s 344 tt344 l) (fun ho12 => ?_)
    by_cases hc12 : 0 ≤ l ∧ l < s 344 2 ∧ l < 7
    · refine jj_topO (o' := some (344 + 3 + l.toNat)) (if_pos hc12) ?_
      refine jj_ifnull (o := some (344 + 3 + l.toNat)) (tgt := 34) dX7_strayed_15 (by decide) (fun h => by cases h) (fun _ _ => ?_)
      refine jj_aloadO dX7_strayed_18 rfl ?_
      refine jj_ifnull (o := none) (tgt := 34) dX7_strayed_20 (by decide) (fun _ => ?_) (fun _ h => by cases h)
      refine jj_ldc dX7_strayed_34 kk_X7_61 (kk := ?_)
      refine zz_retie dX7_strayed_36 rfl (by decide) ?_ ?_
      · unfold v_X7_strayed; (repeat (first | rw [if_pos (by omega)] | rw [if_neg (by omega)])) <;> first | rfl | done
      · unfold f_X7_strayed; (repeat (first | rw [if_pos (by omega)] | rw [if_neg (by omega)])) <;> first | rfl | done
    · refine jj_topO (o' := none) (if_neg hc12) ?_
      refine jj_ifnull (o := none) (tgt := 34) dX7_strayed_15 (by decide) (fun _ => ?_) (fun _ h => by cases h)
      refine jj_ldc dX7_strayed_34 kk_X7_61 (kk := ?_)
      refine zz_retie dX7_strayed_36 rfl (by decide) ?_ ?_
      · unfold v_X7_strayed; (repeat (first | rw [if_pos (by omega)] | rw [if_neg (by omega)])) <;> first | rfl | done
      · unfold f_X7_strayed; (repeat (first | rw [if_pos (by omega)] | rw [if_neg (by omega)])) <;> first | rfl | done

