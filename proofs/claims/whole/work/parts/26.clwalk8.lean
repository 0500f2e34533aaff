set_option maxRecDepth 100000 in
set_option maxHeartbeats 4000000 in
theorem c_X7_giveS (g : jz_G) (l : Nat) (hl : l < 7) (kd sz lf : Int) (hz : -1000 ≤ sz ∧ sz ≤ 1000) (hlf : -1000 ≤ lf ∧ lf ≤ 1000) (m : Nat) (hm : m ≤ 16) (ih : ∀ (s : jz_St) (b d : Int), d = 17 - m → (s (344 + 3 + l) 1 = kd ∧ s (344 + 3 + l) 2 = sz ∧ s (344 + 3 + l) 5 = lf) → jz_C g (mgive (m + 3)) [ji b, jr (344 + 3 + l), jr 342, ji d] s (jq_ie (fGiV kd sz lf l m b) (fGiS kd m b s))) (s : jz_St) (b d : Int) (hd : d = 16 - m) (hF : s (344 + 3 + l) 1 = kd ∧ s (344 + 3 + l) 2 = sz ∧ s (344 + 3 + l) 5 = lf) : jz_C g (mgive (m + 4)) [ji (b), jr (344 + 3 + l), jr (342), ji (d)] s (jq_ie (fGiV kd sz lf l (m + 1) b) (fGiS kd (m + 1) b s)) := by
  refine zz_C_of (kogive (m + 4)) rfl (Nat.le_of_ble_eq_true rfl) ?_
  refine zz_pad 1 ?_
  show jz_Z g (mgive (m + 4)) (jq_ie (fGiV kd sz lf l (m + 1) b) (fGiS kd (m + 1) b s)) 0 [some (ji (b)), some (jr (344 + 3 + l)), some (jr (342)), some (ji (d)), none] [] s
  have hB : ∀ b, -65536000 ≤ fGiV kd sz lf l m b ∧ fGiV kd sz lf l m b ≤ 65536000 := by
    intro b
    have h1 := fGiV_r (kd := kd) hz hlf (nr := l) (by omega) m b
    have h2 : ∀ m : Nat, m ≤ 16 → (2 : Int) ^ m ≤ 65536 := by decide
    have := h2 m hm
    omega
  refine jj_iload_n dX7_give_0 rfl ?_
  refine jj_bipush dX7_give_1 (kk := ?_)
  refine jj_icmp_le (tgt := 8) dX7_give_3 (by decide) (fun h3 => ?_) (fun h3 => ?_)
  · refine jj_aload_n dX7_give_8 rfl ?_
    refine jj_iload_n dX7_give_9 rfl ?_
    refine zz_cVv (av := [ji (b)]) (st' := []) dX7_give_10 kn_X7_326 kmX2_add tt342 rfl rfl rfl (Nat.le_of_ble_eq_true rfl) (by simp only [jm_d, mgive, mX2_add]; omega) rfl (c_X2_add g s b) (fun ho10 => ?_)
    refine jj_iload_n dX7_give_13 rfl ?_
    refine jj_iconst dX7_give_14 (kk := ?_)
    refine jj_iadd dX7_give_15 (by omega) ?_
    refine jj_istore (ls' := [some (ji (b)), some (jr (344 + 3 + l)), some (jr (342)), some (ji (d)), some (ji (d + 1))]) dX7_give_16 (by simp [jm_k, jm_L, mgive]) rfl rfl ?_
    refine jj_iload_n dX7_give_18 rfl ?_
    by_cases ht19 : (b) < 10 ∨ 24 < (b)
    · refine jj_tswO (tgt := 231) dX7_give_19 ht19 (by decide) ?_
      refine jj_iconst dX7_give_231 (kk := ?_)
      refine zz_retie dX7_give_232 rfl (by simp [jm_k, jm_L, mgive]) ?_ ?_
      · simp only [fGiV]; (repeat rw [if_neg (by omega)])
      · simp only [fGiS]; (repeat rw [if_neg (by omega)])
    · have hc19 : (b) = 10 ∨ (b) = 11 ∨ (b) = 12 ∨ (b) = 13 ∨ (b) = 14 ∨ (b) = 15 ∨ (b) = 16 ∨ (b) = 17 ∨ (b) = 18 ∨ (b) = 19 ∨ (b) = 20 ∨ (b) = 21 ∨ (b) = 22 ∨ (b) = 23 ∨ (b) = 24 := by omega
      rcases hc19 with hv19 | hv19 | hv19 | hv19 | hv19 | hv19 | hv19 | hv19 | hv19 | hv19 | hv19 | hv19 | hv19 | hv19 | hv19
      · refine jj_tswI (off := 73) (tgt := 92) dX7_give_19 (by omega) (by omega) (by rw [hv19]; rfl) (by decide) ?_
        refine jj_aload_n dX7_give_92 rfl ?_
        refine zz_getI dX7_give_93 kf_X7_171 (jz_t_leaf tt344 hl) rfl rfl ?_
        refine zz_top (b := sz) (by rw [add_off _ _ (by omega) (by omega)]; exact hF.2.1) ?_
        refine zz_retie dX7_give_96 rfl (by simp [jm_k, jm_L, mgive]) ?_ ?_
        · subst hv19; rfl
        · subst hv19; rfl
      · refine jj_tswI (off := 78) (tgt := 97) dX7_give_19 (by omega) (by omega) (by rw [hv19]; rfl) (by decide) ?_
        refine jj_bipush dX7_give_97 (kk := ?_)
        refine jj_aload_n dX7_give_99 rfl ?_
        refine jj_aload_n dX7_give_100 rfl ?_
        refine jj_iload dX7_give_101 rfl ?_
        refine zz_cSi (av := [ji (10), jr (344 + 3 + l), jr (342), ji (d + 1)]) (st' := []) dX7_give_103 (kn_X7_306 (m + 3)) (kmgive (m + 3)) rfl rfl (Nat.le_of_ble_eq_true rfl) (by simp only [jm_d, mgive]; omega) rfl (ih (f_X2_add s b) 10 (d + 1) (by omega) (by (repeat (first | rw [fGiS_off (by omega) (by omega)] | rw [add_off _ _ (by omega) (by omega)])); exact hF)) (fun hr103 ho103 => ?_)
        refine jj_aload_n dX7_give_106 rfl ?_
        refine zz_getI dX7_give_107 kf_X7_296 (jz_t_leaf tt344 hl) rfl rfl ?_
        refine zz_top (b := kd) (by rw [fGiS_off (by omega) (by omega), add_off _ _ (by omega) (by omega)]; exact hF.1) ?_
        refine jj_iconst dX7_give_110 (kk := ?_)
        refine zz_cSi (av := [ji (kd), ji (1)]) (st' := [ji (fGiV kd sz lf l m 10)]) dX7_give_111 kn_X7_303 kmX7_bodyOf rfl rfl (Nat.le_of_ble_eq_true rfl) (by simp only [jm_d, mgive, mX7_bodyOf]; omega) rfl (c_X7_bodyOf g (fGiS kd m 10 (f_X2_add s b)) kd 1) (fun hr111 ho111 => ?_)
        refine jj_aload_n dX7_give_114 rfl ?_
        refine jj_aload_n dX7_give_115 rfl ?_
        refine jj_iload dX7_give_116 rfl ?_
        refine zz_cSi (av := [ji (fBody kd 1), jr (344 + 3 + l), jr (342), ji (d + 1)]) (st' := [ji (fGiV kd sz lf l m 10)]) dX7_give_118 (kn_X7_306 (m + 3)) (kmgive (m + 3)) rfl rfl (Nat.le_of_ble_eq_true rfl) (by simp only [jm_d, mgive]; omega) rfl (ih (fGiS kd m 10 (f_X2_add s b)) (fBody kd 1) (d + 1) (by omega) (by (repeat (first | rw [fGiS_off (by omega) (by omega)] | rw [add_off _ _ (by omega) (by omega)])); exact hF)) (fun hr118 ho118 => ?_)
        refine jj_iadd dX7_give_121 (by have := hB 10; have := hB (fBody kd 1); omega) ?_
        refine zz_retie dX7_give_122 rfl (by simp [jm_k, jm_L, mgive]) ?_ ?_
        · subst hv19; rfl
        · subst hv19; rfl
      · refine jj_tswI (off := 104) (tgt := 123) dX7_give_19 (by omega) (by omega) (by rw [hv19]; rfl) (by decide) ?_
        refine jj_bipush dX7_give_123 (kk := ?_)
        refine jj_aload_n dX7_give_125 rfl ?_
        refine jj_aload_n dX7_give_126 rfl ?_
        refine jj_iload dX7_give_127 rfl ?_
        refine zz_cSi (av := [ji (11), jr (344 + 3 + l), jr (342), ji (d + 1)]) (st' := []) dX7_give_129 (kn_X7_306 (m + 3)) (kmgive (m + 3)) rfl rfl (Nat.le_of_ble_eq_true rfl) (by simp only [jm_d, mgive]; omega) rfl (ih (f_X2_add s b) 11 (d + 1) (by omega) (by (repeat (first | rw [fGiS_off (by omega) (by omega)] | rw [add_off _ _ (by omega) (by omega)])); exact hF)) (fun hr129 ho129 => ?_)
        refine jj_ineg dX7_give_132 (by have := hB 11; omega) ?_
        refine zz_retie dX7_give_133 rfl (by simp [jm_k, jm_L, mgive]) ?_ ?_
        · subst hv19; rfl
        · subst hv19; rfl
      · refine jj_tswI (off := 115) (tgt := 134) dX7_give_19 (by omega) (by omega) (by rw [hv19]; rfl) (by decide) ?_
        refine jj_bipush dX7_give_134 (kk := ?_)
        refine jj_aload_n dX7_give_136 rfl ?_
        refine jj_aload_n dX7_give_137 rfl ?_
        refine jj_iload dX7_give_138 rfl ?_
        refine zz_cSi (av := [ji (10), jr (344 + 3 + l), jr (342), ji (d + 1)]) (st' := []) dX7_give_140 (kn_X7_306 (m + 3)) (kmgive (m + 3)) rfl rfl (Nat.le_of_ble_eq_true rfl) (by simp only [jm_d, mgive]; omega) rfl (ih (f_X2_add s b) 10 (d + 1) (by omega) (by (repeat (first | rw [fGiS_off (by omega) (by omega)] | rw [add_off _ _ (by omega) (by omega)])); exact hF)) (fun hr140 ho140 => ?_)
        refine jj_bipush dX7_give_143 (kk := ?_)
        refine jj_isub dX7_give_145 (by have := hB 10; omega) ?_
        refine zz_retie dX7_give_146 rfl (by simp [jm_k, jm_L, mgive]) ?_ ?_
        · subst hv19; rfl
        · subst hv19; rfl
      · refine jj_tswI (off := 128) (tgt := 147) dX7_give_19 (by omega) (by omega) (by rw [hv19]; rfl) (by decide) ?_
        refine jj_iconst dX7_give_147 (kk := ?_)
        refine jj_bipush dX7_give_148 (kk := ?_)
        refine jj_aload_n dX7_give_150 rfl ?_
        refine jj_aload_n dX7_give_151 rfl ?_
        refine jj_iload dX7_give_152 rfl ?_
        refine zz_cSi (av := [ji (13), jr (344 + 3 + l), jr (342), ji (d + 1)]) (st' := [ji (2)]) dX7_give_154 (kn_X7_306 (m + 3)) (kmgive (m + 3)) rfl rfl (Nat.le_of_ble_eq_true rfl) (by simp only [jm_d, mgive]; omega) rfl (ih (f_X2_add s b) 13 (d + 1) (by omega) (by (repeat (first | rw [fGiS_off (by omega) (by omega)] | rw [add_off _ _ (by omega) (by omega)])); exact hF)) (fun hr154 ho154 => ?_)
        refine jj_imul dX7_give_157 (by have := hB 13; omega) ?_
        refine zz_retie dX7_give_158 rfl (by simp [jm_k, jm_L, mgive]) ?_ ?_
        · subst hv19; rfl
        · subst hv19; rfl
      · refine jj_tswI (off := 212) (tgt := 231) dX7_give_19 (by omega) (by omega) (by rw [hv19]; rfl) (by decide) ?_
        refine jj_iconst dX7_give_231 (kk := ?_)
        refine zz_retie dX7_give_232 rfl (by simp [jm_k, jm_L, mgive]) ?_ ?_
        · simp only [fGiV]; (repeat rw [if_neg (by omega)])
        · simp only [fGiS]; (repeat rw [if_neg (by omega)])
      · refine jj_tswI (off := 212) (tgt := 231) dX7_give_19 (by omega) (by omega) (by rw [hv19]; rfl) (by decide) ?_
        refine jj_iconst dX7_give_231 (kk := ?_)
        refine zz_retie dX7_give_232 rfl (by simp [jm_k, jm_L, mgive]) ?_ ?_
        · simp only [fGiV]; (repeat rw [if_neg (by omega)])
        · simp only [fGiS]; (repeat rw [if_neg (by omega)])
      · refine jj_tswI (off := 212) (tgt := 231) dX7_give_19 (by omega) (by omega) (by rw [hv19]; rfl) (by decide) ?_
        refine jj_iconst dX7_give_231 (kk := ?_)
        refine zz_retie dX7_give_232 rfl (by simp [jm_k, jm_L, mgive]) ?_ ?_
        · simp only [fGiV]; (repeat rw [if_neg (by omega)])
        · simp only [fGiS]; (repeat rw [if_neg (by omega)])
      · refine jj_tswI (off := 212) (tgt := 231) dX7_give_19 (by omega) (by omega) (by rw [hv19]; rfl) (by decide) ?_
        refine jj_iconst dX7_give_231 (kk := ?_)
        refine zz_retie dX7_give_232 rfl (by simp [jm_k, jm_L, mgive]) ?_ ?_
        · simp only [fGiV]; (repeat rw [if_neg (by omega)])
        · simp only [fGiS]; (repeat rw [if_neg (by omega)])
      · refine jj_tswI (off := 212) (tgt := 231) dX7_give_19 (by omega) (by omega) (by rw [hv19]; rfl) (by decide) ?_
        refine jj_iconst dX7_give_231 (kk := ?_)
        refine zz_retie dX7_give_232 rfl (by simp [jm_k, jm_L, mgive]) ?_ ?_
        · simp only [fGiV]; (repeat rw [if_neg (by omega)])
        · simp only [fGiS]; (repeat rw [if_neg (by omega)])
      · refine jj_tswI (off := 140) (tgt := 159) dX7_give_19 (by omega) (by omega) (by rw [hv19]; rfl) (by decide) ?_
        refine jj_aload_n dX7_give_159 rfl ?_
        refine zz_getN (z := ((l : Nat) : Int)) dX7_give_160 kf_X7_203 (jz_t_leaf tt344 hl) rfl rfl (jz_nm_leaf tt344 hl) ?_
        refine zz_retie dX7_give_163 rfl (by simp [jm_k, jm_L, mgive]) ?_ ?_
        · subst hv19; rfl
        · subst hv19; rfl
      · refine jj_tswI (off := 145) (tgt := 164) dX7_give_19 (by omega) (by omega) (by rw [hv19]; rfl) (by decide) ?_
        refine jj_bipush dX7_give_164 (kk := ?_)
        refine jj_aload_n dX7_give_166 rfl ?_
        refine jj_aload_n dX7_give_167 rfl ?_
        refine jj_iload dX7_give_168 rfl ?_
        refine zz_cSi (av := [ji (20), jr (344 + 3 + l), jr (342), ji (d + 1)]) (st' := []) dX7_give_170 (kn_X7_306 (m + 3)) (kmgive (m + 3)) rfl rfl (Nat.le_of_ble_eq_true rfl) (by simp only [jm_d, mgive]; omega) rfl (ih (f_X2_add s b) 20 (d + 1) (by omega) (by (repeat (first | rw [fGiS_off (by omega) (by omega)] | rw [add_off _ _ (by omega) (by omega)])); exact hF)) (fun hr170 ho170 => ?_)
        refine jj_aload_n dX7_give_173 rfl ?_
        refine zz_getI dX7_give_174 kf_X7_168 (jz_t_leaf tt344 hl) rfl rfl ?_
        refine zz_top (b := lf) (by rw [fGiS_off (by omega) (by omega), add_off _ _ (by omega) (by omega)]; exact hF.2.2) ?_
        refine jj_iadd dX7_give_177 (by have := hB 20; omega) ?_
        refine zz_retie dX7_give_178 rfl (by simp [jm_k, jm_L, mgive]) ?_ ?_
        · subst hv19; rfl
        · subst hv19; rfl
      · refine jj_tswI (off := 160) (tgt := 179) dX7_give_19 (by omega) (by omega) (by rw [hv19]; rfl) (by decide) ?_
        refine jj_bipush dX7_give_179 (kk := ?_)
        refine jj_aload_n dX7_give_181 rfl ?_
        refine jj_aload_n dX7_give_182 rfl ?_
        refine jj_iload dX7_give_183 rfl ?_
        refine zz_cSi (av := [ji (21), jr (344 + 3 + l), jr (342), ji (d + 1)]) (st' := []) dX7_give_185 (kn_X7_306 (m + 3)) (kmgive (m + 3)) rfl rfl (Nat.le_of_ble_eq_true rfl) (by simp only [jm_d, mgive]; omega) rfl (ih (f_X2_add s b) 21 (d + 1) (by omega) (by (repeat (first | rw [fGiS_off (by omega) (by omega)] | rw [add_off _ _ (by omega) (by omega)])); exact hF)) (fun hr185 ho185 => ?_)
        refine jj_sipush dX7_give_188 (kk := ?_)
        refine jj_isub dX7_give_191 (by have := hB 21; omega) ?_
        refine zz_retie dX7_give_192 rfl (by simp [jm_k, jm_L, mgive]) ?_ ?_
        · subst hv19; rfl
        · subst hv19; rfl
      · refine jj_tswI (off := 174) (tgt := 193) dX7_give_19 (by omega) (by omega) (by rw [hv19]; rfl) (by decide) ?_
        refine jj_bipush dX7_give_193 (kk := ?_)
        refine jj_aload_n dX7_give_195 rfl ?_
        refine jj_aload_n dX7_give_196 rfl ?_
        refine jj_iload dX7_give_197 rfl ?_
        refine zz_cSi (av := [ji (20), jr (344 + 3 + l), jr (342), ji (d + 1)]) (st' := []) dX7_give_199 (kn_X7_306 (m + 3)) (kmgive (m + 3)) rfl rfl (Nat.le_of_ble_eq_true rfl) (by simp only [jm_d, mgive]; omega) rfl (ih (f_X2_add s b) 20 (d + 1) (by omega) (by (repeat (first | rw [fGiS_off (by omega) (by omega)] | rw [add_off _ _ (by omega) (by omega)])); exact hF)) (fun hr199 ho199 => ?_)
        refine jj_aload_n dX7_give_202 rfl ?_
        refine zz_getI dX7_give_203 kf_X7_296 (jz_t_leaf tt344 hl) rfl rfl ?_
        refine zz_top (b := kd) (by rw [fGiS_off (by omega) (by omega), add_off _ _ (by omega) (by omega)]; exact hF.1) ?_
        refine jj_iconst dX7_give_206 (kk := ?_)
        refine zz_cSi (av := [ji (kd), ji (0)]) (st' := [ji (fGiV kd sz lf l m 20)]) dX7_give_207 kn_X7_303 kmX7_bodyOf rfl rfl (Nat.le_of_ble_eq_true rfl) (by simp only [jm_d, mgive, mX7_bodyOf]; omega) rfl (c_X7_bodyOf g (fGiS kd m 20 (f_X2_add s b)) kd 0) (fun hr207 ho207 => ?_)
        refine jj_aload_n dX7_give_210 rfl ?_
        refine jj_aload_n dX7_give_211 rfl ?_
        refine jj_iload dX7_give_212 rfl ?_
        refine zz_cSi (av := [ji (fBody kd 0), jr (344 + 3 + l), jr (342), ji (d + 1)]) (st' := [ji (fGiV kd sz lf l m 20)]) dX7_give_214 (kn_X7_306 (m + 3)) (kmgive (m + 3)) rfl rfl (Nat.le_of_ble_eq_true rfl) (by simp only [jm_d, mgive]; omega) rfl (ih (fGiS kd m 20 (f_X2_add s b)) (fBody kd 0) (d + 1) (by omega) (by (repeat (first | rw [fGiS_off (by omega) (by omega)] | rw [add_off _ _ (by omega) (by omega)])); exact hF)) (fun hr214 ho214 => ?_)
        refine jj_isub dX7_give_217 (by have := hB 20; have := hB (fBody kd 0); omega) ?_
        refine zz_retie dX7_give_218 rfl (by simp [jm_k, jm_L, mgive]) ?_ ?_
        · subst hv19; rfl
        · subst hv19; rfl
      · refine jj_tswI (off := 200) (tgt := 219) dX7_give_19 (by omega) (by omega) (by rw [hv19]; rfl) (by decide) ?_
        refine jj_iconst dX7_give_219 (kk := ?_)
        refine jj_bipush dX7_give_220 (kk := ?_)
        refine jj_aload_n dX7_give_222 rfl ?_
        refine jj_aload_n dX7_give_223 rfl ?_
        refine jj_iload dX7_give_224 rfl ?_
        refine zz_cSi (av := [ji (21), jr (344 + 3 + l), jr (342), ji (d + 1)]) (st' := [ji (2)]) dX7_give_226 (kn_X7_306 (m + 3)) (kmgive (m + 3)) rfl rfl (Nat.le_of_ble_eq_true rfl) (by simp only [jm_d, mgive]; omega) rfl (ih (f_X2_add s b) 21 (d + 1) (by omega) (by (repeat (first | rw [fGiS_off (by omega) (by omega)] | rw [add_off _ _ (by omega) (by omega)])); exact hF)) (fun hr226 ho226 => ?_)
        refine jj_imul dX7_give_229 (by have := hB 21; omega) ?_
        refine zz_retie dX7_give_230 rfl (by simp [jm_k, jm_L, mgive]) ?_ ?_
        · subst hv19; rfl
        · subst hv19; rfl
  · refine jj_iconst dX7_give_6 (kk := ?_)
    refine zz_retie dX7_give_7 rfl (by simp [jm_k, jm_L, mgive]) ?_ ?_
    · exfalso; omega
    · exfalso; omega

set_option maxRecDepth 100000 in
set_option maxHeartbeats 4000000 in
theorem c_X7_give0 (g : jz_G) (l : Nat) (hl : l < 7) (kd sz lf : Int) (s : jz_St) (b d : Int) (hd : d = 17) : jz_C g (mgive 3) [ji (b), jr (344 + 3 + l), jr (342), ji (d)] s (jq_ie (fGiV kd sz lf l 0 b) (fGiS kd 0 b s)) := by
  refine zz_C_of (kogive 3) rfl (Nat.le_of_ble_eq_true rfl) ?_
  refine zz_pad 1 ?_
  show jz_Z g (mgive 3) (jq_ie (fGiV kd sz lf l 0 b) (fGiS kd 0 b s)) 0 [some (ji (b)), some (jr (344 + 3 + l)), some (jr (342)), some (ji (d)), none] [] s
  refine jj_iload_n dX7_give_0 rfl ?_
  refine jj_bipush dX7_give_1 (kk := ?_)
  refine jj_icmp_le (tgt := 8) dX7_give_3 (by decide) (fun h3 => ?_) (fun h3 => ?_)
  · exfalso; omega
  · refine jj_iconst dX7_give_6 (kk := ?_)
    refine zz_retie dX7_give_7 rfl (by decide) ?_ ?_
    · rfl
    · rfl

theorem c_X7_give (g : jz_G) (l : Nat) (hl : l < 7) (kd sz lf : Int) (hz : -1000 ≤ sz ∧ sz ≤ 1000) (hlf : -1000 ≤ lf ∧ lf ≤ 1000) : ∀ (m : Nat), m ≤ 17 → ∀ (s : jz_St) (b d : Int), d = 17 - m → (s (344 + 3 + l) 1 = kd ∧ s (344 + 3 + l) 2 = sz ∧ s (344 + 3 + l) 5 = lf) → jz_C g (mgive (m + 3)) [ji b, jr (344 + 3 + l), jr 342, ji d] s (jq_ie (fGiV kd sz lf l m b) (fGiS kd m b s)) := by
  intro m
  induction m with
  | zero => intro _ s b d hd _; exact c_X7_give0 g l hl kd sz lf s b d (by omega)
  | succ m ih => intro hm s b d hd hF; exact c_X7_giveS g l hl kd sz lf hz hlf m (by omega) (ih (by omega)) s b d (by omega) hF
def v_X7_ask (s : jz_St) (l w : Int) : Int := if (0 ≤ l ∧ l < s 344 2 ∧ l < 7) ∧ 0 ≤ w ∧ w ≤ 1 then fGiV (s (344 + 3 + l.toNat) 1) (s (344 + 3 + l.toNat) 2) (s (344 + 3 + l.toNat) 5) l 17 (fBody (s (344 + 3 + l.toNat) 1) w) else -1000001
def f_X7_ask (s : jz_St) (l w : Int) : jz_St := if (0 ≤ l ∧ l < s 344 2 ∧ l < 7) ∧ 0 ≤ w ∧ w ≤ 1 then fGiS (s (344 + 3 + l.toNat) 1) 17 (fBody (s (344 + 3 + l.toNat) 1) w) (jz_su s 342 1 0) else s
set_option maxRecDepth 100000 in
set_option maxHeartbeats 4000000 in
theorem c_X7_ask (g : jz_G) (s : jz_St) (l w : Int) (hI : jInv s) (hZ : jSz s 344)  : jz_C g mX7_ask [jr (0), ji (l), ji (w)] s (jq_ie (v_X7_ask s l w) (f_X7_ask s l w)) := by
  refine zz_C_of koX7_ask rfl (Nat.le_of_ble_eq_true rfl) ?_
  refine zz_pad 1 ?_
  show jz_Z g mX7_ask (jq_ie (v_X7_ask s l w) (f_X7_ask s l w)) 0 [some (jr (0)), some (ji (l)), some (ji (w)), none] [] s
  obtain ⟨hN, hH, hP1, hP2, hT, hRw⟩ := hI
  refine jj_aload_n dX7_ask_0 rfl ?_
  refine zz_getR dX7_ask_1 kf_X7_39 tt0 rfl ?_
  refine jj_iload_n dX7_ask_4 rfl ?_
  refine zz_cVr (av := [ji (l)]) (st' := []) dX7_ask_5 kn_X7_153 kmX5_leafAt tt344 rfl rfl rfl (Nat.le_of_ble_eq_true rfl) (by decide) rfl (c_X5_leafAt g s 344 tt344 l) (fun ho5 => ?_)
  by_cases hc5 : 0 ≤ l ∧ l < s 344 2 ∧ l < 7
  · refine jj_topO (o' := some (344 + 3 + l.toNat)) (if_pos hc5) ?_
    refine jj_astore_n (ls' := [some (jr (0)), some (ji (l)), some (ji (w)), some (jr (344 + 3 + l.toNat))]) dX7_ask_8 (by decide) rfl rfl ?_
    refine jj_aload_n dX7_ask_9 rfl ?_
    refine jj_ifnull (o := some (344 + 3 + l.toNat)) (tgt := 22) dX7_ask_10 (by decide) (fun h => by cases h) (fun _ _ => ?_)
    refine jj_iload_n dX7_ask_13 rfl ?_
    refine jj_iconst dX7_ask_14 (kk := ?_)
    refine jj_iconst dX7_ask_15 (kk := ?_)
    refine zz_cSi (av := [ji (w), ji (0), ji (1)]) (st' := []) dX7_ask_16 kn_X7_57 kmX7_isWithin rfl rfl (Nat.le_of_ble_eq_true rfl) (by decide) rfl (c_X7_isWithin g s w 0 1) (fun hr16 ho16 => ?_)
    refine jj_if_ne (tgt := 25) dX7_ask_19 (by decide) (fun h19 => ?_) (fun h19 => ?_)
    · have hg19 := bz_t h19
      refine jj_aload_n dX7_ask_25 rfl ?_
      refine zz_getR dX7_ask_26 kf_X7_32 tt0 rfl ?_
      refine jj_iconst dX7_ask_29 (kk := ?_)
      refine zz_putI dX7_ask_30 kw_X7_302 tt342 rfl rfl ?_
      refine jj_aload_n dX7_ask_33 rfl ?_
      refine zz_getI dX7_ask_34 kf_X7_296 (jz_t_leaf tt344 (by omega)) rfl rfl ?_
      refine zz_top (b := s (344 + 3 + l.toNat) 1) (by rw [jz_su_o (by omega)]) ?_
      refine jj_iload_n dX7_ask_37 rfl ?_
      refine zz_cSi (av := [ji (s (344 + 3 + l.toNat) 1), ji (w)]) (st' := []) dX7_ask_38 kn_X7_303 kmX7_bodyOf rfl rfl (Nat.le_of_ble_eq_true rfl) (by decide) rfl (c_X7_bodyOf g (jz_su s 342 1 (0)) (s (344 + 3 + l.toNat) 1) w) (fun hr38 ho38 => ?_)
      refine jj_aload_n dX7_ask_41 rfl ?_
      have hz0 := hZ l.toNat (by omega) (by omega)
      have hl0 := (hN.2.2.2.2.2.2.1 l.toNat (by omega)).1
      refine jj_aload_n dX7_ask_42 rfl ?_
      refine zz_getR dX7_ask_43 kf_X7_32 tt0 rfl ?_
      refine jj_iconst dX7_ask_46 (kk := ?_)
      refine zz_cSi (av := [ji (fBody (s (344 + 3 + l.toNat) 1) w), jr (344 + 3 + l.toNat), jr (342), ji (0)]) (st' := []) dX7_ask_47 (kn_X7_306 20) (kmgive 20) rfl rfl (Nat.le_of_ble_eq_true rfl) (by decide) rfl (c_X7_give g l.toNat (by omega) (s (344 + 3 + l.toNat) 1) (s (344 + 3 + l.toNat) 2) (s (344 + 3 + l.toNat) 5) (by omega) (by omega) 17 (by decide) (jz_su s 342 1 (0)) (fBody (s (344 + 3 + l.toNat) 1) w) 0 (by decide) ⟨by rw [jz_su_o (by omega)], by rw [jz_su_o (by omega)], by rw [jz_su_o (by omega)]⟩) (fun hr47 ho47 => ?_)
      refine zz_retie dX7_ask_50 rfl (by decide) ?_ ?_
      · unfold v_X7_ask; rw [if_pos (by omega), Int.toNat_of_nonneg (by omega)]
      · unfold f_X7_ask; rw [if_pos (by omega)]
    · have hg19 := bz_f h19
      refine jj_ldc dX7_ask_22 kk_X7_61 (kk := ?_)
      refine zz_retie dX7_ask_24 rfl (by decide) ?_ ?_
      · unfold v_X7_ask; (repeat (first | rw [if_pos (by omega)] | rw [if_neg (by omega)])) <;> first | rfl | done
      · unfold f_X7_ask; (repeat (first | rw [if_pos (by omega)] | rw [if_neg (by omega)])) <;> first | rfl | done
  · refine jj_topO (o' := none) (if_neg hc5) ?_
    refine jj_astore_nO (ls' := [some (jr (0)), some (ji (l)), some (ji (w)), some (jn)]) dX7_ask_8 (by decide) rfl rfl ?_
    refine jj_aload_nO dX7_ask_9 rfl ?_
    refine jj_ifnull (o := none) (tgt := 22) dX7_ask_10 (by decide) (fun _ => ?_) (fun _ h => by cases h)
    refine jj_ldc dX7_ask_22 kk_X7_61 (kk := ?_)
    refine zz_retie dX7_ask_24 rfl (by decide) ?_ ?_
    · unfold v_X7_ask; (repeat (first | rw [if_pos (by omega)] | rw [if_neg (by omega)])) <;> first | rfl | done
    · unfold f_X7_ask; (repeat (first | rw [if_pos (by omega)] | rw [if_neg (by omega)])) <;> first | rfl | done

