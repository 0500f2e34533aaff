set_option maxRecDepth 100000 in
set_option maxHeartbeats 4000000 in
theorem c_X8_in (g : jz_G) (s : jz_St) (v l h : Int) : jz_C g mX8_in [jl (v), jl (l), jl (h)] s (jq_ie (if l ≤ v ∧ v ≤ h then 1 else 0) s) := by
  refine zz_C_of koX8_in rfl (Nat.le_of_ble_eq_true rfl) ?_
  refine zz_pad 0 ?_
  show jz_Z g mX8_in (jq_ie (if l ≤ v ∧ v ≤ h then 1 else 0) s) 0 [some (jl (v)), none, some (jl (l)), none, some (jl (h)), none] [] s
  have hj0_0 := @jc_lt v l
  have hj0_1 := @jc_gt v l
  have hj0_2 := @jc_le v l
  have hj1_0 := @jc_lt v h
  have hj1_1 := @jc_gt v h
  have hj1_2 := @jc_le v h
  refine jj_lload_n dX8_in_0 rfl ?_
  refine jj_lload_n dX8_in_1 rfl ?_
  refine jj_lcmp dX8_in_2 ?_
  refine jj_if_lt (tgt := 17) dX8_in_3 (by decide) (fun h3 => ?_) (fun h3 => ?_)
  · refine jj_iconst dX8_in_17 (kk := ?_)
    refine zz_retze dX8_in_18 rfl (by first | exact Or.inl rfl | exact Or.inr rfl) (by decide) ?_ ?_
    · first | rfl | ((repeat' split) <;> omega)
    · rfl
  · refine jj_lload_n dX8_in_6 rfl ?_
    refine jj_lload dX8_in_7 rfl ?_
    refine jj_lcmp dX8_in_9 ?_
    refine jj_if_gt (tgt := 17) dX8_in_10 (by decide) (fun h10 => ?_) (fun h10 => ?_)
    · refine jj_iconst dX8_in_17 (kk := ?_)
      refine zz_retze dX8_in_18 rfl (by first | exact Or.inl rfl | exact Or.inr rfl) (by decide) ?_ ?_
      · first | rfl | ((repeat' split) <;> omega)
      · rfl
    · refine jj_iconst dX8_in_13 (kk := ?_)
      refine jj_goto (tgt := 18) dX8_in_14 (by decide) ?_
      refine zz_retze dX8_in_18 rfl (by first | exact Or.inl rfl | exact Or.inr rfl) (by decide) ?_ ?_
      · first | rfl | ((repeat' split) <;> omega)
      · rfl

set_option maxRecDepth 100000 in
set_option maxHeartbeats 4000000 in
theorem c_X8_finding (g : jz_G) (s : jz_St) (n : Int) (hn : 0 ≤ n ∧ n ≤ 10) : jz_C g mX8_finding [jr (416), ji (n)] s (jq_ie (-1000010 - n) (jz_su s 416 1 n)) := by
  refine zz_C_of koX8_finding rfl (Nat.le_of_ble_eq_true rfl) ?_
  refine zz_pad 0 ?_
  show jz_Z g mX8_finding (jq_ie (-1000010 - n) (jz_su s 416 1 n)) 0 [some (jr (416)), some (ji (n))] [] s
  refine jj_aload_n dX8_finding_0 rfl ?_
  refine jj_iload_n dX8_finding_1 rfl ?_
  refine zz_putI dX8_finding_2 kw_X8_54 tt416 rfl rfl ?_
  refine jj_ldc dX8_finding_5 kk_X8_57 (kk := ?_)
  refine jj_iload_n dX8_finding_7 rfl ?_
  refine jj_isub dX8_finding_8 (by omega) ?_
  refine zz_retie dX8_finding_9 rfl (by decide) ?_ ?_
  · first | rfl | ((repeat' split) <;> omega)
  · rfl

set_option maxRecDepth 100000 in
set_option maxHeartbeats 4000000 in
theorem c_X8_isRow (g : jz_G) (s : jz_St) (r : Int) : jz_C g mX8_isRow [ji (r)] s (jq_ie (if 0 ≤ r ∧ r ≤ 7 then 1 else 0) s) := by
  refine zz_C_of koX8_isRow rfl (Nat.le_of_ble_eq_true rfl) ?_
  refine zz_pad 0 ?_
  show jz_Z g mX8_isRow (jq_ie (if 0 ≤ r ∧ r ≤ 7 then 1 else 0) s) 0 [some (ji (r))] [] s
  refine jj_iload_n dX8_isRow_0 rfl ?_
  refine jj_i2l dX8_isRow_1 ?_
  refine jj_lconst (z := 0) dX8_isRow_2 (kk := ?_)
  refine jj_ldc2 dX8_isRow_3 kk_X8_58 (kk := ?_)
  refine zz_cSi (av := [jl (r), jl (0), jl (7)]) (st' := []) dX8_isRow_6 kn_X8_60 kmX8_in rfl rfl (Nat.le_of_ble_eq_true rfl) (by decide) rfl (c_X8_in g s r 0 7) (fun hr6 ho6 => ?_)
  refine zz_retze dX8_isRow_9 rfl (by split <;> simp) (by decide) ?_ ?_
  · rfl
  · rfl

set_option maxRecDepth 100000 in
set_option maxHeartbeats 4000000 in
theorem c_X8_nextToken (g : jz_G) (s : jz_St) (hT : mTk s) : jz_C g mX8_nextToken [jr (416)] s (jq_ve (f_X8_next s)) := by
  refine zz_C_of koX8_nextToken rfl (Nat.le_of_ble_eq_true rfl) ?_
  refine zz_pad 0 ?_
  show jz_Z g mX8_nextToken (jq_ve (f_X8_next s)) 0 [some (jr (416))] [] s
  have hT1 := hT.1
  have hT2 := hT.2.1
  have hT3 := hT.2.2
  refine jj_aload_n dX8_nextToken_0 rfl ?_
  refine jj_aload_n dX8_nextToken_1 rfl ?_
  refine zz_getI dX8_nextToken_2 kf_X8_90 tt416 rfl rfl ?_
  refine zz_putI dX8_nextToken_5 kw_X8_84 tt416 rfl rfl ?_
  have L34 : ∀ (v0 : Int) (hh34_0 : v0 = if s 416 12 < s 416 11 then s 424 (s 416 12).toNat else -1000000) (hh34_1 : v0 ≤ 255 ∧ -1000000 ≤ v0), jz_Z g mX8_nextToken (jq_ve (f_X8_next s)) 34 [some (jr (416))] [ji (v0), jr (416)] (jz_su s 416 13 (s 416 12)) := by
    intro v0 hh34_0 hh34_1
    refine zz_putI dX8_nextToken_34 kw_X8_94 tt416 rfl rfl ?_
    have L118 : ∀ (t0 : Int) (hh118_0 : t0 = if s 416 12 = s 416 11 then 1 else if 97 ≤ v0 ∧ v0 ≤ 122 then 2 else if 48 ≤ v0 ∧ v0 ≤ 57 then 3 else if v0 = 44 ∨ v0 = 59 then 4 else 0), jz_Z g mX8_nextToken (jq_ve (f_X8_next s)) 118 [some (jr (416))] [ji (t0), jr (416)] (jz_su (jz_su s 416 13 (s 416 12)) 416 15 (v0)) := by
      intro t0 hh118_0
      refine zz_putI dX8_nextToken_118 kw_X8_105 tt416 rfl rfl ?_
      have L142 : ∀ (d : Int) (hh142_0 : d = if s 416 12 < s 416 11 then 1 else 0) (hh142_1 : 0 ≤ d ∧ d ≤ 1), jz_Z g mX8_nextToken (jq_ve (f_X8_next s)) 142 [some (jr (416))] [ji (d), ji (s 416 12), jr (416)] (jz_su (jz_su (jz_su s 416 13 (s 416 12)) 416 15 (v0)) 416 14 (t0)) := by
        intro d hh142_0 hh142_1
        refine jj_iadd dX8_nextToken_142 (by omega) ?_
        refine zz_putI dX8_nextToken_143 kw_X8_90 tt416 rfl rfl ?_
        refine jj_aload_n dX8_nextToken_146 rfl ?_
        refine zz_getI dX8_nextToken_147 kf_X8_105 tt416 rfl rfl ?_
        refine zz_top (b := t0) ((jz_su_f (by decide)).trans (jz_su_s _ _ _ _)) ?_
        refine jj_iconst dX8_nextToken_150 (kk := ?_)
        refine jj_icmp_ne (tgt := 277) dX8_nextToken_151 (by decide) (fun h151 => ?_) (fun h151 => ?_)
        · refine zz_retve dX8_nextToken_277 rfl (by decide) ?_
          · have e := nx_a hT hh34_0 hh118_0 hh142_0 h151; unfold f_X8_next; rw [← e.1, ← e.2.1, ← e.2.2]
        · have L255 : ∀ (k : Nat) (hh255_0 : 0 < k) (hh255_1 : k = lxC (mBn s) (s 416 12).toNat 120) (hh255_2 : s 416 12 + k ≤ s 416 11), jz_Z g mX8_nextToken (jq_ve (f_X8_next s)) 255 [some (jr (416))] [] (jz_su (jz_su (jz_su (jz_su s 416 13 (s 416 12)) 416 15 (lxV (mBn s) (s 416 12).toNat k)) 416 14 (3)) 416 12 (s 416 12 + (k : Int))) := by
            intro k hh255_0 hh255_1 hh255_2
            have L274 : ∀ (t1 : Int) (hh274_0 : t1 = if 2 < (k : Int) then 0 else 3), jz_Z g mX8_nextToken (jq_ve (f_X8_next s)) 274 [some (jr (416))] [ji (t1), jr (416)] (jz_su (jz_su (jz_su (jz_su s 416 13 (s 416 12)) 416 15 (lxV (mBn s) (s 416 12).toNat k)) 416 14 (3)) 416 12 (s 416 12 + (k : Int))) := by
              intro t1 hh274_0
              refine zz_putI dX8_nextToken_274 kw_X8_105 tt416 rfl rfl ?_
              refine zz_retve dX8_nextToken_277 rfl (by decide) ?_
              · have e := nx_b hh255_0 hh255_1 (by omega); unfold f_X8_next; rw [nx3, ← e.1, ← e.2.1, ← e.2.2, hh274_0]
            refine jj_aload_n dX8_nextToken_255 rfl ?_
            refine jj_aload_n dX8_nextToken_256 rfl ?_
            refine zz_getI dX8_nextToken_257 kf_X8_90 tt416 rfl rfl ?_
            refine zz_top (b := s 416 12 + (k : Int)) (jz_su_s _ _ _ _) ?_
            refine jj_aload_n dX8_nextToken_260 rfl ?_
            refine zz_getI dX8_nextToken_261 kf_X8_84 tt416 rfl rfl ?_
            refine zz_top (b := s 416 12) ((((jz_su_f (by decide)).trans (jz_su_f (by decide))).trans (jz_su_f (by decide))).trans (jz_su_s _ _ _ _)) ?_
            refine jj_isub dX8_nextToken_264 (by omega) ?_
            refine jj_iconst dX8_nextToken_265 (kk := ?_)
            refine jj_icmp_le (tgt := 273) dX8_nextToken_266 (by decide) (fun h266 => ?_) (fun h266 => ?_)
            · refine jj_iconst dX8_nextToken_273 (kk := ?_)
              exact L274 3 (by first | (rw [if_pos (by omega)]; done) | (rw [if_neg (by omega)]; done))
            · refine jj_iconst dX8_nextToken_269 (kk := ?_)
              refine jj_goto (tgt := 274) dX8_nextToken_270 (by decide) ?_
              exact L274 0 (by first | (rw [if_pos (by omega)]; done) | (rw [if_neg (by omega)]; done))
          have hl3 : s 416 12 < s 416 11 ∧ 48 ≤ v0 ∧ v0 ≤ 57 := by rw [h151] at hh118_0; (repeat' split at hh118_0) <;> omega
          have eU : mBn s (s 416 12).toNat = v0 := by unfold mBn; rw [if_pos (by omega), hh34_0, if_pos (by omega)]
          refine jj_aload_n dX8_nextToken_154 rfl ?_
          refine jj_dup dX8_nextToken_155 (kk := ?_)
          refine zz_getI dX8_nextToken_156 kf_X8_94 tt416 rfl rfl ?_
          refine zz_top (b := v0) (((jz_su_f (by decide)).trans (jz_su_f (by decide))).trans (jz_su_s _ _ _ _)) ?_
          refine jj_bipush dX8_nextToken_159 (kk := ?_)
          refine jj_isub dX8_nextToken_161 (by omega) ?_
          refine zz_putI dX8_nextToken_162 kw_X8_94 tt416 rfl rfl ?_
          have L165 : ∀ (nn : Nat) (j : Nat) (hh165_0 : 0 < j) (hh165_1 : lxC (mBn s) (s 416 12).toNat 120 = j + lxC (mBn s) ((s 416 12).toNat + j) (120 - j)) (hh165_2 : 0 ≤ lxV (mBn s) (s 416 12).toNat j ∧ lxV (mBn s) (s 416 12).toNat j ≤ 99 ∧ (j = 1 → lxV (mBn s) (s 416 12).toNat j ≤ 9)) (hh165_3 : s 416 12 + j ≤ s 416 11), 120 - j < nn → jz_Z g mX8_nextToken (jq_ve (f_X8_next s)) 165 [some (jr (416))] [] (jz_su (jz_su (jz_su (jz_su s 416 13 (s 416 12)) 416 15 (lxV (mBn s) (s 416 12).toNat j)) 416 14 (3)) 416 12 (s 416 12 + (j : Int))) := by
            intro nn
            induction nn with
            | zero => intro j hh165_0 hh165_1 hh165_2 hh165_3 hmz; exact absurd hmz (Nat.not_lt_zero _)
            | succ nn ih165 =>
              intro j hh165_0 hh165_1 hh165_2 hh165_3 hm165
              refine jj_aload_n dX8_nextToken_165 rfl ?_
              refine zz_getI dX8_nextToken_166 kf_X8_90 tt416 rfl rfl ?_
              refine zz_top (b := s 416 12 + (j : Int)) (jz_su_s _ _ _ _) ?_
              refine jj_aload_n dX8_nextToken_169 rfl ?_
              refine zz_getI dX8_nextToken_170 kf_X8_77 tt416 rfl rfl ?_
              refine zz_top (b := s 416 11) ((((jz_su_f (by decide)).trans (jz_su_f (by decide))).trans (jz_su_f (by decide))).trans (jz_su_f (by decide))) ?_
              refine jj_icmp_ge (tgt := 255) dX8_nextToken_173 (by decide) (fun h173 => ?_) (fun h173 => ?_)
              · exact L255 j (by omega) (by rw [hh165_1, lxC_zero _ _ _ (by first | omega | (right; unfold mBn; split <;> omega)), Nat.add_zero]) (by omega)
              · refine jj_aload_n dX8_nextToken_176 rfl ?_
                refine zz_getR dX8_nextToken_177 kf_X8_31 tt416 rfl ?_
                refine jj_aload_n dX8_nextToken_180 rfl ?_
                refine zz_getI dX8_nextToken_181 kf_X8_90 tt416 rfl rfl ?_
                refine zz_top (b := s 416 12 + (j : Int)) (jz_su_s _ _ _ _) ?_
                refine zz_ialdN (j := (s 416 12).toNat + j) dX8_nextToken_184 tt424 (by omega) (by omega) ?_
                refine zz_top (b := s 424 ((s 416 12).toNat + j)) ((((jz_su_n (Or.inl (by decide))).trans (jz_su_n (Or.inl (by decide)))).trans (jz_su_n (Or.inl (by decide)))).trans (jz_su_n (Or.inl (by decide)))) ?_
                refine zz_top (b := mBn s ((s 416 12).toNat + j)) (by unfold mBn; rw [if_pos (by omega)]) ?_
                refine jj_i2l dX8_nextToken_185 ?_
                refine jj_ldc2 dX8_nextToken_186 kk_X8_101 (kk := ?_)
                refine jj_ldc2 dX8_nextToken_189 kk_X8_103 (kk := ?_)
                refine zz_cSi (av := [jl (mBn s ((s 416 12).toNat + j)), jl (48), jl (57)]) (st' := []) dX8_nextToken_192 kn_X8_60 kmX8_in rfl rfl (Nat.le_of_ble_eq_true rfl) (by decide) rfl (c_X8_in g (jz_su (jz_su (jz_su (jz_su s 416 13 (s 416 12)) 416 15 (lxV (mBn s) (s 416 12).toNat j)) 416 14 (3)) 416 12 (s 416 12 + (j : Int))) (mBn s ((s 416 12).toNat + j)) 48 57) (fun hr192 ho192 => ?_)
                refine jj_if_eq (tgt := 255) dX8_nextToken_195 (by decide) (fun h195 => ?_) (fun h195 => ?_)
                · have hg195 := bz_f h195
                  exact L255 j (by omega) (by rw [hh165_1, lxC_zero _ _ _ (by first | omega | (right; unfold mBn; split <;> omega)), Nat.add_zero]) (by omega)
                · have hg195 := bz_t h195
                  have L239 : ∀ (vv : Int) (hh239_0 : vv = lxV (mBn s) (s 416 12).toNat (j + 1)) (hh239_1 : 0 ≤ vv ∧ vv ≤ 99 ∧ (j + 1 = 1 → vv ≤ 9)), jz_Z g mX8_nextToken (jq_ve (f_X8_next s)) 239 [some (jr (416))] [ji (vv), jr (416)] (jz_su (jz_su (jz_su (jz_su s 416 13 (s 416 12)) 416 15 (lxV (mBn s) (s 416 12).toNat j)) 416 14 (3)) 416 12 (s 416 12 + (j : Int))) := by
                    intro vv hh239_0 hh239_1
                    refine zz_putI dX8_nextToken_239 kw_X8_94 tt416 rfl rfl ?_
                    refine jj_aload_n dX8_nextToken_242 rfl ?_
                    refine jj_dup dX8_nextToken_243 (kk := ?_)
                    refine zz_getI dX8_nextToken_244 kf_X8_90 tt416 rfl rfl ?_
                    refine zz_top (b := s 416 12 + (j : Int)) ((jz_su_f (by decide)).trans (jz_su_s _ _ _ _)) ?_
                    refine jj_iconst dX8_nextToken_247 (kk := ?_)
                    refine jj_iadd dX8_nextToken_248 (by omega) ?_
                    refine zz_putI dX8_nextToken_249 kw_X8_90 tt416 rfl rfl ?_
                    refine jj_goto (tgt := 165) dX8_nextToken_252 (by decide) ?_
                    refine zz_st (s1 := jz_su (jz_su (jz_su (jz_su s 416 13 (s 416 12)) 416 15 (lxV (mBn s) (s 416 12).toNat (j + 1))) 416 14 (3)) 416 12 (s 416 12 + ((j + 1) : Int))) (by rw [nx2, hh239_0, Int.add_assoc]) ?_
                    exact ih165 (j + 1) (by omega) (by rw [hh165_1, show 120 - j = (120 - (j + 1)) + 1 by omega]; simp only [lxC]; rw [if_pos (by omega), Nat.add_assoc (s 416 12).toNat j 1]; omega) (by rw [← hh239_0]; omega) (by omega) (by omega)
                  refine jj_aload_n dX8_nextToken_198 rfl ?_
                  refine jj_aload_n dX8_nextToken_199 rfl ?_
                  refine zz_getI dX8_nextToken_200 kf_X8_90 tt416 rfl rfl ?_
                  refine zz_top (b := s 416 12 + (j : Int)) (jz_su_s _ _ _ _) ?_
                  refine jj_aload_n dX8_nextToken_203 rfl ?_
                  refine zz_getI dX8_nextToken_204 kf_X8_84 tt416 rfl rfl ?_
                  refine zz_top (b := s 416 12) ((((jz_su_f (by decide)).trans (jz_su_f (by decide))).trans (jz_su_f (by decide))).trans (jz_su_s _ _ _ _)) ?_
                  refine jj_isub dX8_nextToken_207 (by omega) ?_
                  refine jj_iconst dX8_nextToken_208 (kk := ?_)
                  refine jj_icmp_ge (tgt := 235) dX8_nextToken_209 (by decide) (fun h209 => ?_) (fun h209 => ?_)
                  · refine jj_aload_n dX8_nextToken_235 rfl ?_
                    refine zz_getI dX8_nextToken_236 kf_X8_94 tt416 rfl rfl ?_
                    refine zz_top (b := lxV (mBn s) (s 416 12).toNat j) (((jz_su_f (by decide)).trans (jz_su_f (by decide))).trans (jz_su_s _ _ _ _)) ?_
                    exact L239 (lxV (mBn s) (s 416 12).toNat j) (by simp only [lxV]; first | (rw [if_pos (by omega)]; done) | (rw [if_neg (by omega)]; done)) (by omega)
                  · refine jj_bipush dX8_nextToken_212 (kk := ?_)
                    refine jj_aload_n dX8_nextToken_214 rfl ?_
                    refine zz_getI dX8_nextToken_215 kf_X8_94 tt416 rfl rfl ?_
                    refine zz_top (b := lxV (mBn s) (s 416 12).toNat j) (((jz_su_f (by decide)).trans (jz_su_f (by decide))).trans (jz_su_s _ _ _ _)) ?_
                    refine jj_imul dX8_nextToken_218 (by omega) ?_
                    refine jj_aload_n dX8_nextToken_219 rfl ?_
                    refine zz_getR dX8_nextToken_220 kf_X8_31 tt416 rfl ?_
                    refine jj_aload_n dX8_nextToken_223 rfl ?_
                    refine zz_getI dX8_nextToken_224 kf_X8_90 tt416 rfl rfl ?_
                    refine zz_top (b := s 416 12 + (j : Int)) (jz_su_s _ _ _ _) ?_
                    refine zz_ialdN (j := (s 416 12).toNat + j) dX8_nextToken_227 tt424 (by omega) (by omega) ?_
                    refine zz_top (b := s 424 ((s 416 12).toNat + j)) ((((jz_su_n (Or.inl (by decide))).trans (jz_su_n (Or.inl (by decide)))).trans (jz_su_n (Or.inl (by decide)))).trans (jz_su_n (Or.inl (by decide)))) ?_
                    refine zz_top (b := mBn s ((s 416 12).toNat + j)) (by unfold mBn; rw [if_pos (by omega)]) ?_
                    refine jj_iadd dX8_nextToken_228 (by omega) ?_
                    refine jj_bipush dX8_nextToken_229 (kk := ?_)
                    refine jj_isub dX8_nextToken_231 (by omega) ?_
                    refine jj_goto (tgt := 239) dX8_nextToken_232 (by decide) ?_
                    exact L239 (((10 * (lxV (mBn s) (s 416 12).toNat j)) + (mBn s ((s 416 12).toNat + j))) - 48) (by simp only [lxV]; first | (rw [if_pos (by omega)]; done) | (rw [if_neg (by omega)]; done)) (by omega)
          refine zz_st (s1 := jz_su (jz_su (jz_su (jz_su s 416 13 (s 416 12)) 416 15 (lxV (mBn s) (s 416 12).toNat 1)) 416 14 (3)) 416 12 (s 416 12 + (1 : Int))) (by rw [nx1, show d = (1 : Int) by omega, h151]; simp only [lxV]; rw [if_pos (by decide), Nat.add_zero, eU, show 10 * (0 : Int) + v0 - 48 = v0 - 48 by omega]) ?_
          exact L165 _ 1 (by omega) (by rw [show (120 : Nat) = 119 + 1 by rfl]; simp only [lxC]; rw [if_pos (by rw [eU]; omega)]) (by simp only [lxV]; rw [if_pos (by decide), Nat.add_zero, eU]; omega) (by omega) (Nat.lt_succ_self _)
      refine jj_aload_n dX8_nextToken_121 rfl ?_
      refine jj_dup dX8_nextToken_122 (kk := ?_)
      refine zz_getI dX8_nextToken_123 kf_X8_90 tt416 rfl rfl ?_
      refine zz_top (b := s 416 12) (((jz_su_f (by decide)).trans (jz_su_f (by decide))).trans (jz_su_f (by decide))) ?_
      refine jj_aload_n dX8_nextToken_126 rfl ?_
      refine zz_getI dX8_nextToken_127 kf_X8_90 tt416 rfl rfl ?_
      refine zz_top (b := s 416 12) (((jz_su_f (by decide)).trans (jz_su_f (by decide))).trans (jz_su_f (by decide))) ?_
      refine jj_aload_n dX8_nextToken_130 rfl ?_
      refine zz_getI dX8_nextToken_131 kf_X8_77 tt416 rfl rfl ?_
      refine zz_top (b := s 416 11) (((jz_su_f (by decide)).trans (jz_su_f (by decide))).trans (jz_su_f (by decide))) ?_
      refine jj_icmp_ge (tgt := 141) dX8_nextToken_134 (by decide) (fun h134 => ?_) (fun h134 => ?_)
      · refine jj_iconst dX8_nextToken_141 (kk := ?_)
        exact L142 0 (by first | (rw [if_pos (by omega)]; done) | (rw [if_neg (by omega)]; done)) (by omega)
      · refine jj_iconst dX8_nextToken_137 (kk := ?_)
        refine jj_goto (tgt := 142) dX8_nextToken_138 (by decide) ?_
        exact L142 1 (by first | (rw [if_pos (by omega)]; done) | (rw [if_neg (by omega)]; done)) (by omega)
    refine jj_aload_n dX8_nextToken_37 rfl ?_
    refine jj_aload_n dX8_nextToken_38 rfl ?_
    refine zz_getI dX8_nextToken_39 kf_X8_90 tt416 rfl rfl ?_
    refine zz_top (b := s 416 12) ((jz_su_f (by decide)).trans (jz_su_f (by decide))) ?_
    refine jj_aload_n dX8_nextToken_42 rfl ?_
    refine zz_getI dX8_nextToken_43 kf_X8_77 tt416 rfl rfl ?_
    refine zz_top (b := s 416 11) ((jz_su_f (by decide)).trans (jz_su_f (by decide))) ?_
    refine jj_icmp_ne (tgt := 53) dX8_nextToken_46 (by decide) (fun h46 => ?_) (fun h46 => ?_)
    · refine jj_aload_n dX8_nextToken_53 rfl ?_
      refine zz_getI dX8_nextToken_54 kf_X8_94 tt416 rfl rfl ?_
      refine zz_top (b := v0) (jz_su_s _ _ _ _) ?_
      refine jj_i2l dX8_nextToken_57 ?_
      refine jj_ldc2 dX8_nextToken_58 kk_X8_97 (kk := ?_)
      refine jj_ldc2 dX8_nextToken_61 kk_X8_99 (kk := ?_)
      refine zz_cSi (av := [jl (v0), jl (97), jl (122)]) (st' := [jr (416)]) dX8_nextToken_64 kn_X8_60 kmX8_in rfl rfl (Nat.le_of_ble_eq_true rfl) (by decide) rfl (c_X8_in g (jz_su (jz_su s 416 13 (s 416 12)) 416 15 (v0)) v0 97 122) (fun hr64 ho64 => ?_)
      refine jj_if_eq (tgt := 74) dX8_nextToken_67 (by decide) (fun h67 => ?_) (fun h67 => ?_)
      · have hg67 := bz_f h67
        refine jj_aload_n dX8_nextToken_74 rfl ?_
        refine zz_getI dX8_nextToken_75 kf_X8_94 tt416 rfl rfl ?_
        refine zz_top (b := v0) (jz_su_s _ _ _ _) ?_
        refine jj_i2l dX8_nextToken_78 ?_
        refine jj_ldc2 dX8_nextToken_79 kk_X8_101 (kk := ?_)
        refine jj_ldc2 dX8_nextToken_82 kk_X8_103 (kk := ?_)
        refine zz_cSi (av := [jl (v0), jl (48), jl (57)]) (st' := [jr (416)]) dX8_nextToken_85 kn_X8_60 kmX8_in rfl rfl (Nat.le_of_ble_eq_true rfl) (by decide) rfl (c_X8_in g (jz_su (jz_su s 416 13 (s 416 12)) 416 15 (v0)) v0 48 57) (fun hr85 ho85 => ?_)
        refine jj_if_eq (tgt := 95) dX8_nextToken_88 (by decide) (fun h88 => ?_) (fun h88 => ?_)
        · have hg88 := bz_f h88
          refine jj_aload_n dX8_nextToken_95 rfl ?_
          refine zz_getI dX8_nextToken_96 kf_X8_94 tt416 rfl rfl ?_
          refine zz_top (b := v0) (jz_su_s _ _ _ _) ?_
          refine jj_bipush dX8_nextToken_99 (kk := ?_)
          refine jj_icmp_eq (tgt := 113) dX8_nextToken_101 (by decide) (fun h101 => ?_) (fun h101 => ?_)
          · refine jj_iconst dX8_nextToken_113 (kk := ?_)
            refine jj_goto (tgt := 118) dX8_nextToken_114 (by decide) ?_
            exact L118 4 (by (repeat (first | rw [if_pos (by omega)] | rw [if_neg (by omega)])))
          · refine jj_aload_n dX8_nextToken_104 rfl ?_
            refine zz_getI dX8_nextToken_105 kf_X8_94 tt416 rfl rfl ?_
            refine zz_top (b := v0) (jz_su_s _ _ _ _) ?_
            refine jj_bipush dX8_nextToken_108 (kk := ?_)
            refine jj_icmp_ne (tgt := 117) dX8_nextToken_110 (by decide) (fun h110 => ?_) (fun h110 => ?_)
            · refine jj_iconst dX8_nextToken_117 (kk := ?_)
              exact L118 0 (by (repeat (first | rw [if_pos (by omega)] | rw [if_neg (by omega)])))
            · refine jj_iconst dX8_nextToken_113 (kk := ?_)
              refine jj_goto (tgt := 118) dX8_nextToken_114 (by decide) ?_
              exact L118 4 (by (repeat (first | rw [if_pos (by omega)] | rw [if_neg (by omega)])))
        · have hg88 := bz_t h88
          refine jj_iconst dX8_nextToken_91 (kk := ?_)
          refine jj_goto (tgt := 118) dX8_nextToken_92 (by decide) ?_
          exact L118 3 (by (repeat (first | rw [if_pos (by omega)] | rw [if_neg (by omega)])))
      · have hg67 := bz_t h67
        refine jj_iconst dX8_nextToken_70 (kk := ?_)
        refine jj_goto (tgt := 118) dX8_nextToken_71 (by decide) ?_
        exact L118 2 (by (repeat (first | rw [if_pos (by omega)] | rw [if_neg (by omega)])))
    · refine jj_iconst dX8_nextToken_49 (kk := ?_)
      refine jj_goto (tgt := 118) dX8_nextToken_50 (by decide) ?_
      exact L118 1 (by (repeat (first | rw [if_pos (by omega)] | rw [if_neg (by omega)])))
  refine jj_aload_n dX8_nextToken_8 rfl ?_
  refine jj_aload_n dX8_nextToken_9 rfl ?_
  refine zz_getI dX8_nextToken_10 kf_X8_90 tt416 rfl rfl ?_
  refine zz_top (b := s 416 12) (jz_su_f (by decide)) ?_
  refine jj_aload_n dX8_nextToken_13 rfl ?_
  refine zz_getI dX8_nextToken_14 kf_X8_77 tt416 rfl rfl ?_
  refine zz_top (b := s 416 11) (jz_su_f (by decide)) ?_
  refine jj_icmp_ge (tgt := 32) dX8_nextToken_17 (by decide) (fun h17 => ?_) (fun h17 => ?_)
  · refine jj_ldc dX8_nextToken_32 kk_X8_93 (kk := ?_)
    exact L34 (-1000000) (by first | (rw [if_pos (by omega)]; done) | (rw [if_neg (by omega)]; done)) (by have := hT3 (s 416 12).toNat; omega)
  · refine jj_aload_n dX8_nextToken_20 rfl ?_
    refine zz_getR dX8_nextToken_21 kf_X8_31 tt416 rfl ?_
    refine jj_aload_n dX8_nextToken_24 rfl ?_
    refine zz_getI dX8_nextToken_25 kf_X8_90 tt416 rfl rfl ?_
    refine zz_top (b := s 416 12) (jz_su_f (by decide)) ?_
    refine zz_ialdN (j := (s 416 12).toNat) dX8_nextToken_28 tt424 (by omega) (by omega) ?_
    refine zz_top (b := s 424 ((s 416 12).toNat)) (jz_su_n (Or.inl (by decide))) ?_
    refine jj_goto (tgt := 34) dX8_nextToken_29 (by decide) ?_
    exact L34 (s 424 ((s 416 12).toNat)) (by first | (rw [if_pos (by omega)]; done) | (rw [if_neg (by omega)]; done)) (by have := hT3 (s 416 12).toNat; omega)

