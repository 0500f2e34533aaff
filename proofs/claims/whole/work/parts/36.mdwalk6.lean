theorem fBite_m (k l : Int) : (if l < (if k = 1 ∨ k = 2 then 2 else 1) then l else (if k = 1 ∨ k = 2 then (2 : Int) else 1)) = fBite k l := by
  unfold fBite
  (repeat' split) <;> omega
set_option maxRecDepth 100000 in
set_option maxHeartbeats 4000000 in
theorem c_X8_hour (g : jz_G) (s : jz_St) (r : Nat) (hr : r = 420 ∨ r = 422) (b : Int) (hm : mRw (s r) b) (hb : b ≤ 100000)  : jz_C g mX8_hour [jr (416), jr (r)] s (jq_ie (v_X8_hour s r) (f_X8_hour s r)) := by
  refine zz_C_of koX8_hour rfl (Nat.le_of_ble_eq_true rfl) ?_
  refine zz_pad 5 ?_
  show jz_Z g mX8_hour (jq_ie (v_X8_hour s r) (f_X8_hour s r)) 0 [some (jr (416)), some (jr (r)), none, none, none, none, none] [] s
  have hmh := mRw_h hm
  refine jj_iconst dX8_hour_0 (kk := ?_)
  refine jj_istore_n (ls' := [some (jr (416)), some (jr (r)), some (ji (0)), none, none, none, none]) dX8_hour_1 (by decide) rfl rfl ?_
  refine jj_iconst dX8_hour_2 (kk := ?_)
  refine jj_istore_n (ls' := [some (jr (416)), some (jr (r)), some (ji (0)), some (ji (0)), none, none, none]) dX8_hour_3 (by decide) rfl rfl ?_
  have L4 : ∀ (nn : Nat) (j : Nat) (acc : Int) (hh4_0 : (j : Int) ≤ s r 4) (hh4_1 : acc = v_X8_phB s r j), 4 - j < nn → jz_Z g mX8_hour (jq_ie (v_X8_hour s r) (f_X8_hour s r)) 4 [some (jr (416)), some (jr (r)), some (ji (acc)), some (ji ((j : Int))), none, none, none] [] (f_X8_phB s r j) := by
    intro nn
    induction nn with
    | zero => intro j acc hh4_0 hh4_1 hmz; exact absurd hmz (Nat.not_lt_zero _)
    | succ nn ih4 =>
      intro j acc hh4_0 hh4_1 hm4
      have hmj : mRw (f_X8_phB s r j r) b := phB_mr hr hm j (by omega)
      have hv := vphB_rng hr hm j (by omega)
      refine jj_iload_n dX8_hour_4 rfl ?_
      refine jj_aload_n dX8_hour_5 rfl ?_
      refine jj_iconst dX8_hour_6 (kk := ?_)
      refine zz_ialdN (j := 4) dX8_hour_7 (tRw hr) (by omega) (by omega) ?_
      refine zz_top (b := s r 4) (by exact phB_h hr (by decide) j) ?_
      refine jj_icmp_ge (tgt := 162) dX8_hour_8 (by decide) (fun h8 => ?_) (fun h8 => ?_)
      · have hje : (s r 4).toNat = j := by omega
        refine zz_st (s1 := f_X8_hr1 s r) (by unfold f_X8_hr1; rw [hje]) ?_
        refine jj_iconst dX8_hour_162 (kk := ?_)
        refine jj_istore_n (ls' := [some (jr (416)), some (jr (r)), some (ji (acc)), some (ji (0)), none, none, none]) dX8_hour_163 (by decide) rfl rfl ?_
        have L164 : ∀ (nn : Nat) (i : Nat) (hh164_0 : (i : Int) ≤ s r 4), 4 - i < nn → jz_Z g mX8_hour (jq_ie (v_X8_hour s r) (f_X8_hour s r)) 164 [some (jr (416)), some (jr (r)), some (ji (acc)), some (ji ((i : Int))), none, none, none] [] (f_X8_phE (f_X8_hr1 s r) r i) := by
          intro nn
          induction nn with
          | zero => intro i hh164_0 hmz; exact absurd hmz (Nat.not_lt_zero _)
          | succ nn ih164 =>
            intro i hh164_0 hm164
            refine jj_iload_n dX8_hour_164 rfl ?_
            refine jj_aload_n dX8_hour_165 rfl ?_
            refine jj_iconst dX8_hour_166 (kk := ?_)
            refine zz_ialdN (j := 4) dX8_hour_167 (tRw hr) (by omega) (by omega) ?_
            refine zz_top (b := s r 4) (by rw [mphE_h (by decide)]; exact phB_h hr (by decide) _) ?_
            refine jj_icmp_ge (tgt := 238) dX8_hour_168 (by decide) (fun h168 => ?_) (fun h168 => ?_)
            · have hie : (s r 4).toNat = i := by omega
              refine zz_st (s1 := f_X8_hr2 s r) (by unfold f_X8_hr2; rw [hie]) ?_
              have h2 : mRw (f_X8_hr2 s r r) b := phE_mr (phB_mr hr hm _ (by omega)) _ (by omega)
              have h2h := mRw_h h2
              refine jj_aload_n dX8_hour_238 rfl ?_
              refine jj_iconst dX8_hour_239 (kk := ?_)
              refine jj_dup2 dX8_hour_240 (kk := ?_)
              refine zz_ialdN (j := 5) dX8_hour_241 (tRw hr) (by omega) (by omega) ?_
              refine jj_iconst dX8_hour_242 (kk := ?_)
              refine jj_iadd dX8_hour_243 (by omega) ?_
              refine zz_iastN (j := 5) dX8_hour_244 (tRw hr) (by omega) (by omega) ?_
              refine jj_iload_n dX8_hour_245 rfl ?_
              refine zz_retie dX8_hour_246 rfl (by decide) ?_ ?_
              · unfold v_X8_hour; rw [hje]; exact hh4_1
              · rfl
            · have hE : mRw (f_X8_phE (f_X8_hr1 s r) r i r) b := phE_mr (phB_mr hr hm _ (by omega)) i (by omega)
              have hEg := mRw_g hE i (by omega)
              have hEh := mRw_h hE
              refine jj_aload_n dX8_hour_171 rfl ?_
              refine jj_iload_n dX8_hour_172 rfl ?_
              refine jj_iconst dX8_hour_173 (kk := ?_)
              refine zz_cSi (av := [jr (r), ji ((i : Int)), ji (0)]) (st' := []) dX8_hour_174 kn_X8_159 kmX8_its rfl rfl (Nat.le_of_ble_eq_true rfl) (by decide) rfl (c_X8_its g (f_X8_phE (f_X8_hr1 s r) r i) r hr (i : Int) 0 (41 + 3 * i) (by omega) (by omega)) (fun hr174 ho174 => ?_)
              refine jj_aload_n dX8_hour_177 rfl ?_
              refine jj_iconst dX8_hour_178 (kk := ?_)
              refine zz_ialdN (j := 1) dX8_hour_179 (tRw hr) (by omega) (by omega) ?_
              refine jj_iadd dX8_hour_180 (by omega) ?_
              refine jj_istore (ls' := [some (jr (416)), some (jr (r)), some (ji (acc)), some (ji ((i : Int))), some (ji (((f_X8_phE (f_X8_hr1 s r) r i) r (41 + 3 * i)) + ((f_X8_phE (f_X8_hr1 s r) r i) r 1))), none, none]) dX8_hour_181 (by decide) rfl rfl ?_
              refine jj_aload_n dX8_hour_183 rfl ?_
              refine jj_bipush dX8_hour_184 (kk := ?_)
              refine jj_iconst dX8_hour_186 (kk := ?_)
              refine jj_iload_n dX8_hour_187 rfl ?_
              refine jj_imul dX8_hour_188 (by omega) ?_
              refine jj_iadd dX8_hour_189 (by omega) ?_
              have L204 : ∀ (z4 : Int) (hh204_0 : z4 = if 99 < (f_X8_phE (f_X8_hr1 s r) r i) r (41 + 3 * i) + (f_X8_phE (f_X8_hr1 s r) r i) r 1 then 99 else (f_X8_phE (f_X8_hr1 s r) r i) r (41 + 3 * i) + (f_X8_phE (f_X8_hr1 s r) r i) r 1), jz_Z g mX8_hour (jq_ie (v_X8_hour s r) (f_X8_hour s r)) 204 [some (jr (416)), some (jr (r)), some (ji (acc)), some (ji ((i : Int))), some (ji (((f_X8_phE (f_X8_hr1 s r) r i) r (41 + 3 * i)) + ((f_X8_phE (f_X8_hr1 s r) r i) r 1))), none, none] [ji (z4), ji (41 + 3 * (i : Int)), jr (r)] (f_X8_phE (f_X8_hr1 s r) r i) := by
                intro z4 hh204_0
                refine zz_iastN (j := 41 + 3 * i) dX8_hour_204 (tRw hr) (by omega) (by omega) ?_
                refine jj_aload_n dX8_hour_205 rfl ?_
                refine jj_bipush dX8_hour_206 (kk := ?_)
                refine jj_iconst dX8_hour_208 (kk := ?_)
                refine jj_iload_n dX8_hour_209 rfl ?_
                refine jj_imul dX8_hour_210 (by omega) ?_
                refine jj_iadd dX8_hour_211 (by omega) ?_
                refine jj_iconst dX8_hour_212 (kk := ?_)
                refine jj_iadd dX8_hour_213 (by omega) ?_
                refine jj_dup2 dX8_hour_214 (kk := ?_)
                refine zz_ialdN (j := 41 + 3 * i + 2) dX8_hour_215 (tRw hr) (by omega) (by omega) ?_
                refine zz_top (b := (f_X8_phE (f_X8_hr1 s r) r i) r (41 + 3 * i + 2)) (by rw [jz_su_f (by omega)]) ?_
                have L230 : ∀ (d : Int) (hh230_0 : d = if 0 < (f_X8_phE (f_X8_hr1 s r) r i) r (41 + 3 * i + 2) then 1 else 0), jz_Z g mX8_hour (jq_ie (v_X8_hour s r) (f_X8_hour s r)) 230 [some (jr (416)), some (jr (r)), some (ji (acc)), some (ji ((i : Int))), some (ji (((f_X8_phE (f_X8_hr1 s r) r i) r (41 + 3 * i)) + ((f_X8_phE (f_X8_hr1 s r) r i) r 1))), none, none] [ji (d), ji ((f_X8_phE (f_X8_hr1 s r) r i) r (41 + 3 * i + 2)), ji (41 + 3 * (i : Int) + 2), jr (r)] (jz_su (f_X8_phE (f_X8_hr1 s r) r i) r (41 + 3 * i) (z4)) := by
                  intro d hh230_0
                  refine jj_isub dX8_hour_230 (by omega) ?_
                  refine zz_iastN (j := 41 + 3 * i + 2) dX8_hour_231 (tRw hr) (by omega) (by omega) ?_
                  refine jj_iinc (ls' := [some (jr (416)), some (jr (r)), some (ji (acc)), some (ji ((i : Int) + 1)), some (ji (((f_X8_phE (f_X8_hr1 s r) r i) r (41 + 3 * i)) + ((f_X8_phE (f_X8_hr1 s r) r i) r 1))), none, none]) dX8_hour_232 rfl (by decide) rfl (by omega) rfl ?_
                  refine jj_goto (tgt := 164) dX8_hour_235 (by decide) ?_
                  refine jj_fgt (i := 4) (ls' := [some (jr (416)), some (jr (r)), some (ji (acc)), some (ji ((i : Int) + 1)), none, none, none]) rfl ?_
                  refine zz_st (s1 := f_X8_phE (f_X8_hr1 s r) r (i + 1)) (by rw [hh204_0, hh230_0]; rfl) ?_
                  exact ih164 (i + 1) (by first | assumption | omega) (by omega)
                refine jj_aload_n dX8_hour_216 rfl ?_
                refine jj_iload_n dX8_hour_217 rfl ?_
                refine jj_iconst dX8_hour_218 (kk := ?_)
                refine zz_cSi (av := [jr (r), ji ((i : Int)), ji (2)]) (st' := [ji ((f_X8_phE (f_X8_hr1 s r) r i) r (41 + 3 * i + 2)), ji ((41 + (3 * (i : Int))) + 2), jr (r)]) dX8_hour_219 kn_X8_159 kmX8_its rfl rfl (Nat.le_of_ble_eq_true rfl) (by decide) rfl (c_X8_its g (jz_su (f_X8_phE (f_X8_hr1 s r) r i) r (41 + 3 * i) (z4)) r hr (i : Int) 2 (41 + 3 * i + 2) (by omega) (by omega)) (fun hr219 ho219 => ?_)
                refine zz_top (b := (f_X8_phE (f_X8_hr1 s r) r i) r (41 + 3 * i + 2)) (by rw [jz_su_f (by omega)]) ?_
                refine jj_if_le (tgt := 229) dX8_hour_222 (by decide) (fun h222 => ?_) (fun h222 => ?_)
                · refine jj_iconst dX8_hour_229 (kk := ?_)
                  exact L230 0 (by first | (rw [if_pos (by omega)]; done) | (rw [if_neg (by omega)]; done))
                · refine jj_iconst dX8_hour_225 (kk := ?_)
                  refine jj_goto (tgt := 230) dX8_hour_226 (by decide) ?_
                  exact L230 1 (by first | (rw [if_pos (by omega)]; done) | (rw [if_neg (by omega)]; done))
              refine jj_iload dX8_hour_190 rfl ?_
              refine jj_bipush dX8_hour_192 (kk := ?_)
              refine jj_icmp_le (tgt := 202) dX8_hour_194 (by decide) (fun h194 => ?_) (fun h194 => ?_)
              · refine jj_iload dX8_hour_202 rfl ?_
                exact L204 (((f_X8_phE (f_X8_hr1 s r) r i) r (41 + 3 * i)) + ((f_X8_phE (f_X8_hr1 s r) r i) r 1)) (by first | (rw [if_pos (by omega)]; done) | (rw [if_neg (by omega)]; done))
              · refine jj_bipush dX8_hour_197 (kk := ?_)
                refine jj_goto (tgt := 204) dX8_hour_199 (by decide) ?_
                exact L204 99 (by first | (rw [if_pos (by omega)]; done) | (rw [if_neg (by omega)]; done))
        refine zz_st (s1 := f_X8_phE (f_X8_hr1 s r) r 0) (by rfl) ?_
        exact L164 _ 0 (by first | assumption | omega) (Nat.lt_succ_self _)
      · refine jj_aload_n dX8_hour_11 rfl ?_
        refine jj_iload_n dX8_hour_12 rfl ?_
        refine zz_cSi (av := [jr (r), ji ((j : Int))]) (st' := []) dX8_hour_13 kn_X8_166 kmX8_bitten rfl rfl (Nat.le_of_ble_eq_true rfl) (by decide) rfl (c_X8_bitten g (f_X8_phB s r j) r hr j (j : Int) (by omega) b hmj (by omega)) (fun hr13 ho13 => ?_)
        rcases hX : rCho (f_X8_phB s r j r) j with _ | m
        · refine zz_top (b := -1000000) (by rfl) ?_
          have eV : v_X8_bt (f_X8_phB s r j) r j = 0 := by unfold v_X8_bt; simp only [hX]
          have eS : f_X8_bt (f_X8_phB s r j) r j = jz_su (jz_su (f_X8_phB s r j) 425 j (-1000000)) 426 j 0 := by unfold f_X8_bt; simp only [hX]
          refine jj_istore (ls' := [some (jr (416)), some (jr (r)), some (ji (acc)), some (ji ((j : Int))), some (ji (-1000000)), none, none]) dX8_hour_16 (by decide) rfl rfl ?_
          refine jj_aload_n dX8_hour_18 rfl ?_
          refine zz_getR dX8_hour_19 kf_X8_34 tt416 rfl ?_
          refine jj_iload_n dX8_hour_22 rfl ?_
          refine jj_iload dX8_hour_23 rfl ?_
          refine zz_iastN (j := j) dX8_hour_25 tt425 (by omega) (by omega) ?_
          refine jj_aload_n dX8_hour_26 rfl ?_
          refine zz_getR dX8_hour_27 kf_X8_37 tt416 rfl ?_
          refine jj_iload_n dX8_hour_30 rfl ?_
          refine jj_iconst dX8_hour_31 (kk := ?_)
          refine zz_iastN (j := j) dX8_hour_32 tt426 (by omega) (by omega) ?_
          refine jj_iload dX8_hour_33 rfl ?_
          refine jj_ldc dX8_hour_35 kk_X8_93 (kk := ?_)
          refine jj_icmp_eq (tgt := 156) dX8_hour_37 (by decide) (fun h37 => ?_) (fun h37 => ?_)
          · refine jj_iinc (ls' := [some (jr (416)), some (jr (r)), some (ji (acc)), some (ji ((j : Int) + 1)), some (ji (-1000000)), none, none]) dX8_hour_156 rfl (by decide) rfl (by omega) rfl ?_
            refine jj_goto (tgt := 4) dX8_hour_159 (by decide) ?_
            refine jj_fgt (i := 4) (ls' := [some (jr (416)), some (jr (r)), some (ji (acc)), some (ji ((j : Int) + 1)), none, none, none]) rfl ?_
            refine zz_st (s1 := f_X8_phB s r (j + 1)) (by rw [show f_X8_phB s r (j + 1) = f_X8_bt (f_X8_phB s r j) r j by rfl, eS]; first | done | rfl | (rw [hh150_0, hh93_0])) ?_
            exact ih4 (j + 1) acc (by omega) (by rw [show v_X8_phB s r (j + 1) = v_X8_phB s r j + v_X8_bt (f_X8_phB s r j) r j by rfl, ← hh4_1, eV]; first | done | omega | (rw [hh93_0])) (by omega)
          · exact absurd h37 (by omega)
        · refine zz_top (b := (m : Int)) (by rfl) ?_
          have eV : v_X8_bt (f_X8_phB s r j) r j = fBite ((f_X8_phB s r j) r (6 + 5 * m)) ((f_X8_phB s r j) r (6 + 5 * m + 4)) := by unfold v_X8_bt; simp only [hX]
          have eS : f_X8_bt (f_X8_phB s r j) r j = jz_su (jz_su (jz_su (jz_su (jz_su (f_X8_phB s r j) 425 j (m : Int)) 426 j (0)) 426 j (fBite ((f_X8_phB s r j) r (6 + 5 * m)) ((f_X8_phB s r j) r (6 + 5 * m + 4)))) r (6 + 5 * m + 4) ((f_X8_phB s r j) r (6 + 5 * m + 4) - fBite ((f_X8_phB s r j) r (6 + 5 * m)) ((f_X8_phB s r j) r (6 + 5 * m + 4)))) r (41 + 3 * j) (if fBite ((f_X8_phB s r j) r (6 + 5 * m)) ((f_X8_phB s r j) r (6 + 5 * m + 4)) < (f_X8_phB s r j) r (41 + 3 * j) then (f_X8_phB s r j) r (41 + 3 * j) - fBite ((f_X8_phB s r j) r (6 + 5 * m)) ((f_X8_phB s r j) r (6 + 5 * m + 4)) else 0) := by unfold f_X8_bt; simp only [hX]
          have hm1 := rCho_some hX
          have hm2 : m < 7 := by have := phB_h (s := s) (i := 3) hr (by decide) j; omega
          have hml := mRw_l hmj m hm2
          have hmg := mRw_g hmj j (by omega)
          have hmb := fBite_rng ((f_X8_phB s r j) r (6 + 5 * m)) ((f_X8_phB s r j) r (6 + 5 * m + 4))
          refine jj_istore (ls' := [some (jr (416)), some (jr (r)), some (ji (acc)), some (ji ((j : Int))), some (ji ((m : Int))), none, none]) dX8_hour_16 (by decide) rfl rfl ?_
          refine jj_aload_n dX8_hour_18 rfl ?_
          refine zz_getR dX8_hour_19 kf_X8_34 tt416 rfl ?_
          refine jj_iload_n dX8_hour_22 rfl ?_
          refine jj_iload dX8_hour_23 rfl ?_
          refine zz_iastN (j := j) dX8_hour_25 tt425 (by omega) (by omega) ?_
          refine jj_aload_n dX8_hour_26 rfl ?_
          refine zz_getR dX8_hour_27 kf_X8_37 tt416 rfl ?_
          refine jj_iload_n dX8_hour_30 rfl ?_
          refine jj_iconst dX8_hour_31 (kk := ?_)
          refine zz_iastN (j := j) dX8_hour_32 tt426 (by omega) (by omega) ?_
          refine jj_iload dX8_hour_33 rfl ?_
          refine jj_ldc dX8_hour_35 kk_X8_93 (kk := ?_)
          refine jj_icmp_eq (tgt := 156) dX8_hour_37 (by decide) (fun h37 => ?_) (fun h37 => ?_)
          · exact absurd h37 (by omega)
          · have L67 : ∀ (t : Int) (hh67_0 : t = if (f_X8_phB s r j) r (6 + 5 * m) = 1 ∨ (f_X8_phB s r j) r (6 + 5 * m) = 2 then 2 else 1), jz_Z g mX8_hour (jq_ie (v_X8_hour s r) (f_X8_hour s r)) 67 [some (jr (416)), some (jr (r)), some (ji (acc)), some (ji ((j : Int))), some (ji ((m : Int))), none, none] [ji (t)] (jz_su (jz_su (f_X8_phB s r j) 425 j (m : Int)) 426 j (0)) := by
              intro t hh67_0
              refine jj_istore (ls' := [some (jr (416)), some (jr (r)), some (ji (acc)), some (ji ((j : Int))), some (ji ((m : Int))), some (ji (t)), none]) dX8_hour_67 (by decide) rfl rfl ?_
              have L93 : ∀ (y : Int) (hh93_0 : y = fBite ((f_X8_phB s r j) r (6 + 5 * m)) ((f_X8_phB s r j) r (6 + 5 * m + 4))), jz_Z g mX8_hour (jq_ie (v_X8_hour s r) (f_X8_hour s r)) 93 [some (jr (416)), some (jr (r)), some (ji (acc)), some (ji ((j : Int))), some (ji ((m : Int))), some (ji (t)), none] [ji (y)] (jz_su (jz_su (f_X8_phB s r j) 425 j (m : Int)) 426 j (0)) := by
                intro y hh93_0
                refine jj_istore (ls' := [some (jr (416)), some (jr (r)), some (ji (acc)), some (ji ((j : Int))), some (ji ((m : Int))), some (ji (t)), some (ji (y))]) dX8_hour_93 (by decide) rfl rfl ?_
                refine jj_aload_n dX8_hour_95 rfl ?_
                refine zz_getR dX8_hour_96 kf_X8_37 tt416 rfl ?_
                refine jj_iload_n dX8_hour_99 rfl ?_
                refine jj_iload dX8_hour_100 rfl ?_
                refine zz_iastN (j := j) dX8_hour_102 tt426 (by omega) (by omega) ?_
                refine jj_aload_n dX8_hour_103 rfl ?_
                refine jj_bipush dX8_hour_104 (kk := ?_)
                refine jj_iconst dX8_hour_106 (kk := ?_)
                refine jj_iload dX8_hour_107 rfl ?_
                refine jj_imul dX8_hour_109 (by omega) ?_
                refine jj_iadd dX8_hour_110 (by omega) ?_
                refine jj_iconst dX8_hour_111 (kk := ?_)
                refine jj_iadd dX8_hour_112 (by omega) ?_
                refine jj_dup2 dX8_hour_113 (kk := ?_)
                refine zz_ialdN (j := 6 + 5 * m + 4) dX8_hour_114 (tRw hr) (by omega) (by omega) ?_
                refine zz_top (b := (f_X8_phB s r j) r (6 + 5 * m + 4)) (by rw [jz_su_o (by omega), jz_su_o (by omega), jz_su_o (by omega)]) ?_
                refine jj_iload dX8_hour_115 rfl ?_
                refine jj_isub dX8_hour_117 (by omega) ?_
                refine zz_iastN (j := 6 + 5 * m + 4) dX8_hour_118 (tRw hr) (by omega) (by omega) ?_
                refine jj_aload_n dX8_hour_119 rfl ?_
                refine jj_bipush dX8_hour_120 (kk := ?_)
                refine jj_iconst dX8_hour_122 (kk := ?_)
                refine jj_iload_n dX8_hour_123 rfl ?_
                refine jj_imul dX8_hour_124 (by omega) ?_
                refine jj_iadd dX8_hour_125 (by omega) ?_
                have L150 : ∀ (z : Int) (hh150_0 : z = if y < (f_X8_phB s r j) r (41 + 3 * j) then (f_X8_phB s r j) r (41 + 3 * j) - y else 0), jz_Z g mX8_hour (jq_ie (v_X8_hour s r) (f_X8_hour s r)) 150 [some (jr (416)), some (jr (r)), some (ji (acc)), some (ji ((j : Int))), some (ji ((m : Int))), some (ji (t)), some (ji (y))] [ji (z), ji (41 + 3 * (j : Int)), jr (r)] (jz_su (jz_su (jz_su (jz_su (f_X8_phB s r j) 425 j (m : Int)) 426 j (0)) 426 j (y)) r (6 + 5 * m + 4) ((f_X8_phB s r j) r (6 + 5 * m + 4) - y)) := by
                  intro z hh150_0
                  refine zz_iastN (j := 41 + 3 * j) dX8_hour_150 (tRw hr) (by omega) (by omega) ?_
                  refine jj_iload_n dX8_hour_151 rfl ?_
                  refine jj_iload dX8_hour_152 rfl ?_
                  refine jj_iadd dX8_hour_154 (by omega) ?_
                  refine jj_istore_n (ls' := [some (jr (416)), some (jr (r)), some (ji (acc + y)), some (ji ((j : Int))), some (ji ((m : Int))), some (ji (t)), some (ji (y))]) dX8_hour_155 (by decide) rfl rfl ?_
                  refine jj_iinc (ls' := [some (jr (416)), some (jr (r)), some (ji (acc + y)), some (ji ((j : Int) + 1)), some (ji ((m : Int))), some (ji (t)), some (ji (y))]) dX8_hour_156 rfl (by decide) rfl (by omega) rfl ?_
                  refine jj_goto (tgt := 4) dX8_hour_159 (by decide) ?_
                  refine jj_fgt (i := 4) (ls' := [some (jr (416)), some (jr (r)), some (ji (acc + y)), some (ji ((j : Int) + 1)), none, some (ji (t)), some (ji (y))]) rfl ?_
                  refine jj_fgt (i := 5) (ls' := [some (jr (416)), some (jr (r)), some (ji (acc + y)), some (ji ((j : Int) + 1)), none, none, some (ji (y))]) rfl ?_
                  refine jj_fgt (i := 6) (ls' := [some (jr (416)), some (jr (r)), some (ji (acc + y)), some (ji ((j : Int) + 1)), none, none, none]) rfl ?_
                  refine zz_st (s1 := f_X8_phB s r (j + 1)) (by rw [show f_X8_phB s r (j + 1) = f_X8_bt (f_X8_phB s r j) r j by rfl, eS]; first | done | rfl | (rw [hh150_0, hh93_0])) ?_
                  exact ih4 (j + 1) (acc + y) (by omega) (by rw [show v_X8_phB s r (j + 1) = v_X8_phB s r j + v_X8_bt (f_X8_phB s r j) r j by rfl, ← hh4_1, eV]; first | done | omega | (rw [hh93_0])) (by omega)
                refine jj_aload_n dX8_hour_126 rfl ?_
                refine jj_iload_n dX8_hour_127 rfl ?_
                refine jj_iconst dX8_hour_128 (kk := ?_)
                refine zz_cSi (av := [jr (r), ji ((j : Int)), ji (0)]) (st' := [ji (41 + (3 * (j : Int))), jr (r)]) dX8_hour_129 kn_X8_159 kmX8_its rfl rfl (Nat.le_of_ble_eq_true rfl) (by decide) rfl (c_X8_its g (jz_su (jz_su (jz_su (jz_su (f_X8_phB s r j) 425 j (m : Int)) 426 j (0)) 426 j (y)) r (6 + 5 * m + 4) (((f_X8_phB s r j) r (6 + 5 * m + 4)) - y)) r hr (j : Int) 0 (41 + 3 * j) (by omega) (by omega)) (fun hr129 ho129 => ?_)
                refine zz_top (b := (f_X8_phB s r j) r (41 + 3 * j)) (by rw [jz_su_f (by omega), jz_su_o (by omega), jz_su_o (by omega), jz_su_o (by omega)]) ?_
                refine jj_iload dX8_hour_132 rfl ?_
                refine jj_icmp_le (tgt := 149) dX8_hour_134 (by decide) (fun h134 => ?_) (fun h134 => ?_)
                · refine jj_iconst dX8_hour_149 (kk := ?_)
                  exact L150 0 (by first | (rw [if_pos (by omega)]; done) | (rw [if_neg (by omega)]; done))
                · refine jj_aload_n dX8_hour_137 rfl ?_
                  refine jj_iload_n dX8_hour_138 rfl ?_
                  refine jj_iconst dX8_hour_139 (kk := ?_)
                  refine zz_cSi (av := [jr (r), ji ((j : Int)), ji (0)]) (st' := [ji (41 + (3 * (j : Int))), jr (r)]) dX8_hour_140 kn_X8_159 kmX8_its rfl rfl (Nat.le_of_ble_eq_true rfl) (by decide) rfl (c_X8_its g (jz_su (jz_su (jz_su (jz_su (f_X8_phB s r j) 425 j (m : Int)) 426 j (0)) 426 j (y)) r (6 + 5 * m + 4) (((f_X8_phB s r j) r (6 + 5 * m + 4)) - y)) r hr (j : Int) 0 (41 + 3 * j) (by omega) (by omega)) (fun hr140 ho140 => ?_)
                  refine zz_top (b := (f_X8_phB s r j) r (41 + 3 * j)) (by rw [jz_su_f (by omega), jz_su_o (by omega), jz_su_o (by omega), jz_su_o (by omega)]) ?_
                  refine jj_iload dX8_hour_143 rfl ?_
                  refine jj_isub dX8_hour_145 (by omega) ?_
                  refine jj_goto (tgt := 150) dX8_hour_146 (by decide) ?_
                  exact L150 (((f_X8_phB s r j) r (41 + 3 * j)) - y) (by first | (rw [if_pos (by omega)]; done) | (rw [if_neg (by omega)]; done))
              refine jj_iload dX8_hour_69 rfl ?_
              refine jj_aload_n dX8_hour_71 rfl ?_
              refine jj_iload dX8_hour_72 rfl ?_
              refine jj_iconst dX8_hour_74 (kk := ?_)
              refine zz_cSi (av := [jr (r), ji ((m : Int)), ji (4)]) (st' := [ji (t)]) dX8_hour_75 kn_X8_155 kmX8_of rfl rfl (Nat.le_of_ble_eq_true rfl) (by decide) rfl (c_X8_of g (jz_su (jz_su (f_X8_phB s r j) 425 j (m : Int)) 426 j (0)) r hr (m : Int) 4 (6 + 5 * m + 4) (by omega) (by omega)) (fun hr75 ho75 => ?_)
              refine zz_top (b := (f_X8_phB s r j) r (6 + 5 * m + 4)) (by rw [jz_su_o (by omega), jz_su_o (by omega)]) ?_
              refine jj_icmp_le (tgt := 91) dX8_hour_78 (by decide) (fun h78 => ?_) (fun h78 => ?_)
              · refine jj_iload dX8_hour_91 rfl ?_
                exact L93 t (by rw [← fBite_m, ← hh67_0]; first | (rw [if_pos (by omega)]; done) | (rw [if_neg (by omega)]; done))
              · refine jj_aload_n dX8_hour_81 rfl ?_
                refine jj_iload dX8_hour_82 rfl ?_
                refine jj_iconst dX8_hour_84 (kk := ?_)
                refine zz_cSi (av := [jr (r), ji ((m : Int)), ji (4)]) (st' := []) dX8_hour_85 kn_X8_155 kmX8_of rfl rfl (Nat.le_of_ble_eq_true rfl) (by decide) rfl (c_X8_of g (jz_su (jz_su (f_X8_phB s r j) 425 j (m : Int)) 426 j (0)) r hr (m : Int) 4 (6 + 5 * m + 4) (by omega) (by omega)) (fun hr85 ho85 => ?_)
                refine zz_top (b := (f_X8_phB s r j) r (6 + 5 * m + 4)) (by rw [jz_su_o (by omega), jz_su_o (by omega)]) ?_
                refine jj_goto (tgt := 93) dX8_hour_88 (by decide) ?_
                exact L93 ((f_X8_phB s r j) r (6 + 5 * m + 4)) (by rw [← fBite_m, ← hh67_0]; first | (rw [if_pos (by omega)]; done) | (rw [if_neg (by omega)]; done))
            refine jj_aload_n dX8_hour_40 rfl ?_
            refine jj_iload dX8_hour_41 rfl ?_
            refine jj_iconst dX8_hour_43 (kk := ?_)
            refine zz_cSi (av := [jr (r), ji ((m : Int)), ji (0)]) (st' := []) dX8_hour_44 kn_X8_155 kmX8_of rfl rfl (Nat.le_of_ble_eq_true rfl) (by decide) rfl (c_X8_of g (jz_su (jz_su (f_X8_phB s r j) 425 j ((m : Int))) 426 j (0)) r hr (m : Int) 0 (6 + 5 * m) (by omega) (by omega)) (fun hr44 ho44 => ?_)
            refine zz_top (b := (f_X8_phB s r j) r (6 + 5 * m)) (by rw [jz_su_o (by omega), jz_su_o (by omega)]) ?_
            refine jj_iconst dX8_hour_47 (kk := ?_)
            refine jj_icmp_eq (tgt := 62) dX8_hour_48 (by decide) (fun h48 => ?_) (fun h48 => ?_)
            · refine jj_iconst dX8_hour_62 (kk := ?_)
              refine jj_goto (tgt := 67) dX8_hour_63 (by decide) ?_
              exact L67 2 (by first | (rw [if_pos (by omega)]; done) | (rw [if_neg (by omega)]; done))
            · refine jj_aload_n dX8_hour_51 rfl ?_
              refine jj_iload dX8_hour_52 rfl ?_
              refine jj_iconst dX8_hour_54 (kk := ?_)
              refine zz_cSi (av := [jr (r), ji ((m : Int)), ji (0)]) (st' := []) dX8_hour_55 kn_X8_155 kmX8_of rfl rfl (Nat.le_of_ble_eq_true rfl) (by decide) rfl (c_X8_of g (jz_su (jz_su (f_X8_phB s r j) 425 j ((m : Int))) 426 j (0)) r hr (m : Int) 0 (6 + 5 * m) (by omega) (by omega)) (fun hr55 ho55 => ?_)
              refine zz_top (b := (f_X8_phB s r j) r (6 + 5 * m)) (by rw [jz_su_o (by omega), jz_su_o (by omega)]) ?_
              refine jj_iconst dX8_hour_58 (kk := ?_)
              refine jj_icmp_ne (tgt := 66) dX8_hour_59 (by decide) (fun h59 => ?_) (fun h59 => ?_)
              · refine jj_iconst dX8_hour_66 (kk := ?_)
                exact L67 1 (by first | (rw [if_pos (by omega)]; done) | (rw [if_neg (by omega)]; done))
              · refine jj_iconst dX8_hour_62 (kk := ?_)
                refine jj_goto (tgt := 67) dX8_hour_63 (by decide) ?_
                exact L67 2 (by first | (rw [if_pos (by omega)]; done) | (rw [if_neg (by omega)]; done))
  refine zz_st (s1 := f_X8_phB s r 0) (by rfl) ?_
  exact L4 _ 0 0 (by omega) (by rfl) (Nat.lt_succ_self _)

set_option maxRecDepth 100000 in
set_option maxHeartbeats 4000000 in
theorem c_X8_hoursOf (g : jz_G) (s : jz_St) (r : Nat) (hr : r = 420 ∨ r = 422) (n : Nat) (ni : Int) (hn : ni = n) (b : Int) (hm : mRw (s r) b) (hb : b + n ≤ 100000) (hn2 : n ≤ 1000)  : jz_C g mX8_hoursOf [jr (416), jr (r), ji (ni)] s (jq_ie (v_X8_hoursOf s r n) (f_X8_hoursOf s r n)) := by
  refine zz_C_of koX8_hoursOf rfl (Nat.le_of_ble_eq_true rfl) ?_
  refine zz_pad 2 ?_
  show jz_Z g mX8_hoursOf (jq_ie (v_X8_hoursOf s r n) (f_X8_hoursOf s r n)) 0 [some (jr (416)), some (jr (r)), some (ji (ni)), none, none] [] s
  refine jj_iconst dX8_hoursOf_0 (kk := ?_)
  refine jj_istore_n (ls' := [some (jr (416)), some (jr (r)), some (ji (ni)), some (ji (0)), none]) dX8_hoursOf_1 (by decide) rfl rfl ?_
  refine jj_iconst dX8_hoursOf_2 (kk := ?_)
  refine jj_istore (ls' := [some (jr (416)), some (jr (r)), some (ji (ni)), some (ji (0)), some (ji (0))]) dX8_hoursOf_3 (by decide) rfl rfl ?_
  have L5 : ∀ (nn : Nat) (j : Nat) (hh5_0 : j ≤ n), n - j < nn → jz_Z g mX8_hoursOf (jq_ie (v_X8_hoursOf s r n) (f_X8_hoursOf s r n)) 5 [some (jr (416)), some (jr (r)), some (ji (ni)), some (ji (v_X8_hoursOf s r j)), some (ji ((j : Int)))] [] (f_X8_hoursOf s r j) := by
    intro nn
    induction nn with
    | zero => intro j hh5_0 hmz; exact absurd hmz (Nat.not_lt_zero _)
    | succ nn ih5 =>
      intro j hh5_0 hm5
      have hv := vhoursOf_rng hr hm j
      have hv2 := vhour_rng hr (hoursOf_mr hr hm j)
      refine jj_iload dX8_hoursOf_5 rfl ?_
      refine jj_iload_n dX8_hoursOf_7 rfl ?_
      refine jj_icmp_ge (tgt := 25) dX8_hoursOf_8 (by decide) (fun h8 => ?_) (fun h8 => ?_)
      · refine jj_iload_n dX8_hoursOf_25 rfl ?_
        refine zz_retie dX8_hoursOf_26 rfl (by decide) ?_ ?_
        · (obtain rfl : j = n := (by omega)); rfl
        · (obtain rfl : j = n := (by omega)); rfl
      · refine jj_iload_n dX8_hoursOf_11 rfl ?_
        refine jj_aload_n dX8_hoursOf_12 rfl ?_
        refine jj_aload_n dX8_hoursOf_13 rfl ?_
        refine zz_cVi (av := [jr (r)]) (st' := [ji (v_X8_hoursOf s r j)]) dX8_hoursOf_14 kn_X8_169 kmX8_hour tt416 rfl rfl rfl (Nat.le_of_ble_eq_true rfl) (by decide) rfl (c_X8_hour g (f_X8_hoursOf s r j) r hr (b + j) (hoursOf_mr hr hm j) (by omega)) (fun hr14 ho14 => ?_)
        refine jj_iadd dX8_hoursOf_17 (by omega) ?_
        refine jj_istore_n (ls' := [some (jr (416)), some (jr (r)), some (ji (ni)), some (ji ((v_X8_hoursOf s r j) + (v_X8_hour (f_X8_hoursOf s r j) r))), some (ji ((j : Int)))]) dX8_hoursOf_18 (by decide) rfl rfl ?_
        refine jj_iinc (ls' := [some (jr (416)), some (jr (r)), some (ji (ni)), some (ji ((v_X8_hoursOf s r j) + (v_X8_hour (f_X8_hoursOf s r j) r))), some (ji ((j : Int) + 1))]) dX8_hoursOf_19 rfl (by decide) rfl (by omega) rfl ?_
        refine jj_goto (tgt := 5) dX8_hoursOf_22 (by decide) ?_
        refine zz_st (s1 := f_X8_hoursOf s r (j + 1)) (by rfl) ?_
        exact ih5 (j + 1) (by first | assumption | omega) (by omega)
  refine zz_st (s1 := f_X8_hoursOf s r 0) (by rfl) ?_
  exact L5 _ 0 (by first | assumption | omega) (Nat.lt_succ_self _)

set_option maxRecDepth 100000 in
set_option maxHeartbeats 4000000 in
theorem c_X8_isForce (g : jz_G) (s : jz_St) (r : Nat) (hr : r = 420 ∨ r = 422) (li : Int) (l : Nat) (hl : li = l) (b : Int) (hm : mRw (s r) b) (h : l < 7) : jz_C g mX8_isForce [jr (r), ji (li)] s (jq_ie (if s r (6 + 5 * l + 1) ≤ 2 * s r (6 + 5 * l + 4) then 1 else 0) s) := by
  refine zz_C_of koX8_isForce rfl (Nat.le_of_ble_eq_true rfl) ?_
  refine zz_pad 0 ?_
  show jz_Z g mX8_isForce (jq_ie (if s r (6 + 5 * l + 1) ≤ 2 * s r (6 + 5 * l + 4) then 1 else 0) s) 0 [some (jr (r)), some (ji (li))] [] s
  have hml := mRw_l hm l h
  refine jj_iconst dX8_isForce_0 (kk := ?_)
  refine jj_aload_n dX8_isForce_1 rfl ?_
  refine jj_iload_n dX8_isForce_2 rfl ?_
  refine jj_iconst dX8_isForce_3 (kk := ?_)
  refine zz_cSi (av := [jr (r), ji (li), ji (4)]) (st' := [ji (2)]) dX8_isForce_4 kn_X8_155 kmX8_of rfl rfl (Nat.le_of_ble_eq_true rfl) (by decide) rfl (c_X8_of g s r hr li 4 (6 + 5 * l + 4) (by omega) (by omega)) (fun hr4 ho4 => ?_)
  refine jj_imul dX8_isForce_7 (by omega) ?_
  refine jj_aload_n dX8_isForce_8 rfl ?_
  refine jj_iload_n dX8_isForce_9 rfl ?_
  refine jj_iconst dX8_isForce_10 (kk := ?_)
  refine zz_cSi (av := [jr (r), ji (li), ji (1)]) (st' := [ji (2 * (s r (6 + 5 * l + 4)))]) dX8_isForce_11 kn_X8_155 kmX8_of rfl rfl (Nat.le_of_ble_eq_true rfl) (by decide) rfl (c_X8_of g s r hr li 1 (6 + 5 * l + 1) (by omega) (by omega)) (fun hr11 ho11 => ?_)
  refine jj_icmp_lt (tgt := 21) dX8_isForce_14 (by decide) (fun h14 => ?_) (fun h14 => ?_)
  · refine jj_iconst dX8_isForce_21 (kk := ?_)
    refine zz_retze dX8_isForce_22 rfl (by first | exact Or.inl rfl | exact Or.inr rfl) (by decide) ?_ ?_
    · first | (rw [if_pos (by omega)]; done) | (rw [if_neg (by omega)]; done)
    · rfl
  · refine jj_iconst dX8_isForce_17 (kk := ?_)
    refine jj_goto (tgt := 22) dX8_isForce_18 (by decide) ?_
    refine zz_retze dX8_isForce_22 rfl (by first | exact Or.inl rfl | exact Or.inr rfl) (by decide) ?_ ?_
    · first | (rw [if_pos (by omega)]; done) | (rw [if_neg (by omega)]; done)
    · rfl

set_option maxRecDepth 100000 in
set_option maxHeartbeats 4000000 in
theorem c_X8_forced (g : jz_G) (s : jz_St) (r : Nat) (hr : r = 420 ∨ r = 422) (b : Int) (hm : mRw (s r) b)  : jz_C g mX8_forced [jr (r)] s (jq_ie (rIF (s r) (s r 3).toNat) s) := by
  refine zz_C_of koX8_forced rfl (Nat.le_of_ble_eq_true rfl) ?_
  refine zz_pad 2 ?_
  show jz_Z g mX8_forced (jq_ie (rIF (s r) (s r 3).toNat) s) 0 [some (jr (r)), none, none] [] s
  have hmh := mRw_h hm
  refine jj_iconst dX8_forced_0 (kk := ?_)
  refine jj_istore_n (ls' := [some (jr (r)), some (ji (0)), none]) dX8_forced_1 (by decide) rfl rfl ?_
  refine jj_iconst dX8_forced_2 (kk := ?_)
  refine jj_istore_n (ls' := [some (jr (r)), some (ji (0)), some (ji (0))]) dX8_forced_3 (by decide) rfl rfl ?_
  have L4 : ∀ (nn : Nat) (j : Nat) (acc : Int) (hh4_0 : (j : Int) ≤ s r 3) (hh4_1 : acc = rIF (s r) j), 7 - j < nn → jz_Z g mX8_forced (jq_ie (rIF (s r) (s r 3).toNat) s) 4 [some (jr (r)), some (ji (acc)), some (ji ((j : Int)))] [] s := by
    intro nn
    induction nn with
    | zero => intro j acc hh4_0 hh4_1 hmz; exact absurd hmz (Nat.not_lt_zero _)
    | succ nn ih4 =>
      intro j acc hh4_0 hh4_1 hm4
      refine jj_iload_n dX8_forced_4 rfl ?_
      refine jj_aload_n dX8_forced_5 rfl ?_
      refine jj_iconst dX8_forced_6 (kk := ?_)
      refine zz_ialdN (j := 3) dX8_forced_7 (tRw hr) (by omega) (by omega) ?_
      refine jj_icmp_ge (tgt := 35) dX8_forced_8 (by decide) (fun h8 => ?_) (fun h8 => ?_)
      · refine jj_iload_n dX8_forced_35 rfl ?_
        refine zz_retie dX8_forced_36 rfl (by decide) ?_ ?_
        · rw [show (s r 3).toNat = j by omega]; exact hh4_1
        · rfl
      · refine jj_iload_n dX8_forced_11 rfl ?_
        have L27 : ∀ (d : Int) (hh27_0 : d = if s r (6 + 5 * j + 1) ≤ 2 * s r (6 + 5 * j + 4) then jshl 1 j else 0), jz_Z g mX8_forced (jq_ie (rIF (s r) (s r 3).toNat) s) 27 [some (jr (r)), some (ji (acc)), some (ji ((j : Int)))] [ji (d), ji (acc)] s := by
          intro d hh27_0
          refine jj_ior dX8_forced_27 ?_
          refine jj_istore_n (ls' := [some (jr (r)), some (ji (jor (acc) (d))), some (ji ((j : Int)))]) dX8_forced_28 (by decide) rfl rfl ?_
          refine jj_iinc (ls' := [some (jr (r)), some (ji (jor (acc) (d))), some (ji ((j : Int) + 1))]) dX8_forced_29 rfl (by decide) rfl (by omega) rfl ?_
          refine jj_goto (tgt := 4) dX8_forced_32 (by decide) ?_
          exact ih4 (j + 1) (jor (acc) (d)) (by omega) (by simp only [rIF]; rw [← hh4_1, ← hh27_0]) (by omega)
        refine jj_aload_n dX8_forced_12 rfl ?_
        refine jj_iload_n dX8_forced_13 rfl ?_
        refine zz_cSi (av := [jr (r), ji ((j : Int))]) (st' := [ji (acc)]) dX8_forced_14 kn_X8_173 kmX8_isForce rfl rfl (Nat.le_of_ble_eq_true rfl) (by decide) rfl (c_X8_isForce g s r hr (j : Int) j (by omega) b hm (by omega)) (fun hr14 ho14 => ?_)
        refine jj_if_eq (tgt := 26) dX8_forced_17 (by decide) (fun h17 => ?_) (fun h17 => ?_)
        · have hg17 := bz_f h17
          refine jj_iconst dX8_forced_26 (kk := ?_)
          exact L27 0 (by first | (rw [if_pos (by omega)]; done) | (rw [if_neg (by omega)]; done))
        · have hg17 := bz_t h17
          refine jj_iconst dX8_forced_20 (kk := ?_)
          refine jj_iload_n dX8_forced_21 rfl ?_
          refine jj_ishl dX8_forced_22 ?_
          refine jj_goto (tgt := 27) dX8_forced_23 (by decide) ?_
          exact L27 (jshl (1) ((j : Int))) (by first | (rw [if_pos (by omega)]; done) | (rw [if_neg (by omega)]; done))
  exact L4 _ 0 0 (by omega) (by rfl) (Nat.lt_succ_self _)

set_option maxRecDepth 100000 in
set_option maxHeartbeats 4000000 in
theorem c_X8_leftOf (g : jz_G) (s : jz_St) (r : Nat) (hr : r = 420 ∨ r = 422) (b : Int) (hm : mRw (s r) b)  : jz_C g mX8_leftOf [jr (r)] s (jq_ie (rLA (s r) (s r 3).toNat) s) := by
  refine zz_C_of koX8_leftOf rfl (Nat.le_of_ble_eq_true rfl) ?_
  refine zz_pad 2 ?_
  show jz_Z g mX8_leftOf (jq_ie (rLA (s r) (s r 3).toNat) s) 0 [some (jr (r)), none, none] [] s
  have hmh := mRw_h hm
  refine jj_iconst dX8_leftOf_0 (kk := ?_)
  refine jj_istore_n (ls' := [some (jr (r)), some (ji (0)), none]) dX8_leftOf_1 (by decide) rfl rfl ?_
  refine jj_iconst dX8_leftOf_2 (kk := ?_)
  refine jj_istore_n (ls' := [some (jr (r)), some (ji (0)), some (ji (0))]) dX8_leftOf_3 (by decide) rfl rfl ?_
  have L4 : ∀ (nn : Nat) (j : Nat) (hh4_0 : (j : Int) ≤ s r 3), 7 - j < nn → jz_Z g mX8_leftOf (jq_ie (rLA (s r) (s r 3).toNat) s) 4 [some (jr (r)), some (ji (rLA (s r) j)), some (ji ((j : Int)))] [] s := by
    intro nn
    induction nn with
    | zero => intro j hh4_0 hmz; exact absurd hmz (Nat.not_lt_zero _)
    | succ nn ih4 =>
      intro j hh4_0 hm4
      have hv := rLA_rng hm j (by omega)
      refine jj_iload_n dX8_leftOf_4 rfl ?_
      refine jj_aload_n dX8_leftOf_5 rfl ?_
      refine jj_iconst dX8_leftOf_6 (kk := ?_)
      refine zz_ialdN (j := 3) dX8_leftOf_7 (tRw hr) (by omega) (by omega) ?_
      refine jj_icmp_ge (tgt := 26) dX8_leftOf_8 (by decide) (fun h8 => ?_) (fun h8 => ?_)
      · refine jj_iload_n dX8_leftOf_26 rfl ?_
        refine zz_retie dX8_leftOf_27 rfl (by decide) ?_ ?_
        · rw [show (s r 3).toNat = j by omega]
        · rfl
      · refine jj_iload_n dX8_leftOf_11 rfl ?_
        refine jj_aload_n dX8_leftOf_12 rfl ?_
        refine jj_iload_n dX8_leftOf_13 rfl ?_
        refine jj_iconst dX8_leftOf_14 (kk := ?_)
        refine zz_cSi (av := [jr (r), ji ((j : Int)), ji (4)]) (st' := [ji (rLA (s r) j)]) dX8_leftOf_15 kn_X8_155 kmX8_of rfl rfl (Nat.le_of_ble_eq_true rfl) (by decide) rfl (c_X8_of g s r hr (j : Int) 4 (6 + 5 * j + 4) (by omega) (by omega)) (fun hr15 ho15 => ?_)
        refine jj_iadd dX8_leftOf_18 (by have := mRw_l hm j (by omega); omega) ?_
        refine jj_istore_n (ls' := [some (jr (r)), some (ji ((rLA (s r) j) + (s r (6 + 5 * j + 4)))), some (ji ((j : Int)))]) dX8_leftOf_19 (by decide) rfl rfl ?_
        refine jj_iinc (ls' := [some (jr (r)), some (ji ((rLA (s r) j) + (s r (6 + 5 * j + 4)))), some (ji ((j : Int) + 1))]) dX8_leftOf_20 rfl (by decide) rfl (by omega) rfl ?_
        refine jj_goto (tgt := 4) dX8_leftOf_23 (by decide) ?_
        exact ih4 (j + 1) (by first | assumption | omega) (by omega)
  exact L4 _ 0 (by first | assumption | omega) (Nat.lt_succ_self _)

set_option maxRecDepth 100000 in
set_option maxHeartbeats 4000000 in
theorem c_X8_layThen (g : jz_G) (s : jz_St)  : jz_C g mX8_layThen [jr (416)] s (jq_ve (f_X8_layThen s)) := by
  refine zz_C_of koX8_layThen rfl (Nat.le_of_ble_eq_true rfl) ?_
  refine zz_pad 1 ?_
  show jz_Z g mX8_layThen (jq_ve (f_X8_layThen s)) 0 [some (jr (416)), none] [] s
  refine jj_iconst dX8_layThen_0 (kk := ?_)
  refine jj_istore_n (ls' := [some (jr (416)), some (ji (0))]) dX8_layThen_1 (by decide) rfl rfl ?_
  have L2 : ∀ (nn : Nat) (j : Nat) (hh2_0 : j ≤ 53), 53 - j < nn → jz_Z g mX8_layThen (jq_ve (f_X8_layThen s)) 2 [some (jr (416)), some (ji ((j : Int)))] [] (f_X8_rc s 422 420 0 0 j) := by
    intro nn
    induction nn with
    | zero => intro j hh2_0 hmz; exact absurd hmz (Nat.not_lt_zero _)
    | succ nn ih2 =>
      intro j hh2_0 hm2
      refine jj_iload_n dX8_layThen_2 rfl ?_
      refine jj_bipush dX8_layThen_3 (kk := ?_)
      refine jj_icmp_ge (tgt := 26) dX8_layThen_5 (by decide) (fun h5 => ?_) (fun h5 => ?_)
      · obtain rfl : j = 53 := (by omega)
        refine zz_retve dX8_layThen_26 rfl (by decide) ?_
        · rfl
      · refine jj_aload_n dX8_layThen_8 rfl ?_
        refine zz_getR dX8_layThen_9 kf_X8_25 tt416 rfl ?_
        refine jj_iload_n dX8_layThen_12 rfl ?_
        refine jj_aload_n dX8_layThen_13 rfl ?_
        refine zz_getR dX8_layThen_14 kf_X8_19 tt416 rfl ?_
        refine jj_iload_n dX8_layThen_17 rfl ?_
        refine zz_ialdN (j := 0 + j) dX8_layThen_18 tt420 (by omega) (by omega) ?_
        refine zz_iastN (j := 0 + j) dX8_layThen_19 tt422 (by omega) (by omega) ?_
        refine jj_iinc (ls' := [some (jr (416)), some (ji ((j : Int) + 1))]) dX8_layThen_20 rfl (by decide) rfl (by omega) rfl ?_
        refine jj_goto (tgt := 2) dX8_layThen_23 (by decide) ?_
        refine zz_st (s1 := f_X8_rc s 422 420 0 0 (j + 1)) (by rfl) ?_
        exact ih2 (j + 1) (by first | assumption | omega) (by omega)
  refine zz_st (s1 := f_X8_rc s 422 420 0 0 0) (by rfl) ?_
  exact L2 _ 0 (by first | assumption | omega) (Nat.lt_succ_self _)

set_option maxRecDepth 100000 in
set_option maxHeartbeats 4000000 in
theorem c_X8_layOff (g : jz_G) (s : jz_St) (w n : Int) (hq : 0 ≤ s 420 4 ∧ s 420 4 ≤ 4)  : jz_C g mX8_layOff [jr (416), ji (w), ji (n)] s (jq_ve (f_X8_layOff s w n)) := by
  refine zz_C_of koX8_layOff rfl (Nat.le_of_ble_eq_true rfl) ?_
  refine zz_pad 2 ?_
  show jz_Z g mX8_layOff (jq_ve (f_X8_layOff s w n)) 0 [some (jr (416)), some (ji (w)), some (ji (n)), none, none] [] s
  refine jj_aload_n dX8_layOff_0 rfl ?_
  refine zz_cVv (av := []) (st' := []) dX8_layOff_1 kn_X8_177 kmX8_layThen tt416 rfl rfl rfl (Nat.le_of_ble_eq_true rfl) (by decide) rfl (c_X8_layThen g s) (fun ho1 => ?_)
  refine jj_iconst dX8_layOff_4 (kk := ?_)
  refine jj_istore_n (ls' := [some (jr (416)), some (ji (w)), some (ji (n)), some (ji (0)), none]) dX8_layOff_5 (by decide) rfl rfl ?_
  have L6 : ∀ (nn : Nat) (j : Nat) (hh6_0 : (j : Int) ≤ s 420 4), 4 - j < nn → jz_Z g mX8_layOff (jq_ve (f_X8_layOff s w n)) 6 [some (jr (416)), some (ji (w)), some (ji (n)), some (ji ((j : Int))), none] [] (f_X8_lo (f_X8_layThen s) w n j) := by
    intro nn
    induction nn with
    | zero => intro j hh6_0 hmz; exact absurd hmz (Nat.not_lt_zero _)
    | succ nn ih6 =>
      intro j hh6_0 hm6
      refine jj_iload_n dX8_layOff_6 rfl ?_
      refine jj_aload_n dX8_layOff_7 rfl ?_
      refine zz_getR dX8_layOff_8 kf_X8_19 tt416 rfl ?_
      refine jj_iconst dX8_layOff_11 (kk := ?_)
      refine zz_ialdN (j := 4) dX8_layOff_12 tt420 (by omega) (by omega) ?_
      refine zz_top (b := s 420 4) (by rw [lo_o _ _ _ (by decide), layThen_o _ (by decide)]) ?_
      refine jj_icmp_ge (tgt := 69) dX8_layOff_13 (by decide) (fun h13 => ?_) (fun h13 => ?_)
      · refine zz_retve dX8_layOff_69 rfl (by decide) ?_
        · unfold f_X8_layOff; rw [show (s 420 4).toNat = j by omega]
      · refine jj_bipush dX8_layOff_16 (kk := ?_)
        refine jj_iconst dX8_layOff_18 (kk := ?_)
        refine jj_iload_n dX8_layOff_19 rfl ?_
        refine jj_imul dX8_layOff_20 (by omega) ?_
        refine jj_iadd dX8_layOff_21 (by omega) ?_
        refine jj_iconst dX8_layOff_22 (kk := ?_)
        refine jj_iadd dX8_layOff_23 (by omega) ?_
        refine jj_istore (ls' := [some (jr (416)), some (ji (w)), some (ji (n)), some (ji ((j : Int))), some (ji ((41 + (3 * (j : Int))) + 2))]) dX8_layOff_24 (by decide) rfl rfl ?_
        refine jj_aload_n dX8_layOff_26 rfl ?_
        refine zz_getR dX8_layOff_27 kf_X8_25 tt416 rfl ?_
        refine jj_iload dX8_layOff_30 rfl ?_
        have L62 : ∀ (v : Int) (hh62_0 : v = if jand (jshr w j) 1 = 1 ∧ (f_X8_lo (f_X8_layThen s) w n j) 422 (41 + 3 * j + 2) < n then n else (f_X8_lo (f_X8_layThen s) w n j) 422 (41 + 3 * j + 2)), jz_Z g mX8_layOff (jq_ve (f_X8_layOff s w n)) 62 [some (jr (416)), some (ji (w)), some (ji (n)), some (ji ((j : Int))), some (ji ((41 + (3 * (j : Int))) + 2))] [ji (v), ji (41 + 3 * (j : Int) + 2), jr (422)] (f_X8_lo (f_X8_layThen s) w n j) := by
          intro v hh62_0
          refine zz_iastN (j := 41 + 3 * j + 2) dX8_layOff_62 tt422 (by omega) (by omega) ?_
          refine jj_iinc (ls' := [some (jr (416)), some (ji (w)), some (ji (n)), some (ji ((j : Int) + 1)), some (ji ((41 + (3 * (j : Int))) + 2))]) dX8_layOff_63 rfl (by decide) rfl (by omega) rfl ?_
          refine jj_goto (tgt := 6) dX8_layOff_66 (by decide) ?_
          refine jj_fgt (i := 4) (ls' := [some (jr (416)), some (ji (w)), some (ji (n)), some (ji ((j : Int) + 1)), none]) rfl ?_
          refine zz_st (s1 := f_X8_lo (f_X8_layThen s) w n (j + 1)) (by rw [hh62_0]; rfl) ?_
          exact ih6 (j + 1) (by first | assumption | omega) (by omega)
        refine jj_iload_n dX8_layOff_32 rfl ?_
        refine jj_iload_n dX8_layOff_33 rfl ?_
        refine zz_cSi (av := [ji (w), ji ((j : Int))]) (st' := [ji ((41 + (3 * (j : Int))) + 2), jr (422)]) dX8_layOff_34 kn_X8_180 kmX8_has rfl rfl (Nat.le_of_ble_eq_true rfl) (by decide) rfl (c_X8_has g (f_X8_lo (f_X8_layThen s) w n j) w (j : Int)) (fun hr34 ho34 => ?_)
        refine jj_if_eq (tgt := 55) dX8_layOff_37 (by decide) (fun h37 => ?_) (fun h37 => ?_)
        · have hg37 := bz_f h37
          refine jj_aload_n dX8_layOff_55 rfl ?_
          refine zz_getR dX8_layOff_56 kf_X8_25 tt416 rfl ?_
          refine jj_iload dX8_layOff_59 rfl ?_
          refine zz_ialdN (j := 41 + 3 * j + 2) dX8_layOff_61 tt422 (by omega) (by omega) ?_
          exact L62 ((f_X8_lo (f_X8_layThen s) w n j) 422 (41 + 3 * j + 2)) (by first | (rw [if_pos (by omega)]; done) | (rw [if_neg (by omega)]; done))
        · have hg37 := bz_t h37
          refine jj_aload_n dX8_layOff_40 rfl ?_
          refine zz_getR dX8_layOff_41 kf_X8_25 tt416 rfl ?_
          refine jj_iload dX8_layOff_44 rfl ?_
          refine zz_ialdN (j := 41 + 3 * j + 2) dX8_layOff_46 tt422 (by omega) (by omega) ?_
          refine jj_iload_n dX8_layOff_47 rfl ?_
          refine jj_icmp_ge (tgt := 55) dX8_layOff_48 (by decide) (fun h48 => ?_) (fun h48 => ?_)
          · refine jj_aload_n dX8_layOff_55 rfl ?_
            refine zz_getR dX8_layOff_56 kf_X8_25 tt416 rfl ?_
            refine jj_iload dX8_layOff_59 rfl ?_
            refine zz_ialdN (j := 41 + 3 * j + 2) dX8_layOff_61 tt422 (by omega) (by omega) ?_
            exact L62 ((f_X8_lo (f_X8_layThen s) w n j) 422 (41 + 3 * j + 2)) (by first | (rw [if_pos (by omega)]; done) | (rw [if_neg (by omega)]; done))
          · refine jj_iload_n dX8_layOff_51 rfl ?_
            refine jj_goto (tgt := 62) dX8_layOff_52 (by decide) ?_
            exact L62 n (by first | (rw [if_pos (by omega)]; done) | (rw [if_neg (by omega)]; done))
  refine zz_st (s1 := f_X8_lo (f_X8_layThen s) w n 0) (by rfl) ?_
  exact L6 _ 0 (by first | assumption | omega) (Nat.lt_succ_self _)

set_option maxRecDepth 100000 in
set_option maxHeartbeats 4000000 in
theorem c_X8_keep (g : jz_G) (s : jz_St) (ha : 0 ≤ s 416 9 ∧ s 416 9 ≤ 24)  : jz_C g mX8_keep [jr (416)] s (jq_ve (f_X8_keep s)) := by
  refine zz_C_of koX8_keep rfl (Nat.le_of_ble_eq_true rfl) ?_
  refine zz_pad 1 ?_
  show jz_Z g mX8_keep (jq_ve (f_X8_keep s)) 0 [some (jr (416)), none] [] s
  have L49 : ∀ (s1 : jz_St) (hh49_0 : s1 = f_X8_kp1 s) (hh49_1 : 0 ≤ s1 416 9 ∧ s1 416 9 ≤ 23), jz_Z g mX8_keep (jq_ve (f_X8_keep s)) 49 [some (jr (416)), none] [] s1 := by
    intro s1 hh49_0 hh49_1
    refine jj_iconst dX8_keep_49 (kk := ?_)
    refine jj_istore_n (ls' := [some (jr (416)), some (ji (0))]) dX8_keep_50 (by decide) rfl rfl ?_
    have L51 : ∀ (nn : Nat) (j : Nat) (hh51_0 : j ≤ 53), 53 - j < nn → jz_Z g mX8_keep (jq_ve (f_X8_keep s)) 51 [some (jr (416)), some (ji ((j : Int)))] [] (f_X8_rc s1 423 420 (53 * (s1 416 9).toNat) 0 j) := by
      intro nn
      induction nn with
      | zero => intro j hh51_0 hmz; exact absurd hmz (Nat.not_lt_zero _)
      | succ nn ih51 =>
        intro j hh51_0 hm51
        refine jj_iload_n dX8_keep_51 rfl ?_
        refine jj_bipush dX8_keep_52 (kk := ?_)
        refine jj_icmp_ge (tgt := 83) dX8_keep_54 (by decide) (fun h54 => ?_) (fun h54 => ?_)
        · obtain rfl : j = 53 := (by omega)
          refine jj_aload_n dX8_keep_83 rfl ?_
          refine jj_dup dX8_keep_84 (kk := ?_)
          refine zz_getI dX8_keep_85 kf_X8_152 tt416 rfl rfl ?_
          refine zz_top (b := s1 416 9) (by rw [rc_o _ _ _ _ _ (by decide)]) ?_
          refine jj_iconst dX8_keep_88 (kk := ?_)
          refine jj_iadd dX8_keep_89 (by omega) ?_
          refine zz_putI dX8_keep_90 kw_X8_152 tt416 rfl rfl ?_
          refine zz_retve dX8_keep_93 rfl (by decide) ?_
          · unfold f_X8_keep; rw [← hh49_0]
        · refine jj_aload_n dX8_keep_57 rfl ?_
          refine zz_getR dX8_keep_58 kf_X8_28 tt416 rfl ?_
          refine jj_bipush dX8_keep_61 (kk := ?_)
          refine jj_aload_n dX8_keep_63 rfl ?_
          refine zz_getI dX8_keep_64 kf_X8_152 tt416 rfl rfl ?_
          refine zz_top (b := s1 416 9) (by rw [rc_o _ _ _ _ _ (by decide)]) ?_
          refine jj_imul dX8_keep_67 (by omega) ?_
          refine jj_iload_n dX8_keep_68 rfl ?_
          refine jj_iadd dX8_keep_69 (by omega) ?_
          refine jj_aload_n dX8_keep_70 rfl ?_
          refine zz_getR dX8_keep_71 kf_X8_19 tt416 rfl ?_
          refine jj_iload_n dX8_keep_74 rfl ?_
          refine zz_ialdN (j := 0 + j) dX8_keep_75 tt420 (by omega) (by omega) ?_
          refine zz_iastN (j := 53 * (s1 416 9).toNat + j) dX8_keep_76 tt423 (by omega) (by omega) ?_
          refine jj_iinc (ls' := [some (jr (416)), some (ji ((j : Int) + 1))]) dX8_keep_77 rfl (by decide) rfl (by omega) rfl ?_
          refine jj_goto (tgt := 51) dX8_keep_80 (by decide) ?_
          refine zz_st (s1 := f_X8_rc s1 423 420 (53 * (s1 416 9).toNat) 0 (j + 1)) (by rfl) ?_
          exact ih51 (j + 1) (by first | assumption | omega) (by omega)
    refine zz_st (s1 := f_X8_rc s1 423 420 (53 * (s1 416 9).toNat) 0 0) (by rfl) ?_
    exact L51 _ 0 (by first | assumption | omega) (Nat.lt_succ_self _)
  refine jj_aload_n dX8_keep_0 rfl ?_
  refine zz_getI dX8_keep_1 kf_X8_152 tt416 rfl rfl ?_
  refine jj_bipush dX8_keep_4 (kk := ?_)
  refine jj_icmp_ne (tgt := 49) dX8_keep_6 (by decide) (fun h6 => ?_) (fun h6 => ?_)
  · exact L49 s (by unfold f_X8_kp1; rw [if_neg h6]) (by omega)
  · refine jj_iconst dX8_keep_9 (kk := ?_)
    refine jj_istore_n (ls' := [some (jr (416)), some (ji (0))]) dX8_keep_10 (by decide) rfl rfl ?_
    have L11 : ∀ (nn : Nat) (k : Nat) (hh11_0 : k ≤ 1219), 1219 - k < nn → jz_Z g mX8_keep (jq_ve (f_X8_keep s)) 11 [some (jr (416)), some (ji ((k : Int)))] [] (f_X8_rc s 423 423 0 53 k) := by
      intro nn
      induction nn with
      | zero => intro k hh11_0 hmz; exact absurd hmz (Nat.not_lt_zero _)
      | succ nn ih11 =>
        intro k hh11_0 hm11
        refine jj_iload_n dX8_keep_11 rfl ?_
        refine jj_sipush dX8_keep_12 (kk := ?_)
        refine jj_icmp_ge (tgt := 39) dX8_keep_15 (by decide) (fun h15 => ?_) (fun h15 => ?_)
        · obtain rfl : k = 1219 := (by omega)
          refine jj_aload_n dX8_keep_39 rfl ?_
          refine jj_dup dX8_keep_40 (kk := ?_)
          refine zz_getI dX8_keep_41 kf_X8_152 tt416 rfl rfl ?_
          refine zz_top (b := s 416 9) (by rw [rc_o _ _ _ _ _ (by decide)]) ?_
          refine jj_iconst dX8_keep_44 (kk := ?_)
          refine jj_isub dX8_keep_45 (by omega) ?_
          refine zz_putI dX8_keep_46 kw_X8_152 tt416 rfl rfl ?_
          refine jj_fgt (i := 1) (ls' := [some (jr (416)), none]) rfl ?_
          exact L49 (jz_su (f_X8_rc s 423 423 0 53 1219) 416 9 ((s 416 9) - 1)) (by unfold f_X8_kp1; rw [if_pos (by omega)]) (by rw [jz_su_s]; omega)
        · refine jj_aload_n dX8_keep_18 rfl ?_
          refine zz_getR dX8_keep_19 kf_X8_28 tt416 rfl ?_
          refine jj_iload_n dX8_keep_22 rfl ?_
          refine jj_aload_n dX8_keep_23 rfl ?_
          refine zz_getR dX8_keep_24 kf_X8_28 tt416 rfl ?_
          refine jj_iload_n dX8_keep_27 rfl ?_
          refine jj_bipush dX8_keep_28 (kk := ?_)
          refine jj_iadd dX8_keep_30 (by omega) ?_
          refine zz_ialdN (j := 53 + k) dX8_keep_31 tt423 (by omega) (by omega) ?_
          refine zz_iastN (j := 0 + k) dX8_keep_32 tt423 (by omega) (by omega) ?_
          refine jj_iinc (ls' := [some (jr (416)), some (ji ((k : Int) + 1))]) dX8_keep_33 rfl (by decide) rfl (by omega) rfl ?_
          refine jj_goto (tgt := 11) dX8_keep_36 (by decide) ?_
          refine zz_st (s1 := f_X8_rc s 423 423 0 53 (k + 1)) (by rfl) ?_
          exact ih11 (k + 1) (by first | assumption | omega) (by omega)
    refine zz_st (s1 := f_X8_rc s 423 423 0 53 0) (by rfl) ?_
    exact L11 _ 0 (by first | assumption | omega) (Nat.lt_succ_self _)

