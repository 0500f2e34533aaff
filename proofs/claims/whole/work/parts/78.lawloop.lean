variable {y : MethodName}
set_option maxRecDepth 100000 in
set_option maxHeartbeats 4000000 in
theorem law_loop (g : jz_G) (hg : jz_L g ≤ 3584) {s0 : jz_St} (hV : Inv s0) : jz_Z g (mLw y) (jq_i (fun z _ => z = 1)) 16 [some (jr (1000)), some (jr (0)), some (jr (416)), none] [] s0 := by
  refine jj_iconst dL_law_16 (kk := ?_)
  refine jj_istore_n (ls' := [some (jr (1000)), some (jr (0)), some (jr (416)), some (ji (0))]) dL_law_17 (Nat.le_of_ble_eq_true rfl) rfl rfl ?_
  have L18 : ∀ (nn : Nat) (i : Nat) (sx : jz_St) (hh18_0 : Inv sx) (hh18_1 : i ≤ jz_L g), jz_L g - i < nn → jz_Z g (mLw y) (jq_i (fun z _ => z = 1)) 18 [some (jr (1000)), some (jr (0)), some (jr (416)), some (ji ((i : Int)))] [] sx := by
    intro nn
    induction nn with
    | zero => intro i sx hh18_0 hh18_1 hmz; exact absurd hmz (Nat.not_lt_zero _)
    | succ nn ih18 =>
      intro i sx hh18_0 hh18_1 hm18
      refine jj_iload_n dL_law_18 rfl ?_
      refine jj_aload_n dL_law_19 rfl ?_
      refine jj_slen dL_law_20 rfl ?_
      refine jj_bipush dL_law_21 (kk := ?_)
      refine jj_isub dL_law_23 (by omega) ?_
      refine jj_icmp_gt (tgt := 1467) dL_law_24 (by decide) (fun h24 => ?_) (fun h24 => ?_)
      · refine jj_iconst dL_law_1467 (kk := ?_)
        refine zz_retz dL_law_1468 rfl (by first | exact Or.inl rfl | exact Or.inr rfl) (Nat.le_refl _) ?_
        · rfl
      · have L1461 : ∀ (s2 : jz_St) (hh1461_0 : Inv s2), jz_Z g (mLw y) (jq_i (fun z _ => z = 1)) 1461 [some (jr (1000)), some (jr (0)), some (jr (416)), some (ji ((i : Int)))] [] s2 := by
          intro s2 hh1461_0
          refine jj_iinc (ls' := [some (jr (1000)), some (jr (0)), some (jr (416)), some (ji ((i : Int) + 7))]) dL_law_1461 rfl (Nat.le_of_ble_eq_true rfl) rfl (by omega) rfl ?_
          refine jj_goto (tgt := 18) dL_law_1464 (by decide) ?_
          exact ih18 (i + 7) s2 (by exact hh1461_0) (by omega) (by omega)
        refine jj_aload_n dL_law_27 rfl ?_
        refine jj_iload_n dL_law_28 rfl ?_
        refine jj_sld dL_law_29 rfl (by omega) (by omega) ?_
        refine jj_bipush dL_law_30 (kk := ?_)
        refine jj_iand dL_law_32 ?_
        generalize jand (jz_x g ((i : Int)).toNat) (63) = a
        by_cases ht : a < 0 ∨ 39 < a
        · refine jj_tswO (tgt := 1461) dL_law_33 ht (by decide) ?_
          exact L1461 sx hh18_0
        · by_cases hq0 : a < 10
          · rcases sw40_0 (a := a) (by omega) (by omega) with hv | hv | hv | hv | hv | hv | hv | hv | hv | hv
            · refine jj_tswI (off := 175) (tgt := 208) dL_law_33 (by omega) (by omega) (by rw [hv]; rfl) (by decide) ?_
              exact law_0 g hg (i := i) (by omega) hh18_0 (fun s' h => L1461 s' h)
            · refine jj_tswI (off := 218) (tgt := 251) dL_law_33 (by omega) (by omega) (by rw [hv]; rfl) (by decide) ?_
              exact law_1 g hg (i := i) (by omega) hh18_0 (fun s' h => L1461 s' h)
            · refine jj_tswI (off := 261) (tgt := 294) dL_law_33 (by omega) (by omega) (by rw [hv]; rfl) (by decide) ?_
              exact law_2 g hg (i := i) (by omega) hh18_0 (fun s' h => L1461 s' h)
            · refine jj_tswI (off := 324) (tgt := 357) dL_law_33 (by omega) (by omega) (by rw [hv]; rfl) (by decide) ?_
              exact law_3 g hg (i := i) (by omega) hh18_0 (fun s' h => L1461 s' h)
            · refine jj_tswI (off := 347) (tgt := 380) dL_law_33 (by omega) (by omega) (by rw [hv]; rfl) (by decide) ?_
              exact law_4 g hg (i := i) (by omega) hh18_0 (fun s' h => L1461 s' h)
            · refine jj_tswI (off := 370) (tgt := 403) dL_law_33 (by omega) (by omega) (by rw [hv]; rfl) (by decide) ?_
              exact law_5 g hg (i := i) (by omega) hh18_0 (fun s' h => L1461 s' h)
            · refine jj_tswI (off := 383) (tgt := 416) dL_law_33 (by omega) (by omega) (by rw [hv]; rfl) (by decide) ?_
              exact law_6 g hg (i := i) (by omega) hh18_0 (fun s' h => L1461 s' h)
            · refine jj_tswI (off := 396) (tgt := 429) dL_law_33 (by omega) (by omega) (by rw [hv]; rfl) (by decide) ?_
              exact law_7 g hg (i := i) (by omega) hh18_0 (fun s' h => L1461 s' h)
            · refine jj_tswI (off := 409) (tgt := 442) dL_law_33 (by omega) (by omega) (by rw [hv]; rfl) (by decide) ?_
              exact law_8 g hg (i := i) (by omega) hh18_0 (fun s' h => L1461 s' h)
            · refine jj_tswI (off := 432) (tgt := 465) dL_law_33 (by omega) (by omega) (by rw [hv]; rfl) (by decide) ?_
              exact law_9 g hg (i := i) (by omega) hh18_0 (fun s' h => L1461 s' h)
          · by_cases hq1 : a < 20
            · rcases sw40_1 (a := a) (by omega) (by omega) with hv | hv | hv | hv | hv | hv | hv | hv | hv | hv
              · refine jj_tswI (off := 465) (tgt := 498) dL_law_33 (by omega) (by omega) (by rw [hv]; rfl) (by decide) ?_
                exact law_10 g hg (i := i) (by omega) hh18_0 (fun s' h => L1461 s' h)
              · refine jj_tswI (off := 488) (tgt := 521) dL_law_33 (by omega) (by omega) (by rw [hv]; rfl) (by decide) ?_
                exact law_11 g hg (i := i) (by omega) hh18_0 (fun s' h => L1461 s' h)
              · refine jj_tswI (off := 511) (tgt := 544) dL_law_33 (by omega) (by omega) (by rw [hv]; rfl) (by decide) ?_
                exact law_12 g hg (i := i) (by omega) hh18_0 (fun s' h => L1461 s' h)
              · refine jj_tswI (off := 544) (tgt := 577) dL_law_33 (by omega) (by omega) (by rw [hv]; rfl) (by decide) ?_
                exact law_13 g hg (i := i) (by omega) hh18_0 (fun s' h => L1461 s' h)
              · refine jj_tswI (off := 567) (tgt := 600) dL_law_33 (by omega) (by omega) (by rw [hv]; rfl) (by decide) ?_
                exact law_14 g hg (i := i) (by omega) hh18_0 (fun s' h => L1461 s' h)
              · refine jj_tswI (off := 600) (tgt := 633) dL_law_33 (by omega) (by omega) (by rw [hv]; rfl) (by decide) ?_
                exact law_15 g hg (i := i) (by omega) hh18_0 (fun s' h => L1461 s' h)
              · refine jj_tswI (off := 633) (tgt := 666) dL_law_33 (by omega) (by omega) (by rw [hv]; rfl) (by decide) ?_
                exact law_16 g hg (i := i) (by omega) hh18_0 (fun s' h => L1461 s' h)
              · refine jj_tswI (off := 666) (tgt := 699) dL_law_33 (by omega) (by omega) (by rw [hv]; rfl) (by decide) ?_
                exact law_17 g hg (i := i) (by omega) hh18_0 (fun s' h => L1461 s' h)
              · refine jj_tswI (off := 689) (tgt := 722) dL_law_33 (by omega) (by omega) (by rw [hv]; rfl) (by decide) ?_
                exact law_18 g hg (i := i) (by omega) hh18_0 (fun s' h => L1461 s' h)
              · refine jj_tswI (off := 712) (tgt := 745) dL_law_33 (by omega) (by omega) (by rw [hv]; rfl) (by decide) ?_
                exact law_19 g hg (i := i) (by omega) hh18_0 (fun s' h => L1461 s' h)
            · by_cases hq2 : a < 30
              · rcases sw40_2 (a := a) (by omega) (by omega) with hv | hv | hv | hv | hv | hv | hv | hv | hv | hv
                · refine jj_tswI (off := 745) (tgt := 778) dL_law_33 (by omega) (by omega) (by rw [hv]; rfl) (by decide) ?_
                  exact law_20 g hg (i := i) (by omega) hh18_0 (fun s' h => L1461 s' h)
                · refine jj_tswI (off := 778) (tgt := 811) dL_law_33 (by omega) (by omega) (by rw [hv]; rfl) (by decide) ?_
                  exact law_21 g hg (i := i) (by omega) hh18_0 (fun s' h => L1461 s' h)
                · refine jj_tswI (off := 801) (tgt := 834) dL_law_33 (by omega) (by omega) (by rw [hv]; rfl) (by decide) ?_
                  exact law_22 g hg (i := i) (by omega) hh18_0 (fun s' h => L1461 s' h)
                · refine jj_tswI (off := 844) (tgt := 877) dL_law_33 (by omega) (by omega) (by rw [hv]; rfl) (by decide) ?_
                  exact law_23 g hg (i := i) (by omega) hh18_0 (fun s' h => L1461 s' h)
                · refine jj_tswI (off := 887) (tgt := 920) dL_law_33 (by omega) (by omega) (by rw [hv]; rfl) (by decide) ?_
                  exact law_24 g hg (i := i) (by omega) hh18_0 (fun s' h => L1461 s' h)
                · refine jj_tswI (off := 920) (tgt := 953) dL_law_33 (by omega) (by omega) (by rw [hv]; rfl) (by decide) ?_
                  exact law_25 g hg (i := i) (by omega) hh18_0 (fun s' h => L1461 s' h)
                · refine jj_tswI (off := 963) (tgt := 996) dL_law_33 (by omega) (by omega) (by rw [hv]; rfl) (by decide) ?_
                  exact law_26 g hg (i := i) (by omega) hh18_0 (fun s' h => L1461 s' h)
                · refine jj_tswI (off := 996) (tgt := 1029) dL_law_33 (by omega) (by omega) (by rw [hv]; rfl) (by decide) ?_
                  exact law_27 g hg (i := i) (by omega) hh18_0 (fun s' h => L1461 s' h)
                · refine jj_tswI (off := 1071) (tgt := 1104) dL_law_33 (by omega) (by omega) (by rw [hv]; rfl) (by decide) ?_
                  exact law_28 g hg (i := i) (by omega) hh18_0 (fun s' h => L1461 s' h)
                · refine jj_tswI (off := 1124) (tgt := 1157) dL_law_33 (by omega) (by omega) (by rw [hv]; rfl) (by decide) ?_
                  exact law_29 g hg (i := i) (by omega) hh18_0 (fun s' h => L1461 s' h)
              · rcases sw40_3 (a := a) (by omega) (by omega) with hv | hv | hv | hv | hv | hv | hv | hv | hv | hv
                · refine jj_tswI (off := 1147) (tgt := 1180) dL_law_33 (by omega) (by omega) (by rw [hv]; rfl) (by decide) ?_
                  exact law_30 g hg (i := i) (by omega) hh18_0 (fun s' h => L1461 s' h)
                · refine jj_tswI (off := 1191) (tgt := 1224) dL_law_33 (by omega) (by omega) (by rw [hv]; rfl) (by decide) ?_
                  exact law_31 g hg (i := i) (by omega) hh18_0 (fun s' h => L1461 s' h)
                · refine jj_tswI (off := 1234) (tgt := 1267) dL_law_33 (by omega) (by omega) (by rw [hv]; rfl) (by decide) ?_
                  exact law_32 g hg (i := i) (by omega) hh18_0 (fun s' h => L1461 s' h)
                · refine jj_tswI (off := 1257) (tgt := 1290) dL_law_33 (by omega) (by omega) (by rw [hv]; rfl) (by decide) ?_
                  exact law_33 g hg (i := i) (by omega) hh18_0 (fun s' h => L1461 s' h)
                · refine jj_tswI (off := 1280) (tgt := 1313) dL_law_33 (by omega) (by omega) (by rw [hv]; rfl) (by decide) ?_
                  exact law_34 g hg (i := i) (by omega) hh18_0 (fun s' h => L1461 s' h)
                · refine jj_tswI (off := 1303) (tgt := 1336) dL_law_33 (by omega) (by omega) (by rw [hv]; rfl) (by decide) ?_
                  exact law_35 g hg (i := i) (by omega) hh18_0 (fun s' h => L1461 s' h)
                · refine jj_tswI (off := 1336) (tgt := 1369) dL_law_33 (by omega) (by omega) (by rw [hv]; rfl) (by decide) ?_
                  exact law_36 g hg (i := i) (by omega) hh18_0 (fun s' h => L1461 s' h)
                · refine jj_tswI (off := 1369) (tgt := 1402) dL_law_33 (by omega) (by omega) (by rw [hv]; rfl) (by decide) ?_
                  exact law_37 g hg (i := i) (by omega) hh18_0 (fun s' h => L1461 s' h)
                · refine jj_tswI (off := 1392) (tgt := 1425) dL_law_33 (by omega) (by omega) (by rw [hv]; rfl) (by decide) ?_
                  exact law_38 g hg (i := i) (by omega) hh18_0 (fun s' h => L1461 s' h)
                · refine jj_tswI (off := 1415) (tgt := 1448) dL_law_33 (by omega) (by omega) (by rw [hv]; rfl) (by decide) ?_
                  exact law_39 g hg (i := i) (by omega) hh18_0 (fun s' h => L1461 s' h)
  exact L18 _ 0 s0 (by exact hV) (by omega) (Nat.lt_succ_self _)
