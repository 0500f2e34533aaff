theorem bc_side : ∀ n, n < 128 → jI (Int.ofNat n - jand (jushr n 1) 1431655765) ∧
    jI (jand (n - jand (jushr n 1) 1431655765) 858993459 + jand (jushr (n - jand (jushr n 1) 1431655765) 2) 858993459) ∧
    (let y := jand (n - jand (jushr n 1) 1431655765) 858993459 + jand (jushr (n - jand (jushr n 1) 1431655765) 2) 858993459
     jI (y + jushr y 4) ∧ (let z := jand (y + jushr y 4) 252645135
       jI (z + jushr z 8) ∧ (let u := z + jushr z 8
         jI (u + jushr u 16) ∧ jand (u + jushr u 16) 63 = fBC n))) := by decide +kernel
theorem fBC_rng : ∀ n, n < 128 → 0 ≤ fBC n ∧ fBC n ≤ 7 := by decide +kernel
set_option maxRecDepth 100000 in
set_option maxHeartbeats 4000000 in
theorem c_J6_bitCount (g : jz_G) (s : jz_St) (n : Nat) (hn : n < 128) : jz_C g mJ6_bitCount_0f7a4 [ji ((n : Int))] s (jq_ie (fBC n) s) := by
  refine zz_C_of koJ6_bitCount_0f7a4 rfl (Nat.le_of_ble_eq_true rfl) ?_
  refine zz_pad 0 ?_
  show jz_Z g mJ6_bitCount_0f7a4 (jq_ie (fBC n) s) 0 [some (ji ((n : Int)))] [] s
  refine jj_iload_n dJ6_bitCount_0f7a4_0 rfl ?_
  refine jj_iload_n dJ6_bitCount_0f7a4_1 rfl ?_
  refine jj_iconst dJ6_bitCount_0f7a4_2 (kk := ?_)
  refine jj_iushr dJ6_bitCount_0f7a4_3 ?_
  refine jj_ldcw dJ6_bitCount_0f7a4_4 kk_J6_265 (kk := ?_)
  refine jj_iand dJ6_bitCount_0f7a4_7 ?_
  refine jj_isub dJ6_bitCount_0f7a4_8 (by have := (bc_side n hn).1; exact this) ?_
  refine jj_istore_n (ls' := [some (ji ((n : Int) - (jand (jushr ((n : Int)) (1)) (1431655765))))]) dJ6_bitCount_0f7a4_9 (by decide) rfl rfl ?_
  refine jj_iload_n dJ6_bitCount_0f7a4_10 rfl ?_
  refine jj_ldcw dJ6_bitCount_0f7a4_11 kk_J6_266 (kk := ?_)
  refine jj_iand dJ6_bitCount_0f7a4_14 ?_
  refine jj_iload_n dJ6_bitCount_0f7a4_15 rfl ?_
  refine jj_iconst dJ6_bitCount_0f7a4_16 (kk := ?_)
  refine jj_iushr dJ6_bitCount_0f7a4_17 ?_
  refine jj_ldcw dJ6_bitCount_0f7a4_18 kk_J6_266 (kk := ?_)
  refine jj_iand dJ6_bitCount_0f7a4_21 ?_
  refine jj_iadd dJ6_bitCount_0f7a4_22 (by exact (bc_side n hn).2.1) ?_
  refine jj_istore_n (ls' := [some (ji ((jand ((n : Int) - (jand (jushr ((n : Int)) (1)) (1431655765))) (858993459)) + (jand (jushr ((n : Int) - (jand (jushr ((n : Int)) (1)) (1431655765))) (2)) (858993459))))]) dJ6_bitCount_0f7a4_23 (by decide) rfl rfl ?_
  refine jj_iload_n dJ6_bitCount_0f7a4_24 rfl ?_
  refine jj_iload_n dJ6_bitCount_0f7a4_25 rfl ?_
  refine jj_iconst dJ6_bitCount_0f7a4_26 (kk := ?_)
  refine jj_iushr dJ6_bitCount_0f7a4_27 ?_
  refine jj_iadd dJ6_bitCount_0f7a4_28 (by exact (bc_side n hn).2.2.1) ?_
  refine jj_ldcw dJ6_bitCount_0f7a4_29 kk_J6_267 (kk := ?_)
  refine jj_iand dJ6_bitCount_0f7a4_32 ?_
  refine jj_istore_n (ls' := [some (ji (jand (((jand ((n : Int) - (jand (jushr ((n : Int)) (1)) (1431655765))) (858993459)) + (jand (jushr ((n : Int) - (jand (jushr ((n : Int)) (1)) (1431655765))) (2)) (858993459))) + (jushr ((jand ((n : Int) - (jand (jushr ((n : Int)) (1)) (1431655765))) (858993459)) + (jand (jushr ((n : Int) - (jand (jushr ((n : Int)) (1)) (1431655765))) (2)) (858993459))) (4))) (252645135)))]) dJ6_bitCount_0f7a4_33 (by decide) rfl rfl ?_
  refine jj_iload_n dJ6_bitCount_0f7a4_34 rfl ?_
  refine jj_iload_n dJ6_bitCount_0f7a4_35 rfl ?_
  refine jj_bipush dJ6_bitCount_0f7a4_36 (kk := ?_)
  refine jj_iushr dJ6_bitCount_0f7a4_38 ?_
  refine jj_iadd dJ6_bitCount_0f7a4_39 (by exact (bc_side n hn).2.2.2.1) ?_
  refine jj_istore_n (ls' := [some (ji ((jand (((jand ((n : Int) - (jand (jushr ((n : Int)) (1)) (1431655765))) (858993459)) + (jand (jushr ((n : Int) - (jand (jushr ((n : Int)) (1)) (1431655765))) (2)) (858993459))) + (jushr ((jand ((n : Int) - (jand (jushr ((n : Int)) (1)) (1431655765))) (858993459)) + (jand (jushr ((n : Int) - (jand (jushr ((n : Int)) (1)) (1431655765))) (2)) (858993459))) (4))) (252645135)) + (jushr (jand (((jand ((n : Int) - (jand (jushr ((n : Int)) (1)) (1431655765))) (858993459)) + (jand (jushr ((n : Int) - (jand (jushr ((n : Int)) (1)) (1431655765))) (2)) (858993459))) + (jushr ((jand ((n : Int) - (jand (jushr ((n : Int)) (1)) (1431655765))) (858993459)) + (jand (jushr ((n : Int) - (jand (jushr ((n : Int)) (1)) (1431655765))) (2)) (858993459))) (4))) (252645135)) (8))))]) dJ6_bitCount_0f7a4_40 (by decide) rfl rfl ?_
  refine jj_iload_n dJ6_bitCount_0f7a4_41 rfl ?_
  refine jj_iload_n dJ6_bitCount_0f7a4_42 rfl ?_
  refine jj_bipush dJ6_bitCount_0f7a4_43 (kk := ?_)
  refine jj_iushr dJ6_bitCount_0f7a4_45 ?_
  refine jj_iadd dJ6_bitCount_0f7a4_46 (by exact (bc_side n hn).2.2.2.2.1) ?_
  refine jj_istore_n (ls' := [some (ji (((jand (((jand ((n : Int) - (jand (jushr ((n : Int)) (1)) (1431655765))) (858993459)) + (jand (jushr ((n : Int) - (jand (jushr ((n : Int)) (1)) (1431655765))) (2)) (858993459))) + (jushr ((jand ((n : Int) - (jand (jushr ((n : Int)) (1)) (1431655765))) (858993459)) + (jand (jushr ((n : Int) - (jand (jushr ((n : Int)) (1)) (1431655765))) (2)) (858993459))) (4))) (252645135)) + (jushr (jand (((jand ((n : Int) - (jand (jushr ((n : Int)) (1)) (1431655765))) (858993459)) + (jand (jushr ((n : Int) - (jand (jushr ((n : Int)) (1)) (1431655765))) (2)) (858993459))) + (jushr ((jand ((n : Int) - (jand (jushr ((n : Int)) (1)) (1431655765))) (858993459)) + (jand (jushr ((n : Int) - (jand (jushr ((n : Int)) (1)) (1431655765))) (2)) (858993459))) (4))) (252645135)) (8))) + (jushr ((jand (((jand ((n : Int) - (jand (jushr ((n : Int)) (1)) (1431655765))) (858993459)) + (jand (jushr ((n : Int) - (jand (jushr ((n : Int)) (1)) (1431655765))) (2)) (858993459))) + (jushr ((jand ((n : Int) - (jand (jushr ((n : Int)) (1)) (1431655765))) (858993459)) + (jand (jushr ((n : Int) - (jand (jushr ((n : Int)) (1)) (1431655765))) (2)) (858993459))) (4))) (252645135)) + (jushr (jand (((jand ((n : Int) - (jand (jushr ((n : Int)) (1)) (1431655765))) (858993459)) + (jand (jushr ((n : Int) - (jand (jushr ((n : Int)) (1)) (1431655765))) (2)) (858993459))) + (jushr ((jand ((n : Int) - (jand (jushr ((n : Int)) (1)) (1431655765))) (858993459)) + (jand (jushr ((n : Int) - (jand (jushr ((n : Int)) (1)) (1431655765))) (2)) (858993459))) (4))) (252645135)) (8))) (16))))]) dJ6_bitCount_0f7a4_47 (by decide) rfl rfl ?_
  refine jj_iload_n dJ6_bitCount_0f7a4_48 rfl ?_
  refine jj_bipush dJ6_bitCount_0f7a4_49 (kk := ?_)
  refine jj_iand dJ6_bitCount_0f7a4_51 ?_
  refine zz_retie dJ6_bitCount_0f7a4_52 rfl (by decide) ?_ ?_
  · exact (bc_side n hn).2.2.2.2.2
  · rfl

def v_X7_ahead (s : jz_St) (l n : Int) : Int := if (0 ≤ l ∧ l < s 344 2 ∧ l < 7) ∧ 0 ≤ n ∧ n ≤ 60 then (f_X5_passHours (f_X5_take s 358 344) 358 n.toNat) (358 + 3 + l.toNat) 5 else -1000001
def f_X7_ahead (s : jz_St) (l n : Int) : jz_St := if (0 ≤ l ∧ l < s 344 2 ∧ l < 7) ∧ 0 ≤ n ∧ n ≤ 60 then f_X5_passHours (f_X5_take s 358 344) 358 n.toNat else f_X5_take s 358 344
set_option maxRecDepth 100000 in
set_option maxHeartbeats 4000000 in
theorem c_X7_ahead (g : jz_G) (s : jz_St) (l n : Int) (hI : jInv s)  : jz_C g mX7_ahead [jr (0), ji (l), ji (n)] s (jq_ie (v_X7_ahead s l n) (f_X7_ahead s l n)) := by
  refine zz_C_of koX7_ahead rfl (Nat.le_of_ble_eq_true rfl) ?_
  refine zz_pad 1 ?_
  show jz_Z g mX7_ahead (jq_ie (v_X7_ahead s l n) (f_X7_ahead s l n)) 0 [some (jr (0)), some (ji (l)), some (ji (n)), none] [] s
  obtain ⟨hN, hH, hP1, hP2, hT, hRw⟩ := hI
  have hTR := take_rng (s := s) (k := 358) (by decide) hN
  have hT2 : f_X5_take s 358 344 358 2 = s 344 2 := take_k s (by decide) (by decide) (by decide)
  have hT3 : f_X5_take s 358 344 358 3 = s 344 3 := take_k s (by decide) (by decide) (by decide)
  have hN5 := hN.2.2.2.2.1
  refine jj_aload_n dX7_ahead_0 rfl ?_
  refine zz_getR dX7_ahead_1 kf_X7_43 tt0 rfl ?_
  refine jj_aload_n dX7_ahead_4 rfl ?_
  refine zz_getR dX7_ahead_5 kf_X7_39 tt0 rfl ?_
  refine jj_iload_n dX7_ahead_8 rfl ?_
  refine zz_cVr (av := [jr (344), ji (l)]) (st' := []) dX7_ahead_9 kn_X7_206 kmX5_leafIn tt358 rfl rfl rfl (Nat.le_of_ble_eq_true rfl) (by decide) rfl (c_X5_leafIn g s 358 344 tt358 tt344 l) (fun ho9 => ?_)
  by_cases hc9 : 0 ≤ l ∧ l < (f_X5_take s 358 344) 358 2 ∧ l < 7
  · refine jj_topO (o' := some (358 + 3 + l.toNat)) (if_pos hc9) ?_
    refine jj_astore_n (ls' := [some (jr (0)), some (ji (l)), some (ji (n)), some (jr (358 + 3 + l.toNat))]) dX7_ahead_12 (by decide) rfl rfl ?_
    refine jj_aload_n dX7_ahead_13 rfl ?_
    refine jj_ifnull (o := some (358 + 3 + l.toNat)) (tgt := 27) dX7_ahead_14 (by decide) (fun h => by cases h) (fun _ _ => ?_)
    refine jj_iload_n dX7_ahead_17 rfl ?_
    refine jj_iconst dX7_ahead_18 (kk := ?_)
    refine jj_bipush dX7_ahead_19 (kk := ?_)
    refine zz_cSi (av := [ji (n), ji (0), ji (60)]) (st' := []) dX7_ahead_21 kn_X7_57 kmX7_isWithin rfl rfl (Nat.le_of_ble_eq_true rfl) (by decide) rfl (c_X7_isWithin g (f_X5_take s 358 344) n 0 60) (fun hr21 ho21 => ?_)
    refine jj_if_ne (tgt := 30) dX7_ahead_24 (by decide) (fun h24 => ?_) (fun h24 => ?_)
    · have hg24 := bz_t h24
      refine jj_aload_n dX7_ahead_30 rfl ?_
      refine zz_getR dX7_ahead_31 kf_X7_43 tt0 rfl ?_
      refine jj_iload_n dX7_ahead_34 rfl ?_
      refine zz_cVv (av := [ji (n)]) (st' := []) dX7_ahead_35 kn_X7_210 kmX5_passHours tt358 rfl rfl rfl (Nat.le_of_ble_eq_true rfl) (by decide) rfl (by have q := c_X5_passHours g (f_X5_take s 358 344) 358 tt358 (n).toNat (s 344 6) (by omega) hTR; rw [Int.toNat_of_nonneg (by omega)] at q; exact q) (fun ho35 => ?_)
      refine jj_aload_n dX7_ahead_38 rfl ?_
      refine zz_getI dX7_ahead_39 kf_X7_168 (jz_t_leaf tt358 (by omega)) rfl rfl ?_
      refine zz_retie dX7_ahead_42 rfl (by decide) ?_ ?_
      · unfold v_X7_ahead; (repeat (first | rw [if_pos (by omega)] | rw [if_neg (by omega)])) <;> first | rfl | done
      · unfold f_X7_ahead; (repeat (first | rw [if_pos (by omega)] | rw [if_neg (by omega)])) <;> first | rfl | done
    · have hg24 := bz_f h24
      refine jj_ldc dX7_ahead_27 kk_X7_61 (kk := ?_)
      refine zz_retie dX7_ahead_29 rfl (by decide) ?_ ?_
      · unfold v_X7_ahead; (repeat (first | rw [if_pos (by omega)] | rw [if_neg (by omega)])) <;> first | rfl | done
      · unfold f_X7_ahead; (repeat (first | rw [if_pos (by omega)] | rw [if_neg (by omega)])) <;> first | rfl | done
  · refine jj_topO (o' := none) (if_neg hc9) ?_
    refine jj_astore_nO (ls' := [some (jr (0)), some (ji (l)), some (ji (n)), some (jn)]) dX7_ahead_12 (by decide) rfl rfl ?_
    refine jj_aload_nO dX7_ahead_13 rfl ?_
    refine jj_ifnull (o := none) (tgt := 27) dX7_ahead_14 (by decide) (fun _ => ?_) (fun _ h => by cases h)
    refine jj_ldc dX7_ahead_27 kk_X7_61 (kk := ?_)
    refine zz_retie dX7_ahead_29 rfl (by decide) ?_ ?_
    · unfold v_X7_ahead; (repeat (first | rw [if_pos (by omega)] | rw [if_neg (by omega)])) <;> first | rfl | done
    · unfold f_X7_ahead; (repeat (first | rw [if_pos (by omega)] | rw [if_neg (by omega)])) <;> first | rfl | done

def v_X7_force (s : jz_St) (n : Int) : Int := if s 344 2 ≤ 0 then -1000002 else if 0 ≤ n ∧ n ≤ 60 then fIF (f_X5_passHours (f_X5_take s 358 344) 358 n.toNat) 358 7 else -1000001
def f_X7_force (s : jz_St) (n : Int) : jz_St := if s 344 2 ≤ 0 then s else if 0 ≤ n ∧ n ≤ 60 then f_X5_passHours (f_X5_take s 358 344) 358 n.toNat else s
set_option maxRecDepth 100000 in
set_option maxHeartbeats 4000000 in
theorem c_X7_force (g : jz_G) (s : jz_St) (n : Int) (hI : jInv s)  : jz_C g mX7_force [jr (0), ji (n)] s (jq_ie (v_X7_force s n) (f_X7_force s n)) := by
  refine zz_C_of koX7_force rfl (Nat.le_of_ble_eq_true rfl) ?_
  refine zz_pad 0 ?_
  show jz_Z g mX7_force (jq_ie (v_X7_force s n) (f_X7_force s n)) 0 [some (jr (0)), some (ji (n))] [] s
  obtain ⟨hN, hH, hP1, hP2, hT, hRw⟩ := hI
  have hTR := take_rng (s := s) (k := 358) (by decide) hN
  have hT2 : f_X5_take s 358 344 358 2 = s 344 2 := take_k s (by decide) (by decide) (by decide)
  have hT3 : f_X5_take s 358 344 358 3 = s 344 3 := take_k s (by decide) (by decide) (by decide)
  have hN5 := hN.2.2.2.2.1
  refine jj_aload_n dX7_force_0 rfl ?_
  refine zz_getR dX7_force_1 kf_X7_39 tt0 rfl ?_
  refine zz_cVi (av := []) (st' := []) dX7_force_4 kn_X7_139 kmX5_isThere tt344 rfl rfl rfl (Nat.le_of_ble_eq_true rfl) (by decide) rfl (c_X5_isThere g s 344 tt344) (fun hr4 ho4 => ?_)
  refine jj_if_ne (tgt := 13) dX7_force_7 (by decide) (fun h7 => ?_) (fun h7 => ?_)
  · have hg7 := by_t h7
    refine jj_iload_n dX7_force_13 rfl ?_
    refine jj_iconst dX7_force_14 (kk := ?_)
    refine jj_bipush dX7_force_15 (kk := ?_)
    refine zz_cSi (av := [ji (n), ji (0), ji (60)]) (st' := []) dX7_force_17 kn_X7_57 kmX7_isWithin rfl rfl (Nat.le_of_ble_eq_true rfl) (by decide) rfl (c_X7_isWithin g s n 0 60) (fun hr17 ho17 => ?_)
    refine jj_if_ne (tgt := 26) dX7_force_20 (by decide) (fun h20 => ?_) (fun h20 => ?_)
    · have hg20 := bz_t h20
      refine jj_aload_n dX7_force_26 rfl ?_
      refine zz_getR dX7_force_27 kf_X7_43 tt0 rfl ?_
      refine jj_aload_n dX7_force_30 rfl ?_
      refine zz_getR dX7_force_31 kf_X7_39 tt0 rfl ?_
      refine zz_cVv (av := [jr (344)]) (st' := []) dX7_force_34 kn_X7_122 kmX5_take tt358 rfl rfl rfl (Nat.le_of_ble_eq_true rfl) (by decide) rfl (c_X5_take g s 358 344 tt358 tt344) (fun ho34 => ?_)
      refine jj_aload_n dX7_force_37 rfl ?_
      refine zz_getR dX7_force_38 kf_X7_43 tt0 rfl ?_
      refine jj_iload_n dX7_force_41 rfl ?_
      refine zz_cVv (av := [ji (n)]) (st' := []) dX7_force_42 kn_X7_210 kmX5_passHours tt358 rfl rfl rfl (Nat.le_of_ble_eq_true rfl) (by decide) rfl (by have q := c_X5_passHours g (f_X5_take s 358 344) 358 tt358 (n).toNat (s 344 6) (by omega) hTR; rw [Int.toNat_of_nonneg (by omega)] at q; exact q) (fun ho42 => ?_)
      refine jj_aload_n dX7_force_45 rfl ?_
      refine zz_getR dX7_force_46 kf_X7_43 tt0 rfl ?_
      refine zz_cVi (av := []) (st' := []) dX7_force_49 kn_X7_214 kmX5_inForce tt358 rfl rfl rfl (Nat.le_of_ble_eq_true rfl) (by decide) rfl (c_X5_inForce g (f_X5_passHours (f_X5_take s 358 344) 358 (n).toNat) 358 tt358 (jRng_if (passHours_rng hTR n.toNat))) (fun hr49 ho49 => ?_)
      refine zz_retie dX7_force_52 rfl (by decide) ?_ ?_
      · unfold v_X7_force; (repeat (first | rw [if_pos (by omega)] | rw [if_neg (by omega)])) <;> first | rfl | done
      · unfold f_X7_force; (repeat (first | rw [if_pos (by omega)] | rw [if_neg (by omega)])) <;> first | rfl | done
    · have hg20 := bz_f h20
      refine jj_ldc dX7_force_23 kk_X7_61 (kk := ?_)
      refine zz_retie dX7_force_25 rfl (by decide) ?_ ?_
      · unfold v_X7_force; (repeat (first | rw [if_pos (by omega)] | rw [if_neg (by omega)])) <;> first | rfl | done
      · unfold f_X7_force; (repeat (first | rw [if_pos (by omega)] | rw [if_neg (by omega)])) <;> first | rfl | done
  · have hg7 := by_f h7
    refine jj_ldc dX7_force_10 kk_X7_138 (kk := ?_)
    refine zz_retie dX7_force_12 rfl (by decide) ?_ ?_
    · unfold v_X7_force; (repeat (first | rw [if_pos (by omega)] | rw [if_neg (by omega)])) <;> first | rfl | done
    · unfold f_X7_force; (repeat (first | rw [if_pos (by omega)] | rw [if_neg (by omega)])) <;> first | rfl | done

def fEmp (s : jz_St) (k a : Nat) : Nat → Nat → Int × jz_St
  | _, 0 => (-1000000, s)
  | i, m + 1 => if s a 5 ≤ 0 then (i, s) else fEmp (f_X5_passHour s k) k a (i + 1) m
def v_X7_emptied (s : jz_St) (l : Int) : Int := if (0 ≤ l ∧ l < s 344 2 ∧ l < 7) then (fEmp (f_X5_take s 358 344) 358 (358 + 3 + l.toNat) 0 61).1 else -1000001
def f_X7_emptied (s : jz_St) (l : Int) : jz_St := if (0 ≤ l ∧ l < s 344 2 ∧ l < 7) then (fEmp (f_X5_take s 358 344) 358 (358 + 3 + l.toNat) 0 61).2 else f_X5_take s 358 344
set_option maxRecDepth 100000 in
set_option maxHeartbeats 4000000 in
theorem c_X7_emptied (g : jz_G) (s : jz_St) (l : Int) (hI : jInv s)  : jz_C g mX7_emptied [jr (0), ji (l)] s (jq_ie (v_X7_emptied s l) (f_X7_emptied s l)) := by
  refine zz_C_of koX7_emptied rfl (Nat.le_of_ble_eq_true rfl) ?_
  refine zz_pad 2 ?_
  show jz_Z g mX7_emptied (jq_ie (v_X7_emptied s l) (f_X7_emptied s l)) 0 [some (jr (0)), some (ji (l)), none, none] [] s
  obtain ⟨hN, hH, hP1, hP2, hT, hRw⟩ := hI
  have hTR := take_rng (s := s) (k := 358) (by decide) hN
  have hT2 : f_X5_take s 358 344 358 2 = s 344 2 := take_k s (by decide) (by decide) (by decide)
  have hT3 : f_X5_take s 358 344 358 3 = s 344 3 := take_k s (by decide) (by decide) (by decide)
  have hN5 := hN.2.2.2.2.1
  refine jj_aload_n dX7_emptied_0 rfl ?_
  refine zz_getR dX7_emptied_1 kf_X7_43 tt0 rfl ?_
  refine jj_aload_n dX7_emptied_4 rfl ?_
  refine zz_getR dX7_emptied_5 kf_X7_39 tt0 rfl ?_
  refine jj_iload_n dX7_emptied_8 rfl ?_
  refine zz_cVr (av := [jr (344), ji (l)]) (st' := []) dX7_emptied_9 kn_X7_206 kmX5_leafIn tt358 rfl rfl rfl (Nat.le_of_ble_eq_true rfl) (by decide) rfl (c_X5_leafIn g s 358 344 tt358 tt344 l) (fun ho9 => ?_)
  by_cases hc9 : 0 ≤ l ∧ l < (f_X5_take s 358 344) 358 2 ∧ l < 7
  · refine jj_topO (o' := some (358 + 3 + l.toNat)) (if_pos hc9) ?_
    refine jj_astore_n (ls' := [some (jr (0)), some (ji (l)), some (jr (358 + 3 + l.toNat)), none]) dX7_emptied_12 (by decide) rfl rfl ?_
    refine jj_aload_n dX7_emptied_13 rfl ?_
    refine jj_ifnonnull (o := some (358 + 3 + l.toNat)) (tgt := 20) dX7_emptied_14 (by decide) (fun _ _ => ?_) (fun h => by cases h)
    refine jj_iconst dX7_emptied_20 (kk := ?_)
    refine jj_istore_n (ls' := [some (jr (0)), some (ji (l)), some (jr (358 + 3 + l.toNat)), some (ji (0))]) dX7_emptied_21 (by decide) rfl rfl ?_
    have L22 : ∀ (nn : Nat) (j : Nat) (s' : jz_St) (hh22_0 : j ≤ 61) (hh22_1 : fEmp (f_X5_take s 358 344) 358 (358 + 3 + l.toNat) 0 61 = fEmp s' 358 (358 + 3 + l.toNat) j (61 - j)) (hh22_2 : jRng s' 358 (s 344 6 + 9 * j)), 61 - j < nn → jz_Z g mX7_emptied (jq_ie (v_X7_emptied s l) (f_X7_emptied s l)) 22 [some (jr (0)), some (ji (l)), some (jr (358 + 3 + l.toNat)), some (ji ((j : Int)))] [] s' := by
      intro nn
      induction nn with
      | zero => intro j s' hh22_0 hh22_1 hh22_2 hmz; exact absurd hmz (Nat.not_lt_zero _)
      | succ nn ih22 =>
        intro j s' hh22_0 hh22_1 hh22_2 hm22
        refine jj_iload_n dX7_emptied_22 rfl ?_
        refine jj_bipush dX7_emptied_23 (kk := ?_)
        refine jj_icmp_gt (tgt := 51) dX7_emptied_25 (by decide) (fun h25 => ?_) (fun h25 => ?_)
        · refine jj_ldc dX7_emptied_51 kk_X7_202 (kk := ?_)
          refine zz_retie dX7_emptied_53 rfl (by decide) ?_ ?_
          · unfold v_X7_emptied; rw [if_pos (by omega), hh22_1, show 61 - j = 0 by omega]; rfl
          · unfold f_X7_emptied; rw [if_pos (by omega), hh22_1, show 61 - j = 0 by omega]; rfl
        · refine jj_aload_n dX7_emptied_28 rfl ?_
          refine zz_cVi (av := []) (st' := []) dX7_emptied_29 kn_X7_157 kmX1_isVoid (jz_t_leaf tt358 (by omega)) rfl rfl rfl (Nat.le_of_ble_eq_true rfl) (by decide) rfl (c_X1_isVoid g s' (358 + 3 + l.toNat) (jz_t_leaf tt358 (by omega))) (fun hr29 ho29 => ?_)
          refine jj_if_eq (tgt := 37) dX7_emptied_32 (by decide) (fun h32 => ?_) (fun h32 => ?_)
          · have hg32 := bz_f h32
            refine jj_aload_n dX7_emptied_37 rfl ?_
            refine zz_getR dX7_emptied_38 kf_X7_43 tt0 rfl ?_
            refine zz_cVi (av := []) (st' := []) dX7_emptied_41 kn_X7_149 kmX5_passHour tt358 rfl rfl rfl (Nat.le_of_ble_eq_true rfl) (by decide) rfl (c_X5_passHour g s' 358 tt358 (s 344 6 + 9 * j) (by omega) hh22_2) (fun hr41 ho41 => ?_)
            refine jj_pop dX7_emptied_44 (kk := ?_)
            refine jj_iinc (ls' := [some (jr (0)), some (ji (l)), some (jr (358 + 3 + l.toNat)), some (ji ((j : Int) + 1))]) dX7_emptied_45 rfl (by decide) rfl (by omega) rfl ?_
            refine jj_goto (tgt := 22) dX7_emptied_48 (by decide) ?_
            exact ih22 (j + 1) (f_X5_passHour s' 358) (by omega) (by rw [hh22_1, show 61 - j = (61 - (j + 1)) + 1 by omega]; simp only [fEmp]; rw [if_neg hg32]) (by exact jRng_mono (passHour_rng hh22_2) (by omega)) (by omega)
          · have hg32 := bz_t h32
            refine jj_iload_n dX7_emptied_35 rfl ?_
            refine zz_retie dX7_emptied_36 rfl (by decide) ?_ ?_
            · unfold v_X7_emptied; rw [if_pos (by omega), hh22_1, show 61 - j = (61 - (j + 1)) + 1 by omega]; simp only [fEmp]; rw [if_pos hg32]
            · unfold f_X7_emptied; rw [if_pos (by omega), hh22_1, show 61 - j = (61 - (j + 1)) + 1 by omega]; simp only [fEmp]; rw [if_pos hg32]
    exact L22 _ 0 (f_X5_take s 358 344) (by omega) (by rfl) (by simpa using hTR) (Nat.lt_succ_self _)
  · refine jj_topO (o' := none) (if_neg hc9) ?_
    refine jj_astore_nO (ls' := [some (jr (0)), some (ji (l)), some (jn), none]) dX7_emptied_12 (by decide) rfl rfl ?_
    refine jj_aload_nO dX7_emptied_13 rfl ?_
    refine jj_ifnonnull (o := none) (tgt := 20) dX7_emptied_14 (by decide) (fun _ h => by cases h) (fun _ => ?_)
    refine jj_ldc dX7_emptied_17 kk_X7_61 (kk := ?_)
    refine zz_retie dX7_emptied_19 rfl (by decide) ?_ ?_
    · unfold v_X7_emptied; (repeat (first | rw [if_pos (by omega)] | rw [if_neg (by omega)])) <;> first | rfl | done
    · unfold f_X7_emptied; (repeat (first | rw [if_pos (by omega)] | rw [if_neg (by omega)])) <;> first | rfl | done

def v_X7_eats (s : jz_St) (c n : Int) : Int := if (0 ≤ c ∧ c < s 344 3 ∧ c < 4) ∧ 0 ≤ n ∧ n ≤ 60 then (f_X5_passHours (f_X5_take s 358 344) 358 n.toNat) (358 + 10 + c.toNat) 4 else -1000001
def f_X7_eats (s : jz_St) (c n : Int) : jz_St := if (0 ≤ c ∧ c < s 344 3 ∧ c < 4) ∧ 0 ≤ n ∧ n ≤ 60 then f_X5_passHours (f_X5_take s 358 344) 358 n.toNat else f_X5_take s 358 344
set_option maxRecDepth 100000 in
set_option maxHeartbeats 4000000 in
theorem c_X7_eats (g : jz_G) (s : jz_St) (c n : Int) (hI : jInv s)  : jz_C g mX7_eats [jr (0), ji (c), ji (n)] s (jq_ie (v_X7_eats s c n) (f_X7_eats s c n)) := by
  refine zz_C_of koX7_eats rfl (Nat.le_of_ble_eq_true rfl) ?_
  refine zz_pad 1 ?_
  show jz_Z g mX7_eats (jq_ie (v_X7_eats s c n) (f_X7_eats s c n)) 0 [some (jr (0)), some (ji (c)), some (ji (n)), none] [] s
  obtain ⟨hN, hH, hP1, hP2, hT, hRw⟩ := hI
  have hTR := take_rng (s := s) (k := 358) (by decide) hN
  have hT2 : f_X5_take s 358 344 358 2 = s 344 2 := take_k s (by decide) (by decide) (by decide)
  have hT3 : f_X5_take s 358 344 358 3 = s 344 3 := take_k s (by decide) (by decide) (by decide)
  have hN5 := hN.2.2.2.2.1
  refine jj_aload_n dX7_eats_0 rfl ?_
  refine zz_getR dX7_eats_1 kf_X7_43 tt0 rfl ?_
  refine jj_aload_n dX7_eats_4 rfl ?_
  refine zz_getR dX7_eats_5 kf_X7_39 tt0 rfl ?_
  refine zz_cVv (av := [jr (344)]) (st' := []) dX7_eats_8 kn_X7_122 kmX5_take tt358 rfl rfl rfl (Nat.le_of_ble_eq_true rfl) (by decide) rfl (c_X5_take g s 358 344 tt358 tt344) (fun ho8 => ?_)
  refine jj_aload_n dX7_eats_11 rfl ?_
  refine zz_getR dX7_eats_12 kf_X7_43 tt0 rfl ?_
  refine jj_iload_n dX7_eats_15 rfl ?_
  refine zz_cVr (av := [ji (c)]) (st' := []) dX7_eats_16 kn_X7_174 kmX5_goatAt tt358 rfl rfl rfl (Nat.le_of_ble_eq_true rfl) (by decide) rfl (c_X5_goatAt g (f_X5_take s 358 344) 358 tt358 c) (fun ho16 => ?_)
  by_cases hc16 : 0 ≤ c ∧ c < (f_X5_take s 358 344) 358 3 ∧ c < 4
  · refine jj_topO (o' := some (358 + 10 + c.toNat)) (if_pos hc16) ?_
    refine jj_astore_n (ls' := [some (jr (0)), some (ji (c)), some (ji (n)), some (jr (358 + 10 + c.toNat))]) dX7_eats_19 (by decide) rfl rfl ?_
    refine jj_aload_n dX7_eats_20 rfl ?_
    refine jj_ifnull (o := some (358 + 10 + c.toNat)) (tgt := 34) dX7_eats_21 (by decide) (fun h => by cases h) (fun _ _ => ?_)
    refine jj_iload_n dX7_eats_24 rfl ?_
    refine jj_iconst dX7_eats_25 (kk := ?_)
    refine jj_bipush dX7_eats_26 (kk := ?_)
    refine zz_cSi (av := [ji (n), ji (0), ji (60)]) (st' := []) dX7_eats_28 kn_X7_57 kmX7_isWithin rfl rfl (Nat.le_of_ble_eq_true rfl) (by decide) rfl (c_X7_isWithin g (f_X5_take s 358 344) n 0 60) (fun hr28 ho28 => ?_)
    refine jj_if_ne (tgt := 37) dX7_eats_31 (by decide) (fun h31 => ?_) (fun h31 => ?_)
    · have hg31 := bz_t h31
      refine jj_aload_n dX7_eats_37 rfl ?_
      refine zz_getR dX7_eats_38 kf_X7_43 tt0 rfl ?_
      refine jj_iload_n dX7_eats_41 rfl ?_
      refine zz_cVv (av := [ji (n)]) (st' := []) dX7_eats_42 kn_X7_210 kmX5_passHours tt358 rfl rfl rfl (Nat.le_of_ble_eq_true rfl) (by decide) rfl (by have q := c_X5_passHours g (f_X5_take s 358 344) 358 tt358 (n).toNat (s 344 6) (by omega) hTR; rw [Int.toNat_of_nonneg (by omega)] at q; exact q) (fun ho42 => ?_)
      refine jj_aload_n dX7_eats_45 rfl ?_
      refine zz_getI dX7_eats_46 kf_X7_217 (jz_t_goat tt358 (by omega)) rfl rfl ?_
      refine zz_retie dX7_eats_49 rfl (by decide) ?_ ?_
      · unfold v_X7_eats; (repeat (first | rw [if_pos (by omega)] | rw [if_neg (by omega)])) <;> first | rfl | done
      · unfold f_X7_eats; (repeat (first | rw [if_pos (by omega)] | rw [if_neg (by omega)])) <;> first | rfl | done
    · have hg31 := bz_f h31
      refine jj_ldc dX7_eats_34 kk_X7_61 (kk := ?_)
      refine zz_retie dX7_eats_36 rfl (by decide) ?_ ?_
      · unfold v_X7_eats; (repeat (first | rw [if_pos (by omega)] | rw [if_neg (by omega)])) <;> first | rfl | done
      · unfold f_X7_eats; (repeat (first | rw [if_pos (by omega)] | rw [if_neg (by omega)])) <;> first | rfl | done
  · refine jj_topO (o' := none) (if_neg hc16) ?_
    refine jj_astore_nO (ls' := [some (jr (0)), some (ji (c)), some (ji (n)), some (jn)]) dX7_eats_19 (by decide) rfl rfl ?_
    refine jj_aload_nO dX7_eats_20 rfl ?_
    refine jj_ifnull (o := none) (tgt := 34) dX7_eats_21 (by decide) (fun _ => ?_) (fun _ h => by cases h)
    refine jj_ldc dX7_eats_34 kk_X7_61 (kk := ?_)
    refine zz_retie dX7_eats_36 rfl (by decide) ?_ ?_
    · unfold v_X7_eats; (repeat (first | rw [if_pos (by omega)] | rw [if_neg (by omega)])) <;> first | rfl | done
    · unfold f_X7_eats; (repeat (first | rw [if_pos (by omega)] | rw [if_neg (by omega)])) <;> first | rfl | done

def v_X7_guilt (s : jz_St) (l n : Int) : Int := if (0 ≤ l ∧ l < s 344 2 ∧ l < 7) ∧ 1 ≤ n ∧ n ≤ 60 then (f_X5_passHours (f_X5_take s 358 344) 358 n.toNat) (358 + 3 + l.toNat) 6 else -1000001
def f_X7_guilt (s : jz_St) (l n : Int) : jz_St := if (0 ≤ l ∧ l < s 344 2 ∧ l < 7) ∧ 1 ≤ n ∧ n ≤ 60 then f_X5_passHours (f_X5_take s 358 344) 358 n.toNat else f_X5_take s 358 344
set_option maxRecDepth 100000 in
set_option maxHeartbeats 4000000 in
theorem c_X7_guilt (g : jz_G) (s : jz_St) (l n : Int) (hI : jInv s)  : jz_C g mX7_guilt [jr (0), ji (l), ji (n)] s (jq_ie (v_X7_guilt s l n) (f_X7_guilt s l n)) := by
  refine zz_C_of koX7_guilt rfl (Nat.le_of_ble_eq_true rfl) ?_
  refine zz_pad 1 ?_
  show jz_Z g mX7_guilt (jq_ie (v_X7_guilt s l n) (f_X7_guilt s l n)) 0 [some (jr (0)), some (ji (l)), some (ji (n)), none] [] s
  obtain ⟨hN, hH, hP1, hP2, hT, hRw⟩ := hI
  have hTR := take_rng (s := s) (k := 358) (by decide) hN
  have hT2 : f_X5_take s 358 344 358 2 = s 344 2 := take_k s (by decide) (by decide) (by decide)
  have hT3 : f_X5_take s 358 344 358 3 = s 344 3 := take_k s (by decide) (by decide) (by decide)
  have hN5 := hN.2.2.2.2.1
  refine jj_aload_n dX7_guilt_0 rfl ?_
  refine zz_getR dX7_guilt_1 kf_X7_43 tt0 rfl ?_
  refine jj_aload_n dX7_guilt_4 rfl ?_
  refine zz_getR dX7_guilt_5 kf_X7_39 tt0 rfl ?_
  refine jj_iload_n dX7_guilt_8 rfl ?_
  refine zz_cVr (av := [jr (344), ji (l)]) (st' := []) dX7_guilt_9 kn_X7_206 kmX5_leafIn tt358 rfl rfl rfl (Nat.le_of_ble_eq_true rfl) (by decide) rfl (c_X5_leafIn g s 358 344 tt358 tt344 l) (fun ho9 => ?_)
  by_cases hc9 : 0 ≤ l ∧ l < (f_X5_take s 358 344) 358 2 ∧ l < 7
  · refine jj_topO (o' := some (358 + 3 + l.toNat)) (if_pos hc9) ?_
    refine jj_astore_n (ls' := [some (jr (0)), some (ji (l)), some (ji (n)), some (jr (358 + 3 + l.toNat))]) dX7_guilt_12 (by decide) rfl rfl ?_
    refine jj_aload_n dX7_guilt_13 rfl ?_
    refine jj_ifnull (o := some (358 + 3 + l.toNat)) (tgt := 27) dX7_guilt_14 (by decide) (fun h => by cases h) (fun _ _ => ?_)
    refine jj_iload_n dX7_guilt_17 rfl ?_
    refine jj_iconst dX7_guilt_18 (kk := ?_)
    refine jj_bipush dX7_guilt_19 (kk := ?_)
    refine zz_cSi (av := [ji (n), ji (1), ji (60)]) (st' := []) dX7_guilt_21 kn_X7_57 kmX7_isWithin rfl rfl (Nat.le_of_ble_eq_true rfl) (by decide) rfl (c_X7_isWithin g (f_X5_take s 358 344) n 1 60) (fun hr21 ho21 => ?_)
    refine jj_if_ne (tgt := 30) dX7_guilt_24 (by decide) (fun h24 => ?_) (fun h24 => ?_)
    · have hg24 := bz_t h24
      refine jj_aload_n dX7_guilt_30 rfl ?_
      refine zz_getR dX7_guilt_31 kf_X7_43 tt0 rfl ?_
      refine jj_iload_n dX7_guilt_34 rfl ?_
      refine zz_cVv (av := [ji (n)]) (st' := []) dX7_guilt_35 kn_X7_210 kmX5_passHours tt358 rfl rfl rfl (Nat.le_of_ble_eq_true rfl) (by decide) rfl (by have q := c_X5_passHours g (f_X5_take s 358 344) 358 tt358 (n).toNat (s 344 6) (by omega) hTR; rw [Int.toNat_of_nonneg (by omega)] at q; exact q) (fun ho35 => ?_)
      refine jj_aload_n dX7_guilt_38 rfl ?_
      refine zz_getI dX7_guilt_39 kf_X7_220 (jz_t_leaf tt358 (by omega)) rfl rfl ?_
      refine zz_retie dX7_guilt_42 rfl (by decide) ?_ ?_
      · unfold v_X7_guilt; (repeat (first | rw [if_pos (by omega)] | rw [if_neg (by omega)])) <;> first | rfl | done
      · unfold f_X7_guilt; (repeat (first | rw [if_pos (by omega)] | rw [if_neg (by omega)])) <;> first | rfl | done
    · have hg24 := bz_f h24
      refine jj_ldc dX7_guilt_27 kk_X7_61 (kk := ?_)
      refine zz_retie dX7_guilt_29 rfl (by decide) ?_ ?_
      · unfold v_X7_guilt; (repeat (first | rw [if_pos (by omega)] | rw [if_neg (by omega)])) <;> first | rfl | done
      · unfold f_X7_guilt; (repeat (first | rw [if_pos (by omega)] | rw [if_neg (by omega)])) <;> first | rfl | done
  · refine jj_topO (o' := none) (if_neg hc9) ?_
    refine jj_astore_nO (ls' := [some (jr (0)), some (ji (l)), some (ji (n)), some (jn)]) dX7_guilt_12 (by decide) rfl rfl ?_
    refine jj_aload_nO dX7_guilt_13 rfl ?_
    refine jj_ifnull (o := none) (tgt := 27) dX7_guilt_14 (by decide) (fun _ => ?_) (fun _ h => by cases h)
    refine jj_ldc dX7_guilt_27 kk_X7_61 (kk := ?_)
    refine zz_retie dX7_guilt_29 rfl (by decide) ?_ ?_
    · unfold v_X7_guilt; (repeat (first | rw [if_pos (by omega)] | rw [if_neg (by omega)])) <;> first | rfl | done
    · unfold f_X7_guilt; (repeat (first | rw [if_pos (by omega)] | rw [if_neg (by omega)])) <;> first | rfl | done

def fGap (s : jz_St) (k : Nat) (w : Int) : Nat → Nat → Int × jz_St
  | _, 0 => (-1000000, s)
  | i, m + 1 => if jand (fIF s k 7) w = 0 then (i, s) else fGap (f_X5_passHour s k) k w (i + 1) m
def v_X7_gap (s : jz_St) (w : Int) : Int := if s 344 2 ≤ 0 then -1000002 else if (0 ≤ w ∧ w < jshl 1 (s 344 2)) then (fGap (f_X5_take s 358 344) 358 w 0 61).1 else -1000001
def f_X7_gap (s : jz_St) (w : Int) : jz_St := if s 344 2 ≤ 0 then s else if (0 ≤ w ∧ w < jshl 1 (s 344 2)) then (fGap (f_X5_take s 358 344) 358 w 0 61).2 else s
set_option maxRecDepth 100000 in
set_option maxHeartbeats 4000000 in
theorem c_X7_gap (g : jz_G) (s : jz_St) (w : Int) (hI : jInv s)  : jz_C g mX7_gap [jr (0), ji (w)] s (jq_ie (v_X7_gap s w) (f_X7_gap s w)) := by
  refine zz_C_of koX7_gap rfl (Nat.le_of_ble_eq_true rfl) ?_
  refine zz_pad 1 ?_
  show jz_Z g mX7_gap (jq_ie (v_X7_gap s w) (f_X7_gap s w)) 0 [some (jr (0)), some (ji (w)), none] [] s
  obtain ⟨hN, hH, hP1, hP2, hT, hRw⟩ := hI
  have hTR := take_rng (s := s) (k := 358) (by decide) hN
  have hT2 : f_X5_take s 358 344 358 2 = s 344 2 := take_k s (by decide) (by decide) (by decide)
  have hT3 : f_X5_take s 358 344 358 3 = s 344 3 := take_k s (by decide) (by decide) (by decide)
  have hN5 := hN.2.2.2.2.1
  refine jj_aload_n dX7_gap_0 rfl ?_
  refine zz_getR dX7_gap_1 kf_X7_39 tt0 rfl ?_
  refine zz_cVi (av := []) (st' := []) dX7_gap_4 kn_X7_139 kmX5_isThere tt344 rfl rfl rfl (Nat.le_of_ble_eq_true rfl) (by decide) rfl (c_X5_isThere g s 344 tt344) (fun hr4 ho4 => ?_)
  refine jj_if_ne (tgt := 13) dX7_gap_7 (by decide) (fun h7 => ?_) (fun h7 => ?_)
  · have hg7 := by_t h7
    refine jj_aload_n dX7_gap_13 rfl ?_
    refine zz_getR dX7_gap_14 kf_X7_39 tt0 rfl ?_
    refine jj_iload_n dX7_gap_17 rfl ?_
    refine zz_cVi (av := [ji (w)]) (st' := []) dX7_gap_18 kn_X7_223 kmX5_hasLeaves tt344 rfl rfl rfl (Nat.le_of_ble_eq_true rfl) (by decide) rfl (c_X5_hasLeaves g s 344 tt344 w) (fun hr18 ho18 => ?_)
    refine jj_if_ne (tgt := 27) dX7_gap_21 (by decide) (fun h21 => ?_) (fun h21 => ?_)
    · have hg21 := bz_t h21
      refine jj_aload_n dX7_gap_27 rfl ?_
      refine zz_getR dX7_gap_28 kf_X7_43 tt0 rfl ?_
      refine jj_aload_n dX7_gap_31 rfl ?_
      refine zz_getR dX7_gap_32 kf_X7_39 tt0 rfl ?_
      refine zz_cVv (av := [jr (344)]) (st' := []) dX7_gap_35 kn_X7_122 kmX5_take tt358 rfl rfl rfl (Nat.le_of_ble_eq_true rfl) (by decide) rfl (c_X5_take g s 358 344 tt358 tt344) (fun ho35 => ?_)
      refine jj_iconst dX7_gap_38 (kk := ?_)
      refine jj_istore_n (ls' := [some (jr (0)), some (ji (w)), some (ji (0))]) dX7_gap_39 (by decide) rfl rfl ?_
      have L40 : ∀ (nn : Nat) (j : Nat) (s' : jz_St) (hh40_0 : j ≤ 61) (hh40_1 : fGap (f_X5_take s 358 344) 358 w 0 61 = fGap s' 358 w j (61 - j)) (hh40_2 : jRng s' 358 (s 344 6 + 9 * j)), 61 - j < nn → jz_Z g mX7_gap (jq_ie (v_X7_gap s w) (f_X7_gap s w)) 40 [some (jr (0)), some (ji (w)), some (ji ((j : Int)))] [] s' := by
        intro nn
        induction nn with
        | zero => intro j s' hh40_0 hh40_1 hh40_2 hmz; exact absurd hmz (Nat.not_lt_zero _)
        | succ nn ih40 =>
          intro j s' hh40_0 hh40_1 hh40_2 hm40
          refine jj_iload_n dX7_gap_40 rfl ?_
          refine jj_bipush dX7_gap_41 (kk := ?_)
          refine jj_icmp_gt (tgt := 74) dX7_gap_43 (by decide) (fun h43 => ?_) (fun h43 => ?_)
          · refine jj_ldc dX7_gap_74 kk_X7_202 (kk := ?_)
            refine zz_retie dX7_gap_76 rfl (by decide) ?_ ?_
            · unfold v_X7_gap; rw [if_neg (by omega), if_pos (by omega), hh40_1, show 61 - j = 0 by omega]; rfl
            · unfold f_X7_gap; rw [if_neg (by omega), if_pos (by omega), hh40_1, show 61 - j = 0 by omega]; rfl
          · refine jj_aload_n dX7_gap_46 rfl ?_
            refine zz_getR dX7_gap_47 kf_X7_43 tt0 rfl ?_
            refine zz_cVi (av := []) (st' := []) dX7_gap_50 kn_X7_214 kmX5_inForce tt358 rfl rfl rfl (Nat.le_of_ble_eq_true rfl) (by decide) rfl (c_X5_inForce g s' 358 tt358 (jRng_if hh40_2)) (fun hr50 ho50 => ?_)
            refine jj_iload_n dX7_gap_53 rfl ?_
            refine jj_iand dX7_gap_54 ?_
            refine jj_if_ne (tgt := 60) dX7_gap_55 (by decide) (fun h55 => ?_) (fun h55 => ?_)
            · refine jj_aload_n dX7_gap_60 rfl ?_
              refine zz_getR dX7_gap_61 kf_X7_43 tt0 rfl ?_
              refine zz_cVi (av := []) (st' := []) dX7_gap_64 kn_X7_149 kmX5_passHour tt358 rfl rfl rfl (Nat.le_of_ble_eq_true rfl) (by decide) rfl (c_X5_passHour g s' 358 tt358 (s 344 6 + 9 * j) (by omega) hh40_2) (fun hr64 ho64 => ?_)
              refine jj_pop dX7_gap_67 (kk := ?_)
              refine jj_iinc (ls' := [some (jr (0)), some (ji (w)), some (ji ((j : Int) + 1))]) dX7_gap_68 rfl (by decide) rfl (by omega) rfl ?_
              refine jj_goto (tgt := 40) dX7_gap_71 (by decide) ?_
              exact ih40 (j + 1) (f_X5_passHour s' 358) (by omega) (by rw [hh40_1, show 61 - j = (61 - (j + 1)) + 1 by omega]; simp only [fGap]; rw [if_neg h55]) (by exact jRng_mono (passHour_rng hh40_2) (by omega)) (by omega)
            · refine jj_iload_n dX7_gap_58 rfl ?_
              refine zz_retie dX7_gap_59 rfl (by decide) ?_ ?_
              · unfold v_X7_gap; rw [if_neg (by omega), if_pos (by omega), hh40_1, show 61 - j = (61 - (j + 1)) + 1 by omega]; simp only [fGap]; rw [if_pos h55]
              · unfold f_X7_gap; rw [if_neg (by omega), if_pos (by omega), hh40_1, show 61 - j = (61 - (j + 1)) + 1 by omega]; simp only [fGap]; rw [if_pos h55]
      exact L40 _ 0 (f_X5_take s 358 344) (by omega) (by rfl) (by simpa using hTR) (Nat.lt_succ_self _)
    · have hg21 := bz_f h21
      refine jj_ldc dX7_gap_24 kk_X7_61 (kk := ?_)
      refine zz_retie dX7_gap_26 rfl (by decide) ?_ ?_
      · unfold v_X7_gap; (repeat (first | rw [if_pos (by omega)] | rw [if_neg (by omega)])) <;> first | rfl | done
      · unfold f_X7_gap; (repeat (first | rw [if_pos (by omega)] | rw [if_neg (by omega)])) <;> first | rfl | done
  · have hg7 := by_f h7
    refine jj_ldc dX7_gap_10 kk_X7_138 (kk := ?_)
    refine zz_retie dX7_gap_12 rfl (by decide) ?_ ?_
    · unfold v_X7_gap; (repeat (first | rw [if_pos (by omega)] | rw [if_neg (by omega)])) <;> first | rfl | done
    · unfold f_X7_gap; (repeat (first | rw [if_pos (by omega)] | rw [if_neg (by omega)])) <;> first | rfl | done

