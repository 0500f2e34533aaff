variable {y : MethodName}
set_option maxRecDepth 100000 in
set_option maxHeartbeats 4000000 in
theorem law_10 (g : jz_G) (hg : jz_L g ≤ 3584) {i : Int} (hi : 0 ≤ i ∧ i + 7 ≤ jz_L g) {sx : jz_St} (hV : Inv sx) (kk : ∀ s' : jz_St, Inv s' → jz_Z g (mLw y) (jq_i (fun z _ => z = 1)) 1461 [some (jr (1000)), some (jr (0)), some (jr (416)), some (ji (i))] [] s') : jz_Z g (mLw y) (jq_i (fun z _ => z = 1)) 498 [some (jr (1000)), some (jr (0)), some (jr (416)), some (ji (i))] [] sx := by
  have hI := hV.1.2.2.1
  refine jj_aload_n dL_law_498 rfl ?_
  refine jj_aload_n dL_law_499 rfl ?_
  refine jj_iload_n dL_law_500 rfl ?_
  refine jj_iconst dL_law_501 (kk := ?_)
  refine jj_iadd dL_law_502 (by omega) ?_
  refine jj_sld dL_law_503 rfl (by omega) (by omega) ?_
  refine zz_cVi (av := [ji (jz_x g (i + 1).toNat)]) (st' := []) dL_law_504 kn_L_58 kmX7_salt tt0 rfl rfl rfl (Nat.le_of_ble_eq_true rfl) (Nat.le_of_ble_eq_true rfl) rfl (c_X7_salt g sx (jz_x g (i + 1).toNat) hI) (fun hr504 ho504 => ?_)
  obtain ⟨he, hN, hM⟩ := OK_law (s1 := f_X7_salt sx (jz_x g (i + 1).toNat)) (f8 := fun t => f_X8_salt t (jz_x g (i + 1).toNat)) (v8 := fun t => v_X8_salt t (jz_x g (i + 1).toNat)) hV (fun t h => o_salt h (jz_x g (i + 1).toNat)) (t_salt hV.1 hV.2 (jz_x g (i + 1).toNat))
  refine jj_aload_n dL_law_507 rfl ?_
  refine jj_aload_n dL_law_508 rfl ?_
  refine jj_iload_n dL_law_509 rfl ?_
  refine jj_iconst dL_law_510 (kk := ?_)
  refine jj_iadd dL_law_511 (by omega) ?_
  refine jj_sld dL_law_512 rfl (by omega) (by omega) ?_
  refine zz_cVi (av := [ji (jz_x g (i + 1).toNat)]) (st' := [ji (v_X7_salt sx (jz_x g (i + 1).toNat))]) dL_law_513 kn_L_61 kmX8_salt tt416 rfl rfl rfl (Nat.le_of_ble_eq_true rfl) (Nat.le_of_ble_eq_true rfl) rfl (c_X8_salt g (f_X7_salt sx (jz_x g (i + 1).toNat)) (jz_x g (i + 1).toNat) hM.1) (fun hr513 ho513 => ?_)
  refine jj_icmp_eq (tgt := 1461) dL_law_516 (by decide) (fun h516 => ?_) (fun h516 => ?_)
  · exact kk _ hN
  · exact absurd he h516
set_option maxRecDepth 100000 in
set_option maxHeartbeats 4000000 in
theorem law_11 (g : jz_G) (hg : jz_L g ≤ 3584) {i : Int} (hi : 0 ≤ i ∧ i + 7 ≤ jz_L g) {sx : jz_St} (hV : Inv sx) (kk : ∀ s' : jz_St, Inv s' → jz_Z g (mLw y) (jq_i (fun z _ => z = 1)) 1461 [some (jr (1000)), some (jr (0)), some (jr (416)), some (ji (i))] [] s') : jz_Z g (mLw y) (jq_i (fun z _ => z = 1)) 521 [some (jr (1000)), some (jr (0)), some (jr (416)), some (ji (i))] [] sx := by
  have hI := hV.1.2.2.1
  refine jj_aload_n dL_law_521 rfl ?_
  refine jj_aload_n dL_law_522 rfl ?_
  refine jj_iload_n dL_law_523 rfl ?_
  refine jj_iconst dL_law_524 (kk := ?_)
  refine jj_iadd dL_law_525 (by omega) ?_
  refine jj_sld dL_law_526 rfl (by omega) (by omega) ?_
  refine zz_cVi (av := [ji (jz_x g (i + 1).toNat)]) (st' := []) dL_law_527 kn_L_62 kmX7_transcribe tt0 rfl rfl rfl (Nat.le_of_ble_eq_true rfl) (Nat.le_of_ble_eq_true rfl) rfl (c_X7_transcribe g sx (jz_x g (i + 1).toNat) hI) (fun hr527 ho527 => ?_)
  obtain ⟨he, hN, hM⟩ := OK_law (s1 := f_X7_transcribe sx (jz_x g (i + 1).toNat)) (f8 := fun t => f_X8_transcribe t (jz_x g (i + 1).toNat)) (v8 := fun t => v_X8_transcribe t (jz_x g (i + 1).toNat)) hV (fun t h => o_transcribe h (jz_x g (i + 1).toNat)) (t_transcribe hV.1 hV.2 (jz_x g (i + 1).toNat))
  refine jj_aload_n dL_law_530 rfl ?_
  refine jj_aload_n dL_law_531 rfl ?_
  refine jj_iload_n dL_law_532 rfl ?_
  refine jj_iconst dL_law_533 (kk := ?_)
  refine jj_iadd dL_law_534 (by omega) ?_
  refine jj_sld dL_law_535 rfl (by omega) (by omega) ?_
  refine zz_cVi (av := [ji (jz_x g (i + 1).toNat)]) (st' := [ji (v_X7_transcribe sx (jz_x g (i + 1).toNat))]) dL_law_536 kn_L_65 kmX8_transcribe tt416 rfl rfl rfl (Nat.le_of_ble_eq_true rfl) (Nat.le_of_ble_eq_true rfl) rfl (c_X8_transcribe g (f_X7_transcribe sx (jz_x g (i + 1).toNat)) (jz_x g (i + 1).toNat) hM.1) (fun hr536 ho536 => ?_)
  refine jj_icmp_eq (tgt := 1461) dL_law_539 (by decide) (fun h539 => ?_) (fun h539 => ?_)
  · exact kk _ hN
  · exact absurd he h539
set_option maxRecDepth 100000 in
set_option maxHeartbeats 4000000 in
theorem law_12 (g : jz_G) (hg : jz_L g ≤ 3584) {i : Int} (hi : 0 ≤ i ∧ i + 7 ≤ jz_L g) {sx : jz_St} (hV : Inv sx) (kk : ∀ s' : jz_St, Inv s' → jz_Z g (mLw y) (jq_i (fun z _ => z = 1)) 1461 [some (jr (1000)), some (jr (0)), some (jr (416)), some (ji (i))] [] s') : jz_Z g (mLw y) (jq_i (fun z _ => z = 1)) 544 [some (jr (1000)), some (jr (0)), some (jr (416)), some (ji (i))] [] sx := by
  have hI := hV.1.2.2.1
  refine jj_aload_n dL_law_544 rfl ?_
  refine jj_aload_n dL_law_545 rfl ?_
  refine jj_iload_n dL_law_546 rfl ?_
  refine jj_iconst dL_law_547 (kk := ?_)
  refine jj_iadd dL_law_548 (by omega) ?_
  refine jj_sld dL_law_549 rfl (by omega) (by omega) ?_
  refine jj_aload_n dL_law_550 rfl ?_
  refine jj_iload_n dL_law_551 rfl ?_
  refine jj_iconst dL_law_552 (kk := ?_)
  refine jj_iadd dL_law_553 (by omega) ?_
  refine jj_sld dL_law_554 rfl (by omega) (by omega) ?_
  refine zz_cVi (av := [ji (jz_x g (i + 1).toNat), ji (jz_x g (i + 2).toNat)]) (st' := []) dL_law_555 kn_L_66 kmX7_drive tt0 rfl rfl rfl (Nat.le_of_ble_eq_true rfl) (Nat.le_of_ble_eq_true rfl) rfl (c_X7_drive g sx (jz_x g (i + 1).toNat) (jz_x g (i + 2).toNat) hI) (fun hr555 ho555 => ?_)
  obtain ⟨he, hN, hM⟩ := OK_law (s1 := f_X7_drive sx (jz_x g (i + 1).toNat) (jz_x g (i + 2).toNat)) (f8 := fun t => f_X8_drive t (jz_x g (i + 1).toNat) (jz_x g (i + 2).toNat)) (v8 := fun t => v_X8_drive t (jz_x g (i + 1).toNat) (jz_x g (i + 2).toNat)) hV (fun t h => o_drive h (jz_x g (i + 1).toNat) (jz_x g (i + 2).toNat)) (t_drive hV.1 hV.2 (jz_x g (i + 1).toNat) (jz_x g (i + 2).toNat))
  refine jj_aload_n dL_law_558 rfl ?_
  refine jj_aload_n dL_law_559 rfl ?_
  refine jj_iload_n dL_law_560 rfl ?_
  refine jj_iconst dL_law_561 (kk := ?_)
  refine jj_iadd dL_law_562 (by omega) ?_
  refine jj_sld dL_law_563 rfl (by omega) (by omega) ?_
  refine jj_aload_n dL_law_564 rfl ?_
  refine jj_iload_n dL_law_565 rfl ?_
  refine jj_iconst dL_law_566 (kk := ?_)
  refine jj_iadd dL_law_567 (by omega) ?_
  refine jj_sld dL_law_568 rfl (by omega) (by omega) ?_
  refine zz_cVi (av := [ji (jz_x g (i + 1).toNat), ji (jz_x g (i + 2).toNat)]) (st' := [ji (v_X7_drive sx (jz_x g (i + 1).toNat) (jz_x g (i + 2).toNat))]) dL_law_569 kn_L_69 kmX8_drive tt416 rfl rfl rfl (Nat.le_of_ble_eq_true rfl) (Nat.le_of_ble_eq_true rfl) rfl (c_X8_drive g (f_X7_drive sx (jz_x g (i + 1).toNat) (jz_x g (i + 2).toNat)) (jz_x g (i + 1).toNat) (jz_x g (i + 2).toNat) hM.1) (fun hr569 ho569 => ?_)
  refine jj_icmp_eq (tgt := 1461) dL_law_572 (by decide) (fun h572 => ?_) (fun h572 => ?_)
  · exact kk _ hN
  · exact absurd he h572
set_option maxRecDepth 100000 in
set_option maxHeartbeats 4000000 in
theorem law_13 (g : jz_G) (hg : jz_L g ≤ 3584) {i : Int} (hi : 0 ≤ i ∧ i + 7 ≤ jz_L g) {sx : jz_St} (hV : Inv sx) (kk : ∀ s' : jz_St, Inv s' → jz_Z g (mLw y) (jq_i (fun z _ => z = 1)) 1461 [some (jr (1000)), some (jr (0)), some (jr (416)), some (ji (i))] [] s') : jz_Z g (mLw y) (jq_i (fun z _ => z = 1)) 577 [some (jr (1000)), some (jr (0)), some (jr (416)), some (ji (i))] [] sx := by
  have hI := hV.1.2.2.1
  refine jj_aload_n dL_law_577 rfl ?_
  refine jj_aload_n dL_law_578 rfl ?_
  refine jj_iload_n dL_law_579 rfl ?_
  refine jj_iconst dL_law_580 (kk := ?_)
  refine jj_iadd dL_law_581 (by omega) ?_
  refine jj_sld dL_law_582 rfl (by omega) (by omega) ?_
  refine zz_cVi (av := [ji (jz_x g (i + 1).toNat)]) (st' := []) dL_law_583 kn_L_70 kmX7_fodder tt0 rfl rfl rfl (Nat.le_of_ble_eq_true rfl) (Nat.le_of_ble_eq_true rfl) rfl (c_X7_fodder g sx (jz_x g (i + 1).toNat) hI) (fun hr583 ho583 => ?_)
  obtain ⟨he, hN, hM⟩ := OK_law (s1 := f_X7_fodder sx (jz_x g (i + 1).toNat)) (f8 := fun t => f_X8_fodder t (jz_x g (i + 1).toNat)) (v8 := fun t => v_X8_fodder t (jz_x g (i + 1).toNat)) hV (fun t h => o_fodder h (jz_x g (i + 1).toNat)) (t_fodder hV.1 hV.2 (jz_x g (i + 1).toNat))
  refine jj_aload_n dL_law_586 rfl ?_
  refine jj_aload_n dL_law_587 rfl ?_
  refine jj_iload_n dL_law_588 rfl ?_
  refine jj_iconst dL_law_589 (kk := ?_)
  refine jj_iadd dL_law_590 (by omega) ?_
  refine jj_sld dL_law_591 rfl (by omega) (by omega) ?_
  refine zz_cVi (av := [ji (jz_x g (i + 1).toNat)]) (st' := [ji (v_X7_fodder sx (jz_x g (i + 1).toNat))]) dL_law_592 kn_L_73 kmX8_fodder tt416 rfl rfl rfl (Nat.le_of_ble_eq_true rfl) (Nat.le_of_ble_eq_true rfl) rfl (c_X8_fodder g (f_X7_fodder sx (jz_x g (i + 1).toNat)) (jz_x g (i + 1).toNat) hM.1) (fun hr592 ho592 => ?_)
  refine jj_icmp_eq (tgt := 1461) dL_law_595 (by decide) (fun h595 => ?_) (fun h595 => ?_)
  · exact kk _ hN
  · exact absurd he h595
set_option maxRecDepth 100000 in
set_option maxHeartbeats 4000000 in
theorem law_14 (g : jz_G) (hg : jz_L g ≤ 3584) {i : Int} (hi : 0 ≤ i ∧ i + 7 ≤ jz_L g) {sx : jz_St} (hV : Inv sx) (kk : ∀ s' : jz_St, Inv s' → jz_Z g (mLw y) (jq_i (fun z _ => z = 1)) 1461 [some (jr (1000)), some (jr (0)), some (jr (416)), some (ji (i))] [] s') : jz_Z g (mLw y) (jq_i (fun z _ => z = 1)) 600 [some (jr (1000)), some (jr (0)), some (jr (416)), some (ji (i))] [] sx := by
  have hI := hV.1.2.2.1
  refine jj_aload_n dL_law_600 rfl ?_
  refine jj_aload_n dL_law_601 rfl ?_
  refine jj_iload_n dL_law_602 rfl ?_
  refine jj_iconst dL_law_603 (kk := ?_)
  refine jj_iadd dL_law_604 (by omega) ?_
  refine jj_sld dL_law_605 rfl (by omega) (by omega) ?_
  refine jj_aload_n dL_law_606 rfl ?_
  refine jj_iload_n dL_law_607 rfl ?_
  refine jj_iconst dL_law_608 (kk := ?_)
  refine jj_iadd dL_law_609 (by omega) ?_
  refine jj_sld dL_law_610 rfl (by omega) (by omega) ?_
  refine zz_cVi (av := [ji (jz_x g (i + 1).toNat), ji (jz_x g (i + 2).toNat)]) (st' := []) dL_law_611 kn_L_74 kmX7_leaf tt0 rfl rfl rfl (Nat.le_of_ble_eq_true rfl) (Nat.le_of_ble_eq_true rfl) rfl (c_X7_leaf g sx (jz_x g (i + 1).toNat) (jz_x g (i + 2).toNat) hI) (fun hr611 ho611 => ?_)
  have he := o_leaf hV.1 (jz_x g (i + 1).toNat) (jz_x g (i + 2).toNat)
  have hN := hV
  have hM := hV.1.2.1
  refine jj_aload_n dL_law_614 rfl ?_
  refine jj_aload_n dL_law_615 rfl ?_
  refine jj_iload_n dL_law_616 rfl ?_
  refine jj_iconst dL_law_617 (kk := ?_)
  refine jj_iadd dL_law_618 (by omega) ?_
  refine jj_sld dL_law_619 rfl (by omega) (by omega) ?_
  refine jj_aload_n dL_law_620 rfl ?_
  refine jj_iload_n dL_law_621 rfl ?_
  refine jj_iconst dL_law_622 (kk := ?_)
  refine jj_iadd dL_law_623 (by omega) ?_
  refine jj_sld dL_law_624 rfl (by omega) (by omega) ?_
  refine zz_cVi (av := [ji (jz_x g (i + 1).toNat), ji (jz_x g (i + 2).toNat)]) (st' := [ji (v_X7_leaf sx (jz_x g (i + 1).toNat) (jz_x g (i + 2).toNat))]) dL_law_625 kn_L_77 kmX8_leaf tt416 rfl rfl rfl (Nat.le_of_ble_eq_true rfl) (Nat.le_of_ble_eq_true rfl) rfl (c_X8_leaf g sx (jz_x g (i + 1).toNat) (jz_x g (i + 2).toNat) hM.1) (fun hr625 ho625 => ?_)
  refine jj_icmp_eq (tgt := 1461) dL_law_628 (by decide) (fun h628 => ?_) (fun h628 => ?_)
  · exact kk _ hN
  · exact absurd he h628
set_option maxRecDepth 100000 in
set_option maxHeartbeats 4000000 in
theorem law_15 (g : jz_G) (hg : jz_L g ≤ 3584) {i : Int} (hi : 0 ≤ i ∧ i + 7 ≤ jz_L g) {sx : jz_St} (hV : Inv sx) (kk : ∀ s' : jz_St, Inv s' → jz_Z g (mLw y) (jq_i (fun z _ => z = 1)) 1461 [some (jr (1000)), some (jr (0)), some (jr (416)), some (ji (i))] [] s') : jz_Z g (mLw y) (jq_i (fun z _ => z = 1)) 633 [some (jr (1000)), some (jr (0)), some (jr (416)), some (ji (i))] [] sx := by
  have hI := hV.1.2.2.1
  refine jj_aload_n dL_law_633 rfl ?_
  refine jj_aload_n dL_law_634 rfl ?_
  refine jj_iload_n dL_law_635 rfl ?_
  refine jj_iconst dL_law_636 (kk := ?_)
  refine jj_iadd dL_law_637 (by omega) ?_
  refine jj_sld dL_law_638 rfl (by omega) (by omega) ?_
  refine jj_aload_n dL_law_639 rfl ?_
  refine jj_iload_n dL_law_640 rfl ?_
  refine jj_iconst dL_law_641 (kk := ?_)
  refine jj_iadd dL_law_642 (by omega) ?_
  refine jj_sld dL_law_643 rfl (by omega) (by omega) ?_
  refine zz_cVi (av := [ji (jz_x g (i + 1).toNat), ji (jz_x g (i + 2).toNat)]) (st' := []) dL_law_644 kn_L_78 kmX7_goat tt0 rfl rfl rfl (Nat.le_of_ble_eq_true rfl) (Nat.le_of_ble_eq_true rfl) rfl (c_X7_goat g sx (jz_x g (i + 1).toNat) (jz_x g (i + 2).toNat) hI) (fun hr644 ho644 => ?_)
  have he := o_goat hV.1 (jz_x g (i + 1).toNat) (jz_x g (i + 2).toNat)
  have hN := hV
  have hM := hV.1.2.1
  refine jj_aload_n dL_law_647 rfl ?_
  refine jj_aload_n dL_law_648 rfl ?_
  refine jj_iload_n dL_law_649 rfl ?_
  refine jj_iconst dL_law_650 (kk := ?_)
  refine jj_iadd dL_law_651 (by omega) ?_
  refine jj_sld dL_law_652 rfl (by omega) (by omega) ?_
  refine jj_aload_n dL_law_653 rfl ?_
  refine jj_iload_n dL_law_654 rfl ?_
  refine jj_iconst dL_law_655 (kk := ?_)
  refine jj_iadd dL_law_656 (by omega) ?_
  refine jj_sld dL_law_657 rfl (by omega) (by omega) ?_
  refine zz_cVi (av := [ji (jz_x g (i + 1).toNat), ji (jz_x g (i + 2).toNat)]) (st' := [ji (v_X7_goat sx (jz_x g (i + 1).toNat) (jz_x g (i + 2).toNat))]) dL_law_658 kn_L_81 kmX8_goat tt416 rfl rfl rfl (Nat.le_of_ble_eq_true rfl) (Nat.le_of_ble_eq_true rfl) rfl (c_X8_goat g sx (jz_x g (i + 1).toNat) (jz_x g (i + 2).toNat) hM.1) (fun hr658 ho658 => ?_)
  refine jj_icmp_eq (tgt := 1461) dL_law_661 (by decide) (fun h661 => ?_) (fun h661 => ?_)
  · exact kk _ hN
  · exact absurd he h661
set_option maxRecDepth 100000 in
set_option maxHeartbeats 4000000 in
theorem law_16 (g : jz_G) (hg : jz_L g ≤ 3584) {i : Int} (hi : 0 ≤ i ∧ i + 7 ≤ jz_L g) {sx : jz_St} (hV : Inv sx) (kk : ∀ s' : jz_St, Inv s' → jz_Z g (mLw y) (jq_i (fun z _ => z = 1)) 1461 [some (jr (1000)), some (jr (0)), some (jr (416)), some (ji (i))] [] s') : jz_Z g (mLw y) (jq_i (fun z _ => z = 1)) 666 [some (jr (1000)), some (jr (0)), some (jr (416)), some (ji (i))] [] sx := by
  have hI := hV.1.2.2.1
  refine jj_aload_n dL_law_666 rfl ?_
  refine jj_aload_n dL_law_667 rfl ?_
  refine jj_iload_n dL_law_668 rfl ?_
  refine jj_iconst dL_law_669 (kk := ?_)
  refine jj_iadd dL_law_670 (by omega) ?_
  refine jj_sld dL_law_671 rfl (by omega) (by omega) ?_
  refine jj_aload_n dL_law_672 rfl ?_
  refine jj_iload_n dL_law_673 rfl ?_
  refine jj_iconst dL_law_674 (kk := ?_)
  refine jj_iadd dL_law_675 (by omega) ?_
  refine jj_sld dL_law_676 rfl (by omega) (by omega) ?_
  refine zz_cVi (av := [ji (jz_x g (i + 1).toNat), ji (jz_x g (i + 2).toNat)]) (st' := []) dL_law_677 kn_L_82 kmX7_ahead tt0 rfl rfl rfl (Nat.le_of_ble_eq_true rfl) (Nat.le_of_ble_eq_true rfl) rfl (c_X7_ahead g sx (jz_x g (i + 1).toNat) (jz_x g (i + 2).toNat) hI) (fun hr677 ho677 => ?_)
  obtain ⟨he, hN, hM⟩ := OK_law (s1 := f_X7_ahead sx (jz_x g (i + 1).toNat) (jz_x g (i + 2).toNat)) (f8 := fun t => f_X8_ahead t (jz_x g (i + 1).toNat) (jz_x g (i + 2).toNat)) (v8 := fun t => v_X8_ahead t (jz_x g (i + 1).toNat) (jz_x g (i + 2).toNat)) hV (fun t h => o_ahead h (jz_x g (i + 1).toNat) (jz_x g (i + 2).toNat)) (t_ahead hV.1 (jz_x g (i + 1).toNat) (jz_x g (i + 2).toNat))
  refine jj_aload_n dL_law_680 rfl ?_
  refine jj_aload_n dL_law_681 rfl ?_
  refine jj_iload_n dL_law_682 rfl ?_
  refine jj_iconst dL_law_683 (kk := ?_)
  refine jj_iadd dL_law_684 (by omega) ?_
  refine jj_sld dL_law_685 rfl (by omega) (by omega) ?_
  refine jj_aload_n dL_law_686 rfl ?_
  refine jj_iload_n dL_law_687 rfl ?_
  refine jj_iconst dL_law_688 (kk := ?_)
  refine jj_iadd dL_law_689 (by omega) ?_
  refine jj_sld dL_law_690 rfl (by omega) (by omega) ?_
  refine zz_cVi (av := [ji (jz_x g (i + 1).toNat), ji (jz_x g (i + 2).toNat)]) (st' := [ji (v_X7_ahead sx (jz_x g (i + 1).toNat) (jz_x g (i + 2).toNat))]) dL_law_691 kn_L_85 kmX8_ahead tt416 rfl rfl rfl (Nat.le_of_ble_eq_true rfl) (Nat.le_of_ble_eq_true rfl) rfl (c_X8_ahead g (f_X7_ahead sx (jz_x g (i + 1).toNat) (jz_x g (i + 2).toNat)) (jz_x g (i + 1).toNat) (jz_x g (i + 2).toNat) hM.1) (fun hr691 ho691 => ?_)
  refine jj_icmp_eq (tgt := 1461) dL_law_694 (by decide) (fun h694 => ?_) (fun h694 => ?_)
  · exact kk _ hN
  · exact absurd he h694
set_option maxRecDepth 100000 in
set_option maxHeartbeats 4000000 in
theorem law_17 (g : jz_G) (hg : jz_L g ≤ 3584) {i : Int} (hi : 0 ≤ i ∧ i + 7 ≤ jz_L g) {sx : jz_St} (hV : Inv sx) (kk : ∀ s' : jz_St, Inv s' → jz_Z g (mLw y) (jq_i (fun z _ => z = 1)) 1461 [some (jr (1000)), some (jr (0)), some (jr (416)), some (ji (i))] [] s') : jz_Z g (mLw y) (jq_i (fun z _ => z = 1)) 699 [some (jr (1000)), some (jr (0)), some (jr (416)), some (ji (i))] [] sx := by
  have hI := hV.1.2.2.1
  refine jj_aload_n dL_law_699 rfl ?_
  refine jj_aload_n dL_law_700 rfl ?_
  refine jj_iload_n dL_law_701 rfl ?_
  refine jj_iconst dL_law_702 (kk := ?_)
  refine jj_iadd dL_law_703 (by omega) ?_
  refine jj_sld dL_law_704 rfl (by omega) (by omega) ?_
  refine zz_cVi (av := [ji (jz_x g (i + 1).toNat)]) (st' := []) dL_law_705 kn_L_86 kmX7_force tt0 rfl rfl rfl (Nat.le_of_ble_eq_true rfl) (Nat.le_of_ble_eq_true rfl) rfl (c_X7_force g sx (jz_x g (i + 1).toNat) hI) (fun hr705 ho705 => ?_)
  obtain ⟨he, hN, hM⟩ := OK_law (s1 := f_X7_force sx (jz_x g (i + 1).toNat)) (f8 := fun t => f_X8_force t (jz_x g (i + 1).toNat)) (v8 := fun t => v_X8_force t (jz_x g (i + 1).toNat)) hV (fun t h => o_force h (jz_x g (i + 1).toNat)) (t_force hV.1 hV.2 (jz_x g (i + 1).toNat))
  refine jj_aload_n dL_law_708 rfl ?_
  refine jj_aload_n dL_law_709 rfl ?_
  refine jj_iload_n dL_law_710 rfl ?_
  refine jj_iconst dL_law_711 (kk := ?_)
  refine jj_iadd dL_law_712 (by omega) ?_
  refine jj_sld dL_law_713 rfl (by omega) (by omega) ?_
  refine zz_cVi (av := [ji (jz_x g (i + 1).toNat)]) (st' := [ji (v_X7_force sx (jz_x g (i + 1).toNat))]) dL_law_714 kn_L_89 kmX8_force tt416 rfl rfl rfl (Nat.le_of_ble_eq_true rfl) (Nat.le_of_ble_eq_true rfl) rfl (c_X8_force g (f_X7_force sx (jz_x g (i + 1).toNat)) (jz_x g (i + 1).toNat) hM.1) (fun hr714 ho714 => ?_)
  refine jj_icmp_eq (tgt := 1461) dL_law_717 (by decide) (fun h717 => ?_) (fun h717 => ?_)
  · exact kk _ hN
  · exact absurd he h717
set_option maxRecDepth 100000 in
set_option maxHeartbeats 4000000 in
theorem law_18 (g : jz_G) (hg : jz_L g ≤ 3584) {i : Int} (hi : 0 ≤ i ∧ i + 7 ≤ jz_L g) {sx : jz_St} (hV : Inv sx) (kk : ∀ s' : jz_St, Inv s' → jz_Z g (mLw y) (jq_i (fun z _ => z = 1)) 1461 [some (jr (1000)), some (jr (0)), some (jr (416)), some (ji (i))] [] s') : jz_Z g (mLw y) (jq_i (fun z _ => z = 1)) 722 [some (jr (1000)), some (jr (0)), some (jr (416)), some (ji (i))] [] sx := by
  have hI := hV.1.2.2.1
  refine jj_aload_n dL_law_722 rfl ?_
  refine jj_aload_n dL_law_723 rfl ?_
  refine jj_iload_n dL_law_724 rfl ?_
  refine jj_iconst dL_law_725 (kk := ?_)
  refine jj_iadd dL_law_726 (by omega) ?_
  refine jj_sld dL_law_727 rfl (by omega) (by omega) ?_
  refine zz_cVi (av := [ji (jz_x g (i + 1).toNat)]) (st' := []) dL_law_728 kn_L_90 kmX7_emptied tt0 rfl rfl rfl (Nat.le_of_ble_eq_true rfl) (Nat.le_of_ble_eq_true rfl) rfl (c_X7_emptied g sx (jz_x g (i + 1).toNat) hI) (fun hr728 ho728 => ?_)
  obtain ⟨he, hN, hM⟩ := OK_law (s1 := f_X7_emptied sx (jz_x g (i + 1).toNat)) (f8 := fun t => f_X8_emptied t (jz_x g (i + 1).toNat)) (v8 := fun t => v_X8_emptied t (jz_x g (i + 1).toNat)) hV (fun t h => o_emptied h (jz_x g (i + 1).toNat)) (t_emptied hV.1 (jz_x g (i + 1).toNat))
  refine jj_aload_n dL_law_731 rfl ?_
  refine jj_aload_n dL_law_732 rfl ?_
  refine jj_iload_n dL_law_733 rfl ?_
  refine jj_iconst dL_law_734 (kk := ?_)
  refine jj_iadd dL_law_735 (by omega) ?_
  refine jj_sld dL_law_736 rfl (by omega) (by omega) ?_
  refine zz_cVi (av := [ji (jz_x g (i + 1).toNat)]) (st' := [ji (v_X7_emptied sx (jz_x g (i + 1).toNat))]) dL_law_737 kn_L_93 kmX8_emptied tt416 rfl rfl rfl (Nat.le_of_ble_eq_true rfl) (Nat.le_of_ble_eq_true rfl) rfl (c_X8_emptied g (f_X7_emptied sx (jz_x g (i + 1).toNat)) (jz_x g (i + 1).toNat) hM.1) (fun hr737 ho737 => ?_)
  refine jj_icmp_eq (tgt := 1461) dL_law_740 (by decide) (fun h740 => ?_) (fun h740 => ?_)
  · exact kk _ hN
  · exact absurd he h740
set_option maxRecDepth 100000 in
set_option maxHeartbeats 4000000 in
theorem law_19 (g : jz_G) (hg : jz_L g ≤ 3584) {i : Int} (hi : 0 ≤ i ∧ i + 7 ≤ jz_L g) {sx : jz_St} (hV : Inv sx) (kk : ∀ s' : jz_St, Inv s' → jz_Z g (mLw y) (jq_i (fun z _ => z = 1)) 1461 [some (jr (1000)), some (jr (0)), some (jr (416)), some (ji (i))] [] s') : jz_Z g (mLw y) (jq_i (fun z _ => z = 1)) 745 [some (jr (1000)), some (jr (0)), some (jr (416)), some (ji (i))] [] sx := by
  have hI := hV.1.2.2.1
  refine jj_aload_n dL_law_745 rfl ?_
  refine jj_aload_n dL_law_746 rfl ?_
  refine jj_iload_n dL_law_747 rfl ?_
  refine jj_iconst dL_law_748 (kk := ?_)
  refine jj_iadd dL_law_749 (by omega) ?_
  refine jj_sld dL_law_750 rfl (by omega) (by omega) ?_
  refine jj_aload_n dL_law_751 rfl ?_
  refine jj_iload_n dL_law_752 rfl ?_
  refine jj_iconst dL_law_753 (kk := ?_)
  refine jj_iadd dL_law_754 (by omega) ?_
  refine jj_sld dL_law_755 rfl (by omega) (by omega) ?_
  refine zz_cVi (av := [ji (jz_x g (i + 1).toNat), ji (jz_x g (i + 2).toNat)]) (st' := []) dL_law_756 kn_L_94 kmX7_eats tt0 rfl rfl rfl (Nat.le_of_ble_eq_true rfl) (Nat.le_of_ble_eq_true rfl) rfl (c_X7_eats g sx (jz_x g (i + 1).toNat) (jz_x g (i + 2).toNat) hI) (fun hr756 ho756 => ?_)
  obtain ⟨he, hN, hM⟩ := OK_law (s1 := f_X7_eats sx (jz_x g (i + 1).toNat) (jz_x g (i + 2).toNat)) (f8 := fun t => f_X8_eats t (jz_x g (i + 1).toNat) (jz_x g (i + 2).toNat)) (v8 := fun t => v_X8_eats t (jz_x g (i + 1).toNat) (jz_x g (i + 2).toNat)) hV (fun t h => o_eats h (jz_x g (i + 1).toNat) (jz_x g (i + 2).toNat)) (t_eats hV.1 (jz_x g (i + 1).toNat) (jz_x g (i + 2).toNat))
  refine jj_aload_n dL_law_759 rfl ?_
  refine jj_aload_n dL_law_760 rfl ?_
  refine jj_iload_n dL_law_761 rfl ?_
  refine jj_iconst dL_law_762 (kk := ?_)
  refine jj_iadd dL_law_763 (by omega) ?_
  refine jj_sld dL_law_764 rfl (by omega) (by omega) ?_
  refine jj_aload_n dL_law_765 rfl ?_
  refine jj_iload_n dL_law_766 rfl ?_
  refine jj_iconst dL_law_767 (kk := ?_)
  refine jj_iadd dL_law_768 (by omega) ?_
  refine jj_sld dL_law_769 rfl (by omega) (by omega) ?_
  refine zz_cVi (av := [ji (jz_x g (i + 1).toNat), ji (jz_x g (i + 2).toNat)]) (st' := [ji (v_X7_eats sx (jz_x g (i + 1).toNat) (jz_x g (i + 2).toNat))]) dL_law_770 kn_L_97 kmX8_eats tt416 rfl rfl rfl (Nat.le_of_ble_eq_true rfl) (Nat.le_of_ble_eq_true rfl) rfl (c_X8_eats g (f_X7_eats sx (jz_x g (i + 1).toNat) (jz_x g (i + 2).toNat)) (jz_x g (i + 1).toNat) (jz_x g (i + 2).toNat) hM.1) (fun hr770 ho770 => ?_)
  refine jj_icmp_eq (tgt := 1461) dL_law_773 (by decide) (fun h773 => ?_) (fun h773 => ?_)
  · exact kk _ hN
  · exact absurd he h773
