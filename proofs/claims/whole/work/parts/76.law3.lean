variable {y : MethodName}
set_option maxRecDepth 100000 in
set_option maxHeartbeats 4000000 in
theorem law_20 (g : jz_G) (hg : jz_L g ≤ 3584) {i : Int} (hi : 0 ≤ i ∧ i + 7 ≤ jz_L g) {sx : jz_St} (hV : Inv sx) (kk : ∀ s' : jz_St, Inv s' → jz_Z g (mLw y) (jq_i (fun z _ => z = 1)) 1461 [some (jr (1000)), some (jr (0)), some (jr (416)), some (ji (i))] [] s') : jz_Z g (mLw y) (jq_i (fun z _ => z = 1)) 778 [some (jr (1000)), some (jr (0)), some (jr (416)), some (ji (i))] [] sx := by
  have hI := hV.1.2.2.1
  refine jj_aload_n dL_law_778 rfl ?_
  refine jj_aload_n dL_law_779 rfl ?_
  refine jj_iload_n dL_law_780 rfl ?_
  refine jj_iconst dL_law_781 (kk := ?_)
  refine jj_iadd dL_law_782 (by omega) ?_
  refine jj_sld dL_law_783 rfl (by omega) (by omega) ?_
  refine jj_aload_n dL_law_784 rfl ?_
  refine jj_iload_n dL_law_785 rfl ?_
  refine jj_iconst dL_law_786 (kk := ?_)
  refine jj_iadd dL_law_787 (by omega) ?_
  refine jj_sld dL_law_788 rfl (by omega) (by omega) ?_
  refine zz_cVi (av := [ji (jz_x g (i + 1).toNat), ji (jz_x g (i + 2).toNat)]) (st' := []) dL_law_789 kn_L_98 kmX7_guilt tt0 rfl rfl rfl (Nat.le_of_ble_eq_true rfl) (Nat.le_of_ble_eq_true rfl) rfl (c_X7_guilt g sx (jz_x g (i + 1).toNat) (jz_x g (i + 2).toNat) hI) (fun hr789 ho789 => ?_)
  obtain ⟨he, hN, hM⟩ := OK_law (s1 := f_X7_guilt sx (jz_x g (i + 1).toNat) (jz_x g (i + 2).toNat)) (f8 := fun t => f_X8_guilt t (jz_x g (i + 1).toNat) (jz_x g (i + 2).toNat)) (v8 := fun t => v_X8_guilt t (jz_x g (i + 1).toNat) (jz_x g (i + 2).toNat)) hV (fun t h => o_guilt h (jz_x g (i + 1).toNat) (jz_x g (i + 2).toNat)) (t_guilt hV.1 (jz_x g (i + 1).toNat) (jz_x g (i + 2).toNat))
  refine jj_aload_n dL_law_792 rfl ?_
  refine jj_aload_n dL_law_793 rfl ?_
  refine jj_iload_n dL_law_794 rfl ?_
  refine jj_iconst dL_law_795 (kk := ?_)
  refine jj_iadd dL_law_796 (by omega) ?_
  refine jj_sld dL_law_797 rfl (by omega) (by omega) ?_
  refine jj_aload_n dL_law_798 rfl ?_
  refine jj_iload_n dL_law_799 rfl ?_
  refine jj_iconst dL_law_800 (kk := ?_)
  refine jj_iadd dL_law_801 (by omega) ?_
  refine jj_sld dL_law_802 rfl (by omega) (by omega) ?_
  refine zz_cVi (av := [ji (jz_x g (i + 1).toNat), ji (jz_x g (i + 2).toNat)]) (st' := [ji (v_X7_guilt sx (jz_x g (i + 1).toNat) (jz_x g (i + 2).toNat))]) dL_law_803 kn_L_101 kmX8_guilt tt416 rfl rfl rfl (Nat.le_of_ble_eq_true rfl) (Nat.le_of_ble_eq_true rfl) rfl (c_X8_guilt g (f_X7_guilt sx (jz_x g (i + 1).toNat) (jz_x g (i + 2).toNat)) (jz_x g (i + 1).toNat) (jz_x g (i + 2).toNat) hM.1) (fun hr803 ho803 => ?_)
  refine jj_icmp_eq (tgt := 1461) dL_law_806 (by decide) (fun h806 => ?_) (fun h806 => ?_)
  · exact kk _ hN
  · exact absurd he h806
set_option maxRecDepth 100000 in
set_option maxHeartbeats 4000000 in
theorem law_21 (g : jz_G) (hg : jz_L g ≤ 3584) {i : Int} (hi : 0 ≤ i ∧ i + 7 ≤ jz_L g) {sx : jz_St} (hV : Inv sx) (kk : ∀ s' : jz_St, Inv s' → jz_Z g (mLw y) (jq_i (fun z _ => z = 1)) 1461 [some (jr (1000)), some (jr (0)), some (jr (416)), some (ji (i))] [] s') : jz_Z g (mLw y) (jq_i (fun z _ => z = 1)) 811 [some (jr (1000)), some (jr (0)), some (jr (416)), some (ji (i))] [] sx := by
  have hI := hV.1.2.2.1
  refine jj_aload_n dL_law_811 rfl ?_
  refine jj_aload_n dL_law_812 rfl ?_
  refine jj_iload_n dL_law_813 rfl ?_
  refine jj_iconst dL_law_814 (kk := ?_)
  refine jj_iadd dL_law_815 (by omega) ?_
  refine jj_sld dL_law_816 rfl (by omega) (by omega) ?_
  refine zz_cVi (av := [ji (jz_x g (i + 1).toNat)]) (st' := []) dL_law_817 kn_L_102 kmX7_gap tt0 rfl rfl rfl (Nat.le_of_ble_eq_true rfl) (Nat.le_of_ble_eq_true rfl) rfl (c_X7_gap g sx (jz_x g (i + 1).toNat) hI) (fun hr817 ho817 => ?_)
  obtain ⟨he, hN, hM⟩ := OK_law (s1 := f_X7_gap sx (jz_x g (i + 1).toNat)) (f8 := fun t => f_X8_gap t (jz_x g (i + 1).toNat)) (v8 := fun t => v_X8_gap t (jz_x g (i + 1).toNat)) hV (fun t h => o_gap h (jz_x g (i + 1).toNat)) (t_gap hV.1 hV.2 (jz_x g (i + 1).toNat))
  refine jj_aload_n dL_law_820 rfl ?_
  refine jj_aload_n dL_law_821 rfl ?_
  refine jj_iload_n dL_law_822 rfl ?_
  refine jj_iconst dL_law_823 (kk := ?_)
  refine jj_iadd dL_law_824 (by omega) ?_
  refine jj_sld dL_law_825 rfl (by omega) (by omega) ?_
  refine zz_cVi (av := [ji (jz_x g (i + 1).toNat)]) (st' := [ji (v_X7_gap sx (jz_x g (i + 1).toNat))]) dL_law_826 kn_L_105 kmX8_gap tt416 rfl rfl rfl (Nat.le_of_ble_eq_true rfl) (Nat.le_of_ble_eq_true rfl) rfl (c_X8_gap g (f_X7_gap sx (jz_x g (i + 1).toNat)) (jz_x g (i + 1).toNat) hM.1) (fun hr826 ho826 => ?_)
  refine jj_icmp_eq (tgt := 1461) dL_law_829 (by decide) (fun h829 => ?_) (fun h829 => ?_)
  · exact kk _ hN
  · exact absurd he h829
set_option maxRecDepth 100000 in
set_option maxHeartbeats 4000000 in
theorem law_22 (g : jz_G) (hg : jz_L g ≤ 3584) {i : Int} (hi : 0 ≤ i ∧ i + 7 ≤ jz_L g) {sx : jz_St} (hV : Inv sx) (kk : ∀ s' : jz_St, Inv s' → jz_Z g (mLw y) (jq_i (fun z _ => z = 1)) 1461 [some (jr (1000)), some (jr (0)), some (jr (416)), some (ji (i))] [] s') : jz_Z g (mLw y) (jq_i (fun z _ => z = 1)) 834 [some (jr (1000)), some (jr (0)), some (jr (416)), some (ji (i))] [] sx := by
  have hI := hV.1.2.2.1
  refine jj_aload_n dL_law_834 rfl ?_
  refine jj_aload_n dL_law_835 rfl ?_
  refine jj_iload_n dL_law_836 rfl ?_
  refine jj_iconst dL_law_837 (kk := ?_)
  refine jj_iadd dL_law_838 (by omega) ?_
  refine jj_sld dL_law_839 rfl (by omega) (by omega) ?_
  refine jj_aload_n dL_law_840 rfl ?_
  refine jj_iload_n dL_law_841 rfl ?_
  refine jj_iconst dL_law_842 (kk := ?_)
  refine jj_iadd dL_law_843 (by omega) ?_
  refine jj_sld dL_law_844 rfl (by omega) (by omega) ?_
  refine jj_aload_n dL_law_845 rfl ?_
  refine jj_iload_n dL_law_846 rfl ?_
  refine jj_iconst dL_law_847 (kk := ?_)
  refine jj_iadd dL_law_848 (by omega) ?_
  refine jj_sld dL_law_849 rfl (by omega) (by omega) ?_
  refine zz_cVi (av := [ji (jz_x g (i + 1).toNat), ji (jz_x g (i + 2).toNat), ji (jz_x g (i + 3).toNat)]) (st' := []) dL_law_850 kn_L_106 kmX7_hangs tt0 rfl rfl rfl (Nat.le_of_ble_eq_true rfl) (Nat.le_of_ble_eq_true rfl) rfl (c_X7_hangs g sx (jz_x g (i + 1).toNat) (jz_x g (i + 2).toNat) (jz_x g (i + 3).toNat) hI) (fun hr850 ho850 => ?_)
  obtain ⟨he, hN, hM⟩ := OK_law (s1 := f_X7_hangs sx (jz_x g (i + 1).toNat) (jz_x g (i + 2).toNat) (jz_x g (i + 3).toNat)) (f8 := fun t => f_X8_hangs t (jz_x g (i + 1).toNat) (jz_x g (i + 2).toNat) (jz_x g (i + 3).toNat)) (v8 := fun t => v_X8_hangs t (jz_x g (i + 1).toNat) (jz_x g (i + 2).toNat) (jz_x g (i + 3).toNat)) hV (fun t h => o_hangs h (jz_x g (i + 1).toNat) (jz_x g (i + 2).toNat) (jz_x g (i + 3).toNat)) (t_hangs hV.1 hV.2 (jz_x g (i + 1).toNat) (jz_x g (i + 2).toNat) (jz_x g (i + 3).toNat))
  refine jj_aload_n dL_law_853 rfl ?_
  refine jj_aload_n dL_law_854 rfl ?_
  refine jj_iload_n dL_law_855 rfl ?_
  refine jj_iconst dL_law_856 (kk := ?_)
  refine jj_iadd dL_law_857 (by omega) ?_
  refine jj_sld dL_law_858 rfl (by omega) (by omega) ?_
  refine jj_aload_n dL_law_859 rfl ?_
  refine jj_iload_n dL_law_860 rfl ?_
  refine jj_iconst dL_law_861 (kk := ?_)
  refine jj_iadd dL_law_862 (by omega) ?_
  refine jj_sld dL_law_863 rfl (by omega) (by omega) ?_
  refine jj_aload_n dL_law_864 rfl ?_
  refine jj_iload_n dL_law_865 rfl ?_
  refine jj_iconst dL_law_866 (kk := ?_)
  refine jj_iadd dL_law_867 (by omega) ?_
  refine jj_sld dL_law_868 rfl (by omega) (by omega) ?_
  refine zz_cVi (av := [ji (jz_x g (i + 1).toNat), ji (jz_x g (i + 2).toNat), ji (jz_x g (i + 3).toNat)]) (st' := [ji (v_X7_hangs sx (jz_x g (i + 1).toNat) (jz_x g (i + 2).toNat) (jz_x g (i + 3).toNat))]) dL_law_869 kn_L_109 kmX8_hangs tt416 rfl rfl rfl (Nat.le_of_ble_eq_true rfl) (Nat.le_of_ble_eq_true rfl) rfl (c_X8_hangs g (f_X7_hangs sx (jz_x g (i + 1).toNat) (jz_x g (i + 2).toNat) (jz_x g (i + 3).toNat)) (jz_x g (i + 1).toNat) (jz_x g (i + 2).toNat) (jz_x g (i + 3).toNat) hM.1) (fun hr869 ho869 => ?_)
  refine jj_icmp_eq (tgt := 1461) dL_law_872 (by decide) (fun h872 => ?_) (fun h872 => ?_)
  · exact kk _ hN
  · exact absurd he h872
set_option maxRecDepth 100000 in
set_option maxHeartbeats 4000000 in
theorem law_23 (g : jz_G) (hg : jz_L g ≤ 3584) {i : Int} (hi : 0 ≤ i ∧ i + 7 ≤ jz_L g) {sx : jz_St} (hV : Inv sx) (kk : ∀ s' : jz_St, Inv s' → jz_Z g (mLw y) (jq_i (fun z _ => z = 1)) 1461 [some (jr (1000)), some (jr (0)), some (jr (416)), some (ji (i))] [] s') : jz_Z g (mLw y) (jq_i (fun z _ => z = 1)) 877 [some (jr (1000)), some (jr (0)), some (jr (416)), some (ji (i))] [] sx := by
  have hI := hV.1.2.2.1
  refine jj_aload_n dL_law_877 rfl ?_
  refine jj_aload_n dL_law_878 rfl ?_
  refine jj_iload_n dL_law_879 rfl ?_
  refine jj_iconst dL_law_880 (kk := ?_)
  refine jj_iadd dL_law_881 (by omega) ?_
  refine jj_sld dL_law_882 rfl (by omega) (by omega) ?_
  refine jj_aload_n dL_law_883 rfl ?_
  refine jj_iload_n dL_law_884 rfl ?_
  refine jj_iconst dL_law_885 (kk := ?_)
  refine jj_iadd dL_law_886 (by omega) ?_
  refine jj_sld dL_law_887 rfl (by omega) (by omega) ?_
  refine jj_aload_n dL_law_888 rfl ?_
  refine jj_iload_n dL_law_889 rfl ?_
  refine jj_iconst dL_law_890 (kk := ?_)
  refine jj_iadd dL_law_891 (by omega) ?_
  refine jj_sld dL_law_892 rfl (by omega) (by omega) ?_
  refine zz_cVi (av := [ji (jz_x g (i + 1).toNat), ji (jz_x g (i + 2).toNat), ji (jz_x g (i + 3).toNat)]) (st' := []) dL_law_893 kn_L_110 kmX7_drives tt0 rfl rfl rfl (Nat.le_of_ble_eq_true rfl) (Nat.le_of_ble_eq_true rfl) rfl (c_X7_drives g sx (jz_x g (i + 1).toNat) (jz_x g (i + 2).toNat) (jz_x g (i + 3).toNat) hI) (fun hr893 ho893 => ?_)
  obtain ⟨he, hN, hM⟩ := OK_law (s1 := f_X7_drives sx (jz_x g (i + 1).toNat) (jz_x g (i + 2).toNat) (jz_x g (i + 3).toNat)) (f8 := fun t => f_X8_drives t (jz_x g (i + 1).toNat) (jz_x g (i + 2).toNat) (jz_x g (i + 3).toNat)) (v8 := fun t => v_X8_drives t (jz_x g (i + 1).toNat) (jz_x g (i + 2).toNat) (jz_x g (i + 3).toNat)) hV (fun t h => o_drives h (jz_x g (i + 1).toNat) (jz_x g (i + 2).toNat) (jz_x g (i + 3).toNat)) (t_drives hV.1 hV.2 (jz_x g (i + 1).toNat) (jz_x g (i + 2).toNat) (jz_x g (i + 3).toNat))
  refine jj_aload_n dL_law_896 rfl ?_
  refine jj_aload_n dL_law_897 rfl ?_
  refine jj_iload_n dL_law_898 rfl ?_
  refine jj_iconst dL_law_899 (kk := ?_)
  refine jj_iadd dL_law_900 (by omega) ?_
  refine jj_sld dL_law_901 rfl (by omega) (by omega) ?_
  refine jj_aload_n dL_law_902 rfl ?_
  refine jj_iload_n dL_law_903 rfl ?_
  refine jj_iconst dL_law_904 (kk := ?_)
  refine jj_iadd dL_law_905 (by omega) ?_
  refine jj_sld dL_law_906 rfl (by omega) (by omega) ?_
  refine jj_aload_n dL_law_907 rfl ?_
  refine jj_iload_n dL_law_908 rfl ?_
  refine jj_iconst dL_law_909 (kk := ?_)
  refine jj_iadd dL_law_910 (by omega) ?_
  refine jj_sld dL_law_911 rfl (by omega) (by omega) ?_
  refine zz_cVi (av := [ji (jz_x g (i + 1).toNat), ji (jz_x g (i + 2).toNat), ji (jz_x g (i + 3).toNat)]) (st' := [ji (v_X7_drives sx (jz_x g (i + 1).toNat) (jz_x g (i + 2).toNat) (jz_x g (i + 3).toNat))]) dL_law_912 kn_L_113 kmX8_drives tt416 rfl rfl rfl (Nat.le_of_ble_eq_true rfl) (Nat.le_of_ble_eq_true rfl) rfl (c_X8_drives g (f_X7_drives sx (jz_x g (i + 1).toNat) (jz_x g (i + 2).toNat) (jz_x g (i + 3).toNat)) (jz_x g (i + 1).toNat) (jz_x g (i + 2).toNat) (jz_x g (i + 3).toNat) hM.1) (fun hr912 ho912 => ?_)
  refine jj_icmp_eq (tgt := 1461) dL_law_915 (by decide) (fun h915 => ?_) (fun h915 => ?_)
  · exact kk _ hN
  · exact absurd he h915
set_option maxRecDepth 100000 in
set_option maxHeartbeats 4000000 in
theorem law_24 (g : jz_G) (hg : jz_L g ≤ 3584) {i : Int} (hi : 0 ≤ i ∧ i + 7 ≤ jz_L g) {sx : jz_St} (hV : Inv sx) (kk : ∀ s' : jz_St, Inv s' → jz_Z g (mLw y) (jq_i (fun z _ => z = 1)) 1461 [some (jr (1000)), some (jr (0)), some (jr (416)), some (ji (i))] [] s') : jz_Z g (mLw y) (jq_i (fun z _ => z = 1)) 920 [some (jr (1000)), some (jr (0)), some (jr (416)), some (ji (i))] [] sx := by
  have hI := hV.1.2.2.1
  refine jj_aload_n dL_law_920 rfl ?_
  refine jj_aload_n dL_law_921 rfl ?_
  refine jj_iload_n dL_law_922 rfl ?_
  refine jj_iconst dL_law_923 (kk := ?_)
  refine jj_iadd dL_law_924 (by omega) ?_
  refine jj_sld dL_law_925 rfl (by omega) (by omega) ?_
  refine jj_aload_n dL_law_926 rfl ?_
  refine jj_iload_n dL_law_927 rfl ?_
  refine jj_iconst dL_law_928 (kk := ?_)
  refine jj_iadd dL_law_929 (by omega) ?_
  refine jj_sld dL_law_930 rfl (by omega) (by omega) ?_
  refine zz_cVi (av := [ji (jz_x g (i + 1).toNat), ji (jz_x g (i + 2).toNat)]) (st' := []) dL_law_931 kn_L_114 kmX7_harm tt0 rfl rfl rfl (Nat.le_of_ble_eq_true rfl) (Nat.le_of_ble_eq_true rfl) rfl (c_X7_harm g sx (jz_x g (i + 1).toNat) (jz_x g (i + 2).toNat) hI) (fun hr931 ho931 => ?_)
  obtain ⟨he, hN, hM⟩ := OK_law (s1 := f_X7_harm sx (jz_x g (i + 1).toNat) (jz_x g (i + 2).toNat)) (f8 := fun t => f_X8_harm t (jz_x g (i + 1).toNat) (jz_x g (i + 2).toNat)) (v8 := fun t => v_X8_harm t (jz_x g (i + 1).toNat) (jz_x g (i + 2).toNat)) hV (fun t h => o_harm h (jz_x g (i + 1).toNat) (jz_x g (i + 2).toNat)) (t_harm hV.1 hV.2 (jz_x g (i + 1).toNat) (jz_x g (i + 2).toNat))
  refine jj_aload_n dL_law_934 rfl ?_
  refine jj_aload_n dL_law_935 rfl ?_
  refine jj_iload_n dL_law_936 rfl ?_
  refine jj_iconst dL_law_937 (kk := ?_)
  refine jj_iadd dL_law_938 (by omega) ?_
  refine jj_sld dL_law_939 rfl (by omega) (by omega) ?_
  refine jj_aload_n dL_law_940 rfl ?_
  refine jj_iload_n dL_law_941 rfl ?_
  refine jj_iconst dL_law_942 (kk := ?_)
  refine jj_iadd dL_law_943 (by omega) ?_
  refine jj_sld dL_law_944 rfl (by omega) (by omega) ?_
  refine zz_cVi (av := [ji (jz_x g (i + 1).toNat), ji (jz_x g (i + 2).toNat)]) (st' := [ji (v_X7_harm sx (jz_x g (i + 1).toNat) (jz_x g (i + 2).toNat))]) dL_law_945 kn_L_117 kmX8_harm tt416 rfl rfl rfl (Nat.le_of_ble_eq_true rfl) (Nat.le_of_ble_eq_true rfl) rfl (c_X8_harm g (f_X7_harm sx (jz_x g (i + 1).toNat) (jz_x g (i + 2).toNat)) (jz_x g (i + 1).toNat) (jz_x g (i + 2).toNat) hM.1) (fun hr945 ho945 => ?_)
  refine jj_icmp_eq (tgt := 1461) dL_law_948 (by decide) (fun h948 => ?_) (fun h948 => ?_)
  · exact kk _ hN
  · exact absurd he h948
set_option maxRecDepth 100000 in
set_option maxHeartbeats 4000000 in
theorem law_25 (g : jz_G) (hg : jz_L g ≤ 3584) {i : Int} (hi : 0 ≤ i ∧ i + 7 ≤ jz_L g) {sx : jz_St} (hV : Inv sx) (kk : ∀ s' : jz_St, Inv s' → jz_Z g (mLw y) (jq_i (fun z _ => z = 1)) 1461 [some (jr (1000)), some (jr (0)), some (jr (416)), some (ji (i))] [] s') : jz_Z g (mLw y) (jq_i (fun z _ => z = 1)) 953 [some (jr (1000)), some (jr (0)), some (jr (416)), some (ji (i))] [] sx := by
  have hI := hV.1.2.2.1
  refine jj_aload_n dL_law_953 rfl ?_
  refine jj_aload_n dL_law_954 rfl ?_
  refine jj_iload_n dL_law_955 rfl ?_
  refine jj_iconst dL_law_956 (kk := ?_)
  refine jj_iadd dL_law_957 (by omega) ?_
  refine jj_sld dL_law_958 rfl (by omega) (by omega) ?_
  refine jj_aload_n dL_law_959 rfl ?_
  refine jj_iload_n dL_law_960 rfl ?_
  refine jj_iconst dL_law_961 (kk := ?_)
  refine jj_iadd dL_law_962 (by omega) ?_
  refine jj_sld dL_law_963 rfl (by omega) (by omega) ?_
  refine jj_aload_n dL_law_964 rfl ?_
  refine jj_iload_n dL_law_965 rfl ?_
  refine jj_iconst dL_law_966 (kk := ?_)
  refine jj_iadd dL_law_967 (by omega) ?_
  refine jj_sld dL_law_968 rfl (by omega) (by omega) ?_
  refine zz_cVi (av := [ji (jz_x g (i + 1).toNat), ji (jz_x g (i + 2).toNat), ji (jz_x g (i + 3).toNat)]) (st' := []) dL_law_969 kn_L_118 kmX7_bait tt0 rfl rfl rfl (Nat.le_of_ble_eq_true rfl) (Nat.le_of_ble_eq_true rfl) rfl (c_X7_bait g sx (jz_x g (i + 1).toNat) (jz_x g (i + 2).toNat) (jz_x g (i + 3).toNat) hI) (fun hr969 ho969 => ?_)
  obtain ⟨he, hN, hM⟩ := OK_law (s1 := f_X7_bait sx (jz_x g (i + 1).toNat) (jz_x g (i + 2).toNat) (jz_x g (i + 3).toNat)) (f8 := fun t => f_X8_bait t (jz_x g (i + 1).toNat) (jz_x g (i + 2).toNat) (jz_x g (i + 3).toNat)) (v8 := fun t => v_X8_bait t (jz_x g (i + 1).toNat) (jz_x g (i + 2).toNat) (jz_x g (i + 3).toNat)) hV (fun t h => o_bait h (jz_x g (i + 1).toNat) (jz_x g (i + 2).toNat) (jz_x g (i + 3).toNat)) (t_bait hV.1 hV.2 (jz_x g (i + 1).toNat) (jz_x g (i + 2).toNat) (jz_x g (i + 3).toNat))
  refine jj_aload_n dL_law_972 rfl ?_
  refine jj_aload_n dL_law_973 rfl ?_
  refine jj_iload_n dL_law_974 rfl ?_
  refine jj_iconst dL_law_975 (kk := ?_)
  refine jj_iadd dL_law_976 (by omega) ?_
  refine jj_sld dL_law_977 rfl (by omega) (by omega) ?_
  refine jj_aload_n dL_law_978 rfl ?_
  refine jj_iload_n dL_law_979 rfl ?_
  refine jj_iconst dL_law_980 (kk := ?_)
  refine jj_iadd dL_law_981 (by omega) ?_
  refine jj_sld dL_law_982 rfl (by omega) (by omega) ?_
  refine jj_aload_n dL_law_983 rfl ?_
  refine jj_iload_n dL_law_984 rfl ?_
  refine jj_iconst dL_law_985 (kk := ?_)
  refine jj_iadd dL_law_986 (by omega) ?_
  refine jj_sld dL_law_987 rfl (by omega) (by omega) ?_
  refine zz_cVi (av := [ji (jz_x g (i + 1).toNat), ji (jz_x g (i + 2).toNat), ji (jz_x g (i + 3).toNat)]) (st' := [ji (v_X7_bait sx (jz_x g (i + 1).toNat) (jz_x g (i + 2).toNat) (jz_x g (i + 3).toNat))]) dL_law_988 kn_L_121 kmX8_bait tt416 rfl rfl rfl (Nat.le_of_ble_eq_true rfl) (Nat.le_of_ble_eq_true rfl) rfl (c_X8_bait g (f_X7_bait sx (jz_x g (i + 1).toNat) (jz_x g (i + 2).toNat) (jz_x g (i + 3).toNat)) (jz_x g (i + 1).toNat) (jz_x g (i + 2).toNat) (jz_x g (i + 3).toNat) hM.1) (fun hr988 ho988 => ?_)
  refine jj_icmp_eq (tgt := 1461) dL_law_991 (by decide) (fun h991 => ?_) (fun h991 => ?_)
  · exact kk _ hN
  · exact absurd he h991
set_option maxRecDepth 100000 in
set_option maxHeartbeats 4000000 in
theorem law_26 (g : jz_G) (hg : jz_L g ≤ 3584) {i : Int} (hi : 0 ≤ i ∧ i + 7 ≤ jz_L g) {sx : jz_St} (hV : Inv sx) (kk : ∀ s' : jz_St, Inv s' → jz_Z g (mLw y) (jq_i (fun z _ => z = 1)) 1461 [some (jr (1000)), some (jr (0)), some (jr (416)), some (ji (i))] [] s') : jz_Z g (mLw y) (jq_i (fun z _ => z = 1)) 996 [some (jr (1000)), some (jr (0)), some (jr (416)), some (ji (i))] [] sx := by
  have hI := hV.1.2.2.1
  refine jj_aload_n dL_law_996 rfl ?_
  refine jj_aload_n dL_law_997 rfl ?_
  refine jj_iload_n dL_law_998 rfl ?_
  refine jj_iconst dL_law_999 (kk := ?_)
  refine jj_iadd dL_law_1000 (by omega) ?_
  refine jj_sld dL_law_1001 rfl (by omega) (by omega) ?_
  refine jj_aload_n dL_law_1002 rfl ?_
  refine jj_iload_n dL_law_1003 rfl ?_
  refine jj_iconst dL_law_1004 (kk := ?_)
  refine jj_iadd dL_law_1005 (by omega) ?_
  refine jj_sld dL_law_1006 rfl (by omega) (by omega) ?_
  refine zz_cVi (av := [ji (jz_x g (i + 1).toNat), ji (jz_x g (i + 2).toNat)]) (st' := []) dL_law_1007 kn_L_122 kmX7_safeHeight tt0 rfl rfl rfl (Nat.le_of_ble_eq_true rfl) (Nat.le_of_ble_eq_true rfl) rfl (c_X7_safeHeight g sx (jz_x g (i + 1).toNat) (jz_x g (i + 2).toNat) hI) (fun hr1007 ho1007 => ?_)
  obtain ⟨he, hN, hM⟩ := OK_law (s1 := f_X7_safeHeight sx (jz_x g (i + 1).toNat) (jz_x g (i + 2).toNat)) (f8 := fun t => f_X8_safeHeight t (jz_x g (i + 1).toNat) (jz_x g (i + 2).toNat)) (v8 := fun t => v_X8_safeHeight t (jz_x g (i + 1).toNat) (jz_x g (i + 2).toNat)) hV (fun t h => o_safeHeight h (jz_x g (i + 1).toNat) (jz_x g (i + 2).toNat)) (t_safeHeight hV.1 hV.2 (jz_x g (i + 1).toNat) (jz_x g (i + 2).toNat))
  refine jj_aload_n dL_law_1010 rfl ?_
  refine jj_aload_n dL_law_1011 rfl ?_
  refine jj_iload_n dL_law_1012 rfl ?_
  refine jj_iconst dL_law_1013 (kk := ?_)
  refine jj_iadd dL_law_1014 (by omega) ?_
  refine jj_sld dL_law_1015 rfl (by omega) (by omega) ?_
  refine jj_aload_n dL_law_1016 rfl ?_
  refine jj_iload_n dL_law_1017 rfl ?_
  refine jj_iconst dL_law_1018 (kk := ?_)
  refine jj_iadd dL_law_1019 (by omega) ?_
  refine jj_sld dL_law_1020 rfl (by omega) (by omega) ?_
  refine zz_cVi (av := [ji (jz_x g (i + 1).toNat), ji (jz_x g (i + 2).toNat)]) (st' := [ji (v_X7_safeHeight sx (jz_x g (i + 1).toNat) (jz_x g (i + 2).toNat))]) dL_law_1021 kn_L_125 kmX8_safeHeight tt416 rfl rfl rfl (Nat.le_of_ble_eq_true rfl) (Nat.le_of_ble_eq_true rfl) rfl (c_X8_safeHeight g (f_X7_safeHeight sx (jz_x g (i + 1).toNat) (jz_x g (i + 2).toNat)) (jz_x g (i + 1).toNat) (jz_x g (i + 2).toNat) hM.1) (fun hr1021 ho1021 => ?_)
  refine jj_icmp_eq (tgt := 1461) dL_law_1024 (by decide) (fun h1024 => ?_) (fun h1024 => ?_)
  · exact kk _ hN
  · exact absurd he h1024
set_option maxRecDepth 100000 in
set_option maxHeartbeats 4000000 in
theorem law_27 (g : jz_G) (hg : jz_L g ≤ 3584) {i : Int} (hi : 0 ≤ i ∧ i + 7 ≤ jz_L g) {sx : jz_St} (hV : Inv sx) (kk : ∀ s' : jz_St, Inv s' → jz_Z g (mLw y) (jq_i (fun z _ => z = 1)) 1461 [some (jr (1000)), some (jr (0)), some (jr (416)), some (ji (i))] [] s') : jz_Z g (mLw y) (jq_i (fun z _ => z = 1)) 1029 [some (jr (1000)), some (jr (0)), some (jr (416)), some (ji (i))] [] sx := by
  have hI := hV.1.2.2.1
  refine jj_aload_n dL_law_1029 rfl ?_
  refine jj_aload_n dL_law_1030 rfl ?_
  refine jj_iload_n dL_law_1031 rfl ?_
  refine jj_iconst dL_law_1032 (kk := ?_)
  refine jj_iadd dL_law_1033 (by omega) ?_
  refine jj_sld dL_law_1034 rfl (by omega) (by omega) ?_
  refine jj_aload_n dL_law_1035 rfl ?_
  refine jj_iload_n dL_law_1036 rfl ?_
  refine jj_iconst dL_law_1037 (kk := ?_)
  refine jj_iadd dL_law_1038 (by omega) ?_
  refine jj_sld dL_law_1039 rfl (by omega) (by omega) ?_
  refine jj_aload_n dL_law_1040 rfl ?_
  refine jj_iload_n dL_law_1041 rfl ?_
  refine jj_iconst dL_law_1042 (kk := ?_)
  refine jj_iadd dL_law_1043 (by omega) ?_
  refine jj_sld dL_law_1044 rfl (by omega) (by omega) ?_
  refine jj_aload_n dL_law_1045 rfl ?_
  refine jj_iload_n dL_law_1046 rfl ?_
  refine jj_iconst dL_law_1047 (kk := ?_)
  refine jj_iadd dL_law_1048 (by omega) ?_
  refine jj_sld dL_law_1049 rfl (by omega) (by omega) ?_
  refine jj_aload_n dL_law_1050 rfl ?_
  refine jj_iload_n dL_law_1051 rfl ?_
  refine jj_iconst dL_law_1052 (kk := ?_)
  refine jj_iadd dL_law_1053 (by omega) ?_
  refine jj_sld dL_law_1054 rfl (by omega) (by omega) ?_
  refine jj_aload_n dL_law_1055 rfl ?_
  refine jj_iload_n dL_law_1056 rfl ?_
  refine jj_bipush dL_law_1057 (kk := ?_)
  refine jj_iadd dL_law_1059 (by omega) ?_
  refine jj_sld dL_law_1060 rfl (by omega) (by omega) ?_
  refine zz_cVi (av := [ji (jz_x g (i + 1).toNat), ji (jz_x g (i + 2).toNat), ji (jz_x g (i + 3).toNat), ji (jz_x g (i + 4).toNat), ji (jz_x g (i + 5).toNat), ji (jz_x g (i + 6).toNat)]) (st' := []) dL_law_1061 kn_L_126 kmX7_who tt0 rfl rfl rfl (Nat.le_of_ble_eq_true rfl) (Nat.le_of_ble_eq_true rfl) rfl (c_X7_who g sx (jz_x g (i + 1).toNat) (jz_x g (i + 2).toNat) (jz_x g (i + 3).toNat) (jz_x g (i + 4).toNat) (jz_x g (i + 5).toNat) (jz_x g (i + 6).toNat) hI) (fun hr1061 ho1061 => ?_)
  obtain ⟨he, hN, hM⟩ := OK_law (s1 := f_X7_who sx (jz_x g (i + 1).toNat) (jz_x g (i + 2).toNat) (jz_x g (i + 3).toNat) (jz_x g (i + 4).toNat) (jz_x g (i + 5).toNat) (jz_x g (i + 6).toNat)) (f8 := fun t => f_X8_who t (jz_x g (i + 1).toNat) (jz_x g (i + 2).toNat) (jz_x g (i + 3).toNat) (jz_x g (i + 4).toNat) (jz_x g (i + 5).toNat) (jz_x g (i + 6).toNat)) (v8 := fun t => v_X8_who t (jz_x g (i + 1).toNat) (jz_x g (i + 2).toNat) (jz_x g (i + 3).toNat) (jz_x g (i + 4).toNat) (jz_x g (i + 5).toNat) (jz_x g (i + 6).toNat)) hV (fun t h => o_who h (jz_x g (i + 1).toNat) (jz_x g (i + 2).toNat) (jz_x g (i + 3).toNat) (jz_x g (i + 4).toNat) (jz_x g (i + 5).toNat) (jz_x g (i + 6).toNat)) (t_who hV.1 hV.2 (jz_x g (i + 1).toNat) (jz_x g (i + 2).toNat) (jz_x g (i + 3).toNat) (jz_x g (i + 4).toNat) (jz_x g (i + 5).toNat) (jz_x g (i + 6).toNat))
  refine jj_aload_n dL_law_1064 rfl ?_
  refine jj_aload_n dL_law_1065 rfl ?_
  refine jj_iload_n dL_law_1066 rfl ?_
  refine jj_iconst dL_law_1067 (kk := ?_)
  refine jj_iadd dL_law_1068 (by omega) ?_
  refine jj_sld dL_law_1069 rfl (by omega) (by omega) ?_
  refine jj_aload_n dL_law_1070 rfl ?_
  refine jj_iload_n dL_law_1071 rfl ?_
  refine jj_iconst dL_law_1072 (kk := ?_)
  refine jj_iadd dL_law_1073 (by omega) ?_
  refine jj_sld dL_law_1074 rfl (by omega) (by omega) ?_
  refine jj_aload_n dL_law_1075 rfl ?_
  refine jj_iload_n dL_law_1076 rfl ?_
  refine jj_iconst dL_law_1077 (kk := ?_)
  refine jj_iadd dL_law_1078 (by omega) ?_
  refine jj_sld dL_law_1079 rfl (by omega) (by omega) ?_
  refine jj_aload_n dL_law_1080 rfl ?_
  refine jj_iload_n dL_law_1081 rfl ?_
  refine jj_iconst dL_law_1082 (kk := ?_)
  refine jj_iadd dL_law_1083 (by omega) ?_
  refine jj_sld dL_law_1084 rfl (by omega) (by omega) ?_
  refine jj_aload_n dL_law_1085 rfl ?_
  refine jj_iload_n dL_law_1086 rfl ?_
  refine jj_iconst dL_law_1087 (kk := ?_)
  refine jj_iadd dL_law_1088 (by omega) ?_
  refine jj_sld dL_law_1089 rfl (by omega) (by omega) ?_
  refine jj_aload_n dL_law_1090 rfl ?_
  refine jj_iload_n dL_law_1091 rfl ?_
  refine jj_bipush dL_law_1092 (kk := ?_)
  refine jj_iadd dL_law_1094 (by omega) ?_
  refine jj_sld dL_law_1095 rfl (by omega) (by omega) ?_
  refine zz_cVi (av := [ji (jz_x g (i + 1).toNat), ji (jz_x g (i + 2).toNat), ji (jz_x g (i + 3).toNat), ji (jz_x g (i + 4).toNat), ji (jz_x g (i + 5).toNat), ji (jz_x g (i + 6).toNat)]) (st' := [ji (v_X7_who sx (jz_x g (i + 1).toNat) (jz_x g (i + 2).toNat) (jz_x g (i + 3).toNat) (jz_x g (i + 4).toNat) (jz_x g (i + 5).toNat) (jz_x g (i + 6).toNat))]) dL_law_1096 kn_L_130 kmX8_who tt416 rfl rfl rfl (Nat.le_of_ble_eq_true rfl) (Nat.le_of_ble_eq_true rfl) rfl (c_X8_who g (f_X7_who sx (jz_x g (i + 1).toNat) (jz_x g (i + 2).toNat) (jz_x g (i + 3).toNat) (jz_x g (i + 4).toNat) (jz_x g (i + 5).toNat) (jz_x g (i + 6).toNat)) (jz_x g (i + 1).toNat) (jz_x g (i + 2).toNat) (jz_x g (i + 3).toNat) (jz_x g (i + 4).toNat) (jz_x g (i + 5).toNat) (jz_x g (i + 6).toNat) hM.1) (fun hr1096 ho1096 => ?_)
  refine jj_icmp_eq (tgt := 1461) dL_law_1099 (by decide) (fun h1099 => ?_) (fun h1099 => ?_)
  · exact kk _ hN
  · exact absurd he h1099
set_option maxRecDepth 100000 in
set_option maxHeartbeats 4000000 in
theorem law_28 (g : jz_G) (hg : jz_L g ≤ 3584) {i : Int} (hi : 0 ≤ i ∧ i + 7 ≤ jz_L g) {sx : jz_St} (hV : Inv sx) (kk : ∀ s' : jz_St, Inv s' → jz_Z g (mLw y) (jq_i (fun z _ => z = 1)) 1461 [some (jr (1000)), some (jr (0)), some (jr (416)), some (ji (i))] [] s') : jz_Z g (mLw y) (jq_i (fun z _ => z = 1)) 1104 [some (jr (1000)), some (jr (0)), some (jr (416)), some (ji (i))] [] sx := by
  have hI := hV.1.2.2.1
  refine jj_aload_n dL_law_1104 rfl ?_
  refine jj_aload_n dL_law_1105 rfl ?_
  refine jj_iload_n dL_law_1106 rfl ?_
  refine jj_iconst dL_law_1107 (kk := ?_)
  refine jj_iadd dL_law_1108 (by omega) ?_
  refine jj_sld dL_law_1109 rfl (by omega) (by omega) ?_
  refine jj_aload_n dL_law_1110 rfl ?_
  refine jj_iload_n dL_law_1111 rfl ?_
  refine jj_iconst dL_law_1112 (kk := ?_)
  refine jj_iadd dL_law_1113 (by omega) ?_
  refine jj_sld dL_law_1114 rfl (by omega) (by omega) ?_
  refine jj_aload_n dL_law_1115 rfl ?_
  refine jj_iload_n dL_law_1116 rfl ?_
  refine jj_iconst dL_law_1117 (kk := ?_)
  refine jj_iadd dL_law_1118 (by omega) ?_
  refine jj_sld dL_law_1119 rfl (by omega) (by omega) ?_
  refine jj_aload_n dL_law_1120 rfl ?_
  refine jj_iload_n dL_law_1121 rfl ?_
  refine jj_iconst dL_law_1122 (kk := ?_)
  refine jj_iadd dL_law_1123 (by omega) ?_
  refine jj_sld dL_law_1124 rfl (by omega) (by omega) ?_
  refine zz_cVi (av := [ji (jz_x g (i + 1).toNat), ji (jz_x g (i + 2).toNat), ji (jz_x g (i + 3).toNat), ji (jz_x g (i + 4).toNat)]) (st' := []) dL_law_1125 kn_L_131 kmX7_strayed tt0 rfl rfl rfl (Nat.le_of_ble_eq_true rfl) (Nat.le_of_ble_eq_true rfl) rfl (c_X7_strayed g sx (jz_x g (i + 1).toNat) (jz_x g (i + 2).toNat) (jz_x g (i + 3).toNat) (jz_x g (i + 4).toNat) hI) (fun hr1125 ho1125 => ?_)
  obtain ⟨he, hN, hM⟩ := OK_law (s1 := f_X7_strayed sx (jz_x g (i + 1).toNat) (jz_x g (i + 2).toNat) (jz_x g (i + 3).toNat) (jz_x g (i + 4).toNat)) (f8 := fun t => f_X8_strayed t (jz_x g (i + 1).toNat) (jz_x g (i + 2).toNat) (jz_x g (i + 3).toNat) (jz_x g (i + 4).toNat)) (v8 := fun t => v_X8_strayed t (jz_x g (i + 1).toNat) (jz_x g (i + 2).toNat) (jz_x g (i + 3).toNat) (jz_x g (i + 4).toNat)) hV (fun t h => o_strayed h (jz_x g (i + 1).toNat) (jz_x g (i + 2).toNat) (jz_x g (i + 3).toNat) (jz_x g (i + 4).toNat)) (t_strayed hV.1 hV.2 (jz_x g (i + 1).toNat) (jz_x g (i + 2).toNat) (jz_x g (i + 3).toNat) (jz_x g (i + 4).toNat))
  refine jj_aload_n dL_law_1128 rfl ?_
  refine jj_aload_n dL_law_1129 rfl ?_
  refine jj_iload_n dL_law_1130 rfl ?_
  refine jj_iconst dL_law_1131 (kk := ?_)
  refine jj_iadd dL_law_1132 (by omega) ?_
  refine jj_sld dL_law_1133 rfl (by omega) (by omega) ?_
  refine jj_aload_n dL_law_1134 rfl ?_
  refine jj_iload_n dL_law_1135 rfl ?_
  refine jj_iconst dL_law_1136 (kk := ?_)
  refine jj_iadd dL_law_1137 (by omega) ?_
  refine jj_sld dL_law_1138 rfl (by omega) (by omega) ?_
  refine jj_aload_n dL_law_1139 rfl ?_
  refine jj_iload_n dL_law_1140 rfl ?_
  refine jj_iconst dL_law_1141 (kk := ?_)
  refine jj_iadd dL_law_1142 (by omega) ?_
  refine jj_sld dL_law_1143 rfl (by omega) (by omega) ?_
  refine jj_aload_n dL_law_1144 rfl ?_
  refine jj_iload_n dL_law_1145 rfl ?_
  refine jj_iconst dL_law_1146 (kk := ?_)
  refine jj_iadd dL_law_1147 (by omega) ?_
  refine jj_sld dL_law_1148 rfl (by omega) (by omega) ?_
  refine zz_cVi (av := [ji (jz_x g (i + 1).toNat), ji (jz_x g (i + 2).toNat), ji (jz_x g (i + 3).toNat), ji (jz_x g (i + 4).toNat)]) (st' := [ji (v_X7_strayed sx (jz_x g (i + 1).toNat) (jz_x g (i + 2).toNat) (jz_x g (i + 3).toNat) (jz_x g (i + 4).toNat))]) dL_law_1149 kn_L_135 kmX8_strayed tt416 rfl rfl rfl (Nat.le_of_ble_eq_true rfl) (Nat.le_of_ble_eq_true rfl) rfl (c_X8_strayed g (f_X7_strayed sx (jz_x g (i + 1).toNat) (jz_x g (i + 2).toNat) (jz_x g (i + 3).toNat) (jz_x g (i + 4).toNat)) (jz_x g (i + 1).toNat) (jz_x g (i + 2).toNat) (jz_x g (i + 3).toNat) (jz_x g (i + 4).toNat) hM.1) (fun hr1149 ho1149 => ?_)
  refine jj_icmp_eq (tgt := 1461) dL_law_1152 (by decide) (fun h1152 => ?_) (fun h1152 => ?_)
  · exact kk _ hN
  · exact absurd he h1152
set_option maxRecDepth 100000 in
set_option maxHeartbeats 4000000 in
theorem law_29 (g : jz_G) (hg : jz_L g ≤ 3584) {i : Int} (hi : 0 ≤ i ∧ i + 7 ≤ jz_L g) {sx : jz_St} (hV : Inv sx) (kk : ∀ s' : jz_St, Inv s' → jz_Z g (mLw y) (jq_i (fun z _ => z = 1)) 1461 [some (jr (1000)), some (jr (0)), some (jr (416)), some (ji (i))] [] s') : jz_Z g (mLw y) (jq_i (fun z _ => z = 1)) 1157 [some (jr (1000)), some (jr (0)), some (jr (416)), some (ji (i))] [] sx := by
  have hI := hV.1.2.2.1
  refine jj_aload_n dL_law_1157 rfl ?_
  refine jj_aload_n dL_law_1158 rfl ?_
  refine jj_iload_n dL_law_1159 rfl ?_
  refine jj_iconst dL_law_1160 (kk := ?_)
  refine jj_iadd dL_law_1161 (by omega) ?_
  refine jj_sld dL_law_1162 rfl (by omega) (by omega) ?_
  refine zz_cVi (av := [ji (jz_x g (i + 1).toNat)]) (st' := []) dL_law_1163 kn_L_136 kmX7_rivals tt0 rfl rfl rfl (Nat.le_of_ble_eq_true rfl) (Nat.le_of_ble_eq_true rfl) rfl (c_X7_rivals g sx (jz_x g (i + 1).toNat) hI) (fun hr1163 ho1163 => ?_)
  have he := o_rivals hV.1 (jz_x g (i + 1).toNat)
  have hN := hV
  have hM := hV.1.2.1
  refine jj_aload_n dL_law_1166 rfl ?_
  refine jj_aload_n dL_law_1167 rfl ?_
  refine jj_iload_n dL_law_1168 rfl ?_
  refine jj_iconst dL_law_1169 (kk := ?_)
  refine jj_iadd dL_law_1170 (by omega) ?_
  refine jj_sld dL_law_1171 rfl (by omega) (by omega) ?_
  refine zz_cVi (av := [ji (jz_x g (i + 1).toNat)]) (st' := [ji (v_X7_rivals sx (jz_x g (i + 1).toNat))]) dL_law_1172 kn_L_139 kmX8_rivals tt416 rfl rfl rfl (Nat.le_of_ble_eq_true rfl) (Nat.le_of_ble_eq_true rfl) rfl (c_X8_rivals g sx (jz_x g (i + 1).toNat) hM.1) (fun hr1172 ho1172 => ?_)
  refine jj_icmp_eq (tgt := 1461) dL_law_1175 (by decide) (fun h1175 => ?_) (fun h1175 => ?_)
  · exact kk _ hN
  · exact absurd he h1175
