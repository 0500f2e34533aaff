theorem kl0_0 : u_lay RX0 TX0 0 ∈ jz_GW := jz_in 218 (by decide +kernel) (by decide +kernel)
theorem kl0_1 : u_lay RX0 TX0 1 ∈ jz_GW := jz_in 220 (by decide +kernel) (by decide +kernel)
theorem kl0_2 : u_lay RX0 TX0 2 ∈ jz_GW := jz_in 222 (by decide +kernel) (by decide +kernel)
theorem kl0_3 : u_lay RX0 TX0 3 ∈ jz_GW := jz_in 224 (by decide +kernel) (by decide +kernel)
theorem kl0_4 : u_lay RX0 TX0 4 ∈ jz_GW := jz_in 226 (by decide +kernel) (by decide +kernel)
theorem kl0 : ∀ k, k < 5 → u_lay RX0 TX0 k ∈ jz_GW := fun k hk => match k, hk with | 0, _ => kl0_0 | 1, _ => kl0_1 | 2, _ => kl0_2 | 3, _ => kl0_3 | 4, _ => kl0_4 | k + 5, h => absurd h (by omega)
theorem kc0 : jz_cf 0 RX0 TX0 5 := ⟨rfl, rfl, fun w hw => by
  obtain ⟨k, hk, rfl⟩ := List.mem_map.mp hw
  exact kl0 k (List.mem_range.mp hk), nmX0, tyX0, tyX0_ok⟩
theorem kl1_0 : u_lay RX1 TX1 0 ∈ jz_GW := jz_in 184 (by decide +kernel) (by decide +kernel)
theorem kl1_1 : u_lay RX1 TX1 1 ∈ jz_GW := jz_in 186 (by decide +kernel) (by decide +kernel)
theorem kl1_2 : u_lay RX1 TX1 2 ∈ jz_GW := jz_in 188 (by decide +kernel) (by decide +kernel)
theorem kl1_3 : u_lay RX1 TX1 3 ∈ jz_GW := jz_in 190 (by decide +kernel) (by decide +kernel)
theorem kl1_4 : u_lay RX1 TX1 4 ∈ jz_GW := jz_in 192 (by decide +kernel) (by decide +kernel)
theorem kl1_5 : u_lay RX1 TX1 5 ∈ jz_GW := jz_in 194 (by decide +kernel) (by decide +kernel)
theorem kl1_6 : u_lay RX1 TX1 6 ∈ jz_GW := jz_in 196 (by decide +kernel) (by decide +kernel)
theorem kl1 : ∀ k, k < 7 → u_lay RX1 TX1 k ∈ jz_GW := fun k hk => match k, hk with | 0, _ => kl1_0 | 1, _ => kl1_1 | 2, _ => kl1_2 | 3, _ => kl1_3 | 4, _ => kl1_4 | 5, _ => kl1_5 | 6, _ => kl1_6 | k + 7, h => absurd h (by omega)
theorem kc1 : jz_cf 1 RX1 TX1 7 := ⟨rfl, rfl, fun w hw => by
  obtain ⟨k, hk, rfl⟩ := List.mem_map.mp hw
  exact kl1 k (List.mem_range.mp hk), nmX1, tyX1, tyX1_ok⟩
theorem kl2_0 : u_lay RX2 TX2 0 ∈ jz_GW := jz_in 286 (by decide +kernel) (by decide +kernel)
theorem kl2_1 : u_lay RX2 TX2 1 ∈ jz_GW := jz_in 288 (by decide +kernel) (by decide +kernel)
theorem kl2 : ∀ k, k < 2 → u_lay RX2 TX2 k ∈ jz_GW := fun k hk => match k, hk with | 0, _ => kl2_0 | 1, _ => kl2_1 | k + 2, h => absurd h (by omega)
theorem kc2 : jz_cf 2 RX2 TX2 2 := ⟨rfl, rfl, fun w hw => by
  obtain ⟨k, hk, rfl⟩ := List.mem_map.mp hw
  exact kl2 k (List.mem_range.mp hk), nmX2, tyX2, tyX2_ok⟩
theorem kl3_0 : u_lay RX3 TX3 0 ∈ jz_GW := jz_in 270 (by decide +kernel) (by decide +kernel)
theorem kl3_1 : u_lay RX3 TX3 1 ∈ jz_GW := jz_in 272 (by decide +kernel) (by decide +kernel)
theorem kl3_2 : u_lay RX3 TX3 2 ∈ jz_GW := jz_in 274 (by decide +kernel) (by decide +kernel)
theorem kl3 : ∀ k, k < 3 → u_lay RX3 TX3 k ∈ jz_GW := fun k hk => match k, hk with | 0, _ => kl3_0 | 1, _ => kl3_1 | 2, _ => kl3_2 | k + 3, h => absurd h (by omega)
theorem kc3 : jz_cf 3 RX3 TX3 3 := ⟨rfl, rfl, fun w hw => by
  obtain ⟨k, hk, rfl⟩ := List.mem_map.mp hw
  exact kl3 k (List.mem_range.mp hk), nmX3, tyX3, tyX3_ok⟩
theorem kl4_0 : u_lay RX4 TX4 0 ∈ jz_GW := jz_in 306 (by decide +kernel) (by decide +kernel)
theorem kl4_1 : u_lay RX4 TX4 1 ∈ jz_GW := jz_in 308 (by decide +kernel) (by decide +kernel)
theorem kl4_2 : u_lay RX4 TX4 2 ∈ jz_GW := jz_in 310 (by decide +kernel) (by decide +kernel)
theorem kl4_3 : u_lay RX4 TX4 3 ∈ jz_GW := jz_in 312 (by decide +kernel) (by decide +kernel)
theorem kl4 : ∀ k, k < 4 → u_lay RX4 TX4 k ∈ jz_GW := fun k hk => match k, hk with | 0, _ => kl4_0 | 1, _ => kl4_1 | 2, _ => kl4_2 | 3, _ => kl4_3 | k + 4, h => absurd h (by omega)
theorem kc4 : jz_cf 4 RX4 TX4 4 := ⟨rfl, rfl, fun w hw => by
  obtain ⟨k, hk, rfl⟩ := List.mem_map.mp hw
  exact kl4 k (List.mem_range.mp hk), nmX4, tyX4, tyX4_ok⟩
theorem kl5_0 : u_lay RX5 TX5 0 ∈ jz_GW := jz_in 249 (by decide +kernel) (by decide +kernel)
theorem kl5_1 : u_lay RX5 TX5 1 ∈ jz_GW := jz_in 251 (by decide +kernel) (by decide +kernel)
theorem kl5_2 : u_lay RX5 TX5 2 ∈ jz_GW := jz_in 253 (by decide +kernel) (by decide +kernel)
theorem kl5_3 : u_lay RX5 TX5 3 ∈ jz_GW := jz_in 255 (by decide +kernel) (by decide +kernel)
theorem kl5_4 : u_lay RX5 TX5 4 ∈ jz_GW := jz_in 257 (by decide +kernel) (by decide +kernel)
theorem kl5_5 : u_lay RX5 TX5 5 ∈ jz_GW := jz_in 259 (by decide +kernel) (by decide +kernel)
theorem kl5_6 : u_lay RX5 TX5 6 ∈ jz_GW := jz_in 261 (by decide +kernel) (by decide +kernel)
theorem kl5_7 : u_lay RX5 TX5 7 ∈ jz_GW := jz_in 263 (by decide +kernel) (by decide +kernel)
theorem kl5 : ∀ k, k < 8 → u_lay RX5 TX5 k ∈ jz_GW := fun k hk => match k, hk with | 0, _ => kl5_0 | 1, _ => kl5_1 | 2, _ => kl5_2 | 3, _ => kl5_3 | 4, _ => kl5_4 | 5, _ => kl5_5 | 6, _ => kl5_6 | 7, _ => kl5_7 | k + 8, h => absurd h (by omega)
theorem kc5 : jz_cf 5 RX5 TX5 8 := ⟨rfl, rfl, fun w hw => by
  obtain ⟨k, hk, rfl⟩ := List.mem_map.mp hw
  exact kl5 k (List.mem_range.mp hk), nmX5, tyX5, tyX5_ok⟩
theorem kl6_0 : u_lay RX6 TX6 0 ∈ jz_GW := jz_in 123 (by decide +kernel) (by decide +kernel)
theorem kl6_1 : u_lay RX6 TX6 1 ∈ jz_GW := jz_in 125 (by decide +kernel) (by decide +kernel)
theorem kl6_2 : u_lay RX6 TX6 2 ∈ jz_GW := jz_in 127 (by decide +kernel) (by decide +kernel)
theorem kl6_3 : u_lay RX6 TX6 3 ∈ jz_GW := jz_in 129 (by decide +kernel) (by decide +kernel)
theorem kl6_4 : u_lay RX6 TX6 4 ∈ jz_GW := jz_in 131 (by decide +kernel) (by decide +kernel)
theorem kl6_5 : u_lay RX6 TX6 5 ∈ jz_GW := jz_in 133 (by decide +kernel) (by decide +kernel)
theorem kl6_6 : u_lay RX6 TX6 6 ∈ jz_GW := jz_in 135 (by decide +kernel) (by decide +kernel)
theorem kl6 : ∀ k, k < 7 → u_lay RX6 TX6 k ∈ jz_GW := fun k hk => match k, hk with | 0, _ => kl6_0 | 1, _ => kl6_1 | 2, _ => kl6_2 | 3, _ => kl6_3 | 4, _ => kl6_4 | 5, _ => kl6_5 | 6, _ => kl6_6 | k + 7, h => absurd h (by omega)
theorem kc6 : jz_cf 6 RX6 TX6 7 := ⟨rfl, rfl, fun w hw => by
  obtain ⟨k, hk, rfl⟩ := List.mem_map.mp hw
  exact kl6 k (List.mem_range.mp hk), nmX6, tyX6, tyX6_ok⟩
theorem kl7_0 : u_lay RX7 TX7 0 ∈ jz_GW := jz_in 325 (by decide +kernel) (by decide +kernel)
theorem kl7_1 : u_lay RX7 TX7 1 ∈ jz_GW := jz_in 327 (by decide +kernel) (by decide +kernel)
theorem kl7_2 : u_lay RX7 TX7 2 ∈ jz_GW := jz_in 329 (by decide +kernel) (by decide +kernel)
theorem kl7_3 : u_lay RX7 TX7 3 ∈ jz_GW := jz_in 331 (by decide +kernel) (by decide +kernel)
theorem kl7_4 : u_lay RX7 TX7 4 ∈ jz_GW := jz_in 333 (by decide +kernel) (by decide +kernel)
theorem kl7_5 : u_lay RX7 TX7 5 ∈ jz_GW := jz_in 335 (by decide +kernel) (by decide +kernel)
theorem kl7_6 : u_lay RX7 TX7 6 ∈ jz_GW := jz_in 337 (by decide +kernel) (by decide +kernel)
theorem kl7_7 : u_lay RX7 TX7 7 ∈ jz_GW := jz_in 339 (by decide +kernel) (by decide +kernel)
theorem kl7_8 : u_lay RX7 TX7 8 ∈ jz_GW := jz_in 341 (by decide +kernel) (by decide +kernel)
theorem kl7_9 : u_lay RX7 TX7 9 ∈ jz_GW := jz_in 343 (by decide +kernel) (by decide +kernel)
theorem kl7 : ∀ k, k < 10 → u_lay RX7 TX7 k ∈ jz_GW := fun k hk => match k, hk with | 0, _ => kl7_0 | 1, _ => kl7_1 | 2, _ => kl7_2 | 3, _ => kl7_3 | 4, _ => kl7_4 | 5, _ => kl7_5 | 6, _ => kl7_6 | 7, _ => kl7_7 | 8, _ => kl7_8 | 9, _ => kl7_9 | k + 10, h => absurd h (by omega)
theorem kc7 : jz_cf 7 RX7 TX7 10 := ⟨rfl, rfl, fun w hw => by
  obtain ⟨k, hk, rfl⟩ := List.mem_map.mp hw
  exact kl7 k (List.mem_range.mp hk), nmX7, tyX7, tyX7_ok⟩
theorem kl8_0 : u_lay RX8 TX8 0 ∈ jz_GW := jz_in 826 (by decide +kernel) (by decide +kernel)
theorem kl8_1 : u_lay RX8 TX8 1 ∈ jz_GW := jz_in 828 (by decide +kernel) (by decide +kernel)
theorem kl8_2 : u_lay RX8 TX8 2 ∈ jz_GW := jz_in 830 (by decide +kernel) (by decide +kernel)
theorem kl8_3 : u_lay RX8 TX8 3 ∈ jz_GW := jz_in 832 (by decide +kernel) (by decide +kernel)
theorem kl8_4 : u_lay RX8 TX8 4 ∈ jz_GW := jz_in 834 (by decide +kernel) (by decide +kernel)
theorem kl8_5 : u_lay RX8 TX8 5 ∈ jz_GW := jz_in 836 (by decide +kernel) (by decide +kernel)
theorem kl8_6 : u_lay RX8 TX8 6 ∈ jz_GW := jz_in 838 (by decide +kernel) (by decide +kernel)
theorem kl8_7 : u_lay RX8 TX8 7 ∈ jz_GW := jz_in 840 (by decide +kernel) (by decide +kernel)
theorem kl8_8 : u_lay RX8 TX8 8 ∈ jz_GW := jz_in 842 (by decide +kernel) (by decide +kernel)
theorem kl8_9 : u_lay RX8 TX8 9 ∈ jz_GW := jz_in 844 (by decide +kernel) (by decide +kernel)
theorem kl8_10 : u_lay RX8 TX8 10 ∈ jz_GW := jz_in 846 (by decide +kernel) (by decide +kernel)
theorem kl8_11 : u_lay RX8 TX8 11 ∈ jz_GW := jz_in 848 (by decide +kernel) (by decide +kernel)
theorem kl8_12 : u_lay RX8 TX8 12 ∈ jz_GW := jz_in 850 (by decide +kernel) (by decide +kernel)
theorem kl8_13 : u_lay RX8 TX8 13 ∈ jz_GW := jz_in 852 (by decide +kernel) (by decide +kernel)
theorem kl8_14 : u_lay RX8 TX8 14 ∈ jz_GW := jz_in 854 (by decide +kernel) (by decide +kernel)
theorem kl8_15 : u_lay RX8 TX8 15 ∈ jz_GW := jz_in 856 (by decide +kernel) (by decide +kernel)
theorem kl8_16 : u_lay RX8 TX8 16 ∈ jz_GW := jz_in 858 (by decide +kernel) (by decide +kernel)
theorem kl8_17 : u_lay RX8 TX8 17 ∈ jz_GW := jz_in 860 (by decide +kernel) (by decide +kernel)
theorem kl8_18 : u_lay RX8 TX8 18 ∈ jz_GW := jz_in 862 (by decide +kernel) (by decide +kernel)
theorem kl8_19 : u_lay RX8 TX8 19 ∈ jz_GW := jz_in 864 (by decide +kernel) (by decide +kernel)
theorem kl8_20 : u_lay RX8 TX8 20 ∈ jz_GW := jz_in 866 (by decide +kernel) (by decide +kernel)
theorem kl8_21 : u_lay RX8 TX8 21 ∈ jz_GW := jz_in 868 (by decide +kernel) (by decide +kernel)
theorem kl8_22 : u_lay RX8 TX8 22 ∈ jz_GW := jz_in 870 (by decide +kernel) (by decide +kernel)
theorem kl8_23 : u_lay RX8 TX8 23 ∈ jz_GW := jz_in 872 (by decide +kernel) (by decide +kernel)
theorem kl8_24 : u_lay RX8 TX8 24 ∈ jz_GW := jz_in 874 (by decide +kernel) (by decide +kernel)
theorem kl8 : ∀ k, k < 25 → u_lay RX8 TX8 k ∈ jz_GW := fun k hk => match k, hk with | 0, _ => kl8_0 | 1, _ => kl8_1 | 2, _ => kl8_2 | 3, _ => kl8_3 | 4, _ => kl8_4 | 5, _ => kl8_5 | 6, _ => kl8_6 | 7, _ => kl8_7 | 8, _ => kl8_8 | 9, _ => kl8_9 | 10, _ => kl8_10 | 11, _ => kl8_11 | 12, _ => kl8_12 | 13, _ => kl8_13 | 14, _ => kl8_14 | 15, _ => kl8_15 | 16, _ => kl8_16 | 17, _ => kl8_17 | 18, _ => kl8_18 | 19, _ => kl8_19 | 20, _ => kl8_20 | 21, _ => kl8_21 | 22, _ => kl8_22 | 23, _ => kl8_23 | 24, _ => kl8_24 | k + 25, h => absurd h (by omega)
theorem kc8 : jz_cf 8 RX8 TX8 25 := ⟨rfl, rfl, fun w hw => by
  obtain ⟨k, hk, rfl⟩ := List.mem_map.mp hw
  exact kl8 k (List.mem_range.mp hk), nmX8, tyX8, tyX8_ok⟩
theorem kf_X7_11 : jz_Fd RX7 11 7 0 := ⟨_, _, _, kc7, by decide, rfl, Or.inl (jz_in 315 (by decide +kernel) rfl)⟩
theorem kw_X7_11 : jz_Fw RX7 11 7 0 (.array (.object "VineLaws$Row")) true := ⟨_, _, _, kc7, by decide, rfl, Or.inl (jz_in 315 (by decide +kernel) rfl), by decide +kernel, rfl, fun _ => rfl⟩
theorem kf_X7_18 : jz_Fd RX7 18 7 1 := ⟨_, _, _, kc7, by decide, rfl, Or.inl (jz_in 316 (by decide +kernel) rfl)⟩
theorem kw_X7_18 : jz_Fw RX7 18 7 1 (.object "VineLaws$Tape") true := ⟨_, _, _, kc7, by decide, rfl, Or.inl (jz_in 316 (by decide +kernel) rfl), by decide +kernel, rfl, fun _ => rfl⟩
theorem kf_X7_25 : jz_Fd RX7 25 7 2 := ⟨_, _, _, kc7, by decide, rfl, Or.inl (jz_in 317 (by decide +kernel) rfl)⟩
theorem kw_X7_25 : jz_Fw RX7 25 7 2 (.object "VineLaws$Past") true := ⟨_, _, _, kc7, by decide, rfl, Or.inl (jz_in 317 (by decide +kernel) rfl), by decide +kernel, rfl, fun _ => rfl⟩
theorem kf_X7_32 : jz_Fd RX7 32 7 3 := ⟨_, _, _, kc7, by decide, rfl, Or.inl (jz_in 318 (by decide +kernel) rfl)⟩
theorem kw_X7_32 : jz_Fw RX7 32 7 3 (.object "VineLaws$Notes") true := ⟨_, _, _, kc7, by decide, rfl, Or.inl (jz_in 318 (by decide +kernel) rfl), by decide +kernel, rfl, fun _ => rfl⟩
theorem kf_X7_39 : jz_Fd RX7 39 7 4 := ⟨_, _, _, kc7, by decide, rfl, Or.inl (jz_in 319 (by decide +kernel) rfl)⟩
theorem kw_X7_39 : jz_Fw RX7 39 7 4 (.object "VineLaws$Square") true := ⟨_, _, _, kc7, by decide, rfl, Or.inl (jz_in 319 (by decide +kernel) rfl), by decide +kernel, rfl, fun _ => rfl⟩
theorem kf_X7_43 : jz_Fd RX7 43 7 5 := ⟨_, _, _, kc7, by decide, rfl, Or.inl (jz_in 320 (by decide +kernel) rfl)⟩
theorem kw_X7_43 : jz_Fw RX7 43 7 5 (.object "VineLaws$Square") true := ⟨_, _, _, kc7, by decide, rfl, Or.inl (jz_in 320 (by decide +kernel) rfl), by decide +kernel, rfl, fun _ => rfl⟩
theorem kf_X7_46 : jz_Fd RX7 46 7 6 := ⟨_, _, _, kc7, by decide, rfl, Or.inl (jz_in 321 (by decide +kernel) rfl)⟩
theorem kw_X7_46 : jz_Fw RX7 46 7 6 (.object "VineLaws$Square") true := ⟨_, _, _, kc7, by decide, rfl, Or.inl (jz_in 321 (by decide +kernel) rfl), by decide +kernel, rfl, fun _ => rfl⟩
theorem kf_X7_49 : jz_Fd RX7 49 7 7 := ⟨_, _, _, kc7, by decide, rfl, Or.inl (jz_in 322 (by decide +kernel) rfl)⟩
theorem kw_X7_49 : jz_Fw RX7 49 7 7 (.object "VineLaws$Square") true := ⟨_, _, _, kc7, by decide, rfl, Or.inl (jz_in 322 (by decide +kernel) rfl), by decide +kernel, rfl, fun _ => rfl⟩
theorem kk_X7_61 : Cond.constant RX7 61 (Int32.ofInt (-1000001)) ∈ jz_GW := jz_in 357 (by decide +kernel) rfl
theorem kf_X7_66 : jz_Fd RX7 66 7 8 := ⟨_, _, _, kc7, by decide, rfl, Or.inl (jz_in 323 (by decide +kernel) rfl)⟩
theorem kw_X7_66 : jz_Fw RX7 66 7 8 (.int) false := ⟨_, _, _, kc7, by decide, rfl, Or.inl (jz_in 323 (by decide +kernel) rfl), by decide +kernel, rfl, fun h => by cases h⟩
theorem kf_X7_74 : jz_Fd RX7 74 4 1 := ⟨_, _, _, kc4, by decide, rfl, Or.inr ⟨"VineLaws", jz_inN 301 (by decide +kernel) rfl⟩⟩
theorem kw_X7_74 : jz_Fw RX7 74 4 1 (.boolean) false := ⟨_, _, _, kc4, by decide, rfl, Or.inr ⟨rfl, "VineLaws", jz_inN 301 (by decide +kernel) rfl⟩, by decide +kernel, rfl, fun h => by cases h⟩
theorem kf_X7_86 : jz_Fd RX7 86 4 2 := ⟨_, _, _, kc4, by decide, rfl, Or.inr ⟨"VineLaws", jz_inN 303 (by decide +kernel) rfl⟩⟩
theorem kw_X7_86 : jz_Fw RX7 86 4 2 (.int) false := ⟨_, _, _, kc4, by decide, rfl, Or.inr ⟨rfl, "VineLaws", jz_inN 303 (by decide +kernel) rfl⟩, by decide +kernel, rfl, fun h => by cases h⟩
theorem kf_X7_89 : jz_Fd RX7 89 4 0 := ⟨_, _, _, kc4, by decide, rfl, Or.inr ⟨"VineLaws", jz_inN 299 (by decide +kernel) rfl⟩⟩
theorem kf_X7_99 : jz_Fd RX7 99 4 3 := ⟨_, _, _, kc4, by decide, rfl, Or.inr ⟨"VineLaws", jz_inN 305 (by decide +kernel) rfl⟩⟩
theorem kw_X7_99 : jz_Fw RX7 99 4 3 (.int) false := ⟨_, _, _, kc4, by decide, rfl, Or.inr ⟨rfl, "VineLaws", jz_inN 305 (by decide +kernel) rfl⟩, by decide +kernel, rfl, fun h => by cases h⟩
theorem kf_X7_106 : jz_Fd RX7 106 6 1 := ⟨_, _, _, kc6, by decide, rfl, Or.inr ⟨"VineLaws", jz_inN 115 (by decide +kernel) rfl⟩⟩
theorem kw_X7_106 : jz_Fw RX7 106 6 1 (.int) false := ⟨_, _, _, kc6, by decide, rfl, Or.inr ⟨rfl, "VineLaws", jz_inN 115 (by decide +kernel) rfl⟩, by decide +kernel, rfl, fun h => by cases h⟩
theorem kk_X7_107 : Cond.constant RX7 107 (Int32.ofInt (-1000003)) ∈ jz_GW := jz_in 404 (by decide +kernel) rfl
theorem kf_X7_112 : jz_Fd RX7 112 6 6 := ⟨_, _, _, kc6, by decide, rfl, Or.inr ⟨"VineLaws", jz_inN 122 (by decide +kernel) rfl⟩⟩
theorem kw_X7_112 : jz_Fw RX7 112 6 6 (.int) false := ⟨_, _, _, kc6, by decide, rfl, Or.inr ⟨rfl, "VineLaws", jz_inN 122 (by decide +kernel) rfl⟩, by decide +kernel, rfl, fun h => by cases h⟩
theorem kf_X7_115 : jz_Fd RX7 115 7 9 := ⟨_, _, _, kc7, by decide, rfl, Or.inl (jz_in 324 (by decide +kernel) rfl)⟩
theorem kw_X7_115 : jz_Fw RX7 115 7 9 (.int) false := ⟨_, _, _, kc7, by decide, rfl, Or.inl (jz_in 324 (by decide +kernel) rfl), by decide +kernel, rfl, fun h => by cases h⟩
theorem kk_X7_118 : Cond.constant RX7 118 (Int32.ofInt (-1000100)) ∈ jz_GW := jz_in 444 (by decide +kernel) rfl
theorem kf_X7_119 : jz_Fd RX7 119 6 2 := ⟨_, _, _, kc6, by decide, rfl, Or.inr ⟨"VineLaws", jz_inN 116 (by decide +kernel) rfl⟩⟩
theorem kw_X7_119 : jz_Fw RX7 119 6 2 (.int) false := ⟨_, _, _, kc6, by decide, rfl, Or.inr ⟨rfl, "VineLaws", jz_inN 116 (by decide +kernel) rfl⟩, by decide +kernel, rfl, fun h => by cases h⟩
theorem kf_X7_129 : jz_Fd RX7 129 5 2 := ⟨_, _, _, kc5, by decide, rfl, Or.inr ⟨"VineLaws", jz_inN 236 (by decide +kernel) rfl⟩⟩
theorem kw_X7_129 : jz_Fw RX7 129 5 2 (.int) false := ⟨_, _, _, kc5, by decide, rfl, Or.inr ⟨rfl, "VineLaws", jz_inN 236 (by decide +kernel) rfl⟩, by decide +kernel, rfl, fun h => by cases h⟩
theorem kf_X7_135 : jz_Fd RX7 135 3 2 := ⟨_, _, _, kc3, by decide, rfl, Or.inr ⟨"VineLaws", jz_inN 269 (by decide +kernel) rfl⟩⟩
theorem kw_X7_135 : jz_Fw RX7 135 3 2 (.int) false := ⟨_, _, _, kc3, by decide, rfl, Or.inr ⟨rfl, "VineLaws", jz_inN 269 (by decide +kernel) rfl⟩, by decide +kernel, rfl, fun h => by cases h⟩
theorem kk_X7_138 : Cond.constant RX7 138 (Int32.ofInt (-1000002)) ∈ jz_GW := jz_in 474 (by decide +kernel) rfl
theorem kf_X7_143 : jz_Fd RX7 143 5 6 := ⟨_, _, _, kc5, by decide, rfl, Or.inr ⟨"VineLaws", jz_inN 246 (by decide +kernel) rfl⟩⟩
theorem kw_X7_143 : jz_Fw RX7 143 5 6 (.int) false := ⟨_, _, _, kc5, by decide, rfl, Or.inr ⟨rfl, "VineLaws", jz_inN 246 (by decide +kernel) rfl⟩, by decide +kernel, rfl, fun h => by cases h⟩
theorem kf_X7_162 : jz_Fd RX7 162 1 3 := ⟨_, _, _, kc1, by decide, rfl, Or.inr ⟨"VineLaws", jz_inN 173 (by decide +kernel) rfl⟩⟩
theorem kw_X7_162 : jz_Fw RX7 162 1 3 (.int) false := ⟨_, _, _, kc1, by decide, rfl, Or.inr ⟨rfl, "VineLaws", jz_inN 173 (by decide +kernel) rfl⟩, by decide +kernel, rfl, fun h => by cases h⟩
theorem kf_X7_165 : jz_Fd RX7 165 1 4 := ⟨_, _, _, kc1, by decide, rfl, Or.inr ⟨"VineLaws", jz_inN 177 (by decide +kernel) rfl⟩⟩
theorem kw_X7_165 : jz_Fw RX7 165 1 4 (.int) false := ⟨_, _, _, kc1, by decide, rfl, Or.inr ⟨rfl, "VineLaws", jz_inN 177 (by decide +kernel) rfl⟩, by decide +kernel, rfl, fun h => by cases h⟩
theorem kf_X7_168 : jz_Fd RX7 168 1 5 := ⟨_, _, _, kc1, by decide, rfl, Or.inr ⟨"VineLaws", jz_inN 181 (by decide +kernel) rfl⟩⟩
theorem kw_X7_168 : jz_Fw RX7 168 1 5 (.int) false := ⟨_, _, _, kc1, by decide, rfl, Or.inr ⟨rfl, "VineLaws", jz_inN 181 (by decide +kernel) rfl⟩, by decide +kernel, rfl, fun h => by cases h⟩
theorem kf_X7_171 : jz_Fd RX7 171 1 2 := ⟨_, _, _, kc1, by decide, rfl, Or.inr ⟨"VineLaws", jz_inN 169 (by decide +kernel) rfl⟩⟩
theorem kw_X7_171 : jz_Fw RX7 171 1 2 (.int) false := ⟨_, _, _, kc1, by decide, rfl, Or.inr ⟨rfl, "VineLaws", jz_inN 169 (by decide +kernel) rfl⟩, by decide +kernel, rfl, fun h => by cases h⟩
theorem kf_X7_178 : jz_Fd RX7 178 0 3 := ⟨_, _, _, kc0, by decide, rfl, Or.inr ⟨"VineLaws", jz_inN 215 (by decide +kernel) rfl⟩⟩
theorem kw_X7_178 : jz_Fw RX7 178 0 3 (.int) false := ⟨_, _, _, kc0, by decide, rfl, Or.inr ⟨rfl, "VineLaws", jz_inN 215 (by decide +kernel) rfl⟩, by decide +kernel, rfl, fun h => by cases h⟩
theorem kf_X7_183 : jz_Fd RX7 183 0 1 := ⟨_, _, _, kc0, by decide, rfl, Or.inr ⟨"VineLaws", jz_inN 208 (by decide +kernel) rfl⟩⟩
theorem kw_X7_183 : jz_Fw RX7 183 0 1 (.int) false := ⟨_, _, _, kc0, by decide, rfl, Or.inr ⟨rfl, "VineLaws", jz_inN 208 (by decide +kernel) rfl⟩, by decide +kernel, rfl, fun h => by cases h⟩
theorem kf_X7_186 : jz_Fd RX7 186 5 5 := ⟨_, _, _, kc5, by decide, rfl, Or.inr ⟨"VineLaws", jz_inN 244 (by decide +kernel) rfl⟩⟩
theorem kw_X7_186 : jz_Fw RX7 186 5 5 (.int) false := ⟨_, _, _, kc5, by decide, rfl, Or.inr ⟨rfl, "VineLaws", jz_inN 244 (by decide +kernel) rfl⟩, by decide +kernel, rfl, fun h => by cases h⟩
theorem kf_X7_195 : jz_Fd RX7 195 0 2 := ⟨_, _, _, kc0, by decide, rfl, Or.inr ⟨"VineLaws", jz_inN 212 (by decide +kernel) rfl⟩⟩
theorem kw_X7_195 : jz_Fw RX7 195 0 2 (.int) false := ⟨_, _, _, kc0, by decide, rfl, Or.inr ⟨rfl, "VineLaws", jz_inN 212 (by decide +kernel) rfl⟩, by decide +kernel, rfl, fun h => by cases h⟩
theorem kk_X7_202 : Cond.constant RX7 202 (Int32.ofInt (-1000000)) ∈ jz_GW := jz_in 576 (by decide +kernel) rfl
theorem kf_X7_203 : jz_Fd RX7 203 1 0 := ⟨_, _, _, kc1, by decide, rfl, Or.inr ⟨"VineLaws", jz_inN 163 (by decide +kernel) rfl⟩⟩
theorem kf_X7_217 : jz_Fd RX7 217 0 4 := ⟨_, _, _, kc0, by decide, rfl, Or.inr ⟨"VineLaws", jz_inN 217 (by decide +kernel) rfl⟩⟩
theorem kw_X7_217 : jz_Fw RX7 217 0 4 (.int) false := ⟨_, _, _, kc0, by decide, rfl, Or.inr ⟨rfl, "VineLaws", jz_inN 217 (by decide +kernel) rfl⟩, by decide +kernel, rfl, fun h => by cases h⟩
theorem kf_X7_220 : jz_Fd RX7 220 1 6 := ⟨_, _, _, kc1, by decide, rfl, Or.inr ⟨"VineLaws", jz_inN 183 (by decide +kernel) rfl⟩⟩
theorem kw_X7_220 : jz_Fw RX7 220 1 6 (.int) false := ⟨_, _, _, kc1, by decide, rfl, Or.inr ⟨rfl, "VineLaws", jz_inN 183 (by decide +kernel) rfl⟩, by decide +kernel, rfl, fun h => by cases h⟩
theorem kf_X7_238 : jz_Fd RX7 238 5 3 := ⟨_, _, _, kc5, by decide, rfl, Or.inr ⟨"VineLaws", jz_inN 239 (by decide +kernel) rfl⟩⟩
theorem kw_X7_238 : jz_Fw RX7 238 5 3 (.int) false := ⟨_, _, _, kc5, by decide, rfl, Or.inr ⟨rfl, "VineLaws", jz_inN 239 (by decide +kernel) rfl⟩, by decide +kernel, rfl, fun h => by cases h⟩
theorem kf_X7_255 : jz_Fd RX7 255 5 0 := ⟨_, _, _, kc5, by decide, rfl, Or.inr ⟨"VineLaws", jz_inN 231 (by decide +kernel) rfl⟩⟩
theorem kk_X7_263 : Cond.constantLong RX7 263 (Int64.ofInt (-1000002)) ∈ jz_GW := jz_in 705 (by decide +kernel) rfl
theorem kk_X7_265 : Cond.constantLong RX7 265 (Int64.ofInt (-1000001)) ∈ jz_GW := jz_in 706 (by decide +kernel) rfl
theorem kk_X7_278 : Cond.constant RX7 278 (Int32.ofInt (999999)) ∈ jz_GW := jz_in 725 (by decide +kernel) rfl
theorem kk_X7_279 : Cond.constantLong RX7 279 (Int64.ofInt (16807)) ∈ jz_GW := jz_in 726 (by decide +kernel) rfl
theorem kk_X7_281 : Cond.constantLong RX7 281 (Int64.ofInt (2147483647)) ∈ jz_GW := jz_in 727 (by decide +kernel) rfl
theorem kf_X7_289 : jz_Fd RX7 289 5 7 := ⟨_, _, _, kc5, by decide, rfl, Or.inr ⟨"VineLaws", jz_inN 248 (by decide +kernel) rfl⟩⟩
theorem kw_X7_289 : jz_Fw RX7 289 5 7 (.int) false := ⟨_, _, _, kc5, by decide, rfl, Or.inr ⟨rfl, "VineLaws", jz_inN 248 (by decide +kernel) rfl⟩, by decide +kernel, rfl, fun h => by cases h⟩
theorem kf_X7_296 : jz_Fd RX7 296 1 1 := ⟨_, _, _, kc1, by decide, rfl, Or.inr ⟨"VineLaws", jz_inN 166 (by decide +kernel) rfl⟩⟩
theorem kw_X7_296 : jz_Fw RX7 296 1 1 (.int) false := ⟨_, _, _, kc1, by decide, rfl, Or.inr ⟨rfl, "VineLaws", jz_inN 166 (by decide +kernel) rfl⟩, by decide +kernel, rfl, fun h => by cases h⟩
theorem kf_X7_302 : jz_Fd RX7 302 2 1 := ⟨_, _, _, kc2, by decide, rfl, Or.inr ⟨"VineLaws", jz_inN 285 (by decide +kernel) rfl⟩⟩
theorem kw_X7_302 : jz_Fw RX7 302 2 1 (.int) false := ⟨_, _, _, kc2, by decide, rfl, Or.inr ⟨rfl, "VineLaws", jz_inN 285 (by decide +kernel) rfl⟩, by decide +kernel, rfl, fun h => by cases h⟩
theorem kk_X7_316 : Cond.constant RX7 316 (Int32.ofInt (-1000010)) ∈ jz_GW := jz_in 362 (by decide +kernel) rfl
theorem kf_X0_9 : jz_Fd RX0 9 0 0 := ⟨_, _, _, kc0, by decide, rfl, Or.inl (jz_in 204 (by decide +kernel) rfl)⟩
theorem kw_X0_9 : jz_Fw RX0 9 0 0 (.int) true := ⟨_, _, _, kc0, by decide, rfl, Or.inl (jz_in 204 (by decide +kernel) rfl), by decide +kernel, rfl, fun _ => rfl⟩
theorem kf_X0_15 : jz_Fd RX0 15 0 1 := ⟨_, _, _, kc0, by decide, rfl, Or.inl (jz_in 206 (by decide +kernel) rfl)⟩
theorem kw_X0_15 : jz_Fw RX0 15 0 1 (.int) false := ⟨_, _, _, kc0, by decide, rfl, Or.inl (jz_in 206 (by decide +kernel) rfl), by decide +kernel, rfl, fun h => by cases h⟩
theorem kf_X0_18 : jz_Fd RX0 18 0 2 := ⟨_, _, _, kc0, by decide, rfl, Or.inl (jz_in 209 (by decide +kernel) rfl)⟩
theorem kw_X0_18 : jz_Fw RX0 18 0 2 (.int) false := ⟨_, _, _, kc0, by decide, rfl, Or.inl (jz_in 209 (by decide +kernel) rfl), by decide +kernel, rfl, fun h => by cases h⟩
theorem kf_X0_21 : jz_Fd RX0 21 0 3 := ⟨_, _, _, kc0, by decide, rfl, Or.inl (jz_in 213 (by decide +kernel) rfl)⟩
theorem kw_X0_21 : jz_Fw RX0 21 0 3 (.int) false := ⟨_, _, _, kc0, by decide, rfl, Or.inl (jz_in 213 (by decide +kernel) rfl), by decide +kernel, rfl, fun h => by cases h⟩
theorem kf_X0_24 : jz_Fd RX0 24 0 4 := ⟨_, _, _, kc0, by decide, rfl, Or.inl (jz_in 216 (by decide +kernel) rfl)⟩
theorem kw_X0_24 : jz_Fw RX0 24 0 4 (.int) false := ⟨_, _, _, kc0, by decide, rfl, Or.inl (jz_in 216 (by decide +kernel) rfl), by decide +kernel, rfl, fun h => by cases h⟩
theorem kf_X1_9 : jz_Fd RX1 9 1 0 := ⟨_, _, _, kc1, by decide, rfl, Or.inl (jz_in 161 (by decide +kernel) rfl)⟩
theorem kw_X1_9 : jz_Fw RX1 9 1 0 (.int) true := ⟨_, _, _, kc1, by decide, rfl, Or.inl (jz_in 161 (by decide +kernel) rfl), by decide +kernel, rfl, fun _ => rfl⟩
theorem kf_X1_15 : jz_Fd RX1 15 1 1 := ⟨_, _, _, kc1, by decide, rfl, Or.inl (jz_in 164 (by decide +kernel) rfl)⟩
theorem kw_X1_15 : jz_Fw RX1 15 1 1 (.int) false := ⟨_, _, _, kc1, by decide, rfl, Or.inl (jz_in 164 (by decide +kernel) rfl), by decide +kernel, rfl, fun h => by cases h⟩
theorem kf_X1_18 : jz_Fd RX1 18 1 2 := ⟨_, _, _, kc1, by decide, rfl, Or.inl (jz_in 167 (by decide +kernel) rfl)⟩
theorem kw_X1_18 : jz_Fw RX1 18 1 2 (.int) false := ⟨_, _, _, kc1, by decide, rfl, Or.inl (jz_in 167 (by decide +kernel) rfl), by decide +kernel, rfl, fun h => by cases h⟩
theorem kf_X1_21 : jz_Fd RX1 21 1 3 := ⟨_, _, _, kc1, by decide, rfl, Or.inl (jz_in 171 (by decide +kernel) rfl)⟩
theorem kw_X1_21 : jz_Fw RX1 21 1 3 (.int) false := ⟨_, _, _, kc1, by decide, rfl, Or.inl (jz_in 171 (by decide +kernel) rfl), by decide +kernel, rfl, fun h => by cases h⟩
theorem kf_X1_24 : jz_Fd RX1 24 1 4 := ⟨_, _, _, kc1, by decide, rfl, Or.inl (jz_in 175 (by decide +kernel) rfl)⟩
theorem kw_X1_24 : jz_Fw RX1 24 1 4 (.int) false := ⟨_, _, _, kc1, by decide, rfl, Or.inl (jz_in 175 (by decide +kernel) rfl), by decide +kernel, rfl, fun h => by cases h⟩
theorem kf_X1_27 : jz_Fd RX1 27 1 5 := ⟨_, _, _, kc1, by decide, rfl, Or.inl (jz_in 178 (by decide +kernel) rfl)⟩
theorem kw_X1_27 : jz_Fw RX1 27 1 5 (.int) false := ⟨_, _, _, kc1, by decide, rfl, Or.inl (jz_in 178 (by decide +kernel) rfl), by decide +kernel, rfl, fun h => by cases h⟩
theorem kf_X1_30 : jz_Fd RX1 30 1 6 := ⟨_, _, _, kc1, by decide, rfl, Or.inl (jz_in 182 (by decide +kernel) rfl)⟩
theorem kw_X1_30 : jz_Fw RX1 30 1 6 (.int) false := ⟨_, _, _, kc1, by decide, rfl, Or.inl (jz_in 182 (by decide +kernel) rfl), by decide +kernel, rfl, fun h => by cases h⟩
theorem kk_X1_40 : Cond.constant RX1 40 (Int32.ofInt (-1000000)) ∈ jz_GW := jz_in 509 (by decide +kernel) rfl
theorem kf_X2_9 : jz_Fd RX2 9 2 0 := ⟨_, _, _, kc2, by decide, rfl, Or.inl (jz_in 283 (by decide +kernel) rfl)⟩
theorem kw_X2_9 : jz_Fw RX2 9 2 0 (.array .int) true := ⟨_, _, _, kc2, by decide, rfl, Or.inl (jz_in 283 (by decide +kernel) rfl), by decide +kernel, rfl, fun _ => rfl⟩
theorem kf_X2_15 : jz_Fd RX2 15 2 1 := ⟨_, _, _, kc2, by decide, rfl, Or.inl (jz_in 284 (by decide +kernel) rfl)⟩
theorem kw_X2_15 : jz_Fw RX2 15 2 1 (.int) false := ⟨_, _, _, kc2, by decide, rfl, Or.inl (jz_in 284 (by decide +kernel) rfl), by decide +kernel, rfl, fun h => by cases h⟩
theorem kk_X2_19 : Cond.constant RX2 19 (Int32.ofInt (-1000000)) ∈ jz_GW := jz_in 782 (by decide +kernel) rfl
theorem kf_X3_11 : jz_Fd RX3 11 3 0 := ⟨_, _, _, kc3, by decide, rfl, Or.inl (jz_in 266 (by decide +kernel) rfl)⟩
theorem kw_X3_11 : jz_Fw RX3 11 3 0 (.array (.object "VineLaws$Square")) true := ⟨_, _, _, kc3, by decide, rfl, Or.inl (jz_in 266 (by decide +kernel) rfl), by decide +kernel, rfl, fun _ => rfl⟩
theorem kf_X3_18 : jz_Fd RX3 18 3 2 := ⟨_, _, _, kc3, by decide, rfl, Or.inl (jz_in 268 (by decide +kernel) rfl)⟩
theorem kw_X3_18 : jz_Fw RX3 18 3 2 (.int) false := ⟨_, _, _, kc3, by decide, rfl, Or.inl (jz_in 268 (by decide +kernel) rfl), by decide +kernel, rfl, fun h => by cases h⟩
theorem kf_X3_22 : jz_Fd RX3 22 3 1 := ⟨_, _, _, kc3, by decide, rfl, Or.inl (jz_in 267 (by decide +kernel) rfl)⟩
theorem kw_X3_22 : jz_Fw RX3 22 3 1 (.int) false := ⟨_, _, _, kc3, by decide, rfl, Or.inl (jz_in 267 (by decide +kernel) rfl), by decide +kernel, rfl, fun h => by cases h⟩
theorem kf_X4_9 : jz_Fd RX4 9 4 0 := ⟨_, _, _, kc4, by decide, rfl, Or.inl (jz_in 298 (by decide +kernel) rfl)⟩
theorem kw_X4_9 : jz_Fw RX4 9 4 0 (.array .int) true := ⟨_, _, _, kc4, by decide, rfl, Or.inl (jz_in 298 (by decide +kernel) rfl), by decide +kernel, rfl, fun _ => rfl⟩
theorem kf_X4_15 : jz_Fd RX4 15 4 1 := ⟨_, _, _, kc4, by decide, rfl, Or.inl (jz_in 300 (by decide +kernel) rfl)⟩
theorem kw_X4_15 : jz_Fw RX4 15 4 1 (.boolean) false := ⟨_, _, _, kc4, by decide, rfl, Or.inl (jz_in 300 (by decide +kernel) rfl), by decide +kernel, rfl, fun h => by cases h⟩
theorem kf_X4_19 : jz_Fd RX4 19 4 2 := ⟨_, _, _, kc4, by decide, rfl, Or.inl (jz_in 302 (by decide +kernel) rfl)⟩
theorem kw_X4_19 : jz_Fw RX4 19 4 2 (.int) false := ⟨_, _, _, kc4, by decide, rfl, Or.inl (jz_in 302 (by decide +kernel) rfl), by decide +kernel, rfl, fun h => by cases h⟩
theorem kf_X4_32 : jz_Fd RX4 32 4 3 := ⟨_, _, _, kc4, by decide, rfl, Or.inl (jz_in 304 (by decide +kernel) rfl)⟩
theorem kw_X4_32 : jz_Fw RX4 32 4 3 (.int) false := ⟨_, _, _, kc4, by decide, rfl, Or.inl (jz_in 304 (by decide +kernel) rfl), by decide +kernel, rfl, fun h => by cases h⟩
theorem kf_X5_11 : jz_Fd RX5 11 5 0 := ⟨_, _, _, kc5, by decide, rfl, Or.inl (jz_in 229 (by decide +kernel) rfl)⟩
theorem kw_X5_11 : jz_Fw RX5 11 5 0 (.array (.object "VineLaws$Leaf")) true := ⟨_, _, _, kc5, by decide, rfl, Or.inl (jz_in 229 (by decide +kernel) rfl), by decide +kernel, rfl, fun _ => rfl⟩
theorem kf_X5_19 : jz_Fd RX5 19 5 1 := ⟨_, _, _, kc5, by decide, rfl, Or.inl (jz_in 232 (by decide +kernel) rfl)⟩
theorem kw_X5_19 : jz_Fw RX5 19 5 1 (.array (.object "VineLaws$Goat")) true := ⟨_, _, _, kc5, by decide, rfl, Or.inl (jz_in 232 (by decide +kernel) rfl), by decide +kernel, rfl, fun _ => rfl⟩
theorem kf_X5_27 : jz_Fd RX5 27 5 2 := ⟨_, _, _, kc5, by decide, rfl, Or.inl (jz_in 234 (by decide +kernel) rfl)⟩
theorem kw_X5_27 : jz_Fw RX5 27 5 2 (.int) false := ⟨_, _, _, kc5, by decide, rfl, Or.inl (jz_in 234 (by decide +kernel) rfl), by decide +kernel, rfl, fun h => by cases h⟩
theorem kf_X5_31 : jz_Fd RX5 31 5 3 := ⟨_, _, _, kc5, by decide, rfl, Or.inl (jz_in 237 (by decide +kernel) rfl)⟩
theorem kw_X5_31 : jz_Fw RX5 31 5 3 (.int) false := ⟨_, _, _, kc5, by decide, rfl, Or.inl (jz_in 237 (by decide +kernel) rfl), by decide +kernel, rfl, fun h => by cases h⟩
theorem kf_X5_34 : jz_Fd RX5 34 5 4 := ⟨_, _, _, kc5, by decide, rfl, Or.inl (jz_in 240 (by decide +kernel) rfl)⟩
theorem kw_X5_34 : jz_Fw RX5 34 5 4 (.int) false := ⟨_, _, _, kc5, by decide, rfl, Or.inl (jz_in 240 (by decide +kernel) rfl), by decide +kernel, rfl, fun h => by cases h⟩
theorem kf_X5_37 : jz_Fd RX5 37 5 5 := ⟨_, _, _, kc5, by decide, rfl, Or.inl (jz_in 242 (by decide +kernel) rfl)⟩
theorem kw_X5_37 : jz_Fw RX5 37 5 5 (.int) false := ⟨_, _, _, kc5, by decide, rfl, Or.inl (jz_in 242 (by decide +kernel) rfl), by decide +kernel, rfl, fun h => by cases h⟩
theorem kf_X5_40 : jz_Fd RX5 40 5 6 := ⟨_, _, _, kc5, by decide, rfl, Or.inl (jz_in 245 (by decide +kernel) rfl)⟩
theorem kw_X5_40 : jz_Fw RX5 40 5 6 (.int) false := ⟨_, _, _, kc5, by decide, rfl, Or.inl (jz_in 245 (by decide +kernel) rfl), by decide +kernel, rfl, fun h => by cases h⟩
theorem kf_X5_43 : jz_Fd RX5 43 5 7 := ⟨_, _, _, kc5, by decide, rfl, Or.inl (jz_in 247 (by decide +kernel) rfl)⟩
theorem kw_X5_43 : jz_Fw RX5 43 5 7 (.int) false := ⟨_, _, _, kc5, by decide, rfl, Or.inl (jz_in 247 (by decide +kernel) rfl), by decide +kernel, rfl, fun h => by cases h⟩
theorem kf_X5_53 : jz_Fd RX5 53 1 5 := ⟨_, _, _, kc1, by decide, rfl, Or.inr ⟨"VineLaws", jz_inN 179 (by decide +kernel) rfl⟩⟩
theorem kw_X5_53 : jz_Fw RX5 53 1 5 (.int) false := ⟨_, _, _, kc1, by decide, rfl, Or.inr ⟨rfl, "VineLaws", jz_inN 179 (by decide +kernel) rfl⟩, by decide +kernel, rfl, fun h => by cases h⟩
theorem kf_X5_56 : jz_Fd RX5 56 0 3 := ⟨_, _, _, kc0, by decide, rfl, Or.inr ⟨"VineLaws", jz_inN 214 (by decide +kernel) rfl⟩⟩
theorem kw_X5_56 : jz_Fw RX5 56 0 3 (.int) false := ⟨_, _, _, kc0, by decide, rfl, Or.inr ⟨rfl, "VineLaws", jz_inN 214 (by decide +kernel) rfl⟩, by decide +kernel, rfl, fun h => by cases h⟩
theorem kf_X5_70 : jz_Fd RX5 70 1 0 := ⟨_, _, _, kc1, by decide, rfl, Or.inr ⟨"VineLaws", jz_inN 162 (by decide +kernel) rfl⟩⟩
theorem kk_X5_80 : Cond.constant RX5 80 (Int32.ofInt (-1000000)) ∈ jz_GW := jz_in 504 (by decide +kernel) rfl
theorem kf_X5_84 : jz_Fd RX5 84 1 3 := ⟨_, _, _, kc1, by decide, rfl, Or.inr ⟨"VineLaws", jz_inN 174 (by decide +kernel) rfl⟩⟩
theorem kw_X5_84 : jz_Fw RX5 84 1 3 (.int) false := ⟨_, _, _, kc1, by decide, rfl, Or.inr ⟨rfl, "VineLaws", jz_inN 174 (by decide +kernel) rfl⟩, by decide +kernel, rfl, fun h => by cases h⟩
theorem kf_X5_87 : jz_Fd RX5 87 0 2 := ⟨_, _, _, kc0, by decide, rfl, Or.inr ⟨"VineLaws", jz_inN 211 (by decide +kernel) rfl⟩⟩
theorem kw_X5_87 : jz_Fw RX5 87 0 2 (.int) false := ⟨_, _, _, kc0, by decide, rfl, Or.inr ⟨rfl, "VineLaws", jz_inN 211 (by decide +kernel) rfl⟩, by decide +kernel, rfl, fun h => by cases h⟩
theorem kf_X5_94 : jz_Fd RX5 94 0 0 := ⟨_, _, _, kc0, by decide, rfl, Or.inr ⟨"VineLaws", jz_inN 205 (by decide +kernel) rfl⟩⟩
theorem kf_X5_125 : jz_Fd RX5 125 1 2 := ⟨_, _, _, kc1, by decide, rfl, Or.inr ⟨"VineLaws", jz_inN 170 (by decide +kernel) rfl⟩⟩
theorem kw_X5_125 : jz_Fw RX5 125 1 2 (.int) false := ⟨_, _, _, kc1, by decide, rfl, Or.inr ⟨rfl, "VineLaws", jz_inN 170 (by decide +kernel) rfl⟩, by decide +kernel, rfl, fun h => by cases h⟩
theorem kf_X6_9 : jz_Fd RX6 9 6 0 := ⟨_, _, _, kc6, by decide, rfl, Or.inl (jz_in 113 (by decide +kernel) rfl)⟩
theorem kw_X6_9 : jz_Fw RX6 9 6 0 (.array .int) true := ⟨_, _, _, kc6, by decide, rfl, Or.inl (jz_in 113 (by decide +kernel) rfl), by decide +kernel, rfl, fun _ => rfl⟩
theorem kf_X6_15 : jz_Fd RX6 15 6 1 := ⟨_, _, _, kc6, by decide, rfl, Or.inl (jz_in 114 (by decide +kernel) rfl)⟩
theorem kw_X6_15 : jz_Fw RX6 15 6 1 (.int) false := ⟨_, _, _, kc6, by decide, rfl, Or.inl (jz_in 114 (by decide +kernel) rfl), by decide +kernel, rfl, fun h => by cases h⟩
theorem kf_X6_24 : jz_Fd RX6 24 6 6 := ⟨_, _, _, kc6, by decide, rfl, Or.inl (jz_in 121 (by decide +kernel) rfl)⟩
theorem kw_X6_24 : jz_Fw RX6 24 6 6 (.int) false := ⟨_, _, _, kc6, by decide, rfl, Or.inl (jz_in 121 (by decide +kernel) rfl), by decide +kernel, rfl, fun h => by cases h⟩
theorem kf_X6_27 : jz_Fd RX6 27 6 3 := ⟨_, _, _, kc6, by decide, rfl, Or.inl (jz_in 118 (by decide +kernel) rfl)⟩
theorem kw_X6_27 : jz_Fw RX6 27 6 3 (.int) false := ⟨_, _, _, kc6, by decide, rfl, Or.inl (jz_in 118 (by decide +kernel) rfl), by decide +kernel, rfl, fun h => by cases h⟩
theorem kf_X6_41 : jz_Fd RX6 41 5 4 := ⟨_, _, _, kc5, by decide, rfl, Or.inr ⟨"VineLaws", jz_inN 241 (by decide +kernel) rfl⟩⟩
theorem kw_X6_41 : jz_Fw RX6 41 5 4 (.int) false := ⟨_, _, _, kc5, by decide, rfl, Or.inr ⟨rfl, "VineLaws", jz_inN 241 (by decide +kernel) rfl⟩, by decide +kernel, rfl, fun h => by cases h⟩
theorem kf_X6_44 : jz_Fd RX6 44 5 5 := ⟨_, _, _, kc5, by decide, rfl, Or.inr ⟨"VineLaws", jz_inN 243 (by decide +kernel) rfl⟩⟩
theorem kw_X6_44 : jz_Fw RX6 44 5 5 (.int) false := ⟨_, _, _, kc5, by decide, rfl, Or.inr ⟨rfl, "VineLaws", jz_inN 243 (by decide +kernel) rfl⟩, by decide +kernel, rfl, fun h => by cases h⟩
theorem kf_X6_47 : jz_Fd RX6 47 6 4 := ⟨_, _, _, kc6, by decide, rfl, Or.inl (jz_in 119 (by decide +kernel) rfl)⟩
theorem kw_X6_47 : jz_Fw RX6 47 6 4 (.int) false := ⟨_, _, _, kc6, by decide, rfl, Or.inl (jz_in 119 (by decide +kernel) rfl), by decide +kernel, rfl, fun h => by cases h⟩
theorem kf_X6_61 : jz_Fd RX6 61 5 2 := ⟨_, _, _, kc5, by decide, rfl, Or.inr ⟨"VineLaws", jz_inN 235 (by decide +kernel) rfl⟩⟩
theorem kw_X6_61 : jz_Fw RX6 61 5 2 (.int) false := ⟨_, _, _, kc5, by decide, rfl, Or.inr ⟨rfl, "VineLaws", jz_inN 235 (by decide +kernel) rfl⟩, by decide +kernel, rfl, fun h => by cases h⟩
theorem kf_X6_64 : jz_Fd RX6 64 5 0 := ⟨_, _, _, kc5, by decide, rfl, Or.inr ⟨"VineLaws", jz_inN 230 (by decide +kernel) rfl⟩⟩
theorem kf_X6_68 : jz_Fd RX6 68 1 1 := ⟨_, _, _, kc1, by decide, rfl, Or.inr ⟨"VineLaws", jz_inN 165 (by decide +kernel) rfl⟩⟩
theorem kw_X6_68 : jz_Fw RX6 68 1 1 (.int) false := ⟨_, _, _, kc1, by decide, rfl, Or.inr ⟨rfl, "VineLaws", jz_inN 165 (by decide +kernel) rfl⟩, by decide +kernel, rfl, fun h => by cases h⟩
theorem kf_X6_73 : jz_Fd RX6 73 1 2 := ⟨_, _, _, kc1, by decide, rfl, Or.inr ⟨"VineLaws", jz_inN 168 (by decide +kernel) rfl⟩⟩
theorem kw_X6_73 : jz_Fw RX6 73 1 2 (.int) false := ⟨_, _, _, kc1, by decide, rfl, Or.inr ⟨rfl, "VineLaws", jz_inN 168 (by decide +kernel) rfl⟩, by decide +kernel, rfl, fun h => by cases h⟩
theorem kf_X6_76 : jz_Fd RX6 76 1 5 := ⟨_, _, _, kc1, by decide, rfl, Or.inr ⟨"VineLaws", jz_inN 180 (by decide +kernel) rfl⟩⟩
theorem kw_X6_76 : jz_Fw RX6 76 1 5 (.int) false := ⟨_, _, _, kc1, by decide, rfl, Or.inr ⟨rfl, "VineLaws", jz_inN 180 (by decide +kernel) rfl⟩, by decide +kernel, rfl, fun h => by cases h⟩
theorem kf_X6_79 : jz_Fd RX6 79 1 3 := ⟨_, _, _, kc1, by decide, rfl, Or.inr ⟨"VineLaws", jz_inN 172 (by decide +kernel) rfl⟩⟩
theorem kw_X6_79 : jz_Fw RX6 79 1 3 (.int) false := ⟨_, _, _, kc1, by decide, rfl, Or.inr ⟨rfl, "VineLaws", jz_inN 172 (by decide +kernel) rfl⟩, by decide +kernel, rfl, fun h => by cases h⟩
theorem kf_X6_82 : jz_Fd RX6 82 1 4 := ⟨_, _, _, kc1, by decide, rfl, Or.inr ⟨"VineLaws", jz_inN 176 (by decide +kernel) rfl⟩⟩
theorem kw_X6_82 : jz_Fw RX6 82 1 4 (.int) false := ⟨_, _, _, kc1, by decide, rfl, Or.inr ⟨rfl, "VineLaws", jz_inN 176 (by decide +kernel) rfl⟩, by decide +kernel, rfl, fun h => by cases h⟩
theorem kf_X6_85 : jz_Fd RX6 85 5 3 := ⟨_, _, _, kc5, by decide, rfl, Or.inr ⟨"VineLaws", jz_inN 238 (by decide +kernel) rfl⟩⟩
theorem kw_X6_85 : jz_Fw RX6 85 5 3 (.int) false := ⟨_, _, _, kc5, by decide, rfl, Or.inr ⟨rfl, "VineLaws", jz_inN 238 (by decide +kernel) rfl⟩, by decide +kernel, rfl, fun h => by cases h⟩
theorem kf_X6_88 : jz_Fd RX6 88 5 1 := ⟨_, _, _, kc5, by decide, rfl, Or.inr ⟨"VineLaws", jz_inN 233 (by decide +kernel) rfl⟩⟩
theorem kf_X6_92 : jz_Fd RX6 92 0 1 := ⟨_, _, _, kc0, by decide, rfl, Or.inr ⟨"VineLaws", jz_inN 207 (by decide +kernel) rfl⟩⟩
theorem kw_X6_92 : jz_Fw RX6 92 0 1 (.int) false := ⟨_, _, _, kc0, by decide, rfl, Or.inr ⟨rfl, "VineLaws", jz_inN 207 (by decide +kernel) rfl⟩, by decide +kernel, rfl, fun h => by cases h⟩
theorem kf_X6_97 : jz_Fd RX6 97 0 2 := ⟨_, _, _, kc0, by decide, rfl, Or.inr ⟨"VineLaws", jz_inN 210 (by decide +kernel) rfl⟩⟩
theorem kw_X6_97 : jz_Fw RX6 97 0 2 (.int) false := ⟨_, _, _, kc0, by decide, rfl, Or.inr ⟨rfl, "VineLaws", jz_inN 210 (by decide +kernel) rfl⟩, by decide +kernel, rfl, fun h => by cases h⟩
theorem kf_X6_100 : jz_Fd RX6 100 6 5 := ⟨_, _, _, kc6, by decide, rfl, Or.inl (jz_in 120 (by decide +kernel) rfl)⟩
theorem kw_X6_100 : jz_Fw RX6 100 6 5 (.int) false := ⟨_, _, _, kc6, by decide, rfl, Or.inl (jz_in 120 (by decide +kernel) rfl), by decide +kernel, rfl, fun h => by cases h⟩
theorem kf_X6_103 : jz_Fd RX6 103 6 2 := ⟨_, _, _, kc6, by decide, rfl, Or.inl (jz_in 117 (by decide +kernel) rfl)⟩
theorem kw_X6_103 : jz_Fw RX6 103 6 2 (.int) false := ⟨_, _, _, kc6, by decide, rfl, Or.inl (jz_in 117 (by decide +kernel) rfl), by decide +kernel, rfl, fun h => by cases h⟩
theorem kf_X8_7 : jz_Fd RX8 7 8 2 := ⟨_, _, _, kc8, by decide, rfl, Or.inl (jz_in 803 (by decide +kernel) rfl)⟩
theorem kw_X8_7 : jz_Fw RX8 7 8 2 (.array .int) true := ⟨_, _, _, kc8, by decide, rfl, Or.inl (jz_in 803 (by decide +kernel) rfl), by decide +kernel, rfl, fun _ => rfl⟩
theorem kf_X8_13 : jz_Fd RX8 13 8 3 := ⟨_, _, _, kc8, by decide, rfl, Or.inl (jz_in 804 (by decide +kernel) rfl)⟩
theorem kw_X8_13 : jz_Fw RX8 13 8 3 (.array .int) true := ⟨_, _, _, kc8, by decide, rfl, Or.inl (jz_in 804 (by decide +kernel) rfl), by decide +kernel, rfl, fun _ => rfl⟩
theorem kf_X8_16 : jz_Fd RX8 16 8 4 := ⟨_, _, _, kc8, by decide, rfl, Or.inl (jz_in 805 (by decide +kernel) rfl)⟩
theorem kw_X8_16 : jz_Fw RX8 16 8 4 (.array .int) true := ⟨_, _, _, kc8, by decide, rfl, Or.inl (jz_in 805 (by decide +kernel) rfl), by decide +kernel, rfl, fun _ => rfl⟩
theorem kf_X8_19 : jz_Fd RX8 19 8 5 := ⟨_, _, _, kc8, by decide, rfl, Or.inl (jz_in 806 (by decide +kernel) rfl)⟩
theorem kw_X8_19 : jz_Fw RX8 19 8 5 (.array .int) true := ⟨_, _, _, kc8, by decide, rfl, Or.inl (jz_in 806 (by decide +kernel) rfl), by decide +kernel, rfl, fun _ => rfl⟩
theorem kf_X8_22 : jz_Fd RX8 22 8 6 := ⟨_, _, _, kc8, by decide, rfl, Or.inl (jz_in 807 (by decide +kernel) rfl)⟩
theorem kw_X8_22 : jz_Fw RX8 22 8 6 (.array .int) true := ⟨_, _, _, kc8, by decide, rfl, Or.inl (jz_in 807 (by decide +kernel) rfl), by decide +kernel, rfl, fun _ => rfl⟩
theorem kf_X8_25 : jz_Fd RX8 25 8 7 := ⟨_, _, _, kc8, by decide, rfl, Or.inl (jz_in 808 (by decide +kernel) rfl)⟩
theorem kw_X8_25 : jz_Fw RX8 25 8 7 (.array .int) true := ⟨_, _, _, kc8, by decide, rfl, Or.inl (jz_in 808 (by decide +kernel) rfl), by decide +kernel, rfl, fun _ => rfl⟩
theorem kf_X8_28 : jz_Fd RX8 28 8 8 := ⟨_, _, _, kc8, by decide, rfl, Or.inl (jz_in 809 (by decide +kernel) rfl)⟩
theorem kw_X8_28 : jz_Fw RX8 28 8 8 (.array .int) true := ⟨_, _, _, kc8, by decide, rfl, Or.inl (jz_in 809 (by decide +kernel) rfl), by decide +kernel, rfl, fun _ => rfl⟩
theorem kf_X8_31 : jz_Fd RX8 31 8 10 := ⟨_, _, _, kc8, by decide, rfl, Or.inl (jz_in 811 (by decide +kernel) rfl)⟩
theorem kw_X8_31 : jz_Fw RX8 31 8 10 (.array .int) true := ⟨_, _, _, kc8, by decide, rfl, Or.inl (jz_in 811 (by decide +kernel) rfl), by decide +kernel, rfl, fun _ => rfl⟩
theorem kf_X8_34 : jz_Fd RX8 34 8 19 := ⟨_, _, _, kc8, by decide, rfl, Or.inl (jz_in 820 (by decide +kernel) rfl)⟩
theorem kw_X8_34 : jz_Fw RX8 34 8 19 (.array .int) true := ⟨_, _, _, kc8, by decide, rfl, Or.inl (jz_in 820 (by decide +kernel) rfl), by decide +kernel, rfl, fun _ => rfl⟩
theorem kf_X8_37 : jz_Fd RX8 37 8 20 := ⟨_, _, _, kc8, by decide, rfl, Or.inl (jz_in 821 (by decide +kernel) rfl)⟩
theorem kw_X8_37 : jz_Fw RX8 37 8 20 (.array .int) true := ⟨_, _, _, kc8, by decide, rfl, Or.inl (jz_in 821 (by decide +kernel) rfl), by decide +kernel, rfl, fun _ => rfl⟩
theorem kf_X8_40 : jz_Fd RX8 40 8 21 := ⟨_, _, _, kc8, by decide, rfl, Or.inl (jz_in 822 (by decide +kernel) rfl)⟩
theorem kw_X8_40 : jz_Fw RX8 40 8 21 (.array .boolean) true := ⟨_, _, _, kc8, by decide, rfl, Or.inl (jz_in 822 (by decide +kernel) rfl), by decide +kernel, rfl, fun _ => rfl⟩
theorem kf_X8_44 : jz_Fd RX8 44 8 22 := ⟨_, _, _, kc8, by decide, rfl, Or.inl (jz_in 823 (by decide +kernel) rfl)⟩
theorem kw_X8_44 : jz_Fw RX8 44 8 22 (.array .int) true := ⟨_, _, _, kc8, by decide, rfl, Or.inl (jz_in 823 (by decide +kernel) rfl), by decide +kernel, rfl, fun _ => rfl⟩
theorem kf_X8_47 : jz_Fd RX8 47 8 23 := ⟨_, _, _, kc8, by decide, rfl, Or.inl (jz_in 824 (by decide +kernel) rfl)⟩
theorem kw_X8_47 : jz_Fw RX8 47 8 23 (.array .int) true := ⟨_, _, _, kc8, by decide, rfl, Or.inl (jz_in 824 (by decide +kernel) rfl), by decide +kernel, rfl, fun _ => rfl⟩
theorem kf_X8_50 : jz_Fd RX8 50 8 0 := ⟨_, _, _, kc8, by decide, rfl, Or.inl (jz_in 801 (by decide +kernel) rfl)⟩
theorem kw_X8_50 : jz_Fw RX8 50 8 0 (.int) false := ⟨_, _, _, kc8, by decide, rfl, Or.inl (jz_in 801 (by decide +kernel) rfl), by decide +kernel, rfl, fun h => by cases h⟩
theorem kf_X8_54 : jz_Fd RX8 54 8 1 := ⟨_, _, _, kc8, by decide, rfl, Or.inl (jz_in 802 (by decide +kernel) rfl)⟩
theorem kw_X8_54 : jz_Fw RX8 54 8 1 (.int) false := ⟨_, _, _, kc8, by decide, rfl, Or.inl (jz_in 802 (by decide +kernel) rfl), by decide +kernel, rfl, fun h => by cases h⟩
theorem kk_X8_57 : Cond.constant RX8 57 (Int32.ofInt (-1000010)) ∈ jz_GW := jz_in 895 (by decide +kernel) rfl
theorem kk_X8_58 : Cond.constantLong RX8 58 (Int64.ofInt (7)) ∈ jz_GW := jz_in 885 (by decide +kernel) rfl
theorem kk_X8_68 : Cond.constantLong RX8 68 (Int64.ofInt (2)) ∈ jz_GW := jz_in 889 (by decide +kernel) rfl
theorem kk_X8_70 : Cond.constant RX8 70 (Int32.ofInt (-1000001)) ∈ jz_GW := jz_in 890 (by decide +kernel) rfl
theorem kk_X8_75 : Cond.constantLong RX8 75 (Int64.ofInt (255)) ∈ jz_GW := jz_in 912 (by decide +kernel) rfl
theorem kf_X8_77 : jz_Fd RX8 77 8 11 := ⟨_, _, _, kc8, by decide, rfl, Or.inl (jz_in 812 (by decide +kernel) rfl)⟩
theorem kw_X8_77 : jz_Fw RX8 77 8 11 (.int) false := ⟨_, _, _, kc8, by decide, rfl, Or.inl (jz_in 812 (by decide +kernel) rfl), by decide +kernel, rfl, fun h => by cases h⟩
theorem kk_X8_80 : Cond.constant RX8 80 (Int32.ofInt (-1000003)) ∈ jz_GW := jz_in 913 (by decide +kernel) rfl
theorem kf_X8_81 : jz_Fd RX8 81 8 16 := ⟨_, _, _, kc8, by decide, rfl, Or.inl (jz_in 817 (by decide +kernel) rfl)⟩
theorem kw_X8_81 : jz_Fw RX8 81 8 16 (.int) false := ⟨_, _, _, kc8, by decide, rfl, Or.inl (jz_in 817 (by decide +kernel) rfl), by decide +kernel, rfl, fun h => by cases h⟩
theorem kf_X8_84 : jz_Fd RX8 84 8 13 := ⟨_, _, _, kc8, by decide, rfl, Or.inl (jz_in 814 (by decide +kernel) rfl)⟩
theorem kw_X8_84 : jz_Fw RX8 84 8 13 (.int) false := ⟨_, _, _, kc8, by decide, rfl, Or.inl (jz_in 814 (by decide +kernel) rfl), by decide +kernel, rfl, fun h => by cases h⟩
theorem kf_X8_87 : jz_Fd RX8 87 8 17 := ⟨_, _, _, kc8, by decide, rfl, Or.inl (jz_in 818 (by decide +kernel) rfl)⟩
theorem kw_X8_87 : jz_Fw RX8 87 8 17 (.int) false := ⟨_, _, _, kc8, by decide, rfl, Or.inl (jz_in 818 (by decide +kernel) rfl), by decide +kernel, rfl, fun h => by cases h⟩
theorem kf_X8_90 : jz_Fd RX8 90 8 12 := ⟨_, _, _, kc8, by decide, rfl, Or.inl (jz_in 813 (by decide +kernel) rfl)⟩
theorem kw_X8_90 : jz_Fw RX8 90 8 12 (.int) false := ⟨_, _, _, kc8, by decide, rfl, Or.inl (jz_in 813 (by decide +kernel) rfl), by decide +kernel, rfl, fun h => by cases h⟩
theorem kk_X8_93 : Cond.constant RX8 93 (Int32.ofInt (-1000000)) ∈ jz_GW := jz_in 930 (by decide +kernel) rfl
theorem kf_X8_94 : jz_Fd RX8 94 8 15 := ⟨_, _, _, kc8, by decide, rfl, Or.inl (jz_in 816 (by decide +kernel) rfl)⟩
theorem kw_X8_94 : jz_Fw RX8 94 8 15 (.int) false := ⟨_, _, _, kc8, by decide, rfl, Or.inl (jz_in 816 (by decide +kernel) rfl), by decide +kernel, rfl, fun h => by cases h⟩
theorem kk_X8_97 : Cond.constantLong RX8 97 (Int64.ofInt (97)) ∈ jz_GW := jz_in 931 (by decide +kernel) rfl
theorem kk_X8_99 : Cond.constantLong RX8 99 (Int64.ofInt (122)) ∈ jz_GW := jz_in 932 (by decide +kernel) rfl
theorem kk_X8_101 : Cond.constantLong RX8 101 (Int64.ofInt (48)) ∈ jz_GW := jz_in 933 (by decide +kernel) rfl
theorem kk_X8_103 : Cond.constantLong RX8 103 (Int64.ofInt (57)) ∈ jz_GW := jz_in 934 (by decide +kernel) rfl
theorem kf_X8_105 : jz_Fd RX8 105 8 14 := ⟨_, _, _, kc8, by decide, rfl, Or.inl (jz_in 815 (by decide +kernel) rfl)⟩
theorem kw_X8_105 : jz_Fw RX8 105 8 14 (.int) false := ⟨_, _, _, kc8, by decide, rfl, Or.inl (jz_in 815 (by decide +kernel) rfl), by decide +kernel, rfl, fun h => by cases h⟩
theorem kf_X8_119 : jz_Fd RX8 119 8 18 := ⟨_, _, _, kc8, by decide, rfl, Or.inl (jz_in 819 (by decide +kernel) rfl)⟩
theorem kw_X8_119 : jz_Fw RX8 119 8 18 (.int) false := ⟨_, _, _, kc8, by decide, rfl, Or.inl (jz_in 819 (by decide +kernel) rfl), by decide +kernel, rfl, fun h => by cases h⟩
theorem kk_X8_151 : Cond.constant RX8 151 (Int32.ofInt (-1000100)) ∈ jz_GW := jz_in 974 (by decide +kernel) rfl
theorem kf_X8_152 : jz_Fd RX8 152 8 9 := ⟨_, _, _, kc8, by decide, rfl, Or.inl (jz_in 810 (by decide +kernel) rfl)⟩
theorem kw_X8_152 : jz_Fw RX8 152 8 9 (.int) false := ⟨_, _, _, kc8, by decide, rfl, Or.inl (jz_in 810 (by decide +kernel) rfl), by decide +kernel, rfl, fun h => by cases h⟩
theorem kk_X8_187 : Cond.constant RX8 187 (Int32.ofInt (-1000002)) ∈ jz_GW := jz_in 983 (by decide +kernel) rfl
theorem kk_X8_188 : Cond.constantLong RX8 188 (Int64.ofInt (24)) ∈ jz_GW := jz_in 984 (by decide +kernel) rfl
theorem kk_X8_196 : Cond.constantLong RX8 196 (Int64.ofInt (9)) ∈ jz_GW := jz_in 1013 (by decide +kernel) rfl
theorem kk_X8_201 : Cond.constantLong RX8 201 (Int64.ofInt (60)) ∈ jz_GW := jz_in 1030 (by decide +kernel) rfl
theorem kk_X8_203 : Cond.constantLong RX8 203 (Int64.ofInt (5)) ∈ jz_GW := jz_in 1043 (by decide +kernel) rfl
theorem kk_X8_205 : Cond.constantLong RX8 205 (Int64.ofInt (3)) ∈ jz_GW := jz_in 1051 (by decide +kernel) rfl
theorem kk_X8_219 : Cond.constantLong RX8 219 (Int64.ofInt (30)) ∈ jz_GW := jz_in 1099 (by decide +kernel) rfl
theorem kk_X8_228 : Cond.constantLong RX8 228 (Int64.ofInt (12)) ∈ jz_GW := jz_in 1130 (by decide +kernel) rfl
theorem kk_X8_234 : Cond.constantLong RX8 234 (Int64.ofInt (-1000002)) ∈ jz_GW := jz_in 1147 (by decide +kernel) rfl
theorem kk_X8_236 : Cond.constantLong RX8 236 (Int64.ofInt (10)) ∈ jz_GW := jz_in 1148 (by decide +kernel) rfl
theorem kk_X8_238 : Cond.constantLong RX8 238 (Int64.ofInt (-1000001)) ∈ jz_GW := jz_in 1149 (by decide +kernel) rfl
theorem kk_X8_240 : Cond.constantLong RX8 240 (Int64.ofInt (999999)) ∈ jz_GW := jz_in 1154 (by decide +kernel) rfl
theorem kk_X8_242 : Cond.constantLong RX8 242 (Int64.ofInt (16807)) ∈ jz_GW := jz_in 1155 (by decide +kernel) rfl
theorem kk_X8_244 : Cond.constantLong RX8 244 (Int64.ofInt (2147483647)) ∈ jz_GW := jz_in 1156 (by decide +kernel) rfl
theorem kf_X8_255 : jz_Fd RX8 255 8 24 := ⟨_, _, _, kc8, by decide, rfl, Or.inl (jz_in 825 (by decide +kernel) rfl)⟩
theorem kw_X8_255 : jz_Fw RX8 255 8 24 (.int) false := ⟨_, _, _, kc8, by decide, rfl, Or.inl (jz_in 825 (by decide +kernel) rfl), by decide +kernel, rfl, fun h => by cases h⟩
theorem kk_J6_265 : Cond.constant RJ6 265 (Int32.ofInt (1431655765)) ∈ jz_GW := jz_in 637 (by decide +kernel) rfl
theorem kk_J6_266 : Cond.constant RJ6 266 (Int32.ofInt (858993459)) ∈ jz_GW := jz_in 638 (by decide +kernel) rfl
theorem kk_J6_267 : Cond.constant RJ6 267 (Int32.ofInt (252645135)) ∈ jz_GW := jz_in 639 (by decide +kernel) rfl
def mJ6_bitCount_0f7a4 : jz_M := (RJ6, cJ6_bitCount_0f7a4, 1, (some .int), yJ6_bitCount_0f7a4, 1, 0)
theorem kmJ6_bitCount_0f7a4 : jz_myS mJ6_bitCount_0f7a4 1 := ⟨⟨jz_in 96 (by decide +kernel) rfl, jz_in 636 (by decide +kernel) rfl, ⟨by decide +kernel, by decide +kernel⟩, by decide +kernel, by decide⟩, jz_in 635 (by decide +kernel) rfl⟩
theorem koJ6_bitCount_0f7a4 : jz_mok mJ6_bitCount_0f7a4 := ⟨by decide +kernel, rfl, by decide +kernel⟩
def mJ9_max_7cf53 : jz_M := (RJ9, cJ9_max_7cf53, 2, (some .int), yJ9_max_7cf53, 1, 0)
def mJ9_min_7cf53 : jz_M := (RJ9, cJ9_min_7cf53, 2, (some .int), yJ9_min_7cf53, 1, 0)
def mL_law : jz_M := (RL, cL_law, 4, (some .boolean), yL_law, 40, 0)
def mX0_endHour : jz_M := (RX0, cX0_endHour, 2, (none : Option Jvm.ClassFile.FieldType), yX0_endHour, 2, 0)
theorem kmX0_endHour : jz_myV mX0_endHour 1 := ⟨⟨jz_in 90 (by decide +kernel) rfl, jz_in 523 (by decide +kernel) rfl, ⟨by decide +kernel, by decide +kernel⟩, by decide +kernel, by decide⟩, jz_in 522 (by decide +kernel) rfl, jz_in 28 (by decide +kernel) rfl⟩
theorem koX0_endHour : jz_mok mX0_endHour := ⟨by decide +kernel, rfl, by decide +kernel⟩
def mX0_init : jz_M := (RX0, cX0_init, 2, (none : Option Jvm.ClassFile.FieldType), yX0_init, 1, 0)
theorem kmX0_init : jz_myI mX0_init 1 := ⟨⟨jz_in 90 (by decide +kernel) rfl, jz_in 202 (by decide +kernel) rfl, ⟨by decide +kernel, by decide +kernel⟩, by decide +kernel, by decide⟩, jz_in 201 (by decide +kernel) rfl, rfl, rfl⟩
theorem koX0_init : jz_mok mX0_init := ⟨by decide +kernel, rfl, by decide +kernel⟩
def mX0_isBiting : jz_M := (RX0, cX0_isBiting, 1, (some .boolean), yX0_isBiting, 1, 0)
theorem kmX0_isBiting : jz_myV mX0_isBiting 0 := ⟨⟨jz_in 90 (by decide +kernel) rfl, jz_in 503 (by decide +kernel) rfl, ⟨by decide +kernel, by decide +kernel⟩, by decide +kernel, by decide⟩, jz_in 502 (by decide +kernel) rfl, jz_in 24 (by decide +kernel) rfl⟩
theorem koX0_isBiting : jz_mok mX0_isBiting := ⟨by decide +kernel, rfl, by decide +kernel⟩
def mX0_swallow : jz_M := (RX0, cX0_swallow, 2, (none : Option Jvm.ClassFile.FieldType), yX0_swallow, 2, 0)
theorem kmX0_swallow : jz_myV mX0_swallow 1 := ⟨⟨jz_in 90 (by decide +kernel) rfl, jz_in 518 (by decide +kernel) rfl, ⟨by decide +kernel, by decide +kernel⟩, by decide +kernel, by decide⟩, jz_in 517 (by decide +kernel) rfl, jz_in 27 (by decide +kernel) rfl⟩
theorem koX0_swallow : jz_mok mX0_swallow := ⟨by decide +kernel, rfl, by decide +kernel⟩
def mX0_take : jz_M := (RX0, cX0_take, 2, (none : Option Jvm.ClassFile.FieldType), yX0_take, 1, 0)
theorem kmX0_take : jz_myV mX0_take 1 := ⟨⟨jz_in 90 (by decide +kernel) rfl, jz_in 456 (by decide +kernel) rfl, ⟨by decide +kernel, by decide +kernel⟩, by decide +kernel, by decide⟩, jz_in 455 (by decide +kernel) rfl, jz_in 16 (by decide +kernel) rfl⟩
theorem koX0_take : jz_mok mX0_take := ⟨by decide +kernel, rfl, by decide +kernel⟩
def mX1_become : jz_M := (RX1, cX1_become, 3, (none : Option Jvm.ClassFile.FieldType), yX1_become, 1, 0)
theorem kmX1_become : jz_myV mX1_become 2 := ⟨⟨jz_in 89 (by decide +kernel) rfl, jz_in 680 (by decide +kernel) rfl, ⟨by decide +kernel, by decide +kernel⟩, by decide +kernel, by decide⟩, jz_in 679 (by decide +kernel) rfl, jz_in 44 (by decide +kernel) rfl⟩
theorem koX1_become : jz_mok mX1_become := ⟨by decide +kernel, rfl, by decide +kernel⟩
def mX1_init : jz_M := (RX1, cX1_init, 2, (none : Option Jvm.ClassFile.FieldType), yX1_init, 1, 0)
theorem kmX1_init : jz_myI mX1_init 1 := ⟨⟨jz_in 89 (by decide +kernel) rfl, jz_in 159 (by decide +kernel) rfl, ⟨by decide +kernel, by decide +kernel⟩, by decide +kernel, by decide⟩, jz_in 158 (by decide +kernel) rfl, rfl, rfl⟩
theorem koX1_init : jz_mok mX1_init := ⟨by decide +kernel, rfl, by decide +kernel⟩
def mX1_isInForce : jz_M := (RX1, cX1_isInForce, 1, (some .boolean), yX1_isInForce, 1, 0)
theorem kmX1_isInForce : jz_myV mX1_isInForce 0 := ⟨⟨jz_in 89 (by decide +kernel) rfl, jz_in 570 (by decide +kernel) rfl, ⟨by decide +kernel, by decide +kernel⟩, by decide +kernel, by decide⟩, jz_in 569 (by decide +kernel) rfl, jz_in 33 (by decide +kernel) rfl⟩
theorem koX1_isInForce : jz_mok mX1_isInForce := ⟨by decide +kernel, rfl, by decide +kernel⟩
def mX1_isVoid : jz_M := (RX1, cX1_isVoid, 1, (some .boolean), yX1_isVoid, 1, 0)
theorem kmX1_isVoid : jz_myV mX1_isVoid 0 := ⟨⟨jz_in 89 (by decide +kernel) rfl, jz_in 536 (by decide +kernel) rfl, ⟨by decide +kernel, by decide +kernel⟩, by decide +kernel, by decide⟩, jz_in 535 (by decide +kernel) rfl, jz_in 30 (by decide +kernel) rfl⟩
theorem koX1_isVoid : jz_mok mX1_isVoid := ⟨by decide +kernel, rfl, by decide +kernel⟩
def mX1_liking : jz_M := (RX1, cX1_liking, 4, (some .int), yX1_liking, 1, 0)
theorem kmX1_liking : jz_myV mX1_liking 2 := ⟨⟨jz_in 89 (by decide +kernel) rfl, jz_in 508 (by decide +kernel) rfl, ⟨by decide +kernel, by decide +kernel⟩, by decide +kernel, by decide⟩, jz_in 507 (by decide +kernel) rfl, jz_in 25 (by decide +kernel) rfl⟩
theorem koX1_liking : jz_mok mX1_liking := ⟨by decide +kernel, rfl, by decide +kernel⟩
def mX1_loseBite : jz_M := (RX1, cX1_loseBite, 3, (some .int), yX1_loseBite, 2, 0)
theorem kmX1_loseBite : jz_myV mX1_loseBite 1 := ⟨⟨jz_in 89 (by decide +kernel) rfl, jz_in 513 (by decide +kernel) rfl, ⟨by decide +kernel, by decide +kernel⟩, by decide +kernel, by decide⟩, jz_in 512 (by decide +kernel) rfl, jz_in 26 (by decide +kernel) rfl⟩
theorem koX1_loseBite : jz_mok mX1_loseBite := ⟨by decide +kernel, rfl, by decide +kernel⟩
def mX1_standing : jz_M := (RX1, cX1_standing, 1, (some .int), yX1_standing, 2, 0)
theorem kmX1_standing : jz_myV mX1_standing 0 := ⟨⟨jz_in 89 (by decide +kernel) rfl, jz_in 565 (by decide +kernel) rfl, ⟨by decide +kernel, by decide +kernel⟩, by decide +kernel, by decide⟩, jz_in 564 (by decide +kernel) rfl, jz_in 32 (by decide +kernel) rfl⟩
theorem koX1_standing : jz_mok mX1_standing := ⟨by decide +kernel, rfl, by decide +kernel⟩
def mX1_take : jz_M := (RX1, cX1_take, 2, (none : Option Jvm.ClassFile.FieldType), yX1_take, 1, 0)
theorem kmX1_take : jz_myV mX1_take 1 := ⟨⟨jz_in 89 (by decide +kernel) rfl, jz_in 452 (by decide +kernel) rfl, ⟨by decide +kernel, by decide +kernel⟩, by decide +kernel, by decide⟩, jz_in 451 (by decide +kernel) rfl, jz_in 15 (by decide +kernel) rfl⟩
theorem koX1_take : jz_mok mX1_take := ⟨by decide +kernel, rfl, by decide +kernel⟩
def mX2_add : jz_M := (RX2, cX2_add, 2, (none : Option Jvm.ClassFile.FieldType), yX2_add, 1, 0)
theorem kmX2_add : jz_myV mX2_add 1 := ⟨⟨jz_in 91 (by decide +kernel) rfl, jz_in 773 (by decide +kernel) rfl, ⟨by decide +kernel, by decide +kernel⟩, by decide +kernel, by decide⟩, jz_in 772 (by decide +kernel) rfl, jz_in 53 (by decide +kernel) rfl⟩
theorem koX2_add : jz_mok mX2_add := ⟨by decide +kernel, rfl, by decide +kernel⟩
def mX2_at : jz_M := (RX2, cX2_at, 2, (some .int), yX2_at, 1, 0)
theorem kmX2_at : jz_myV mX2_at 1 := ⟨⟨jz_in 91 (by decide +kernel) rfl, jz_in 781 (by decide +kernel) rfl, ⟨by decide +kernel, by decide +kernel⟩, by decide +kernel, by decide⟩, jz_in 780 (by decide +kernel) rfl, jz_in 54 (by decide +kernel) rfl⟩
theorem koX2_at : jz_mok mX2_at := ⟨by decide +kernel, rfl, by decide +kernel⟩
def mX2_init : jz_M := (RX2, cX2_init, 1, (none : Option Jvm.ClassFile.FieldType), yX2_init, 1, 1)
theorem kmX2_init : jz_myI mX2_init 0 := ⟨⟨jz_in 91 (by decide +kernel) rfl, jz_in 281 (by decide +kernel) rfl, ⟨by decide +kernel, by decide +kernel⟩, by decide +kernel, by decide⟩, jz_in 280 (by decide +kernel) rfl, rfl, rfl⟩
theorem koX2_init : jz_mok mX2_init := ⟨by decide +kernel, rfl, by decide +kernel⟩
def mX3_bringBack : jz_M := (RX3, cX3_bringBack, 3, (some .boolean), yX3_bringBack, 3, 0)
theorem kmX3_bringBack : jz_myV mX3_bringBack 1 := ⟨⟨jz_in 87 (by decide +kernel) rfl, jz_in 472 (by decide +kernel) rfl, ⟨by decide +kernel, by decide +kernel⟩, by decide +kernel, by decide⟩, jz_in 471 (by decide +kernel) rfl, jz_in 18 (by decide +kernel) rfl⟩
theorem koX3_bringBack : jz_mok mX3_bringBack := ⟨by decide +kernel, rfl, by decide +kernel⟩
def mX3_forget : jz_M := (RX3, cX3_forget, 1, (none : Option Jvm.ClassFile.FieldType), yX3_forget, 1, 0)
theorem kmX3_forget : jz_myV mX3_forget 0 := ⟨⟨jz_in 87 (by decide +kernel) rfl, jz_in 460 (by decide +kernel) rfl, ⟨by decide +kernel, by decide +kernel⟩, by decide +kernel, by decide⟩, jz_in 459 (by decide +kernel) rfl, jz_in 17 (by decide +kernel) rfl⟩
theorem koX3_forget : jz_mok mX3_forget := ⟨by decide +kernel, rfl, by decide +kernel⟩
def mX3_init : jz_M := (RX3, cX3_init, 2, (none : Option Jvm.ClassFile.FieldType), yX3_init, 3, 337)
theorem kmX3_init : jz_myI mX3_init 0 := ⟨⟨jz_in 87 (by decide +kernel) rfl, jz_in 143 (by decide +kernel) rfl, ⟨by decide +kernel, by decide +kernel⟩, by decide +kernel, by decide⟩, jz_in 142 (by decide +kernel) rfl, rfl, rfl⟩
theorem koX3_init : jz_mok mX3_init := ⟨by decide +kernel, rfl, by decide +kernel⟩
def mX3_keep : jz_M := (RX3, cX3_keep, 2, (none : Option Jvm.ClassFile.FieldType), yX3_keep, 3, 0)
theorem kmX3_keep : jz_myV mX3_keep 1 := ⟨⟨jz_in 87 (by decide +kernel) rfl, jz_in 486 (by decide +kernel) rfl, ⟨by decide +kernel, by decide +kernel⟩, by decide +kernel, by decide⟩, jz_in 485 (by decide +kernel) rfl, jz_in 20 (by decide +kernel) rfl⟩
theorem koX3_keep : jz_mok mX3_keep := ⟨by decide +kernel, rfl, by decide +kernel⟩
def mX4_at : jz_M := (RX4, cX4_at, 2, (some .int), yX4_at, 1, 0)
theorem kmX4_at : jz_myV mX4_at 1 := ⟨⟨jz_in 92 (by decide +kernel) rfl, jz_in 688 (by decide +kernel) rfl, ⟨by decide +kernel, by decide +kernel⟩, by decide +kernel, by decide⟩, jz_in 687 (by decide +kernel) rfl, jz_in 46 (by decide +kernel) rfl⟩
theorem koX4_at : jz_mok mX4_at := ⟨by decide +kernel, rfl, by decide +kernel⟩
def mX4_begin : jz_M := (RX4, cX4_begin, 4, (none : Option Jvm.ClassFile.FieldType), yX4_begin, 2, 0)
theorem kmX4_begin : jz_myV mX4_begin 2 := ⟨⟨jz_in 92 (by decide +kernel) rfl, jz_in 366 (by decide +kernel) rfl, ⟨by decide +kernel, by decide +kernel⟩, by decide +kernel, by decide⟩, jz_in 365 (by decide +kernel) rfl, jz_in 2 (by decide +kernel) rfl⟩
theorem koX4_begin : jz_mok mX4_begin := ⟨by decide +kernel, rfl, by decide +kernel⟩
def mX4_hasPlaces : jz_M := (RX4, cX4_hasPlaces, 3, (some .boolean), yX4_hasPlaces, 1, 0)
theorem kmX4_hasPlaces : jz_myV mX4_hasPlaces 2 := ⟨⟨jz_in 92 (by decide +kernel) rfl, jz_in 380 (by decide +kernel) rfl, ⟨by decide +kernel, by decide +kernel⟩, by decide +kernel, by decide⟩, jz_in 379 (by decide +kernel) rfl, jz_in 3 (by decide +kernel) rfl⟩
theorem koX4_hasPlaces : jz_mok mX4_hasPlaces := ⟨by decide +kernel, rfl, by decide +kernel⟩
def mX4_init : jz_M := (RX4, cX4_init, 1, (none : Option Jvm.ClassFile.FieldType), yX4_init, 1, 1)
theorem kmX4_init : jz_myI mX4_init 0 := ⟨⟨jz_in 92 (by decide +kernel) rfl, jz_in 296 (by decide +kernel) rfl, ⟨by decide +kernel, by decide +kernel⟩, by decide +kernel, by decide⟩, jz_in 295 (by decide +kernel) rfl, rfl, rfl⟩
theorem koX4_init : jz_mok mX4_init := ⟨by decide +kernel, rfl, by decide +kernel⟩
def mX4_put : jz_M := (RX4, cX4_put, 4, (some .int), yX4_put, 1, 0)
theorem kmX4_put : jz_myV mX4_put 2 := ⟨⟨jz_in 92 (by decide +kernel) rfl, jz_in 384 (by decide +kernel) rfl, ⟨by decide +kernel, by decide +kernel⟩, by decide +kernel, by decide⟩, jz_in 383 (by decide +kernel) rfl, jz_in 4 (by decide +kernel) rfl⟩
theorem koX4_put : jz_mok mX4_put := ⟨by decide +kernel, rfl, by decide +kernel⟩
def mX5_befall : jz_M := (RX5, cX5_befall, 4, (none : Option Jvm.ClassFile.FieldType), yX5_befall, 2, 0)
theorem kmX5_befall : jz_myV mX5_befall 1 := ⟨⟨jz_in 88 (by decide +kernel) rfl, jz_in 731 (by decide +kernel) rfl, ⟨by decide +kernel, by decide +kernel⟩, by decide +kernel, by decide⟩, jz_in 730 (by decide +kernel) rfl, jz_in 50 (by decide +kernel) rfl⟩
theorem koX5_befall : jz_mok mX5_befall := ⟨by decide +kernel, rfl, by decide +kernel⟩
def mX5_choiceOf : jz_M := (RX5, cX5_choiceOf, 9, (some (.object "VineLaws$Leaf")), yX5_choiceOf, 2, 0)
theorem kmX5_choiceOf : jz_myV mX5_choiceOf 1 := ⟨⟨jz_in 88 (by decide +kernel) rfl, jz_in 499 (by decide +kernel) rfl, ⟨by decide +kernel, by decide +kernel⟩, by decide +kernel, by decide⟩, jz_in 498 (by decide +kernel) rfl, jz_in 23 (by decide +kernel) rfl⟩
theorem koX5_choiceOf : jz_mok mX5_choiceOf := ⟨by decide +kernel, rfl, by decide +kernel⟩
def mX5_clear : jz_M := (RX5, cX5_clear, 5, (none : Option Jvm.ClassFile.FieldType), yX5_clear, 1, 0)
theorem kmX5_clear : jz_myV mX5_clear 0 := ⟨⟨jz_in 88 (by decide +kernel) rfl, jz_in 416 (by decide +kernel) rfl, ⟨by decide +kernel, by decide +kernel⟩, by decide +kernel, by decide⟩, jz_in 415 (by decide +kernel) rfl, jz_in 7 (by decide +kernel) rfl⟩
theorem koX5_clear : jz_mok mX5_clear := ⟨by decide +kernel, rfl, by decide +kernel⟩
def mX5_driveOff : jz_M := (RX5, cX5_driveOff, 7, (none : Option Jvm.ClassFile.FieldType), yX5_driveOff, 1, 0)
theorem kmX5_driveOff : jz_myV mX5_driveOff 2 := ⟨⟨jz_in 88 (by decide +kernel) rfl, jz_in 643 (by decide +kernel) rfl, ⟨by decide +kernel, by decide +kernel⟩, by decide +kernel, by decide⟩, jz_in 642 (by decide +kernel) rfl, jz_in 40 (by decide +kernel) rfl⟩
theorem koX5_driveOff : jz_mok mX5_driveOff := ⟨by decide +kernel, rfl, by decide +kernel⟩
def mX5_goatAt : jz_M := (RX5, cX5_goatAt, 2, (some (.object "VineLaws$Goat")), yX5_goatAt, 1, 0)
theorem kmX5_goatAt : jz_myV mX5_goatAt 1 := ⟨⟨jz_in 88 (by decide +kernel) rfl, jz_in 552 (by decide +kernel) rfl, ⟨by decide +kernel, by decide +kernel⟩, by decide +kernel, by decide⟩, jz_in 551 (by decide +kernel) rfl, jz_in 31 (by decide +kernel) rfl⟩
theorem koX5_goatAt : jz_mok mX5_goatAt := ⟨by decide +kernel, rfl, by decide +kernel⟩
def mX5_goesAs : jz_M := (RX5, cX5_goesAs, 7, (some .boolean), yX5_goesAs, 5, 0)
theorem kmX5_goesAs : jz_myV mX5_goesAs 4 := ⟨⟨jz_in 88 (by decide +kernel) rfl, jz_in 684 (by decide +kernel) rfl, ⟨by decide +kernel, by decide +kernel⟩, by decide +kernel, by decide⟩, jz_in 683 (by decide +kernel) rfl, jz_in 45 (by decide +kernel) rfl⟩
theorem koX5_goesAs : jz_mok mX5_goesAs := ⟨by decide +kernel, rfl, by decide +kernel⟩
def mX5_hangOnTop : jz_M := (RX5, cX5_hangOnTop, 6, (none : Option Jvm.ClassFile.FieldType), yX5_hangOnTop, 1, 0)
theorem kmX5_hangOnTop : jz_myV mX5_hangOnTop 1 := ⟨⟨jz_in 88 (by decide +kernel) rfl, jz_in 647 (by decide +kernel) rfl, ⟨by decide +kernel, by decide +kernel⟩, by decide +kernel, by decide⟩, jz_in 646 (by decide +kernel) rfl, jz_in 41 (by decide +kernel) rfl⟩
theorem koX5_hangOnTop : jz_mok mX5_hangOnTop := ⟨by decide +kernel, rfl, by decide +kernel⟩
def mX5_hasLeaves : jz_M := (RX5, cX5_hasLeaves, 2, (some .boolean), yX5_hasLeaves, 1, 0)
theorem kmX5_hasLeaves : jz_myV mX5_hasLeaves 1 := ⟨⟨jz_in 88 (by decide +kernel) rfl, jz_in 620 (by decide +kernel) rfl, ⟨by decide +kernel, by decide +kernel⟩, by decide +kernel, by decide⟩, jz_in 619 (by decide +kernel) rfl, jz_in 37 (by decide +kernel) rfl⟩
theorem koX5_hasLeaves : jz_mok mX5_hasLeaves := ⟨by decide +kernel, rfl, by decide +kernel⟩
def mX5_inForce : jz_M := (RX5, cX5_inForce, 6, (some .int), yX5_inForce, 2, 0)
theorem kmX5_inForce : jz_myV mX5_inForce 0 := ⟨⟨jz_in 88 (by decide +kernel) rfl, jz_in 599 (by decide +kernel) rfl, ⟨by decide +kernel, by decide +kernel⟩, by decide +kernel, by decide⟩, jz_in 598 (by decide +kernel) rfl, jz_in 36 (by decide +kernel) rfl⟩
theorem koX5_inForce : jz_mok mX5_inForce := ⟨by decide +kernel, rfl, by decide +kernel⟩
def mX5_init : jz_M := (RX5, cX5_init, 2, (none : Option Jvm.ClassFile.FieldType), yX5_init, 2, 13)
theorem kmX5_init : jz_myI mX5_init 0 := ⟨⟨jz_in 88 (by decide +kernel) rfl, jz_in 150 (by decide +kernel) rfl, ⟨by decide +kernel, by decide +kernel⟩, by decide +kernel, by decide⟩, jz_in 149 (by decide +kernel) rfl, rfl, rfl⟩
theorem koX5_init : jz_mok mX5_init := ⟨by decide +kernel, rfl, by decide +kernel⟩
def mX5_isThere : jz_M := (RX5, cX5_isThere, 1, (some .boolean), yX5_isThere, 1, 0)
theorem kmX5_isThere : jz_myV mX5_isThere 0 := ⟨⟨jz_in 88 (by decide +kernel) rfl, jz_in 482 (by decide +kernel) rfl, ⟨by decide +kernel, by decide +kernel⟩, by decide +kernel, by decide⟩, jz_in 481 (by decide +kernel) rfl, jz_in 19 (by decide +kernel) rfl⟩
theorem koX5_isThere : jz_mok mX5_isThere := ⟨by decide +kernel, rfl, by decide +kernel⟩
def mX5_keepsInForce : jz_M := (RX5, cX5_keepsInForce, 4, (some .boolean), yX5_keepsInForce, 5, 0)
theorem kmX5_keepsInForce : jz_myV mX5_keepsInForce 2 := ⟨⟨jz_in 88 (by decide +kernel) rfl, jz_in 651 (by decide +kernel) rfl, ⟨by decide +kernel, by decide +kernel⟩, by decide +kernel, by decide⟩, jz_in 650 (by decide +kernel) rfl, jz_in 42 (by decide +kernel) rfl⟩
theorem koX5_keepsInForce : jz_mok mX5_keepsInForce := ⟨by decide +kernel, rfl, by decide +kernel⟩
def mX5_leafAt : jz_M := (RX5, cX5_leafAt, 2, (some (.object "VineLaws$Leaf")), yX5_leafAt, 1, 0)
theorem kmX5_leafAt : jz_myV mX5_leafAt 1 := ⟨⟨jz_in 88 (by decide +kernel) rfl, jz_in 532 (by decide +kernel) rfl, ⟨by decide +kernel, by decide +kernel⟩, by decide +kernel, by decide⟩, jz_in 531 (by decide +kernel) rfl, jz_in 29 (by decide +kernel) rfl⟩
theorem koX5_leafAt : jz_mok mX5_leafAt := ⟨by decide +kernel, rfl, by decide +kernel⟩
def mX5_leafIn : jz_M := (RX5, cX5_leafIn, 3, (some (.object "VineLaws$Leaf")), yX5_leafIn, 3, 0)
theorem kmX5_leafIn : jz_myV mX5_leafIn 2 := ⟨⟨jz_in 88 (by decide +kernel) rfl, jz_in 584 (by decide +kernel) rfl, ⟨by decide +kernel, by decide +kernel⟩, by decide +kernel, by decide⟩, jz_in 583 (by decide +kernel) rfl, jz_in 34 (by decide +kernel) rfl⟩
theorem koX5_leafIn : jz_mok mX5_leafIn := ⟨by decide +kernel, rfl, by decide +kernel⟩
def mX5_leftOfAll : jz_M := (RX5, cX5_leftOfAll, 6, (some .int), yX5_leftOfAll, 1, 0)
theorem kmX5_leftOfAll : jz_myV mX5_leftOfAll 0 := ⟨⟨jz_in 88 (by decide +kernel) rfl, jz_in 736 (by decide +kernel) rfl, ⟨by decide +kernel, by decide +kernel⟩, by decide +kernel, by decide⟩, jz_in 735 (by decide +kernel) rfl, jz_in 51 (by decide +kernel) rfl⟩
theorem koX5_leftOfAll : jz_mok mX5_leftOfAll := ⟨by decide +kernel, rfl, by decide +kernel⟩
def mX5_letBite : jz_M := (RX5, cX5_letBite, 4, (some .int), yX5_letBite, 3, 0)
theorem kmX5_letBite : jz_myV mX5_letBite 1 := ⟨⟨jz_in 88 (by decide +kernel) rfl, jz_in 495 (by decide +kernel) rfl, ⟨by decide +kernel, by decide +kernel⟩, by decide +kernel, by decide⟩, jz_in 494 (by decide +kernel) rfl, jz_in 22 (by decide +kernel) rfl⟩
theorem koX5_letBite : jz_mok mX5_letBite := ⟨by decide +kernel, rfl, by decide +kernel⟩
def mX5_likesAlike : jz_M := (RX5, cX5_likesAlike, 4, (some .boolean), yX5_likesAlike, 2, 0)
theorem kmX5_likesAlike : jz_myV mX5_likesAlike 2 := ⟨⟨jz_in 88 (by decide +kernel) rfl, jz_in 700 (by decide +kernel) rfl, ⟨by decide +kernel, by decide +kernel⟩, by decide +kernel, by decide⟩, jz_in 699 (by decide +kernel) rfl, jz_in 47 (by decide +kernel) rfl⟩
theorem koX5_likesAlike : jz_mok mX5_likesAlike := ⟨by decide +kernel, rfl, by decide +kernel⟩
def mX5_notVoid : jz_M := (RX5, cX5_notVoid, 6, (some .int), yX5_notVoid, 2, 0)
theorem kmX5_notVoid : jz_myV mX5_notVoid 0 := ⟨⟨jz_in 88 (by decide +kernel) rfl, jz_in 628 (by decide +kernel) rfl, ⟨by decide +kernel, by decide +kernel⟩, by decide +kernel, by decide⟩, jz_in 627 (by decide +kernel) rfl, jz_in 38 (by decide +kernel) rfl⟩
theorem koX5_notVoid : jz_mok mX5_notVoid := ⟨by decide +kernel, rfl, by decide +kernel⟩
def mX5_passHour : jz_M := (RX5, cX5_passHour, 6, (some .int), yX5_passHour, 4, 0)
theorem kmX5_passHour : jz_myV mX5_passHour 0 := ⟨⟨jz_in 88 (by decide +kernel) rfl, jz_in 491 (by decide +kernel) rfl, ⟨by decide +kernel, by decide +kernel⟩, by decide +kernel, by decide⟩, jz_in 490 (by decide +kernel) rfl, jz_in 21 (by decide +kernel) rfl⟩
theorem koX5_passHour : jz_mok mX5_passHour := ⟨by decide +kernel, rfl, by decide +kernel⟩
def mX5_passHours : jz_M := (RX5, cX5_passHours, 3, (none : Option Jvm.ClassFile.FieldType), yX5_passHours, 5, 0)
theorem kmX5_passHours : jz_myV mX5_passHours 1 := ⟨⟨jz_in 88 (by decide +kernel) rfl, jz_in 590 (by decide +kernel) rfl, ⟨by decide +kernel, by decide +kernel⟩, by decide +kernel, by decide⟩, jz_in 589 (by decide +kernel) rfl, jz_in 35 (by decide +kernel) rfl⟩
theorem koX5_passHours : jz_mok mX5_passHours := ⟨by decide +kernel, rfl, by decide +kernel⟩
def mX5_take : jz_M := (RX5, cX5_take, 3, (none : Option Jvm.ClassFile.FieldType), yX5_take, 2, 0)
theorem kmX5_take : jz_myV mX5_take 1 := ⟨⟨jz_in 88 (by decide +kernel) rfl, jz_in 448 (by decide +kernel) rfl, ⟨by decide +kernel, by decide +kernel⟩, by decide +kernel, by decide⟩, jz_in 447 (by decide +kernel) rfl, jz_in 14 (by decide +kernel) rfl⟩
theorem koX5_take : jz_mok mX5_take := ⟨by decide +kernel, rfl, by decide +kernel⟩
def mX5_tear : jz_M := (RX5, cX5_tear, 6, (none : Option Jvm.ClassFile.FieldType), yX5_tear, 1, 0)
theorem kmX5_tear : jz_myV mX5_tear 1 := ⟨⟨jz_in 88 (by decide +kernel) rfl, jz_in 714 (by decide +kernel) rfl, ⟨by decide +kernel, by decide +kernel⟩, by decide +kernel, by decide⟩, jz_in 713 (by decide +kernel) rfl, jz_in 49 (by decide +kernel) rfl⟩
theorem koX5_tear : jz_mok mX5_tear := ⟨by decide +kernel, rfl, by decide +kernel⟩
def mX6_add : jz_M := (RX6, cX6_add, 2, (some .boolean), yX6_add, 1, 0)
theorem kmX6_add : jz_myV mX6_add 1 := ⟨⟨jz_in 86 (by decide +kernel) rfl, jz_in 403 (by decide +kernel) rfl, ⟨by decide +kernel, by decide +kernel⟩, by decide +kernel, by decide⟩, jz_in 402 (by decide +kernel) rfl, jz_in 5 (by decide +kernel) rfl⟩
theorem koX6_add : jz_mok mX6_add := ⟨by decide +kernel, rfl, by decide +kernel⟩
def mX6_advance : jz_M := (RX6, cX6_advance, 4, (none : Option Jvm.ClassFile.FieldType), yX6_advance, 2, 0)
theorem kmX6_advance : jz_myV mX6_advance 0 := ⟨⟨jz_in 86 (by decide +kernel) rfl, jz_in 420 (by decide +kernel) rfl, ⟨by decide +kernel, by decide +kernel⟩, by decide +kernel, by decide⟩, jz_in 419 (by decide +kernel) rfl, jz_in 8 (by decide +kernel) rfl⟩
theorem koX6_advance : jz_mok mX6_advance := ⟨by decide +kernel, rfl, by decide +kernel⟩
def mX6_byteAt : jz_M := (RX6, cX6_byteAt, 2, (some .int), yX6_byteAt, 1, 0)
theorem kmX6_byteAt : jz_myV mX6_byteAt 1 := ⟨⟨jz_in 86 (by decide +kernel) rfl, jz_in 424 (by decide +kernel) rfl, ⟨by decide +kernel, by decide +kernel⟩, by decide +kernel, by decide⟩, jz_in 423 (by decide +kernel) rfl, jz_in 9 (by decide +kernel) rfl⟩
theorem koX6_byteAt : jz_mok mX6_byteAt := ⟨by decide +kernel, rfl, by decide +kernel⟩
def mX6_init : jz_M := (RX6, cX6_init, 1, (none : Option Jvm.ClassFile.FieldType), yX6_init, 1, 1)
theorem kmX6_init : jz_myI mX6_init 0 := ⟨⟨jz_in 86 (by decide +kernel) rfl, jz_in 111 (by decide +kernel) rfl, ⟨by decide +kernel, by decide +kernel⟩, by decide +kernel, by decide⟩, jz_in 110 (by decide +kernel) rfl, rfl, rfl⟩
theorem koX6_init : jz_mok mX6_init := ⟨by decide +kernel, rfl, by decide +kernel⟩
def mX6_readGoat : jz_M := (RX6, cX6_readGoat, 4, (none : Option Jvm.ClassFile.FieldType), yX6_readGoat, 4, 0)
theorem kmX6_readGoat : jz_myV mX6_readGoat 1 := ⟨⟨jz_in 86 (by decide +kernel) rfl, jz_in 443 (by decide +kernel) rfl, ⟨by decide +kernel, by decide +kernel⟩, by decide +kernel, by decide⟩, jz_in 442 (by decide +kernel) rfl, jz_in 13 (by decide +kernel) rfl⟩
theorem koX6_readGoat : jz_mok mX6_readGoat := ⟨by decide +kernel, rfl, by decide +kernel⟩
def mX6_readInto : jz_M := (RX6, cX6_readInto, 3, (some .boolean), yX6_readInto, 5, 0)
theorem kmX6_readInto : jz_myV mX6_readInto 1 := ⟨⟨jz_in 86 (by decide +kernel) rfl, jz_in 412 (by decide +kernel) rfl, ⟨by decide +kernel, by decide +kernel⟩, by decide +kernel, by decide⟩, jz_in 411 (by decide +kernel) rfl, jz_in 6 (by decide +kernel) rfl⟩
theorem koX6_readInto : jz_mok mX6_readInto := ⟨by decide +kernel, rfl, by decide +kernel⟩
def mX6_readLeaf : jz_M := (RX6, cX6_readLeaf, 5, (none : Option Jvm.ClassFile.FieldType), yX6_readLeaf, 4, 0)
theorem kmX6_readLeaf : jz_myV mX6_readLeaf 1 := ⟨⟨jz_in 86 (by decide +kernel) rfl, jz_in 439 (by decide +kernel) rfl, ⟨by decide +kernel, by decide +kernel⟩, by decide +kernel, by decide⟩, jz_in 438 (by decide +kernel) rfl, jz_in 12 (by decide +kernel) rfl⟩
theorem koX6_readLeaf : jz_mok mX6_readLeaf := ⟨by decide +kernel, rfl, by decide +kernel⟩
def mX6_sortOf : jz_M := (RX6, cX6_sortOf, 1, (some .int), yX6_sortOf, 1, 0)
theorem kmX6_sortOf : jz_myS mX6_sortOf 1 := ⟨⟨jz_in 86 (by decide +kernel) rfl, jz_in 435 (by decide +kernel) rfl, ⟨by decide +kernel, by decide +kernel⟩, by decide +kernel, by decide⟩, jz_in 434 (by decide +kernel) rfl⟩
theorem koX6_sortOf : jz_mok mX6_sortOf := ⟨by decide +kernel, rfl, by decide +kernel⟩
def mX6_takeNumber : jz_M := (RX6, cX6_takeNumber, 4, (some .int), yX6_takeNumber, 3, 0)
theorem kmX6_takeNumber : jz_myV mX6_takeNumber 2 := ⟨⟨jz_in 86 (by decide +kernel) rfl, jz_in 432 (by decide +kernel) rfl, ⟨by decide +kernel, by decide +kernel⟩, by decide +kernel, by decide⟩, jz_in 431 (by decide +kernel) rfl, jz_in 11 (by decide +kernel) rfl⟩
theorem koX6_takeNumber : jz_mok mX6_takeNumber := ⟨by decide +kernel, rfl, by decide +kernel⟩
def mX6_takeSign : jz_M := (RX6, cX6_takeSign, 2, (none : Option Jvm.ClassFile.FieldType), yX6_takeSign, 3, 0)
theorem kmX6_takeSign : jz_myV mX6_takeSign 1 := ⟨⟨jz_in 86 (by decide +kernel) rfl, jz_in 428 (by decide +kernel) rfl, ⟨by decide +kernel, by decide +kernel⟩, by decide +kernel, by decide⟩, jz_in 427 (by decide +kernel) rfl, jz_in 10 (by decide +kernel) rfl⟩
theorem koX6_takeSign : jz_mok mX6_takeSign := ⟨by decide +kernel, rfl, by decide +kernel⟩
def mX7_ahead : jz_M := (RX7, cX7_ahead, 4, (some .int), yX7_ahead, 6, 0)
theorem kmX7_ahead : jz_myV mX7_ahead 2 := ⟨⟨jz_in 85 (by decide +kernel) rfl, jz_in 580 (by decide +kernel) rfl, ⟨by decide +kernel, by decide +kernel⟩, by decide +kernel, by decide⟩, jz_in 578 (by decide +kernel) rfl, jz_in 579 (by decide +kernel) rfl⟩
theorem koX7_ahead : jz_mok mX7_ahead := ⟨by decide +kernel, rfl, by decide +kernel⟩
def mX7_as : jz_M := (RX7, cX7_as, 4, (some .int), yX7_as, 2, 0)
theorem kmX7_as : jz_myV mX7_as 2 := ⟨⟨jz_in 85 (by decide +kernel) rfl, jz_in 756 (by decide +kernel) rfl, ⟨by decide +kernel, by decide +kernel⟩, by decide +kernel, by decide⟩, jz_in 754 (by decide +kernel) rfl, jz_in 755 (by decide +kernel) rfl⟩
theorem koX7_as : jz_mok mX7_as := ⟨by decide +kernel, rfl, by decide +kernel⟩
def mX7_ask : jz_M := (RX7, cX7_ask, 4, (some .int), yX7_ask, 22, 0)
theorem kmX7_ask : jz_myV mX7_ask 2 := ⟨⟨jz_in 85 (by decide +kernel) rfl, jz_in 763 (by decide +kernel) rfl, ⟨by decide +kernel, by decide +kernel⟩, by decide +kernel, by decide⟩, jz_in 761 (by decide +kernel) rfl, jz_in 762 (by decide +kernel) rfl⟩
theorem koX7_ask : jz_mok mX7_ask := ⟨by decide +kernel, rfl, by decide +kernel⟩
def mX7_bait : jz_M := (RX7, cX7_bait, 8, (some .int), yX7_bait, 7, 0)
theorem kmX7_bait : jz_myV mX7_bait 3 := ⟨⟨jz_in 85 (by decide +kernel) rfl, jz_in 664 (by decide +kernel) rfl, ⟨by decide +kernel, by decide +kernel⟩, by decide +kernel, by decide⟩, jz_in 662 (by decide +kernel) rfl, jz_in 663 (by decide +kernel) rfl⟩
theorem koX7_bait : jz_mok mX7_bait := ⟨by decide +kernel, rfl, by decide +kernel⟩
def mX7_bodyOf : jz_M := (RX7, cX7_bodyOf, 2, (some .int), yX7_bodyOf, 1, 0)
theorem kmX7_bodyOf : jz_myS mX7_bodyOf 2 := ⟨⟨jz_in 85 (by decide +kernel) rfl, jz_in 766 (by decide +kernel) rfl, ⟨by decide +kernel, by decide +kernel⟩, by decide +kernel, by decide⟩, jz_in 765 (by decide +kernel) rfl⟩
theorem koX7_bodyOf : jz_mok mX7_bodyOf := ⟨by decide +kernel, rfl, by decide +kernel⟩
def mX7_broader : jz_M := (RX7, cX7_broader, 1, (some .int), yX7_broader, 1, 0)
theorem kmX7_broader : jz_myS mX7_broader 1 := ⟨⟨jz_in 85 (by decide +kernel) rfl, jz_in 759 (by decide +kernel) rfl, ⟨by decide +kernel, by decide +kernel⟩, by decide +kernel, by decide⟩, jz_in 758 (by decide +kernel) rfl⟩
theorem koX7_broader : jz_mok mX7_broader := ⟨by decide +kernel, rfl, by decide +kernel⟩
def mX7_commonDivisor : jz_M := (RX7, cX7_commonDivisor, 11, (some .long), yX7_commonDivisor, 1, 0)
theorem kmX7_commonDivisor : jz_myS mX7_commonDivisor 2 := ⟨⟨jz_in 85 (by decide +kernel) rfl, jz_in 720 (by decide +kernel) rfl, ⟨by decide +kernel, by decide +kernel⟩, by decide +kernel, by decide⟩, jz_in 719 (by decide +kernel) rfl⟩
theorem koX7_commonDivisor : jz_mok mX7_commonDivisor := ⟨by decide +kernel, rfl, by decide +kernel⟩
def mX7_copy : jz_M := (RX7, cX7_copy, 8, (some .int), yX7_copy, 2, 0)
theorem kmX7_copy : jz_myV mX7_copy 5 := ⟨⟨jz_in 85 (by decide +kernel) rfl, jz_in 388 (by decide +kernel) rfl, ⟨by decide +kernel, by decide +kernel⟩, by decide +kernel, by decide⟩, jz_in 386 (by decide +kernel) rfl, jz_in 387 (by decide +kernel) rfl⟩
theorem koX7_copy : jz_mok mX7_copy := ⟨by decide +kernel, rfl, by decide +kernel⟩
def mX7_count : jz_M := (RX7, cX7_count, 2, (some .int), yX7_count, 3, 0)
theorem kmX7_count : jz_myV mX7_count 1 := ⟨⟨jz_in 85 (by decide +kernel) rfl, jz_in 786 (by decide +kernel) rfl, ⟨by decide +kernel, by decide +kernel⟩, by decide +kernel, by decide⟩, jz_in 784 (by decide +kernel) rfl, jz_in 785 (by decide +kernel) rfl⟩
theorem koX7_count : jz_mok mX7_count := ⟨by decide +kernel, rfl, by decide +kernel⟩
def mX7_drawn : jz_M := (RX7, cX7_drawn, 7, (some .int), yX7_drawn, 5, 0)
theorem kmX7_drawn : jz_myV mX7_drawn 3 := ⟨⟨jz_in 85 (by decide +kernel) rfl, jz_in 724 (by decide +kernel) rfl, ⟨by decide +kernel, by decide +kernel⟩, by decide +kernel, by decide⟩, jz_in 722 (by decide +kernel) rfl, jz_in 723 (by decide +kernel) rfl⟩
theorem koX7_drawn : jz_mok mX7_drawn := ⟨by decide +kernel, rfl, by decide +kernel⟩
def mX7_drive : jz_M := (RX7, cX7_drive, 5, (some .int), yX7_drive, 4, 0)
theorem kmX7_drive : jz_myV mX7_drive 2 := ⟨⟨jz_in 85 (by decide +kernel) rfl, jz_in 548 (by decide +kernel) rfl, ⟨by decide +kernel, by decide +kernel⟩, by decide +kernel, by decide⟩, jz_in 546 (by decide +kernel) rfl, jz_in 547 (by decide +kernel) rfl⟩
theorem koX7_drive : jz_mok mX7_drive := ⟨by decide +kernel, rfl, by decide +kernel⟩
def mX7_drives : jz_M := (RX7, cX7_drives, 5, (some .int), yX7_drives, 7, 0)
theorem kmX7_drives : jz_myV mX7_drives 3 := ⟨⟨jz_in 85 (by decide +kernel) rfl, jz_in 656 (by decide +kernel) rfl, ⟨by decide +kernel, by decide +kernel⟩, by decide +kernel, by decide⟩, jz_in 654 (by decide +kernel) rfl, jz_in 655 (by decide +kernel) rfl⟩
theorem koX7_drives : jz_mok mX7_drives := ⟨by decide +kernel, rfl, by decide +kernel⟩
def mX7_drop : jz_M := (RX7, cX7_drop, 3, (some .int), yX7_drop, 2, 0)
theorem kmX7_drop : jz_myV mX7_drop 1 := ⟨⟨jz_in 85 (by decide +kernel) rfl, jz_in 395 (by decide +kernel) rfl, ⟨by decide +kernel, by decide +kernel⟩, by decide +kernel, by decide⟩, jz_in 393 (by decide +kernel) rfl, jz_in 394 (by decide +kernel) rfl⟩
theorem koX7_drop : jz_mok mX7_drop := ⟨by decide +kernel, rfl, by decide +kernel⟩
def mX7_eats : jz_M := (RX7, cX7_eats, 4, (some .int), yX7_eats, 6, 0)
theorem kmX7_eats : jz_myV mX7_eats 2 := ⟨⟨jz_in 85 (by decide +kernel) rfl, jz_in 608 (by decide +kernel) rfl, ⟨by decide +kernel, by decide +kernel⟩, by decide +kernel, by decide⟩, jz_in 606 (by decide +kernel) rfl, jz_in 607 (by decide +kernel) rfl⟩
theorem koX7_eats : jz_mok mX7_eats := ⟨by decide +kernel, rfl, by decide +kernel⟩
def mX7_emptied : jz_M := (RX7, cX7_emptied, 4, (some .int), yX7_emptied, 5, 0)
theorem kmX7_emptied : jz_myV mX7_emptied 1 := ⟨⟨jz_in 85 (by decide +kernel) rfl, jz_in 604 (by decide +kernel) rfl, ⟨by decide +kernel, by decide +kernel⟩, by decide +kernel, by decide⟩, jz_in 602 (by decide +kernel) rfl, jz_in 603 (by decide +kernel) rfl⟩
theorem koX7_emptied : jz_mok mX7_emptied := ⟨by decide +kernel, rfl, by decide +kernel⟩
def mX7_fault : jz_M := (RX7, cX7_fault, 1, (some .int), yX7_fault, 1, 0)
theorem kmX7_fault : jz_myV mX7_fault 0 := ⟨⟨jz_in 85 (by decide +kernel) rfl, jz_in 464 (by decide +kernel) rfl, ⟨by decide +kernel, by decide +kernel⟩, by decide +kernel, by decide⟩, jz_in 462 (by decide +kernel) rfl, jz_in 463 (by decide +kernel) rfl⟩
theorem koX7_fault : jz_mok mX7_fault := ⟨by decide +kernel, rfl, by decide +kernel⟩
def mX7_feed : jz_M := (RX7, cX7_feed, 2, (some .int), yX7_feed, 2, 0)
theorem kmX7_feed : jz_myV mX7_feed 1 := ⟨⟨jz_in 85 (by decide +kernel) rfl, jz_in 399 (by decide +kernel) rfl, ⟨by decide +kernel, by decide +kernel⟩, by decide +kernel, by decide⟩, jz_in 397 (by decide +kernel) rfl, jz_in 398 (by decide +kernel) rfl⟩
theorem koX7_feed : jz_mok mX7_feed := ⟨by decide +kernel, rfl, by decide +kernel⟩
def mX7_fewest : jz_M := (RX7, cX7_fewest, 7, (some .int), yX7_fewest, 6, 0)
theorem kmX7_fewest : jz_myV mX7_fewest 4 := ⟨⟨jz_in 85 (by decide +kernel) rfl, jz_in 633 (by decide +kernel) rfl, ⟨by decide +kernel, by decide +kernel⟩, by decide +kernel, by decide⟩, jz_in 632 (by decide +kernel) rfl, jz_in 39 (by decide +kernel) rfl⟩
theorem koX7_fewest : jz_mok mX7_fewest := ⟨by decide +kernel, rfl, by decide +kernel⟩
def mX7_fodder : jz_M := (RX7, cX7_fodder, 4, (some .int), yX7_fodder, 4, 0)
theorem kmX7_fodder : jz_myV mX7_fodder 1 := ⟨⟨jz_in 85 (by decide +kernel) rfl, jz_in 556 (by decide +kernel) rfl, ⟨by decide +kernel, by decide +kernel⟩, by decide +kernel, by decide⟩, jz_in 554 (by decide +kernel) rfl, jz_in 555 (by decide +kernel) rfl⟩
theorem koX7_fodder : jz_mok mX7_fodder := ⟨by decide +kernel, rfl, by decide +kernel⟩
def mX7_force : jz_M := (RX7, cX7_force, 2, (some .int), yX7_force, 6, 0)
theorem kmX7_force : jz_myV mX7_force 1 := ⟨⟨jz_in 85 (by decide +kernel) rfl, jz_in 595 (by decide +kernel) rfl, ⟨by decide +kernel, by decide +kernel⟩, by decide +kernel, by decide⟩, jz_in 593 (by decide +kernel) rfl, jz_in 594 (by decide +kernel) rfl⟩
theorem koX7_force : jz_mok mX7_force := ⟨by decide +kernel, rfl, by decide +kernel⟩
def mX7_found : jz_M := (RX7, cX7_found, 2, (some .int), yX7_found, 1, 0)
theorem kmX7_found : jz_myV mX7_found 1 := ⟨⟨jz_in 85 (by decide +kernel) rfl, jz_in 361 (by decide +kernel) rfl, ⟨by decide +kernel, by decide +kernel⟩, by decide +kernel, by decide⟩, jz_in 360 (by decide +kernel) rfl, jz_in 1 (by decide +kernel) rfl⟩
theorem koX7_found : jz_mok mX7_found := ⟨by decide +kernel, rfl, by decide +kernel⟩
def mX7_gap : jz_M := (RX7, cX7_gap, 3, (some .int), yX7_gap, 5, 0)
theorem kmX7_gap : jz_myV mX7_gap 1 := ⟨⟨jz_in 85 (by decide +kernel) rfl, jz_in 616 (by decide +kernel) rfl, ⟨by decide +kernel, by decide +kernel⟩, by decide +kernel, by decide⟩, jz_in 614 (by decide +kernel) rfl, jz_in 615 (by decide +kernel) rfl⟩
theorem koX7_gap : jz_mok mX7_gap := ⟨by decide +kernel, rfl, by decide +kernel⟩
def mX7_give : jz_M := (RX7, cX7_give, 5, (some .int), yX7_give, 9, 0)
def mX7_goat : jz_M := (RX7, cX7_goat, 5, (some .int), yX7_goat, 3, 0)
theorem kmX7_goat : jz_myV mX7_goat 2 := ⟨⟨jz_in 85 (by decide +kernel) rfl, jz_in 574 (by decide +kernel) rfl, ⟨by decide +kernel, by decide +kernel⟩, by decide +kernel, by decide⟩, jz_in 572 (by decide +kernel) rfl, jz_in 573 (by decide +kernel) rfl⟩
theorem koX7_goat : jz_mok mX7_goat := ⟨by decide +kernel, rfl, by decide +kernel⟩
def mX7_guilt : jz_M := (RX7, cX7_guilt, 4, (some .int), yX7_guilt, 6, 0)
theorem kmX7_guilt : jz_myV mX7_guilt 2 := ⟨⟨jz_in 85 (by decide +kernel) rfl, jz_in 612 (by decide +kernel) rfl, ⟨by decide +kernel, by decide +kernel⟩, by decide +kernel, by decide⟩, jz_in 610 (by decide +kernel) rfl, jz_in 611 (by decide +kernel) rfl⟩
theorem koX7_guilt : jz_mok mX7_guilt := ⟨by decide +kernel, rfl, by decide +kernel⟩
def mX7_hang : jz_M := (RX7, cX7_hang, 5, (some .int), yX7_hang, 4, 0)
theorem kmX7_hang : jz_myV mX7_hang 2 := ⟨⟨jz_in 85 (by decide +kernel) rfl, jz_in 528 (by decide +kernel) rfl, ⟨by decide +kernel, by decide +kernel⟩, by decide +kernel, by decide⟩, jz_in 526 (by decide +kernel) rfl, jz_in 527 (by decide +kernel) rfl⟩
theorem koX7_hang : jz_mok mX7_hang := ⟨by decide +kernel, rfl, by decide +kernel⟩
def mX7_hangs : jz_M := (RX7, cX7_hangs, 5, (some .int), yX7_hangs, 7, 0)
theorem kmX7_hangs : jz_myV mX7_hangs 3 := ⟨⟨jz_in 85 (by decide +kernel) rfl, jz_in 624 (by decide +kernel) rfl, ⟨by decide +kernel, by decide +kernel⟩, by decide +kernel, by decide⟩, jz_in 622 (by decide +kernel) rfl, jz_in 623 (by decide +kernel) rfl⟩
theorem koX7_hangs : jz_mok mX7_hangs := ⟨by decide +kernel, rfl, by decide +kernel⟩
def mX7_harm : jz_M := (RX7, cX7_harm, 7, (some .int), yX7_harm, 6, 0)
theorem kmX7_harm : jz_myV mX7_harm 2 := ⟨⟨jz_in 85 (by decide +kernel) rfl, jz_in 660 (by decide +kernel) rfl, ⟨by decide +kernel, by decide +kernel⟩, by decide +kernel, by decide⟩, jz_in 658 (by decide +kernel) rfl, jz_in 659 (by decide +kernel) rfl⟩
theorem koX7_harm : jz_mok mX7_harm := ⟨by decide +kernel, rfl, by decide +kernel⟩
def mX7_hours : jz_M := (RX7, cX7_hours, 4, (some .int), yX7_hours, 5, 0)
theorem kmX7_hours : jz_myV mX7_hours 1 := ⟨⟨jz_in 85 (by decide +kernel) rfl, jz_in 478 (by decide +kernel) rfl, ⟨by decide +kernel, by decide +kernel⟩, by decide +kernel, by decide⟩, jz_in 476 (by decide +kernel) rfl, jz_in 477 (by decide +kernel) rfl⟩
theorem koX7_hours : jz_mok mX7_hours := ⟨by decide +kernel, rfl, by decide +kernel⟩
def mX7_image : jz_M := (RX7, cX7_image, 3, (some .int), yX7_image, 3, 0)
theorem kmX7_image : jz_myV mX7_image 1 := ⟨⟨jz_in 85 (by decide +kernel) rfl, jz_in 740 (by decide +kernel) rfl, ⟨by decide +kernel, by decide +kernel⟩, by decide +kernel, by decide⟩, jz_in 738 (by decide +kernel) rfl, jz_in 739 (by decide +kernel) rfl⟩
theorem koX7_image : jz_mok mX7_image := ⟨by decide +kernel, rfl, by decide +kernel⟩
def mX7_imageAt : jz_M := (RX7, cX7_imageAt, 2, (some (.object "VineLaws$Square")), yX7_imageAt, 1, 0)
theorem kmX7_imageAt : jz_myV mX7_imageAt 1 := ⟨⟨jz_in 85 (by decide +kernel) rfl, jz_in 744 (by decide +kernel) rfl, ⟨by decide +kernel, by decide +kernel⟩, by decide +kernel, by decide⟩, jz_in 743 (by decide +kernel) rfl, jz_in 52 (by decide +kernel) rfl⟩
theorem koX7_imageAt : jz_mok mX7_imageAt := ⟨by decide +kernel, rfl, by decide +kernel⟩
def mX7_init : jz_M := (RX7, cX7_init, 2, (none : Option Jvm.ClassFile.FieldType), yX7_init, 4, 415)
theorem kmX7_init : jz_myI mX7_init 0 := ⟨⟨jz_in 85 (by decide +kernel) rfl, jz_in 101 (by decide +kernel) rfl, ⟨by decide +kernel, by decide +kernel⟩, by decide +kernel, by decide⟩, jz_in 100 (by decide +kernel) rfl, rfl, rfl⟩
theorem koX7_init : jz_mok mX7_init := ⟨by decide +kernel, rfl, by decide +kernel⟩
def mX7_isWithin : jz_M := (RX7, cX7_isWithin, 3, (some .boolean), yX7_isWithin, 1, 0)
theorem kmX7_isWithin : jz_myS mX7_isWithin 3 := ⟨⟨jz_in 85 (by decide +kernel) rfl, jz_in 356 (by decide +kernel) rfl, ⟨by decide +kernel, by decide +kernel⟩, by decide +kernel, by decide⟩, jz_in 355 (by decide +kernel) rfl⟩
theorem koX7_isWithin : jz_mok mX7_isWithin := ⟨by decide +kernel, rfl, by decide +kernel⟩
def mX7_kind : jz_M := (RX7, cX7_kind, 3, (some .int), yX7_kind, 2, 0)
theorem kmX7_kind : jz_myV mX7_kind 1 := ⟨⟨jz_in 85 (by decide +kernel) rfl, jz_in 752 (by decide +kernel) rfl, ⟨by decide +kernel, by decide +kernel⟩, by decide +kernel, by decide⟩, jz_in 750 (by decide +kernel) rfl, jz_in 751 (by decide +kernel) rfl⟩
theorem koX7_kind : jz_mok mX7_kind := ⟨by decide +kernel, rfl, by decide +kernel⟩
def mX7_leaf : jz_M := (RX7, cX7_leaf, 4, (some .int), yX7_leaf, 3, 0)
theorem kmX7_leaf : jz_myV mX7_leaf 2 := ⟨⟨jz_in 85 (by decide +kernel) rfl, jz_in 560 (by decide +kernel) rfl, ⟨by decide +kernel, by decide +kernel⟩, by decide +kernel, by decide⟩, jz_in 558 (by decide +kernel) rfl, jz_in 559 (by decide +kernel) rfl⟩
theorem koX7_leaf : jz_mok mX7_leaf := ⟨by decide +kernel, rfl, by decide +kernel⟩
def mX7_leftByBait : jz_M := (RX7, cX7_leftByBait, 6, (some .int), yX7_leftByBait, 6, 0)
theorem kmX7_leftByBait : jz_myV mX7_leftByBait 3 := ⟨⟨jz_in 85 (by decide +kernel) rfl, jz_in 668 (by decide +kernel) rfl, ⟨by decide +kernel, by decide +kernel⟩, by decide +kernel, by decide⟩, jz_in 667 (by decide +kernel) rfl, jz_in 43 (by decide +kernel) rfl⟩
theorem koX7_leftByBait : jz_mok mX7_leftByBait := ⟨by decide +kernel, rfl, by decide +kernel⟩
def mX7_power : jz_M := (RX7, cX7_power, 5, (some .long), yX7_power, 1, 0)
theorem kmX7_power : jz_myS mX7_power 2 := ⟨⟨jz_in 85 (by decide +kernel) rfl, jz_in 717 (by decide +kernel) rfl, ⟨by decide +kernel, by decide +kernel⟩, by decide +kernel, by decide⟩, jz_in 716 (by decide +kernel) rfl⟩
theorem koX7_power : jz_mok mX7_power := ⟨by decide +kernel, rfl, by decide +kernel⟩
def mX7_restore : jz_M := (RX7, cX7_restore, 3, (some .int), yX7_restore, 3, 0)
theorem kmX7_restore : jz_myV mX7_restore 1 := ⟨⟨jz_in 85 (by decide +kernel) rfl, jz_in 748 (by decide +kernel) rfl, ⟨by decide +kernel, by decide +kernel⟩, by decide +kernel, by decide⟩, jz_in 746 (by decide +kernel) rfl, jz_in 747 (by decide +kernel) rfl⟩
theorem koX7_restore : jz_mok mX7_restore := ⟨by decide +kernel, rfl, by decide +kernel⟩
def mX7_rivals : jz_M := (RX7, cX7_rivals, 12, (some .int), yX7_rivals, 3, 0)
theorem kmX7_rivals : jz_myV mX7_rivals 1 := ⟨⟨jz_in 85 (by decide +kernel) rfl, jz_in 696 (by decide +kernel) rfl, ⟨by decide +kernel, by decide +kernel⟩, by decide +kernel, by decide⟩, jz_in 694 (by decide +kernel) rfl, jz_in 695 (by decide +kernel) rfl⟩
theorem koX7_rivals : jz_mok mX7_rivals := ⟨by decide +kernel, rfl, by decide +kernel⟩
def mX7_row : jz_M := (RX7, cX7_row, 5, (some .int), yX7_row, 3, 0)
theorem kmX7_row : jz_myV mX7_row 3 := ⟨⟨jz_in 85 (by decide +kernel) rfl, jz_in 349 (by decide +kernel) rfl, ⟨by decide +kernel, by decide +kernel⟩, by decide +kernel, by decide⟩, jz_in 347 (by decide +kernel) rfl, jz_in 348 (by decide +kernel) rfl⟩
theorem koX7_row : jz_mok mX7_row := ⟨by decide +kernel, rfl, by decide +kernel⟩
def mX7_rowAt : jz_M := (RX7, cX7_rowAt, 2, (some (.object "VineLaws$Row")), yX7_rowAt, 1, 0)
theorem kmX7_rowAt : jz_myV mX7_rowAt 1 := ⟨⟨jz_in 85 (by decide +kernel) rfl, jz_in 353 (by decide +kernel) rfl, ⟨by decide +kernel, by decide +kernel⟩, by decide +kernel, by decide⟩, jz_in 352 (by decide +kernel) rfl, jz_in 0 (by decide +kernel) rfl⟩
theorem koX7_rowAt : jz_mok mX7_rowAt := ⟨by decide +kernel, rfl, by decide +kernel⟩
def mX7_rowsThere : jz_M := (RX7, cX7_rowsThere, 6, (some .int), yX7_rowsThere, 1, 0)
theorem kmX7_rowsThere : jz_myV mX7_rowsThere 0 := ⟨⟨jz_in 85 (by decide +kernel) rfl, jz_in 790 (by decide +kernel) rfl, ⟨by decide +kernel, by decide +kernel⟩, by decide +kernel, by decide⟩, jz_in 789 (by decide +kernel) rfl, jz_in 55 (by decide +kernel) rfl⟩
theorem koX7_rowsThere : jz_mok mX7_rowsThere := ⟨by decide +kernel, rfl, by decide +kernel⟩
def mX7_safeHeight : jz_M := (RX7, cX7_safeHeight, 6, (some .int), yX7_safeHeight, 6, 0)
theorem kmX7_safeHeight : jz_myV mX7_safeHeight 2 := ⟨⟨jz_in 85 (by decide +kernel) rfl, jz_in 672 (by decide +kernel) rfl, ⟨by decide +kernel, by decide +kernel⟩, by decide +kernel, by decide⟩, jz_in 670 (by decide +kernel) rfl, jz_in 671 (by decide +kernel) rfl⟩
theorem koX7_safeHeight : jz_mok mX7_safeHeight := ⟨by decide +kernel, rfl, by decide +kernel⟩
def mX7_salt : jz_M := (RX7, cX7_salt, 3, (some .int), yX7_salt, 4, 0)
theorem kmX7_salt : jz_myV mX7_salt 1 := ⟨⟨jz_in 85 (by decide +kernel) rfl, jz_in 540 (by decide +kernel) rfl, ⟨by decide +kernel, by decide +kernel⟩, by decide +kernel, by decide⟩, jz_in 538 (by decide +kernel) rfl, jz_in 539 (by decide +kernel) rfl⟩
theorem koX7_salt : jz_mok mX7_salt := ⟨by decide +kernel, rfl, by decide +kernel⟩
def mX7_set : jz_M := (RX7, cX7_set, 5, (some .int), yX7_set, 2, 0)
theorem kmX7_set : jz_myV mX7_set 3 := ⟨⟨jz_in 85 (by decide +kernel) rfl, jz_in 376 (by decide +kernel) rfl, ⟨by decide +kernel, by decide +kernel⟩, by decide +kernel, by decide⟩, jz_in 374 (by decide +kernel) rfl, jz_in 375 (by decide +kernel) rfl⟩
theorem koX7_set : jz_mok mX7_set := ⟨by decide +kernel, rfl, by decide +kernel⟩
def mX7_square : jz_M := (RX7, cX7_square, 2, (some .int), yX7_square, 6, 0)
theorem kmX7_square : jz_myV mX7_square 0 := ⟨⟨jz_in 85 (by decide +kernel) rfl, jz_in 408 (by decide +kernel) rfl, ⟨by decide +kernel, by decide +kernel⟩, by decide +kernel, by decide⟩, jz_in 406 (by decide +kernel) rfl, jz_in 407 (by decide +kernel) rfl⟩
theorem koX7_square : jz_mok mX7_square := ⟨by decide +kernel, rfl, by decide +kernel⟩
def mX7_standingInWind : jz_M := (RX7, cX7_standingInWind, 2, (some .int), yX7_standingInWind, 5, 0)
theorem kmX7_standingInWind : jz_myV mX7_standingInWind 1 := ⟨⟨jz_in 85 (by decide +kernel) rfl, jz_in 710 (by decide +kernel) rfl, ⟨by decide +kernel, by decide +kernel⟩, by decide +kernel, by decide⟩, jz_in 709 (by decide +kernel) rfl, jz_in 48 (by decide +kernel) rfl⟩
theorem koX7_standingInWind : jz_mok mX7_standingInWind := ⟨by decide +kernel, rfl, by decide +kernel⟩
def mX7_status : jz_M := (RX7, cX7_status, 1, (some .int), yX7_status, 1, 0)
theorem kmX7_status : jz_myV mX7_status 0 := ⟨⟨jz_in 85 (by decide +kernel) rfl, jz_in 794 (by decide +kernel) rfl, ⟨by decide +kernel, by decide +kernel⟩, by decide +kernel, by decide⟩, jz_in 792 (by decide +kernel) rfl, jz_in 793 (by decide +kernel) rfl⟩
theorem koX7_status : jz_mok mX7_status := ⟨by decide +kernel, rfl, by decide +kernel⟩
def mX7_strayed : jz_M := (RX7, cX7_strayed, 8, (some .int), yX7_strayed, 6, 0)
theorem kmX7_strayed : jz_myV mX7_strayed 4 := ⟨⟨jz_in 85 (by decide +kernel) rfl, jz_in 692 (by decide +kernel) rfl, ⟨by decide +kernel, by decide +kernel⟩, by decide +kernel, by decide⟩, jz_in 690 (by decide +kernel) rfl, jz_in 691 (by decide +kernel) rfl⟩
theorem koX7_strayed : jz_mok mX7_strayed := ⟨by decide +kernel, rfl, by decide +kernel⟩
def mX7_trace : jz_M := (RX7, cX7_trace, 2, (some .int), yX7_trace, 2, 0)
theorem kmX7_trace : jz_myV mX7_trace 1 := ⟨⟨jz_in 85 (by decide +kernel) rfl, jz_in 777 (by decide +kernel) rfl, ⟨by decide +kernel, by decide +kernel⟩, by decide +kernel, by decide⟩, jz_in 775 (by decide +kernel) rfl, jz_in 776 (by decide +kernel) rfl⟩
theorem koX7_trace : jz_mok mX7_trace := ⟨by decide +kernel, rfl, by decide +kernel⟩
def mX7_transcribe : jz_M := (RX7, cX7_transcribe, 4, (some .int), yX7_transcribe, 4, 0)
theorem kmX7_transcribe : jz_myV mX7_transcribe 1 := ⟨⟨jz_in 85 (by decide +kernel) rfl, jz_in 544 (by decide +kernel) rfl, ⟨by decide +kernel, by decide +kernel⟩, by decide +kernel, by decide⟩, jz_in 542 (by decide +kernel) rfl, jz_in 543 (by decide +kernel) rfl⟩
theorem koX7_transcribe : jz_mok mX7_transcribe := ⟨by decide +kernel, rfl, by decide +kernel⟩
def mX7_undo : jz_M := (RX7, cX7_undo, 1, (some .int), yX7_undo, 4, 0)
theorem kmX7_undo : jz_myV mX7_undo 0 := ⟨⟨jz_in 85 (by decide +kernel) rfl, jz_in 468 (by decide +kernel) rfl, ⟨by decide +kernel, by decide +kernel⟩, by decide +kernel, by decide⟩, jz_in 466 (by decide +kernel) rfl, jz_in 467 (by decide +kernel) rfl⟩
theorem koX7_undo : jz_mok mX7_undo := ⟨by decide +kernel, rfl, by decide +kernel⟩
def mX7_who : jz_M := (RX7, cX7_who, 13, (some .int), yX7_who, 6, 0)
theorem kmX7_who : jz_myV mX7_who 6 := ⟨⟨jz_in 85 (by decide +kernel) rfl, jz_in 676 (by decide +kernel) rfl, ⟨by decide +kernel, by decide +kernel⟩, by decide +kernel, by decide⟩, jz_in 674 (by decide +kernel) rfl, jz_in 675 (by decide +kernel) rfl⟩
theorem koX7_who : jz_mok mX7_who := ⟨by decide +kernel, rfl, by decide +kernel⟩
def mX7_wind : jz_M := (RX7, cX7_wind, 14, (some .long), yX7_wind, 6, 0)
theorem kmX7_wind : jz_myV mX7_wind 3 := ⟨⟨jz_in 85 (by decide +kernel) rfl, jz_in 704 (by decide +kernel) rfl, ⟨by decide +kernel, by decide +kernel⟩, by decide +kernel, by decide⟩, jz_in 702 (by decide +kernel) rfl, jz_in 703 (by decide +kernel) rfl⟩
theorem koX7_wind : jz_mok mX7_wind := ⟨by decide +kernel, rfl, by decide +kernel⟩
def mX8_ahead : jz_M := (RX8, cX8_ahead, 4, (some .int), yX8_ahead, 6, 0)
theorem kmX8_ahead : jz_myV mX8_ahead 2 := ⟨⟨jz_in 93 (by decide +kernel) rfl, jz_in 1055 (by decide +kernel) rfl, ⟨by decide +kernel, by decide +kernel⟩, by decide +kernel, by decide⟩, jz_in 1053 (by decide +kernel) rfl, jz_in 1054 (by decide +kernel) rfl⟩
theorem koX8_ahead : jz_mok mX8_ahead := ⟨by decide +kernel, rfl, by decide +kernel⟩
def mX8_areLeaves : jz_M := (RX8, cX8_areLeaves, 2, (some .boolean), yX8_areLeaves, 2, 0)
theorem kmX8_areLeaves : jz_myV mX8_areLeaves 1 := ⟨⟨jz_in 93 (by decide +kernel) rfl, jz_in 1094 (by decide +kernel) rfl, ⟨by decide +kernel, by decide +kernel⟩, by decide +kernel, by decide⟩, jz_in 1093 (by decide +kernel) rfl, jz_in 76 (by decide +kernel) rfl⟩
theorem koX8_areLeaves : jz_mok mX8_areLeaves := ⟨by decide +kernel, rfl, by decide +kernel⟩
def mX8_as : jz_M := (RX8, cX8_as, 3, (some .int), yX8_as, 3, 0)
theorem kmX8_as : jz_myV mX8_as 2 := ⟨⟨jz_in 93 (by decide +kernel) rfl, jz_in 1178 (by decide +kernel) rfl, ⟨by decide +kernel, by decide +kernel⟩, by decide +kernel, by decide⟩, jz_in 1176 (by decide +kernel) rfl, jz_in 1177 (by decide +kernel) rfl⟩
theorem koX8_as : jz_mok mX8_as := ⟨by decide +kernel, rfl, by decide +kernel⟩
def mX8_ask : jz_M := (RX8, cX8_ask, 3, (some .int), yX8_ask, 6, 0)
theorem kmX8_ask : jz_myV mX8_ask 2 := ⟨⟨jz_in 93 (by decide +kernel) rfl, jz_in 1185 (by decide +kernel) rfl, ⟨by decide +kernel, by decide +kernel⟩, by decide +kernel, by decide⟩, jz_in 1183 (by decide +kernel) rfl, jz_in 1184 (by decide +kernel) rfl⟩
theorem koX8_ask : jz_mok mX8_ask := ⟨by decide +kernel, rfl, by decide +kernel⟩
def mX8_bad : jz_M := (RX8, cX8_bad, 2, (none : Option Jvm.ClassFile.FieldType), yX8_bad, 1, 0)
theorem kmX8_bad : jz_myV mX8_bad 1 := ⟨⟨jz_in 93 (by decide +kernel) rfl, jz_in 946 (by decide +kernel) rfl, ⟨by decide +kernel, by decide +kernel⟩, by decide +kernel, by decide⟩, jz_in 945 (by decide +kernel) rfl, jz_in 61 (by decide +kernel) rfl⟩
theorem koX8_bad : jz_mok mX8_bad := ⟨by decide +kernel, rfl, by decide +kernel⟩
def mX8_bait : jz_M := (RX8, cX8_bait, 9, (some .int), yX8_bait, 6, 0)
theorem kmX8_bait : jz_myV mX8_bait 3 := ⟨⟨jz_in 93 (by decide +kernel) rfl, jz_in 1121 (by decide +kernel) rfl, ⟨by decide +kernel, by decide +kernel⟩, by decide +kernel, by decide⟩, jz_in 1119 (by decide +kernel) rfl, jz_in 1120 (by decide +kernel) rfl⟩
theorem koX8_bait : jz_mok mX8_bait := ⟨by decide +kernel, rfl, by decide +kernel⟩
def mX8_began : jz_M := (RX8, cX8_began, 2, (none : Option Jvm.ClassFile.FieldType), yX8_began, 1, 0)
theorem kmX8_began : jz_myV mX8_began 1 := ⟨⟨jz_in 93 (by decide +kernel) rfl, jz_in 1197 (by decide +kernel) rfl, ⟨by decide +kernel, by decide +kernel⟩, by decide +kernel, by decide⟩, jz_in 1196 (by decide +kernel) rfl, jz_in 81 (by decide +kernel) rfl⟩
theorem koX8_began : jz_mok mX8_began := ⟨by decide +kernel, rfl, by decide +kernel⟩
def mX8_begin : jz_M := (RX8, cX8_begin, 1, (none : Option Jvm.ClassFile.FieldType), yX8_begin, 3, 0)
theorem kmX8_begin : jz_myV mX8_begin 0 := ⟨⟨jz_in 93 (by decide +kernel) rfl, jz_in 925 (by decide +kernel) rfl, ⟨by decide +kernel, by decide +kernel⟩, by decide +kernel, by decide⟩, jz_in 924 (by decide +kernel) rfl, jz_in 57 (by decide +kernel) rfl⟩
theorem koX8_begin : jz_mok mX8_begin := ⟨by decide +kernel, rfl, by decide +kernel⟩
def mX8_biters : jz_M := (RX8, cX8_biters, 7, (some .int), yX8_biters, 5, 0)
theorem kmX8_biters : jz_myV mX8_biters 2 := ⟨⟨jz_in 93 (by decide +kernel) rfl, jz_in 1086 (by decide +kernel) rfl, ⟨by decide +kernel, by decide +kernel⟩, by decide +kernel, by decide⟩, jz_in 1085 (by decide +kernel) rfl, jz_in 75 (by decide +kernel) rfl⟩
theorem koX8_biters : jz_mok mX8_biters := ⟨by decide +kernel, rfl, by decide +kernel⟩
def mX8_bits : jz_M := (RX8, cX8_bits, 3, (some .int), yX8_bits, 1, 0)
theorem kmX8_bits : jz_myS mX8_bits 1 := ⟨⟨jz_in 93 (by decide +kernel) rfl, jz_in 1102 (by decide +kernel) rfl, ⟨by decide +kernel, by decide +kernel⟩, by decide +kernel, by decide⟩, jz_in 1101 (by decide +kernel) rfl⟩
theorem koX8_bits : jz_mok mX8_bits := ⟨by decide +kernel, rfl, by decide +kernel⟩
def mX8_bitten : jz_M := (RX8, cX8_bitten, 6, (some .int), yX8_bitten, 3, 0)
theorem kmX8_bitten : jz_myS mX8_bitten 2 := ⟨⟨jz_in 93 (by decide +kernel) rfl, jz_in 995 (by decide +kernel) rfl, ⟨by decide +kernel, by decide +kernel⟩, by decide +kernel, by decide⟩, jz_in 994 (by decide +kernel) rfl⟩
theorem koX8_bitten : jz_mok mX8_bitten := ⟨by decide +kernel, rfl, by decide +kernel⟩
def mX8_bitterSize : jz_M := (RX8, cX8_bitterSize, 4, (some .int), yX8_bitterSize, 3, 0)
theorem kmX8_bitterSize : jz_myV mX8_bitterSize 1 := ⟨⟨jz_in 93 (by decide +kernel) rfl, jz_in 1193 (by decide +kernel) rfl, ⟨by decide +kernel, by decide +kernel⟩, by decide +kernel, by decide⟩, jz_in 1192 (by decide +kernel) rfl, jz_in 80 (by decide +kernel) rfl⟩
theorem koX8_bitterSize : jz_mok mX8_bitterSize := ⟨by decide +kernel, rfl, by decide +kernel⟩
def mX8_copy : jz_M := (RX8, cX8_copy, 9, (some .int), yX8_copy, 3, 0)
theorem kmX8_copy : jz_myV mX8_copy 5 := ⟨⟨jz_in 93 (by decide +kernel) rfl, jz_in 903 (by decide +kernel) rfl, ⟨by decide +kernel, by decide +kernel⟩, by decide +kernel, by decide⟩, jz_in 901 (by decide +kernel) rfl, jz_in 902 (by decide +kernel) rfl⟩
theorem koX8_copy : jz_mok mX8_copy := ⟨by decide +kernel, rfl, by decide +kernel⟩
def mX8_count : jz_M := (RX8, cX8_count, 4, (some .int), yX8_count, 4, 0)
theorem kmX8_count : jz_myV mX8_count 1 := ⟨⟨jz_in 93 (by decide +kernel) rfl, jz_in 1213 (by decide +kernel) rfl, ⟨by decide +kernel, by decide +kernel⟩, by decide +kernel, by decide⟩, jz_in 1211 (by decide +kernel) rfl, jz_in 1212 (by decide +kernel) rfl⟩
theorem koX8_count : jz_mok mX8_count := ⟨by decide +kernel, rfl, by decide +kernel⟩
def mX8_drawn : jz_M := (RX8, cX8_drawn, 10, (some .int), yX8_drawn, 5, 0)
theorem kmX8_drawn : jz_myV mX8_drawn 3 := ⟨⟨jz_in 93 (by decide +kernel) rfl, jz_in 1153 (by decide +kernel) rfl, ⟨by decide +kernel, by decide +kernel⟩, by decide +kernel, by decide⟩, jz_in 1151 (by decide +kernel) rfl, jz_in 1152 (by decide +kernel) rfl⟩
theorem koX8_drawn : jz_mok mX8_drawn := ⟨by decide +kernel, rfl, by decide +kernel⟩
def mX8_drive : jz_M := (RX8, cX8_drive, 4, (some .int), yX8_drive, 3, 0)
theorem kmX8_drive : jz_myV mX8_drive 2 := ⟨⟨jz_in 93 (by decide +kernel) rfl, jz_in 1025 (by decide +kernel) rfl, ⟨by decide +kernel, by decide +kernel⟩, by decide +kernel, by decide⟩, jz_in 1023 (by decide +kernel) rfl, jz_in 1024 (by decide +kernel) rfl⟩
theorem koX8_drive : jz_mok mX8_drive := ⟨by decide +kernel, rfl, by decide +kernel⟩
def mX8_drives : jz_M := (RX8, cX8_drives, 7, (some .int), yX8_drives, 6, 0)
theorem kmX8_drives : jz_myV mX8_drives 3 := ⟨⟨jz_in 93 (by decide +kernel) rfl, jz_in 1109 (by decide +kernel) rfl, ⟨by decide +kernel, by decide +kernel⟩, by decide +kernel, by decide⟩, jz_in 1107 (by decide +kernel) rfl, jz_in 1108 (by decide +kernel) rfl⟩
theorem koX8_drives : jz_mok mX8_drives := ⟨by decide +kernel, rfl, by decide +kernel⟩
def mX8_drop : jz_M := (RX8, cX8_drop, 2, (some .int), yX8_drop, 3, 0)
theorem kmX8_drop : jz_myV mX8_drop 1 := ⟨⟨jz_in 93 (by decide +kernel) rfl, jz_in 907 (by decide +kernel) rfl, ⟨by decide +kernel, by decide +kernel⟩, by decide +kernel, by decide⟩, jz_in 905 (by decide +kernel) rfl, jz_in 906 (by decide +kernel) rfl⟩
theorem koX8_drop : jz_mok mX8_drop := ⟨by decide +kernel, rfl, by decide +kernel⟩
def mX8_eats : jz_M := (RX8, cX8_eats, 6, (some .int), yX8_eats, 5, 0)
theorem kmX8_eats : jz_myV mX8_eats 2 := ⟨⟨jz_in 93 (by decide +kernel) rfl, jz_in 1078 (by decide +kernel) rfl, ⟨by decide +kernel, by decide +kernel⟩, by decide +kernel, by decide⟩, jz_in 1076 (by decide +kernel) rfl, jz_in 1077 (by decide +kernel) rfl⟩
theorem koX8_eats : jz_mok mX8_eats := ⟨by decide +kernel, rfl, by decide +kernel⟩
def mX8_emptied : jz_M := (RX8, cX8_emptied, 4, (some .int), yX8_emptied, 5, 0)
theorem kmX8_emptied : jz_myV mX8_emptied 1 := ⟨⟨jz_in 93 (by decide +kernel) rfl, jz_in 1074 (by decide +kernel) rfl, ⟨by decide +kernel, by decide +kernel⟩, by decide +kernel, by decide⟩, jz_in 1072 (by decide +kernel) rfl, jz_in 1073 (by decide +kernel) rfl⟩
theorem koX8_emptied : jz_mok mX8_emptied := ⟨by decide +kernel, rfl, by decide +kernel⟩
def mX8_failed : jz_M := (RX8, cX8_failed, 1, (some .boolean), yX8_failed, 2, 0)
theorem kmX8_failed : jz_myV mX8_failed 0 := ⟨⟨jz_in 93 (by decide +kernel) rfl, jz_in 973 (by decide +kernel) rfl, ⟨by decide +kernel, by decide +kernel⟩, by decide +kernel, by decide⟩, jz_in 972 (by decide +kernel) rfl, jz_in 67 (by decide +kernel) rfl⟩
theorem koX8_failed : jz_mok mX8_failed := ⟨by decide +kernel, rfl, by decide +kernel⟩
def mX8_fault : jz_M := (RX8, cX8_fault, 1, (some .int), yX8_fault, 1, 0)
theorem kmX8_fault : jz_myV mX8_fault 0 := ⟨⟨jz_in 93 (by decide +kernel) rfl, jz_in 917 (by decide +kernel) rfl, ⟨by decide +kernel, by decide +kernel⟩, by decide +kernel, by decide⟩, jz_in 915 (by decide +kernel) rfl, jz_in 916 (by decide +kernel) rfl⟩
theorem koX8_fault : jz_mok mX8_fault := ⟨by decide +kernel, rfl, by decide +kernel⟩
def mX8_feed : jz_M := (RX8, cX8_feed, 2, (some .int), yX8_feed, 2, 0)
theorem kmX8_feed : jz_myV mX8_feed 1 := ⟨⟨jz_in 93 (by decide +kernel) rfl, jz_in 911 (by decide +kernel) rfl, ⟨by decide +kernel, by decide +kernel⟩, by decide +kernel, by decide⟩, jz_in 909 (by decide +kernel) rfl, jz_in 910 (by decide +kernel) rfl⟩
theorem koX8_feed : jz_mok mX8_feed := ⟨by decide +kernel, rfl, by decide +kernel⟩
def mX8_finding : jz_M := (RX8, cX8_finding, 2, (some .int), yX8_finding, 1, 0)
theorem kmX8_finding : jz_myV mX8_finding 1 := ⟨⟨jz_in 93 (by decide +kernel) rfl, jz_in 894 (by decide +kernel) rfl, ⟨by decide +kernel, by decide +kernel⟩, by decide +kernel, by decide⟩, jz_in 893 (by decide +kernel) rfl, jz_in 56 (by decide +kernel) rfl⟩
theorem koX8_finding : jz_mok mX8_finding := ⟨by decide +kernel, rfl, by decide +kernel⟩
def mX8_fodder : jz_M := (RX8, cX8_fodder, 3, (some .int), yX8_fodder, 3, 0)
theorem kmX8_fodder : jz_myV mX8_fodder 1 := ⟨⟨jz_in 93 (by decide +kernel) rfl, jz_in 1034 (by decide +kernel) rfl, ⟨by decide +kernel, by decide +kernel⟩, by decide +kernel, by decide⟩, jz_in 1032 (by decide +kernel) rfl, jz_in 1033 (by decide +kernel) rfl⟩
theorem koX8_fodder : jz_mok mX8_fodder := ⟨by decide +kernel, rfl, by decide +kernel⟩
def mX8_force : jz_M := (RX8, cX8_force, 3, (some .int), yX8_force, 6, 0)
theorem kmX8_force : jz_myV mX8_force 1 := ⟨⟨jz_in 93 (by decide +kernel) rfl, jz_in 1067 (by decide +kernel) rfl, ⟨by decide +kernel, by decide +kernel⟩, by decide +kernel, by decide⟩, jz_in 1065 (by decide +kernel) rfl, jz_in 1066 (by decide +kernel) rfl⟩
theorem koX8_force : jz_mok mX8_force := ⟨by decide +kernel, rfl, by decide +kernel⟩
def mX8_forced : jz_M := (RX8, cX8_forced, 3, (some .int), yX8_forced, 3, 0)
theorem kmX8_forced : jz_myS mX8_forced 1 := ⟨⟨jz_in 93 (by decide +kernel) rfl, jz_in 1070 (by decide +kernel) rfl, ⟨by decide +kernel, by decide +kernel⟩, by decide +kernel, by decide⟩, jz_in 1069 (by decide +kernel) rfl⟩
theorem koX8_forced : jz_mok mX8_forced := ⟨by decide +kernel, rfl, by decide +kernel⟩
def mX8_gap : jz_M := (RX8, cX8_gap, 4, (some .int), yX8_gap, 5, 0)
theorem kmX8_gap : jz_myV mX8_gap 1 := ⟨⟨jz_in 93 (by decide +kernel) rfl, jz_in 1090 (by decide +kernel) rfl, ⟨by decide +kernel, by decide +kernel⟩, by decide +kernel, by decide⟩, jz_in 1088 (by decide +kernel) rfl, jz_in 1089 (by decide +kernel) rfl⟩
theorem koX8_gap : jz_mok mX8_gap := ⟨by decide +kernel, rfl, by decide +kernel⟩
def mX8_goat : jz_M := (RX8, cX8_goat, 3, (some .int), yX8_goat, 4, 0)
theorem kmX8_goat : jz_myV mX8_goat 2 := ⟨⟨jz_in 93 (by decide +kernel) rfl, jz_in 1050 (by decide +kernel) rfl, ⟨by decide +kernel, by decide +kernel⟩, by decide +kernel, by decide⟩, jz_in 1048 (by decide +kernel) rfl, jz_in 1049 (by decide +kernel) rfl⟩
theorem koX8_goat : jz_mok mX8_goat := ⟨by decide +kernel, rfl, by decide +kernel⟩
def mX8_guilt : jz_M := (RX8, cX8_guilt, 3, (some .int), yX8_guilt, 6, 0)
theorem kmX8_guilt : jz_myV mX8_guilt 2 := ⟨⟨jz_in 93 (by decide +kernel) rfl, jz_in 1082 (by decide +kernel) rfl, ⟨by decide +kernel, by decide +kernel⟩, by decide +kernel, by decide⟩, jz_in 1080 (by decide +kernel) rfl, jz_in 1081 (by decide +kernel) rfl⟩
theorem koX8_guilt : jz_mok mX8_guilt := ⟨by decide +kernel, rfl, by decide +kernel⟩
def mX8_hang : jz_M := (RX8, cX8_hang, 4, (some .int), yX8_hang, 3, 0)
theorem kmX8_hang : jz_myV mX8_hang 2 := ⟨⟨jz_in 93 (by decide +kernel) rfl, jz_in 1008 (by decide +kernel) rfl, ⟨by decide +kernel, by decide +kernel⟩, by decide +kernel, by decide⟩, jz_in 1006 (by decide +kernel) rfl, jz_in 1007 (by decide +kernel) rfl⟩
theorem koX8_hang : jz_mok mX8_hang := ⟨by decide +kernel, rfl, by decide +kernel⟩
def mX8_hangs : jz_M := (RX8, cX8_hangs, 8, (some .int), yX8_hangs, 6, 0)
theorem kmX8_hangs : jz_myV mX8_hangs 3 := ⟨⟨jz_in 93 (by decide +kernel) rfl, jz_in 1098 (by decide +kernel) rfl, ⟨by decide +kernel, by decide +kernel⟩, by decide +kernel, by decide⟩, jz_in 1096 (by decide +kernel) rfl, jz_in 1097 (by decide +kernel) rfl⟩
theorem koX8_hangs : jz_mok mX8_hangs := ⟨by decide +kernel, rfl, by decide +kernel⟩
def mX8_harm : jz_M := (RX8, cX8_harm, 8, (some .int), yX8_harm, 6, 0)
theorem kmX8_harm : jz_myV mX8_harm 2 := ⟨⟨jz_in 93 (by decide +kernel) rfl, jz_in 1117 (by decide +kernel) rfl, ⟨by decide +kernel, by decide +kernel⟩, by decide +kernel, by decide⟩, jz_in 1115 (by decide +kernel) rfl, jz_in 1116 (by decide +kernel) rfl⟩
theorem koX8_harm : jz_mok mX8_harm := ⟨by decide +kernel, rfl, by decide +kernel⟩
def mX8_has : jz_M := (RX8, cX8_has, 2, (some .boolean), yX8_has, 1, 0)
theorem kmX8_has : jz_myS mX8_has 2 := ⟨⟨jz_in 93 (by decide +kernel) rfl, jz_in 1105 (by decide +kernel) rfl, ⟨by decide +kernel, by decide +kernel⟩, by decide +kernel, by decide⟩, jz_in 1104 (by decide +kernel) rfl⟩
theorem koX8_has : jz_mok mX8_has := ⟨by decide +kernel, rfl, by decide +kernel⟩
def mX8_hour : jz_M := (RX8, cX8_hour, 7, (some .int), yX8_hour, 4, 0)
theorem kmX8_hour : jz_myV mX8_hour 1 := ⟨⟨jz_in 93 (by decide +kernel) rfl, jz_in 992 (by decide +kernel) rfl, ⟨by decide +kernel, by decide +kernel⟩, by decide +kernel, by decide⟩, jz_in 991 (by decide +kernel) rfl, jz_in 70 (by decide +kernel) rfl⟩
theorem koX8_hour : jz_mok mX8_hour := ⟨by decide +kernel, rfl, by decide +kernel⟩
def mX8_hours : jz_M := (RX8, cX8_hours, 4, (some .int), yX8_hours, 5, 0)
theorem kmX8_hours : jz_myV mX8_hours 1 := ⟨⟨jz_in 93 (by decide +kernel) rfl, jz_in 978 (by decide +kernel) rfl, ⟨by decide +kernel, by decide +kernel⟩, by decide +kernel, by decide⟩, jz_in 976 (by decide +kernel) rfl, jz_in 977 (by decide +kernel) rfl⟩
theorem koX8_hours : jz_mok mX8_hours := ⟨by decide +kernel, rfl, by decide +kernel⟩
def mX8_hoursOf : jz_M := (RX8, cX8_hoursOf, 5, (some .int), yX8_hoursOf, 5, 0)
theorem kmX8_hoursOf : jz_myV mX8_hoursOf 2 := ⟨⟨jz_in 93 (by decide +kernel) rfl, jz_in 1063 (by decide +kernel) rfl, ⟨by decide +kernel, by decide +kernel⟩, by decide +kernel, by decide⟩, jz_in 1062 (by decide +kernel) rfl, jz_in 74 (by decide +kernel) rfl⟩
theorem koX8_hoursOf : jz_mok mX8_hoursOf := ⟨by decide +kernel, rfl, by decide +kernel⟩
def mX8_image : jz_M := (RX8, cX8_image, 3, (some .int), yX8_image, 2, 0)
theorem kmX8_image : jz_myV mX8_image 1 := ⟨⟨jz_in 93 (by decide +kernel) rfl, jz_in 1166 (by decide +kernel) rfl, ⟨by decide +kernel, by decide +kernel⟩, by decide +kernel, by decide⟩, jz_in 1164 (by decide +kernel) rfl, jz_in 1165 (by decide +kernel) rfl⟩
theorem koX8_image : jz_mok mX8_image := ⟨by decide +kernel, rfl, by decide +kernel⟩
def mX8_in : jz_M := (RX8, cX8_in, 6, (some .boolean), yX8_in, 1, 0)
theorem kmX8_in : jz_myS mX8_in 3 := ⟨⟨jz_in 93 (by decide +kernel) rfl, jz_in 888 (by decide +kernel) rfl, ⟨by decide +kernel, by decide +kernel⟩, by decide +kernel, by decide⟩, jz_in 887 (by decide +kernel) rfl⟩
theorem koX8_in : jz_mok mX8_in := ⟨by decide +kernel, rfl, by decide +kernel⟩
def mX8_init : jz_M := (RX8, cX8_init, 1, (none : Option Jvm.ClassFile.FieldType), yX8_init, 1, 13)
theorem kmX8_init : jz_myI mX8_init 0 := ⟨⟨jz_in 93 (by decide +kernel) rfl, jz_in 799 (by decide +kernel) rfl, ⟨by decide +kernel, by decide +kernel⟩, by decide +kernel, by decide⟩, jz_in 798 (by decide +kernel) rfl, rfl, rfl⟩
theorem koX8_init : jz_mok mX8_init := ⟨by decide +kernel, rfl, by decide +kernel⟩
def mX8_isForce : jz_M := (RX8, cX8_isForce, 2, (some .boolean), yX8_isForce, 2, 0)
theorem kmX8_isForce : jz_myS mX8_isForce 2 := ⟨⟨jz_in 93 (by decide +kernel) rfl, jz_in 1046 (by decide +kernel) rfl, ⟨by decide +kernel, by decide +kernel⟩, by decide +kernel, by decide⟩, jz_in 1045 (by decide +kernel) rfl⟩
theorem koX8_isForce : jz_mok mX8_isForce := ⟨by decide +kernel, rfl, by decide +kernel⟩
def mX8_isGoat : jz_M := (RX8, cX8_isGoat, 2, (some .boolean), yX8_isGoat, 2, 0)
theorem kmX8_isGoat : jz_myV mX8_isGoat 1 := ⟨⟨jz_in 93 (by decide +kernel) rfl, jz_in 1029 (by decide +kernel) rfl, ⟨by decide +kernel, by decide +kernel⟩, by decide +kernel, by decide⟩, jz_in 1028 (by decide +kernel) rfl, jz_in 72 (by decide +kernel) rfl⟩
theorem koX8_isGoat : jz_mok mX8_isGoat := ⟨by decide +kernel, rfl, by decide +kernel⟩
def mX8_isLeaf : jz_M := (RX8, cX8_isLeaf, 2, (some .boolean), yX8_isLeaf, 2, 0)
theorem kmX8_isLeaf : jz_myV mX8_isLeaf 1 := ⟨⟨jz_in 93 (by decide +kernel) rfl, jz_in 1012 (by decide +kernel) rfl, ⟨by decide +kernel, by decide +kernel⟩, by decide +kernel, by decide⟩, jz_in 1011 (by decide +kernel) rfl, jz_in 71 (by decide +kernel) rfl⟩
theorem koX8_isLeaf : jz_mok mX8_isLeaf := ⟨by decide +kernel, rfl, by decide +kernel⟩
def mX8_isLetter : jz_M := (RX8, cX8_isLetter, 2, (some .boolean), yX8_isLetter, 1, 0)
theorem kmX8_isLetter : jz_myV mX8_isLetter 1 := ⟨⟨jz_in 93 (by decide +kernel) rfl, jz_in 938 (by decide +kernel) rfl, ⟨by decide +kernel, by decide +kernel⟩, by decide +kernel, by decide⟩, jz_in 937 (by decide +kernel) rfl, jz_in 59 (by decide +kernel) rfl⟩
theorem koX8_isLetter : jz_mok mX8_isLetter := ⟨by decide +kernel, rfl, by decide +kernel⟩
def mX8_isOf : jz_M := (RX8, cX8_isOf, 2, (some .boolean), yX8_isOf, 1, 0)
theorem kmX8_isOf : jz_myS mX8_isOf 2 := ⟨⟨jz_in 93 (by decide +kernel) rfl, jz_in 1181 (by decide +kernel) rfl, ⟨by decide +kernel, by decide +kernel⟩, by decide +kernel, by decide⟩, jz_in 1180 (by decide +kernel) rfl⟩
theorem koX8_isOf : jz_mok mX8_isOf := ⟨by decide +kernel, rfl, by decide +kernel⟩
def mX8_isRow : jz_M := (RX8, cX8_isRow, 1, (some .boolean), yX8_isRow, 2, 0)
theorem kmX8_isRow : jz_myS mX8_isRow 1 := ⟨⟨jz_in 93 (by decide +kernel) rfl, jz_in 884 (by decide +kernel) rfl, ⟨by decide +kernel, by decide +kernel⟩, by decide +kernel, by decide⟩, jz_in 883 (by decide +kernel) rfl⟩
theorem koX8_isRow : jz_mok mX8_isRow := ⟨by decide +kernel, rfl, by decide +kernel⟩
def mX8_isSo : jz_M := (RX8, cX8_isSo, 7, (some .boolean), yX8_isSo, 5, 0)
theorem kmX8_isSo : jz_myV mX8_isSo 3 := ⟨⟨jz_in 93 (by decide +kernel) rfl, jz_in 1134 (by decide +kernel) rfl, ⟨by decide +kernel, by decide +kernel⟩, by decide +kernel, by decide⟩, jz_in 1133 (by decide +kernel) rfl, jz_in 78 (by decide +kernel) rfl⟩
theorem koX8_isSo : jz_mok mX8_isSo := ⟨by decide +kernel, rfl, by decide +kernel⟩
def mX8_isSort : jz_M := (RX8, cX8_isSort, 1, (some .boolean), yX8_isSort, 2, 0)
theorem kmX8_isSort : jz_myV mX8_isSort 0 := ⟨⟨jz_in 93 (by decide +kernel) rfl, jz_in 958 (by decide +kernel) rfl, ⟨by decide +kernel, by decide +kernel⟩, by decide +kernel, by decide⟩, jz_in 957 (by decide +kernel) rfl, jz_in 64 (by decide +kernel) rfl⟩
theorem koX8_isSort : jz_mok mX8_isSort := ⟨by decide +kernel, rfl, by decide +kernel⟩
def mX8_isThere : jz_M := (RX8, cX8_isThere, 1, (some .boolean), yX8_isThere, 1, 0)
theorem kmX8_isThere : jz_myV mX8_isThere 0 := ⟨⟨jz_in 93 (by decide +kernel) rfl, jz_in 982 (by decide +kernel) rfl, ⟨by decide +kernel, by decide +kernel⟩, by decide +kernel, by decide⟩, jz_in 981 (by decide +kernel) rfl, jz_in 68 (by decide +kernel) rfl⟩
theorem koX8_isThere : jz_mok mX8_isThere := ⟨by decide +kernel, rfl, by decide +kernel⟩
def mX8_its : jz_M := (RX8, cX8_its, 3, (some .int), yX8_its, 1, 0)
theorem kmX8_its : jz_myS mX8_its 3 := ⟨⟨jz_in 93 (by decide +kernel) rfl, jz_in 998 (by decide +kernel) rfl, ⟨by decide +kernel, by decide +kernel⟩, by decide +kernel, by decide⟩, jz_in 997 (by decide +kernel) rfl⟩
theorem koX8_its : jz_mok mX8_its := ⟨by decide +kernel, rfl, by decide +kernel⟩
def mX8_keep : jz_M := (RX8, cX8_keep, 2, (none : Option Jvm.ClassFile.FieldType), yX8_keep, 1, 0)
theorem kmX8_keep : jz_myV mX8_keep 0 := ⟨⟨jz_in 93 (by decide +kernel) rfl, jz_in 988 (by decide +kernel) rfl, ⟨by decide +kernel, by decide +kernel⟩, by decide +kernel, by decide⟩, jz_in 987 (by decide +kernel) rfl, jz_in 69 (by decide +kernel) rfl⟩
theorem koX8_keep : jz_mok mX8_keep := ⟨by decide +kernel, rfl, by decide +kernel⟩
def mX8_kind : jz_M := (RX8, cX8_kind, 2, (some .int), yX8_kind, 3, 0)
theorem kmX8_kind : jz_myV mX8_kind 1 := ⟨⟨jz_in 93 (by decide +kernel) rfl, jz_in 1174 (by decide +kernel) rfl, ⟨by decide +kernel, by decide +kernel⟩, by decide +kernel, by decide⟩, jz_in 1172 (by decide +kernel) rfl, jz_in 1173 (by decide +kernel) rfl⟩
theorem koX8_kind : jz_mok mX8_kind := ⟨by decide +kernel, rfl, by decide +kernel⟩
def mX8_kindBy : jz_M := (RX8, cX8_kindBy, 1, (some .int), yX8_kindBy, 1, 0)
theorem kmX8_kindBy : jz_myS mX8_kindBy 1 := ⟨⟨jz_in 93 (by decide +kernel) rfl, jz_in 961 (by decide +kernel) rfl, ⟨by decide +kernel, by decide +kernel⟩, by decide +kernel, by decide⟩, jz_in 960 (by decide +kernel) rfl⟩
theorem koX8_kindBy : jz_mok mX8_kindBy := ⟨by decide +kernel, rfl, by decide +kernel⟩
def mX8_layOff : jz_M := (RX8, cX8_layOff, 5, (none : Option Jvm.ClassFile.FieldType), yX8_layOff, 2, 0)
theorem kmX8_layOff : jz_myV mX8_layOff 2 := ⟨⟨jz_in 93 (by decide +kernel) rfl, jz_in 1113 (by decide +kernel) rfl, ⟨by decide +kernel, by decide +kernel⟩, by decide +kernel, by decide⟩, jz_in 1112 (by decide +kernel) rfl, jz_in 77 (by decide +kernel) rfl⟩
theorem koX8_layOff : jz_mok mX8_layOff := ⟨by decide +kernel, rfl, by decide +kernel⟩
def mX8_layThen : jz_M := (RX8, cX8_layThen, 2, (none : Option Jvm.ClassFile.FieldType), yX8_layThen, 1, 0)
theorem kmX8_layThen : jz_myV mX8_layThen 0 := ⟨⟨jz_in 93 (by decide +kernel) rfl, jz_in 1059 (by decide +kernel) rfl, ⟨by decide +kernel, by decide +kernel⟩, by decide +kernel, by decide⟩, jz_in 1058 (by decide +kernel) rfl, jz_in 73 (by decide +kernel) rfl⟩
theorem koX8_layThen : jz_mok mX8_layThen := ⟨by decide +kernel, rfl, by decide +kernel⟩
def mX8_leaf : jz_M := (RX8, cX8_leaf, 3, (some .int), yX8_leaf, 3, 0)
theorem kmX8_leaf : jz_myV mX8_leaf 2 := ⟨⟨jz_in 93 (by decide +kernel) rfl, jz_in 1042 (by decide +kernel) rfl, ⟨by decide +kernel, by decide +kernel⟩, by decide +kernel, by decide⟩, jz_in 1040 (by decide +kernel) rfl, jz_in 1041 (by decide +kernel) rfl⟩
theorem koX8_leaf : jz_mok mX8_leaf := ⟨by decide +kernel, rfl, by decide +kernel⟩
def mX8_leftOf : jz_M := (RX8, cX8_leftOf, 3, (some .int), yX8_leftOf, 2, 0)
theorem kmX8_leftOf : jz_myS mX8_leftOf 1 := ⟨⟨jz_in 93 (by decide +kernel) rfl, jz_in 1162 (by decide +kernel) rfl, ⟨by decide +kernel, by decide +kernel⟩, by decide +kernel, by decide⟩, jz_in 1161 (by decide +kernel) rfl⟩
theorem koX8_leftOf : jz_mok mX8_leftOf := ⟨by decide +kernel, rfl, by decide +kernel⟩
def mX8_liked : jz_M := (RX8, cX8_liked, 5, (some .int), yX8_liked, 2, 0)
theorem kmX8_liked : jz_myS mX8_liked 2 := ⟨⟨jz_in 93 (by decide +kernel) rfl, jz_in 1004 (by decide +kernel) rfl, ⟨by decide +kernel, by decide +kernel⟩, by decide +kernel, by decide⟩, jz_in 1003 (by decide +kernel) rfl⟩
theorem koX8_liked : jz_mok mX8_liked := ⟨by decide +kernel, rfl, by decide +kernel⟩
def mX8_markOf : jz_M := (RX8, cX8_markOf, 4, (some .int), yX8_markOf, 4, 0)
theorem kmX8_markOf : jz_myV mX8_markOf 1 := ⟨⟨jz_in 93 (by decide +kernel) rfl, jz_in 1205 (by decide +kernel) rfl, ⟨by decide +kernel, by decide +kernel⟩, by decide +kernel, by decide⟩, jz_in 1204 (by decide +kernel) rfl, jz_in 83 (by decide +kernel) rfl⟩
theorem koX8_markOf : jz_mok mX8_markOf := ⟨by decide +kernel, rfl, by decide +kernel⟩
def mX8_must : jz_M := (RX8, cX8_must, 2, (none : Option Jvm.ClassFile.FieldType), yX8_must, 3, 0)
theorem kmX8_must : jz_myV mX8_must 1 := ⟨⟨jz_in 93 (by decide +kernel) rfl, jz_in 942 (by decide +kernel) rfl, ⟨by decide +kernel, by decide +kernel⟩, by decide +kernel, by decide⟩, jz_in 941 (by decide +kernel) rfl, jz_in 60 (by decide +kernel) rfl⟩
theorem koX8_must : jz_mok mX8_must := ⟨by decide +kernel, rfl, by decide +kernel⟩
def mX8_mustSign : jz_M := (RX8, cX8_mustSign, 2, (none : Option Jvm.ClassFile.FieldType), yX8_mustSign, 4, 0)
theorem kmX8_mustSign : jz_myV mX8_mustSign 1 := ⟨⟨jz_in 93 (by decide +kernel) rfl, jz_in 954 (by decide +kernel) rfl, ⟨by decide +kernel, by decide +kernel⟩, by decide +kernel, by decide⟩, jz_in 953 (by decide +kernel) rfl, jz_in 63 (by decide +kernel) rfl⟩
theorem koX8_mustSign : jz_mok mX8_mustSign := ⟨by decide +kernel, rfl, by decide +kernel⟩
def mX8_nextToken : jz_M := (RX8, cX8_nextToken, 1, (none : Option Jvm.ClassFile.FieldType), yX8_nextToken, 2, 0)
theorem kmX8_nextToken : jz_myV mX8_nextToken 0 := ⟨⟨jz_in 93 (by decide +kernel) rfl, jz_in 929 (by decide +kernel) rfl, ⟨by decide +kernel, by decide +kernel⟩, by decide +kernel, by decide⟩, jz_in 928 (by decide +kernel) rfl, jz_in 58 (by decide +kernel) rfl⟩
theorem koX8_nextToken : jz_mok mX8_nextToken := ⟨by decide +kernel, rfl, by decide +kernel⟩
def mX8_number : jz_M := (RX8, cX8_number, 4, (some .int), yX8_number, 4, 0)
theorem kmX8_number : jz_myV mX8_number 2 := ⟨⟨jz_in 93 (by decide +kernel) rfl, jz_in 950 (by decide +kernel) rfl, ⟨by decide +kernel, by decide +kernel⟩, by decide +kernel, by decide⟩, jz_in 949 (by decide +kernel) rfl, jz_in 62 (by decide +kernel) rfl⟩
theorem koX8_number : jz_mok mX8_number := ⟨by decide +kernel, rfl, by decide +kernel⟩
def mX8_of : jz_M := (RX8, cX8_of, 3, (some .int), yX8_of, 1, 0)
theorem kmX8_of : jz_myS mX8_of 3 := ⟨⟨jz_in 93 (by decide +kernel) rfl, jz_in 1001 (by decide +kernel) rfl, ⟨by decide +kernel, by decide +kernel⟩, by decide +kernel, by decide⟩, jz_in 1000 (by decide +kernel) rfl⟩
theorem koX8_of : jz_mok mX8_of := ⟨by decide +kernel, rfl, by decide +kernel⟩
def mX8_plainSize : jz_M := (RX8, cX8_plainSize, 2, (some .int), yX8_plainSize, 2, 0)
theorem kmX8_plainSize : jz_myV mX8_plainSize 1 := ⟨⟨jz_in 93 (by decide +kernel) rfl, jz_in 1201 (by decide +kernel) rfl, ⟨by decide +kernel, by decide +kernel⟩, by decide +kernel, by decide⟩, jz_in 1200 (by decide +kernel) rfl, jz_in 82 (by decide +kernel) rfl⟩
theorem koX8_plainSize : jz_mok mX8_plainSize := ⟨by decide +kernel, rfl, by decide +kernel⟩
def mX8_readGoat : jz_M := (RX8, cX8_readGoat, 3, (none : Option Jvm.ClassFile.FieldType), yX8_readGoat, 5, 0)
theorem kmX8_readGoat : jz_myV mX8_readGoat 0 := ⟨⟨jz_in 93 (by decide +kernel) rfl, jz_in 969 (by decide +kernel) rfl, ⟨by decide +kernel, by decide +kernel⟩, by decide +kernel, by decide⟩, jz_in 968 (by decide +kernel) rfl, jz_in 66 (by decide +kernel) rfl⟩
theorem koX8_readGoat : jz_mok mX8_readGoat := ⟨by decide +kernel, rfl, by decide +kernel⟩
def mX8_readLeaf : jz_M := (RX8, cX8_readLeaf, 6, (none : Option Jvm.ClassFile.FieldType), yX8_readLeaf, 5, 0)
theorem kmX8_readLeaf : jz_myV mX8_readLeaf 0 := ⟨⟨jz_in 93 (by decide +kernel) rfl, jz_in 965 (by decide +kernel) rfl, ⟨by decide +kernel, by decide +kernel⟩, by decide +kernel, by decide⟩, jz_in 964 (by decide +kernel) rfl, jz_in 65 (by decide +kernel) rfl⟩
theorem koX8_readLeaf : jz_mok mX8_readLeaf := ⟨by decide +kernel, rfl, by decide +kernel⟩
def mX8_restore : jz_M := (RX8, cX8_restore, 3, (some .int), yX8_restore, 2, 0)
theorem kmX8_restore : jz_myV mX8_restore 1 := ⟨⟨jz_in 93 (by decide +kernel) rfl, jz_in 1170 (by decide +kernel) rfl, ⟨by decide +kernel, by decide +kernel⟩, by decide +kernel, by decide⟩, jz_in 1168 (by decide +kernel) rfl, jz_in 1169 (by decide +kernel) rfl⟩
theorem koX8_restore : jz_mok mX8_restore := ⟨by decide +kernel, rfl, by decide +kernel⟩
def mX8_rivals : jz_M := (RX8, cX8_rivals, 7, (some .int), yX8_rivals, 3, 0)
theorem kmX8_rivals : jz_myV mX8_rivals 1 := ⟨⟨jz_in 93 (by decide +kernel) rfl, jz_in 1142 (by decide +kernel) rfl, ⟨by decide +kernel, by decide +kernel⟩, by decide +kernel, by decide⟩, jz_in 1140 (by decide +kernel) rfl, jz_in 1141 (by decide +kernel) rfl⟩
theorem koX8_rivals : jz_mok mX8_rivals := ⟨by decide +kernel, rfl, by decide +kernel⟩
def mX8_row : jz_M := (RX8, cX8_row, 5, (some .int), yX8_row, 3, 0)
theorem kmX8_row : jz_myV mX8_row 3 := ⟨⟨jz_in 93 (by decide +kernel) rfl, jz_in 881 (by decide +kernel) rfl, ⟨by decide +kernel, by decide +kernel⟩, by decide +kernel, by decide⟩, jz_in 879 (by decide +kernel) rfl, jz_in 880 (by decide +kernel) rfl⟩
theorem koX8_row : jz_mok mX8_row := ⟨by decide +kernel, rfl, by decide +kernel⟩
def mX8_safeHeight : jz_M := (RX8, cX8_safeHeight, 4, (some .int), yX8_safeHeight, 6, 0)
theorem kmX8_safeHeight : jz_myV mX8_safeHeight 2 := ⟨⟨jz_in 93 (by decide +kernel) rfl, jz_in 1125 (by decide +kernel) rfl, ⟨by decide +kernel, by decide +kernel⟩, by decide +kernel, by decide⟩, jz_in 1123 (by decide +kernel) rfl, jz_in 1124 (by decide +kernel) rfl⟩
theorem koX8_safeHeight : jz_mok mX8_safeHeight := ⟨by decide +kernel, rfl, by decide +kernel⟩
def mX8_salt : jz_M := (RX8, cX8_salt, 2, (some .int), yX8_salt, 3, 0)
theorem kmX8_salt : jz_myV mX8_salt 1 := ⟨⟨jz_in 93 (by decide +kernel) rfl, jz_in 1017 (by decide +kernel) rfl, ⟨by decide +kernel, by decide +kernel⟩, by decide +kernel, by decide⟩, jz_in 1015 (by decide +kernel) rfl, jz_in 1016 (by decide +kernel) rfl⟩
theorem koX8_salt : jz_mok mX8_salt := ⟨by decide +kernel, rfl, by decide +kernel⟩
def mX8_set : jz_M := (RX8, cX8_set, 4, (some .int), yX8_set, 3, 0)
theorem kmX8_set : jz_myV mX8_set 3 := ⟨⟨jz_in 93 (by decide +kernel) rfl, jz_in 899 (by decide +kernel) rfl, ⟨by decide +kernel, by decide +kernel⟩, by decide +kernel, by decide⟩, jz_in 897 (by decide +kernel) rfl, jz_in 898 (by decide +kernel) rfl⟩
theorem koX8_set : jz_mok mX8_set := ⟨by decide +kernel, rfl, by decide +kernel⟩
def mX8_sizeOf : jz_M := (RX8, cX8_sizeOf, 4, (some .int), yX8_sizeOf, 5, 0)
theorem kmX8_sizeOf : jz_myV mX8_sizeOf 1 := ⟨⟨jz_in 93 (by decide +kernel) rfl, jz_in 1189 (by decide +kernel) rfl, ⟨by decide +kernel, by decide +kernel⟩, by decide +kernel, by decide⟩, jz_in 1188 (by decide +kernel) rfl, jz_in 79 (by decide +kernel) rfl⟩
theorem koX8_sizeOf : jz_mok mX8_sizeOf := ⟨by decide +kernel, rfl, by decide +kernel⟩
def mX8_square : jz_M := (RX8, cX8_square, 2, (some .int), yX8_square, 6, 0)
theorem kmX8_square : jz_myV mX8_square 0 := ⟨⟨jz_in 93 (by decide +kernel) rfl, jz_in 921 (by decide +kernel) rfl, ⟨by decide +kernel, by decide +kernel⟩, by decide +kernel, by decide⟩, jz_in 919 (by decide +kernel) rfl, jz_in 920 (by decide +kernel) rfl⟩
theorem koX8_square : jz_mok mX8_square := ⟨by decide +kernel, rfl, by decide +kernel⟩
def mX8_status : jz_M := (RX8, cX8_status, 1, (some .int), yX8_status, 1, 0)
theorem kmX8_status : jz_myV mX8_status 0 := ⟨⟨jz_in 93 (by decide +kernel) rfl, jz_in 1217 (by decide +kernel) rfl, ⟨by decide +kernel, by decide +kernel⟩, by decide +kernel, by decide⟩, jz_in 1215 (by decide +kernel) rfl, jz_in 1216 (by decide +kernel) rfl⟩
theorem koX8_status : jz_mok mX8_status := ⟨by decide +kernel, rfl, by decide +kernel⟩
def mX8_strayed : jz_M := (RX8, cX8_strayed, 7, (some .int), yX8_strayed, 6, 0)
theorem kmX8_strayed : jz_myV mX8_strayed 4 := ⟨⟨jz_in 93 (by decide +kernel) rfl, jz_in 1138 (by decide +kernel) rfl, ⟨by decide +kernel, by decide +kernel⟩, by decide +kernel, by decide⟩, jz_in 1136 (by decide +kernel) rfl, jz_in 1137 (by decide +kernel) rfl⟩
theorem koX8_strayed : jz_mok mX8_strayed := ⟨by decide +kernel, rfl, by decide +kernel⟩
def mX8_trace : jz_M := (RX8, cX8_trace, 2, (some .int), yX8_trace, 2, 0)
theorem kmX8_trace : jz_myV mX8_trace 1 := ⟨⟨jz_in 93 (by decide +kernel) rfl, jz_in 1209 (by decide +kernel) rfl, ⟨by decide +kernel, by decide +kernel⟩, by decide +kernel, by decide⟩, jz_in 1207 (by decide +kernel) rfl, jz_in 1208 (by decide +kernel) rfl⟩
theorem koX8_trace : jz_mok mX8_trace := ⟨by decide +kernel, rfl, by decide +kernel⟩
def mX8_transcribe : jz_M := (RX8, cX8_transcribe, 3, (some .int), yX8_transcribe, 3, 0)
theorem kmX8_transcribe : jz_myV mX8_transcribe 1 := ⟨⟨jz_in 93 (by decide +kernel) rfl, jz_in 1021 (by decide +kernel) rfl, ⟨by decide +kernel, by decide +kernel⟩, by decide +kernel, by decide⟩, jz_in 1019 (by decide +kernel) rfl, jz_in 1020 (by decide +kernel) rfl⟩
theorem koX8_transcribe : jz_mok mX8_transcribe := ⟨by decide +kernel, rfl, by decide +kernel⟩
def mX8_undo : jz_M := (RX8, cX8_undo, 2, (some .int), yX8_undo, 1, 0)
theorem kmX8_undo : jz_myV mX8_undo 0 := ⟨⟨jz_in 93 (by decide +kernel) rfl, jz_in 1038 (by decide +kernel) rfl, ⟨by decide +kernel, by decide +kernel⟩, by decide +kernel, by decide⟩, jz_in 1036 (by decide +kernel) rfl, jz_in 1037 (by decide +kernel) rfl⟩
theorem koX8_undo : jz_mok mX8_undo := ⟨by decide +kernel, rfl, by decide +kernel⟩
def mX8_voids : jz_M := (RX8, cX8_voids, 3, (some .int), yX8_voids, 2, 0)
theorem kmX8_voids : jz_myS mX8_voids 1 := ⟨⟨jz_in 93 (by decide +kernel) rfl, jz_in 1159 (by decide +kernel) rfl, ⟨by decide +kernel, by decide +kernel⟩, by decide +kernel, by decide⟩, jz_in 1158 (by decide +kernel) rfl⟩
theorem koX8_voids : jz_mok mX8_voids := ⟨by decide +kernel, rfl, by decide +kernel⟩
def mX8_who : jz_M := (RX8, cX8_who, 10, (some .int), yX8_who, 6, 0)
theorem kmX8_who : jz_myV mX8_who 6 := ⟨⟨jz_in 93 (by decide +kernel) rfl, jz_in 1129 (by decide +kernel) rfl, ⟨by decide +kernel, by decide +kernel⟩, by decide +kernel, by decide⟩, jz_in 1127 (by decide +kernel) rfl, jz_in 1128 (by decide +kernel) rfl⟩
theorem koX8_who : jz_mok mX8_who := ⟨by decide +kernel, rfl, by decide +kernel⟩
def mX8_wind : jz_M := (RX8, cX8_wind, 15, (some .long), yX8_wind, 5, 0)
theorem kmX8_wind : jz_myV mX8_wind 3 := ⟨⟨jz_in 93 (by decide +kernel) rfl, jz_in 1146 (by decide +kernel) rfl, ⟨by decide +kernel, by decide +kernel⟩, by decide +kernel, by decide⟩, jz_in 1144 (by decide +kernel) rfl, jz_in 1145 (by decide +kernel) rfl⟩
theorem koX8_wind : jz_mok mX8_wind := ⟨by decide +kernel, rfl, by decide +kernel⟩
def mgive (d : Nat) : jz_M := (RX7, cX7_give, 5, (some .int), yX7_give, d, 0)
theorem kmgive0 : jz_myS (mgive 0) 4 := ⟨⟨jz_in 85 (by decide +kernel) rfl, jz_in 769 (by decide +kernel) rfl, ⟨by decide +kernel, by decide +kernel⟩, by decide +kernel, by decide⟩, jz_in 768 (by decide +kernel) rfl⟩
theorem kmgive (d : Nat) : jz_myS (mgive d) 4 := kmgive0
theorem kogive0 : jz_mok (mgive 0) := ⟨by decide +kernel, rfl, by decide +kernel⟩
theorem kogive (d : Nat) : jz_mok (mgive d) := kogive0
theorem kn_X7_1 : Cond.methodLink RX7 1 Lib.objectInit ∈ jz_GW := jz_in 102 (by decide +kernel) rfl
theorem kn_X7_9 : Cond.classLink RX7 9 RX4 ∈ jz_GW := jz_in 105 (by decide +kernel) rfl
theorem kn_X7_15 : Cond.classLink RX7 15 RX6 ∈ jz_GW := jz_in 107 (by decide +kernel) rfl
theorem kn_X7_17 : jz_ln RX7 17 mX6_init := Or.inr ⟨"VineLaws", jz_inN 109 (by decide +kernel) rfl⟩
theorem kn_X7_22 : Cond.classLink RX7 22 RX3 ∈ jz_GW := jz_in 139 (by decide +kernel) rfl
theorem kn_X7_24 : jz_ln RX7 24 mX3_init := Or.inr ⟨"VineLaws", jz_inN 141 (by decide +kernel) rfl⟩
theorem kn_X7_29 : Cond.classLink RX7 29 RX2 ∈ jz_GW := jz_in 277 (by decide +kernel) rfl
theorem kn_X7_31 : jz_ln RX7 31 mX2_init := Or.inr ⟨"VineLaws", jz_inN 279 (by decide +kernel) rfl⟩
theorem kn_X7_36 : Cond.classLink RX7 36 RX5 ∈ jz_GW := jz_in 291 (by decide +kernel) rfl
theorem kn_X7_38 : jz_ln RX7 38 mX5_init := Or.inr ⟨"VineLaws", jz_inN 292 (by decide +kernel) rfl⟩
theorem kn_X7_52 : jz_ln RX7 52 mX4_init := Or.inr ⟨"VineLaws", jz_inN 294 (by decide +kernel) rfl⟩
theorem kn_X7_53 : jz_ln RX7 53 mX7_rowAt := Or.inl (jz_in 350 (by decide +kernel) rfl)
theorem kn_X7_57 : jz_ln RX7 57 mX7_isWithin := Or.inl (jz_in 354 (by decide +kernel) rfl)
theorem kn_X7_62 : jz_ln RX7 62 mX7_found := Or.inl (jz_in 358 (by decide +kernel) rfl)
theorem kn_X7_70 : jz_ln RX7 70 mX4_begin := Or.inr ⟨"VineLaws", jz_inN 363 (by decide +kernel) rfl⟩
theorem kn_X7_78 : jz_ln RX7 78 mX4_hasPlaces := Or.inr ⟨"VineLaws", jz_inN 377 (by decide +kernel) rfl⟩
theorem kn_X7_82 : jz_ln RX7 82 mX4_put := Or.inr ⟨"VineLaws", jz_inN 381 (by decide +kernel) rfl⟩
theorem kn_X7_93 : Cond.methodLink RX7 93 arraycopyName ∈ jz_GW := jz_in 389 (by decide +kernel) rfl
theorem kn_X7_102 : jz_ln RX7 102 mX6_add := Or.inr ⟨"VineLaws", jz_inN 400 (by decide +kernel) rfl⟩
theorem kn_X7_108 : jz_ln RX7 108 mX6_readInto := Or.inr ⟨"VineLaws", jz_inN 409 (by decide +kernel) rfl⟩
theorem kn_X7_122 : jz_ln RX7 122 mX5_take := Or.inr ⟨"VineLaws", jz_inN 445 (by decide +kernel) rfl⟩
theorem kn_X7_126 : jz_ln RX7 126 mX3_forget := Or.inr ⟨"VineLaws", jz_inN 457 (by decide +kernel) rfl⟩
theorem kn_X7_132 : jz_ln RX7 132 mX3_bringBack := Or.inr ⟨"VineLaws", jz_inN 469 (by decide +kernel) rfl⟩
theorem kn_X7_139 : jz_ln RX7 139 mX5_isThere := Or.inr ⟨"VineLaws", jz_inN 479 (by decide +kernel) rfl⟩
theorem kn_X7_146 : jz_ln RX7 146 mX3_keep := Or.inr ⟨"VineLaws", jz_inN 483 (by decide +kernel) rfl⟩
theorem kn_X7_149 : jz_ln RX7 149 mX5_passHour := Or.inr ⟨"VineLaws", jz_inN 488 (by decide +kernel) rfl⟩
theorem kn_X7_153 : jz_ln RX7 153 mX5_leafAt := Or.inr ⟨"VineLaws", jz_inN 529 (by decide +kernel) rfl⟩
theorem kn_X7_157 : jz_ln RX7 157 mX1_isVoid := Or.inr ⟨"VineLaws", jz_inN 533 (by decide +kernel) rfl⟩
theorem kn_X7_174 : jz_ln RX7 174 mX5_goatAt := Or.inr ⟨"VineLaws", jz_inN 549 (by decide +kernel) rfl⟩
theorem kn_X7_189 : jz_ln RX7 189 mX1_liking := Or.inr ⟨"VineLaws", jz_inN 561 (by decide +kernel) rfl⟩
theorem kn_X7_192 : jz_ln RX7 192 mX1_standing := Or.inr ⟨"VineLaws", jz_inN 562 (by decide +kernel) rfl⟩
theorem kn_X7_198 : jz_ln RX7 198 mX5_choiceOf := Or.inr ⟨"VineLaws", jz_inN 575 (by decide +kernel) rfl⟩
theorem kn_X7_206 : jz_ln RX7 206 mX5_leafIn := Or.inr ⟨"VineLaws", jz_inN 581 (by decide +kernel) rfl⟩
theorem kn_X7_210 : jz_ln RX7 210 mX5_passHours := Or.inr ⟨"VineLaws", jz_inN 587 (by decide +kernel) rfl⟩
theorem kn_X7_214 : jz_ln RX7 214 mX5_inForce := Or.inr ⟨"VineLaws", jz_inN 596 (by decide +kernel) rfl⟩
theorem kn_X7_223 : jz_ln RX7 223 mX5_hasLeaves := Or.inr ⟨"VineLaws", jz_inN 617 (by decide +kernel) rfl⟩
theorem kn_X7_226 : jz_ln RX7 226 mX5_notVoid := Or.inr ⟨"VineLaws", jz_inN 625 (by decide +kernel) rfl⟩
theorem kn_X7_229 : jz_ln RX7 229 mX7_fewest := Or.inl (jz_in 630 (by decide +kernel) rfl)
theorem kn_X7_233 : jz_ln RX7 233 mJ6_bitCount_0f7a4 := Or.inl (jz_in 634 (by decide +kernel) rfl)
theorem kn_X7_241 : jz_ln RX7 241 mX5_driveOff := Or.inr ⟨"VineLaws", jz_inN 640 (by decide +kernel) rfl⟩
theorem kn_X7_244 : jz_ln RX7 244 mX7_leftByBait := Or.inl (jz_in 665 (by decide +kernel) rfl)
theorem kn_X7_248 : jz_ln RX7 248 mX1_become := Or.inr ⟨"VineLaws", jz_inN 677 (by decide +kernel) rfl⟩
theorem kn_X7_251 : jz_ln RX7 251 mX5_goesAs := Or.inr ⟨"VineLaws", jz_inN 681 (by decide +kernel) rfl⟩
theorem kn_X7_259 : jz_ln RX7 259 mX5_likesAlike := Or.inr ⟨"VineLaws", jz_inN 697 (by decide +kernel) rfl⟩
theorem kn_X7_267 : jz_ln RX7 267 mX7_standingInWind := Or.inl (jz_in 707 (by decide +kernel) rfl)
theorem kn_X7_270 : jz_ln RX7 270 mX7_power := Or.inl (jz_in 715 (by decide +kernel) rfl)
theorem kn_X7_274 : jz_ln RX7 274 mX7_commonDivisor := Or.inl (jz_in 718 (by decide +kernel) rfl)
theorem kn_X7_283 : jz_ln RX7 283 mX5_befall := Or.inr ⟨"VineLaws", jz_inN 728 (by decide +kernel) rfl⟩
theorem kn_X7_286 : jz_ln RX7 286 mX5_leftOfAll := Or.inr ⟨"VineLaws", jz_inN 733 (by decide +kernel) rfl⟩
theorem kn_X7_292 : jz_ln RX7 292 mX7_imageAt := Or.inl (jz_in 741 (by decide +kernel) rfl)
theorem kn_X7_299 : jz_ln RX7 299 mX7_broader := Or.inl (jz_in 757 (by decide +kernel) rfl)
theorem kn_X7_303 : jz_ln RX7 303 mX7_bodyOf := Or.inl (jz_in 764 (by decide +kernel) rfl)
theorem kn_X7_306_0 : jz_ln RX7 306 (mgive 0) := Or.inl (jz_in 767 (by decide +kernel) rfl)
theorem kn_X7_306 (d : Nat) : jz_ln RX7 306 (mgive d) := kn_X7_306_0
theorem kn_X7_310 : jz_ln RX7 310 mX2_at := Or.inr ⟨"VineLaws", jz_inN 778 (by decide +kernel) rfl⟩
theorem kn_X7_313 : jz_ln RX7 313 mX7_rowsThere := Or.inl (jz_in 787 (by decide +kernel) rfl)
theorem kn_X7_317 : jz_ln RX7 317 mX5_hangOnTop := Or.inr ⟨"VineLaws", jz_inN 644 (by decide +kernel) rfl⟩
theorem kn_X7_320 : jz_ln RX7 320 mX5_keepsInForce := Or.inr ⟨"VineLaws", jz_inN 648 (by decide +kernel) rfl⟩
theorem kn_X7_323 : jz_ln RX7 323 mX5_tear := Or.inr ⟨"VineLaws", jz_inN 711 (by decide +kernel) rfl⟩
theorem kn_X7_326 : jz_ln RX7 326 mX2_add := Or.inr ⟨"VineLaws", jz_inN 770 (by decide +kernel) rfl⟩
theorem kn_X0_3 : Cond.methodLink RX0 3 Lib.objectInit ∈ jz_GW := jz_in 203 (by decide +kernel) rfl
theorem kn_X0_27 : Cond.methodLink RX0 27 Lib.Math.max.name ∈ jz_GW := jz_in 519 (by decide +kernel) rfl
theorem kn_X0_33 : Cond.methodLink RX0 33 Lib.Math.min.name ∈ jz_GW := jz_in 524 (by decide +kernel) rfl
theorem kn_X1_3 : Cond.methodLink RX1 3 Lib.objectInit ∈ jz_GW := jz_in 160 (by decide +kernel) rfl
theorem kn_X1_33 : jz_ln RX1 33 mX1_isVoid := Or.inl (jz_in 566 (by decide +kernel) rfl)
theorem kn_X1_37 : jz_ln RX1 37 mX1_isInForce := Or.inl (jz_in 567 (by decide +kernel) rfl)
theorem kn_X1_41 : Cond.methodLink RX1 41 Lib.Math.min.name ∈ jz_GW := jz_in 514 (by decide +kernel) rfl
theorem kn_X2_3 : Cond.methodLink RX2 3 Lib.objectInit ∈ jz_GW := jz_in 282 (by decide +kernel) rfl
theorem kn_X3_3 : Cond.methodLink RX3 3 Lib.objectInit ∈ jz_GW := jz_in 144 (by decide +kernel) rfl
theorem kn_X3_9 : Cond.classLink RX3 9 RX5 ∈ jz_GW := jz_in 145 (by decide +kernel) rfl
theorem kn_X3_17 : jz_ln RX3 17 mX5_init := Or.inr ⟨"VineLaws", jz_inN 148 (by decide +kernel) rfl⟩
theorem kn_X3_25 : jz_ln RX3 25 mX5_take := Or.inr ⟨"VineLaws", jz_inN 473 (by decide +kernel) rfl⟩
theorem kn_X3_29 : Cond.methodLink RX3 29 Lib.Math.min.name ∈ jz_GW := jz_in 487 (by decide +kernel) rfl
theorem kn_X4_3 : Cond.methodLink RX4 3 Lib.objectInit ∈ jz_GW := jz_in 297 (by decide +kernel) rfl
theorem kn_X4_23 : Cond.methodLink RX4 23 Lib.Math.min.name ∈ jz_GW := jz_in 367 (by decide +kernel) rfl
theorem kn_X4_29 : Cond.methodLink RX4 29 Lib.Math.max.name ∈ jz_GW := jz_in 370 (by decide +kernel) rfl
theorem kn_X5_3 : Cond.methodLink RX5 3 Lib.objectInit ∈ jz_GW := jz_in 151 (by decide +kernel) rfl
theorem kn_X5_9 : Cond.classLink RX5 9 RX1 ∈ jz_GW := jz_in 152 (by decide +kernel) rfl
theorem kn_X5_17 : Cond.classLink RX5 17 RX0 ∈ jz_GW := jz_in 154 (by decide +kernel) rfl
theorem kn_X5_23 : jz_ln RX5 23 mX1_init := Or.inr ⟨"VineLaws", jz_inN 157 (by decide +kernel) rfl⟩
theorem kn_X5_26 : jz_ln RX5 26 mX0_init := Or.inr ⟨"VineLaws", jz_inN 200 (by decide +kernel) rfl⟩
theorem kn_X5_46 : jz_ln RX5 46 mX1_take := Or.inr ⟨"VineLaws", jz_inN 449 (by decide +kernel) rfl⟩
theorem kn_X5_50 : jz_ln RX5 50 mX0_take := Or.inr ⟨"VineLaws", jz_inN 453 (by decide +kernel) rfl⟩
theorem kn_X5_59 : jz_ln RX5 59 mX5_take := Or.inl (jz_in 585 (by decide +kernel) rfl)
theorem kn_X5_62 : jz_ln RX5 62 mX5_leafAt := Or.inl (jz_in 586 (by decide +kernel) rfl)
theorem kn_X5_66 : jz_ln RX5 66 mX1_isInForce := Or.inr ⟨"VineLaws", jz_inN 600 (by decide +kernel) rfl⟩
theorem kn_X5_73 : jz_ln RX5 73 mX1_isVoid := Or.inr ⟨"VineLaws", jz_inN 629 (by decide +kernel) rfl⟩
theorem kn_X5_76 : jz_ln RX5 76 mX1_liking := Or.inr ⟨"VineLaws", jz_inN 505 (by decide +kernel) rfl⟩
theorem kn_X5_81 : jz_ln RX5 81 mX0_isBiting := Or.inr ⟨"VineLaws", jz_inN 500 (by decide +kernel) rfl⟩
theorem kn_X5_90 : jz_ln RX5 90 mX5_choiceOf := Or.inl (jz_in 496 (by decide +kernel) rfl)
theorem kn_X5_95 : jz_ln RX5 95 mX1_loseBite := Or.inr ⟨"VineLaws", jz_inN 510 (by decide +kernel) rfl⟩
theorem kn_X5_99 : jz_ln RX5 99 mX0_swallow := Or.inr ⟨"VineLaws", jz_inN 515 (by decide +kernel) rfl⟩
theorem kn_X5_102 : jz_ln RX5 102 mX5_letBite := Or.inl (jz_in 492 (by decide +kernel) rfl)
theorem kn_X5_106 : jz_ln RX5 106 mX0_endHour := Or.inr ⟨"VineLaws", jz_inN 520 (by decide +kernel) rfl⟩
theorem kn_X5_109 : jz_ln RX5 109 mX5_passHour := Or.inl (jz_in 591 (by decide +kernel) rfl)
theorem kn_X5_113 : jz_ln RX5 113 mX5_inForce := Or.inl (jz_in 652 (by decide +kernel) rfl)
theorem kn_X5_116 : jz_ln RX5 116 mX4_at := Or.inr ⟨"VineLaws", jz_inN 685 (by decide +kernel) rfl⟩
theorem kn_X5_121 : jz_ln RX5 121 mX5_goatAt := Or.inl (jz_in 732 (by decide +kernel) rfl)
theorem kn_X6_3 : Cond.methodLink RX6 3 Lib.objectInit ∈ jz_GW := jz_in 112 (by decide +kernel) rfl
theorem kn_X6_19 : jz_ln RX6 19 mX5_clear := Or.inr ⟨"VineLaws", jz_inN 413 (by decide +kernel) rfl⟩
theorem kn_X6_30 : jz_ln RX6 30 mX6_advance := Or.inl (jz_in 417 (by decide +kernel) rfl)
theorem kn_X6_33 : jz_ln RX6 33 mX6_takeSign := Or.inl (jz_in 425 (by decide +kernel) rfl)
theorem kn_X6_37 : jz_ln RX6 37 mX6_takeNumber := Or.inl (jz_in 429 (by decide +kernel) rfl)
theorem kn_X6_50 : jz_ln RX6 50 mX6_sortOf := Or.inl (jz_in 433 (by decide +kernel) rfl)
theorem kn_X6_54 : jz_ln RX6 54 mX6_readLeaf := Or.inl (jz_in 436 (by decide +kernel) rfl)
theorem kn_X6_58 : jz_ln RX6 58 mX6_readGoat := Or.inl (jz_in 440 (by decide +kernel) rfl)
theorem kn_X6_106 : jz_ln RX6 106 mX6_byteAt := Or.inl (jz_in 421 (by decide +kernel) rfl)
theorem kn_L_7 : Cond.classLink RL 7 RX7 ∈ jz_GW := jz_in 97 (by decide +kernel) rfl
theorem kn_L_9 : jz_ln RL 9 mX7_init := Or.inl (jz_in 99 (by decide +kernel) rfl)
theorem kn_L_10 : Cond.classLink RL 10 RX8 ∈ jz_GW := jz_in 795 (by decide +kernel) rfl
theorem kn_L_12 : jz_ln RL 12 mX8_init := Or.inl (jz_in 797 (by decide +kernel) rfl)
theorem kn_L_13 : jz_ln RL 13 mX7_row := Or.inl (jz_in 346 (by decide +kernel) rfl)
theorem kn_L_17 : jz_ln RL 17 mX8_row := Or.inl (jz_in 878 (by decide +kernel) rfl)
theorem kn_L_18 : jz_ln RL 18 mX7_set := Or.inl (jz_in 373 (by decide +kernel) rfl)
theorem kn_L_21 : jz_ln RL 21 mX8_set := Or.inl (jz_in 896 (by decide +kernel) rfl)
theorem kn_L_22 : jz_ln RL 22 mX7_copy := Or.inl (jz_in 385 (by decide +kernel) rfl)
theorem kn_L_26 : jz_ln RL 26 mX8_copy := Or.inl (jz_in 900 (by decide +kernel) rfl)
theorem kn_L_27 : jz_ln RL 27 mX7_drop := Or.inl (jz_in 392 (by decide +kernel) rfl)
theorem kn_L_31 : jz_ln RL 31 mX8_drop := Or.inl (jz_in 904 (by decide +kernel) rfl)
theorem kn_L_32 : jz_ln RL 32 mX7_feed := Or.inl (jz_in 396 (by decide +kernel) rfl)
theorem kn_L_35 : jz_ln RL 35 mX8_feed := Or.inl (jz_in 908 (by decide +kernel) rfl)
theorem kn_L_36 : jz_ln RL 36 mX7_square := Or.inl (jz_in 405 (by decide +kernel) rfl)
theorem kn_L_40 : jz_ln RL 40 mX8_square := Or.inl (jz_in 918 (by decide +kernel) rfl)
theorem kn_L_41 : jz_ln RL 41 mX7_fault := Or.inl (jz_in 461 (by decide +kernel) rfl)
theorem kn_L_44 : jz_ln RL 44 mX8_fault := Or.inl (jz_in 914 (by decide +kernel) rfl)
theorem kn_L_45 : jz_ln RL 45 mX7_undo := Or.inl (jz_in 465 (by decide +kernel) rfl)
theorem kn_L_48 : jz_ln RL 48 mX8_undo := Or.inl (jz_in 1035 (by decide +kernel) rfl)
theorem kn_L_49 : jz_ln RL 49 mX7_hours := Or.inl (jz_in 475 (by decide +kernel) rfl)
theorem kn_L_52 : jz_ln RL 52 mX8_hours := Or.inl (jz_in 975 (by decide +kernel) rfl)
theorem kn_L_53 : jz_ln RL 53 mX7_hang := Or.inl (jz_in 525 (by decide +kernel) rfl)
theorem kn_L_57 : jz_ln RL 57 mX8_hang := Or.inl (jz_in 1005 (by decide +kernel) rfl)
theorem kn_L_58 : jz_ln RL 58 mX7_salt := Or.inl (jz_in 537 (by decide +kernel) rfl)
theorem kn_L_61 : jz_ln RL 61 mX8_salt := Or.inl (jz_in 1014 (by decide +kernel) rfl)
theorem kn_L_62 : jz_ln RL 62 mX7_transcribe := Or.inl (jz_in 541 (by decide +kernel) rfl)
theorem kn_L_65 : jz_ln RL 65 mX8_transcribe := Or.inl (jz_in 1018 (by decide +kernel) rfl)
theorem kn_L_66 : jz_ln RL 66 mX7_drive := Or.inl (jz_in 545 (by decide +kernel) rfl)
theorem kn_L_69 : jz_ln RL 69 mX8_drive := Or.inl (jz_in 1022 (by decide +kernel) rfl)
theorem kn_L_70 : jz_ln RL 70 mX7_fodder := Or.inl (jz_in 553 (by decide +kernel) rfl)
theorem kn_L_73 : jz_ln RL 73 mX8_fodder := Or.inl (jz_in 1031 (by decide +kernel) rfl)
theorem kn_L_74 : jz_ln RL 74 mX7_leaf := Or.inl (jz_in 557 (by decide +kernel) rfl)
theorem kn_L_77 : jz_ln RL 77 mX8_leaf := Or.inl (jz_in 1039 (by decide +kernel) rfl)
theorem kn_L_78 : jz_ln RL 78 mX7_goat := Or.inl (jz_in 571 (by decide +kernel) rfl)
theorem kn_L_81 : jz_ln RL 81 mX8_goat := Or.inl (jz_in 1047 (by decide +kernel) rfl)
theorem kn_L_82 : jz_ln RL 82 mX7_ahead := Or.inl (jz_in 577 (by decide +kernel) rfl)
theorem kn_L_85 : jz_ln RL 85 mX8_ahead := Or.inl (jz_in 1052 (by decide +kernel) rfl)
theorem kn_L_86 : jz_ln RL 86 mX7_force := Or.inl (jz_in 592 (by decide +kernel) rfl)
theorem kn_L_89 : jz_ln RL 89 mX8_force := Or.inl (jz_in 1064 (by decide +kernel) rfl)
theorem kn_L_90 : jz_ln RL 90 mX7_emptied := Or.inl (jz_in 601 (by decide +kernel) rfl)
theorem kn_L_93 : jz_ln RL 93 mX8_emptied := Or.inl (jz_in 1071 (by decide +kernel) rfl)
theorem kn_L_94 : jz_ln RL 94 mX7_eats := Or.inl (jz_in 605 (by decide +kernel) rfl)
theorem kn_L_97 : jz_ln RL 97 mX8_eats := Or.inl (jz_in 1075 (by decide +kernel) rfl)
theorem kn_L_98 : jz_ln RL 98 mX7_guilt := Or.inl (jz_in 609 (by decide +kernel) rfl)
theorem kn_L_101 : jz_ln RL 101 mX8_guilt := Or.inl (jz_in 1079 (by decide +kernel) rfl)
theorem kn_L_102 : jz_ln RL 102 mX7_gap := Or.inl (jz_in 613 (by decide +kernel) rfl)
theorem kn_L_105 : jz_ln RL 105 mX8_gap := Or.inl (jz_in 1087 (by decide +kernel) rfl)
theorem kn_L_106 : jz_ln RL 106 mX7_hangs := Or.inl (jz_in 621 (by decide +kernel) rfl)
theorem kn_L_109 : jz_ln RL 109 mX8_hangs := Or.inl (jz_in 1095 (by decide +kernel) rfl)
theorem kn_L_110 : jz_ln RL 110 mX7_drives := Or.inl (jz_in 653 (by decide +kernel) rfl)
theorem kn_L_113 : jz_ln RL 113 mX8_drives := Or.inl (jz_in 1106 (by decide +kernel) rfl)
theorem kn_L_114 : jz_ln RL 114 mX7_harm := Or.inl (jz_in 657 (by decide +kernel) rfl)
theorem kn_L_117 : jz_ln RL 117 mX8_harm := Or.inl (jz_in 1114 (by decide +kernel) rfl)
theorem kn_L_118 : jz_ln RL 118 mX7_bait := Or.inl (jz_in 661 (by decide +kernel) rfl)
theorem kn_L_121 : jz_ln RL 121 mX8_bait := Or.inl (jz_in 1118 (by decide +kernel) rfl)
theorem kn_L_122 : jz_ln RL 122 mX7_safeHeight := Or.inl (jz_in 669 (by decide +kernel) rfl)
theorem kn_L_125 : jz_ln RL 125 mX8_safeHeight := Or.inl (jz_in 1122 (by decide +kernel) rfl)
theorem kn_L_126 : jz_ln RL 126 mX7_who := Or.inl (jz_in 673 (by decide +kernel) rfl)
theorem kn_L_130 : jz_ln RL 130 mX8_who := Or.inl (jz_in 1126 (by decide +kernel) rfl)
theorem kn_L_131 : jz_ln RL 131 mX7_strayed := Or.inl (jz_in 689 (by decide +kernel) rfl)
theorem kn_L_135 : jz_ln RL 135 mX8_strayed := Or.inl (jz_in 1135 (by decide +kernel) rfl)
theorem kn_L_136 : jz_ln RL 136 mX7_rivals := Or.inl (jz_in 693 (by decide +kernel) rfl)
theorem kn_L_139 : jz_ln RL 139 mX8_rivals := Or.inl (jz_in 1139 (by decide +kernel) rfl)
theorem kn_L_140 : jz_ln RL 140 mX7_wind := Or.inl (jz_in 701 (by decide +kernel) rfl)
theorem kn_L_144 : jz_ln RL 144 mX8_wind := Or.inl (jz_in 1143 (by decide +kernel) rfl)
theorem kn_L_145 : jz_ln RL 145 mX7_drawn := Or.inl (jz_in 721 (by decide +kernel) rfl)
theorem kn_L_148 : jz_ln RL 148 mX8_drawn := Or.inl (jz_in 1150 (by decide +kernel) rfl)
theorem kn_L_149 : jz_ln RL 149 mX7_image := Or.inl (jz_in 737 (by decide +kernel) rfl)
theorem kn_L_152 : jz_ln RL 152 mX8_image := Or.inl (jz_in 1163 (by decide +kernel) rfl)
theorem kn_L_153 : jz_ln RL 153 mX7_restore := Or.inl (jz_in 745 (by decide +kernel) rfl)
theorem kn_L_156 : jz_ln RL 156 mX8_restore := Or.inl (jz_in 1167 (by decide +kernel) rfl)
theorem kn_L_157 : jz_ln RL 157 mX7_kind := Or.inl (jz_in 749 (by decide +kernel) rfl)
theorem kn_L_160 : jz_ln RL 160 mX8_kind := Or.inl (jz_in 1171 (by decide +kernel) rfl)
theorem kn_L_161 : jz_ln RL 161 mX7_as := Or.inl (jz_in 753 (by decide +kernel) rfl)
theorem kn_L_164 : jz_ln RL 164 mX8_as := Or.inl (jz_in 1175 (by decide +kernel) rfl)
theorem kn_L_165 : jz_ln RL 165 mX7_ask := Or.inl (jz_in 760 (by decide +kernel) rfl)
theorem kn_L_168 : jz_ln RL 168 mX8_ask := Or.inl (jz_in 1182 (by decide +kernel) rfl)
theorem kn_L_169 : jz_ln RL 169 mX7_trace := Or.inl (jz_in 774 (by decide +kernel) rfl)
theorem kn_L_172 : jz_ln RL 172 mX8_trace := Or.inl (jz_in 1206 (by decide +kernel) rfl)
theorem kn_L_173 : jz_ln RL 173 mX7_count := Or.inl (jz_in 783 (by decide +kernel) rfl)
theorem kn_L_176 : jz_ln RL 176 mX8_count := Or.inl (jz_in 1210 (by decide +kernel) rfl)
theorem kn_L_177 : jz_ln RL 177 mX7_status := Or.inl (jz_in 791 (by decide +kernel) rfl)
theorem kn_L_180 : jz_ln RL 180 mX8_status := Or.inl (jz_in 1214 (by decide +kernel) rfl)
theorem kn_X8_1 : Cond.methodLink RX8 1 Lib.objectInit ∈ jz_GW := jz_in 800 (by decide +kernel) rfl
theorem kn_X8_60 : jz_ln RX8 60 mX8_in := Or.inl (jz_in 886 (by decide +kernel) rfl)
theorem kn_X8_64 : jz_ln RX8 64 mX8_isRow := Or.inl (jz_in 882 (by decide +kernel) rfl)
theorem kn_X8_71 : jz_ln RX8 71 mX8_finding := Or.inl (jz_in 891 (by decide +kernel) rfl)
theorem kn_X8_108 : jz_ln RX8 108 mX8_bad := Or.inl (jz_in 943 (by decide +kernel) rfl)
theorem kn_X8_112 : jz_ln RX8 112 mX8_nextToken := Or.inl (jz_in 926 (by decide +kernel) rfl)
theorem kn_X8_115 : jz_ln RX8 115 mX8_must := Or.inl (jz_in 939 (by decide +kernel) rfl)
theorem kn_X8_122 : jz_ln RX8 122 mX8_kindBy := Or.inl (jz_in 959 (by decide +kernel) rfl)
theorem kn_X8_125 : jz_ln RX8 125 mX8_number := Or.inl (jz_in 947 (by decide +kernel) rfl)
theorem kn_X8_129 : jz_ln RX8 129 mX8_mustSign := Or.inl (jz_in 951 (by decide +kernel) rfl)
theorem kn_X8_132 : jz_ln RX8 132 mX8_isLetter := Or.inl (jz_in 935 (by decide +kernel) rfl)
theorem kn_X8_135 : jz_ln RX8 135 mX8_begin := Or.inl (jz_in 922 (by decide +kernel) rfl)
theorem kn_X8_138 : jz_ln RX8 138 mX8_isSort := Or.inl (jz_in 955 (by decide +kernel) rfl)
theorem kn_X8_142 : jz_ln RX8 142 mX8_readLeaf := Or.inl (jz_in 962 (by decide +kernel) rfl)
theorem kn_X8_145 : jz_ln RX8 145 mX8_readGoat := Or.inl (jz_in 966 (by decide +kernel) rfl)
theorem kn_X8_148 : jz_ln RX8 148 mX8_failed := Or.inl (jz_in 970 (by decide +kernel) rfl)
theorem kn_X8_155 : jz_ln RX8 155 mX8_of := Or.inl (jz_in 999 (by decide +kernel) rfl)
theorem kn_X8_159 : jz_ln RX8 159 mX8_its := Or.inl (jz_in 996 (by decide +kernel) rfl)
theorem kn_X8_162 : jz_ln RX8 162 mX8_liked := Or.inl (jz_in 1002 (by decide +kernel) rfl)
theorem kn_X8_166 : jz_ln RX8 166 mX8_bitten := Or.inl (jz_in 993 (by decide +kernel) rfl)
theorem kn_X8_169 : jz_ln RX8 169 mX8_hour := Or.inl (jz_in 989 (by decide +kernel) rfl)
theorem kn_X8_173 : jz_ln RX8 173 mX8_isForce := Or.inl (jz_in 1044 (by decide +kernel) rfl)
theorem kn_X8_177 : jz_ln RX8 177 mX8_layThen := Or.inl (jz_in 1056 (by decide +kernel) rfl)
theorem kn_X8_180 : jz_ln RX8 180 mX8_has := Or.inl (jz_in 1103 (by decide +kernel) rfl)
theorem kn_X8_184 : jz_ln RX8 184 mX8_isThere := Or.inl (jz_in 979 (by decide +kernel) rfl)
theorem kn_X8_190 : jz_ln RX8 190 mX8_keep := Or.inl (jz_in 985 (by decide +kernel) rfl)
theorem kn_X8_193 : jz_ln RX8 193 mX8_isLeaf := Or.inl (jz_in 1009 (by decide +kernel) rfl)
theorem kn_X8_198 : jz_ln RX8 198 mX8_isGoat := Or.inl (jz_in 1026 (by decide +kernel) rfl)
theorem kn_X8_207 : jz_ln RX8 207 mX8_hoursOf := Or.inl (jz_in 1060 (by decide +kernel) rfl)
theorem kn_X8_210 : jz_ln RX8 210 mX8_forced := Or.inl (jz_in 1068 (by decide +kernel) rfl)
theorem kn_X8_213 : jz_ln RX8 213 mX8_biters := Or.inl (jz_in 1083 (by decide +kernel) rfl)
theorem kn_X8_216 : jz_ln RX8 216 mX8_areLeaves := Or.inl (jz_in 1091 (by decide +kernel) rfl)
theorem kn_X8_221 : jz_ln RX8 221 mX8_bits := Or.inl (jz_in 1100 (by decide +kernel) rfl)
theorem kn_X8_224 : jz_ln RX8 224 mX8_layOff := Or.inl (jz_in 1110 (by decide +kernel) rfl)
theorem kn_X8_230 : jz_ln RX8 230 mX8_isSo := Or.inl (jz_in 1131 (by decide +kernel) rfl)
theorem kn_X8_246 : jz_ln RX8 246 mX8_voids := Or.inl (jz_in 1157 (by decide +kernel) rfl)
theorem kn_X8_249 : jz_ln RX8 249 mX8_leftOf := Or.inl (jz_in 1160 (by decide +kernel) rfl)
theorem kn_X8_252 : jz_ln RX8 252 mX8_isOf := Or.inl (jz_in 1179 (by decide +kernel) rfl)
theorem kn_X8_258 : jz_ln RX8 258 mX8_began := Or.inl (jz_in 1194 (by decide +kernel) rfl)
theorem kn_X8_261 : jz_ln RX8 261 mX8_plainSize := Or.inl (jz_in 1198 (by decide +kernel) rfl)
theorem kn_X8_264 : jz_ln RX8 264 mX8_bitterSize := Or.inl (jz_in 1190 (by decide +kernel) rfl)
theorem kn_X8_267 : jz_ln RX8 267 mX8_markOf := Or.inl (jz_in 1202 (by decide +kernel) rfl)
theorem kn_X8_270 : jz_ln RX8 270 mX8_sizeOf := Or.inl (jz_in 1186 (by decide +kernel) rfl)
theorem ki0 : Cond.instantiable RX0 5 ∈ jz_GW := jz_in 199 (by decide +kernel) rfl
theorem kj0 : Cond.initialized RX0 ∈ jz_GW := jz_in 90 (by decide +kernel) rfl
theorem ki1 : Cond.instantiable RX1 7 ∈ jz_GW := jz_in 156 (by decide +kernel) rfl
theorem kj1 : Cond.initialized RX1 ∈ jz_GW := jz_in 89 (by decide +kernel) rfl
theorem ki2 : Cond.instantiable RX2 2 ∈ jz_GW := jz_in 278 (by decide +kernel) rfl
theorem kj2 : Cond.initialized RX2 ∈ jz_GW := jz_in 91 (by decide +kernel) rfl
theorem ki3 : Cond.instantiable RX3 3 ∈ jz_GW := jz_in 140 (by decide +kernel) rfl
theorem kj3 : Cond.initialized RX3 ∈ jz_GW := jz_in 87 (by decide +kernel) rfl
theorem ki4 : Cond.instantiable RX4 4 ∈ jz_GW := jz_in 293 (by decide +kernel) rfl
theorem kj4 : Cond.initialized RX4 ∈ jz_GW := jz_in 92 (by decide +kernel) rfl
theorem ki5 : Cond.instantiable RX5 8 ∈ jz_GW := jz_in 147 (by decide +kernel) rfl
theorem kj5 : Cond.initialized RX5 ∈ jz_GW := jz_in 88 (by decide +kernel) rfl
theorem ki6 : Cond.instantiable RX6 7 ∈ jz_GW := jz_in 108 (by decide +kernel) rfl
theorem kj6 : Cond.initialized RX6 ∈ jz_GW := jz_in 86 (by decide +kernel) rfl
theorem ki7 : Cond.instantiable RX7 10 ∈ jz_GW := jz_in 98 (by decide +kernel) rfl
theorem kj7 : Cond.initialized RX7 ∈ jz_GW := jz_in 85 (by decide +kernel) rfl
theorem ki8 : Cond.instantiable RX8 25 ∈ jz_GW := jz_in 796 (by decide +kernel) rfl
theorem kj8 : Cond.initialized RX8 ∈ jz_GW := jz_in 93 (by decide +kernel) rfl
theorem kob1 : Cond.instanceMethod Lib.objectInit ∈ jz_GW := jz_in 103 (by decide +kernel) rfl
theorem kob2 : Cond.code Lib.objectInit ⟨#[0xb1]⟩ 1 none ∈ jz_GW := jz_in 104 (by decide +kernel) rfl
theorem kov4 : Cond.arrayOver (.object RX4) ∈ jz_NW := jz_inN 106 (by decide +kernel) rfl
theorem kac_int : Cond.arrayClass .int ∈ jz_GW := jz_in 138 (by decide +kernel) rfl
theorem kov5 : Cond.arrayOver (.object RX5) ∈ jz_NW := jz_inN 146 (by decide +kernel) rfl
theorem kov1 : Cond.arrayOver (.object RX1) ∈ jz_NW := jz_inN 153 (by decide +kernel) rfl
theorem kov0 : Cond.arrayOver (.object RX0) ∈ jz_NW := jz_inN 155 (by decide +kernel) rfl
theorem knat : Cond.native arraycopyName ∈ jz_GW := jz_in 391 (by decide +kernel) rfl
theorem kstc : Cond.static arraycopyName ∈ jz_GW := jz_in 390 (by decide +kernel) rfl
theorem kac_boolean : Cond.arrayClass .boolean ∈ jz_GW := jz_in 877 (by decide +kernel) rfl
theorem kisys : Cond.initialized "java/lang/System" ∈ jz_GW := jz_in 95 (by decide +kernel) rfl
theorem kmath1_max : Cond.static Lib.Math.max.name ∈ jz_GW := jz_in 371 (by decide +kernel) rfl
theorem kmath2_max : Cond.code Lib.Math.max.name Lib.Math.max.code 2 (some .int) ∈ jz_GW := jz_in 372 (by decide +kernel) rfl
theorem kmath1_min : Cond.static Lib.Math.min.name ∈ jz_GW := jz_in 368 (by decide +kernel) rfl
theorem kmath2_min : Cond.code Lib.Math.min.name Lib.Math.min.code 2 (some .int) ∈ jz_GW := jz_in 369 (by decide +kernel) rfl
theorem kmath0 : Cond.initialized "java/lang/Math" ∈ jz_GW := jz_in 94 (by decide +kernel) rfl
