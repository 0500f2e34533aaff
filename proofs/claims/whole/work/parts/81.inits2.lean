theorem iz_callN {g : jz_G} {x : jz_M} {n0 : Nat} {Q : jz_Q} {pc : Nat} {ls : List (Option jz_V)} {st : List jz_V} {n : Nat} {V : jz_S} {idx k ci np : Nat} {y : jz_M} {av st' : List jz_V} (N : Nat) (hN : k + 1 + jm_k y = N) (hd : decode (jm_c x) pc = .ok (.invokespecial idx, 3)) (hl : jz_ln (jm_o x) idx y) (hm : jz_myI y np) (hk : jz_t k = .inl ci) (hnp : av.length = np) (hst0 : st = av.reverse ++ jr k :: st') (hcat : (st'.map jz_ct).sum ≤ 8) (hdp : jm_d y + 1 ≤ jm_d x) (hcl : N ≤ n0 + jm_k x) (hn : n = k + 1) (hc : iz_C g y k av V)
    (kk : ∀ V' : jz_S, iz_F k V V' → iz_M k N V' → iz_D N V' → jz_J g x n0 Q (pc + 3) ls st' N V') : jz_J g x n0 Q pc ls st n V := by
  subst hN
  exact iz_call hd hl hm hk hnp hst0 hcat hdp hcl hn hc kk
set_option maxRecDepth 100000 in
set_option maxHeartbeats 4000000 in
theorem i_X3 (g : jz_G) {V0 : jz_S} (hV : iz_D 4 V0) : iz_C g mX3_init 4 [] V0 := by
  refine jz_K_of koX3_init (Nat.le_of_ble_eq_true rfl) ?_
  refine iz_pad 1 ?_
  show jz_J g mX3_init 5 (iz_Q mX3_init 4 V0) 0 [some (jr 4), none] [] 5 V0
  have L15 : ∀ (nn j : Nat) (V : jz_S), j ≤ 24 → iz_F 4 V0 V → iz_K (fun a b => a = 4 ∨ (6 ≤ a ∧ a < 6 + 14 * j) ∨ (a = 5 ∧ b < j)) V → iz_D (6 + 14 * j) V → 24 - j < nn → jz_J g mX3_init 5 (iz_Q mX3_init 4 V0) 15 [some (jr 4), some (ji (j : Int))] [] (6 + 14 * j) V := by
    intro nn
    induction nn with
    | zero => intro j V _ _ _ _ hm; exact absurd hm (Nat.not_lt_zero _)
    | succ nn ih =>
      intro j V hj hF hK hD hm
      have hv0 : V 4 0 = jr 5 := (hK 4 0 (Or.inl rfl) (iz_ro tt4 (by decide))).trans (iz_r tt4 rfl).symm
      refine jj_iload_n dX3_init_15 rfl ?_
      refine jj_aload_n dX3_init_16 rfl ?_
      refine jj_getf dX3_init_17 kf_X3_11 tt4 (by omega) hv0 ?_
      refine jj_alen dX3_init_20 tt5 (by decide) (by omega) rfl (by decide) ?_
      refine jj_icmp_ge (tgt := 43) dX3_init_21 (by decide) (fun hc => ?_) (fun hc => ?_)
      · have ej : j = 24 := by omega
        subst ej
        refine jj_ret (v := none) dX3_init_43 rfl trivial rfl (fun _ => ⟨rfl, hF, ?_, hD⟩)
        refine iz_Kw hK (fun a b h hr => ?_)
        have h1 : 4 ≤ a ∧ a < 6 + 14 * 24 := h
        by_cases e : a = 5
        · have hb := iz_relA (by rw [e]; exact tt5) hr
          omega
        · omega
      · have hj4 : j < 24 := by omega
        have hkG := jz_t_past hj4
        refine jj_aload_n dX3_init_24 rfl ?_
        refine jj_getf dX3_init_25 kf_X3_11 tt4 (by omega) hv0 ?_
        refine jj_iload_n dX3_init_28 rfl ?_
        refine iz_new5 dX3_init_29 kn_X3_9 hkG hD (by show 6 + 14 * j + 1 ≤ 5 + 337; omega) ?_
        refine jj_dup dX3_init_32 (kk := ?_)
        refine iz_callN (6 + 14 * (j + 1)) (by show 6 + 14 * j + 1 + 13 = 6 + 14 * (j + 1); omega) (k := 6 + 14 * j) (av := []) (st' := [jr (6 + 14 * j), ji (j : Int), jr 5]) dX3_init_33 kn_X3_17 kmX5_init hkG rfl rfl (Nat.le_of_ble_eq_true rfl) (by decide) (by show 6 + 14 * (j + 1) ≤ 5 + 337; omega) rfl (i_X5 g hkG hD) (fun V' h1 h2 h3 => ?_)
        refine jj_aast dX3_init_36 tt5 (by decide) (by omega) (by omega) (by omega) hkG (by omega) rfl rfl ?_
        refine jj_iinc (ls' := [some (jr 4), some (ji ((j : Int) + 1))]) dX3_init_37 rfl (by decide) rfl (by omega) rfl ?_
        refine jj_goto (tgt := 15) dX3_init_40 (by decide) ?_
        refine ih (j + 1) _ (by omega) (iz_Fup (iz_Fcall hF h1 (by omega)) (by omega)) ?_ (iz_Dup h3 (by omega)) (by omega)
        refine iz_Kup (D := fun a b => a = 4 ∨ (6 ≤ a ∧ a < 6 + 14 * (j + 1)) ∨ (a = 5 ∧ b < j)) (iz_Kcall hK h1 h2 (fun a b h _ => ?_)) ?_ (fun a b h _ => ?_)
        · omega
        · rw [show ((j : Int)).toNat = j by omega]
          exact iz_ra tt5 rfl
        · omega
  refine jj_aload_n dX3_init_0 rfl ?_
  refine jj_objInit dX3_init_1 kn_X3_3 kob1 kob2 (Nat.le_of_ble_eq_true rfl) (by decide) ?_
  refine jj_aload_n dX3_init_4 rfl ?_
  refine jj_bipush dX3_init_5 (kk := ?_)
  refine iz_anew4 dX3_init_7 kn_X3_9 tt5 rfl (by decide) (iz_Dw hV (by omega)) (by decide) ?_
  refine jj_putf dX3_init_10 kw_X3_11 (fun _ => rfl) tt4 (by omega) trivial ?_
  refine jj_iconst dX3_init_13 (kk := ?_)
  refine jj_istore_n (ls' := [some (jr 4), some (ji 0)]) dX3_init_14 (by decide) rfl rfl ?_
  refine L15 _ 0 _ (by decide) (iz_Fup (fun _ _ => rfl) (Nat.le_refl _)) ?_ (iz_Dup (iz_Dw hV (by omega)) (by omega)) (Nat.lt_succ_self _)
  refine iz_Kup (D := fun a b => a = 4 ∧ b ≠ 0) (iz_Knew (D := fun _ _ => False) (fun _ _ h => h.elim) hV (fun a b h _ => Or.inr ?_)) (iz_r tt4 rfl) (fun a b h _ => ?_)
  · obtain ⟨rfl, hb⟩ := h
    exact ⟨Nat.le_refl _, iz_po tt4 (if_neg hb) rfl⟩
  · omega
set_option maxRecDepth 100000 in
set_option maxHeartbeats 4000000 in
theorem i_X7 (g : jz_G) {V0 : jz_S} (hV : iz_D 0 V0) : iz_C g mX7_init 0 [] V0 := by
  refine jz_K_of koX7_init (Nat.le_of_ble_eq_true rfl) ?_
  refine iz_pad 1 ?_
  show jz_J g mX7_init 1 (iz_Q mX7_init 0 V0) 0 [some (jr 0), none] [] 1 V0
  have hF : ∀ V, iz_F 0 V0 V := fun V a ha => absurd ha (Nat.not_lt_zero _)
  have L92 : ∀ (nn j : Nat) (V : jz_S), j ≤ 8 → iz_K (fun a b => a = 0 ∨ (2 ≤ a ∧ a < 400 + 2 * j) ∨ (a = 1 ∧ b < j)) V → iz_D (400 + 2 * j) V → 8 - j < nn → jz_J g mX7_init 1 (iz_Q mX7_init 0 V0) 92 [some (jr 0), some (ji (j : Int))] [] (400 + 2 * j) V := by
    intro nn
    induction nn with
    | zero => intro j V _ _ _ hm; exact absurd hm (Nat.not_lt_zero _)
    | succ nn ih =>
      intro j V hj hK hD hm
      have hv0 : V 0 0 = jr 1 := (hK 0 0 (Or.inl rfl) (iz_ro tt0 (by decide))).trans (iz_r tt0 rfl).symm
      refine jj_iload_n dX7_init_92 rfl ?_
      refine jj_aload_n dX7_init_93 rfl ?_
      refine jj_getf dX7_init_94 kf_X7_11 tt0 (by omega) hv0 ?_
      refine jj_alen dX7_init_97 tt1 (by decide) (by omega) rfl (by decide) ?_
      refine jj_icmp_ge (tgt := 120) dX7_init_98 (by decide) (fun hc => ?_) (fun hc => ?_)
      · have ej : j = 8 := by omega
        subst ej
        refine jj_ret (v := none) dX7_init_120 rfl trivial rfl (fun _ => ⟨rfl, hF V, ?_, hD⟩)
        refine iz_Kw hK (fun a b h hr => ?_)
        have h1 : 0 ≤ a ∧ a < 400 + 2 * 8 := h
        by_cases e : a = 1
        · have hb := iz_relA (by rw [e]; exact tt1) hr
          omega
        · omega
      · have hj4 : j < 8 := by omega
        have hkG := jz_t_rows hj4
        refine jj_aload_n dX7_init_101 rfl ?_
        refine jj_getf dX7_init_102 kf_X7_11 tt0 (by omega) hv0 ?_
        refine jj_iload_n dX7_init_105 rfl ?_
        refine iz_new4 dX7_init_106 kn_X7_9 hkG hD (by show 400 + 2 * j + 1 ≤ 1 + 415; omega) ?_
        refine jj_dup dX7_init_109 (kk := ?_)
        refine iz_callN (400 + 2 * (j + 1)) (by show 400 + 2 * j + 1 + 1 = 400 + 2 * (j + 1); omega) (k := 400 + 2 * j) (av := []) (st' := [jr (400 + 2 * j), ji (j : Int), jr 1]) dX7_init_110 kn_X7_52 kmX4_init hkG rfl rfl (Nat.le_of_ble_eq_true rfl) (by decide) (by show 400 + 2 * (j + 1) ≤ 1 + 415; omega) rfl (i_X4 g hkG (jz_t_row hkG) hD) (fun V' h1 h2 h3 => ?_)
        refine jj_aast dX7_init_113 tt1 (by decide) (by omega) (by omega) (by omega) hkG (by omega) rfl rfl ?_
        refine jj_iinc (ls' := [some (jr 0), some (ji ((j : Int) + 1))]) dX7_init_114 rfl (by decide) rfl (by omega) rfl ?_
        refine jj_goto (tgt := 92) dX7_init_117 (by decide) ?_
        refine ih (j + 1) _ (by omega) ?_ (iz_Dup h3 (by omega)) (by omega)
        refine iz_Kup (D := fun a b => a = 0 ∨ (2 ≤ a ∧ a < 400 + 2 * (j + 1)) ∨ (a = 1 ∧ b < j)) (iz_Kcall hK h1 h2 (fun a b h _ => ?_)) ?_ (fun a b h _ => ?_)
        · omega
        · rw [show ((j : Int)).toNat = j by omega]
          exact iz_ra tt1 rfl
        · omega
  have hK0 : iz_K (fun a b => a = 0 ∧ 8 ≤ b) V0 := by
    refine iz_Knew (D := fun _ _ => False) (fun _ _ h => h.elim) hV (fun a b h _ => Or.inr ?_)
    obtain ⟨rfl, hb⟩ := h
    refine ⟨Nat.le_refl _, iz_po tt0 ?_ rfl⟩
    match b, hb with
    | b + 8, _ => rfl
  refine jj_aload_n dX7_init_0 rfl ?_
  refine jj_objInit dX7_init_1 kn_X7_1 kob1 kob2 (Nat.le_of_ble_eq_true rfl) (by decide) ?_
  refine jj_aload_n dX7_init_4 rfl ?_
  refine jj_bipush dX7_init_5 (kk := ?_)
  refine iz_anew5 dX7_init_7 kn_X7_9 tt1 rfl (by decide) (iz_Dw hV (by omega)) (by decide) ?_
  refine jj_putf dX7_init_10 kw_X7_11 (fun _ => rfl) tt0 (by omega) trivial ?_
  have hK1 : iz_K (fun a b => (a = 0 ∧ (b < 1 ∨ 8 ≤ b)) ∨ (2 ≤ a ∧ a < 2)) (jz_up V0 0 0 (jr 1)) := iz_Kup hK0 (iz_r tt0 rfl) (fun a b h _ => by omega)
  have hD1 : iz_D 2 (jz_up V0 0 0 (jr 1)) := iz_Dup (iz_Dw hV (by omega)) (by omega)
  refine jj_aload_n dX7_init_13 rfl ?_
  refine iz_new6 dX7_init_14 kn_X7_15 tt2 hD1 (by decide) ?_
  refine jj_dup dX7_init_17 (kk := ?_)
  refine iz_callN 4 rfl (k := 2) (av := []) (st' := [jr 2, jr 0]) dX7_init_18 kn_X7_17 kmX6_init tt2 rfl rfl (Nat.le_of_ble_eq_true rfl) (by decide) (by decide) rfl (i_X6 g tt2 tt3 hD1) (fun V1 e1 e2 e3 => ?_)
  refine jj_putf dX7_init_21 kw_X7_18 (fun _ => rfl) tt0 (by omega) trivial ?_
  have hK2 : iz_K (fun a b => (a = 0 ∧ (b < 2 ∨ 8 ≤ b)) ∨ (2 ≤ a ∧ a < 4)) (jz_up V1 0 1 (jr 2)) := iz_Kup (D := fun a b => (a = 0 ∧ (b < 1 ∨ 8 ≤ b)) ∨ (2 ≤ a ∧ a < 4)) (iz_Kcall hK1 e1 e2 (fun a b h _ => by omega)) (iz_r tt0 rfl) (fun a b h _ => by omega)
  have hD2 : iz_D 4 (jz_up V1 0 1 (jr 2)) := iz_Dup e3 (by omega)
  clear e1 e2 e3 hK1 hD1
  refine jj_aload_n dX7_init_24 rfl ?_
  refine iz_new3 dX7_init_25 kn_X7_22 tt4 hD2 (by decide) ?_
  refine jj_dup dX7_init_28 (kk := ?_)
  refine iz_callN 342 rfl (k := 4) (av := []) (st' := [jr 4, jr 0]) dX7_init_29 kn_X7_24 kmX3_init tt4 rfl rfl (Nat.le_of_ble_eq_true rfl) (by decide) (by decide) rfl (i_X3 g hD2) (fun V2 e1 e2 e3 => ?_)
  refine jj_putf dX7_init_32 kw_X7_25 (fun _ => rfl) tt0 (by omega) trivial ?_
  have hK3 : iz_K (fun a b => (a = 0 ∧ (b < 3 ∨ 8 ≤ b)) ∨ (2 ≤ a ∧ a < 342)) (jz_up V2 0 2 (jr 4)) := iz_Kup (D := fun a b => (a = 0 ∧ (b < 2 ∨ 8 ≤ b)) ∨ (2 ≤ a ∧ a < 342)) (iz_Kcall hK2 e1 e2 (fun a b h _ => by omega)) (iz_r tt0 rfl) (fun a b h _ => by omega)
  have hD3 : iz_D 342 (jz_up V2 0 2 (jr 4)) := iz_Dup e3 (by omega)
  clear e1 e2 e3 hK2 hD2
  refine jj_aload_n dX7_init_35 rfl ?_
  refine iz_new2 dX7_init_36 kn_X7_29 tt342 hD3 (by decide) ?_
  refine jj_dup dX7_init_39 (kk := ?_)
  refine iz_callN 344 rfl (k := 342) (av := []) (st' := [jr 342, jr 0]) dX7_init_40 kn_X7_31 kmX2_init tt342 rfl rfl (Nat.le_of_ble_eq_true rfl) (by decide) (by decide) rfl (i_X2 g tt342 tt343 hD3) (fun V3 e1 e2 e3 => ?_)
  refine jj_putf dX7_init_43 kw_X7_32 (fun _ => rfl) tt0 (by omega) trivial ?_
  have hK4 : iz_K (fun a b => (a = 0 ∧ (b < 4 ∨ 8 ≤ b)) ∨ (2 ≤ a ∧ a < 344)) (jz_up V3 0 3 (jr 342)) := iz_Kup (D := fun a b => (a = 0 ∧ (b < 3 ∨ 8 ≤ b)) ∨ (2 ≤ a ∧ a < 344)) (iz_Kcall hK3 e1 e2 (fun a b h _ => by omega)) (iz_r tt0 rfl) (fun a b h _ => by omega)
  have hD4 : iz_D 344 (jz_up V3 0 3 (jr 342)) := iz_Dup e3 (by omega)
  clear e1 e2 e3 hK3 hD3
  refine jj_aload_n dX7_init_46 rfl ?_
  refine iz_new5 dX7_init_47 kn_X7_36 tt344 hD4 (by decide) ?_
  refine jj_dup dX7_init_50 (kk := ?_)
  refine iz_callN 358 rfl (k := 344) (av := []) (st' := [jr 344, jr 0]) dX7_init_51 kn_X7_38 kmX5_init tt344 rfl rfl (Nat.le_of_ble_eq_true rfl) (by decide) (by decide) rfl (i_X5 g tt344 hD4) (fun V4 e1 e2 e3 => ?_)
  refine jj_putf dX7_init_54 kw_X7_39 (fun _ => rfl) tt0 (by omega) trivial ?_
  have hK5 : iz_K (fun a b => (a = 0 ∧ (b < 5 ∨ 8 ≤ b)) ∨ (2 ≤ a ∧ a < 358)) (jz_up V4 0 4 (jr 344)) := iz_Kup (D := fun a b => (a = 0 ∧ (b < 4 ∨ 8 ≤ b)) ∨ (2 ≤ a ∧ a < 358)) (iz_Kcall hK4 e1 e2 (fun a b h _ => by omega)) (iz_r tt0 rfl) (fun a b h _ => by omega)
  have hD5 : iz_D 358 (jz_up V4 0 4 (jr 344)) := iz_Dup e3 (by omega)
  clear e1 e2 e3 hK4 hD4
  refine jj_aload_n dX7_init_57 rfl ?_
  refine iz_new5 dX7_init_58 kn_X7_36 tt358 hD5 (by decide) ?_
  refine jj_dup dX7_init_61 (kk := ?_)
  refine iz_callN 372 rfl (k := 358) (av := []) (st' := [jr 358, jr 0]) dX7_init_62 kn_X7_38 kmX5_init tt358 rfl rfl (Nat.le_of_ble_eq_true rfl) (by decide) (by decide) rfl (i_X5 g tt358 hD5) (fun V5 e1 e2 e3 => ?_)
  refine jj_putf dX7_init_65 kw_X7_43 (fun _ => rfl) tt0 (by omega) trivial ?_
  have hK6 : iz_K (fun a b => (a = 0 ∧ (b < 6 ∨ 8 ≤ b)) ∨ (2 ≤ a ∧ a < 372)) (jz_up V5 0 5 (jr 358)) := iz_Kup (D := fun a b => (a = 0 ∧ (b < 5 ∨ 8 ≤ b)) ∨ (2 ≤ a ∧ a < 372)) (iz_Kcall hK5 e1 e2 (fun a b h _ => by omega)) (iz_r tt0 rfl) (fun a b h _ => by omega)
  have hD6 : iz_D 372 (jz_up V5 0 5 (jr 358)) := iz_Dup e3 (by omega)
  clear e1 e2 e3 hK5 hD5
  refine jj_aload_n dX7_init_68 rfl ?_
  refine iz_new5 dX7_init_69 kn_X7_36 tt372 hD6 (by decide) ?_
  refine jj_dup dX7_init_72 (kk := ?_)
  refine iz_callN 386 rfl (k := 372) (av := []) (st' := [jr 372, jr 0]) dX7_init_73 kn_X7_38 kmX5_init tt372 rfl rfl (Nat.le_of_ble_eq_true rfl) (by decide) (by decide) rfl (i_X5 g tt372 hD6) (fun V6 e1 e2 e3 => ?_)
  refine jj_putf dX7_init_76 kw_X7_46 (fun _ => rfl) tt0 (by omega) trivial ?_
  have hK7 : iz_K (fun a b => (a = 0 ∧ (b < 7 ∨ 8 ≤ b)) ∨ (2 ≤ a ∧ a < 386)) (jz_up V6 0 6 (jr 372)) := iz_Kup (D := fun a b => (a = 0 ∧ (b < 6 ∨ 8 ≤ b)) ∨ (2 ≤ a ∧ a < 386)) (iz_Kcall hK6 e1 e2 (fun a b h _ => by omega)) (iz_r tt0 rfl) (fun a b h _ => by omega)
  have hD7 : iz_D 386 (jz_up V6 0 6 (jr 372)) := iz_Dup e3 (by omega)
  clear e1 e2 e3 hK6 hD6
  refine jj_aload_n dX7_init_79 rfl ?_
  refine iz_new5 dX7_init_80 kn_X7_36 tt386 hD7 (by decide) ?_
  refine jj_dup dX7_init_83 (kk := ?_)
  refine iz_callN 400 rfl (k := 386) (av := []) (st' := [jr 386, jr 0]) dX7_init_84 kn_X7_38 kmX5_init tt386 rfl rfl (Nat.le_of_ble_eq_true rfl) (by decide) (by decide) rfl (i_X5 g tt386 hD7) (fun V7 e1 e2 e3 => ?_)
  refine jj_putf dX7_init_87 kw_X7_49 (fun _ => rfl) tt0 (by omega) trivial ?_
  have hK8 : iz_K (fun a b => (a = 0 ∧ (b < 8 ∨ 8 ≤ b)) ∨ (2 ≤ a ∧ a < 400)) (jz_up V7 0 7 (jr 386)) := iz_Kup (D := fun a b => (a = 0 ∧ (b < 7 ∨ 8 ≤ b)) ∨ (2 ≤ a ∧ a < 400)) (iz_Kcall hK7 e1 e2 (fun a b h _ => by omega)) (iz_r tt0 rfl) (fun a b h _ => by omega)
  have hD8 : iz_D 400 (jz_up V7 0 7 (jr 386)) := iz_Dup e3 (by omega)
  clear e1 e2 e3 hK7 hD7
  refine jj_iconst dX7_init_90 (kk := ?_)
  refine jj_istore_n (ls' := [some (jr 0), some (ji 0)]) dX7_init_91 (by decide) rfl rfl ?_
  refine L92 _ 0 _ (by decide) (iz_Kw hK8 (fun a b h _ => by omega)) hD8 (Nat.lt_succ_self _)
