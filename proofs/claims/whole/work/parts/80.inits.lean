theorem iz_po {a b ci : Nat} (h : jz_t a = .inl ci) (hr : jz_rfc (.inl ci) a b = none) (hx : jz_fxc (.inl ci) b = false) : jz_rf a b = none ∧ jz_fxc (jz_t a) b = false ∧ a ≠ 417 := by
  refine ⟨by unfold jz_rf; rw [h]; exact hr, by rw [h]; exact hx, fun e => ?_⟩
  rw [e, tt417] at h
  cases h
theorem iz_pa {a b t len : Nat} (h : jz_t a = .inr (t, len)) (ht : t ≤ 1) (h4 : a ≠ 417) : jz_rf a b = none ∧ jz_fxc (jz_t a) b = false ∧ a ≠ 417 := by
  refine ⟨?_, ?_, h4⟩
  · unfold jz_rf
    rw [h]
    match t, ht with
    | 0, _ => rfl
    | 1, _ => rfl
  · rw [h]; rfl
theorem iz_r {a b r ci : Nat} (h : jz_t a = .inl ci) (hr : jz_rfc (.inl ci) a b = some r) : jr r = jz_mk iz_s a b := (jz_mk_r (by unfold jz_rf; rw [h]; exact hr)).symm
theorem iz_ra {a b r t len : Nat} (h : jz_t a = .inr (t, len)) (hr : jz_rfc (.inr (t, len)) a b = some r) : jr r = jz_mk iz_s a b := (jz_mk_r (by unfold jz_rf; rw [h]; exact hr)).symm
theorem iz_ro {a b ci : Nat} (h : jz_t a = .inl ci) (hb : b < jz_f ci) : iz_rel a b := by
  unfold iz_rel
  rw [h]
  exact hb
set_option maxRecDepth 100000 in
set_option maxHeartbeats 4000000 in
theorem i_X0 (g : jz_G) {k0 : Nat} {V0 : jz_S} (hk : jz_t k0 = .inl 0) {z : Int} (hz : z = jz_nm k0) (hV : iz_D k0 V0) : iz_C g mX0_init k0 [ji z] V0 := by
  refine jz_K_of koX0_init (Nat.le_of_ble_eq_true rfl) ?_
  show jz_J g mX0_init (k0 + 1) (iz_Q mX0_init k0 V0) 0 [some (jr k0), some (ji z)] [] (k0 + 1) V0
  refine jj_aload_n dX0_init_0 rfl ?_
  refine jj_objInit dX0_init_1 kn_X0_3 kob1 kob2 (Nat.le_of_ble_eq_true rfl) (by decide) ?_
  refine jj_aload_n dX0_init_4 rfl ?_
  refine jj_iload_n dX0_init_5 rfl ?_
  refine jj_putf dX0_init_6 kw_X0_9 (fun _ => rfl) hk (by omega) trivial ?_
  refine jj_ret (v := none) dX0_init_9 rfl trivial rfl (fun _ => ⟨rfl, ?_, ?_, ?_⟩)
  · exact iz_Fup (fun _ _ => rfl) (Nat.le_refl _)
  · refine iz_Kup (D := fun a b => a = k0 ∧ b ≠ 0) (iz_Knew (D := fun _ _ => False) (fun _ _ h => h.elim) hV (fun a b h _ => Or.inr ?_)) ?_ (fun a b h _ => ?_)
    · obtain ⟨rfl, hb⟩ := h
      refine ⟨Nat.le_refl _, iz_po hk rfl ?_⟩
      match b, hb with
      | 0, hb => exact absurd rfl hb
      | b + 1, _ => rfl
    · rw [jz_mk_n (by unfold jz_rf; rw [hk]; rfl) (by rw [hk]; rfl), hz]
    · have h1 : k0 ≤ a ∧ a < k0 + 1 := h
      by_cases e : b = 0
      · exact Or.inr ⟨by omega, e⟩
      · exact Or.inl ⟨by omega, e⟩
  · exact iz_Dup (iz_Dw hV (by omega)) (by omega)
set_option maxRecDepth 100000 in
set_option maxHeartbeats 4000000 in
theorem i_X1 (g : jz_G) {k0 : Nat} {V0 : jz_S} (hk : jz_t k0 = .inl 1) {z : Int} (hz : z = jz_nm k0) (hV : iz_D k0 V0) : iz_C g mX1_init k0 [ji z] V0 := by
  refine jz_K_of koX1_init (Nat.le_of_ble_eq_true rfl) ?_
  show jz_J g mX1_init (k0 + 1) (iz_Q mX1_init k0 V0) 0 [some (jr k0), some (ji z)] [] (k0 + 1) V0
  refine jj_aload_n dX1_init_0 rfl ?_
  refine jj_objInit dX1_init_1 kn_X1_3 kob1 kob2 (Nat.le_of_ble_eq_true rfl) (by decide) ?_
  refine jj_aload_n dX1_init_4 rfl ?_
  refine jj_iload_n dX1_init_5 rfl ?_
  refine jj_putf dX1_init_6 kw_X1_9 (fun _ => rfl) hk (by omega) trivial ?_
  refine jj_ret (v := none) dX1_init_9 rfl trivial rfl (fun _ => ⟨rfl, ?_, ?_, ?_⟩)
  · exact iz_Fup (fun _ _ => rfl) (Nat.le_refl _)
  · refine iz_Kup (D := fun a b => a = k0 ∧ b ≠ 0) (iz_Knew (D := fun _ _ => False) (fun _ _ h => h.elim) hV (fun a b h _ => Or.inr ?_)) ?_ (fun a b h _ => ?_)
    · obtain ⟨rfl, hb⟩ := h
      refine ⟨Nat.le_refl _, iz_po hk rfl ?_⟩
      match b, hb with
      | 0, hb => exact absurd rfl hb
      | b + 1, _ => rfl
    · rw [jz_mk_n (by unfold jz_rf; rw [hk]; rfl) (by rw [hk]; rfl), hz]
    · have h1 : k0 ≤ a ∧ a < k0 + 1 := h
      by_cases e : b = 0
      · exact Or.inr ⟨by omega, e⟩
      · exact Or.inl ⟨by omega, e⟩
  · exact iz_Dup (iz_Dw hV (by omega)) (by omega)
set_option maxRecDepth 100000 in
set_option maxHeartbeats 4000000 in
theorem i_X2 (g : jz_G) {k0 : Nat} {V0 : jz_S} (hk : jz_t k0 = .inl 2) (hk2 : jz_t (k0 + 1) = .inr (0, 16)) (hV : iz_D k0 V0) : iz_C g mX2_init k0 [] V0 := by
  refine jz_K_of koX2_init (Nat.le_of_ble_eq_true rfl) ?_
  show jz_J g mX2_init (k0 + 1) (iz_Q mX2_init k0 V0) 0 [some (jr k0)] [] (k0 + 1) V0
  have h417 : k0 + 1 ≠ 417 := fun e => by
    have e2 : k0 = 416 := by omega
    rw [e2, tt416] at hk
    cases hk
  refine jj_aload_n dX2_init_0 rfl ?_
  refine jj_objInit dX2_init_1 kn_X2_3 kob1 kob2 (Nat.le_of_ble_eq_true rfl) (by decide) ?_
  refine jj_aload_n dX2_init_4 rfl ?_
  refine jj_bipush dX2_init_5 (kk := ?_)
  refine iz_newa0 dX2_init_7 hk2 rfl (by decide) (iz_Dw hV (by omega)) (Nat.le_refl _) ?_
  refine jj_putf dX2_init_9 kw_X2_9 (fun _ => rfl) hk (by omega) trivial ?_
  refine jj_ret (v := none) dX2_init_12 rfl trivial rfl (fun _ => ⟨rfl, ?_, ?_, ?_⟩)
  · exact iz_Fup (fun _ _ => rfl) (Nat.le_refl _)
  · refine iz_Kup (D := fun a b => (a = k0 ∧ b ≠ 0) ∨ a = k0 + 1) (iz_Knew (D := fun _ _ => False) (fun _ _ h => h.elim) hV (fun a b h _ => Or.inr ?_)) (iz_r hk rfl) (fun a b h _ => ?_)
    · rcases h with ⟨rfl, hb⟩ | rfl
      · exact ⟨Nat.le_refl _, iz_po hk (if_neg hb) rfl⟩
      · exact ⟨by omega, iz_pa hk2 (by decide) h417⟩
    · have h1 : k0 ≤ a ∧ a < k0 + 1 + 1 := h
      by_cases e : a = k0
      · by_cases e2 : b = 0
        · exact Or.inr ⟨e, e2⟩
        · exact Or.inl (Or.inl ⟨e, e2⟩)
      · exact Or.inl (Or.inr (by omega))
  · exact iz_Dup (iz_Dw hV (by omega)) (by omega)
set_option maxRecDepth 100000 in
set_option maxHeartbeats 4000000 in
theorem i_X4 (g : jz_G) {k0 : Nat} {V0 : jz_S} (hk : jz_t k0 = .inl 4) (hk2 : jz_t (k0 + 1) = .inr (0, 40)) (hV : iz_D k0 V0) : iz_C g mX4_init k0 [] V0 := by
  refine jz_K_of koX4_init (Nat.le_of_ble_eq_true rfl) ?_
  show jz_J g mX4_init (k0 + 1) (iz_Q mX4_init k0 V0) 0 [some (jr k0)] [] (k0 + 1) V0
  have h417 : k0 + 1 ≠ 417 := fun e => by
    have e2 : k0 = 416 := by omega
    rw [e2, tt416] at hk
    cases hk
  refine jj_aload_n dX4_init_0 rfl ?_
  refine jj_objInit dX4_init_1 kn_X4_3 kob1 kob2 (Nat.le_of_ble_eq_true rfl) (by decide) ?_
  refine jj_aload_n dX4_init_4 rfl ?_
  refine jj_bipush dX4_init_5 (kk := ?_)
  refine iz_newa0 dX4_init_7 hk2 rfl (by decide) (iz_Dw hV (by omega)) (Nat.le_refl _) ?_
  refine jj_putf dX4_init_9 kw_X4_9 (fun _ => rfl) hk (by omega) trivial ?_
  refine jj_ret (v := none) dX4_init_12 rfl trivial rfl (fun _ => ⟨rfl, ?_, ?_, ?_⟩)
  · exact iz_Fup (fun _ _ => rfl) (Nat.le_refl _)
  · refine iz_Kup (D := fun a b => (a = k0 ∧ b ≠ 0) ∨ a = k0 + 1) (iz_Knew (D := fun _ _ => False) (fun _ _ h => h.elim) hV (fun a b h _ => Or.inr ?_)) (iz_r hk rfl) (fun a b h _ => ?_)
    · rcases h with ⟨rfl, hb⟩ | rfl
      · exact ⟨Nat.le_refl _, iz_po hk (if_neg hb) rfl⟩
      · exact ⟨by omega, iz_pa hk2 (by decide) h417⟩
    · have h1 : k0 ≤ a ∧ a < k0 + 1 + 1 := h
      by_cases e : a = k0
      · by_cases e2 : b = 0
        · exact Or.inr ⟨e, e2⟩
        · exact Or.inl (Or.inl ⟨e, e2⟩)
      · exact Or.inl (Or.inr (by omega))
  · exact iz_Dup (iz_Dw hV (by omega)) (by omega)
set_option maxRecDepth 100000 in
set_option maxHeartbeats 4000000 in
theorem i_X6 (g : jz_G) {k0 : Nat} {V0 : jz_S} (hk : jz_t k0 = .inl 6) (hk2 : jz_t (k0 + 1) = .inr (0, 120)) (hV : iz_D k0 V0) : iz_C g mX6_init k0 [] V0 := by
  refine jz_K_of koX6_init (Nat.le_of_ble_eq_true rfl) ?_
  show jz_J g mX6_init (k0 + 1) (iz_Q mX6_init k0 V0) 0 [some (jr k0)] [] (k0 + 1) V0
  have h417 : k0 + 1 ≠ 417 := fun e => by
    have e2 : k0 = 416 := by omega
    rw [e2, tt416] at hk
    cases hk
  refine jj_aload_n dX6_init_0 rfl ?_
  refine jj_objInit dX6_init_1 kn_X6_3 kob1 kob2 (Nat.le_of_ble_eq_true rfl) (by decide) ?_
  refine jj_aload_n dX6_init_4 rfl ?_
  refine jj_bipush dX6_init_5 (kk := ?_)
  refine iz_newa0 dX6_init_7 hk2 rfl (by decide) (iz_Dw hV (by omega)) (Nat.le_refl _) ?_
  refine jj_putf dX6_init_9 kw_X6_9 (fun _ => rfl) hk (by omega) trivial ?_
  refine jj_ret (v := none) dX6_init_12 rfl trivial rfl (fun _ => ⟨rfl, ?_, ?_, ?_⟩)
  · exact iz_Fup (fun _ _ => rfl) (Nat.le_refl _)
  · refine iz_Kup (D := fun a b => (a = k0 ∧ b ≠ 0) ∨ a = k0 + 1) (iz_Knew (D := fun _ _ => False) (fun _ _ h => h.elim) hV (fun a b h _ => Or.inr ?_)) (iz_r hk rfl) (fun a b h _ => ?_)
    · rcases h with ⟨rfl, hb⟩ | rfl
      · exact ⟨Nat.le_refl _, iz_po hk (if_neg hb) rfl⟩
      · exact ⟨by omega, iz_pa hk2 (by decide) h417⟩
    · have h1 : k0 ≤ a ∧ a < k0 + 1 + 1 := h
      by_cases e : a = k0
      · by_cases e2 : b = 0
        · exact Or.inr ⟨e, e2⟩
        · exact Or.inl (Or.inl ⟨e, e2⟩)
      · exact Or.inl (Or.inr (by omega))
  · exact iz_Dup (iz_Dw hV (by omega)) (by omega)
theorem iz_nmL {k j : Nat} (h : jz_t k = .inl 5) (hj : j < 7) : (j : Int) = jz_nm (k + 3 + j) := (jz_nm_leaf h hj).symm
theorem iz_nmG {k j : Nat} (h : jz_t k = .inl 5) (hj : j < 4) : (j : Int) = jz_nm (k + 10 + j) := (jz_nm_goat h hj).symm
set_option maxRecDepth 100000 in
set_option maxHeartbeats 4000000 in
theorem i_X5 (g : jz_G) {k0 : Nat} {V0 : jz_S} (hk : jz_t k0 = .inl 5) (hV : iz_D k0 V0) : iz_C g mX5_init k0 [] V0 := by
  refine jz_K_of koX5_init (Nat.le_of_ble_eq_true rfl) ?_
  refine iz_pad 1 ?_
  show jz_J g mX5_init (k0 + 1) (iz_Q mX5_init k0 V0) 0 [some (jr k0), none] [] (k0 + 1) V0
  have h0 : jz_f 5 = 8 := rfl
  have L54 : ∀ (nn j : Nat) (V : jz_S), j ≤ 4 → iz_F k0 V0 V → iz_K (fun a b => a = k0 ∨ a = k0 + 1 ∨ (k0 + 3 ≤ a ∧ a < k0 + 10 + j) ∨ (a = k0 + 2 ∧ b < j)) V → iz_D (k0 + 10 + j) V → 4 - j < nn → jz_J g mX5_init (k0 + 1) (iz_Q mX5_init k0 V0) 54 [some (jr k0), some (ji (j : Int))] [] (k0 + 10 + j) V := by
    intro nn
    induction nn with
    | zero => intro j V _ _ _ _ hm; exact absurd hm (Nat.not_lt_zero _)
    | succ nn ih =>
      intro j V hj hF hK hD hm
      have hv0 : V k0 1 = jr (k0 + 2) := (hK k0 1 (Or.inl rfl) (iz_ro hk (by decide))).trans (iz_r hk rfl).symm
      refine jj_iload_n dX5_init_54 rfl ?_
      refine jj_aload_n dX5_init_55 rfl ?_
      refine jj_getf dX5_init_56 kf_X5_19 hk (by omega) hv0 ?_
      refine jj_alen dX5_init_59 (jz_t_sqG hk) (by decide) (by omega) rfl (by decide) ?_
      refine jj_icmp_ge (tgt := 83) dX5_init_60 (by decide) (fun hc => ?_) (fun hc => ?_)
      · have ej : j = 4 := by omega
        subst ej
        refine jj_ret (v := none) dX5_init_83 rfl trivial rfl (fun _ => ⟨rfl, hF, ?_, hD⟩)
        refine iz_Kw hK (fun a b h hr => ?_)
        have h1 : k0 ≤ a ∧ a < k0 + 10 + 4 := h
        by_cases e : a = k0 + 2
        · have hb := iz_relA (by rw [e]; exact jz_t_sqG hk) hr
          omega
        · omega
      · have hj4 : j < 4 := by omega
        have hkG := jz_t_goat hk hj4
        refine jj_aload_n dX5_init_63 rfl ?_
        refine jj_getf dX5_init_64 kf_X5_19 hk (by omega) hv0 ?_
        refine jj_iload_n dX5_init_67 rfl ?_
        refine iz_new0 dX5_init_68 kn_X5_17 hkG hD (by show k0 + 10 + j + 1 ≤ k0 + 1 + 13; omega) ?_
        refine jj_dup dX5_init_71 (kk := ?_)
        refine jj_iload_n dX5_init_72 rfl ?_
        refine iz_call (k := k0 + 10 + j) (av := [ji (j : Int)]) (st' := [jr (k0 + 10 + j), ji (j : Int), jr (k0 + 2)]) dX5_init_73 kn_X5_26 kmX0_init hkG rfl rfl (Nat.le_of_ble_eq_true rfl) (by decide) (by show k0 + 10 + j + 1 + 0 ≤ k0 + 1 + 13; omega) rfl (i_X0 g hkG (iz_nmG hk hj4) hD) (fun V' h1 h2 h3 => ?_)
        refine jj_aast dX5_init_76 (jz_t_sqG hk) (by decide) (by omega) (by omega) (by omega) hkG (by omega) rfl rfl ?_
        refine jj_iinc (ls' := [some (jr k0), some (ji ((j : Int) + 1))]) dX5_init_77 rfl (by decide) rfl (by omega) rfl ?_
        refine jj_goto (tgt := 54) dX5_init_80 (by decide) ?_
        refine ih (j + 1) _ (by omega) (iz_Fup (iz_Fcall hF h1 (by omega)) (by omega)) ?_ (iz_Dup h3 (by omega)) (by omega)
        refine iz_Kup (D := fun a b => a = k0 ∨ a = k0 + 1 ∨ (k0 + 3 ≤ a ∧ a < k0 + 10 + (j + 1)) ∨ (a = k0 + 2 ∧ b < j)) (iz_Kcall hK h1 h2 (fun a b h _ => ?_)) ?_ (fun a b h _ => ?_)
        · show _ ∨ (k0 + 10 + j ≤ a ∧ a < k0 + 10 + j + 1 + 0)
          omega
        · rw [show ((j : Int)).toNat = j by omega]
          exact iz_ra (jz_t_sqG hk) (by show some (k0 + 2 + 8 + j) = _; rw [show k0 + 2 + 8 + j = k0 + 10 + j by omega])
        · omega
  have L23 : ∀ (nn j : Nat) (V : jz_S), j ≤ 7 → iz_F k0 V0 V → iz_K (fun a b => a = k0 ∨ (k0 + 3 ≤ a ∧ a < k0 + 3 + j) ∨ (a = k0 + 1 ∧ b < j)) V → iz_D (k0 + 3 + j) V → 7 - j < nn → jz_J g mX5_init (k0 + 1) (iz_Q mX5_init k0 V0) 23 [some (jr k0), some (ji (j : Int))] [] (k0 + 3 + j) V := by
    intro nn
    induction nn with
    | zero => intro j V _ _ _ _ hm; exact absurd hm (Nat.not_lt_zero _)
    | succ nn ih =>
      intro j V hj hF hK hD hm
      have hv0 : V k0 0 = jr (k0 + 1) := (hK k0 0 (Or.inl rfl) (iz_ro hk (by decide))).trans (iz_r hk rfl).symm
      refine jj_iload_n dX5_init_23 rfl ?_
      refine jj_aload_n dX5_init_24 rfl ?_
      refine jj_getf dX5_init_25 kf_X5_11 hk (by omega) hv0 ?_
      refine jj_alen dX5_init_28 (jz_t_sqL hk) (by decide) (by omega) rfl (by decide) ?_
      refine jj_icmp_ge (tgt := 52) dX5_init_29 (by decide) (fun hc => ?_) (fun hc => ?_)
      · have ej : j = 7 := by omega
        subst ej
        refine jj_iconst dX5_init_52 (kk := ?_)
        refine jj_istore_n (ls' := [some (jr k0), some (ji 0)]) dX5_init_53 (by decide) rfl rfl ?_
        refine L54 _ 0 V (by decide) hF ?_ hD (Nat.lt_succ_self _)
        refine iz_Kw hK (fun a b h hr => ?_)
        by_cases e : a = k0 + 1
        · have hb := iz_relA (by rw [e]; exact jz_t_sqL hk) hr
          omega
        · omega
      · have hj7 : j < 7 := by omega
        have hkG := jz_t_leaf hk hj7
        refine jj_aload_n dX5_init_32 rfl ?_
        refine jj_getf dX5_init_33 kf_X5_11 hk (by omega) hv0 ?_
        refine jj_iload_n dX5_init_36 rfl ?_
        refine iz_new1 dX5_init_37 kn_X5_9 hkG hD (by show k0 + 3 + j + 1 ≤ k0 + 1 + 13; omega) ?_
        refine jj_dup dX5_init_40 (kk := ?_)
        refine jj_iload_n dX5_init_41 rfl ?_
        refine iz_call (k := k0 + 3 + j) (av := [ji (j : Int)]) (st' := [jr (k0 + 3 + j), ji (j : Int), jr (k0 + 1)]) dX5_init_42 kn_X5_23 kmX1_init hkG rfl rfl (Nat.le_of_ble_eq_true rfl) (by decide) (by show k0 + 3 + j + 1 + 0 ≤ k0 + 1 + 13; omega) rfl (i_X1 g hkG (iz_nmL hk hj7) hD) (fun V' h1 h2 h3 => ?_)
        refine jj_aast dX5_init_45 (jz_t_sqL hk) (by decide) (by omega) (by omega) (by omega) hkG (by omega) rfl rfl ?_
        refine jj_iinc (ls' := [some (jr k0), some (ji ((j : Int) + 1))]) dX5_init_46 rfl (by decide) rfl (by omega) rfl ?_
        refine jj_goto (tgt := 23) dX5_init_49 (by decide) ?_
        refine ih (j + 1) _ (by omega) (iz_Fup (iz_Fcall hF h1 (by omega)) (by omega)) ?_ (iz_Dup h3 (by omega)) (by omega)
        refine iz_Kup (D := fun a b => a = k0 ∨ (k0 + 3 ≤ a ∧ a < k0 + 3 + (j + 1)) ∨ (a = k0 + 1 ∧ b < j)) (iz_Kcall hK h1 h2 (fun a b h _ => ?_)) ?_ (fun a b h _ => ?_)
        · show _ ∨ (k0 + 3 + j ≤ a ∧ a < k0 + 3 + j + 1 + 0)
          omega
        · rw [show ((j : Int)).toNat = j by omega]
          exact iz_ra (jz_t_sqL hk) (by show some (k0 + 1 + 2 + j) = _; rw [show k0 + 1 + 2 + j = k0 + 3 + j by omega])
        · omega
  refine jj_aload_n dX5_init_0 rfl ?_
  refine jj_objInit dX5_init_1 kn_X5_3 kob1 kob2 (Nat.le_of_ble_eq_true rfl) (by decide) ?_
  refine jj_aload_n dX5_init_4 rfl ?_
  refine jj_bipush dX5_init_5 (kk := ?_)
  refine iz_anew2 dX5_init_7 kn_X5_9 (jz_t_sqL hk) rfl (by decide) (iz_Dw hV (by omega)) (by show k0 + 1 + 1 ≤ k0 + 1 + 13; omega) ?_
  refine jj_putf dX5_init_10 kw_X5_11 (fun _ => rfl) hk (by omega) trivial ?_
  refine jj_aload_n dX5_init_13 rfl ?_
  refine jj_iconst dX5_init_14 (kk := ?_)
  refine iz_anew3 dX5_init_15 kn_X5_17 (jz_t_sqG hk) rfl (by decide) (iz_Dup (iz_Dw hV (by omega)) (by omega)) (by show k0 + 2 + 1 ≤ k0 + 1 + 13; omega) ?_
  refine jj_putf dX5_init_18 kw_X5_19 (fun _ => rfl) hk (by omega) trivial ?_
  refine jj_iconst dX5_init_21 (kk := ?_)
  refine jj_istore_n (ls' := [some (jr k0), some (ji 0)]) dX5_init_22 (by decide) rfl rfl ?_
  refine L23 _ 0 _ (by decide) (iz_Fup (iz_Fup (fun _ _ => rfl) (Nat.le_refl _)) (Nat.le_refl _)) ?_ (iz_Dup (iz_Dup (iz_Dw hV (by omega)) (by omega)) (by omega)) (Nat.lt_succ_self _)
  refine iz_Kup (D := fun a b => a = k0 ∧ b ≠ 1) (iz_Kup (D := fun a b => a = k0 ∧ b ≠ 0 ∧ b ≠ 1) (iz_Knew (D := fun _ _ => False) (fun _ _ h => h.elim) hV (fun a b h _ => Or.inr ?_)) (iz_r hk rfl) (fun a b h _ => ?_)) (iz_r hk rfl) (fun a b h _ => ?_)
  · obtain ⟨rfl, hb, hb2⟩ := h
    exact ⟨Nat.le_refl _, iz_po hk (by show (if b = 0 then _ else if b = 1 then _ else _) = _; rw [if_neg hb, if_neg hb2]) rfl⟩
  · omega
  · omega
