set_option maxRecDepth 100000 in
set_option maxHeartbeats 4000000 in
theorem i_X8 (g : jz_G) {V0 : jz_S} (hV : iz_D 416 V0) : iz_C g mX8_init 416 [] V0 := by
  refine jz_K_of koX8_init (Nat.le_of_ble_eq_true rfl) ?_
  show jz_J g mX8_init 417 (iz_Q mX8_init 416 V0) 0 [some (jr 416)] [] 417 V0
  have hF : iz_F 416 V0 V0 := fun _ _ => rfl
  have hK0 : iz_K (fun a b => (a = 416 ∧ (b ≤ 1 ∨ b = 9 ∨ (11 ≤ b ∧ b ≤ 18) ∨ 24 ≤ b)) ∨ (418 ≤ a ∧ a < 430)) V0 := by
    refine iz_Knew (D := fun _ _ => False) (fun _ _ h => h.elim) hV (fun a b h hr => Or.inr ?_)
    rcases h with ⟨rfl, hb⟩ | ha
    · have hb2 : b < 25 := iz_relO tt416 hr
      refine ⟨Nat.le_refl _, iz_po tt416 ?_ rfl⟩
      match b, hb with
      | 0, _ => rfl
      | 1, _ => rfl
      | 2, hb => exact absurd hb (by decide)
      | 3, hb => exact absurd hb (by decide)
      | 4, hb => exact absurd hb (by decide)
      | 5, hb => exact absurd hb (by decide)
      | 6, hb => exact absurd hb (by decide)
      | 7, hb => exact absurd hb (by decide)
      | 8, hb => exact absurd hb (by decide)
      | 9, _ => rfl
      | 10, hb => exact absurd hb (by decide)
      | 11, _ => rfl
      | 12, _ => rfl
      | 13, _ => rfl
      | 14, _ => rfl
      | 15, _ => rfl
      | 16, _ => rfl
      | 17, _ => rfl
      | 18, _ => rfl
      | 19, hb => exact absurd hb (by decide)
      | 20, hb => exact absurd hb (by decide)
      | 21, hb => exact absurd hb (by decide)
      | 22, hb => exact absurd hb (by decide)
      | 23, hb => exact absurd hb (by decide)
      | 24, _ => rfl
      | b + 25, _ => omega
    · refine ⟨by omega, ?_⟩
      obtain ⟨c, rfl⟩ : ∃ c, a = 418 + c := ⟨a - 418, by omega⟩
      have hc : c < 12 := by omega
      match c, hc with
      | 0, _ => exact iz_pa tt418 (by decide) (by decide)
      | 1, _ => exact iz_pa tt419 (by decide) (by decide)
      | 2, _ => exact iz_pa tt420 (by decide) (by decide)
      | 3, _ => exact iz_pa tt421 (by decide) (by decide)
      | 4, _ => exact iz_pa tt422 (by decide) (by decide)
      | 5, _ => exact iz_pa tt423 (by decide) (by decide)
      | 6, _ => exact iz_pa tt424 (by decide) (by decide)
      | 7, _ => exact iz_pa tt425 (by decide) (by decide)
      | 8, _ => exact iz_pa tt426 (by decide) (by decide)
      | 9, _ => exact iz_pa tt427 (by decide) (by decide)
      | 10, _ => exact iz_pa tt428 (by decide) (by decide)
      | 11, _ => exact iz_pa tt429 (by decide) (by decide)
      | c + 12, hc => omega
  have hK1 : iz_K (fun a b => (a = 416 ∧ (b ≤ 1 ∨ b = 9 ∨ (11 ≤ b ∧ b ≤ 18) ∨ 24 ≤ b)) ∨ (a = 417 ∧ b < 0) ∨ (418 ≤ a ∧ a < 430)) V0 := iz_Kw hK0 (fun a b h _ => by omega)
  have hD1 : iz_D 417 V0 := iz_Dw hV (by omega)
  refine jj_aload_n dX8_init_0 rfl ?_
  refine jj_objInit dX8_init_1 kn_X8_1 kob1 kob2 (Nat.le_of_ble_eq_true rfl) (by decide) ?_
  refine jj_aload_n dX8_init_4 rfl ?_
  refine jj_bipush dX8_init_5 (kk := ?_)
  refine iz_newa0 dX8_init_7 tt417 rfl (by decide) hD1 (by decide) ?_
  have hE1 := iz_Dw hD1 (Nat.le_succ _)
  refine jj_dup dX8_init_9 (kk := ?_)
  refine jj_iconst dX8_init_10 (kk := ?_)
  refine jj_iconst dX8_init_11 (kk := ?_)
  refine jj_iast dX8_init_12 tt417 (by omega) (by decide) (by decide) ?_
  have hK2 : iz_K (fun a b => (a = 416 ∧ (b ≤ 1 ∨ b = 9 ∨ (11 ≤ b ∧ b ≤ 18) ∨ 24 ≤ b)) ∨ (a = 417 ∧ b < 1) ∨ (418 ≤ a ∧ a < 430)) (jz_up V0 417 (0 : Int).toNat (ji (-1))) := iz_Kup hK1 rfl (fun a b h _ => by omega)
  have hE2 := iz_Dup (k := 417) (i := (0 : Int).toNat) (v := ji (-1)) hE1 (by omega)
  have hF2 := iz_Fup (k := 417) (i := (0 : Int).toNat) (v := ji (-1)) hF (by omega)
  generalize jz_up V0 417 (0 : Int).toNat (ji (-1)) = W2 at hK2 hE2 hF2 ⊢
  clear hK1
  refine jj_dup dX8_init_13 (kk := ?_)
  refine jj_iconst dX8_init_14 (kk := ?_)
  refine jj_iconst dX8_init_15 (kk := ?_)
  refine jj_iast dX8_init_16 tt417 (by omega) (by decide) (by decide) ?_
  have hK3 : iz_K (fun a b => (a = 416 ∧ (b ≤ 1 ∨ b = 9 ∨ (11 ≤ b ∧ b ≤ 18) ∨ 24 ≤ b)) ∨ (a = 417 ∧ b < 2) ∨ (418 ≤ a ∧ a < 430)) (jz_up W2 417 (1 : Int).toNat (ji (-1))) := iz_Kup hK2 rfl (fun a b h _ => by omega)
  have hE3 := iz_Dup (k := 417) (i := (1 : Int).toNat) (v := ji (-1)) hE2 (by omega)
  have hF3 := iz_Fup (k := 417) (i := (1 : Int).toNat) (v := ji (-1)) hF2 (by omega)
  generalize jz_up W2 417 (1 : Int).toNat (ji (-1)) = W3 at hK3 hE3 hF3 ⊢
  clear hK2
  refine jj_dup dX8_init_17 (kk := ?_)
  refine jj_iconst dX8_init_18 (kk := ?_)
  refine jj_iconst dX8_init_19 (kk := ?_)
  refine jj_iast dX8_init_20 tt417 (by omega) (by decide) (by decide) ?_
  have hK4 : iz_K (fun a b => (a = 416 ∧ (b ≤ 1 ∨ b = 9 ∨ (11 ≤ b ∧ b ≤ 18) ∨ 24 ≤ b)) ∨ (a = 417 ∧ b < 3) ∨ (418 ≤ a ∧ a < 430)) (jz_up W3 417 (2 : Int).toNat (ji (-1))) := iz_Kup hK3 rfl (fun a b h _ => by omega)
  have hE4 := iz_Dup (k := 417) (i := (2 : Int).toNat) (v := ji (-1)) hE3 (by omega)
  have hF4 := iz_Fup (k := 417) (i := (2 : Int).toNat) (v := ji (-1)) hF3 (by omega)
  generalize jz_up W3 417 (2 : Int).toNat (ji (-1)) = W4 at hK4 hE4 hF4 ⊢
  clear hK3
  refine jj_dup dX8_init_21 (kk := ?_)
  refine jj_iconst dX8_init_22 (kk := ?_)
  refine jj_iconst dX8_init_23 (kk := ?_)
  refine jj_iast dX8_init_24 tt417 (by omega) (by decide) (by decide) ?_
  have hK5 : iz_K (fun a b => (a = 416 ∧ (b ≤ 1 ∨ b = 9 ∨ (11 ≤ b ∧ b ≤ 18) ∨ 24 ≤ b)) ∨ (a = 417 ∧ b < 4) ∨ (418 ≤ a ∧ a < 430)) (jz_up W4 417 (3 : Int).toNat (ji (-1))) := iz_Kup hK4 rfl (fun a b h _ => by omega)
  have hE5 := iz_Dup (k := 417) (i := (3 : Int).toNat) (v := ji (-1)) hE4 (by omega)
  have hF5 := iz_Fup (k := 417) (i := (3 : Int).toNat) (v := ji (-1)) hF4 (by omega)
  generalize jz_up W4 417 (3 : Int).toNat (ji (-1)) = W5 at hK5 hE5 hF5 ⊢
  clear hK4
  refine jj_dup dX8_init_25 (kk := ?_)
  refine jj_iconst dX8_init_26 (kk := ?_)
  refine jj_iconst dX8_init_27 (kk := ?_)
  refine jj_iast dX8_init_28 tt417 (by omega) (by decide) (by decide) ?_
  have hK6 : iz_K (fun a b => (a = 416 ∧ (b ≤ 1 ∨ b = 9 ∨ (11 ≤ b ∧ b ≤ 18) ∨ 24 ≤ b)) ∨ (a = 417 ∧ b < 5) ∨ (418 ≤ a ∧ a < 430)) (jz_up W5 417 (4 : Int).toNat (ji (-1))) := iz_Kup hK5 rfl (fun a b h _ => by omega)
  have hE6 := iz_Dup (k := 417) (i := (4 : Int).toNat) (v := ji (-1)) hE5 (by omega)
  have hF6 := iz_Fup (k := 417) (i := (4 : Int).toNat) (v := ji (-1)) hF5 (by omega)
  generalize jz_up W5 417 (4 : Int).toNat (ji (-1)) = W6 at hK6 hE6 hF6 ⊢
  clear hK5
  refine jj_dup dX8_init_29 (kk := ?_)
  refine jj_iconst dX8_init_30 (kk := ?_)
  refine jj_iconst dX8_init_31 (kk := ?_)
  refine jj_iast dX8_init_32 tt417 (by omega) (by decide) (by decide) ?_
  have hK7 : iz_K (fun a b => (a = 416 ∧ (b ≤ 1 ∨ b = 9 ∨ (11 ≤ b ∧ b ≤ 18) ∨ 24 ≤ b)) ∨ (a = 417 ∧ b < 6) ∨ (418 ≤ a ∧ a < 430)) (jz_up W6 417 (5 : Int).toNat (ji (-1))) := iz_Kup hK6 rfl (fun a b h _ => by omega)
  have hE7 := iz_Dup (k := 417) (i := (5 : Int).toNat) (v := ji (-1)) hE6 (by omega)
  have hF7 := iz_Fup (k := 417) (i := (5 : Int).toNat) (v := ji (-1)) hF6 (by omega)
  generalize jz_up W6 417 (5 : Int).toNat (ji (-1)) = W7 at hK7 hE7 hF7 ⊢
  clear hK6
  refine jj_dup dX8_init_33 (kk := ?_)
  refine jj_bipush dX8_init_34 (kk := ?_)
  refine jj_iconst dX8_init_36 (kk := ?_)
  refine jj_iast dX8_init_37 tt417 (by omega) (by decide) (by decide) ?_
  have hK8 : iz_K (fun a b => (a = 416 ∧ (b ≤ 1 ∨ b = 9 ∨ (11 ≤ b ∧ b ≤ 18) ∨ 24 ≤ b)) ∨ (a = 417 ∧ b < 7) ∨ (418 ≤ a ∧ a < 430)) (jz_up W7 417 (6 : Int).toNat (ji (-1))) := iz_Kup hK7 rfl (fun a b h _ => by omega)
  have hE8 := iz_Dup (k := 417) (i := (6 : Int).toNat) (v := ji (-1)) hE7 (by omega)
  have hF8 := iz_Fup (k := 417) (i := (6 : Int).toNat) (v := ji (-1)) hF7 (by omega)
  generalize jz_up W7 417 (6 : Int).toNat (ji (-1)) = W8 at hK8 hE8 hF8 ⊢
  clear hK7
  refine jj_dup dX8_init_38 (kk := ?_)
  refine jj_bipush dX8_init_39 (kk := ?_)
  refine jj_iconst dX8_init_41 (kk := ?_)
  refine jj_iast dX8_init_42 tt417 (by omega) (by decide) (by decide) ?_
  have hK9 : iz_K (fun a b => (a = 416 ∧ (b ≤ 1 ∨ b = 9 ∨ (11 ≤ b ∧ b ≤ 18) ∨ 24 ≤ b)) ∨ (a = 417 ∧ b < 8) ∨ (418 ≤ a ∧ a < 430)) (jz_up W8 417 (7 : Int).toNat (ji (-1))) := iz_Kup hK8 rfl (fun a b h _ => by omega)
  have hE9 := iz_Dup (k := 417) (i := (7 : Int).toNat) (v := ji (-1)) hE8 (by omega)
  have hF9 := iz_Fup (k := 417) (i := (7 : Int).toNat) (v := ji (-1)) hF8 (by omega)
  generalize jz_up W8 417 (7 : Int).toNat (ji (-1)) = W9 at hK9 hE9 hF9 ⊢
  clear hK8
  refine jj_putf dX8_init_43 kw_X8_7 (fun _ => rfl) tt416 (by omega) trivial ?_
  have hK10 : iz_K (fun a b => (a = 416 ∧ (b ≤ 2 ∨ b = 9 ∨ (11 ≤ b ∧ b ≤ 18) ∨ 24 ≤ b)) ∨ (a = 417 ∧ b < 8) ∨ (418 ≤ a ∧ a < 430)) (jz_up W9 416 2 (jr 417)) := iz_Kup hK9 (iz_r tt416 rfl) (fun a b h _ => by omega)
  have hD10 := iz_Dup (k := 416) (i := 2) (v := jr 417) hE9 (by omega)
  have hF10 := iz_Fup (k := 416) (i := 2) (v := jr 417) hF9 (by omega)
  generalize jz_up W9 416 2 (jr 417) = W10 at hK10 hD10 hF10 ⊢
  clear hK9
  refine jj_aload_n dX8_init_46 rfl ?_
  refine jj_bipush dX8_init_47 (kk := ?_)
  refine iz_newa0 dX8_init_49 tt418 rfl (by decide) hD10 (by decide) ?_
  have hE10 := iz_Dw hD10 (Nat.le_succ _)
  refine jj_putf dX8_init_51 kw_X8_13 (fun _ => rfl) tt416 (by omega) trivial ?_
  have hK11 : iz_K (fun a b => (a = 416 ∧ (b ≤ 3 ∨ b = 9 ∨ (11 ≤ b ∧ b ≤ 18) ∨ 24 ≤ b)) ∨ (a = 417 ∧ b < 8) ∨ (418 ≤ a ∧ a < 430)) (jz_up W10 416 3 (jr 418)) := iz_Kup hK10 (iz_r tt416 rfl) (fun a b h _ => by omega)
  have hD11 := iz_Dup (k := 416) (i := 3) (v := jr 418) hE10 (by omega)
  have hF11 := iz_Fup (k := 416) (i := 3) (v := jr 418) hF10 (by omega)
  generalize jz_up W10 416 3 (jr 418) = W11 at hK11 hD11 hF11 ⊢
  clear hK10
  refine jj_aload_n dX8_init_54 rfl ?_
  refine jj_sipush dX8_init_55 (kk := ?_)
  refine iz_newa0 dX8_init_58 tt419 rfl (by decide) hD11 (by decide) ?_
  have hE11 := iz_Dw hD11 (Nat.le_succ _)
  refine jj_putf dX8_init_60 kw_X8_16 (fun _ => rfl) tt416 (by omega) trivial ?_
  have hK12 : iz_K (fun a b => (a = 416 ∧ (b ≤ 4 ∨ b = 9 ∨ (11 ≤ b ∧ b ≤ 18) ∨ 24 ≤ b)) ∨ (a = 417 ∧ b < 8) ∨ (418 ≤ a ∧ a < 430)) (jz_up W11 416 4 (jr 419)) := iz_Kup hK11 (iz_r tt416 rfl) (fun a b h _ => by omega)
  have hD12 := iz_Dup (k := 416) (i := 4) (v := jr 419) hE11 (by omega)
  have hF12 := iz_Fup (k := 416) (i := 4) (v := jr 419) hF11 (by omega)
  generalize jz_up W11 416 4 (jr 419) = W12 at hK12 hD12 hF12 ⊢
  clear hK11
  refine jj_aload_n dX8_init_63 rfl ?_
  refine jj_bipush dX8_init_64 (kk := ?_)
  refine iz_newa0 dX8_init_66 tt420 rfl (by decide) hD12 (by decide) ?_
  have hE12 := iz_Dw hD12 (Nat.le_succ _)
  refine jj_putf dX8_init_68 kw_X8_19 (fun _ => rfl) tt416 (by omega) trivial ?_
  have hK13 : iz_K (fun a b => (a = 416 ∧ (b ≤ 5 ∨ b = 9 ∨ (11 ≤ b ∧ b ≤ 18) ∨ 24 ≤ b)) ∨ (a = 417 ∧ b < 8) ∨ (418 ≤ a ∧ a < 430)) (jz_up W12 416 5 (jr 420)) := iz_Kup hK12 (iz_r tt416 rfl) (fun a b h _ => by omega)
  have hD13 := iz_Dup (k := 416) (i := 5) (v := jr 420) hE12 (by omega)
  have hF13 := iz_Fup (k := 416) (i := 5) (v := jr 420) hF12 (by omega)
  generalize jz_up W12 416 5 (jr 420) = W13 at hK13 hD13 hF13 ⊢
  clear hK12
  refine jj_aload_n dX8_init_71 rfl ?_
  refine jj_bipush dX8_init_72 (kk := ?_)
  refine iz_newa0 dX8_init_74 tt421 rfl (by decide) hD13 (by decide) ?_
  have hE13 := iz_Dw hD13 (Nat.le_succ _)
  refine jj_putf dX8_init_76 kw_X8_22 (fun _ => rfl) tt416 (by omega) trivial ?_
  have hK14 : iz_K (fun a b => (a = 416 ∧ (b ≤ 6 ∨ b = 9 ∨ (11 ≤ b ∧ b ≤ 18) ∨ 24 ≤ b)) ∨ (a = 417 ∧ b < 8) ∨ (418 ≤ a ∧ a < 430)) (jz_up W13 416 6 (jr 421)) := iz_Kup hK13 (iz_r tt416 rfl) (fun a b h _ => by omega)
  have hD14 := iz_Dup (k := 416) (i := 6) (v := jr 421) hE13 (by omega)
  have hF14 := iz_Fup (k := 416) (i := 6) (v := jr 421) hF13 (by omega)
  generalize jz_up W13 416 6 (jr 421) = W14 at hK14 hD14 hF14 ⊢
  clear hK13
  refine jj_aload_n dX8_init_79 rfl ?_
  refine jj_bipush dX8_init_80 (kk := ?_)
  refine iz_newa0 dX8_init_82 tt422 rfl (by decide) hD14 (by decide) ?_
  have hE14 := iz_Dw hD14 (Nat.le_succ _)
  refine jj_putf dX8_init_84 kw_X8_25 (fun _ => rfl) tt416 (by omega) trivial ?_
  have hK15 : iz_K (fun a b => (a = 416 ∧ (b ≤ 7 ∨ b = 9 ∨ (11 ≤ b ∧ b ≤ 18) ∨ 24 ≤ b)) ∨ (a = 417 ∧ b < 8) ∨ (418 ≤ a ∧ a < 430)) (jz_up W14 416 7 (jr 422)) := iz_Kup hK14 (iz_r tt416 rfl) (fun a b h _ => by omega)
  have hD15 := iz_Dup (k := 416) (i := 7) (v := jr 422) hE14 (by omega)
  have hF15 := iz_Fup (k := 416) (i := 7) (v := jr 422) hF14 (by omega)
  generalize jz_up W14 416 7 (jr 422) = W15 at hK15 hD15 hF15 ⊢
  clear hK14
  refine jj_aload_n dX8_init_87 rfl ?_
  refine jj_sipush dX8_init_88 (kk := ?_)
  refine iz_newa0 dX8_init_91 tt423 rfl (by decide) hD15 (by decide) ?_
  have hE15 := iz_Dw hD15 (Nat.le_succ _)
  refine jj_putf dX8_init_93 kw_X8_28 (fun _ => rfl) tt416 (by omega) trivial ?_
  have hK16 : iz_K (fun a b => (a = 416 ∧ (b ≤ 8 ∨ b = 9 ∨ (11 ≤ b ∧ b ≤ 18) ∨ 24 ≤ b)) ∨ (a = 417 ∧ b < 8) ∨ (418 ≤ a ∧ a < 430)) (jz_up W15 416 8 (jr 423)) := iz_Kup hK15 (iz_r tt416 rfl) (fun a b h _ => by omega)
  have hD16 := iz_Dup (k := 416) (i := 8) (v := jr 423) hE15 (by omega)
  have hF16 := iz_Fup (k := 416) (i := 8) (v := jr 423) hF15 (by omega)
  generalize jz_up W15 416 8 (jr 423) = W16 at hK16 hD16 hF16 ⊢
  clear hK15
  refine jj_aload_n dX8_init_96 rfl ?_
  refine jj_bipush dX8_init_97 (kk := ?_)
  refine iz_newa0 dX8_init_99 tt424 rfl (by decide) hD16 (by decide) ?_
  have hE16 := iz_Dw hD16 (Nat.le_succ _)
  refine jj_putf dX8_init_101 kw_X8_31 (fun _ => rfl) tt416 (by omega) trivial ?_
  have hK17 : iz_K (fun a b => (a = 416 ∧ (b ≤ 10 ∨ b = 9 ∨ (11 ≤ b ∧ b ≤ 18) ∨ 24 ≤ b)) ∨ (a = 417 ∧ b < 8) ∨ (418 ≤ a ∧ a < 430)) (jz_up W16 416 10 (jr 424)) := iz_Kup hK16 (iz_r tt416 rfl) (fun a b h _ => by omega)
  have hD17 := iz_Dup (k := 416) (i := 10) (v := jr 424) hE16 (by omega)
  have hF17 := iz_Fup (k := 416) (i := 10) (v := jr 424) hF16 (by omega)
  generalize jz_up W16 416 10 (jr 424) = W17 at hK17 hD17 hF17 ⊢
  clear hK16
  refine jj_aload_n dX8_init_104 rfl ?_
  refine jj_iconst dX8_init_105 (kk := ?_)
  refine iz_newa0 dX8_init_106 tt425 rfl (by decide) hD17 (by decide) ?_
  have hE17 := iz_Dw hD17 (Nat.le_succ _)
  refine jj_putf dX8_init_108 kw_X8_34 (fun _ => rfl) tt416 (by omega) trivial ?_
  have hK18 : iz_K (fun a b => (a = 416 ∧ (b ≤ 19 ∨ b = 9 ∨ (11 ≤ b ∧ b ≤ 18) ∨ 24 ≤ b)) ∨ (a = 417 ∧ b < 8) ∨ (418 ≤ a ∧ a < 430)) (jz_up W17 416 19 (jr 425)) := iz_Kup hK17 (iz_r tt416 rfl) (fun a b h _ => by omega)
  have hD18 := iz_Dup (k := 416) (i := 19) (v := jr 425) hE17 (by omega)
  have hF18 := iz_Fup (k := 416) (i := 19) (v := jr 425) hF17 (by omega)
  generalize jz_up W17 416 19 (jr 425) = W18 at hK18 hD18 hF18 ⊢
  clear hK17
  refine jj_aload_n dX8_init_111 rfl ?_
  refine jj_iconst dX8_init_112 (kk := ?_)
  refine iz_newa0 dX8_init_113 tt426 rfl (by decide) hD18 (by decide) ?_
  have hE18 := iz_Dw hD18 (Nat.le_succ _)
  refine jj_putf dX8_init_115 kw_X8_37 (fun _ => rfl) tt416 (by omega) trivial ?_
  have hK19 : iz_K (fun a b => (a = 416 ∧ (b ≤ 20 ∨ b = 9 ∨ (11 ≤ b ∧ b ≤ 18) ∨ 24 ≤ b)) ∨ (a = 417 ∧ b < 8) ∨ (418 ≤ a ∧ a < 430)) (jz_up W18 416 20 (jr 426)) := iz_Kup hK18 (iz_r tt416 rfl) (fun a b h _ => by omega)
  have hD19 := iz_Dup (k := 416) (i := 20) (v := jr 426) hE18 (by omega)
  have hF19 := iz_Fup (k := 416) (i := 20) (v := jr 426) hF18 (by omega)
  generalize jz_up W18 416 20 (jr 426) = W19 at hK19 hD19 hF19 ⊢
  clear hK18
  refine jj_aload_n dX8_init_118 rfl ?_
  refine jj_iconst dX8_init_119 (kk := ?_)
  refine iz_newa1 dX8_init_120 tt427 rfl (by decide) hD19 (by decide) ?_
  have hE19 := iz_Dw hD19 (Nat.le_succ _)
  refine jj_putf dX8_init_122 kw_X8_40 (fun _ => rfl) tt416 (by omega) trivial ?_
  have hK20 : iz_K (fun a b => (a = 416 ∧ (b ≤ 21 ∨ b = 9 ∨ (11 ≤ b ∧ b ≤ 18) ∨ 24 ≤ b)) ∨ (a = 417 ∧ b < 8) ∨ (418 ≤ a ∧ a < 430)) (jz_up W19 416 21 (jr 427)) := iz_Kup hK19 (iz_r tt416 rfl) (fun a b h _ => by omega)
  have hD20 := iz_Dup (k := 416) (i := 21) (v := jr 427) hE19 (by omega)
  have hF20 := iz_Fup (k := 416) (i := 21) (v := jr 427) hF19 (by omega)
  generalize jz_up W19 416 21 (jr 427) = W20 at hK20 hD20 hF20 ⊢
  clear hK19
  refine jj_aload_n dX8_init_125 rfl ?_
  refine jj_bipush dX8_init_126 (kk := ?_)
  refine iz_newa0 dX8_init_128 tt428 rfl (by decide) hD20 (by decide) ?_
  have hE20 := iz_Dw hD20 (Nat.le_succ _)
  refine jj_putf dX8_init_130 kw_X8_44 (fun _ => rfl) tt416 (by omega) trivial ?_
  have hK21 : iz_K (fun a b => (a = 416 ∧ (b ≤ 22 ∨ b = 9 ∨ (11 ≤ b ∧ b ≤ 18) ∨ 24 ≤ b)) ∨ (a = 417 ∧ b < 8) ∨ (418 ≤ a ∧ a < 430)) (jz_up W20 416 22 (jr 428)) := iz_Kup hK20 (iz_r tt416 rfl) (fun a b h _ => by omega)
  have hD21 := iz_Dup (k := 416) (i := 22) (v := jr 428) hE20 (by omega)
  have hF21 := iz_Fup (k := 416) (i := 22) (v := jr 428) hF20 (by omega)
  generalize jz_up W20 416 22 (jr 428) = W21 at hK21 hD21 hF21 ⊢
  clear hK20
  refine jj_aload_n dX8_init_133 rfl ?_
  refine jj_bipush dX8_init_134 (kk := ?_)
  refine iz_newa0 dX8_init_136 tt429 rfl (by decide) hD21 (by decide) ?_
  have hE21 := iz_Dw hD21 (Nat.le_succ _)
  refine jj_putf dX8_init_138 kw_X8_47 (fun _ => rfl) tt416 (by omega) trivial ?_
  have hK22 : iz_K (fun a b => (a = 416 ∧ (b ≤ 23 ∨ b = 9 ∨ (11 ≤ b ∧ b ≤ 18) ∨ 24 ≤ b)) ∨ (a = 417 ∧ b < 8) ∨ (418 ≤ a ∧ a < 430)) (jz_up W21 416 23 (jr 429)) := iz_Kup hK21 (iz_r tt416 rfl) (fun a b h _ => by omega)
  have hD22 := iz_Dup (k := 416) (i := 23) (v := jr 429) hE21 (by omega)
  have hF22 := iz_Fup (k := 416) (i := 23) (v := jr 429) hF21 (by omega)
  generalize jz_up W21 416 23 (jr 429) = W22 at hK22 hD22 hF22 ⊢
  clear hK21
  refine jj_ret (v := none) dX8_init_141 rfl trivial rfl (fun _ => ⟨rfl, hF22, ?_, hD22⟩)
  refine iz_Kw hK22 (fun a b h hr => ?_)
  have h1 : 416 ≤ a ∧ a < 430 := h
  by_cases e : a = 417
  · have hb := iz_relA (by rw [e]; exact tt417) hr
    omega
  · omega

