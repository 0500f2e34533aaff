set_option maxRecDepth 100000 in
set_option maxHeartbeats 4000000 in
theorem c_X8_isThere (g : jz_G) (s : jz_St)  : jz_C g mX8_isThere [jr (416)] s (jq_ie (if s 420 0 = 1 then 1 else 0) s) := by
  refine zz_C_of koX8_isThere rfl (Nat.le_of_ble_eq_true rfl) ?_
  refine zz_pad 0 ?_
  show jz_Z g mX8_isThere (jq_ie (if s 420 0 = 1 then 1 else 0) s) 0 [some (jr (416))] [] s
  refine jj_aload_n dX8_isThere_0 rfl ?_
  refine zz_getR dX8_isThere_1 kf_X8_19 tt416 rfl ?_
  refine jj_iconst dX8_isThere_4 (kk := ?_)
  refine zz_ialdN (j := 0) dX8_isThere_5 tt420 (by omega) (by omega) ?_
  refine jj_iconst dX8_isThere_6 (kk := ?_)
  refine jj_icmp_ne (tgt := 14) dX8_isThere_7 (by decide) (fun h7 => ?_) (fun h7 => ?_)
  · refine jj_iconst dX8_isThere_14 (kk := ?_)
    refine zz_retze dX8_isThere_15 rfl (by first | exact Or.inl rfl | exact Or.inr rfl) (by decide) ?_ ?_
    · first | (rw [if_pos (by omega)]; done) | (rw [if_neg (by omega)]; done)
    · rfl
  · refine jj_iconst dX8_isThere_10 (kk := ?_)
    refine jj_goto (tgt := 15) dX8_isThere_11 (by decide) ?_
    refine zz_retze dX8_isThere_15 rfl (by first | exact Or.inl rfl | exact Or.inr rfl) (by decide) ?_ ?_
    · first | (rw [if_pos (by omega)]; done) | (rw [if_neg (by omega)]; done)
    · rfl

set_option maxRecDepth 100000 in
set_option maxHeartbeats 4000000 in
theorem c_X8_isLeaf (g : jz_G) (s : jz_St) (l : Int) (hq : 0 ≤ s 420 3 ∧ s 420 3 ≤ 7) : jz_C g mX8_isLeaf [jr (416), ji (l)] s (jq_ie (if 0 ≤ l ∧ l ≤ s 420 3 - 1 then 1 else 0) s) := by
  refine zz_C_of koX8_isLeaf rfl (Nat.le_of_ble_eq_true rfl) ?_
  refine zz_pad 0 ?_
  show jz_Z g mX8_isLeaf (jq_ie (if 0 ≤ l ∧ l ≤ s 420 3 - 1 then 1 else 0) s) 0 [some (jr (416)), some (ji (l))] [] s
  refine jj_iload_n dX8_isLeaf_0 rfl ?_
  refine jj_i2l dX8_isLeaf_1 ?_
  refine jj_lconst (z := 0) dX8_isLeaf_2 (kk := ?_)
  refine jj_aload_n dX8_isLeaf_3 rfl ?_
  refine zz_getR dX8_isLeaf_4 kf_X8_19 tt416 rfl ?_
  refine jj_iconst dX8_isLeaf_7 (kk := ?_)
  refine zz_ialdN (j := 3) dX8_isLeaf_8 tt420 (by omega) (by omega) ?_
  refine jj_iconst dX8_isLeaf_9 (kk := ?_)
  refine jj_isub dX8_isLeaf_10 (by omega) ?_
  refine jj_i2l dX8_isLeaf_11 ?_
  refine zz_cSi (av := [jl (l), jl (0), jl ((s 420 3) - 1)]) (st' := []) dX8_isLeaf_12 kn_X8_60 kmX8_in rfl rfl (Nat.le_of_ble_eq_true rfl) (by decide) rfl (c_X8_in g s l 0 ((s 420 3) - 1)) (fun hr12 ho12 => ?_)
  refine zz_retze dX8_isLeaf_15 rfl (by split <;> simp) (by decide) ?_ ?_
  · rfl
  · rfl

set_option maxRecDepth 100000 in
set_option maxHeartbeats 4000000 in
theorem c_X8_isGoat (g : jz_G) (s : jz_St) (c : Int) (hq : 0 ≤ s 420 4 ∧ s 420 4 ≤ 4) : jz_C g mX8_isGoat [jr (416), ji (c)] s (jq_ie (if 0 ≤ c ∧ c ≤ s 420 4 - 1 then 1 else 0) s) := by
  refine zz_C_of koX8_isGoat rfl (Nat.le_of_ble_eq_true rfl) ?_
  refine zz_pad 0 ?_
  show jz_Z g mX8_isGoat (jq_ie (if 0 ≤ c ∧ c ≤ s 420 4 - 1 then 1 else 0) s) 0 [some (jr (416)), some (ji (c))] [] s
  refine jj_iload_n dX8_isGoat_0 rfl ?_
  refine jj_i2l dX8_isGoat_1 ?_
  refine jj_lconst (z := 0) dX8_isGoat_2 (kk := ?_)
  refine jj_aload_n dX8_isGoat_3 rfl ?_
  refine zz_getR dX8_isGoat_4 kf_X8_19 tt416 rfl ?_
  refine jj_iconst dX8_isGoat_7 (kk := ?_)
  refine zz_ialdN (j := 4) dX8_isGoat_8 tt420 (by omega) (by omega) ?_
  refine jj_iconst dX8_isGoat_9 (kk := ?_)
  refine jj_isub dX8_isGoat_10 (by omega) ?_
  refine jj_i2l dX8_isGoat_11 ?_
  refine zz_cSi (av := [jl (c), jl (0), jl ((s 420 4) - 1)]) (st' := []) dX8_isGoat_12 kn_X8_60 kmX8_in rfl rfl (Nat.le_of_ble_eq_true rfl) (by decide) rfl (c_X8_in g s c 0 ((s 420 4) - 1)) (fun hr12 ho12 => ?_)
  refine zz_retze dX8_isGoat_15 rfl (by split <;> simp) (by decide) ?_ ?_
  · rfl
  · rfl

theorem shl_7 : ∀ n : Nat, n ≤ 7 → jshl 1 (n : Int) = ((2 ^ n : Nat) : Int) := by decide +kernel
theorem shl_r {z : Int} (h : 0 ≤ z ∧ z ≤ 7) : 1 ≤ jshl 1 z ∧ jshl 1 z ≤ 128 := by
  have h1 := shl_7 z.toNat (by omega)
  rw [show ((z.toNat : Nat) : Int) = z by omega] at h1
  have hp7 : 2 ^ z.toNat ≤ 2 ^ 7 := Nat.pow_le_pow_right (by decide) (by omega)
  have hp0 : 0 < 2 ^ z.toNat := Nat.pow_pos (by decide)
  omega
set_option maxRecDepth 100000 in
set_option maxHeartbeats 4000000 in
theorem c_X8_areLeaves (g : jz_G) (s : jz_St) (z : Int) (hq : 0 ≤ s 420 3 ∧ s 420 3 ≤ 7) : jz_C g mX8_areLeaves [jr (416), ji (z)] s (jq_ie (if 0 ≤ z ∧ z ≤ jshl 1 (s 420 3) - 1 then 1 else 0) s) := by
  refine zz_C_of koX8_areLeaves rfl (Nat.le_of_ble_eq_true rfl) ?_
  refine zz_pad 0 ?_
  show jz_Z g mX8_areLeaves (jq_ie (if 0 ≤ z ∧ z ≤ jshl 1 (s 420 3) - 1 then 1 else 0) s) 0 [some (jr (416)), some (ji (z))] [] s
  refine jj_iload_n dX8_areLeaves_0 rfl ?_
  refine jj_i2l dX8_areLeaves_1 ?_
  refine jj_lconst (z := 0) dX8_areLeaves_2 (kk := ?_)
  refine jj_iconst dX8_areLeaves_3 (kk := ?_)
  refine jj_aload_n dX8_areLeaves_4 rfl ?_
  refine zz_getR dX8_areLeaves_5 kf_X8_19 tt416 rfl ?_
  refine jj_iconst dX8_areLeaves_8 (kk := ?_)
  refine zz_ialdN (j := 3) dX8_areLeaves_9 tt420 (by omega) (by omega) ?_
  refine jj_ishl dX8_areLeaves_10 ?_
  refine jj_iconst dX8_areLeaves_11 (kk := ?_)
  refine jj_isub dX8_areLeaves_12 (by have := shl_r hq; omega) ?_
  refine jj_i2l dX8_areLeaves_13 ?_
  refine zz_cSi (av := [jl (z), jl (0), jl ((jshl (1) (s 420 3)) - 1)]) (st' := []) dX8_areLeaves_14 kn_X8_60 kmX8_in rfl rfl (Nat.le_of_ble_eq_true rfl) (by decide) rfl (c_X8_in g s z 0 ((jshl (1) (s 420 3)) - 1)) (fun hr14 ho14 => ?_)
  refine zz_retze dX8_areLeaves_17 rfl (by split <;> simp) (by decide) ?_ ?_
  · rfl
  · rfl

set_option maxRecDepth 100000 in
set_option maxHeartbeats 4000000 in
theorem c_X8_bits (g : jz_G) (s : jz_St) (z : Nat) (zi : Int) (hz : zi = z) (h : z < 128) : jz_C g mX8_bits [ji (zi)] s (jq_ie (fBC z) s) := by
  refine zz_C_of koX8_bits rfl (Nat.le_of_ble_eq_true rfl) ?_
  refine zz_pad 2 ?_
  show jz_Z g mX8_bits (jq_ie (fBC z) s) 0 [some (ji (zi)), none, none] [] s
  refine jj_iconst dX8_bits_0 (kk := ?_)
  refine jj_istore_n (ls' := [some (ji (zi)), some (ji (0)), none]) dX8_bits_1 (by decide) rfl rfl ?_
  refine jj_iconst dX8_bits_2 (kk := ?_)
  refine jj_istore_n (ls' := [some (ji (zi)), some (ji (0)), some (ji (0))]) dX8_bits_3 (by decide) rfl rfl ?_
  have L4 : ∀ (nn : Nat) (j : Nat) (hh4_0 : j ≤ 7), 7 - j < nn → jz_Z g mX8_bits (jq_ie (fBC z) s) 4 [some (ji (zi)), some (ji (rBt zi j)), some (ji ((j : Int)))] [] s := by
    intro nn
    induction nn with
    | zero => intro j hh4_0 hmz; exact absurd hmz (Nat.not_lt_zero _)
    | succ nn ih4 =>
      intro j hh4_0 hm4
      refine jj_iload_n dX8_bits_4 rfl ?_
      refine jj_bipush dX8_bits_5 (kk := ?_)
      refine jj_icmp_ge (tgt := 24) dX8_bits_7 (by decide) (fun h7 => ?_) (fun h7 => ?_)
      · obtain rfl : j = 7 := (by omega)
        refine jj_iload_n dX8_bits_24 rfl ?_
        refine zz_retie dX8_bits_25 rfl (by decide) ?_ ?_
        · rw [hz]; exact rBt_7 z h
        · rfl
      · refine jj_iload_n dX8_bits_10 rfl ?_
        refine jj_iload_n dX8_bits_11 rfl ?_
        refine jj_iload_n dX8_bits_12 rfl ?_
        refine jj_ishr dX8_bits_13 ?_
        refine jj_iconst dX8_bits_14 (kk := ?_)
        refine jj_iand dX8_bits_15 ?_
        refine jj_iadd dX8_bits_16 (by have h1 := rBt_rng z h j (by omega); have h2 := bit01 z h j (by omega); rw [← hz] at h1 h2; omega) ?_
        refine jj_istore_n (ls' := [some (ji (zi)), some (ji ((rBt zi j) + (jand (jshr (zi) ((j : Int))) (1)))), some (ji ((j : Int)))]) dX8_bits_17 (by decide) rfl rfl ?_
        refine jj_iinc (ls' := [some (ji (zi)), some (ji ((rBt zi j) + (jand (jshr (zi) ((j : Int))) (1)))), some (ji ((j : Int) + 1))]) dX8_bits_18 rfl (by decide) rfl (by omega) rfl ?_
        refine jj_goto (tgt := 4) dX8_bits_21 (by decide) ?_
        exact ih4 (j + 1) (by first | assumption | omega) (by omega)
  exact L4 _ 0 (by first | assumption | omega) (Nat.lt_succ_self _)

set_option maxRecDepth 100000 in
set_option maxHeartbeats 4000000 in
theorem c_X8_has (g : jz_G) (s : jz_St) (z k : Int) : jz_C g mX8_has [ji (z), ji (k)] s (jq_ie (if jand (jshr z k) 1 = 1 then 1 else 0) s) := by
  refine zz_C_of koX8_has rfl (Nat.le_of_ble_eq_true rfl) ?_
  refine zz_pad 0 ?_
  show jz_Z g mX8_has (jq_ie (if jand (jshr z k) 1 = 1 then 1 else 0) s) 0 [some (ji (z)), some (ji (k))] [] s
  refine jj_iload_n dX8_has_0 rfl ?_
  refine jj_iload_n dX8_has_1 rfl ?_
  refine jj_ishr dX8_has_2 ?_
  refine jj_iconst dX8_has_3 (kk := ?_)
  refine jj_iand dX8_has_4 ?_
  refine jj_iconst dX8_has_5 (kk := ?_)
  refine jj_icmp_ne (tgt := 13) dX8_has_6 (by decide) (fun h6 => ?_) (fun h6 => ?_)
  · refine jj_iconst dX8_has_13 (kk := ?_)
    refine zz_retze dX8_has_14 rfl (by first | exact Or.inl rfl | exact Or.inr rfl) (by decide) ?_ ?_
    · first | (rw [if_pos (by omega)]; done) | (rw [if_neg (by omega)]; done)
    · rfl
  · refine jj_iconst dX8_has_9 (kk := ?_)
    refine jj_goto (tgt := 14) dX8_has_10 (by decide) ?_
    refine zz_retze dX8_has_14 rfl (by first | exact Or.inl rfl | exact Or.inr rfl) (by decide) ?_ ?_
    · first | (rw [if_pos (by omega)]; done) | (rw [if_neg (by omega)]; done)
    · rfl

set_option maxRecDepth 100000 in
set_option maxHeartbeats 4000000 in
theorem c_X8_of (g : jz_G) (s : jz_St) (r : Nat) (hr : r = 420 ∨ r = 422) (li wi : Int) (i : Nat) (hi : 6 + 5 * li + wi = i) (h : (0 ≤ li ∧ li ≤ 7) ∧ (0 ≤ wi ∧ wi ≤ 5) ∧ i < 53) : jz_C g mX8_of [jr (r), ji (li), ji (wi)] s (jq_ie (s r i) s) := by
  refine zz_C_of koX8_of rfl (Nat.le_of_ble_eq_true rfl) ?_
  refine zz_pad 0 ?_
  show jz_Z g mX8_of (jq_ie (s r i) s) 0 [some (jr (r)), some (ji (li)), some (ji (wi))] [] s
  refine jj_aload_n dX8_of_0 rfl ?_
  refine jj_bipush dX8_of_1 (kk := ?_)
  refine jj_iconst dX8_of_3 (kk := ?_)
  refine jj_iload_n dX8_of_4 rfl ?_
  refine jj_imul dX8_of_5 (by omega) ?_
  refine jj_iadd dX8_of_6 (by omega) ?_
  refine jj_iload_n dX8_of_7 rfl ?_
  refine jj_iadd dX8_of_8 (by omega) ?_
  refine zz_ialdN (j := i) dX8_of_9 (tRw hr) (by omega) (by omega) ?_
  refine zz_retie dX8_of_10 rfl (by decide) ?_ ?_
  · rfl
  · rfl

set_option maxRecDepth 100000 in
set_option maxHeartbeats 4000000 in
theorem c_X8_its (g : jz_G) (s : jz_St) (r : Nat) (hr : r = 420 ∨ r = 422) (li wi : Int) (i : Nat) (hi : 41 + 3 * li + wi = i) (h : (0 ≤ li ∧ li ≤ 4) ∧ (0 ≤ wi ∧ wi ≤ 5) ∧ i < 53) : jz_C g mX8_its [jr (r), ji (li), ji (wi)] s (jq_ie (s r i) s) := by
  refine zz_C_of koX8_its rfl (Nat.le_of_ble_eq_true rfl) ?_
  refine zz_pad 0 ?_
  show jz_Z g mX8_its (jq_ie (s r i) s) 0 [some (jr (r)), some (ji (li)), some (ji (wi))] [] s
  refine jj_aload_n dX8_its_0 rfl ?_
  refine jj_bipush dX8_its_1 (kk := ?_)
  refine jj_iconst dX8_its_3 (kk := ?_)
  refine jj_iload_n dX8_its_4 rfl ?_
  refine jj_imul dX8_its_5 (by omega) ?_
  refine jj_iadd dX8_its_6 (by omega) ?_
  refine jj_iload_n dX8_its_7 rfl ?_
  refine jj_iadd dX8_its_8 (by omega) ?_
  refine zz_ialdN (j := i) dX8_its_9 (tRw hr) (by omega) (by omega) ?_
  refine zz_retie dX8_its_10 rfl (by decide) ?_ ?_
  · rfl
  · rfl

theorem lk_e {q : Nat → Int} {b t u : Int} {l : Nat} (hm : mRw q b) (h : l < 7) (ht : t = if q (6 + 5 * l) = 2 then q (6 + 5 * l + 3) + q 2 else if 4 ≤ q (6 + 5 * l) then q (6 + 5 * l + 3) + -3 else q (6 + 5 * l + 3))
    (hu : u = if t < 0 ∨ q (6 + 5 * l + 4) = 0 ∨ (q (6 + 5 * l) = 5 ∧ Int.tmod (q 5) 2 = 1) then 1 else 0) : (if u = 0 then t else -1000000) = rLk q l := by
  have hml := mRw_l hm l h
  have hmh := mRw_h hm
  have h5 : Int.tmod (q 5) 2 = q 5 % 2 := Int.tmod_eq_emod_of_nonneg hmh.2.2.2.2.2.1
  unfold rLk fLk
  rw [h5] at hu ⊢
  by_cases c1 : q (6 + 5 * l + 4) ≤ 0 ∨ (q (6 + 5 * l) = 5 ∧ q 5 % 2 ≠ 0)
  · rw [if_pos c1]
    rw [if_pos (by omega)] at hu
    rw [if_neg (by omega)]
  · rw [if_neg c1]
    have ht2 : t = if q (6 + 5 * l) = 2 then q (6 + 5 * l + 3) + q 2 else if q (6 + 5 * l) = 4 ∨ q (6 + 5 * l) = 5 then q (6 + 5 * l + 3) - 3 else q (6 + 5 * l + 3) := by
      rw [ht]
      (repeat' split) <;> omega
    rw [← ht2]
    show (if u = 0 then t else -1000000) = if t < 0 then -1000000 else t
    by_cases c2 : t < 0
    · rw [if_pos (by omega)] at hu
      rw [if_pos c2, if_neg (by omega)]
    · rw [if_neg (by omega)] at hu
      rw [if_neg c2, if_pos hu]
set_option maxRecDepth 100000 in
set_option maxHeartbeats 4000000 in
theorem c_X8_liked (g : jz_G) (s : jz_St) (r : Nat) (hr : r = 420 ∨ r = 422) (l : Nat) (li : Int) (hl : li = l) (b : Int) (hm : mRw (s r) b) (h : l < 7) : jz_C g mX8_liked [jr (r), ji (li)] s (jq_ie (rLk (s r) l) s) := by
  refine zz_C_of koX8_liked rfl (Nat.le_of_ble_eq_true rfl) ?_
  refine zz_pad 3 ?_
  show jz_Z g mX8_liked (jq_ie (rLk (s r) l) s) 0 [some (jr (r)), some (ji (li)), none, none, none] [] s
  have hml := mRw_l hm l h
  have hmh := mRw_h hm
  refine jj_aload_n dX8_liked_0 rfl ?_
  refine jj_iload_n dX8_liked_1 rfl ?_
  refine jj_iconst dX8_liked_2 (kk := ?_)
  refine zz_cSi (av := [jr (r), ji (li), ji (0)]) (st' := []) dX8_liked_3 kn_X8_155 kmX8_of rfl rfl (Nat.le_of_ble_eq_true rfl) (by decide) rfl (c_X8_of g s r hr li 0 (6 + 5 * l) (by omega) (by omega)) (fun hr3 ho3 => ?_)
  refine jj_istore_n (ls' := [some (jr (r)), some (ji (li)), some (ji (s r (6 + 5 * l))), none, none]) dX8_liked_6 (by decide) rfl rfl ?_
  refine jj_aload_n dX8_liked_7 rfl ?_
  refine jj_iload_n dX8_liked_8 rfl ?_
  refine jj_iconst dX8_liked_9 (kk := ?_)
  refine zz_cSi (av := [jr (r), ji (li), ji (3)]) (st' := []) dX8_liked_10 kn_X8_155 kmX8_of rfl rfl (Nat.le_of_ble_eq_true rfl) (by decide) rfl (c_X8_of g s r hr li 3 (6 + 5 * l + 3) (by omega) (by omega)) (fun hr10 ho10 => ?_)
  have L36 : ∀ (t : Int) (hh36_0 : t = if s r (6 + 5 * l) = 2 then s r (6 + 5 * l + 3) + s r 2 else if 4 ≤ s r (6 + 5 * l) then s r (6 + 5 * l + 3) + -3 else s r (6 + 5 * l + 3)), jz_Z g mX8_liked (jq_ie (rLk (s r) l) s) 36 [some (jr (r)), some (ji (li)), some (ji (s r (6 + 5 * l))), none, none] [ji (t)] s := by
    intro t hh36_0
    refine jj_istore_n (ls' := [some (jr (r)), some (ji (li)), some (ji (s r (6 + 5 * l))), some (ji (t)), none]) dX8_liked_36 (by decide) rfl rfl ?_
    have L69 : ∀ (u : Int) (hh69_0 : u = if t < 0 ∨ s r (6 + 5 * l + 4) = 0 ∨ (s r (6 + 5 * l) = 5 ∧ Int.tmod (s r 5) 2 = 1) then 1 else 0), jz_Z g mX8_liked (jq_ie (rLk (s r) l) s) 69 [some (jr (r)), some (ji (li)), some (ji (s r (6 + 5 * l))), some (ji (t)), none] [ji (u)] s := by
      intro u hh69_0
      refine jj_istore (ls' := [some (jr (r)), some (ji (li)), some (ji (s r (6 + 5 * l))), some (ji (t)), some (ji (u))]) dX8_liked_69 (by decide) rfl rfl ?_
      refine jj_iload dX8_liked_71 rfl ?_
      refine jj_if_eq (tgt := 81) dX8_liked_73 (by decide) (fun h73 => ?_) (fun h73 => ?_)
      · refine jj_iload_n dX8_liked_81 rfl ?_
        refine zz_retie dX8_liked_82 rfl (by decide) ?_ ?_
        · have e := lk_e hm h hh36_0 hh69_0; rw [← e]; first | (rw [if_pos (by omega)]; done) | (rw [if_neg (by omega)]; done)
        · rfl
      · refine jj_ldc dX8_liked_76 kk_X8_93 (kk := ?_)
        refine jj_goto (tgt := 82) dX8_liked_78 (by decide) ?_
        refine zz_retie dX8_liked_82 rfl (by decide) ?_ ?_
        · have e := lk_e hm h hh36_0 hh69_0; rw [← e]; first | (rw [if_pos (by omega)]; done) | (rw [if_neg (by omega)]; done)
        · rfl
    refine jj_iload_n dX8_liked_37 rfl ?_
    refine jj_if_lt (tgt := 64) dX8_liked_38 (by decide) (fun h38 => ?_) (fun h38 => ?_)
    · refine jj_iconst dX8_liked_64 (kk := ?_)
      refine jj_goto (tgt := 69) dX8_liked_65 (by decide) ?_
      exact L69 1 (by first | (rw [if_pos (by omega)]; done) | (rw [if_neg (by omega)]; done))
    · refine jj_aload_n dX8_liked_41 rfl ?_
      refine jj_iload_n dX8_liked_42 rfl ?_
      refine jj_iconst dX8_liked_43 (kk := ?_)
      refine zz_cSi (av := [jr (r), ji (li), ji (4)]) (st' := []) dX8_liked_44 kn_X8_155 kmX8_of rfl rfl (Nat.le_of_ble_eq_true rfl) (by decide) rfl (c_X8_of g s r hr li 4 (6 + 5 * l + 4) (by omega) (by omega)) (fun hr44 ho44 => ?_)
      refine jj_if_eq (tgt := 64) dX8_liked_47 (by decide) (fun h47 => ?_) (fun h47 => ?_)
      · refine jj_iconst dX8_liked_64 (kk := ?_)
        refine jj_goto (tgt := 69) dX8_liked_65 (by decide) ?_
        exact L69 1 (by first | (rw [if_pos (by omega)]; done) | (rw [if_neg (by omega)]; done))
      · refine jj_iload_n dX8_liked_50 rfl ?_
        refine jj_iconst dX8_liked_51 (kk := ?_)
        refine jj_icmp_ne (tgt := 68) dX8_liked_52 (by decide) (fun h52 => ?_) (fun h52 => ?_)
        · refine jj_iconst dX8_liked_68 (kk := ?_)
          exact L69 0 (by first | (rw [if_pos (by omega)]; done) | (rw [if_neg (by omega)]; done))
        · refine jj_aload_n dX8_liked_55 rfl ?_
          refine jj_iconst dX8_liked_56 (kk := ?_)
          refine zz_ialdN (j := 5) dX8_liked_57 (tRw hr) (by omega) (by omega) ?_
          refine jj_iconst dX8_liked_58 (kk := ?_)
          refine jj_irem dX8_liked_59 (by decide) (by have h5 : Int.tmod (s r 5) 2 = s r 5 % 2 := Int.tmod_eq_emod_of_nonneg (by omega); omega) ?_
          refine jj_iconst dX8_liked_60 (kk := ?_)
          refine jj_icmp_ne (tgt := 68) dX8_liked_61 (by decide) (fun h61 => ?_) (fun h61 => ?_)
          · refine jj_iconst dX8_liked_68 (kk := ?_)
            exact L69 0 (by first | (rw [if_pos (by omega)]; done) | (rw [if_neg (by omega)]; done))
          · refine jj_iconst dX8_liked_64 (kk := ?_)
            refine jj_goto (tgt := 69) dX8_liked_65 (by decide) ?_
            exact L69 1 (by first | (rw [if_pos (by omega)]; done) | (rw [if_neg (by omega)]; done))
  refine jj_iload_n dX8_liked_13 rfl ?_
  refine jj_iconst dX8_liked_14 (kk := ?_)
  refine jj_icmp_ne (tgt := 24) dX8_liked_15 (by decide) (fun h15 => ?_) (fun h15 => ?_)
  · refine jj_iload_n dX8_liked_24 rfl ?_
    refine jj_iconst dX8_liked_25 (kk := ?_)
    refine jj_icmp_lt (tgt := 34) dX8_liked_26 (by decide) (fun h26 => ?_) (fun h26 => ?_)
    · refine jj_iconst dX8_liked_34 (kk := ?_)
      refine jj_iadd dX8_liked_35 (by omega) ?_
      exact L36 ((s r (6 + 5 * l + 3)) + 0) (by first | (rw [if_pos (by omega)]; done) | (rw [if_neg (by omega), if_pos (by omega)]; done) | (rw [if_neg (by omega), if_neg (by omega)]; omega))
    · refine jj_bipush dX8_liked_29 (kk := ?_)
      refine jj_goto (tgt := 35) dX8_liked_31 (by decide) ?_
      refine jj_iadd dX8_liked_35 (by omega) ?_
      exact L36 ((s r (6 + 5 * l + 3)) + (-3)) (by first | (rw [if_pos (by omega)]; done) | (rw [if_neg (by omega), if_pos (by omega)]; done) | (rw [if_neg (by omega), if_neg (by omega)]; omega))
  · refine jj_aload_n dX8_liked_18 rfl ?_
    refine jj_iconst dX8_liked_19 (kk := ?_)
    refine zz_ialdN (j := 2) dX8_liked_20 (tRw hr) (by omega) (by omega) ?_
    refine jj_goto (tgt := 35) dX8_liked_21 (by decide) ?_
    refine jj_iadd dX8_liked_35 (by omega) ?_
    exact L36 ((s r (6 + 5 * l + 3)) + (s r 2)) (by first | (rw [if_pos (by omega)]; done) | (rw [if_neg (by omega), if_pos (by omega)]; done) | (rw [if_neg (by omega), if_neg (by omega)]; omega))

set_option maxRecDepth 100000 in
set_option maxHeartbeats 4000000 in
theorem c_X8_bitten (g : jz_G) (s : jz_St) (r : Nat) (hr : r = 420 ∨ r = 422) (l : Nat) (li : Int) (hl : li = l) (b : Int) (hm : mRw (s r) b) (h : l < 4) : jz_C g mX8_bitten [jr (r), ji (li)] s (jq_ie (fON (rCho (s r) l)) s) := by
  refine zz_C_of koX8_bitten rfl (Nat.le_of_ble_eq_true rfl) ?_
  refine zz_pad 4 ?_
  show jz_Z g mX8_bitten (jq_ie (fON (rCho (s r) l)) s) 0 [some (jr (r)), some (ji (li)), none, none, none, none] [] s
  have hml := mRw_g hm l h
  have hmh := mRw_h hm
  refine jj_aload_n dX8_bitten_0 rfl ?_
  refine jj_iload_n dX8_bitten_1 rfl ?_
  refine jj_iconst dX8_bitten_2 (kk := ?_)
  refine zz_cSi (av := [jr (r), ji (li), ji (0)]) (st' := []) dX8_bitten_3 kn_X8_159 kmX8_its rfl rfl (Nat.le_of_ble_eq_true rfl) (by decide) rfl (c_X8_its g s r hr li 0 (41 + 3 * l) (by omega) (by omega)) (fun hr3 ho3 => ?_)
  refine jj_if_eq (tgt := 18) dX8_bitten_6 (by decide) (fun h6 => ?_) (fun h6 => ?_)
  · refine jj_ldc dX8_bitten_18 kk_X8_93 (kk := ?_)
    refine zz_retie dX8_bitten_20 rfl (by decide) ?_ ?_
    · unfold rCho; rw [if_pos (by omega)]; rfl
    · rfl
  · refine jj_aload_n dX8_bitten_9 rfl ?_
    refine jj_iload_n dX8_bitten_10 rfl ?_
    refine jj_iconst dX8_bitten_11 (kk := ?_)
    refine zz_cSi (av := [jr (r), ji (li), ji (2)]) (st' := []) dX8_bitten_12 kn_X8_159 kmX8_its rfl rfl (Nat.le_of_ble_eq_true rfl) (by decide) rfl (c_X8_its g s r hr li 2 (41 + 3 * l + 2) (by omega) (by omega)) (fun hr12 ho12 => ?_)
    refine jj_if_le (tgt := 21) dX8_bitten_15 (by decide) (fun h15 => ?_) (fun h15 => ?_)
    · refine jj_ldc dX8_bitten_21 kk_X8_93 (kk := ?_)
      refine jj_istore_n (ls' := [some (jr (r)), some (ji (li)), some (ji (-1000000)), none, none, none]) dX8_bitten_23 (by decide) rfl rfl ?_
      refine jj_ldc dX8_bitten_24 kk_X8_93 (kk := ?_)
      refine jj_istore_n (ls' := [some (jr (r)), some (ji (li)), some (ji (-1000000)), some (ji (-1000000)), none, none]) dX8_bitten_26 (by decide) rfl rfl ?_
      refine jj_iconst dX8_bitten_27 (kk := ?_)
      refine jj_istore (ls' := [some (jr (r)), some (ji (li)), some (ji (-1000000)), some (ji (-1000000)), some (ji (0)), none]) dX8_bitten_28 (by decide) rfl rfl ?_
      have L30 : ∀ (nn : Nat) (j : Nat) (best most : Int) (hh30_0 : (j : Int) ≤ s r 3) (hh30_1 : best = fON (rChS (s r) (s r (41 + 3 * l + 1)) j).1) (hh30_2 : most = (rChS (s r) (s r (41 + 3 * l + 1)) j).2), 7 - j < nn → jz_Z g mX8_bitten (jq_ie (fON (rCho (s r) l)) s) 30 [some (jr (r)), some (ji (li)), some (ji (best)), some (ji (most)), some (ji ((j : Int))), none] [] s := by
        intro nn
        induction nn with
        | zero => intro j best most hh30_0 hh30_1 hh30_2 hmz; exact absurd hmz (Nat.not_lt_zero _)
        | succ nn ih30 =>
          intro j best most hh30_0 hh30_1 hh30_2 hm30
          refine jj_iload dX8_bitten_30 rfl ?_
          refine jj_aload_n dX8_bitten_32 rfl ?_
          refine jj_iconst dX8_bitten_33 (kk := ?_)
          refine zz_ialdN (j := 3) dX8_bitten_34 (tRw hr) (by omega) (by omega) ?_
          refine jj_icmp_ge (tgt := 99) dX8_bitten_35 (by decide) (fun h35 => ?_) (fun h35 => ?_)
          · refine jj_iload_n dX8_bitten_99 rfl ?_
            refine zz_retie dX8_bitten_100 rfl (by decide) ?_ ?_
            · unfold rCho; rw [if_neg (by omega), show (s r 3).toNat = j by omega]; exact hh30_1
            · rfl
          · have L65 : ∀ (y : Int) (hh65_0 : y = rLkR (s r) (s r (41 + 3 * l + 1)) j), jz_Z g mX8_bitten (jq_ie (fON (rCho (s r) l)) s) 65 [some (jr (r)), some (ji (li)), some (ji (best)), some (ji (most)), some (ji ((j : Int))), none] [ji (y)] s := by
              intro y hh65_0
              refine jj_istore (ls' := [some (jr (r)), some (ji (li)), some (ji (best)), some (ji (most)), some (ji ((j : Int))), some (ji (y))]) dX8_bitten_65 (by decide) rfl rfl ?_
              have L79 : ∀ (y2 : Int) (hh79_0 : y2 = if most < rLkR (s r) (s r (41 + 3 * l + 1)) j then (j : Int) else best), jz_Z g mX8_bitten (jq_ie (fON (rCho (s r) l)) s) 79 [some (jr (r)), some (ji (li)), some (ji (best)), some (ji (most)), some (ji ((j : Int))), some (ji (y))] [ji (y2)] s := by
                intro y2 hh79_0
                refine jj_istore_n (ls' := [some (jr (r)), some (ji (li)), some (ji (y2)), some (ji (most)), some (ji ((j : Int))), some (ji (y))]) dX8_bitten_79 (by decide) rfl rfl ?_
                have L92 : ∀ (y3 : Int) (hh92_0 : y3 = if most < rLkR (s r) (s r (41 + 3 * l + 1)) j then rLkR (s r) (s r (41 + 3 * l + 1)) j else most), jz_Z g mX8_bitten (jq_ie (fON (rCho (s r) l)) s) 92 [some (jr (r)), some (ji (li)), some (ji (y2)), some (ji (most)), some (ji ((j : Int))), some (ji (y))] [ji (y3)] s := by
                  intro y3 hh92_0
                  refine jj_istore_n (ls' := [some (jr (r)), some (ji (li)), some (ji (y2)), some (ji (y3)), some (ji ((j : Int))), some (ji (y))]) dX8_bitten_92 (by decide) rfl rfl ?_
                  refine jj_iinc (ls' := [some (jr (r)), some (ji (li)), some (ji (y2)), some (ji (y3)), some (ji ((j : Int) + 1)), some (ji (y))]) dX8_bitten_93 rfl (by decide) rfl (by omega) rfl ?_
                  refine jj_goto (tgt := 30) dX8_bitten_96 (by decide) ?_
                  refine jj_fgt (i := 5) (ls' := [some (jr (r)), some (ji (li)), some (ji (y2)), some (ji (y3)), some (ji ((j : Int) + 1)), none]) rfl ?_
                  exact ih30 (j + 1) y2 y3 (by omega) (by simp only [rChS]; rw [hh79_0, ← hh30_2]; by_cases q : most < rLkR (s r) (s r (41 + 3 * l + 1)) j; (· rw [if_pos q, if_pos q]; rfl); (· rw [if_neg q, if_neg q]; exact hh30_1)) (by simp only [rChS]; rw [hh92_0, ← hh30_2]; by_cases q : most < rLkR (s r) (s r (41 + 3 * l + 1)) j; (· rw [if_pos q, if_pos q]); (· rw [if_neg q, if_neg q]; exact hh30_2)) (by omega)
                refine jj_iload dX8_bitten_80 rfl ?_
                refine jj_iload_n dX8_bitten_82 rfl ?_
                refine jj_icmp_le (tgt := 91) dX8_bitten_83 (by decide) (fun h83 => ?_) (fun h83 => ?_)
                · refine jj_iload_n dX8_bitten_91 rfl ?_
                  exact L92 most (by rw [← hh65_0]; first | (rw [if_pos (by omega)]; done) | (rw [if_neg (by omega)]; done))
                · refine jj_iload dX8_bitten_86 rfl ?_
                  refine jj_goto (tgt := 92) dX8_bitten_88 (by decide) ?_
                  exact L92 y (by rw [← hh65_0]; first | (rw [if_pos (by omega)]; done) | (rw [if_neg (by omega)]; done))
              refine jj_iload dX8_bitten_67 rfl ?_
              refine jj_iload_n dX8_bitten_69 rfl ?_
              refine jj_icmp_le (tgt := 78) dX8_bitten_70 (by decide) (fun h70 => ?_) (fun h70 => ?_)
              · refine jj_iload_n dX8_bitten_78 rfl ?_
                exact L79 best (by rw [← hh65_0]; first | (rw [if_pos (by omega)]; done) | (rw [if_neg (by omega)]; done))
              · refine jj_iload dX8_bitten_73 rfl ?_
                refine jj_goto (tgt := 79) dX8_bitten_75 (by decide) ?_
                exact L79 ((j : Int)) (by rw [← hh65_0]; first | (rw [if_pos (by omega)]; done) | (rw [if_neg (by omega)]; done))
            refine jj_aload_n dX8_bitten_38 rfl ?_
            refine jj_iload dX8_bitten_39 rfl ?_
            refine jj_iconst dX8_bitten_41 (kk := ?_)
            refine zz_cSi (av := [jr (r), ji ((j : Int)), ji (2)]) (st' := []) dX8_bitten_42 kn_X8_155 kmX8_of rfl rfl (Nat.le_of_ble_eq_true rfl) (by decide) rfl (c_X8_of g s r hr (j : Int) 2 (6 + 5 * j + 2) (by omega) (by omega)) (fun hr42 ho42 => ?_)
            refine jj_aload_n dX8_bitten_45 rfl ?_
            refine jj_iload_n dX8_bitten_46 rfl ?_
            refine jj_iconst dX8_bitten_47 (kk := ?_)
            refine zz_cSi (av := [jr (r), ji (li), ji (1)]) (st' := [ji (s r (6 + 5 * j + 2))]) dX8_bitten_48 kn_X8_159 kmX8_its rfl rfl (Nat.le_of_ble_eq_true rfl) (by decide) rfl (c_X8_its g s r hr li 1 (41 + 3 * l + 1) (by omega) (by omega)) (fun hr48 ho48 => ?_)
            refine jj_icmp_le (tgt := 59) dX8_bitten_51 (by decide) (fun h51 => ?_) (fun h51 => ?_)
            · refine jj_aload_n dX8_bitten_59 rfl ?_
              refine jj_iload dX8_bitten_60 rfl ?_
              refine zz_cSi (av := [jr (r), ji ((j : Int))]) (st' := []) dX8_bitten_62 kn_X8_162 kmX8_liked rfl rfl (Nat.le_of_ble_eq_true rfl) (by decide) rfl (c_X8_liked g s r hr j (j : Int) (by omega) b hm (by omega)) (fun hr62 ho62 => ?_)
              exact L65 (rLk (s r) j) (by unfold rLkR; first | (rw [if_pos (by omega)]; done) | (rw [if_neg (by omega)]; done))
            · refine jj_ldc dX8_bitten_54 kk_X8_93 (kk := ?_)
              refine jj_goto (tgt := 65) dX8_bitten_56 (by decide) ?_
              exact L65 (-1000000) (by unfold rLkR; first | (rw [if_pos (by omega)]; done) | (rw [if_neg (by omega)]; done))
      exact L30 _ 0 (-1000000) (-1000000) (by omega) (by rfl) (by rfl) (Nat.lt_succ_self _)
    · refine jj_ldc dX8_bitten_18 kk_X8_93 (kk := ?_)
      refine zz_retie dX8_bitten_20 rfl (by decide) ?_ ?_
      · unfold rCho; rw [if_pos (by omega)]; rfl
      · rfl

