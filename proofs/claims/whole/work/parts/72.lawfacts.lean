/-! what a pair of calls leaves, for the law -/
def Inv (s : jz_St) : Prop := H3 s s ∧ cT s
theorem OK_law {s s1 : jz_St} {f8 : jz_St → jz_St} {v7 : Int} {v8 : jz_St → Int} (h : Inv s) (o : ∀ t, H3 s t → v7 = v8 t ∧ OK s t s1 (f8 t)) (hT : cT s1) : v7 = v8 s1 ∧ Inv (f8 s1) ∧ MI s1 := by
  have a0 := (o s h.1).2
  have hqt : qT s s1 := fun x hx _ _ _ => a0.2.1 x hx
  have hM1 : MI s1 := MI_q h.1.2.1 hqt
  have h1 : H3 s s1 := ⟨CR_q h.1.1 (fun _ _ _ => rfl) hqt, hM1, h.1.2.2⟩
  have a1 := o s1 h1
  have hqs : qS s1 (f8 s1) := fun x hx _ => a1.2.2.2 x hx
  refine ⟨a1.1, ⟨⟨CR_q a1.2.1.1 hqs (fun _ _ _ _ _ => rfl), a1.2.1.2.1, CI_q a1.2.1.2.2 hqs⟩, cT_eq hT (fun x h1 h2 => a1.2.2.2 x (by omega))⟩, hM1⟩
theorem cT_k3 {s t : jz_St} (h : H3 s t) (hT : cT s) : cT (f_X3_keep s 344) := by
  have hP := h.1.2.2.2.2.1.2.1
  refine cT_eq hT (fun x h1 h2 => ?_)
  unfold f_X3_keep
  (try simp only)
  rw [jz_su_o (by omega), jz_su_o (by omega), take_off (by unfold jOff; omega)]
theorem cT_su {s : jz_St} (hT : cT s) {a i : Nat} {z : Int} (ha : a < 358 ∨ 372 ≤ a) : cT (jz_su s a i z) := cT_eq hT (fun x h1 h2 => jz_su_o (by omega))
theorem cT_begin {s : jz_St} (hT : cT s) {a : Nat} {l n : Int} (ha : 372 ≤ a) : cT (f_X4_begin s a l n) := by
  refine cT_eq hT (fun x h1 h2 => ?_)
  unfold f_X4_begin
  rw [beginL_o _ _ (by omega), jz_su_o (by omega), jz_su_o (by omega), jz_su_o (by omega)]
theorem cT_scp {s : jz_St} (hT : cT s) {a b c d e : Nat} (hb : 372 ≤ b) : cT (jz_scp s a b c d e) := by
  refine cT_eq hT (fun x h1 h2 => ?_)
  funext y
  unfold jz_scp
  rw [if_neg (by omega)]
theorem cT_tk {s : jz_St} (hT : cT s) {k k2 : Nat} (hk : k + 14 ≤ 358 ∨ 372 ≤ k) : cT (f_X5_take s k k2) := cT_eq hT (fun x h1 h2 => take_off (by unfold jOff; omega))
theorem t_row {s : jz_St} (hT : cT s) (r l n : Int) : cT (f_X7_row s r l n) := by
  unfold f_X7_row
  (repeat' split) <;> first | exact hT | exact cT_st hT _ | exact cT_begin (cT_st hT 0) (by omega)
theorem t_setr {s : jz_St} (hT : cT s) (r i z : Int) : cT (f_X7_set s r i z) := by
  unfold f_X7_set f_X4_put
  (repeat' split) <;> first | exact hT | exact cT_st hT _ | exact cT_su (cT_st hT 0) (by omega)
theorem t_copy {s : jz_St} (hT : cT s) (a i c j n : Int) : cT (f_X7_copy s a i c j n) := by
  unfold f_X7_copy
  (repeat' split) <;> first | exact hT | exact cT_st hT _ | exact cT_scp (cT_st hT 0) (by omega)
theorem t_drop {s : jz_St} (hT : cT s) (r : Int) : cT (f_X7_drop s r) := by
  unfold f_X7_drop
  (repeat' split) <;> first | exact hT | exact cT_st hT _ | exact cT_su (cT_st hT 0) (by omega)
theorem t_feed {s : jz_St} (hT : cT s) (z : Int) : cT (f_X7_feed s z) := by
  unfold f_X7_feed f_X6_add
  (repeat' split) <;> first | exact hT | exact cT_su (cT_su hT (by omega)) (by omega)
theorem t_undo {s : jz_St} (hT : cT s) : cT (f_X7_undo s) := by
  unfold f_X7_undo f_X3_back
  (repeat' split) <;> first | exact hT | exact cT_su (cT_su (cT_tk hT (by omega)) (by omega)) (by omega)
theorem t_hang {s t : jz_St} (h : H3 s t) (hT : cT s) (l z : Int) : cT (f_X7_hang s l z) := by
  unfold f_X7_hang
  by_cases c : (0 ≤ l ∧ l < s 344 2 ∧ l < 7) ∧ 0 ≤ z ∧ z ≤ 9
  · rw [if_pos c]
    split
    · exact hT
    · exact cT_su (cT_k3 h hT) (by omega)
  · rw [if_neg c]; exact hT
theorem t_salt {s t : jz_St} (h : H3 s t) (hT : cT s) (l : Int) : cT (f_X7_salt s l) := by
  unfold f_X7_salt
  by_cases c : 0 ≤ l ∧ l < s 344 2 ∧ l < 7
  · rw [if_pos c]
    split
    · exact hT
    · exact cT_su (cT_k3 h hT) (by omega)
  · rw [if_neg c]; exact hT
theorem t_transcribe {s t : jz_St} (h : H3 s t) (hT : cT s) (l : Int) : cT (f_X7_transcribe s l) := by
  unfold f_X7_transcribe
  by_cases c : 0 ≤ l ∧ l < s 344 2 ∧ l < 7
  · rw [if_pos c]; exact cT_su (cT_k3 h hT) (by omega)
  · rw [if_neg c]; exact hT
theorem t_drive {s t : jz_St} (h : H3 s t) (hT : cT s) (c n : Int) : cT (f_X7_drive s c n) := by
  unfold f_X7_drive
  by_cases cc : (0 ≤ c ∧ c < s 344 3 ∧ c < 4) ∧ 0 ≤ n ∧ n ≤ 60
  · rw [if_pos cc]; exact cT_su (cT_k3 h hT) (by omega)
  · rw [if_neg cc]; exact hT
theorem t_fodder {s t : jz_St} (h : H3 s t) (hT : cT s) (c : Int) : cT (f_X7_fodder s c) := by
  unfold f_X7_fodder
  by_cases cc : 0 ≤ c ∧ c < s 344 3 ∧ c < 4
  · rw [if_pos cc]; exact cT_su (cT_k3 h hT) (by omega)
  · rw [if_neg cc]; exact hT
theorem t_hours {s : jz_St} (h : Inv s) (n : Int) : cT (f_X7_hours s n) := by
  have key : ∀ j : Nat, s 420 5 + j ≤ 999 → cT (f_hrs s j) := by
    intro j
    induction j with
    | zero => intro _; exact h.2
    | succ j ih =>
      intro hj
      have e := hrs_e h.1 j (by omega)
      simp only [f_hrs]
      exact cT_eq (cT_k3 e.1.1 (ih (by omega))) (fun x h1 h2 => passHour_off (by unfold jOff; omega))
  unfold f_X7_hours
  by_cases c0 : s 344 2 ≤ 0
  · rw [if_pos c0]; exact h.2
  · rw [if_neg c0]
    by_cases c : 1 ≤ n ∧ n ≤ 24
    · rw [if_pos c]
      by_cases c2 : 999 < s 344 6 + n
      · rw [if_pos c2]; exact h.2
      · rw [if_neg c2]
        have e6 := h.1.1.2.1.1.2.2.2.2
        exact key n.toNat (by omega)
    · rw [if_neg c]; exact h.2
theorem t_image {s : jz_St} (hT : cT s) (k : Int) : cT (f_X7_image s k) := by
  unfold f_X7_image
  (repeat' split) <;> first | exact hT | exact cT_tk hT (by omega)
theorem t_restore {s : jz_St} (hT : cT s) (k : Int) : cT (f_X7_restore s k) := by
  unfold f_X7_restore
  (repeat' split) <;> first | exact hT | exact cT_su (cT_tk hT (by omega)) (by omega)
theorem t_as {s : jz_St} (hT : cT s) (l c : Int) : cT (f_X7_as s l c) := by
  unfold f_X7_as
  (repeat' split) <;> first | exact hT | exact cT_st hT _
theorem t_ask {s : jz_St} (hT : cT s) (l w : Int) : cT (f_X7_ask s l w) := by
  unfold f_X7_ask
  split
  · exact cT_eq hT (fun x h1 h2 => by rw [fGiS_off (by omega) (by omega), jz_su_o (by omega)])
  · exact hT
theorem sw40_0 {a : Int} (h : 0 ≤ a) (h2 : a < 10) : a = 0 ∨ a = 1 ∨ a = 2 ∨ a = 3 ∨ a = 4 ∨ a = 5 ∨ a = 6 ∨ a = 7 ∨ a = 8 ∨ a = 9 := by omega
theorem sw40_1 {a : Int} (h : 10 ≤ a) (h2 : a < 20) : a = 10 ∨ a = 11 ∨ a = 12 ∨ a = 13 ∨ a = 14 ∨ a = 15 ∨ a = 16 ∨ a = 17 ∨ a = 18 ∨ a = 19 := by omega
theorem sw40_2 {a : Int} (h : 20 ≤ a) (h2 : a < 30) : a = 20 ∨ a = 21 ∨ a = 22 ∨ a = 23 ∨ a = 24 ∨ a = 25 ∨ a = 26 ∨ a = 27 ∨ a = 28 ∨ a = 29 := by omega
theorem sw40_3 {a : Int} (h : 30 ≤ a) (h2 : a < 40) : a = 30 ∨ a = 31 ∨ a = 32 ∨ a = 33 ∨ a = 34 ∨ a = 35 ∨ a = 36 ∨ a = 37 ∨ a = 38 ∨ a = 39 := by omega
theorem jc_self (a : Int) : jcmp a a = 0 := by
  unfold jcmp
  rw [if_neg (by omega), if_pos rfl]
