/-! the reference's askings -/
def f_X8_bg (s : jz_St) (b : Int) : jz_St := if s 416 24 < 16 then jz_su (jz_su s 429 (s 416 24).toNat b) 416 24 (s 416 24 + 1) else s
def mTr (s : jz_St) : Prop := 0 ≤ s 416 24 ∧ s 416 24 ≤ 16
theorem bg_o (s : jz_St) (b : Int) {x : Nat} (h1 : x ≠ 416) (h2 : x ≠ 429) : f_X8_bg s b x = s x := by
  unfold f_X8_bg
  split
  · rw [jz_su_o h1, jz_su_o h2]
  · rfl
theorem tr_bg {s : jz_St} {b : Int} (h : mTr s) : mTr (f_X8_bg s b) := by
  unfold mTr f_X8_bg
  unfold mTr at h
  split
  · rw [jz_su_s]; omega
  · exact h
def f_X8_bs1 (s : jz_St) (l : Nat) : jz_St := if s 420 (6 + 5 * l) = 5 then f_X8_bg s 14 else s
def f_X8_bs (s : jz_St) (l : Nat) : jz_St := f_X8_bg (f_X8_bg (f_X8_bs1 s l) 13) 10
def v_X8_bs (s : jz_St) (l : Nat) : Int := if s 420 (6 + 5 * l) = 5 then 2 * (s 420 (6 + 5 * l + 1) - 100) else s 420 (6 + 5 * l + 1) - 100
def f_X8_mk1 (s : jz_St) (l : Nat) : jz_St := if s 420 (6 + 5 * l) = 1 then s else f_X8_bg s (if s 420 (6 + 5 * l) = 3 then 22 else 24)
def f_X8_mk (s : jz_St) (l : Nat) : jz_St := if 4 ≤ s 420 (6 + 5 * l) then f_X8_bs (f_X8_bg (f_X8_bg s 23) 20) l else f_X8_bg (f_X8_bg (f_X8_mk1 s l) 21) 20
def v_X8_mk (s : jz_St) (l : Nat) : Int := if 4 ≤ s 420 (6 + 5 * l) then l - v_X8_bs s l else if s 420 (6 + 5 * l) = 1 then l + s 420 (6 + 5 * l + 4) else if s 420 (6 + 5 * l) = 3 then l + s 420 (6 + 5 * l + 4) - 1000 else 2 * (l + s 420 (6 + 5 * l + 4))
def f_X8_sz1 (s : jz_St) (l : Nat) : jz_St := if s 420 (6 + 5 * l) = 2 then f_X8_bg s 12 else s
def f_X8_sz (s : jz_St) (l : Nat) : jz_St := if 4 ≤ s 420 (6 + 5 * l) then f_X8_bs s l else f_X8_mk (f_X8_bg (f_X8_bg (f_X8_sz1 s l) 11) 10) l
def v_X8_sz (s : jz_St) (l : Nat) : Int := if 4 ≤ s 420 (6 + 5 * l) then v_X8_bs s l else if s 420 (6 + 5 * l) = 2 then -(s 420 (6 + 5 * l + 1) + v_X8_mk s l) else s 420 (6 + 5 * l + 1) + v_X8_mk s l
theorem bs1_o (s : jz_St) (l : Nat) {x : Nat} (h1 : x ≠ 416) (h2 : x ≠ 429) : f_X8_bs1 s l x = s x := by
  unfold f_X8_bs1
  split
  · exact bg_o _ _ h1 h2
  · rfl
theorem mk1_o (s : jz_St) (l : Nat) {x : Nat} (h1 : x ≠ 416) (h2 : x ≠ 429) : f_X8_mk1 s l x = s x := by
  unfold f_X8_mk1
  split
  · rfl
  · exact bg_o _ _ h1 h2
theorem sz1_o (s : jz_St) (l : Nat) {x : Nat} (h1 : x ≠ 416) (h2 : x ≠ 429) : f_X8_sz1 s l x = s x := by
  unfold f_X8_sz1
  split
  · exact bg_o _ _ h1 h2
  · rfl
theorem bs_o (s : jz_St) (l : Nat) {x : Nat} (h1 : x ≠ 416) (h2 : x ≠ 429) : f_X8_bs s l x = s x := by
  unfold f_X8_bs
  rw [bg_o _ _ h1 h2, bg_o _ _ h1 h2, bs1_o _ _ h1 h2]
theorem mk_o (s : jz_St) (l : Nat) {x : Nat} (h1 : x ≠ 416) (h2 : x ≠ 429) : f_X8_mk s l x = s x := by
  unfold f_X8_mk
  split
  · rw [bs_o _ _ h1 h2, bg_o _ _ h1 h2, bg_o _ _ h1 h2]
  · rw [bg_o _ _ h1 h2, bg_o _ _ h1 h2, mk1_o _ _ h1 h2]
theorem sz_o (s : jz_St) (l : Nat) {x : Nat} (h1 : x ≠ 416) (h2 : x ≠ 429) : f_X8_sz s l x = s x := by
  unfold f_X8_sz
  split
  · exact bs_o _ _ h1 h2
  · rw [mk_o _ _ h1 h2, bg_o _ _ h1 h2, bg_o _ _ h1 h2, sz1_o _ _ h1 h2]
theorem tr_bs1 {s : jz_St} {l : Nat} (h : mTr s) : mTr (f_X8_bs1 s l) := by
  unfold f_X8_bs1
  split
  · exact tr_bg h
  · exact h
theorem tr_mk1 {s : jz_St} {l : Nat} (h : mTr s) : mTr (f_X8_mk1 s l) := by
  unfold f_X8_mk1
  split
  · exact h
  · exact tr_bg h
theorem tr_sz1 {s : jz_St} {l : Nat} (h : mTr s) : mTr (f_X8_sz1 s l) := by
  unfold f_X8_sz1
  split
  · exact tr_bg h
  · exact h
theorem tr_bs {s : jz_St} {l : Nat} (h : mTr s) : mTr (f_X8_bs s l) := tr_bg (tr_bg (tr_bs1 h))
theorem tr_mk {s : jz_St} {l : Nat} (h : mTr s) : mTr (f_X8_mk s l) := by
  unfold f_X8_mk
  split
  · exact tr_bs (tr_bg (tr_bg h))
  · exact tr_bg (tr_bg (tr_mk1 h))
theorem tr_sz {s : jz_St} {l : Nat} (h : mTr s) : mTr (f_X8_sz s l) := by
  unfold f_X8_sz
  split
  · exact tr_bs h
  · exact tr_mk (tr_bg (tr_bg (tr_sz1 h)))
theorem vbs_e {s t : jz_St} (l : Nat) (h : t 420 = s 420) : v_X8_bs t l = v_X8_bs s l := by
  unfold v_X8_bs
  rw [h]
theorem vmk_e {s t : jz_St} (l : Nat) (h : t 420 = s 420) : v_X8_mk t l = v_X8_mk s l := by
  unfold v_X8_mk
  rw [vbs_e l h, h]
