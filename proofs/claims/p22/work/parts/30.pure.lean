/-! the two rows side by side: what each step leaves at each place -/
theorem i_lt (a b : Int32) : a < b ↔ a.toInt < b.toInt := Int32.lt_iff_toInt_lt
theorem i_le (a b : Int32) : a ≤ b ↔ a.toInt ≤ b.toInt := Int32.le_iff_toInt_le
theorem i_eq (a b : Int32) : a = b ↔ a.toInt = b.toInt := Int32.toInt_inj.symm
theorem i_rng (a : Int32) : -2147483648 ≤ a.toInt ∧ a.toInt < 2147483648 := by
  have h1 := Int32.le_toInt a
  have h2 := Int32.toInt_lt a
  omega
theorem i_bm {x : Int} (h1 : -2147483648 ≤ x) (h2 : x < 2147483648) : x.bmod (2 ^ 32) = x := by
  apply Int.bmod_eq_of_le
  · omega
  · omega
theorem i_add {a b : Int32} (h1 : -2147483648 ≤ a.toInt + b.toInt) (h2 : a.toInt + b.toInt < 2147483648) : (a + b).toInt = a.toInt + b.toInt := by
  rw [Int32.toInt_add]
  exact i_bm h1 h2
theorem i_sub {a b : Int32} (h1 : -2147483648 ≤ a.toInt - b.toInt) (h2 : a.toInt - b.toInt < 2147483648) : (a - b).toInt = a.toInt - b.toInt := by
  rw [Int32.toInt_sub]
  exact i_bm h1 h2
theorem i_1 : (1 : Int32).toInt = 1 := by decide
theorem i_0 : (0 : Int32).toInt = 0 := by decide
theorem i_6 : (-6 : Int32).toInt = -6 := by decide
theorem i_big : (99999 : Int32).toInt = 99999 := by decide
/-! the class's row -/
theorem v_bec4 (f : Nat → Int32) (x : Int32) : h_become f x 4 = x := by
  unfold h_become
  split
  · exact pk_us
  · rw [pk_un (by omega), pk_us]
theorem v_bec5 (f : Nat → Int32) (x : Int32) : h_become f x 5 = if x ≤ f 5 then f 5 else x := by
  unfold h_become
  rw [pk_un (f := f) (by omega : 5 ≠ 4)]
  split
  · rw [pk_un (by omega)]
  · rw [pk_us]
theorem v_bec_o {f : Nat → Int32} {x : Int32} {k : Nat} (h4 : k ≠ 4) (h5 : k ≠ 5) : h_become f x k = f k := by
  unfold h_become
  split
  · rw [pk_un h4]
  · rw [pk_un h5, pk_un h4]
theorem v_more4 (f : Nat → Int32) : h_more f 4 = f 4 + 1 := by
  unfold h_more
  split
  · exact v_bec4 _ _
  · rw [pk_un (by omega), v_bec4]
theorem v_more5 (f : Nat → Int32) : h_more f 5 = if f 4 + 1 ≤ f 5 then f 5 else f 4 + 1 := by
  unfold h_more
  split
  · exact v_bec5 _ _
  · rw [pk_un (by omega), v_bec5]
theorem v_more6 (f : Nat → Int32) : h_more f 6 = if f 4 + 1 ≤ f 2 then f 6 else f 6 + 1 := by
  unfold h_more
  rw [v_bec4, v_bec_o (k := 2) (by omega) (by omega), v_bec_o (k := 6) (by omega) (by omega)]
  split
  · exact v_bec_o (by omega) (by omega)
  · rw [pk_us]
theorem v_more_o {f : Nat → Int32} {k : Nat} (h4 : k ≠ 4) (h5 : k ≠ 5) (h6 : k ≠ 6) : h_more f k = f k := by
  unfold h_more
  split
  · exact v_bec_o h4 h5
  · rw [pk_un h6, v_bec_o h4 h5]
theorem v_less4 (f : Nat → Int32) : h_less f 4 = if f 4 ≤ 0 then f 4 else f 4 - 1 := by
  unfold h_less
  split
  · rw [pk_un (by omega)]
  · rw [pk_us]
theorem v_less7 (f : Nat → Int32) : h_less f 7 = if f 4 ≤ 0 then f 7 + 1 else f 7 := by
  unfold h_less
  split
  · rw [pk_us]
  · rw [pk_un (by omega)]
theorem v_less_o {f : Nat → Int32} {k : Nat} (h4 : k ≠ 4) (h7 : k ≠ 7) : h_less f k = f k := by
  unfold h_less
  split
  · rw [pk_un h7]
  · rw [pk_un h4]
abbrev h_fol (f : Nat → Int32) (P w : Nat) : Prop := f (P + 4) = nI w ∧ ¬ f 1 < f (P + 1) - f (P + 12)
theorem v_come1 (f : Nat → Int32) (P w : Nat) : h_come1 f P w = if h_fol f P w then upd f (P + 10) (f (P + 10) + 1) else f := by
  unfold h_come1
  by_cases c1 : f (P + 4) = nI w
  · by_cases c2 : f 1 < f (P + 1) - f (P + 12)
    · rw [if_pos c1, if_pos c2, if_neg (fun q : h_fol f P w => q.2 c2)]
    · rw [if_pos c1, if_neg c2, if_pos (⟨c1, c2⟩ : h_fol f P w)]
  · rw [if_neg c1, if_neg (fun q : h_fol f P w => c1 q.1)]
theorem v_come1_10 (f : Nat → Int32) (P w : Nat) : h_come1 f P w (P + 10) = if h_fol f P w then f (P + 10) + 1 else f (P + 10) := by
  rw [v_come1]
  split
  · exact pk_us
  · rfl
theorem v_come1_o {f : Nat → Int32} {P w k : Nat} (h : k ≠ P + 10) : h_come1 f P w k = f k := by
  rw [v_come1]
  split
  · exact pk_un h
  · rfl
theorem v_come10 {f : Nat → Int32} {P w : Nat} (hw : w = 5 ∨ w = 6) : h_come f P w (P + 10) = if h_fol f P w then f (P + 10) + 1 else f (P + 10) := by
  rw [← v_come1_10]
  unfold h_come h_come2
  simp (disch := omega) only [pk_un]
theorem v_comew {f : Nat → Int32} {P w : Nat} (hw : w = 5 ∨ w = 6) : h_come f P w (P + w) = f (P + w) + 1 := by
  unfold h_come h_come2
  simp (disch := omega) only [pk_un, pk_us, v_come1_o]
theorem v_come11 {f : Nat → Int32} {P w : Nat} (hP : 8 ≤ P) (hw : w = 5 ∨ w = 6) : h_come f P w (P + 11) = f (P + 11) + (f 3 - f (P + 1)) := by
  unfold h_come h_come2
  simp (disch := omega) only [pk_un, pk_us, v_come1_o]
theorem v_come4 {f : Nat → Int32} {P w : Nat} : h_come f P w (P + 4) = nI w := by
  unfold h_come h_come2
  simp (disch := omega) only [pk_un, pk_us, v_come1_o]
theorem v_come12 {f : Nat → Int32} {P w : Nat} (hP : 8 ≤ P) (hw : w = 5 ∨ w = 6) : h_come f P w (P + 12) = f 3 := by
  unfold h_come h_come2
  simp (disch := omega) only [pk_un, pk_us, v_come1_o]
theorem v_come_o {f : Nat → Int32} {P w k : Nat} (h1 : k ≠ P + 10) (h2 : k ≠ P + w) (h3 : k ≠ P + 11) (h4 : k ≠ P + 4) (h5 : k ≠ P + 12) : h_come f P w k = f k := by
  unfold h_come h_come2
  simp (disch := omega) only [pk_un, pk_us, v_come1_o]
theorem v_end1_9 (f : Nat → Int32) (P : Nat) : h_end1 f P (P + 9) = if f 3 - f (P + 1) < f 0 then f (P + 9) else f (P + 9) + 1 := by
  unfold h_end1
  split
  · rfl
  · exact pk_us
theorem v_end1_o {f : Nat → Int32} {P k : Nat} (h : k ≠ P + 9) : h_end1 f P k = f k := by
  unfold h_end1
  split
  · rfl
  · exact pk_un h
theorem v_end_l {f : Nat → Int32} {P : Nat} (h : f (P + 3) = 0) : h_end f P = upd (h_end1 f P) (P + 8) (f (P + 8) + 1) := by
  unfold h_end h_end2
  rw [v_end1_o (k := P + 3) (by omega), if_pos h, v_end1_o (k := P + 8) (by omega)]
theorem v_end_i {f : Nat → Int32} {P : Nat} (h : ¬ f (P + 3) = 0) (h2 : f (P + 2) = 4) : h_end f P = h_more (h_come (h_end1 f P) P 5) := by
  unfold h_end h_end2
  rw [v_end1_o (k := P + 3) (by omega), if_neg h, v_end1_o (k := P + 2) (by omega), if_pos h2]
theorem v_end_x {f : Nat → Int32} {P : Nat} (h : ¬ f (P + 3) = 0) (h2 : f (P + 2) = (-4)) : h_end f P = h_less (h_come (h_end1 f P) P 6) := by
  unfold h_end h_end2
  rw [v_end1_o (k := P + 3) (by omega), if_neg h, v_end1_o (k := P + 2) (by omega), if_neg (by rw [h2]; decide), if_pos h2]
theorem v_end_b {f : Nat → Int32} {P : Nat} (h : ¬ f (P + 3) = 0) (h2 : ¬ f (P + 2) = 4) (h3 : ¬ f (P + 2) = (-4)) : h_end f P = upd (h_end1 f P) (P + 7) (f (P + 7) + 1) := by
  unfold h_end h_end2
  rw [v_end1_o (k := P + 3) (by omega), if_neg h, v_end1_o (k := P + 2) (by omega), if_neg h2, if_neg h3, v_end1_o (k := P + 7) (by omega)]
theorem v_end_o {f : Nat → Int32} {P k : Nat} (hP : 8 ≤ P) (h4 : k < 4 ∨ 8 ≤ k) (h : k < P + 4 ∨ P + 13 ≤ k) : h_end f P k = f k := by
  by_cases c : f (P + 3) = 0
  · rw [v_end_l c]
    simp (disch := omega) only [pk_un, v_end1_o]
  · by_cases c2 : f (P + 2) = 4
    · rw [v_end_i c c2]
      simp (disch := omega) only [v_more_o, v_come_o, v_end1_o]
    · by_cases c3 : f (P + 2) = (-4)
      · rw [v_end_x c c3]
        simp (disch := omega) only [v_less_o, v_come_o, v_end1_o]
      · rw [v_end_b c c2 c3]
        simp (disch := omega) only [pk_un, v_end1_o]
/-! sums over the gates -/
theorem s_same {f F : Nat → Int32} {w : Nat} (h : ∀ g, g < 6 → F (8 + g * 13 + w) = f (8 + g * 13 + w)) : h_sum F w 6 = h_sum f w 6 := by
  have key : ∀ k, k ≤ 6 → h_sum F w k = h_sum f w k := by
    intro k
    induction k with
    | zero => intro _; rfl
    | succ k ih =>
      intro hk
      show h_sum F w k + F (8 + k * 13 + w) = h_sum f w k + f (8 + k * 13 + w)
      rw [ih (by omega), h k (by omega)]
  exact key 6 (by omega)
theorem s_inc {f F : Nat → Int32} {w g : Nat} {x : Int32} (hg : g < 6) (h : F (8 + g * 13 + w) = f (8 + g * 13 + w) + x) (ho : ∀ j, j < 6 → j ≠ g → F (8 + j * 13 + w) = f (8 + j * 13 + w)) : h_sum F w 6 = h_sum f w 6 + x := by
  have key : ∀ k, k ≤ 6 → h_sum F w k = h_sum f w k + (if g < k then x else 0) := by
    intro k
    induction k with
    | zero => intro _; rw [if_neg (by omega)]; rfl
    | succ k ih =>
      intro hk
      show h_sum F w k + F (8 + k * 13 + w) = h_sum f w k + f (8 + k * 13 + w) + _
      rw [ih (by omega)]
      by_cases e : k = g
      · subst e
        rw [h, if_neg (by omega), if_pos (by omega), Int32.add_zero, Int32.add_assoc]
      · rw [ho k (by omega) e]
        by_cases e2 : g < k
        · rw [if_pos e2, if_pos (by omega), Int32.add_assoc, Int32.add_comm x, ← Int32.add_assoc]
        · rw [if_neg e2, if_neg (by omega), Int32.add_zero, Int32.add_zero]
  have := key 6 (by omega)
  rwa [if_pos hg] at this
/-- passages that have ended -/
def n_end (f : Nat → Int32) : Int32 := h_sum f 5 6 + h_sum f 6 6 + h_sum f 7 6 + h_sum f 8 6
theorem n_same {f F : Nat → Int32} (h : ∀ g, g < 6 → ∀ w, 5 ≤ w → w ≤ 8 → F (8 + g * 13 + w) = f (8 + g * 13 + w)) : n_end F = n_end f := by
  unfold n_end
  rw [s_same (w := 5) (fun g hg => h g hg 5 (by omega) (by omega)), s_same (w := 6) (fun g hg => h g hg 6 (by omega) (by omega)), s_same (w := 7) (fun g hg => h g hg 7 (by omega) (by omega)), s_same (w := 8) (fun g hg => h g hg 8 (by omega) (by omega))]
theorem n_inc {f F : Nat → Int32} {w g : Nat} (hg : g < 6) (hw : 5 ≤ w ∧ w ≤ 8) (h : F (8 + g * 13 + w) = f (8 + g * 13 + w) + 1) (ho : ∀ j, j < 6 → ∀ v, 5 ≤ v → v ≤ 8 → ¬ (j = g ∧ v = w) → F (8 + j * 13 + v) = f (8 + j * 13 + v)) : n_end F = n_end f + 1 := by
  have sm : ∀ v, 5 ≤ v → v ≤ 8 → v ≠ w → h_sum F v 6 = h_sum f v 6 := fun v h1 h2 h3 => s_same (fun j hj => ho j hj v h1 h2 (fun q => h3 q.2))
  have si : h_sum F w 6 = h_sum f w 6 + 1 := s_inc hg h (fun j hj h3 => ho j hj w hw.1 hw.2 (fun q => h3 q.1))
  unfold n_end
  rcases (show w = 5 ∨ w = 6 ∨ w = 7 ∨ w = 8 by omega) with z | z | z | z <;> subst z
  · rw [si, sm 6 (by omega) (by omega) (by omega), sm 7 (by omega) (by omega) (by omega), sm 8 (by omega) (by omega) (by omega)]
    ac_rfl
  · rw [si, sm 5 (by omega) (by omega) (by omega), sm 7 (by omega) (by omega) (by omega), sm 8 (by omega) (by omega) (by omega)]
    ac_rfl
  · rw [si, sm 5 (by omega) (by omega) (by omega), sm 6 (by omega) (by omega) (by omega), sm 8 (by omega) (by omega) (by omega)]
    ac_rfl
  · rw [si, sm 5 (by omega) (by omega) (by omega), sm 6 (by omega) (by omega) (by omega), sm 7 (by omega) (by omega) (by omega)]
    ac_rfl
/-- an end: one more has ended -/
theorem n_h_end (f : Nat → Int32) {g : Nat} (hg : g < 6) : n_end (h_end f (8 + g * 13)) = n_end f + 1 := by
  by_cases c : f (8 + g * 13 + 3) = 0
  · rw [v_end_l c]
    exact n_inc (w := 8) hg (by omega) pk_us (fun j hj v h1 h2 h3 => by simp (disch := omega) only [pk_un, v_end1_o])
  · by_cases c2 : f (8 + g * 13 + 2) = 4
    · rw [v_end_i c c2]
      refine n_inc (w := 5) hg (by omega) ?_ (fun j hj v h1 h2 h3 => by simp (disch := omega) only [v_more_o, v_come_o, v_end1_o])
      rw [v_more_o (by omega) (by omega) (by omega), v_comew (by omega), v_end1_o (by omega)]
    · by_cases c3 : f (8 + g * 13 + 2) = (-4)
      · rw [v_end_x c c3]
        refine n_inc (w := 6) hg (by omega) ?_ (fun j hj v h1 h2 h3 => by simp (disch := omega) only [v_less_o, v_come_o, v_end1_o])
        rw [v_less_o (by omega) (by omega), v_comew (by omega), v_end1_o (by omega)]
      · rw [v_end_b c c2 c3]
        exact n_inc (w := 7) hg (by omega) pk_us (fun j hj v h1 h2 h3 => by simp (disch := omega) only [pk_un, v_end1_o])
/-! the state ahead of an end -/
def h_pre (f : Nat → Int32) (g bm : Nat) : Nat → Int32 := upd (h_change2 (h_change1 f (8 + g * 13)) (8 + g * 13) bm (f (8 + g * 13 + 0)) (h_look f (8 + g * 13) bm)) (8 + g * 13 + 0) (h_look f (8 + g * 13) bm)
theorem ch_pre (f : Nat → Int32) (g bm : Nat) : h_change f g bm = if h_look f (8 + g * 13) bm = 0 then h_end (h_pre f g bm) (8 + g * 13) else h_pre f g bm := rfl
theorem pre_0 (f : Nat → Int32) (g bm : Nat) : h_pre f g bm (8 + g * 13 + 0) = h_look f (8 + g * 13) bm := pk_us
theorem ch1_1 (f : Nat → Int32) (P : Nat) : h_change1 f P (P + 1) = if f (P + 0) = 0 then f 3 else f (P + 1) := by
  unfold h_change1 h_begin
  split
  · simp (disch := omega) only [pk_un, pk_us]
  · rfl
theorem ch1_2 (f : Nat → Int32) (P : Nat) : h_change1 f P (P + 2) = if f (P + 0) = 0 then 0 else f (P + 2) := by
  unfold h_change1 h_begin
  split
  · simp (disch := omega) only [pk_un, pk_us]
  · rfl
theorem ch1_3 (f : Nat → Int32) (P : Nat) : h_change1 f P (P + 3) = if f (P + 0) = 0 then 1 else f (P + 3) := by
  unfold h_change1 h_begin
  split
  · simp (disch := omega) only [pk_us]
  · rfl
theorem ch1_o {f : Nat → Int32} {P k : Nat} (h : k < P + 1 ∨ P + 4 ≤ k) : h_change1 f P k = f k := by
  unfold h_change1 h_begin
  split
  · simp (disch := omega) only [pk_un]
  · rfl
theorem ch2_2 (f : Nat → Int32) (P bm : Nat) (b k : Int32) : h_change2 f P bm b k (P + 2) = if bm = 2 then f (P + 2) else f (P + 2) + (if k = (b + 1) &&& 3 then 1 else (-1)) := by
  unfold h_change2
  split
  · exact pk_un (by omega)
  · exact pk_us
theorem ch2_3 (f : Nat → Int32) (P bm : Nat) (b k : Int32) : h_change2 f P bm b k (P + 3) = if bm = 2 then 0 else f (P + 3) := by
  unfold h_change2
  split
  · exact pk_us
  · exact pk_un (by omega)
theorem ch2_o {f : Nat → Int32} {P bm j : Nat} {b k : Int32} (h : j < P + 2 ∨ P + 4 ≤ j) : h_change2 f P bm b k j = f j := by
  unfold h_change2
  split
  · exact pk_un (by omega)
  · exact pk_un (by omega)
theorem pre_1 (f : Nat → Int32) (g bm : Nat) : h_pre f g bm (8 + g * 13 + 1) = if f (8 + g * 13 + 0) = 0 then f 3 else f (8 + g * 13 + 1) := by
  unfold h_pre
  rw [pk_un (by omega), ch2_o (by omega), ch1_1]
theorem pre_2 (f : Nat → Int32) (g bm : Nat) : h_pre f g bm (8 + g * 13 + 2) = if bm = 2 then (if f (8 + g * 13 + 0) = 0 then 0 else f (8 + g * 13 + 2)) else (if f (8 + g * 13 + 0) = 0 then 0 else f (8 + g * 13 + 2)) + (if h_look f (8 + g * 13) bm = (f (8 + g * 13 + 0) + 1) &&& 3 then 1 else (-1)) := by
  unfold h_pre
  rw [pk_un (by omega), ch2_2, ch1_2]
theorem pre_3 (f : Nat → Int32) (g bm : Nat) : h_pre f g bm (8 + g * 13 + 3) = if bm = 2 then 0 else if f (8 + g * 13 + 0) = 0 then 1 else f (8 + g * 13 + 3) := by
  unfold h_pre
  rw [pk_un (by omega), ch2_3, ch1_3]
theorem pre_o {f : Nat → Int32} {g bm k : Nat} (h : k < 8 + g * 13 ∨ 8 + g * 13 + 4 ≤ k) : h_pre f g bm k = f k := by
  unfold h_pre
  rw [pk_un (by omega), ch2_o (by omega), ch1_o (by omega)]
theorem n_pre (f : Nat → Int32) {g bm : Nat} : n_end (h_pre f g bm) = n_end f := n_same (fun j hj w h1 h2 => pre_o (by omega))
theorem ch_look (f : Nat → Int32) {g bm : Nat} : h_change f g bm (8 + g * 13 + 0) = h_look f (8 + g * 13) bm := by
  rw [ch_pre]
  split
  · rename_i c
    rw [v_end_o (by omega) (by omega) (by omega), pre_0]
  · exact pre_0 f g bm
theorem n_change (f : Nat → Int32) {g bm : Nat} (hg : g < 6) : n_end (h_change f g bm) = if h_look f (8 + g * 13) bm = 0 then n_end f + 1 else n_end f := by
  rw [ch_pre]
  split
  · rw [n_h_end _ hg, n_pre]
  · exact n_pre f
