/-! the two rows side by side: what each step leaves at each place -/
theorem i_lt (a b : Int32) : a < b ↔ a.toInt < b.toInt := Int32.lt_iff_toInt_lt
theorem i_le (a b : Int32) : a ≤ b ↔ a.toInt ≤ b.toInt := Int32.le_iff_toInt_le
theorem i_eq (a b : Int32) : a = b ↔ a.toInt = b.toInt := Int32.toInt_inj.symm
theorem i_rng (a : Int32) : -2147483648 ≤ a.toInt ∧ a.toInt < 2147483648 := by
  have h1 := Int32.le_toInt a
  have h2 := Int32.toInt_lt a
  omega
theorem i_bm {x : Int} (h1 : -2147483648 ≤ x) (h2 : x < 2147483648) : x.bmod (2 ^ 32) = x := by
  apply Int.bmod_eq_of_le
  · omega
  · omega
theorem i_add {a b : Int32} (h1 : -2147483648 ≤ a.toInt + b.toInt) (h2 : a.toInt + b.toInt < 2147483648) : (a + b).toInt = a.toInt + b.toInt := by
  rw [Int32.toInt_add]
  exact i_bm h1 h2
theorem i_sub {a b : Int32} (h1 : -2147483648 ≤ a.toInt - b.toInt) (h2 : a.toInt - b.toInt < 2147483648) : (a - b).toInt = a.toInt - b.toInt := by
  rw [Int32.toInt_sub]
  exact i_bm h1 h2
theorem i_1 : (1 : Int32).toInt = 1 := by decide
theorem i_0 : (0 : Int32).toInt = 0 := by decide
theorem i_6 : (-6 : Int32).toInt = -6 := by decide
theorem i_big : (99999 : Int32).toInt = 99999 := by decide
/-! the class's row -/
theorem v_bec4 (f : Nat → Int32) (x : Int32) : h_become f x 4 = x := by
  unfold h_become
  split
  · exact pk_us
  · rw [pk_un (by omega), pk_us]
theorem v_bec5 (f : Nat → Int32) (x : Int32) : h_become f x 5 = if x ≤ f 5 then f 5 else x := by
  unfold h_become
  rw [pk_un (f := f) (by omega : 5 ≠ 4)]
  split
  · rw [pk_un (by omega)]
  · rw [pk_us]
theorem v_bec_o {f : Nat → Int32} {x : Int32} {k : Nat} (h4 : k ≠ 4) (h5 : k ≠ 5) : h_become f x k = f k := by
  unfold h_become
  split
  · rw [pk_un h4]
  · rw [pk_un h5, pk_un h4]
theorem v_more4 (f : Nat → Int32) : h_more f 4 = f 4 + 1 := by
  unfold h_more
  split
  · exact v_bec4 _ _
  · rw [pk_un (by omega), v_bec4]
theorem v_more5 (f : Nat → Int32) : h_more f 5 = if f 4 + 1 ≤ f 5 then f 5 else f 4 + 1 := by
  unfold h_more
  split
  · exact v_bec5 _ _
  · rw [pk_un (by omega), v_bec5]
theorem v_more6 (f : Nat → Int32) : h_more f 6 = if f 4 + 1 ≤ f 2 then f 6 else f 6 + 1 := by
  unfold h_more
  rw [v_bec4, v_bec_o (k := 2) (by omega) (by omega), v_bec_o (k := 6) (by omega) (by omega)]
  split
  · exact v_bec_o (by omega) (by omega)
  · rw [pk_us]
theorem v_more_o {f : Nat → Int32} {k : Nat} (h4 : k ≠ 4) (h5 : k ≠ 5) (h6 : k ≠ 6) : h_more f k = f k := by
  unfold h_more
  split
  · exact v_bec_o h4 h5
  · rw [pk_un h6, v_bec_o h4 h5]
theorem v_less4 (f : Nat → Int32) : h_less f 4 = if f 4 ≤ 0 then f 4 else f 4 - 1 := by
  unfold h_less
  split
  · rw [pk_un (by omega)]
  · rw [pk_us]
theorem v_less7 (f : Nat → Int32) : h_less f 7 = if f 4 ≤ 0 then f 7 + 1 else f 7 := by
  unfold h_less
  split
  · rw [pk_us]
  · rw [pk_un (by omega)]
theorem v_less_o {f : Nat → Int32} {k : Nat} (h4 : k ≠ 4) (h7 : k ≠ 7) : h_less f k = f k := by
  unfold h_less
  split
  · rw [pk_un h7]
  · rw [pk_un h4]
abbrev h_fol (f : Nat → Int32) (P w : Nat) : Prop := f (P + 4) = nI w ∧ ¬ f 1 < f (P + 1) - f (P + 12)
theorem v_come1 (f : Nat → Int32) (P w : Nat) : h_come1 f P w = if h_fol f P w then upd f (P + 10) (f (P + 10) + 1) else f := by
  unfold h_come1
  by_cases c1 : f (P + 4) = nI w
  · by_cases c2 : f 1 < f (P + 1) - f (P + 12)
    · rw [if_pos c1, if_pos c2, if_neg (fun q : h_fol f P w => q.2 c2)]
    · rw [if_pos c1, if_neg c2, if_pos (⟨c1, c2⟩ : h_fol f P w)]
  · rw [if_neg c1, if_neg (fun q : h_fol f P w => c1 q.1)]
theorem v_come1_10 (f : Nat → Int32) (P w : Nat) : h_come1 f P w (P + 10) = if h_fol f P w then f (P + 10) + 1 else f (P + 10) := by
  rw [v_come1]
  split
  · exact pk_us
  · rfl
theorem v_come1_o {f : Nat → Int32} {P w k : Nat} (h : k ≠ P + 10) : h_come1 f P w k = f k := by
  rw [v_come1]
  split
  · exact pk_un h
  · rfl
theorem v_come10 {f : Nat → Int32} {P w : Nat} (hw : w = 5 ∨ w = 6) : h_come f P w (P + 10) = if h_fol f P w then f (P + 10) + 1 else f (P + 10) := by
  rw [← v_come1_10]
  unfold h_come h_come2
  simp (disch := omega) only [pk_un]
theorem v_comew {f : Nat → Int32} {P w : Nat} (hw : w = 5 ∨ w = 6) : h_come f P w (P + w) = f (P + w) + 1 := by
  unfold h_come h_come2
  simp (disch := omega) only [pk_un, pk_us, v_come1_o]
theorem v_come11 {f : Nat → Int32} {P w : Nat} (hP : 8 ≤ P) (hw : w = 5 ∨ w = 6) : h_come f P w (P + 11) = f (P + 11) + (f 3 - f (P + 1)) := by
  unfold h_come h_come2
  simp (disch := omega) only [pk_un, pk_us, v_come1_o]
theorem v_come4 {f : Nat → Int32} {P w : Nat} : h_come f P w (P + 4) = nI w := by
  unfold h_come h_come2
  simp (disch := omega) only [pk_un, pk_us, v_come1_o]
theorem v_come12 {f : Nat → Int32} {P w : Nat} (hP : 8 ≤ P) (hw : w = 5 ∨ w = 6) : h_come f P w (P + 12) = f 3 := by
  unfold h_come h_come2
  simp (disch := omega) only [pk_un, pk_us, v_come1_o]
theorem v_come_o {f : Nat → Int32} {P w k : Nat} (h1 : k ≠ P + 10) (h2 : k ≠ P + w) (h3 : k ≠ P + 11) (h4 : k ≠ P + 4) (h5 : k ≠ P + 12) : h_come f P w k = f k := by
  unfold h_come h_come2
  simp (disch := omega) only [pk_un, pk_us, v_come1_o]
theorem v_end1_9 (f : Nat → Int32) (P : Nat) : h_end1 f P (P + 9) = if f 3 - f (P + 1) < f 0 then f (P + 9) else f (P + 9) + 1 := by
  unfold h_end1
  split
  · rfl
  · exact pk_us
theorem v_end1_o {f : Nat → Int32} {P k : Nat} (h : k ≠ P + 9) : h_end1 f P k = f k := by
  unfold h_end1
  split
  · rfl
  · exact pk_un h
theorem v_end_l {f : Nat → Int32} {P : Nat} (h : f (P + 3) = 0) : h_end f P = upd (h_end1 f P) (P + 8) (f (P + 8) + 1) := by
  unfold h_end h_end2
  rw [v_end1_o (k := P + 3) (by omega), if_pos h, v_end1_o (k := P + 8) (by omega)]
theorem v_end_i {f : Nat → Int32} {P : Nat} (h : ¬ f (P + 3) = 0) (h2 : f (P + 2) = 4) : h_end f P = h_more (h_come (h_end1 f P) P 5) := by
  unfold h_end h_end2
  rw [v_end1_o (k := P + 3) (by omega), if_neg h, v_end1_o (k := P + 2) (by omega), if_pos h2]
theorem v_end_x {f : Nat → Int32} {P : Nat} (h : ¬ f (P + 3) = 0) (h2 : f (P + 2) = (-4)) : h_end f P = h_less (h_come (h_end1 f P) P 6) := by
  unfold h_end h_end2
  rw [v_end1_o (k := P + 3) (by omega), if_neg h, v_end1_o (k := P + 2) (by omega), if_neg (by rw [h2]; decide), if_pos h2]
theorem v_end_b {f : Nat → Int32} {P : Nat} (h : ¬ f (P + 3) = 0) (h2 : ¬ f (P + 2) = 4) (h3 : ¬ f (P + 2) = (-4)) : h_end f P = upd (h_end1 f P) (P + 7) (f (P + 7) + 1) := by
  unfold h_end h_end2
  rw [v_end1_o (k := P + 3) (by omega), if_neg h, v_end1_o (k := P + 2) (by omega), if_neg h2, if_neg h3, v_end1_o (k := P + 7) (by omega)]
/-! the reference's row -/
theorem w_add_s {a : Nat → Int32} {k : Nat} {x : Int32} : m_add a k x k = a k + x := pk_us
theorem w_add_o {a : Nat → Int32} {k j : Nat} {x : Int32} (h : j ≠ k) : m_add a k x j = a j := pk_un h
theorem w_ci1_4 (a : Nat → Int32) : m_ci1 a 4 = a 4 + 1 := pk_us
theorem w_ci1_o {a : Nat → Int32} {k : Nat} (h : k ≠ 4) : m_ci1 a k = a k := pk_un h
theorem w_ci2_5 (a : Nat → Int32) : m_ci2 a 5 = if a 4 ≤ a 5 then a 5 else a 4 := by
  unfold m_ci2
  split
  · exact pk_us
  · exact pk_us
theorem w_ci2_o {a : Nat → Int32} {k : Nat} (h : k ≠ 5) : m_ci2 a k = a k := by
  unfold m_ci2
  split
  · exact pk_un h
  · exact pk_un h
theorem w_ci3_6 (a : Nat → Int32) : m_ci3 a 6 = if a 4 ≤ a 2 then a 6 else a 6 + 1 := by
  unfold m_ci3
  split
  · rw [w_add_s, Int32.add_zero]
  · exact pk_us
theorem w_ci3_o {a : Nat → Int32} {k : Nat} (h : k ≠ 6) : m_ci3 a k = a k := by
  unfold m_ci3
  split
  · exact pk_un h
  · exact pk_un h
theorem w_ci4 (a : Nat → Int32) : m_ci a 4 = a 4 + 1 := by
  unfold m_ci
  rw [w_ci3_o (by omega), w_ci2_o (by omega), w_ci1_4]
theorem w_ci5 (a : Nat → Int32) : m_ci a 5 = if a 4 + 1 ≤ a 5 then a 5 else a 4 + 1 := by
  unfold m_ci
  rw [w_ci3_o (by omega), w_ci2_5, w_ci1_4, w_ci1_o (by omega)]
theorem w_ci6 (a : Nat → Int32) : m_ci a 6 = if a 4 + 1 ≤ a 2 then a 6 else a 6 + 1 := by
  unfold m_ci
  rw [w_ci3_6, w_ci2_o (k := 4) (by omega), w_ci2_o (k := 2) (by omega), w_ci2_o (k := 6) (by omega), w_ci1_4, w_ci1_o (by omega), w_ci1_o (by omega)]
theorem w_ci_o {a : Nat → Int32} {k : Nat} (h4 : k ≠ 4) (h5 : k ≠ 5) (h6 : k ≠ 6) : m_ci a k = a k := by
  unfold m_ci
  rw [w_ci3_o h6, w_ci2_o h5, w_ci1_o h4]
theorem w_go1_7 (a : Nat → Int32) : m_go1 a 7 = if a 4 = 0 then a 7 + 1 else a 7 := by
  unfold m_go1
  split
  · exact pk_us
  · rw [w_add_s, Int32.add_zero]
theorem w_go1_o {a : Nat → Int32} {k : Nat} (h : k ≠ 7) : m_go1 a k = a k := by
  unfold m_go1
  split
  · exact pk_un h
  · exact pk_un h
theorem w_go2_4 (a : Nat → Int32) : m_go2 a 4 = if a 4 ≤ 0 then a 4 else a 4 - 1 := by
  unfold m_go2
  split
  · rw [pk_us, Int32.sub_zero]
  · exact pk_us
theorem w_go2_o {a : Nat → Int32} {k : Nat} (h : k ≠ 4) : m_go2 a k = a k := by
  unfold m_go2
  split
  · exact pk_un h
  · exact pk_un h
theorem w_go4 (a : Nat → Int32) : m_go a 4 = if a 4 ≤ 0 then a 4 else a 4 - 1 := by
  unfold m_go
  rw [w_go2_4, w_go1_o (by omega)]
theorem w_go7 (a : Nat → Int32) : m_go a 7 = if a 4 = 0 then a 7 + 1 else a 7 := by
  unfold m_go
  rw [w_go2_o (by omega), w_go1_7]
theorem w_go_o {a : Nat → Int32} {k : Nat} (h4 : k ≠ 4) (h7 : k ≠ 7) : m_go a k = a k := by
  unfold m_go
  rw [w_go2_o h4, w_go1_o h7]
theorem w_co1_9 (a : Nat → Int32) (g w : Nat) : m_co1 a g w (8 + 13 * g + 9) = if m_fol a g w then a (8 + 13 * g + 9) + 1 else a (8 + 13 * g + 9) := by
  unfold m_co1
  split
  · exact pk_us
  · rw [w_add_s, Int32.add_zero]
theorem w_co1_o {a : Nat → Int32} {g w k : Nat} (h : k ≠ 8 + 13 * g + 9) : m_co1 a g w k = a k := by
  unfold m_co1
  split
  · exact pk_un h
  · exact pk_un h
theorem w_co2_10 (a : Nat → Int32) (g w : Nat) : m_co2 a g w (8 + 13 * g + 10) = a (8 + 13 * g + 10) + (a 3 - a (8 + 13 * g + 1)) := by
  unfold m_co2
  simp (disch := omega) only [pk_un, pk_us]
theorem w_co2_11 (a : Nat → Int32) (g w : Nat) : m_co2 a g w (8 + 13 * g + 11) = a 3 := by
  unfold m_co2
  simp (disch := omega) only [pk_un, pk_us]
theorem w_co2_12 (a : Nat → Int32) (g w : Nat) : m_co2 a g w (8 + 13 * g + 12) = nI w := by
  unfold m_co2
  exact pk_us
theorem w_co2_o {a : Nat → Int32} {g w k : Nat} (h1 : k ≠ 8 + 13 * g + 10) (h2 : k ≠ 8 + 13 * g + 11) (h3 : k ≠ 8 + 13 * g + 12) : m_co2 a g w k = a k := by
  unfold m_co2
  simp (disch := omega) only [pk_un, pk_us]
abbrev m_co12 (a : Nat → Int32) (g w : Nat) : Nat → Int32 := m_co2 (m_co1 a g w) g w
theorem w_en2_8 (a : Nat → Int32) (g : Nat) : m_en2 a g (8 + 13 * g + 8) = if m_blk a g then a (8 + 13 * g + 8) + 1 else a (8 + 13 * g + 8) := by
  unfold m_en2
  split
  · exact pk_us
  · rw [w_add_s, Int32.add_zero]
theorem w_en2_o {a : Nat → Int32} {g k : Nat} (h : k ≠ 8 + 13 * g + 8) : m_en2 a g k = a k := by
  unfold m_en2
  split
  · exact pk_un h
  · exact pk_un h
theorem w_en1_s (a : Nat → Int32) (g w : Nat) : m_en1 a g w (8 + 13 * g + w) = a (8 + 13 * g + w) + 1 := pk_us
theorem w_en1_o {a : Nat → Int32} {g w k : Nat} (h : k ≠ 8 + 13 * g + w) : m_en1 a g w k = a k := pk_un h
theorem w_en4_z (a : Nat → Int32) (g : Nat) : m_en4 a g (8 + 13 * g + 0) = 0 ∧ m_en4 a g (8 + 13 * g + 1) = -6 ∧ m_en4 a g (8 + 13 * g + 2) = 0 ∧ m_en4 a g (8 + 13 * g + 3) = 0 := by
  unfold m_en4
  refine ⟨pk_us, ?_, ?_, ?_⟩ <;> simp (disch := omega) only [pk_un, pk_us]
theorem w_en4_o {a : Nat → Int32} {g k : Nat} (h : k < 8 + 13 * g ∨ 8 + 13 * g + 4 ≤ k) : m_en4 a g k = a k := by
  unfold m_en4
  simp (disch := omega) only [pk_un]
theorem w_en_4 (a : Nat → Int32) (g : Nat) : m_en a g 4 = m_en4 (m_ci (m_co12 (m_en2 (m_en1 a g 4) g) g 4)) g := by
  unfold m_en m_en3 m_co
  rw [if_pos rfl, if_pos rfl]
theorem w_en_5 (a : Nat → Int32) (g : Nat) : m_en a g 5 = m_en4 (m_go (m_co12 (m_en2 (m_en1 a g 5) g) g 5)) g := by
  unfold m_en m_en3 m_co
  rw [if_neg (by decide), if_pos rfl, if_neg (by decide)]
theorem w_en_6 (a : Nat → Int32) (g : Nat) : m_en a g 6 = m_en4 (m_en2 (m_en1 a g 6) g) g := by
  unfold m_en m_en3
  rw [if_neg (by decide), if_neg (by decide)]
theorem w_en_7 (a : Nat → Int32) (g : Nat) : m_en a g 7 = m_en4 (m_en2 (m_en1 a g 7) g) g := by
  unfold m_en m_en3
  rw [if_neg (by decide), if_neg (by decide)]
