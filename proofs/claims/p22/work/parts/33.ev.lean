/-! an event, and all that is different by it -/
theorem i_s1 (a : Int32) : a + 1 - a = 1 := by rw [Int32.add_comm, Int32.add_sub_cancel]
def e_st (f : Nat → Int32) (g bm : Nat) : Int32 := if bm = 2 then 0 else if f (8 + g * 13 + 0) = 0 then 1 else if h_tell f g 3 = 1 then 1 else 0
def e_was (f : Nat → Int32) (g : Nat) : Int32 := if f (8 + g * 13 + 0) = 0 then 4 else h_tell f g 2
def e_mv (k b : Int32) : Int32 := if ((k - b) &&& 3) = 1 then 1 else (-1)
def e_lost (f : Nat → Int32) (g bm : Nat) : Int32 := if h_tell f g 3 = 0 then 1 else if bm = 2 then 1 else 0
def e_comes (f : Nat → Int32) (g bm : Nat) : Int32 := if e_lost f g bm = 0 then (if h_tell f g 2 = 7 then 1 else 0) else 0
def e_goes (f : Nat → Int32) (g bm : Nat) : Int32 := if e_lost f g bm = 0 then (if h_tell f g 2 = 1 then (if f (8 + g * 13 + 0) = 1 then 1 else 0) else 0) else 0
theorem t_0 (f : Nat → Int32) (g : Nat) : h_tell f g 0 = f (8 + g * 13 + 0) := rfl
theorem t_1 (f : Nat → Int32) (g : Nat) : h_tell f g 1 = if ¬ f (8 + g * 13 + 0) = 0 then f (8 + g * 13 + 1) else -6 := rfl
theorem t_2 (f : Nat → Int32) (g : Nat) : h_tell f g 2 = if ¬ f (8 + g * 13 + 0) = 0 then (if ¬ f (8 + g * 13 + 3) = 0 then f (8 + g * 13 + 2) + 4 else -6) else -6 := rfl
theorem t_3 (f : Nat → Int32) (g : Nat) : h_tell f g 3 = if ¬ f (8 + g * 13 + 0) = 0 then f (8 + g * 13 + 3) else -6 := rfl
theorem t_4 (f : Nat → Int32) (g : Nat) : h_tell f g 4 = b_i (h_blk f g) := rfl
theorem t_5 (f : Nat → Int32) (g : Nat) : h_tell f g 5 = f (8 + g * 13 + 5) := rfl
theorem t_6 (f : Nat → Int32) (g : Nat) : h_tell f g 6 = f (8 + g * 13 + 6) := rfl
theorem t_8 (f : Nat → Int32) (g : Nat) : h_tell f g 8 = f (8 + g * 13 + 8) := rfl
theorem z00 : ((0 : Int32) = 0) = True := by decide
theorem z10 : ((1 : Int32) = 0) = False := by decide
section EV
variable {N : Nat} {f : Nat → Int32} {g bm : Nat}
theorem ev_then : h_look f (8 + g * 13) bm = h_tell (h_change f g bm) g 0 := by
  rw [t_0, ch_look]
theorem ev_both (hg : g < 6) (h : Inv N f) (h2 : bm = 2) : h_look f (8 + g * 13) bm = (f (8 + g * 13 + 0) + 2) - (f (8 + g * 13 + 0) + 2) / 4 * 4 := by
  subst h2
  show f (8 + g * 13 + 0) ^^^ b_tb 2 = _
  rcases (h.2 g hg).1.1 with q | q | q | q <;> rw [q] <;> decide
theorem ev_one (hg : g < 6) (hbm : bm < 3) (h : Inv N f) (h2 : ¬ bm = 2) : ((h_look f (8 + g * 13) bm - f (8 + g * 13 + 0)) &&& 1) = 1 := by
  show ((f (8 + g * 13 + 0) ^^^ b_tb bm) - f (8 + g * 13 + 0)) &&& 1 = 1
  rcases (show bm = 0 ∨ bm = 1 by omega) with z | z <;> subst z <;> rcases (h.2 g hg).1.1 with q | q | q | q <;> rw [q] <;> decide
/-! the look isn't 0 then -/
theorem ev_a (hk : ¬ h_look f (8 + g * 13) bm = 0) : h_change f g bm = h_pre f g bm := by
  rw [ch_pre, if_neg hk]
theorem ev_a_end (hg : g < 6) (hk : ¬ h_look f (8 + g * 13) bm = 0) : n_end (h_change f g bm) = n_end f := by
  rw [n_change f hg, if_neg hk]
theorem ev_a_1 (hk : ¬ h_look f (8 + g * 13) bm = 0) : h_tell (h_change f g bm) g 1 = if f (8 + g * 13 + 0) = 0 then f 3 else h_tell f g 1 := by
  rw [ev_a hk, t_1, t_1, pre_0, if_pos hk, pre_1]
  by_cases b : f (8 + g * 13 + 0) = 0
  · rw [if_pos b, if_pos b]
  · rw [if_neg b, if_neg b, if_pos b]
theorem ev_a_3 (hg : g < 6) (h : Inv N f) (hk : ¬ h_look f (8 + g * 13) bm = 0) : h_tell (h_change f g bm) g 3 = if e_st f g bm = 0 then 0 else 1 := by
  rw [ev_a hk, t_3, pre_0, if_pos hk, pre_3]
  unfold e_st
  by_cases b2 : bm = 2
  · rw [if_pos b2, if_pos b2, if_pos rfl]
  · rw [if_neg b2, if_neg b2]
    by_cases b : f (8 + g * 13 + 0) = 0
    · rw [if_pos b, if_pos b, if_neg (by decide)]
    · rw [if_neg b, if_neg b, t_3, if_pos b]
      rcases ((h.2 g hg).1.2.resolve_left b).2 with q | ⟨q, -⟩
      · rw [q]
        decide
      · rw [q]
        decide
theorem mv_eq {b : Int32} (hb : b = 0 ∨ b = 1 ∨ b = 2 ∨ b = 3) (hbm : bm < 2) : (if (b ^^^ b_tb bm) = (b + 1) &&& 3 then (1 : Int32) else (-1)) = e_mv (b ^^^ b_tb bm) b := by
  rcases (show bm = 0 ∨ bm = 1 by omega) with z | z <;> subst z <;> rcases hb with q | q | q | q <;> subst q <;> decide
theorem ev_a_2 (hg : g < 6) (hbm : bm < 3) (h : Inv N f) (hk : ¬ h_look f (8 + g * 13) bm = 0) : h_tell (h_change f g bm) g 2 = if e_st f g bm = 0 then -6 else e_was f g + e_mv (h_look f (8 + g * 13) bm) (f (8 + g * 13 + 0)) := by
  rw [ev_a hk, t_2, pre_0, if_pos hk, pre_3, pre_2]
  unfold e_st e_was
  by_cases b2 : bm = 2
  · rw [if_pos b2, if_pos b2, if_neg (show ¬ ¬ (0 : Int32) = 0 from fun z => z rfl), if_pos b2, if_pos rfl]
  · rw [if_neg b2, if_neg b2, if_neg b2]
    have mv := mv_eq (bm := bm) (h.2 g hg).1.1 (by omega)
    have mv : (if h_look f (8 + g * 13) bm = (f (8 + g * 13 + 0) + 1) &&& 3 then (1 : Int32) else (-1)) = e_mv (h_look f (8 + g * 13) bm) (f (8 + g * 13 + 0)) := mv
    rw [mv]
    by_cases b : f (8 + g * 13 + 0) = 0
    · rw [if_pos b, if_pos b, if_pos b, if_pos b, if_pos (by decide), if_neg (by decide)]
      generalize e_mv (h_look f (8 + g * 13) bm) (f (8 + g * 13 + 0)) = z
      rw [Int32.zero_add, Int32.add_comm]
    · rw [if_neg b, if_neg b, if_neg b, if_neg b, t_3, if_pos b, t_2, if_pos b]
      rcases ((h.2 g hg).1.2.resolve_left b).2 with q | ⟨q, -⟩
      · rw [q, if_neg (show ¬ ¬ (0 : Int32) = 0 from fun z => z rfl), show (if (0 : Int32) = 1 then (1 : Int32) else 0) = 0 from by decide, if_pos rfl]
      · rw [q, if_pos (show ¬ (1 : Int32) = 0 from by decide), show (if (1 : Int32) = 1 then (1 : Int32) else 0) = 1 from by decide, if_neg (show ¬ (1 : Int32) = 0 from by decide), if_pos (show ¬ (1 : Int32) = 0 from by decide)]
        generalize e_mv (h_look f (8 + g * 13) bm) (f (8 + g * 13 + 0)) = z
        rw [Int32.add_assoc, Int32.add_comm z, ← Int32.add_assoc]
theorem ev_a_4 (hk : ¬ h_look f (8 + g * 13) bm = 0) : h_change f g bm 4 = f 4 := by
  rw [ev_a hk, pre_o (by omega)]
/-! the look is 0 then -/
theorem ev_b_end (hg : g < 6) (hk : h_look f (8 + g * 13) bm = 0) : n_end (h_change f g bm) = n_end f + 1 := by
  rw [n_change f hg, if_pos hk]
theorem ev_b_1 (hk : h_look f (8 + g * 13) bm = 0) : h_tell (h_change f g bm) g 1 = -6 := by
  rw [t_1, ch_look, hk, if_neg (fun z => z rfl)]
theorem ev_bb (hg : g < 6) (hbm : bm < 3) (h : Inv N f) (hk : h_look f (8 + g * 13) bm = 0) : h_change f g bm = h_end (h_pre f g bm) (8 + g * 13) ∧ ((f (8 + g * 13 + 3) = 0 ∨ bm = 2) ∨ (bm < 2 ∧ f (8 + g * 13 + 3) = 1 ∧ ((f (8 + g * 13 + 0) = 1 ∧ (f (8 + g * 13 + 2) = 1 ∨ f (8 + g * 13 + 2) = -3)) ∨ (f (8 + g * 13 + 0) = 3 ∧ (f (8 + g * 13 + 2) = 3 ∨ f (8 + g * 13 + 2) = -1))) ∧ h_pre f g bm (8 + g * 13 + 3) = 1 ∧ h_pre f g bm (8 + g * 13 + 2) = f (8 + g * 13 + 2) + (if f (8 + g * 13 + 0) = 3 then 1 else -1))) ∧ ¬ f (8 + g * 13 + 0) = 0 := by
  have nb : ¬ f (8 + g * 13 + 0) = 0 := fun q => by
    have hk : f (8 + g * 13 + 0) ^^^ b_tb bm = 0 := hk
    rw [q] at hk
    rcases (show bm = 0 ∨ bm = 1 ∨ bm = 2 by omega) with z | z | z <;> subst z <;> exact absurd hk (by decide)
  refine ⟨by rw [ch_pre, if_pos hk], ?_, nb⟩
  by_cases b2 : bm = 2
  · exact Or.inl (Or.inr b2)
  · obtain ⟨l4, l5⟩ := (h.2 g hg).1
    rcases (l5.resolve_left nb).2 with q | ⟨q, q2⟩
    · exact Or.inl (Or.inl q)
    · have hk2 : f (8 + g * 13 + 0) ^^^ b_tb bm = 0 := hk
      refine Or.inr ⟨by omega, q, ?_, ?_, ?_⟩
      · rcases l4 with e | e | e | e
        · exact absurd e nb
        · refine Or.inl ⟨e, ?_⟩
          rw [e] at q2
          exact q2
        · rw [e] at hk2
          rcases (show bm = 0 ∨ bm = 1 by omega) with z | z <;> subst z <;> exact absurd hk2 (by decide)
        · refine Or.inr ⟨e, ?_⟩
          rw [e] at q2
          exact q2
      · rw [pre_3, if_neg b2, if_neg nb, q]
      · rw [pre_2, if_neg b2, if_neg nb]
        congr 1
        show (if f (8 + g * 13 + 0) ^^^ b_tb bm = (f (8 + g * 13 + 0) + 1) &&& 3 then (1 : Int32) else (-1)) = _
        rcases l4 with e | e | e | e
        · exact absurd e nb
        · rw [e] at hk2 ⊢
          rcases (show bm = 0 ∨ bm = 1 by omega) with z | z <;> subst z <;> first | decide | exact absurd hk2 (by decide)
        · rw [e] at hk2
          rcases (show bm = 0 ∨ bm = 1 by omega) with z | z <;> subst z <;> exact absurd hk2 (by decide)
        · rw [e] at hk2 ⊢
          rcases (show bm = 0 ∨ bm = 1 by omega) with z | z <;> subst z <;> first | decide | exact absurd hk2 (by decide)
theorem ev_b (hg : g < 6) (hbm : bm < 3) (h : Inv N f) (hk : h_look f (8 + g * 13) bm = 0) :
    h_tell (h_change f g bm) g 5 - h_tell f g 5 = (if e_comes f g bm = 0 then 0 else if f (8 + g * 13 + 0) = 3 then 1 else 0) ∧
    h_tell (h_change f g bm) g 6 - h_tell f g 6 = (if e_goes f g bm = 0 then 0 else 1) ∧
    h_change f g bm 4 = (if e_comes f g bm = 0 then (if e_goes f g bm = 0 then f 4 else if f 4 ≤ 0 then f 4 else f 4 - 1) else if f (8 + g * 13 + 0) = 3 then f 4 + 1 else (if e_goes f g bm = 0 then f 4 else if f 4 ≤ 0 then f 4 else f 4 - 1)) ∧
    h_change f g bm 7 - f 7 = (if e_goes f g bm = 0 then 0 else if f 4 = 0 then 1 else 0) ∧
    h_change f g bm 6 - f 6 = (if e_comes f g bm = 0 then 0 else if f (8 + g * 13 + 0) = 3 then (if f 4 + 1 ≤ h_change f g bm 2 then 0 else 1) else 0) := by
  obtain ⟨ec, hc, nb⟩ := ev_bb hg hbm h hk
  rw [t_5, t_5, t_6, t_6, ec]
  have p2 : h_pre f g bm 2 = f 2 := pre_o (by omega)
  have p4 : h_pre f g bm 4 = f 4 := pre_o (by omega)
  have p6 : h_pre f g bm 6 = f 6 := pre_o (by omega)
  have p7 : h_pre f g bm 7 = f 7 := pre_o (by omega)
  have q5 : h_pre f g bm (8 + g * 13 + 5) = f (8 + g * 13 + 5) := pre_o (by omega)
  have q6 : h_pre f g bm (8 + g * 13 + 6) = f (8 + g * 13 + 6) := pre_o (by omega)
  rcases hc with hl | ⟨b2, s1, hpl, ps, pp⟩
  · have el : e_lost f g bm = 1 := by
      unfold e_lost
      rw [t_3, if_pos nb]
      by_cases z : f (8 + g * 13 + 3) = 0
      · rw [if_pos z]
      · rw [if_neg z, if_pos (hl.resolve_left z)]
    have ecm : e_comes f g bm = 0 := by
      unfold e_comes
      rw [el, if_neg (by decide)]
    have eg : e_goes f g bm = 0 := by
      unfold e_goes
      rw [el, if_neg (by decide)]
    have p3 : h_pre f g bm (8 + g * 13 + 3) = 0 := by
      rw [pre_3]
      by_cases z : bm = 2
      · rw [if_pos z]
      · rw [if_neg z, if_neg nb]
        exact hl.resolve_right z
    rw [ecm, eg, if_pos rfl, if_pos rfl, if_pos rfl, if_pos rfl, if_pos rfl, if_pos rfl, v_end_l p3]
    refine ⟨?_, ?_, ?_, ?_, ?_⟩
    · simp (disch := omega) only [pk_un, v_end1_o]
      rw [q5, Int32.sub_self]
    · simp (disch := omega) only [pk_un, v_end1_o]
      rw [q6, Int32.sub_self]
    · simp (disch := omega) only [pk_un, v_end1_o]
      exact p4
    · simp (disch := omega) only [pk_un, v_end1_o]
      rw [p7, Int32.sub_self]
    · simp (disch := omega) only [pk_un, v_end1_o]
      rw [p6, Int32.sub_self]
  · have el : e_lost f g bm = 0 := by
      unfold e_lost
      rw [t_3, if_pos nb, s1, if_neg (by decide), if_neg (by omega)]
    have pl : h_tell f g 2 = f (8 + g * 13 + 2) + 4 := by
      rw [t_2, if_pos nb, if_pos (by rw [s1]; decide)]
    have n3 : ¬ h_pre f g bm (8 + g * 13 + 3) = 0 := by
      rw [ps]
      decide
    have ecm : e_comes f g bm = if f (8 + g * 13 + 2) + 4 = 7 then 1 else 0 := by
      unfold e_comes
      rw [el, if_pos rfl, pl]
    have eg : e_goes f g bm = if f (8 + g * 13 + 2) + 4 = 1 then (if f (8 + g * 13 + 0) = 1 then 1 else 0) else 0 := by
      unfold e_goes
      rw [el, if_pos rfl, pl]
    have back : ¬ h_pre f g bm (8 + g * 13 + 2) = 4 → ¬ h_pre f g bm (8 + g * 13 + 2) = (-4) → e_comes f g bm = 0 → e_goes f g bm = 0 → (h_end (h_pre f g bm) (8 + g * 13) (8 + g * 13 + 5) - f (8 + g * 13 + 5) = (if e_comes f g bm = 0 then 0 else if f (8 + g * 13 + 0) = 3 then 1 else 0) ∧
    h_end (h_pre f g bm) (8 + g * 13) (8 + g * 13 + 6) - f (8 + g * 13 + 6) = (if e_goes f g bm = 0 then 0 else 1) ∧
    h_end (h_pre f g bm) (8 + g * 13) 4 = (if e_comes f g bm = 0 then (if e_goes f g bm = 0 then f 4 else if f 4 ≤ 0 then f 4 else f 4 - 1) else if f (8 + g * 13 + 0) = 3 then f 4 + 1 else (if e_goes f g bm = 0 then f 4 else if f 4 ≤ 0 then f 4 else f 4 - 1)) ∧
    h_end (h_pre f g bm) (8 + g * 13) 7 - f 7 = (if e_goes f g bm = 0 then 0 else if f 4 = 0 then 1 else 0) ∧
    h_end (h_pre f g bm) (8 + g * 13) 6 - f 6 = (if e_comes f g bm = 0 then 0 else if f (8 + g * 13 + 0) = 3 then (if f 4 + 1 ≤ h_end (h_pre f g bm) (8 + g * 13) 2 then 0 else 1) else 0)) := by
      intro x1 x2 x3 x4
      rw [x3, x4, if_pos rfl, if_pos rfl, if_pos rfl, if_pos rfl, if_pos rfl, if_pos rfl, v_end_b n3 x1 x2]
      refine ⟨?_, ?_, ?_, ?_, ?_⟩
      · simp (disch := omega) only [pk_un, v_end1_o]
        rw [q5, Int32.sub_self]
      · simp (disch := omega) only [pk_un, v_end1_o]
        rw [q6, Int32.sub_self]
      · simp (disch := omega) only [pk_un, v_end1_o]
        exact p4
      · simp (disch := omega) only [pk_un, v_end1_o]
        rw [p7, Int32.sub_self]
      · simp (disch := omega) only [pk_un, v_end1_o]
        rw [p6, Int32.sub_self]
    rcases hpl with ⟨e, z | z⟩ | ⟨e, z | z⟩
    · refine back ?_ ?_ ?_ ?_
      · rw [pp, e, z]
        decide
      · rw [pp, e, z]
        decide
      · rw [ecm, z]
        decide
      · rw [eg, z, if_neg (by decide)]
    · have x2 : h_pre f g bm (8 + g * 13 + 2) = (-4) := by
        rw [pp, e, z]
        decide
      have x1 : ¬ h_pre f g bm (8 + g * 13 + 2) = 4 := by
        rw [x2]
        decide
      have x3 : e_comes f g bm = 0 := by
        rw [ecm, z]
        decide
      have x4 : e_goes f g bm = 1 := by
        rw [eg, z, e]
        decide
      have H4 := h.1.2.2
      simp only [x3, x4, z00, z10, if_true, if_false]
      rw [v_end_x n3 x2]
      refine ⟨?_, ?_, ?_, ?_, ?_⟩
      · rw [v_less_o (by omega) (by omega), v_come_o (by omega) (by omega) (by omega) (by omega) (by omega), v_end1_o (by omega), q5, Int32.sub_self]
      · rw [v_less_o (by omega) (by omega), v_comew (by omega), v_end1_o (by omega), q6, i_s1]
      · rw [v_less4, v_come_o (by omega) (by omega) (by omega) (by omega) (by omega), v_end1_o (by omega), p4]
      · rw [v_less7, v_come_o (k := 4) (by omega) (by omega) (by omega) (by omega) (by omega), v_come_o (k := 7) (by omega) (by omega) (by omega) (by omega) (by omega), v_end1_o (k := 4) (by omega), v_end1_o (k := 7) (by omega), p4, p7]
        by_cases c : f 4 = 0
        · rw [if_pos c, if_pos (by rw [c]; decide), i_s1]
        · rw [if_neg c, if_neg (fun q => c (by rw [i_le, i_0] at q; rw [i_eq, i_0]; omega)), Int32.sub_self]
      · rw [v_less_o (by omega) (by omega), v_come_o (by omega) (by omega) (by omega) (by omega) (by omega), v_end1_o (by omega), p6, Int32.sub_self]
    · have x1 : h_pre f g bm (8 + g * 13 + 2) = 4 := by
        rw [pp, e, z]
        decide
      have x3 : e_comes f g bm = 1 := by
        rw [ecm, z]
        decide
      have x4 : e_goes f g bm = 0 := by
        rw [eg, z, if_neg (by decide)]
      simp only [x3, x4, z00, z10, if_true, if_false, if_pos e]
      rw [v_end_i n3 x1]
      refine ⟨?_, ?_, ?_, ?_, ?_⟩
      · rw [v_more_o (by omega) (by omega) (by omega), v_comew (by omega), v_end1_o (by omega), q5, i_s1]
      · rw [v_more_o (by omega) (by omega) (by omega), v_come_o (by omega) (by omega) (by omega) (by omega) (by omega), v_end1_o (by omega), q6, Int32.sub_self]
      · rw [v_more4, v_come_o (by omega) (by omega) (by omega) (by omega) (by omega), v_end1_o (by omega), p4]
      · rw [v_more_o (by omega) (by omega) (by omega), v_come_o (by omega) (by omega) (by omega) (by omega) (by omega), v_end1_o (by omega), p7, Int32.sub_self]
      · rw [v_more6, v_more_o (k := 2) (by omega) (by omega) (by omega), v_come_o (k := 2) (by omega) (by omega) (by omega) (by omega) (by omega), v_come_o (k := 4) (by omega) (by omega) (by omega) (by omega) (by omega), v_come_o (k := 6) (by omega) (by omega) (by omega) (by omega) (by omega), v_end1_o (k := 2) (by omega), v_end1_o (k := 4) (by omega), v_end1_o (k := 6) (by omega), p2, p4, p6]
        by_cases c : f 4 + 1 ≤ f 2
        · rw [if_pos c, if_pos c, Int32.sub_self]
        · rw [if_neg c, if_neg c, i_s1]
    · refine back ?_ ?_ ?_ ?_
      · rw [pp, e, z]
        decide
      · rw [pp, e, z]
        decide
      · rw [ecm, z]
        decide
      · rw [eg, z, if_neg (by decide)]
end EV
