/-! what holds of a row -/
def HI (N : Nat) (f : Nat → Int32) : Prop := (1 ≤ (f 0).toInt ∧ (f 0).toInt ≤ 200) ∧ (0 ≤ (f 3).toInt ∧ (f 3).toInt ≤ N) ∧ (0 ≤ (f 4).toInt ∧ (f 4).toInt ≤ (f 5).toInt ∧ (f 5).toInt ≤ 1000 + N)
def LI (f : Nat → Int32) (g : Nat) : Prop := (f (8 + g * 13 + 0) = 0 ∨ f (8 + g * 13 + 0) = 1 ∨ f (8 + g * 13 + 0) = 2 ∨ f (8 + g * 13 + 0) = 3) ∧ (f (8 + g * 13 + 0) = 0 ∨ ((0 ≤ (f (8 + g * 13 + 1)).toInt ∧ (f (8 + g * 13 + 1)).toInt ≤ (f 3).toInt) ∧ (f (8 + g * 13 + 3) = 0 ∨ (f (8 + g * 13 + 3) = 1 ∧ (f (8 + g * 13 + 2) = f (8 + g * 13 + 0) ∨ f (8 + g * 13 + 2) = f (8 + g * 13 + 0) - 4)))))
def CI (N : Nat) (f : Nat → Int32) (g : Nat) : Prop := (0 ≤ (f (8 + g * 13 + 5)).toInt ∧ (f (8 + g * 13 + 5)).toInt ≤ N) ∧ (0 ≤ (f (8 + g * 13 + 6)).toInt ∧ (f (8 + g * 13 + 6)).toInt ≤ N) ∧ (0 ≤ (f (8 + g * 13 + 10)).toInt ∧ (f (8 + g * 13 + 10)).toInt ≤ (f (8 + g * 13 + 5)).toInt + (f (8 + g * 13 + 6)).toInt) ∧ (((f (8 + g * 13 + 5)).toInt + (f (8 + g * 13 + 6)).toInt = 0 ∧ f (8 + g * 13 + 12) = -6) ∨ (0 < (f (8 + g * 13 + 5)).toInt + (f (8 + g * 13 + 6)).toInt ∧ 0 ≤ (f (8 + g * 13 + 12)).toInt))
def Inv (N : Nat) (f : Nat → Int32) : Prop := HI N f ∧ ∀ g, g < 6 → LI f g ∧ CI N f g
theorem HI.mono {N M : Nat} {f : Nat → Int32} (h : HI N f) (hm : N ≤ M) : HI M f := ⟨h.1, by have := h.2.1; omega, by have := h.2.2; omega⟩
theorem CI.mono {N M : Nat} {f : Nat → Int32} {g : Nat} (h : CI N f g) (hm : N ≤ M) : CI M f g := ⟨by have := h.1; omega, by have := h.2.1; omega, h.2.2.1, h.2.2.2⟩
theorem Inv.mono {N M : Nat} {f : Nat → Int32} (h : Inv N f) (hm : N ≤ M) : Inv M f := ⟨h.1.mono hm, fun g hg => ⟨(h.2 g hg).1, (h.2 g hg).2.mono hm⟩⟩
theorem HI.cong {N : Nat} {f F : Nat → Int32} (h : HI N f) (e0 : F 0 = f 0) (e3 : F 3 = f 3) (e4 : F 4 = f 4) (e5 : F 5 = f 5) : HI N F := by
  unfold HI at h ⊢
  rw [e0, e3, e4, e5]
  exact h
theorem LI.cong {f F : Nat → Int32} {g : Nat} (h : LI f g) (e : F 3 = f 3) (e0 : F (8 + g * 13 + 0) = f (8 + g * 13 + 0)) (e1 : F (8 + g * 13 + 1) = f (8 + g * 13 + 1)) (e2 : F (8 + g * 13 + 2) = f (8 + g * 13 + 2)) (e3 : F (8 + g * 13 + 3) = f (8 + g * 13 + 3)) : LI F g := by
  unfold LI at h ⊢
  rw [e, e0, e1, e2, e3]
  exact h
theorem CI.cong {N : Nat} {f F : Nat → Int32} {g : Nat} (h : CI N f g) (e5 : F (8 + g * 13 + 5) = f (8 + g * 13 + 5)) (e6 : F (8 + g * 13 + 6) = f (8 + g * 13 + 6)) (e10 : F (8 + g * 13 + 10) = f (8 + g * 13 + 10)) (e12 : F (8 + g * 13 + 12) = f (8 + g * 13 + 12)) : CI N F g := by
  unfold CI at h ⊢
  rw [e5, e6, e10, e12]
  exact h
theorem Inv.cong {N : Nat} {f F : Nat → Int32} (h : Inv N f) (e : ∀ k, k < 86 → F k = f k) : Inv N F :=
  ⟨h.1.cong (e 0 (by omega)) (e 3 (by omega)) (e 4 (by omega)) (e 5 (by omega)), fun g hg => ⟨(h.2 g hg).1.cong (e 3 (by omega)) (e _ (by omega)) (e _ (by omega)) (e _ (by omega)) (e _ (by omega)), (h.2 g hg).2.cong (e _ (by omega)) (e _ (by omega)) (e _ (by omega)) (e _ (by omega))⟩⟩
theorem i_inc {a : Int32} (h0 : -1000 ≤ a.toInt) (h1 : a.toInt ≤ 2000000) : (a + 1).toInt = a.toInt + 1 := by
  have e := i_add (a := a) (b := 1) (by rw [i_1]; omega) (by rw [i_1]; omega)
  rw [e, i_1]
theorem i_dec {a : Int32} (h0 : -1000 ≤ a.toInt) (h1 : a.toInt ≤ 2000000) : (a - 1).toInt = a.toInt - 1 := by
  have e := i_sub (a := a) (b := 1) (by rw [i_1]; omega) (by rw [i_1]; omega)
  rw [e, i_1]
/-- an end keeps what holds -/
theorem inv_end {N : Nat} {f : Nat → Int32} {g : Nat} (hg : g < 6) (hN : N ≤ 1000000) (hH : HI N f) (hL : ∀ j, j < 6 → j ≠ g → LI f j) (hC : ∀ j, j < 6 → CI N f j) (h0 : f (8 + g * 13 + 0) = 0) : Inv (N + 1) (h_end f (8 + g * 13)) := by
  obtain ⟨H0, H3, H4⟩ := id hH
  have hLg : LI (h_end f (8 + g * 13)) g := by
    have e : h_end f (8 + g * 13) (8 + g * 13 + 0) = 0 := by rw [v_end_o (by omega) (by omega) (by omega), h0]
    exact ⟨Or.inl e, Or.inl e⟩
  have hLo : ∀ j, j < 6 → LI (h_end f (8 + g * 13)) j := fun j hj => by
    by_cases e : j = g
    · exact e ▸ hLg
    · exact (hL j hj e).cong (v_end_o (by omega) (by omega) (by omega)) (v_end_o (by omega) (by omega) (by omega)) (v_end_o (by omega) (by omega) (by omega)) (v_end_o (by omega) (by omega) (by omega)) (v_end_o (by omega) (by omega) (by omega))
  have hCo : ∀ j, j < 6 → j ≠ g → CI (N + 1) (h_end f (8 + g * 13)) j := fun j hj e =>
    ((hC j hj).mono (by omega)).cong (v_end_o (by omega) (by omega) (by omega)) (v_end_o (by omega) (by omega) (by omega)) (v_end_o (by omega) (by omega) (by omega)) (v_end_o (by omega) (by omega) (by omega))
  have fin : HI (N + 1) (h_end f (8 + g * 13)) → CI (N + 1) (h_end f (8 + g * 13)) g → Inv (N + 1) (h_end f (8 + g * 13)) := fun a b => ⟨a, fun j hj => ⟨hLo j hj, by
    by_cases e : j = g
    · exact e ▸ b
    · exact hCo j hj e⟩⟩
  obtain ⟨C5, C6, C10, C12⟩ := hC g hg
  refine fin ?_ ?_
  · by_cases c : f (8 + g * 13 + 3) = 0
    · rw [v_end_l c]
      exact (hH.mono (by omega)).cong (by simp (disch := omega) only [pk_un, v_end1_o]) (by simp (disch := omega) only [pk_un, v_end1_o]) (by simp (disch := omega) only [pk_un, v_end1_o]) (by simp (disch := omega) only [pk_un, v_end1_o])
    · by_cases c2 : f (8 + g * 13 + 2) = 4
      · rw [v_end_i c c2]
        unfold HI
        rw [v_more4, v_more5, v_more_o (k := 0) (by omega) (by omega) (by omega), v_more_o (k := 3) (by omega) (by omega) (by omega)]
        rw [v_come_o (k := 0) (by omega) (by omega) (by omega) (by omega) (by omega), v_come_o (k := 3) (by omega) (by omega) (by omega) (by omega) (by omega), v_come_o (k := 4) (by omega) (by omega) (by omega) (by omega) (by omega), v_come_o (k := 5) (by omega) (by omega) (by omega) (by omega) (by omega), v_end1_o (k := 0) (by omega), v_end1_o (k := 3) (by omega), v_end1_o (k := 4) (by omega), v_end1_o (k := 5) (by omega)]
        have e4 : (f 4 + 1).toInt = (f 4).toInt + 1 := i_inc (by omega) (by omega)
        refine ⟨H0, by omega, by omega, ?_, ?_⟩
        · split
          · rename_i q
            rw [i_le] at q
            omega
          · omega
        · split
          · omega
          · omega
      · by_cases c3 : f (8 + g * 13 + 2) = (-4)
        · rw [v_end_x c c3]
          unfold HI
          rw [v_less4, v_less_o (k := 5) (by omega) (by omega), v_less_o (k := 0) (by omega) (by omega), v_less_o (k := 3) (by omega) (by omega)]
          rw [v_come_o (k := 0) (by omega) (by omega) (by omega) (by omega) (by omega), v_come_o (k := 3) (by omega) (by omega) (by omega) (by omega) (by omega), v_come_o (k := 4) (by omega) (by omega) (by omega) (by omega) (by omega), v_come_o (k := 5) (by omega) (by omega) (by omega) (by omega) (by omega), v_end1_o (k := 0) (by omega), v_end1_o (k := 3) (by omega), v_end1_o (k := 4) (by omega), v_end1_o (k := 5) (by omega)]
          have e4 : (f 4 - 1).toInt = (f 4).toInt - 1 := i_dec (by omega) (by omega)
          refine ⟨H0, by omega, ?_, ?_, by omega⟩
          · split
            · omega
            · rename_i q
              rw [i_le, i_0] at q
              omega
          · split
            · omega
            · omega
        · rw [v_end_b c c2 c3]
          exact (hH.mono (by omega)).cong (by simp (disch := omega) only [pk_un, v_end1_o]) (by simp (disch := omega) only [pk_un, v_end1_o]) (by simp (disch := omega) only [pk_un, v_end1_o]) (by simp (disch := omega) only [pk_un, v_end1_o])
  · by_cases c : f (8 + g * 13 + 3) = 0
    · rw [v_end_l c]
      exact ((hC g hg).mono (by omega)).cong (by simp (disch := omega) only [pk_un, v_end1_o]) (by simp (disch := omega) only [pk_un, v_end1_o]) (by simp (disch := omega) only [pk_un, v_end1_o]) (by simp (disch := omega) only [pk_un, v_end1_o])
    · by_cases c2 : f (8 + g * 13 + 2) = 4
      · rw [v_end_i c c2]
        unfold CI
        have e5 : (f (8 + g * 13 + 5) + 1).toInt = (f (8 + g * 13 + 5)).toInt + 1 := i_inc (by omega) (by omega)
        have e10 : (f (8 + g * 13 + 10) + 1).toInt = (f (8 + g * 13 + 10)).toInt + 1 := i_inc (by omega) (by omega)
        rw [v_more_o (k := 8 + g * 13 + 5) (by omega) (by omega) (by omega), v_more_o (k := 8 + g * 13 + 6) (by omega) (by omega) (by omega), v_more_o (k := 8 + g * 13 + 10) (by omega) (by omega) (by omega), v_more_o (k := 8 + g * 13 + 12) (by omega) (by omega) (by omega), v_comew (by omega), v_come_o (k := 8 + g * 13 + 6) (by omega) (by omega) (by omega) (by omega) (by omega), v_come12 (by omega) (by omega), v_come10 (by omega), v_end1_o (k := 8 + g * 13 + 5) (by omega), v_end1_o (k := 8 + g * 13 + 6) (by omega), v_end1_o (k := 8 + g * 13 + 10) (by omega), v_end1_o (k := 3) (by omega)]
        refine ⟨by omega, by omega, ?_, Or.inr ⟨by omega, by omega⟩⟩
        split
        · omega
        · omega
      · by_cases c3 : f (8 + g * 13 + 2) = (-4)
        · rw [v_end_x c c3]
          unfold CI
          have e6 : (f (8 + g * 13 + 6) + 1).toInt = (f (8 + g * 13 + 6)).toInt + 1 := i_inc (by omega) (by omega)
          have e10 : (f (8 + g * 13 + 10) + 1).toInt = (f (8 + g * 13 + 10)).toInt + 1 := i_inc (by omega) (by omega)
          rw [v_less_o (k := 8 + g * 13 + 5) (by omega) (by omega), v_less_o (k := 8 + g * 13 + 6) (by omega) (by omega), v_less_o (k := 8 + g * 13 + 10) (by omega) (by omega), v_less_o (k := 8 + g * 13 + 12) (by omega) (by omega), v_comew (by omega), v_come_o (k := 8 + g * 13 + 5) (by omega) (by omega) (by omega) (by omega) (by omega), v_come12 (by omega) (by omega), v_come10 (by omega), v_end1_o (k := 8 + g * 13 + 5) (by omega), v_end1_o (k := 8 + g * 13 + 6) (by omega), v_end1_o (k := 8 + g * 13 + 10) (by omega), v_end1_o (k := 3) (by omega)]
          refine ⟨by omega, by omega, ?_, Or.inr ⟨by omega, by omega⟩⟩
          split
          · omega
          · omega
        · rw [v_end_b c c2 c3]
          exact ((hC g hg).mono (by omega)).cong (by simp (disch := omega) only [pk_un, v_end1_o]) (by simp (disch := omega) only [pk_un, v_end1_o]) (by simp (disch := omega) only [pk_un, v_end1_o]) (by simp (disch := omega) only [pk_un, v_end1_o])
/-- looks and beams -/
theorem lk_four {b : Int32} {bm : Nat} (hb : b = 0 ∨ b = 1 ∨ b = 2 ∨ b = 3) (hbm : bm < 3) : (b ^^^ b_tb bm) = 0 ∨ (b ^^^ b_tb bm) = 1 ∨ (b ^^^ b_tb bm) = 2 ∨ (b ^^^ b_tb bm) = 3 := by
  rcases (show bm = 0 ∨ bm = 1 ∨ bm = 2 by omega) with z | z | z <;> subst z <;> rcases hb with h | h | h | h <;> subst h <;> decide
theorem pl_ok {b p : Int32} {bm : Nat} (hb : b = 0 ∨ b = 1 ∨ b = 2 ∨ b = 3) (hbm : bm < 2) (hk : ¬ (b ^^^ b_tb bm) = 0) (hp : b = 0 ∨ p = b ∨ p = b - 4) : ((if b = 0 then 0 else p) + (if (b ^^^ b_tb bm) = (b + 1) &&& 3 then 1 else (-1))) = (b ^^^ b_tb bm) ∨ ((if b = 0 then 0 else p) + (if (b ^^^ b_tb bm) = (b + 1) &&& 3 then 1 else (-1))) = (b ^^^ b_tb bm) - 4 := by
  by_cases z : b = 0
  · subst z
    rw [if_pos rfl]
    rcases (show bm = 0 ∨ bm = 1 by omega) with z | z <;> subst z <;> decide
  · rw [if_neg z]
    rcases (show bm = 0 ∨ bm = 1 by omega) with q | q <;> subst q <;> rcases hb with h | h | h | h <;> subst h <;> rcases hp with h2 | h2 | h2 <;> first | exact absurd h2 (by decide) | exact absurd rfl z | (subst h2; first | decide | exact absurd (by decide) hk)
/-- an event keeps what holds -/
theorem inv_change {N : Nat} {f : Nat → Int32} {g bm : Nat} (hg : g < 6) (hbm : bm < 3) (hN : N ≤ 1000000) (h : Inv N f) : Inv (N + 1) (h_change f g bm) := by
  obtain ⟨hH, hG⟩ := h
  have pH : HI N (h_pre f g bm) := hH.cong (pre_o (by omega)) (pre_o (by omega)) (pre_o (by omega)) (pre_o (by omega))
  have pL : ∀ j, j < 6 → j ≠ g → LI (h_pre f g bm) j := fun j hj e => (hG j hj).1.cong (pre_o (by omega)) (pre_o (by omega)) (pre_o (by omega)) (pre_o (by omega)) (pre_o (by omega))
  have pC : ∀ j, j < 6 → CI N (h_pre f g bm) j := fun j hj => (hG j hj).2.cong (pre_o (by omega)) (pre_o (by omega)) (pre_o (by omega)) (pre_o (by omega))
  rw [ch_pre]
  by_cases c : h_look f (8 + g * 13) bm = 0
  · rw [if_pos c]
    exact inv_end hg hN pH pL pC ((pre_0 f g bm).trans c)
  · rw [if_neg c]
    refine Inv.mono (N := N) ⟨pH, fun j hj => ⟨?_, pC j hj⟩⟩ (by omega)
    by_cases e : j = g
    · subst e
      obtain ⟨l4, l5⟩ := (hG j hj).1
      obtain ⟨-, H3, -⟩ := hH
      have k4 : h_look f (8 + j * 13) bm = 0 ∨ h_look f (8 + j * 13) bm = 1 ∨ h_look f (8 + j * 13) bm = 2 ∨ h_look f (8 + j * 13) bm = 3 := lk_four l4 hbm
      unfold LI
      rw [pre_0, pre_1, pre_2, pre_3, pre_o (k := 3) (by omega)]
      refine ⟨k4, Or.inr ⟨?_, ?_⟩⟩
      · by_cases b : f (8 + j * 13 + 0) = 0
        · rw [if_pos b]
          omega
        · rw [if_neg b]
          exact (l5.resolve_left b).1
      · by_cases b2 : bm = 2
        · rw [if_pos b2]
          exact Or.inl rfl
        · rw [if_neg b2, if_neg b2]
          by_cases b : f (8 + j * 13 + 0) = 0
          · refine Or.inr ⟨if_pos b, ?_⟩
            exact pl_ok l4 (by omega) c (Or.inl b)
          · rw [if_neg b]
            rcases (l5.resolve_left b).2 with q | ⟨q, q2⟩
            · exact Or.inl q
            · refine Or.inr ⟨q, ?_⟩
              exact pl_ok l4 (bm := bm) (by omega) c (Or.inr q2)
    · exact pL j hj e
/-- a gate is cleared -/
theorem inv_free {N : Nat} {f : Nat → Int32} {g : Nat} (hg : g < 6) (hN : N ≤ 1000000) (h : Inv N f) : Inv (N + 1) (h_free f g) := by
  obtain ⟨hH, hG⟩ := h
  have po : ∀ k, (k < 8 + g * 13 ∨ 8 + g * 13 + 4 ≤ k) → upd (upd f (8 + g * 13 + 0) 0) (8 + g * 13 + 3) 0 k = f k := fun k hk => by rw [pk_un (by omega), pk_un (by omega)]
  refine inv_end hg hN (hH.cong (po _ (by omega)) (po _ (by omega)) (po _ (by omega)) (po _ (by omega))) (fun j hj e => (hG j hj).1.cong (po _ (by omega)) (po _ (by omega)) (po _ (by omega)) (po _ (by omega)) (po _ (by omega))) (fun j hj => (hG j hj).2.cong (po _ (by omega)) (po _ (by omega)) (po _ (by omega)) (po _ (by omega))) ?_
  rw [pk_un (by omega), pk_us]
/-- ticks go by -/
theorem inv_goBy {N k : Nat} {f : Nat → Int32} {t : Int32} (hN : N ≤ 1000000) (ht : 0 ≤ t.toInt ∧ t.toInt ≤ k) (hk : k ≤ 1000) (h : Inv N f) : Inv (N + k) (h_goBy f t) ∧ (f 3 + t).toInt = (f 3).toInt + t.toInt := by
  obtain ⟨hH, hG⟩ := h
  obtain ⟨H0, H3, H4⟩ := id hH
  have e3 : (f 3 + t).toInt = (f 3).toInt + t.toInt := i_add (by omega) (by omega)
  have po : ∀ j, j ≠ 3 → h_goBy f t j = f j := fun j hj => pk_un hj
  have p3 : h_goBy f t 3 = f 3 + t := pk_us
  refine ⟨⟨?_, fun g hg => ⟨?_, ((hG g hg).2.mono (by omega)).cong (po _ (by omega)) (po _ (by omega)) (po _ (by omega)) (po _ (by omega))⟩⟩, e3⟩
  · unfold HI
    rw [p3, po 0 (by omega), po 4 (by omega), po 5 (by omega), e3]
    omega
  · obtain ⟨l4, l5⟩ := (hG g hg).1
    unfold LI
    rw [p3, po (8 + g * 13 + 0) (by omega), po (8 + g * 13 + 1) (by omega), po (8 + g * 13 + 2) (by omega), po (8 + g * 13 + 3) (by omega), e3]
    exact ⟨l4, l5.imp id (fun q => ⟨by have := q.1; omega, q.2⟩)⟩
/-- people are counted by hand -/
theorem inv_become {N : Nat} {f : Nat → Int32} {x : Int32} (hx : 0 ≤ x.toInt ∧ x.toInt ≤ 999) (h : Inv N f) : Inv N (h_become f x) := by
  obtain ⟨hH, hG⟩ := h
  obtain ⟨H0, H3, H4⟩ := id hH
  refine ⟨?_, fun g hg => ⟨(hG g hg).1.cong (v_bec_o (by omega) (by omega)) (v_bec_o (by omega) (by omega)) (v_bec_o (by omega) (by omega)) (v_bec_o (by omega) (by omega)) (v_bec_o (by omega) (by omega)), (hG g hg).2.cong (v_bec_o (by omega) (by omega)) (v_bec_o (by omega) (by omega)) (v_bec_o (by omega) (by omega)) (v_bec_o (by omega) (by omega))⟩⟩
  unfold HI
  rw [v_bec4, v_bec5, v_bec_o (k := 0) (by omega) (by omega), v_bec_o (k := 3) (by omega) (by omega)]
  refine ⟨H0, H3, hx.1, ?_, ?_⟩
  · split
    · rename_i q
      rw [i_le] at q
      exact q
    · omega
  · split
    · omega
    · omega
/-- a setting is changed -/
theorem inv_set {N : Nat} {f : Nat → Int32} {k : Nat} {x : Int32} (hk : k < 3) (hx : k = 0 → 1 ≤ x.toInt ∧ x.toInt ≤ 200) (h : Inv N f) : Inv N (upd f k x) := by
  obtain ⟨hH, hG⟩ := h
  obtain ⟨H0, H3, H4⟩ := id hH
  refine ⟨?_, fun g hg => ⟨(hG g hg).1.cong (pk_un (by omega)) (pk_un (by omega)) (pk_un (by omega)) (pk_un (by omega)) (pk_un (by omega)), (hG g hg).2.cong (pk_un (by omega)) (pk_un (by omega)) (pk_un (by omega)) (pk_un (by omega))⟩⟩
  unfold HI
  rw [pk_un (f := f) (j := 3) (by omega), pk_un (f := f) (j := 4) (by omega), pk_un (f := f) (j := 5) (by omega)]
  refine ⟨?_, H3, H4⟩
  by_cases e : k = 0
  · subst e
    rw [pk_us]
    exact hx rfl
  · rw [pk_un (fun q => e q.symm)]
    exact H0
