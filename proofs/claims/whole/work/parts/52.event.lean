/-! events -/
theorem HR.part {N : Nat} {f a f2 a2 : Nat → Int32} {g : Nat} (h : HR N f a) (hf : ∀ k, (k < 8 + 13 * g ∨ 8 + 13 * g + 4 ≤ k) → f2 k = f k) (ha : ∀ k, (k < 8 + 13 * g ∨ 8 + 13 * g + 4 ≤ k) → a2 k = a k) : HR N f2 a2 := by
  unfold HR at h ⊢
  rw [hf 0 (by omega), hf 1 (by omega), hf 2 (by omega), hf 3 (by omega), hf 4 (by omega), hf 5 (by omega), hf 6 (by omega), hf 7 (by omega), ha 0 (by omega), ha 1 (by omega), ha 2 (by omega), ha 3 (by omega), ha 4 (by omega), ha 5 (by omega), ha 6 (by omega), ha 7 (by omega)]
  exact h
theorem CR.part {N : Nat} {f a f2 a2 : Nat → Int32} {g : Nat} (h : CR N f a g) (hf : ∀ k, (k < 8 + 13 * g ∨ 8 + 13 * g + 4 ≤ k) → f2 k = f k) (ha : ∀ k, (k < 8 + 13 * g ∨ 8 + 13 * g + 4 ≤ k) → a2 k = a k) : CR N f2 a2 g := by
  unfold CR at h ⊢
  rw [hf (8 + g * 13 + 4) (by omega), hf (8 + g * 13 + 5) (by omega), hf (8 + g * 13 + 6) (by omega), hf (8 + g * 13 + 7) (by omega), hf (8 + g * 13 + 8) (by omega), hf (8 + g * 13 + 9) (by omega), hf (8 + g * 13 + 10) (by omega), hf (8 + g * 13 + 11) (by omega), hf (8 + g * 13 + 12) (by omega), ha (8 + 13 * g + 4) (by omega), ha (8 + 13 * g + 5) (by omega), ha (8 + 13 * g + 6) (by omega), ha (8 + 13 * g + 7) (by omega), ha (8 + 13 * g + 8) (by omega), ha (8 + 13 * g + 9) (by omega), ha (8 + 13 * g + 10) (by omega), ha (8 + 13 * g + 11) (by omega), ha (8 + 13 * g + 12) (by omega)]
  exact h
theorem Row.part {N : Nat} {f a f2 a2 : Nat → Int32} {g : Nat} (h : Row N f a) (hg : g < 6) (hf : ∀ k, (k < 8 + 13 * g ∨ 8 + 13 * g + 4 ≤ k) → f2 k = f k) (ha : ∀ k, (k < 8 + 13 * g ∨ 8 + 13 * g + 4 ≤ k) → a2 k = a k) (hL : a2 (8 + 13 * g + 0) = f2 (8 + g * 13 + 0)) (hU : UR f2 a2 g) : Row N f2 a2 := by
  refine ⟨h.1.part hf ha, fun g2 hg2 => ?_⟩
  by_cases c : g2 = g
  · subst c
    exact ⟨hL, (h.2 g2 hg2).2.1.part hf ha, hU⟩
  · exact (h.2 g2 hg2).cong (hf 3 (by omega)) (fun k h1 h2 => hf k (by omega)) (fun k h1 h2 => ha k (by omega))
theorem EN.row {N : Nat} {f a f1 a1 f2 a2 : Nat → Int32} {g : Nat} (h : Row N f a) (hE : EN N f1 a1 f2 a2 g) (hf : ∀ k, (k < 8 + 13 * g ∨ 8 + 13 * g + 4 ≤ k) → f1 k = f k) (ha : ∀ k, (k < 8 + 13 * g ∨ 8 + 13 * g + 4 ≤ k) → a1 k = a k) (h0 : f1 (8 + g * 13 + 0) = 0) : Row (N + 1) f2 a2 := by
  obtain ⟨hH, hC, h3, ⟨z0, z1, z2, z3⟩, hL, ho⟩ := hE
  refine ⟨hH, fun g2 hg2 => ?_⟩
  by_cases c : g2 = g
  · subst c
    exact ⟨by rw [z0, hL, h0], hC, Or.inl ⟨by rw [hL, h0], z1, z2, z3⟩⟩
  · refine ((h.2 g2 hg2).mono (Nat.le_succ N)).cong (by rw [h3, hf 3 (by omega)]) (fun k h1 h2 => ?_) (fun k h1 h2 => ?_)
    · rw [(ho k (by omega) (by omega)).1, hf k (by omega)]
    · rw [(ho k (by omega) (by omega)).2, ha k (by omega)]
theorem e_then {bm : Nat} (hbm : bm < 3) {x : Int32} (hx : x = 0 ∨ x = 1 ∨ x = 2 ∨ x = 3) : m_lb x (nI bm) = x ^^^ b_tb bm := by
  match bm, hbm with
  | 0, _ => rcases hx with h | h | h | h <;> subst h <;> decide
  | 1, _ => rcases hx with h | h | h | h <;> subst h <;> decide
  | 2, _ => rcases hx with h | h | h | h <;> subst h <;> decide
  | k + 3, h9 => exact absurd h9 (by omega)
theorem GR.look {N : Nat} {f a : Nat → Int32} {g : Nat} (h : GR N f a g) : f (8 + g * 13 + 0) = 0 ∨ f (8 + g * 13 + 0) = 1 ∨ f (8 + g * 13 + 0) = 2 ∨ f (8 + g * 13 + 0) = 3 := by
  rcases h.2.2 with ⟨h1, -⟩ | ⟨h1, -⟩
  · exact Or.inl h1
  · exact Or.inr h1
set_option maxHeartbeats 4000000 in
theorem e_ev_0_0 {N : Nat} {f a : Nat → Int32} {g : Nat} (hg : g < 6) (hN : N ≤ 1000000) (hR : Row N f a) (hb : f (8 + g * 13 + 0) = 0) : Row (N + 1) (h_change f g 0) (m_hap a g 0) ∧ m_hap a g 0 (8 + 13 * g + 0) = 1 := by
  have hGg := hR.2 g hg
  obtain ⟨eL, hC, hU⟩ := hGg
  have ek : (0 : Int32) ^^^ b_tb 0 = 1 := by decide
  have em : m_lb 0 (nI 0) = 1 := by decide
  have eL2 : a (8 + 13 * g + 0) = 0 := by rw [eL, hb]
  rcases hU with ⟨-, u1, u2, u3⟩ | ⟨u0, -⟩
  case inr => rw [hb] at u0; exact absurd u0 (by decide)
  obtain ⟨f1, ef1⟩ : ∃ z : Nat → Int32, z = upd (upd (upd (upd (upd f (8 + g * 13 + 1) (f 3)) (8 + g * 13 + 2) 0) (8 + g * 13 + 3) 1) (8 + g * 13 + 2) ((upd (upd (upd f (8 + g * 13 + 1) (f 3)) (8 + g * 13 + 2) 0) (8 + g * 13 + 3) 1) (8 + g * 13 + 2) + 1)) (8 + g * 13 + 0) 1 := ⟨_, rfl⟩
  obtain ⟨a1, ea1⟩ : ∃ z : Nat → Int32, z = m_add (upd (upd (upd (upd a (8 + 13 * g + 1) (a 3)) (8 + 13 * g + 2) 0) (8 + 13 * g + 3) 1) (8 + 13 * g + 0) 1) (8 + 13 * g + 2) 1 := ⟨_, rfl⟩
  have ef : h_change f g 0 = f1 := by
    rw [ef1]
    unfold h_change h_change1 h_change2 h_change3 h_look h_begin
    rw [hb, ek]
    simp (config := {decide := true}) only [if_true, if_false]
  have ea : m_hap a g 0 = a1 := by
    rw [ea1]
    unfold m_hap m_then m_ha1 m_ha2
    rw [eL2, em]
    rw [if_neg (fun z : ¬ a (8 + 13 * g + 1) = -6 => z u1)]
    have em2 : m_rem ((0 : Int32) + 1) 4 = 1 := by decide
    rw [em2]
    simp (config := {decide := true}) only [if_true, if_false]
  rw [ef, ea]
  have hf : ∀ k, (k < 8 + 13 * g ∨ 8 + 13 * g + 4 ≤ k) → f1 k = f k := fun k hk => by rw [ef1]; simp (disch := omega) only [pk_un]
  have ha : ∀ k, (k < 8 + 13 * g ∨ 8 + 13 * g + 4 ≤ k) → a1 k = a k := fun k hk => by rw [ea1]; simp (disch := omega) only [pk_un, w_add_o]
  have f10 : f1 (8 + g * 13 + 0) = 1 := by rw [ef1]; exact pk_us
  have a10 : a1 (8 + 13 * g + 0) = 1 := by rw [ea1]; simp (disch := omega) only [pk_un, pk_us, w_add_o]
  have fv1 : f1 (8 + g * 13 + 1) = f 3 := by rw [ef1]; simp (disch := omega) only [pk_un, pk_us, w_add_o, w_add_s]
  have av1 : a1 (8 + 13 * g + 1) = a 3 := by rw [ea1]; simp (disch := omega) only [pk_un, pk_us, w_add_o, w_add_s]
  have fv2 : f1 (8 + g * 13 + 2) = 0 + 1 := by rw [ef1]; simp (disch := omega) only [pk_un, pk_us, w_add_o, w_add_s]
  have av2 : a1 (8 + 13 * g + 2) = 0 + 1 := by rw [ea1]; simp (disch := omega) only [pk_un, pk_us, w_add_o, w_add_s]
  have fv3 : f1 (8 + g * 13 + 3) = 1 := by rw [ef1]; simp (disch := omega) only [pk_un, pk_us, w_add_o, w_add_s]
  have av3 : a1 (8 + 13 * g + 3) = 1 := by rw [ea1]; simp (disch := omega) only [pk_un, pk_us, w_add_o, w_add_s]
  refine ⟨(hR.part hg hf ha (by rw [f10, a10]) ?_).mono (Nat.le_succ N), a10⟩
  have e3 : a 3 = f 3 := hR.1.1.2.2.2.1
  have ht := hR.1.2.2.1
  have f13 : f1 3 = f 3 := hf 3 (by omega)
  refine Or.inr ⟨Or.inl f10, by rw [fv1, av1, e3], by rw [fv2, av2], by rw [fv3, av3], ⟨by rw [fv1]; exact ht.1, by rw [fv1, f13]; exact Int.le_refl _⟩, Or.inr ⟨fv3, Or.inl (by rw [fv2, f10]; decide)⟩⟩
set_option maxHeartbeats 4000000 in
theorem e_ev_0_1 {N : Nat} {f a : Nat → Int32} {g : Nat} (hg : g < 6) (hN : N ≤ 1000000) (hR : Row N f a) (hb : f (8 + g * 13 + 0) = 0) : Row (N + 1) (h_change f g 1) (m_hap a g 1) ∧ m_hap a g 1 (8 + 13 * g + 0) = 3 := by
  have hGg := hR.2 g hg
  obtain ⟨eL, hC, hU⟩ := hGg
  have ek : (0 : Int32) ^^^ b_tb 1 = 3 := by decide
  have em : m_lb 0 (nI 1) = 3 := by decide
  have eL2 : a (8 + 13 * g + 0) = 0 := by rw [eL, hb]
  rcases hU with ⟨-, u1, u2, u3⟩ | ⟨u0, -⟩
  case inr => rw [hb] at u0; exact absurd u0 (by decide)
  obtain ⟨f1, ef1⟩ : ∃ z : Nat → Int32, z = upd (upd (upd (upd (upd f (8 + g * 13 + 1) (f 3)) (8 + g * 13 + 2) 0) (8 + g * 13 + 3) 1) (8 + g * 13 + 2) ((upd (upd (upd f (8 + g * 13 + 1) (f 3)) (8 + g * 13 + 2) 0) (8 + g * 13 + 3) 1) (8 + g * 13 + 2) + (-1))) (8 + g * 13 + 0) 3 := ⟨_, rfl⟩
  obtain ⟨a1, ea1⟩ : ∃ z : Nat → Int32, z = m_add (upd (upd (upd (upd a (8 + 13 * g + 1) (a 3)) (8 + 13 * g + 2) 0) (8 + 13 * g + 3) 1) (8 + 13 * g + 0) 3) (8 + 13 * g + 2) (-1) := ⟨_, rfl⟩
  have ef : h_change f g 1 = f1 := by
    rw [ef1]
    unfold h_change h_change1 h_change2 h_change3 h_look h_begin
    rw [hb, ek]
    simp (config := {decide := true}) only [if_true, if_false]
  have ea : m_hap a g 1 = a1 := by
    rw [ea1]
    unfold m_hap m_then m_ha1 m_ha2
    rw [eL2, em]
    rw [if_neg (fun z : ¬ a (8 + 13 * g + 1) = -6 => z u1)]
    have em2 : m_rem ((0 : Int32) + 1) 4 = 1 := by decide
    rw [em2]
    simp (config := {decide := true}) only [if_true, if_false]
  rw [ef, ea]
  have hf : ∀ k, (k < 8 + 13 * g ∨ 8 + 13 * g + 4 ≤ k) → f1 k = f k := fun k hk => by rw [ef1]; simp (disch := omega) only [pk_un]
  have ha : ∀ k, (k < 8 + 13 * g ∨ 8 + 13 * g + 4 ≤ k) → a1 k = a k := fun k hk => by rw [ea1]; simp (disch := omega) only [pk_un, w_add_o]
  have f10 : f1 (8 + g * 13 + 0) = 3 := by rw [ef1]; exact pk_us
  have a10 : a1 (8 + 13 * g + 0) = 3 := by rw [ea1]; simp (disch := omega) only [pk_un, pk_us, w_add_o]
  have fv1 : f1 (8 + g * 13 + 1) = f 3 := by rw [ef1]; simp (disch := omega) only [pk_un, pk_us, w_add_o, w_add_s]
  have av1 : a1 (8 + 13 * g + 1) = a 3 := by rw [ea1]; simp (disch := omega) only [pk_un, pk_us, w_add_o, w_add_s]
  have fv2 : f1 (8 + g * 13 + 2) = 0 + (-1) := by rw [ef1]; simp (disch := omega) only [pk_un, pk_us, w_add_o, w_add_s]
  have av2 : a1 (8 + 13 * g + 2) = 0 + (-1) := by rw [ea1]; simp (disch := omega) only [pk_un, pk_us, w_add_o, w_add_s]
  have fv3 : f1 (8 + g * 13 + 3) = 1 := by rw [ef1]; simp (disch := omega) only [pk_un, pk_us, w_add_o, w_add_s]
  have av3 : a1 (8 + 13 * g + 3) = 1 := by rw [ea1]; simp (disch := omega) only [pk_un, pk_us, w_add_o, w_add_s]
  refine ⟨(hR.part hg hf ha (by rw [f10, a10]) ?_).mono (Nat.le_succ N), a10⟩
  have e3 : a 3 = f 3 := hR.1.1.2.2.2.1
  have ht := hR.1.2.2.1
  have f13 : f1 3 = f 3 := hf 3 (by omega)
  refine Or.inr ⟨Or.inr (Or.inr f10), by rw [fv1, av1, e3], by rw [fv2, av2], by rw [fv3, av3], ⟨by rw [fv1]; exact ht.1, by rw [fv1, f13]; exact Int.le_refl _⟩, Or.inr ⟨fv3, Or.inr (by rw [fv2, f10]; decide)⟩⟩
set_option maxHeartbeats 4000000 in
theorem e_ev_0_2 {N : Nat} {f a : Nat → Int32} {g : Nat} (hg : g < 6) (hN : N ≤ 1000000) (hR : Row N f a) (hb : f (8 + g * 13 + 0) = 0) : Row (N + 1) (h_change f g 2) (m_hap a g 2) ∧ m_hap a g 2 (8 + 13 * g + 0) = 2 := by
  have hGg := hR.2 g hg
  obtain ⟨eL, hC, hU⟩ := hGg
  have ek : (0 : Int32) ^^^ b_tb 2 = 2 := by decide
  have em : m_lb 0 (nI 2) = 2 := by decide
  have eL2 : a (8 + 13 * g + 0) = 0 := by rw [eL, hb]
  rcases hU with ⟨-, u1, u2, u3⟩ | ⟨u0, -⟩
  case inr => rw [hb] at u0; exact absurd u0 (by decide)
  obtain ⟨f1, ef1⟩ : ∃ z : Nat → Int32, z = upd (upd (upd (upd (upd f (8 + g * 13 + 1) (f 3)) (8 + g * 13 + 2) 0) (8 + g * 13 + 3) 1) (8 + g * 13 + 3) 0) (8 + g * 13 + 0) 2 := ⟨_, rfl⟩
  obtain ⟨a1, ea1⟩ : ∃ z : Nat → Int32, z = upd (upd (upd (upd (upd a (8 + 13 * g + 1) (a 3)) (8 + 13 * g + 2) 0) (8 + 13 * g + 3) 1) (8 + 13 * g + 0) 2) (8 + 13 * g + 3) 0 := ⟨_, rfl⟩
  have ef : h_change f g 2 = f1 := by
    rw [ef1]
    unfold h_change h_change1 h_change2 h_change3 h_look h_begin
    rw [hb, ek]
    simp (config := {decide := true}) only [if_true, if_false]
  have ea : m_hap a g 2 = a1 := by
    rw [ea1]
    unfold m_hap m_then m_ha1 m_ha2
    rw [eL2, em]
    rw [if_neg (fun z : ¬ a (8 + 13 * g + 1) = -6 => z u1)]
    have em2 : m_rem ((0 : Int32) + 1) 4 = 1 := by decide
    rw [em2]
    simp (config := {decide := true}) only [if_true, if_false]
  rw [ef, ea]
  have hf : ∀ k, (k < 8 + 13 * g ∨ 8 + 13 * g + 4 ≤ k) → f1 k = f k := fun k hk => by rw [ef1]; simp (disch := omega) only [pk_un]
  have ha : ∀ k, (k < 8 + 13 * g ∨ 8 + 13 * g + 4 ≤ k) → a1 k = a k := fun k hk => by rw [ea1]; simp (disch := omega) only [pk_un, w_add_o]
  have f10 : f1 (8 + g * 13 + 0) = 2 := by rw [ef1]; exact pk_us
  have a10 : a1 (8 + 13 * g + 0) = 2 := by rw [ea1]; simp (disch := omega) only [pk_un, pk_us, w_add_o]
  have fv1 : f1 (8 + g * 13 + 1) = f 3 := by rw [ef1]; simp (disch := omega) only [pk_un, pk_us, w_add_o, w_add_s]
  have av1 : a1 (8 + 13 * g + 1) = a 3 := by rw [ea1]; simp (disch := omega) only [pk_un, pk_us, w_add_o, w_add_s]
  have fv2 : f1 (8 + g * 13 + 2) = 0 := by rw [ef1]; simp (disch := omega) only [pk_un, pk_us, w_add_o, w_add_s]
  have av2 : a1 (8 + 13 * g + 2) = 0 := by rw [ea1]; simp (disch := omega) only [pk_un, pk_us, w_add_o, w_add_s]
  have fv3 : f1 (8 + g * 13 + 3) = 0 := by rw [ef1]; simp (disch := omega) only [pk_un, pk_us, w_add_o, w_add_s]
  have av3 : a1 (8 + 13 * g + 3) = 0 := by rw [ea1]; simp (disch := omega) only [pk_un, pk_us, w_add_o, w_add_s]
  refine ⟨(hR.part hg hf ha (by rw [f10, a10]) ?_).mono (Nat.le_succ N), a10⟩
  have e3 : a 3 = f 3 := hR.1.1.2.2.2.1
  have ht := hR.1.2.2.1
  have f13 : f1 3 = f 3 := hf 3 (by omega)
  refine Or.inr ⟨Or.inr (Or.inl f10), by rw [fv1, av1, e3], by rw [fv2, av2], by rw [fv3, av3], ⟨by rw [fv1]; exact ht.1, by rw [fv1, f13]; exact Int.le_refl _⟩, Or.inl fv3⟩
set_option maxHeartbeats 4000000 in
theorem e_ev_1_0 {N : Nat} {f a : Nat → Int32} {g : Nat} (hg : g < 6) (hN : N ≤ 1000000) (hR : Row N f a) (hb : f (8 + g * 13 + 0) = 1) : Row (N + 1) (h_change f g 0) (m_hap a g 0) ∧ m_hap a g 0 (8 + 13 * g + 0) = 0 := by
  have hGg := hR.2 g hg
  obtain ⟨eL, hC, hU⟩ := hGg
  have ek : (1 : Int32) ^^^ b_tb 0 = 0 := by decide
  have em : m_lb 1 (nI 0) = 0 := by decide
  have eL2 : a (8 + 13 * g + 0) = 1 := by rw [eL, hb]
  rcases hU with ⟨u0, -⟩ | ⟨-, u1, u2, u3, ⟨u4, u5⟩, u6⟩
  case inl => rw [hb] at u0; exact absurd u0 (by decide)
  have n1 : ¬ a (8 + 13 * g + 1) = -6 := by rw [u1]; intro z; rw [z, i_6] at u4; omega
  obtain ⟨f1, ef1⟩ : ∃ z : Nat → Int32, z = upd (upd f (8 + g * 13 + 2) (f (8 + g * 13 + 2) + (-1))) (8 + g * 13 + 0) 0 := ⟨_, rfl⟩
  obtain ⟨a1, ea1⟩ : ∃ z : Nat → Int32, z = m_add (upd a (8 + 13 * g + 0) 0) (8 + 13 * g + 2) (-1) := ⟨_, rfl⟩
  have ef : h_change f g 0 = h_end f1 (8 + g * 13) := by
    rw [ef1]
    unfold h_change h_change1 h_change2 h_change3 h_look h_begin
    rw [hb, ek]
    simp (config := {decide := true}) only [if_true, if_false]
  have ea : m_hap a g 0 = m_en a1 g (m_how a1 g) := by
    rw [ea1]
    unfold m_hap m_then m_ha1 m_ha2
    rw [eL2, em]
    rw [if_pos n1]
    have em2 : m_rem ((1 : Int32) + 1) 4 = 2 := by decide
    rw [em2]
    simp (config := {decide := true}) only [if_true, if_false]
  rw [ef, ea]
  have hf : ∀ k, (k < 8 + 13 * g ∨ 8 + 13 * g + 4 ≤ k) → f1 k = f k := fun k hk => by rw [ef1]; simp (disch := omega) only [pk_un]
  have ha : ∀ k, (k < 8 + 13 * g ∨ 8 + 13 * g + 4 ≤ k) → a1 k = a k := fun k hk => by rw [ea1]; simp (disch := omega) only [pk_un, w_add_o]
  have f10 : f1 (8 + g * 13 + 0) = 0 := by rw [ef1]; exact pk_us
  have a10 : a1 (8 + 13 * g + 0) = 0 := by rw [ea1]; simp (disch := omega) only [pk_un, pk_us, w_add_o]
  have fv1 : f1 (8 + g * 13 + 1) = f (8 + g * 13 + 1) := by rw [ef1]; simp (disch := omega) only [pk_un, pk_us, w_add_o, w_add_s]
  have av1 : a1 (8 + 13 * g + 1) = a (8 + 13 * g + 1) := by rw [ea1]; simp (disch := omega) only [pk_un, pk_us, w_add_o, w_add_s]
  have fv2 : f1 (8 + g * 13 + 2) = f (8 + g * 13 + 2) + (-1) := by rw [ef1]; simp (disch := omega) only [pk_un, pk_us, w_add_o, w_add_s]
  have av2 : a1 (8 + 13 * g + 2) = a (8 + 13 * g + 2) + (-1) := by rw [ea1]; simp (disch := omega) only [pk_un, pk_us, w_add_o, w_add_s]
  have fv3 : f1 (8 + g * 13 + 3) = f (8 + g * 13 + 3) := by rw [ef1]; simp (disch := omega) only [pk_un, pk_us, w_add_o, w_add_s]
  have av3 : a1 (8 + 13 * g + 3) = a (8 + 13 * g + 3) := by rw [ea1]; simp (disch := omega) only [pk_un, pk_us, w_add_o, w_add_s]
  have hH1 := hR.1.part hf ha
  have hC1 := hC.part hf ha
  have f13 : f1 3 = f 3 := hf 3 (by omega)
  have hb1 : a1 (8 + 13 * g + 1) = f1 (8 + g * 13 + 1) := by rw [fv1, av1, u1]
  have hb2 : 0 ≤ (f1 (8 + g * 13 + 1)).toInt := by rw [fv1]; exact u4
  have hb3 : (f1 (8 + g * 13 + 1)).toInt ≤ (f1 3).toInt := by rw [fv1, f13]; exact u5
  rcases u6 with u6 | ⟨u6, u7⟩
  · rw [u6] at fv3
    rw [u3, u6] at av3
    have hw9 : m_how a1 g = 7 := by unfold m_how; rw [if_pos av3]
    rw [hw9]
    have hE := e_end_l hg hN hH1 hC1 hb1 hb2 hb3 fv3
    exact ⟨EN.row hR hE hf ha f10, hE.2.2.2.1.1⟩
  · rw [u6] at fv3
    rw [u3, u6] at av3
    rw [hb] at u7
    have fn3 : ¬ f1 (8 + g * 13 + 3) = 0 := by rw [fv3]; decide
    have an3 : ¬ a1 (8 + 13 * g + 3) = 0 := by rw [av3]; decide
    rcases u7 with u7 | u7
    · rw [u7] at fv2
      rw [u2, u7] at av2
      have fv2 : f1 (8 + g * 13 + 2) = 0 := fv2.trans (by decide)
      have av2 : a1 (8 + 13 * g + 2) = 0 := av2.trans (by decide)
      have hw9 : m_how a1 g = 6 := by unfold m_how; rw [if_neg an3, if_neg (by rw [av2]; decide), if_neg (by rw [av2]; decide)]
      rw [hw9]
      have hE := e_end_b hg hN hH1 hC1 hb1 hb2 hb3 fn3 (by rw [fv2]; decide) (by rw [fv2]; decide)
      exact ⟨EN.row hR hE hf ha f10, hE.2.2.2.1.1⟩
    · rw [u7] at fv2
      rw [u2, u7] at av2
      have fv2 : f1 (8 + g * 13 + 2) = (-4) := fv2.trans (by decide)
      have av2 : a1 (8 + 13 * g + 2) = (-4) := av2.trans (by decide)
      have hw9 : m_how a1 g = 5 := by unfold m_how; rw [if_neg an3, if_neg (by rw [av2]; decide), if_pos av2]
      rw [hw9]
      have hE := e_end_x hg hN hH1 hC1 hb1 hb2 hb3 fn3 fv2
      exact ⟨EN.row hR hE hf ha f10, hE.2.2.2.1.1⟩
set_option maxHeartbeats 4000000 in
theorem e_ev_1_1 {N : Nat} {f a : Nat → Int32} {g : Nat} (hg : g < 6) (hN : N ≤ 1000000) (hR : Row N f a) (hb : f (8 + g * 13 + 0) = 1) : Row (N + 1) (h_change f g 1) (m_hap a g 1) ∧ m_hap a g 1 (8 + 13 * g + 0) = 2 := by
  have hGg := hR.2 g hg
  obtain ⟨eL, hC, hU⟩ := hGg
  have ek : (1 : Int32) ^^^ b_tb 1 = 2 := by decide
  have em : m_lb 1 (nI 1) = 2 := by decide
  have eL2 : a (8 + 13 * g + 0) = 1 := by rw [eL, hb]
  rcases hU with ⟨u0, -⟩ | ⟨-, u1, u2, u3, ⟨u4, u5⟩, u6⟩
  case inl => rw [hb] at u0; exact absurd u0 (by decide)
  have n1 : ¬ a (8 + 13 * g + 1) = -6 := by rw [u1]; intro z; rw [z, i_6] at u4; omega
  obtain ⟨f1, ef1⟩ : ∃ z : Nat → Int32, z = upd (upd f (8 + g * 13 + 2) (f (8 + g * 13 + 2) + 1)) (8 + g * 13 + 0) 2 := ⟨_, rfl⟩
  obtain ⟨a1, ea1⟩ : ∃ z : Nat → Int32, z = m_add (upd a (8 + 13 * g + 0) 2) (8 + 13 * g + 2) 1 := ⟨_, rfl⟩
  have ef : h_change f g 1 = f1 := by
    rw [ef1]
    unfold h_change h_change1 h_change2 h_change3 h_look h_begin
    rw [hb, ek]
    simp (config := {decide := true}) only [if_true, if_false]
  have ea : m_hap a g 1 = a1 := by
    rw [ea1]
    unfold m_hap m_then m_ha1 m_ha2
    rw [eL2, em]
    rw [if_pos n1]
    have em2 : m_rem ((1 : Int32) + 1) 4 = 2 := by decide
    rw [em2]
    simp (config := {decide := true}) only [if_true, if_false]
  rw [ef, ea]
  have hf : ∀ k, (k < 8 + 13 * g ∨ 8 + 13 * g + 4 ≤ k) → f1 k = f k := fun k hk => by rw [ef1]; simp (disch := omega) only [pk_un]
  have ha : ∀ k, (k < 8 + 13 * g ∨ 8 + 13 * g + 4 ≤ k) → a1 k = a k := fun k hk => by rw [ea1]; simp (disch := omega) only [pk_un, w_add_o]
  have f10 : f1 (8 + g * 13 + 0) = 2 := by rw [ef1]; exact pk_us
  have a10 : a1 (8 + 13 * g + 0) = 2 := by rw [ea1]; simp (disch := omega) only [pk_un, pk_us, w_add_o]
  have fv1 : f1 (8 + g * 13 + 1) = f (8 + g * 13 + 1) := by rw [ef1]; simp (disch := omega) only [pk_un, pk_us, w_add_o, w_add_s]
  have av1 : a1 (8 + 13 * g + 1) = a (8 + 13 * g + 1) := by rw [ea1]; simp (disch := omega) only [pk_un, pk_us, w_add_o, w_add_s]
  have fv2 : f1 (8 + g * 13 + 2) = f (8 + g * 13 + 2) + 1 := by rw [ef1]; simp (disch := omega) only [pk_un, pk_us, w_add_o, w_add_s]
  have av2 : a1 (8 + 13 * g + 2) = a (8 + 13 * g + 2) + 1 := by rw [ea1]; simp (disch := omega) only [pk_un, pk_us, w_add_o, w_add_s]
  have fv3 : f1 (8 + g * 13 + 3) = f (8 + g * 13 + 3) := by rw [ef1]; simp (disch := omega) only [pk_un, pk_us, w_add_o, w_add_s]
  have av3 : a1 (8 + 13 * g + 3) = a (8 + 13 * g + 3) := by rw [ea1]; simp (disch := omega) only [pk_un, pk_us, w_add_o, w_add_s]
  refine ⟨(hR.part hg hf ha (by rw [f10, a10]) ?_).mono (Nat.le_succ N), a10⟩
  have ht := hR.1.2.2.1
  have f13 : f1 3 = f 3 := hf 3 (by omega)
  refine Or.inr ⟨Or.inr (Or.inl f10), by rw [fv1, av1, u1], by rw [fv2, av2, u2], by rw [fv3, av3, u3], ⟨by rw [fv1]; exact u4, by rw [fv1, f13]; exact u5⟩, ?_⟩
  rcases u6 with u6 | ⟨u6, u7⟩
  · exact Or.inl (by rw [fv3, u6])
  · refine Or.inr ⟨by rw [fv3, u6], ?_⟩
    rw [fv2, f10]
    rw [hb] at u7
    rcases u7 with u7 | u7 <;> rw [u7] <;> decide
set_option maxHeartbeats 4000000 in
theorem e_ev_1_2 {N : Nat} {f a : Nat → Int32} {g : Nat} (hg : g < 6) (hN : N ≤ 1000000) (hR : Row N f a) (hb : f (8 + g * 13 + 0) = 1) : Row (N + 1) (h_change f g 2) (m_hap a g 2) ∧ m_hap a g 2 (8 + 13 * g + 0) = 3 := by
  have hGg := hR.2 g hg
  obtain ⟨eL, hC, hU⟩ := hGg
  have ek : (1 : Int32) ^^^ b_tb 2 = 3 := by decide
  have em : m_lb 1 (nI 2) = 3 := by decide
  have eL2 : a (8 + 13 * g + 0) = 1 := by rw [eL, hb]
  rcases hU with ⟨u0, -⟩ | ⟨-, u1, u2, u3, ⟨u4, u5⟩, u6⟩
  case inl => rw [hb] at u0; exact absurd u0 (by decide)
  have n1 : ¬ a (8 + 13 * g + 1) = -6 := by rw [u1]; intro z; rw [z, i_6] at u4; omega
  obtain ⟨f1, ef1⟩ : ∃ z : Nat → Int32, z = upd (upd f (8 + g * 13 + 3) 0) (8 + g * 13 + 0) 3 := ⟨_, rfl⟩
  obtain ⟨a1, ea1⟩ : ∃ z : Nat → Int32, z = upd (upd a (8 + 13 * g + 0) 3) (8 + 13 * g + 3) 0 := ⟨_, rfl⟩
  have ef : h_change f g 2 = f1 := by
    rw [ef1]
    unfold h_change h_change1 h_change2 h_change3 h_look h_begin
    rw [hb, ek]
    simp (config := {decide := true}) only [if_true, if_false]
  have ea : m_hap a g 2 = a1 := by
    rw [ea1]
    unfold m_hap m_then m_ha1 m_ha2
    rw [eL2, em]
    rw [if_pos n1]
    have em2 : m_rem ((1 : Int32) + 1) 4 = 2 := by decide
    rw [em2]
    simp (config := {decide := true}) only [if_true, if_false]
  rw [ef, ea]
  have hf : ∀ k, (k < 8 + 13 * g ∨ 8 + 13 * g + 4 ≤ k) → f1 k = f k := fun k hk => by rw [ef1]; simp (disch := omega) only [pk_un]
  have ha : ∀ k, (k < 8 + 13 * g ∨ 8 + 13 * g + 4 ≤ k) → a1 k = a k := fun k hk => by rw [ea1]; simp (disch := omega) only [pk_un, w_add_o]
  have f10 : f1 (8 + g * 13 + 0) = 3 := by rw [ef1]; exact pk_us
  have a10 : a1 (8 + 13 * g + 0) = 3 := by rw [ea1]; simp (disch := omega) only [pk_un, pk_us, w_add_o]
  have fv1 : f1 (8 + g * 13 + 1) = f (8 + g * 13 + 1) := by rw [ef1]; simp (disch := omega) only [pk_un, pk_us, w_add_o, w_add_s]
  have av1 : a1 (8 + 13 * g + 1) = a (8 + 13 * g + 1) := by rw [ea1]; simp (disch := omega) only [pk_un, pk_us, w_add_o, w_add_s]
  have fv2 : f1 (8 + g * 13 + 2) = f (8 + g * 13 + 2) := by rw [ef1]; simp (disch := omega) only [pk_un, pk_us, w_add_o, w_add_s]
  have av2 : a1 (8 + 13 * g + 2) = a (8 + 13 * g + 2) := by rw [ea1]; simp (disch := omega) only [pk_un, pk_us, w_add_o, w_add_s]
  have fv3 : f1 (8 + g * 13 + 3) = 0 := by rw [ef1]; simp (disch := omega) only [pk_un, pk_us, w_add_o, w_add_s]
  have av3 : a1 (8 + 13 * g + 3) = 0 := by rw [ea1]; simp (disch := omega) only [pk_un, pk_us, w_add_o, w_add_s]
  refine ⟨(hR.part hg hf ha (by rw [f10, a10]) ?_).mono (Nat.le_succ N), a10⟩
  have ht := hR.1.2.2.1
  have f13 : f1 3 = f 3 := hf 3 (by omega)
  refine Or.inr ⟨Or.inr (Or.inr f10), by rw [fv1, av1, u1], by rw [fv2, av2, u2], by rw [fv3, av3], ⟨by rw [fv1]; exact u4, by rw [fv1, f13]; exact u5⟩, Or.inl fv3⟩
set_option maxHeartbeats 4000000 in
theorem e_ev_2_0 {N : Nat} {f a : Nat → Int32} {g : Nat} (hg : g < 6) (hN : N ≤ 1000000) (hR : Row N f a) (hb : f (8 + g * 13 + 0) = 2) : Row (N + 1) (h_change f g 0) (m_hap a g 0) ∧ m_hap a g 0 (8 + 13 * g + 0) = 3 := by
  have hGg := hR.2 g hg
  obtain ⟨eL, hC, hU⟩ := hGg
  have ek : (2 : Int32) ^^^ b_tb 0 = 3 := by decide
  have em : m_lb 2 (nI 0) = 3 := by decide
  have eL2 : a (8 + 13 * g + 0) = 2 := by rw [eL, hb]
  rcases hU with ⟨u0, -⟩ | ⟨-, u1, u2, u3, ⟨u4, u5⟩, u6⟩
  case inl => rw [hb] at u0; exact absurd u0 (by decide)
  have n1 : ¬ a (8 + 13 * g + 1) = -6 := by rw [u1]; intro z; rw [z, i_6] at u4; omega
  obtain ⟨f1, ef1⟩ : ∃ z : Nat → Int32, z = upd (upd f (8 + g * 13 + 2) (f (8 + g * 13 + 2) + 1)) (8 + g * 13 + 0) 3 := ⟨_, rfl⟩
  obtain ⟨a1, ea1⟩ : ∃ z : Nat → Int32, z = m_add (upd a (8 + 13 * g + 0) 3) (8 + 13 * g + 2) 1 := ⟨_, rfl⟩
  have ef : h_change f g 0 = f1 := by
    rw [ef1]
    unfold h_change h_change1 h_change2 h_change3 h_look h_begin
    rw [hb, ek]
    simp (config := {decide := true}) only [if_true, if_false]
  have ea : m_hap a g 0 = a1 := by
    rw [ea1]
    unfold m_hap m_then m_ha1 m_ha2
    rw [eL2, em]
    rw [if_pos n1]
    have em2 : m_rem ((2 : Int32) + 1) 4 = 3 := by decide
    rw [em2]
    simp (config := {decide := true}) only [if_true, if_false]
  rw [ef, ea]
  have hf : ∀ k, (k < 8 + 13 * g ∨ 8 + 13 * g + 4 ≤ k) → f1 k = f k := fun k hk => by rw [ef1]; simp (disch := omega) only [pk_un]
  have ha : ∀ k, (k < 8 + 13 * g ∨ 8 + 13 * g + 4 ≤ k) → a1 k = a k := fun k hk => by rw [ea1]; simp (disch := omega) only [pk_un, w_add_o]
  have f10 : f1 (8 + g * 13 + 0) = 3 := by rw [ef1]; exact pk_us
  have a10 : a1 (8 + 13 * g + 0) = 3 := by rw [ea1]; simp (disch := omega) only [pk_un, pk_us, w_add_o]
  have fv1 : f1 (8 + g * 13 + 1) = f (8 + g * 13 + 1) := by rw [ef1]; simp (disch := omega) only [pk_un, pk_us, w_add_o, w_add_s]
  have av1 : a1 (8 + 13 * g + 1) = a (8 + 13 * g + 1) := by rw [ea1]; simp (disch := omega) only [pk_un, pk_us, w_add_o, w_add_s]
  have fv2 : f1 (8 + g * 13 + 2) = f (8 + g * 13 + 2) + 1 := by rw [ef1]; simp (disch := omega) only [pk_un, pk_us, w_add_o, w_add_s]
  have av2 : a1 (8 + 13 * g + 2) = a (8 + 13 * g + 2) + 1 := by rw [ea1]; simp (disch := omega) only [pk_un, pk_us, w_add_o, w_add_s]
  have fv3 : f1 (8 + g * 13 + 3) = f (8 + g * 13 + 3) := by rw [ef1]; simp (disch := omega) only [pk_un, pk_us, w_add_o, w_add_s]
  have av3 : a1 (8 + 13 * g + 3) = a (8 + 13 * g + 3) := by rw [ea1]; simp (disch := omega) only [pk_un, pk_us, w_add_o, w_add_s]
  refine ⟨(hR.part hg hf ha (by rw [f10, a10]) ?_).mono (Nat.le_succ N), a10⟩
  have ht := hR.1.2.2.1
  have f13 : f1 3 = f 3 := hf 3 (by omega)
  refine Or.inr ⟨Or.inr (Or.inr f10), by rw [fv1, av1, u1], by rw [fv2, av2, u2], by rw [fv3, av3, u3], ⟨by rw [fv1]; exact u4, by rw [fv1, f13]; exact u5⟩, ?_⟩
  rcases u6 with u6 | ⟨u6, u7⟩
  · exact Or.inl (by rw [fv3, u6])
  · refine Or.inr ⟨by rw [fv3, u6], ?_⟩
    rw [fv2, f10]
    rw [hb] at u7
    rcases u7 with u7 | u7 <;> rw [u7] <;> decide
set_option maxHeartbeats 4000000 in
theorem e_ev_2_1 {N : Nat} {f a : Nat → Int32} {g : Nat} (hg : g < 6) (hN : N ≤ 1000000) (hR : Row N f a) (hb : f (8 + g * 13 + 0) = 2) : Row (N + 1) (h_change f g 1) (m_hap a g 1) ∧ m_hap a g 1 (8 + 13 * g + 0) = 1 := by
  have hGg := hR.2 g hg
  obtain ⟨eL, hC, hU⟩ := hGg
  have ek : (2 : Int32) ^^^ b_tb 1 = 1 := by decide
  have em : m_lb 2 (nI 1) = 1 := by decide
  have eL2 : a (8 + 13 * g + 0) = 2 := by rw [eL, hb]
  rcases hU with ⟨u0, -⟩ | ⟨-, u1, u2, u3, ⟨u4, u5⟩, u6⟩
  case inl => rw [hb] at u0; exact absurd u0 (by decide)
  have n1 : ¬ a (8 + 13 * g + 1) = -6 := by rw [u1]; intro z; rw [z, i_6] at u4; omega
  obtain ⟨f1, ef1⟩ : ∃ z : Nat → Int32, z = upd (upd f (8 + g * 13 + 2) (f (8 + g * 13 + 2) + (-1))) (8 + g * 13 + 0) 1 := ⟨_, rfl⟩
  obtain ⟨a1, ea1⟩ : ∃ z : Nat → Int32, z = m_add (upd a (8 + 13 * g + 0) 1) (8 + 13 * g + 2) (-1) := ⟨_, rfl⟩
  have ef : h_change f g 1 = f1 := by
    rw [ef1]
    unfold h_change h_change1 h_change2 h_change3 h_look h_begin
    rw [hb, ek]
    simp (config := {decide := true}) only [if_true, if_false]
  have ea : m_hap a g 1 = a1 := by
    rw [ea1]
    unfold m_hap m_then m_ha1 m_ha2
    rw [eL2, em]
    rw [if_pos n1]
    have em2 : m_rem ((2 : Int32) + 1) 4 = 3 := by decide
    rw [em2]
    simp (config := {decide := true}) only [if_true, if_false]
  rw [ef, ea]
  have hf : ∀ k, (k < 8 + 13 * g ∨ 8 + 13 * g + 4 ≤ k) → f1 k = f k := fun k hk => by rw [ef1]; simp (disch := omega) only [pk_un]
  have ha : ∀ k, (k < 8 + 13 * g ∨ 8 + 13 * g + 4 ≤ k) → a1 k = a k := fun k hk => by rw [ea1]; simp (disch := omega) only [pk_un, w_add_o]
  have f10 : f1 (8 + g * 13 + 0) = 1 := by rw [ef1]; exact pk_us
  have a10 : a1 (8 + 13 * g + 0) = 1 := by rw [ea1]; simp (disch := omega) only [pk_un, pk_us, w_add_o]
  have fv1 : f1 (8 + g * 13 + 1) = f (8 + g * 13 + 1) := by rw [ef1]; simp (disch := omega) only [pk_un, pk_us, w_add_o, w_add_s]
  have av1 : a1 (8 + 13 * g + 1) = a (8 + 13 * g + 1) := by rw [ea1]; simp (disch := omega) only [pk_un, pk_us, w_add_o, w_add_s]
  have fv2 : f1 (8 + g * 13 + 2) = f (8 + g * 13 + 2) + (-1) := by rw [ef1]; simp (disch := omega) only [pk_un, pk_us, w_add_o, w_add_s]
  have av2 : a1 (8 + 13 * g + 2) = a (8 + 13 * g + 2) + (-1) := by rw [ea1]; simp (disch := omega) only [pk_un, pk_us, w_add_o, w_add_s]
  have fv3 : f1 (8 + g * 13 + 3) = f (8 + g * 13 + 3) := by rw [ef1]; simp (disch := omega) only [pk_un, pk_us, w_add_o, w_add_s]
  have av3 : a1 (8 + 13 * g + 3) = a (8 + 13 * g + 3) := by rw [ea1]; simp (disch := omega) only [pk_un, pk_us, w_add_o, w_add_s]
  refine ⟨(hR.part hg hf ha (by rw [f10, a10]) ?_).mono (Nat.le_succ N), a10⟩
  have ht := hR.1.2.2.1
  have f13 : f1 3 = f 3 := hf 3 (by omega)
  refine Or.inr ⟨Or.inl f10, by rw [fv1, av1, u1], by rw [fv2, av2, u2], by rw [fv3, av3, u3], ⟨by rw [fv1]; exact u4, by rw [fv1, f13]; exact u5⟩, ?_⟩
  rcases u6 with u6 | ⟨u6, u7⟩
  · exact Or.inl (by rw [fv3, u6])
  · refine Or.inr ⟨by rw [fv3, u6], ?_⟩
    rw [fv2, f10]
    rw [hb] at u7
    rcases u7 with u7 | u7 <;> rw [u7] <;> decide
set_option maxHeartbeats 4000000 in
theorem e_ev_2_2 {N : Nat} {f a : Nat → Int32} {g : Nat} (hg : g < 6) (hN : N ≤ 1000000) (hR : Row N f a) (hb : f (8 + g * 13 + 0) = 2) : Row (N + 1) (h_change f g 2) (m_hap a g 2) ∧ m_hap a g 2 (8 + 13 * g + 0) = 0 := by
  have hGg := hR.2 g hg
  obtain ⟨eL, hC, hU⟩ := hGg
  have ek : (2 : Int32) ^^^ b_tb 2 = 0 := by decide
  have em : m_lb 2 (nI 2) = 0 := by decide
  have eL2 : a (8 + 13 * g + 0) = 2 := by rw [eL, hb]
  rcases hU with ⟨u0, -⟩ | ⟨-, u1, u2, u3, ⟨u4, u5⟩, u6⟩
  case inl => rw [hb] at u0; exact absurd u0 (by decide)
  have n1 : ¬ a (8 + 13 * g + 1) = -6 := by rw [u1]; intro z; rw [z, i_6] at u4; omega
  obtain ⟨f1, ef1⟩ : ∃ z : Nat → Int32, z = upd (upd f (8 + g * 13 + 3) 0) (8 + g * 13 + 0) 0 := ⟨_, rfl⟩
  obtain ⟨a1, ea1⟩ : ∃ z : Nat → Int32, z = upd (upd a (8 + 13 * g + 0) 0) (8 + 13 * g + 3) 0 := ⟨_, rfl⟩
  have ef : h_change f g 2 = h_end f1 (8 + g * 13) := by
    rw [ef1]
    unfold h_change h_change1 h_change2 h_change3 h_look h_begin
    rw [hb, ek]
    simp (config := {decide := true}) only [if_true, if_false]
  have ea : m_hap a g 2 = m_en a1 g (m_how a1 g) := by
    rw [ea1]
    unfold m_hap m_then m_ha1 m_ha2
    rw [eL2, em]
    rw [if_pos n1]
    have em2 : m_rem ((2 : Int32) + 1) 4 = 3 := by decide
    rw [em2]
    simp (config := {decide := true}) only [if_true, if_false]
  rw [ef, ea]
  have hf : ∀ k, (k < 8 + 13 * g ∨ 8 + 13 * g + 4 ≤ k) → f1 k = f k := fun k hk => by rw [ef1]; simp (disch := omega) only [pk_un]
  have ha : ∀ k, (k < 8 + 13 * g ∨ 8 + 13 * g + 4 ≤ k) → a1 k = a k := fun k hk => by rw [ea1]; simp (disch := omega) only [pk_un, w_add_o]
  have f10 : f1 (8 + g * 13 + 0) = 0 := by rw [ef1]; exact pk_us
  have a10 : a1 (8 + 13 * g + 0) = 0 := by rw [ea1]; simp (disch := omega) only [pk_un, pk_us, w_add_o]
  have fv1 : f1 (8 + g * 13 + 1) = f (8 + g * 13 + 1) := by rw [ef1]; simp (disch := omega) only [pk_un, pk_us, w_add_o, w_add_s]
  have av1 : a1 (8 + 13 * g + 1) = a (8 + 13 * g + 1) := by rw [ea1]; simp (disch := omega) only [pk_un, pk_us, w_add_o, w_add_s]
  have fv2 : f1 (8 + g * 13 + 2) = f (8 + g * 13 + 2) := by rw [ef1]; simp (disch := omega) only [pk_un, pk_us, w_add_o, w_add_s]
  have av2 : a1 (8 + 13 * g + 2) = a (8 + 13 * g + 2) := by rw [ea1]; simp (disch := omega) only [pk_un, pk_us, w_add_o, w_add_s]
  have fv3 : f1 (8 + g * 13 + 3) = 0 := by rw [ef1]; simp (disch := omega) only [pk_un, pk_us, w_add_o, w_add_s]
  have av3 : a1 (8 + 13 * g + 3) = 0 := by rw [ea1]; simp (disch := omega) only [pk_un, pk_us, w_add_o, w_add_s]
  have hH1 := hR.1.part hf ha
  have hC1 := hC.part hf ha
  have f13 : f1 3 = f 3 := hf 3 (by omega)
  have hb1 : a1 (8 + 13 * g + 1) = f1 (8 + g * 13 + 1) := by rw [fv1, av1, u1]
  have hb2 : 0 ≤ (f1 (8 + g * 13 + 1)).toInt := by rw [fv1]; exact u4
  have hb3 : (f1 (8 + g * 13 + 1)).toInt ≤ (f1 3).toInt := by rw [fv1, f13]; exact u5
  have hw9 : m_how a1 g = 7 := by unfold m_how; rw [if_pos av3]
  rw [hw9]
  have hE := e_end_l hg hN hH1 hC1 hb1 hb2 hb3 fv3
  exact ⟨EN.row hR hE hf ha f10, hE.2.2.2.1.1⟩
set_option maxHeartbeats 4000000 in
theorem e_ev_3_0 {N : Nat} {f a : Nat → Int32} {g : Nat} (hg : g < 6) (hN : N ≤ 1000000) (hR : Row N f a) (hb : f (8 + g * 13 + 0) = 3) : Row (N + 1) (h_change f g 0) (m_hap a g 0) ∧ m_hap a g 0 (8 + 13 * g + 0) = 2 := by
  have hGg := hR.2 g hg
  obtain ⟨eL, hC, hU⟩ := hGg
  have ek : (3 : Int32) ^^^ b_tb 0 = 2 := by decide
  have em : m_lb 3 (nI 0) = 2 := by decide
  have eL2 : a (8 + 13 * g + 0) = 3 := by rw [eL, hb]
  rcases hU with ⟨u0, -⟩ | ⟨-, u1, u2, u3, ⟨u4, u5⟩, u6⟩
  case inl => rw [hb] at u0; exact absurd u0 (by decide)
  have n1 : ¬ a (8 + 13 * g + 1) = -6 := by rw [u1]; intro z; rw [z, i_6] at u4; omega
  obtain ⟨f1, ef1⟩ : ∃ z : Nat → Int32, z = upd (upd f (8 + g * 13 + 2) (f (8 + g * 13 + 2) + (-1))) (8 + g * 13 + 0) 2 := ⟨_, rfl⟩
  obtain ⟨a1, ea1⟩ : ∃ z : Nat → Int32, z = m_add (upd a (8 + 13 * g + 0) 2) (8 + 13 * g + 2) (-1) := ⟨_, rfl⟩
  have ef : h_change f g 0 = f1 := by
    rw [ef1]
    unfold h_change h_change1 h_change2 h_change3 h_look h_begin
    rw [hb, ek]
    simp (config := {decide := true}) only [if_true, if_false]
  have ea : m_hap a g 0 = a1 := by
    rw [ea1]
    unfold m_hap m_then m_ha1 m_ha2
    rw [eL2, em]
    rw [if_pos n1]
    have em2 : m_rem ((3 : Int32) + 1) 4 = 0 := by decide
    rw [em2]
    simp (config := {decide := true}) only [if_true, if_false]
  rw [ef, ea]
  have hf : ∀ k, (k < 8 + 13 * g ∨ 8 + 13 * g + 4 ≤ k) → f1 k = f k := fun k hk => by rw [ef1]; simp (disch := omega) only [pk_un]
  have ha : ∀ k, (k < 8 + 13 * g ∨ 8 + 13 * g + 4 ≤ k) → a1 k = a k := fun k hk => by rw [ea1]; simp (disch := omega) only [pk_un, w_add_o]
  have f10 : f1 (8 + g * 13 + 0) = 2 := by rw [ef1]; exact pk_us
  have a10 : a1 (8 + 13 * g + 0) = 2 := by rw [ea1]; simp (disch := omega) only [pk_un, pk_us, w_add_o]
  have fv1 : f1 (8 + g * 13 + 1) = f (8 + g * 13 + 1) := by rw [ef1]; simp (disch := omega) only [pk_un, pk_us, w_add_o, w_add_s]
  have av1 : a1 (8 + 13 * g + 1) = a (8 + 13 * g + 1) := by rw [ea1]; simp (disch := omega) only [pk_un, pk_us, w_add_o, w_add_s]
  have fv2 : f1 (8 + g * 13 + 2) = f (8 + g * 13 + 2) + (-1) := by rw [ef1]; simp (disch := omega) only [pk_un, pk_us, w_add_o, w_add_s]
  have av2 : a1 (8 + 13 * g + 2) = a (8 + 13 * g + 2) + (-1) := by rw [ea1]; simp (disch := omega) only [pk_un, pk_us, w_add_o, w_add_s]
  have fv3 : f1 (8 + g * 13 + 3) = f (8 + g * 13 + 3) := by rw [ef1]; simp (disch := omega) only [pk_un, pk_us, w_add_o, w_add_s]
  have av3 : a1 (8 + 13 * g + 3) = a (8 + 13 * g + 3) := by rw [ea1]; simp (disch := omega) only [pk_un, pk_us, w_add_o, w_add_s]
  refine ⟨(hR.part hg hf ha (by rw [f10, a10]) ?_).mono (Nat.le_succ N), a10⟩
  have ht := hR.1.2.2.1
  have f13 : f1 3 = f 3 := hf 3 (by omega)
  refine Or.inr ⟨Or.inr (Or.inl f10), by rw [fv1, av1, u1], by rw [fv2, av2, u2], by rw [fv3, av3, u3], ⟨by rw [fv1]; exact u4, by rw [fv1, f13]; exact u5⟩, ?_⟩
  rcases u6 with u6 | ⟨u6, u7⟩
  · exact Or.inl (by rw [fv3, u6])
  · refine Or.inr ⟨by rw [fv3, u6], ?_⟩
    rw [fv2, f10]
    rw [hb] at u7
    rcases u7 with u7 | u7 <;> rw [u7] <;> decide
set_option maxHeartbeats 4000000 in
theorem e_ev_3_1 {N : Nat} {f a : Nat → Int32} {g : Nat} (hg : g < 6) (hN : N ≤ 1000000) (hR : Row N f a) (hb : f (8 + g * 13 + 0) = 3) : Row (N + 1) (h_change f g 1) (m_hap a g 1) ∧ m_hap a g 1 (8 + 13 * g + 0) = 0 := by
  have hGg := hR.2 g hg
  obtain ⟨eL, hC, hU⟩ := hGg
  have ek : (3 : Int32) ^^^ b_tb 1 = 0 := by decide
  have em : m_lb 3 (nI 1) = 0 := by decide
  have eL2 : a (8 + 13 * g + 0) = 3 := by rw [eL, hb]
  rcases hU with ⟨u0, -⟩ | ⟨-, u1, u2, u3, ⟨u4, u5⟩, u6⟩
  case inl => rw [hb] at u0; exact absurd u0 (by decide)
  have n1 : ¬ a (8 + 13 * g + 1) = -6 := by rw [u1]; intro z; rw [z, i_6] at u4; omega
  obtain ⟨f1, ef1⟩ : ∃ z : Nat → Int32, z = upd (upd f (8 + g * 13 + 2) (f (8 + g * 13 + 2) + 1)) (8 + g * 13 + 0) 0 := ⟨_, rfl⟩
  obtain ⟨a1, ea1⟩ : ∃ z : Nat → Int32, z = m_add (upd a (8 + 13 * g + 0) 0) (8 + 13 * g + 2) 1 := ⟨_, rfl⟩
  have ef : h_change f g 1 = h_end f1 (8 + g * 13) := by
    rw [ef1]
    unfold h_change h_change1 h_change2 h_change3 h_look h_begin
    rw [hb, ek]
    simp (config := {decide := true}) only [if_true, if_false]
  have ea : m_hap a g 1 = m_en a1 g (m_how a1 g) := by
    rw [ea1]
    unfold m_hap m_then m_ha1 m_ha2
    rw [eL2, em]
    rw [if_pos n1]
    have em2 : m_rem ((3 : Int32) + 1) 4 = 0 := by decide
    rw [em2]
    simp (config := {decide := true}) only [if_true, if_false]
  rw [ef, ea]
  have hf : ∀ k, (k < 8 + 13 * g ∨ 8 + 13 * g + 4 ≤ k) → f1 k = f k := fun k hk => by rw [ef1]; simp (disch := omega) only [pk_un]
  have ha : ∀ k, (k < 8 + 13 * g ∨ 8 + 13 * g + 4 ≤ k) → a1 k = a k := fun k hk => by rw [ea1]; simp (disch := omega) only [pk_un, w_add_o]
  have f10 : f1 (8 + g * 13 + 0) = 0 := by rw [ef1]; exact pk_us
  have a10 : a1 (8 + 13 * g + 0) = 0 := by rw [ea1]; simp (disch := omega) only [pk_un, pk_us, w_add_o]
  have fv1 : f1 (8 + g * 13 + 1) = f (8 + g * 13 + 1) := by rw [ef1]; simp (disch := omega) only [pk_un, pk_us, w_add_o, w_add_s]
  have av1 : a1 (8 + 13 * g + 1) = a (8 + 13 * g + 1) := by rw [ea1]; simp (disch := omega) only [pk_un, pk_us, w_add_o, w_add_s]
  have fv2 : f1 (8 + g * 13 + 2) = f (8 + g * 13 + 2) + 1 := by rw [ef1]; simp (disch := omega) only [pk_un, pk_us, w_add_o, w_add_s]
  have av2 : a1 (8 + 13 * g + 2) = a (8 + 13 * g + 2) + 1 := by rw [ea1]; simp (disch := omega) only [pk_un, pk_us, w_add_o, w_add_s]
  have fv3 : f1 (8 + g * 13 + 3) = f (8 + g * 13 + 3) := by rw [ef1]; simp (disch := omega) only [pk_un, pk_us, w_add_o, w_add_s]
  have av3 : a1 (8 + 13 * g + 3) = a (8 + 13 * g + 3) := by rw [ea1]; simp (disch := omega) only [pk_un, pk_us, w_add_o, w_add_s]
  have hH1 := hR.1.part hf ha
  have hC1 := hC.part hf ha
  have f13 : f1 3 = f 3 := hf 3 (by omega)
  have hb1 : a1 (8 + 13 * g + 1) = f1 (8 + g * 13 + 1) := by rw [fv1, av1, u1]
  have hb2 : 0 ≤ (f1 (8 + g * 13 + 1)).toInt := by rw [fv1]; exact u4
  have hb3 : (f1 (8 + g * 13 + 1)).toInt ≤ (f1 3).toInt := by rw [fv1, f13]; exact u5
  rcases u6 with u6 | ⟨u6, u7⟩
  · rw [u6] at fv3
    rw [u3, u6] at av3
    have hw9 : m_how a1 g = 7 := by unfold m_how; rw [if_pos av3]
    rw [hw9]
    have hE := e_end_l hg hN hH1 hC1 hb1 hb2 hb3 fv3
    exact ⟨EN.row hR hE hf ha f10, hE.2.2.2.1.1⟩
  · rw [u6] at fv3
    rw [u3, u6] at av3
    rw [hb] at u7
    have fn3 : ¬ f1 (8 + g * 13 + 3) = 0 := by rw [fv3]; decide
    have an3 : ¬ a1 (8 + 13 * g + 3) = 0 := by rw [av3]; decide
    rcases u7 with u7 | u7
    · rw [u7] at fv2
      rw [u2, u7] at av2
      have fv2 : f1 (8 + g * 13 + 2) = 4 := fv2.trans (by decide)
      have av2 : a1 (8 + 13 * g + 2) = 4 := av2.trans (by decide)
      have hw9 : m_how a1 g = 4 := by unfold m_how; rw [if_neg an3, if_pos av2]
      rw [hw9]
      have hE := e_end_i hg hN hH1 hC1 hb1 hb2 hb3 fn3 fv2
      exact ⟨EN.row hR hE hf ha f10, hE.2.2.2.1.1⟩
    · rw [u7] at fv2
      rw [u2, u7] at av2
      have fv2 : f1 (8 + g * 13 + 2) = 0 := fv2.trans (by decide)
      have av2 : a1 (8 + 13 * g + 2) = 0 := av2.trans (by decide)
      have hw9 : m_how a1 g = 6 := by unfold m_how; rw [if_neg an3, if_neg (by rw [av2]; decide), if_neg (by rw [av2]; decide)]
      rw [hw9]
      have hE := e_end_b hg hN hH1 hC1 hb1 hb2 hb3 fn3 (by rw [fv2]; decide) (by rw [fv2]; decide)
      exact ⟨EN.row hR hE hf ha f10, hE.2.2.2.1.1⟩
set_option maxHeartbeats 4000000 in
theorem e_ev_3_2 {N : Nat} {f a : Nat → Int32} {g : Nat} (hg : g < 6) (hN : N ≤ 1000000) (hR : Row N f a) (hb : f (8 + g * 13 + 0) = 3) : Row (N + 1) (h_change f g 2) (m_hap a g 2) ∧ m_hap a g 2 (8 + 13 * g + 0) = 1 := by
  have hGg := hR.2 g hg
  obtain ⟨eL, hC, hU⟩ := hGg
  have ek : (3 : Int32) ^^^ b_tb 2 = 1 := by decide
  have em : m_lb 3 (nI 2) = 1 := by decide
  have eL2 : a (8 + 13 * g + 0) = 3 := by rw [eL, hb]
  rcases hU with ⟨u0, -⟩ | ⟨-, u1, u2, u3, ⟨u4, u5⟩, u6⟩
  case inl => rw [hb] at u0; exact absurd u0 (by decide)
  have n1 : ¬ a (8 + 13 * g + 1) = -6 := by rw [u1]; intro z; rw [z, i_6] at u4; omega
  obtain ⟨f1, ef1⟩ : ∃ z : Nat → Int32, z = upd (upd f (8 + g * 13 + 3) 0) (8 + g * 13 + 0) 1 := ⟨_, rfl⟩
  obtain ⟨a1, ea1⟩ : ∃ z : Nat → Int32, z = upd (upd a (8 + 13 * g + 0) 1) (8 + 13 * g + 3) 0 := ⟨_, rfl⟩
  have ef : h_change f g 2 = f1 := by
    rw [ef1]
    unfold h_change h_change1 h_change2 h_change3 h_look h_begin
    rw [hb, ek]
    simp (config := {decide := true}) only [if_true, if_false]
  have ea : m_hap a g 2 = a1 := by
    rw [ea1]
    unfold m_hap m_then m_ha1 m_ha2
    rw [eL2, em]
    rw [if_pos n1]
    have em2 : m_rem ((3 : Int32) + 1) 4 = 0 := by decide
    rw [em2]
    simp (config := {decide := true}) only [if_true, if_false]
  rw [ef, ea]
  have hf : ∀ k, (k < 8 + 13 * g ∨ 8 + 13 * g + 4 ≤ k) → f1 k = f k := fun k hk => by rw [ef1]; simp (disch := omega) only [pk_un]
  have ha : ∀ k, (k < 8 + 13 * g ∨ 8 + 13 * g + 4 ≤ k) → a1 k = a k := fun k hk => by rw [ea1]; simp (disch := omega) only [pk_un, w_add_o]
  have f10 : f1 (8 + g * 13 + 0) = 1 := by rw [ef1]; exact pk_us
  have a10 : a1 (8 + 13 * g + 0) = 1 := by rw [ea1]; simp (disch := omega) only [pk_un, pk_us, w_add_o]
  have fv1 : f1 (8 + g * 13 + 1) = f (8 + g * 13 + 1) := by rw [ef1]; simp (disch := omega) only [pk_un, pk_us, w_add_o, w_add_s]
  have av1 : a1 (8 + 13 * g + 1) = a (8 + 13 * g + 1) := by rw [ea1]; simp (disch := omega) only [pk_un, pk_us, w_add_o, w_add_s]
  have fv2 : f1 (8 + g * 13 + 2) = f (8 + g * 13 + 2) := by rw [ef1]; simp (disch := omega) only [pk_un, pk_us, w_add_o, w_add_s]
  have av2 : a1 (8 + 13 * g + 2) = a (8 + 13 * g + 2) := by rw [ea1]; simp (disch := omega) only [pk_un, pk_us, w_add_o, w_add_s]
  have fv3 : f1 (8 + g * 13 + 3) = 0 := by rw [ef1]; simp (disch := omega) only [pk_un, pk_us, w_add_o, w_add_s]
  have av3 : a1 (8 + 13 * g + 3) = 0 := by rw [ea1]; simp (disch := omega) only [pk_un, pk_us, w_add_o, w_add_s]
  refine ⟨(hR.part hg hf ha (by rw [f10, a10]) ?_).mono (Nat.le_succ N), a10⟩
  have ht := hR.1.2.2.1
  have f13 : f1 3 = f 3 := hf 3 (by omega)
  refine Or.inr ⟨Or.inl f10, by rw [fv1, av1, u1], by rw [fv2, av2, u2], by rw [fv3, av3], ⟨by rw [fv1]; exact u4, by rw [fv1, f13]; exact u5⟩, Or.inl fv3⟩
theorem e_event {N : Nat} {f a : Nat → Int32} {g bm : Nat} (hg : g < 6) (hbm : bm < 3) (hN : N ≤ 1000000) (hR : Row N f a) : Row (N + 1) (h_change f g bm) (m_hap a g bm) ∧ m_hap a g bm (8 + 13 * g + 0) = f (8 + g * 13 + 0) ^^^ b_tb bm ∧ m_hapn a g bm = if f (8 + g * 13 + 0) ^^^ b_tb bm = 0 then 1 else 0 := by
  have hl := (hR.2 g hg).look
  have e1 : m_hapn a g bm = if f (8 + g * 13 + 0) ^^^ b_tb bm = 0 then 1 else 0 := by
    unfold m_hapn m_then
    rw [(hR.2 g hg).1, e_then hbm hl]
  refine ⟨?_, ?_, e1⟩
  · rcases hl with h | h | h | h
    · match bm, hbm with
      | 0, _ => exact (e_ev_0_0 hg hN hR h).1
      | 1, _ => exact (e_ev_0_1 hg hN hR h).1
      | 2, _ => exact (e_ev_0_2 hg hN hR h).1
      | k + 3, h9 => exact absurd h9 (by omega)
    · match bm, hbm with
      | 0, _ => exact (e_ev_1_0 hg hN hR h).1
      | 1, _ => exact (e_ev_1_1 hg hN hR h).1
      | 2, _ => exact (e_ev_1_2 hg hN hR h).1
      | k + 3, h9 => exact absurd h9 (by omega)
    · match bm, hbm with
      | 0, _ => exact (e_ev_2_0 hg hN hR h).1
      | 1, _ => exact (e_ev_2_1 hg hN hR h).1
      | 2, _ => exact (e_ev_2_2 hg hN hR h).1
      | k + 3, h9 => exact absurd h9 (by omega)
    · match bm, hbm with
      | 0, _ => exact (e_ev_3_0 hg hN hR h).1
      | 1, _ => exact (e_ev_3_1 hg hN hR h).1
      | 2, _ => exact (e_ev_3_2 hg hN hR h).1
      | k + 3, h9 => exact absurd h9 (by omega)
  · rcases hl with h | h | h | h
    · match bm, hbm with
      | 0, _ => exact (e_ev_0_0 hg hN hR h).2.trans (by rw [h]; decide)
      | 1, _ => exact (e_ev_0_1 hg hN hR h).2.trans (by rw [h]; decide)
      | 2, _ => exact (e_ev_0_2 hg hN hR h).2.trans (by rw [h]; decide)
      | k + 3, h9 => exact absurd h9 (by omega)
    · match bm, hbm with
      | 0, _ => exact (e_ev_1_0 hg hN hR h).2.trans (by rw [h]; decide)
      | 1, _ => exact (e_ev_1_1 hg hN hR h).2.trans (by rw [h]; decide)
      | 2, _ => exact (e_ev_1_2 hg hN hR h).2.trans (by rw [h]; decide)
      | k + 3, h9 => exact absurd h9 (by omega)
    · match bm, hbm with
      | 0, _ => exact (e_ev_2_0 hg hN hR h).2.trans (by rw [h]; decide)
      | 1, _ => exact (e_ev_2_1 hg hN hR h).2.trans (by rw [h]; decide)
      | 2, _ => exact (e_ev_2_2 hg hN hR h).2.trans (by rw [h]; decide)
      | k + 3, h9 => exact absurd h9 (by omega)
    · match bm, hbm with
      | 0, _ => exact (e_ev_3_0 hg hN hR h).2.trans (by rw [h]; decide)
      | 1, _ => exact (e_ev_3_1 hg hN hR h).2.trans (by rw [h]; decide)
      | 2, _ => exact (e_ev_3_2 hg hN hR h).2.trans (by rw [h]; decide)
      | k + 3, h9 => exact absurd h9 (by omega)
theorem e_clear {N : Nat} {f a : Nat → Int32} {g : Nat} (hg : g < 6) (hN : N ≤ 1000000) (hR : Row N f a) (hu : ¬ f (8 + g * 13 + 0) = 0) : Row (N + 1) (h_free f g) (m_en a g 7) := by
  obtain ⟨eL, hC, hU⟩ := hR.2 g hg
  rcases hU with ⟨u0, -⟩ | ⟨-, u1, u2, u3, ⟨u4, u5⟩, u6⟩
  case inl => exact absurd u0 hu
  obtain ⟨f1, ef1⟩ : ∃ z : Nat → Int32, z = upd (upd f (8 + g * 13 + 0) 0) (8 + g * 13 + 3) 0 := ⟨_, rfl⟩
  have ef : h_free f g = h_end f1 (8 + g * 13) := by rw [ef1]; rfl
  have hf : ∀ k, (k < 8 + 13 * g ∨ 8 + 13 * g + 4 ≤ k) → f1 k = f k := fun k hk => by rw [ef1]; simp (disch := omega) only [pk_un]
  have f10 : f1 (8 + g * 13 + 0) = 0 := by rw [ef1]; simp (disch := omega) only [pk_un, pk_us]
  have f11 : f1 (8 + g * 13 + 1) = f (8 + g * 13 + 1) := by rw [ef1]; simp (disch := omega) only [pk_un]
  have f13 : f1 (8 + g * 13 + 3) = 0 := by rw [ef1]; exact pk_us
  have f3 : f1 3 = f 3 := hf 3 (by omega)
  rw [ef]
  exact EN.row hR (e_end_l hg hN (hR.1.part hf (fun _ _ => rfl)) (hC.part hf (fun _ _ => rfl)) (by rw [f11, u1]) (by rw [f11]; exact u4) (by rw [f11, f3]; exact u5) f13) hf (fun _ _ => rfl) f10
