/-! what is told of the rows is the same -/
theorem CR.get {N : Nat} {f a : Nat → Int32} {g w : Nat} (h : CR N f a g) (h1 : 5 ≤ w) (h2 : w ≤ 12) : a (8 + 13 * g + (w - 1)) = f (8 + g * 13 + w) := by
  obtain ⟨⟨q4, q5, q6, q7, q8, q9, q10, q11⟩, -⟩ := h
  match w, h1, h2 with
  | 5, _, _ => exact q4
  | 6, _, _ => exact q5
  | 7, _, _ => exact q6
  | 8, _, _ => exact q7
  | 9, _, _ => exact q8
  | 10, _, _ => exact q9
  | 11, _, _ => exact q10
  | 12, _, _ => exact q11
  | 0, z, _ => exact absurd z (by omega)
  | 1, z, _ => exact absurd z (by omega)
  | 2, z, _ => exact absurd z (by omega)
  | 3, z, _ => exact absurd z (by omega)
  | 4, z, _ => exact absurd z (by omega)
  | k + 13, _, z => exact absurd z (by omega)
theorem HR.get {N : Nat} {f a : Nat → Int32} {w : Nat} (h : HR N f a) (h1 : w < 8) : a w = f w := by
  obtain ⟨⟨e0, e1, e2, e3, e4, e5, e6, e7⟩, -⟩ := h
  match w, h1 with
  | 0, _ => exact e0
  | 1, _ => exact e1
  | 2, _ => exact e2
  | 3, _ => exact e3
  | 4, _ => exact e4
  | 5, _ => exact e5
  | 6, _ => exact e6
  | 7, _ => exact e7
  | k + 8, z => exact absurd z (by omega)
theorem ne6 {x : Int32} (hx : 0 ≤ x.toInt) : ¬ x = -6 := fun z => by rw [z, i_6] at hx; omega
theorem Row.uw {N : Nat} {f a : Nat → Int32} {g : Nat} (hR : Row N f a) (hg : g < 6) : f (8 + g * 13 + 0) = 0 ↔ a (8 + 13 * g + 1) = (-6) := by
  rcases (hR.2 g hg).2.2 with ⟨u0, u1, -⟩ | ⟨u0, u1, u2, u3, u4, u6⟩
  · exact ⟨fun _ => u1, fun _ => u0⟩
  · refine ⟨fun z => ?_, fun z => ?_⟩
    · rw [z] at u0
      rcases u0 with h | h | h <;> exact absurd h (by decide)
    · rw [u1] at z
      exact absurd z (ne6 u4.1)
theorem Row.under {N : Nat} {f a : Nat → Int32} {g : Nat} (hR : Row N f a) (hg : g < 6) (h : ¬ f (8 + g * 13 + 0) = 0) : a (8 + 13 * g + 1) = f (8 + g * 13 + 1) ∧ a (8 + 13 * g + 2) = f (8 + g * 13 + 2) ∧ a (8 + 13 * g + 3) = f (8 + g * 13 + 3) ∧ (0 ≤ (f (8 + g * 13 + 1)).toInt ∧ (f (8 + g * 13 + 1)).toInt ≤ (f 3).toInt) ∧ (f (8 + g * 13 + 3) = 0 ∨ (f (8 + g * 13 + 3) = 1 ∧ (f (8 + g * 13 + 2) = f (8 + g * 13 + 0) ∨ f (8 + g * 13 + 2) = f (8 + g * 13 + 0) - 4))) := by
  rcases (hR.2 g hg).2.2 with ⟨u0, -⟩ | ⟨-, u⟩
  · exact absurd u0 h
  · exact u
theorem e_blk {N : Nat} {f a : Nat → Int32} {g : Nat} (hR : Row N f a) (hg : g < 6) : h_blk f g ↔ m_blk a g := by
  unfold h_blk m_blk
  rw [hR.1.get (w := 3) (by omega), hR.1.get (w := 0) (by omega), ← hR.uw hg]
  by_cases c : f (8 + g * 13 + 0) = 0
  · exact ⟨fun z => absurd c z.1, fun z => absurd c z.1⟩
  · rw [(hR.under hg c).1]
theorem e_bm {N : Nat} {f a : Nat → Int32} (hR : Row N f a) : ∀ k, k ≤ 6 → h_bm f k = m_bm6 a k
  | 0, _ => rfl
  | k + 1, h => by
    have hb := e_blk hR (g := k) (by omega)
    have ih := e_bm hR k (by omega)
    have e1 : h_bm f (k + 1) = if h_blk f k then h_bm f k ||| ((1 : Int32) <<< (nI k &&& 31)) else h_bm f k := rfl
    have e2 : m_bm6 a (k + 1) = if m_blk a k then m_bm6 a k ||| ((1 : Int32) <<< (nI k &&& 31)) else m_bm6 a k ||| 0 := rfl
    rw [e1, e2, ih]
    by_cases c : h_blk f k
    · rw [if_pos c, if_pos (hb.mp c)]
    · rw [if_neg c, if_neg (fun z => c (hb.mpr z)), Int32.or_zero]
theorem e_um {N : Nat} {f a : Nat → Int32} (hR : Row N f a) : ∀ k, k ≤ 6 → h_um f k = m_um a k
  | 0, _ => rfl
  | k + 1, h => by
    have hb := hR.uw (g := k) (by omega)
    have ih := e_um hR k (by omega)
    have e1 : h_um f (k + 1) = if ¬ f (8 + k * 13 + 0) = 0 then h_um f k ||| ((1 : Int32) <<< (nI k &&& 31)) else h_um f k := rfl
    have e2 : m_um a (k + 1) = if ¬ a (8 + 13 * k + 1) = (-6) then m_um a k ||| ((1 : Int32) <<< (nI k &&& 31)) else m_um a k ||| 0 := rfl
    rw [e1, e2, ih]
    by_cases c : f (8 + k * 13 + 0) = 0
    · rw [if_neg (fun z => z c), if_neg (fun z => z (hb.mp c)), Int32.or_zero]
    · rw [if_pos c, if_pos (fun z => c (hb.mpr z))]
theorem e_sum {N : Nat} {f a : Nat → Int32} (hR : Row N f a) {w : Nat} (h1 : 5 ≤ w) (h2 : w ≤ 12) : ∀ k, k ≤ 6 → h_sum f w k = m_sum a (w - 1) k
  | 0, _ => rfl
  | k + 1, h => by
    have ih := e_sum hR h1 h2 k (by omega)
    have e1 : h_sum f w (k + 1) = h_sum f w k + f (8 + k * 13 + w) := rfl
    have e2 : m_sum a (w - 1) (k + 1) = m_sum a (w - 1) k + a (8 + 13 * k + (w - 1)) := rfl
    rw [e1, e2, ih, (hR.2 k (by omega)).2.1.get h1 h2]
theorem b_i_iff {p q : Prop} [Decidable p] [Decidable q] (h : p ↔ q) : b_i p = b_i q := by
  by_cases c : p
  · rw [b_i_t c, b_i_t (h.mp c)]
  · rw [b_i_f c, b_i_f (fun z => c (h.mpr z))]
theorem e_tell {N : Nat} {f a : Nat → Int32} {g w : Nat} (hR : Row N f a) (hg : g < 6) (hw : w < 13) : h_tell f g w = m_gate a g w := by
  have huw := hR.uw hg
  match w, hw with
  | 0, _ => exact (hR.2 g hg).1.symm
  | 1, _ =>
    have e1 : h_tell f g 1 = if ¬ f (8 + g * 13 + 0) = 0 then f (8 + g * 13 + 1) else -6 := rfl
    have e2 : m_gate a g 1 = a (8 + 13 * g + 1) := rfl
    rw [e1, e2]
    by_cases c : f (8 + g * 13 + 0) = 0
    · rw [if_neg (fun z => z c), huw.mp c]
    · rw [if_pos c, (hR.under hg c).1]
  | 2, _ =>
    have e1 : h_tell f g 2 = if ¬ f (8 + g * 13 + 0) = 0 then (if ¬ f (8 + g * 13 + 3) = 0 then f (8 + g * 13 + 2) + 4 else -6) else -6 := rfl
    have e2 : m_gate a g 2 = if ¬ a (8 + 13 * g + 1) = (-6) then (if a (8 + 13 * g + 3) = 1 then a (8 + 13 * g + 2) + 4 else -6) else -6 := rfl
    rw [e1, e2]
    by_cases c : f (8 + g * 13 + 0) = 0
    · rw [if_neg (fun z => z c), if_neg (fun z => z (huw.mp c))]
    · obtain ⟨u1, u2, u3, u4, u6⟩ := hR.under hg c
      rw [if_pos c, if_pos (fun z => c (huw.mpr z)), u2, u3]
      rcases u6 with u6 | ⟨u6, -⟩
      · rw [u6, if_neg (by decide), if_neg (by decide)]
      · rw [u6, if_pos (by decide), if_pos rfl]
  | 3, _ =>
    have e1 : h_tell f g 3 = if ¬ f (8 + g * 13 + 0) = 0 then f (8 + g * 13 + 3) else -6 := rfl
    have e2 : m_gate a g 3 = if ¬ a (8 + 13 * g + 1) = (-6) then a (8 + 13 * g + 3) else -6 := rfl
    rw [e1, e2]
    by_cases c : f (8 + g * 13 + 0) = 0
    · rw [if_neg (fun z => z c), if_neg (fun z => z (huw.mp c))]
    · rw [if_pos c, if_pos (fun z => c (huw.mpr z)), (hR.under hg c).2.2.1]
  | 4, _ => exact b_i_iff (e_blk hR hg)
  | 5, _ => exact ((hR.2 g hg).2.1.get (w := 5) (by omega) (by omega)).symm
  | 6, _ => exact ((hR.2 g hg).2.1.get (w := 6) (by omega) (by omega)).symm
  | 7, _ => exact ((hR.2 g hg).2.1.get (w := 7) (by omega) (by omega)).symm
  | 8, _ => exact ((hR.2 g hg).2.1.get (w := 8) (by omega) (by omega)).symm
  | 9, _ => exact ((hR.2 g hg).2.1.get (w := 9) (by omega) (by omega)).symm
  | 10, _ => exact ((hR.2 g hg).2.1.get (w := 10) (by omega) (by omega)).symm
  | 11, _ => exact ((hR.2 g hg).2.1.get (w := 11) (by omega) (by omega)).symm
  | 12, _ => exact ((hR.2 g hg).2.1.get (w := 12) (by omega) (by omega)).symm
  | k + 13, z => exact absurd z (by omega)
theorem e_thr {N : Nat} {f a : Nat → Int32} {g : Nat} (hR : Row N f a) (hg : g < 6) : m_thr a g = h_thr f g := by
  have h5 := (hR.2 g hg).2.1.get (w := 5) (by omega) (by omega)
  have h6 := (hR.2 g hg).2.1.get (w := 6) (by omega) (by omega)
  unfold m_thr h_thr
  rw [← h5, ← h6]
theorem e_thr0 {N : Nat} {f a : Nat → Int32} {g : Nat} (hR : Row N f a) (hg : g < 6) (hN : N ≤ 1000000) : 0 < h_thr f g ↔ ¬ h_thr f g = 0 := by
  obtain ⟨-, -, h1, h2, h3⟩ := (hR.2 g hg).2.1
  have e : (h_thr f g).toInt = (f (8 + g * 13 + 5)).toInt + (f (8 + g * 13 + 6)).toInt := i_add (by omega) (by omega)
  rw [i_lt, i_eq, i_0, e]
  omega
theorem e_mean {N : Nat} {f a : Nat → Int32} {g : Nat} (hR : Row N f a) (hg : g < 6) (hN : N ≤ 1000000) : h_mean f g = m_mean a g := by
  have h0 := e_thr0 hR hg hN
  unfold h_mean m_mean
  rw [e_thr hR hg, e_tell hR hg (by omega : 11 < 13)]
  by_cases c : h_thr f g = 0
  · rw [if_neg (fun z => (h0.mp z) c), if_pos c]
  · rw [if_pos (h0.mpr c), if_neg c]
    rfl
theorem e_bus {N : Nat} {f a : Nat → Int32} (hR : Row N f a) : ∀ k, k ≤ 6 → h_bus f k = m_bus2 a k
  | 0, _ => rfl
  | k + 1, h => by
    have ih := e_bus hR k (by omega)
    have e1 : h_bus f (k + 1) = if h_thr f k ≤ (h_bus f k).2 then h_bus f k else (nI k, h_thr f k) := rfl
    have e2 : m_bus2 a (k + 1) = (if m_thr a k ≤ (m_bus2 a k).2 then (m_bus2 a k).1 else nI k, if m_thr a k ≤ (m_bus2 a k).2 then (m_bus2 a k).2 else m_thr a k) := rfl
    rw [e1, e2, ih, e_thr hR (by omega)]
    by_cases c : h_thr f k ≤ (m_bus2 a k).2
    · rw [if_pos c, if_pos c, if_pos c]
    · rw [if_neg c, if_neg c, if_neg c]
theorem e_ev0 (f : Nat → Int32) (g : Nat) : h_evto f g 0 = (if f (8 + g * 13 + 2) ≤ 0 then -6 else 4 - h_abs (f (8 + g * 13 + 2))) := rfl
theorem e_ev1 (f : Nat → Int32) (g : Nat) : h_evto f g 1 = (if f (8 + g * 13 + 2) ≤ 0 then 4 - h_abs (f (8 + g * 13 + 2)) else -6) := rfl
theorem e_ev2 (f : Nat → Int32) (g : Nat) : h_evto f g 2 = h_abs (f (8 + g * 13 + 2)) := rfl
theorem e_mv0 (a : Nat → Int32) (g : Nat) : m_evto a g 0 = (if 4 ≤ 4 - a (8 + 13 * g + 2) then -6 else 4 - a (8 + 13 * g + 2)) := rfl
theorem e_mv1 (a : Nat → Int32) (g : Nat) : m_evto a g 1 = (if 4 ≤ 4 + a (8 + 13 * g + 2) then -6 else 4 + a (8 + 13 * g + 2)) := rfl
theorem e_mv2 (a : Nat → Int32) (g : Nat) : m_evto a g 2 = (if 0 ≤ a (8 + 13 * g + 2) then a (8 + 13 * g + 2) else -a (8 + 13 * g + 2)) := rfl
theorem e_evto {N : Nat} {f a : Nat → Int32} {g w : Nat} (hR : Row N f a) (hg : g < 6) (hw : w < 3) (h1 : ¬ f (8 + g * 13 + 0) = 0) (h2 : ¬ f (8 + g * 13 + 3) = 0) : h_evto f g w = m_evto a g w := by
  obtain ⟨u1, u2, u3, u4, u6⟩ := hR.under hg h1
  have hl := (hR.2 g hg).look
  rcases u6 with u6 | ⟨-, u7⟩
  · exact absurd u6 h2
  · have hv : f (8 + g * 13 + 2) = 1 ∨ f (8 + g * 13 + 2) = 2 ∨ f (8 + g * 13 + 2) = 3 ∨ f (8 + g * 13 + 2) = (-3) ∨ f (8 + g * 13 + 2) = (-2) ∨ f (8 + g * 13 + 2) = (-1) := by
      rcases hl with l | l | l | l
      · exact absurd l h1
      · rcases u7 with u | u <;> rw [u, l] <;> decide
      · rcases u7 with u | u <;> rw [u, l] <;> decide
      · rcases u7 with u | u <;> rw [u, l] <;> decide
    match w, hw with
    | 0, _ =>
      rw [e_ev0, e_mv0, u2]
      rcases hv with h | h | h | h | h | h <;> rw [h] <;> decide
    | 1, _ =>
      rw [e_ev1, e_mv1, u2]
      rcases hv with h | h | h | h | h | h <;> rw [h] <;> decide
    | 2, _ =>
      rw [e_ev2, e_mv2, u2]
      rcases hv with h | h | h | h | h | h <;> rw [h] <;> decide
    | k + 3, z => exact absurd z (by omega)
theorem e_ub {N : Nat} {f a : Nat → Int32} (hR : Row N f a) : ∀ k, k ≤ 6 → h_ub f k = m_ub a k
  | 0, _ => rfl
  | k + 1, h => by
    have ih := e_ub hR k (by omega)
    have huw := hR.uw (g := k) (by omega)
    have e1 : h_ub f (k + 1) = if ¬ f (8 + k * 13 + 0) = 0 then (if h_blk f k then h_ub f k else if h_ub f k = (-6) then h_left f k else if h_ub f k ≤ h_left f k then h_ub f k else h_left f k) else h_ub f k := rfl
    have e2 : m_ub a (k + 1) = if ¬ a (8 + 13 * k + 1) = (-6) then (if m_left a k ≤ 0 then m_ub a k else if m_ub a k = (-6) then m_left a k else if m_ub a k ≤ m_left a k then m_ub a k else m_left a k) else m_ub a k := rfl
    rw [e1, e2, ih]
    by_cases c : f (8 + k * 13 + 0) = 0
    · rw [if_neg (fun z => z c), if_neg (fun z => z (huw.mp c))]
    · rw [if_pos c, if_pos (fun z => c (huw.mpr z))]
      obtain ⟨u1, -, -, u4, -⟩ := hR.under (by omega : k < 6) c
      have hs := hR.1.2.1
      have ht := hR.1.2.2.1
      have el : m_left a k = h_left f k := by
        unfold m_left h_left
        rw [hR.1.get (w := 0) (by omega), hR.1.get (w := 3) (by omega), u1]
      have n1 : (f 3 - f (8 + k * 13 + 1)).toInt = (f 3).toInt - (f (8 + k * 13 + 1)).toInt := i_sub (by omega) (by omega)
      have n2 : (h_left f k).toInt = (f 0).toInt - ((f 3).toInt - (f (8 + k * 13 + 1)).toInt) := by
        unfold h_left
        rw [i_sub (by rw [n1]; omega) (by rw [n1]; omega), n1]
      have hb : h_blk f k ↔ h_left f k ≤ 0 := by
        unfold h_blk
        rw [i_lt, n1, i_le, i_0, n2]
        exact ⟨fun z => by have := z.2; omega, fun z => ⟨c, by omega⟩⟩
      rw [el]
      by_cases b : h_blk f k
      · rw [if_pos b, if_pos (hb.mp b)]
      · rw [if_neg b, if_neg (fun z => b (hb.mpr z))]
/-! the head alone changes -/
theorem Row.heads {N : Nat} {f a f2 a2 : Nat → Int32} (hR : Row N f a) (hH : HR N f2 a2) (h3 : f2 3 = f 3) (hf : ∀ k, 8 ≤ k → f2 k = f k) (ha : ∀ k, 8 ≤ k → a2 k = a k) : Row N f2 a2 :=
  ⟨hH, fun g hg => (hR.2 g hg).cong h3 (fun k h1 _ => hf k (by omega)) (fun k h1 _ => ha k (by omega))⟩
theorem e_set {N : Nat} {f a : Nat → Int32} {s : Nat} {y : Int32} (hR : Row N f a) (hs : s < 3) (h1 : ¬ y < b_lo s) (h2 : y ≤ b_hi s) : Row N (upd f s y) (upd a s y) := by
  refine hR.heads ?_ (pk_un (by omega)) (fun k hk => pk_un (by omega)) (fun k hk => pk_un (by omega))
  obtain ⟨⟨e0, e1, e2, e3, e4, e5, e6, e7⟩, hs0, ht, hp⟩ := hR.1
  unfold HR
  match s, hs with
  | 0, _ =>
    have b1 : ¬ y < 1 := h1
    have b2 : y ≤ 200 := h2
    rw [i_lt, i_1] at b1
    rw [i_le, show (200 : Int32).toInt = 200 from by decide] at b2
    simp (disch := omega) only [pk_us, pk_un, e1, e2, e3, e4, e5, e6, e7]
    exact ⟨⟨trivial, trivial, trivial, trivial, trivial, trivial, trivial, trivial⟩, ⟨by omega, by omega⟩, ht, hp⟩
  | 1, _ =>
    simp (disch := omega) only [pk_us, pk_un, e0, e2, e3, e4, e5, e6, e7]
    exact ⟨⟨trivial, trivial, trivial, trivial, trivial, trivial, trivial, trivial⟩, hs0, ht, hp⟩
  | 2, _ =>
    simp (disch := omega) only [pk_us, pk_un, e0, e1, e3, e4, e5, e6, e7]
    exact ⟨⟨trivial, trivial, trivial, trivial, trivial, trivial, trivial, trivial⟩, hs0, ht, hp⟩
  | k + 3, z => exact absurd z (by omega)
theorem w_cor4 (a : Nat → Int32) (x : Int32) : m_cor a x 4 = x := by
  unfold m_cor
  split
  · rw [pk_un (by omega), pk_us]
  · rw [pk_un (by omega), pk_us]
theorem w_cor5 (a : Nat → Int32) (x : Int32) : m_cor a x 5 = if x ≤ a 5 then a 5 else x := by
  unfold m_cor
  rw [pk_un (f := a) (by omega : 5 ≠ 4)]
  split
  · rw [pk_us]
  · rw [pk_us]
theorem w_cor_o {a : Nat → Int32} {x : Int32} {k : Nat} (h4 : k ≠ 4) (h5 : k ≠ 5) : m_cor a x k = a k := by
  unfold m_cor
  split
  · rw [pk_un h5, pk_un h4]
  · rw [pk_un h5, pk_un h4]
theorem e_cor {N : Nat} {f a : Nat → Int32} {x : Int32} (hR : Row N f a) (h1 : ¬ x < 0) (h2 : x ≤ 999) : Row N (h_become f x) (m_cor a x) := by
  refine hR.heads ?_ (v_bec_o (by omega) (by omega)) (fun k hk => v_bec_o (by omega) (by omega)) (fun k hk => w_cor_o (by omega) (by omega))
  obtain ⟨⟨e0, e1, e2, e3, e4, e5, e6, e7⟩, hs0, ht, hp⟩ := hR.1
  rw [i_lt, i_0] at h1
  rw [i_le, show (999 : Int32).toInt = 999 from by decide] at h2
  unfold HR
  simp (disch := omega) only [v_bec4, v_bec5, v_bec_o, w_cor4, w_cor5, w_cor_o, e0, e1, e2, e3, e5, e6, e7]
  exact ⟨⟨trivial, trivial, trivial, trivial, trivial, trivial, trivial, trivial⟩, hs0, ht, ⟨by omega, by omega⟩⟩
set_option maxHeartbeats 4000000 in
theorem e_bits (f : Nat → Int32) : b_bc (h_bm f 6) = m_bits (h_bm f 6) 6 := by
  have e : ∀ k, h_bm f (k + 1) = if h_blk f k then h_bm f k ||| ((1 : Int32) <<< (nI k &&& 31)) else h_bm f k := fun _ => rfl
  have e0 : h_bm f 0 = 0 := rfl
  rw [e 5, e 4, e 3, e 2, e 1, e 0, e0]
  by_cases c0 : h_blk f 0 <;> by_cases c1 : h_blk f 1 <;> by_cases c2 : h_blk f 2 <;> by_cases c3 : h_blk f 3 <;> by_cases c4 : h_blk f 4 <;> by_cases c5 : h_blk f 5
  · rw [if_pos c5, if_pos c4, if_pos c3, if_pos c2, if_pos c1, if_pos c0]; decide +kernel
  · rw [if_neg c5, if_pos c4, if_pos c3, if_pos c2, if_pos c1, if_pos c0]; decide +kernel
  · rw [if_pos c5, if_neg c4, if_pos c3, if_pos c2, if_pos c1, if_pos c0]; decide +kernel
  · rw [if_neg c5, if_neg c4, if_pos c3, if_pos c2, if_pos c1, if_pos c0]; decide +kernel
  · rw [if_pos c5, if_pos c4, if_neg c3, if_pos c2, if_pos c1, if_pos c0]; decide +kernel
  · rw [if_neg c5, if_pos c4, if_neg c3, if_pos c2, if_pos c1, if_pos c0]; decide +kernel
  · rw [if_pos c5, if_neg c4, if_neg c3, if_pos c2, if_pos c1, if_pos c0]; decide +kernel
  · rw [if_neg c5, if_neg c4, if_neg c3, if_pos c2, if_pos c1, if_pos c0]; decide +kernel
  · rw [if_pos c5, if_pos c4, if_pos c3, if_neg c2, if_pos c1, if_pos c0]; decide +kernel
  · rw [if_neg c5, if_pos c4, if_pos c3, if_neg c2, if_pos c1, if_pos c0]; decide +kernel
  · rw [if_pos c5, if_neg c4, if_pos c3, if_neg c2, if_pos c1, if_pos c0]; decide +kernel
  · rw [if_neg c5, if_neg c4, if_pos c3, if_neg c2, if_pos c1, if_pos c0]; decide +kernel
  · rw [if_pos c5, if_pos c4, if_neg c3, if_neg c2, if_pos c1, if_pos c0]; decide +kernel
  · rw [if_neg c5, if_pos c4, if_neg c3, if_neg c2, if_pos c1, if_pos c0]; decide +kernel
  · rw [if_pos c5, if_neg c4, if_neg c3, if_neg c2, if_pos c1, if_pos c0]; decide +kernel
  · rw [if_neg c5, if_neg c4, if_neg c3, if_neg c2, if_pos c1, if_pos c0]; decide +kernel
  · rw [if_pos c5, if_pos c4, if_pos c3, if_pos c2, if_neg c1, if_pos c0]; decide +kernel
  · rw [if_neg c5, if_pos c4, if_pos c3, if_pos c2, if_neg c1, if_pos c0]; decide +kernel
  · rw [if_pos c5, if_neg c4, if_pos c3, if_pos c2, if_neg c1, if_pos c0]; decide +kernel
  · rw [if_neg c5, if_neg c4, if_pos c3, if_pos c2, if_neg c1, if_pos c0]; decide +kernel
  · rw [if_pos c5, if_pos c4, if_neg c3, if_pos c2, if_neg c1, if_pos c0]; decide +kernel
  · rw [if_neg c5, if_pos c4, if_neg c3, if_pos c2, if_neg c1, if_pos c0]; decide +kernel
  · rw [if_pos c5, if_neg c4, if_neg c3, if_pos c2, if_neg c1, if_pos c0]; decide +kernel
  · rw [if_neg c5, if_neg c4, if_neg c3, if_pos c2, if_neg c1, if_pos c0]; decide +kernel
  · rw [if_pos c5, if_pos c4, if_pos c3, if_neg c2, if_neg c1, if_pos c0]; decide +kernel
  · rw [if_neg c5, if_pos c4, if_pos c3, if_neg c2, if_neg c1, if_pos c0]; decide +kernel
  · rw [if_pos c5, if_neg c4, if_pos c3, if_neg c2, if_neg c1, if_pos c0]; decide +kernel
  · rw [if_neg c5, if_neg c4, if_pos c3, if_neg c2, if_neg c1, if_pos c0]; decide +kernel
  · rw [if_pos c5, if_pos c4, if_neg c3, if_neg c2, if_neg c1, if_pos c0]; decide +kernel
  · rw [if_neg c5, if_pos c4, if_neg c3, if_neg c2, if_neg c1, if_pos c0]; decide +kernel
  · rw [if_pos c5, if_neg c4, if_neg c3, if_neg c2, if_neg c1, if_pos c0]; decide +kernel
  · rw [if_neg c5, if_neg c4, if_neg c3, if_neg c2, if_neg c1, if_pos c0]; decide +kernel
  · rw [if_pos c5, if_pos c4, if_pos c3, if_pos c2, if_pos c1, if_neg c0]; decide +kernel
  · rw [if_neg c5, if_pos c4, if_pos c3, if_pos c2, if_pos c1, if_neg c0]; decide +kernel
  · rw [if_pos c5, if_neg c4, if_pos c3, if_pos c2, if_pos c1, if_neg c0]; decide +kernel
  · rw [if_neg c5, if_neg c4, if_pos c3, if_pos c2, if_pos c1, if_neg c0]; decide +kernel
  · rw [if_pos c5, if_pos c4, if_neg c3, if_pos c2, if_pos c1, if_neg c0]; decide +kernel
  · rw [if_neg c5, if_pos c4, if_neg c3, if_pos c2, if_pos c1, if_neg c0]; decide +kernel
  · rw [if_pos c5, if_neg c4, if_neg c3, if_pos c2, if_pos c1, if_neg c0]; decide +kernel
  · rw [if_neg c5, if_neg c4, if_neg c3, if_pos c2, if_pos c1, if_neg c0]; decide +kernel
  · rw [if_pos c5, if_pos c4, if_pos c3, if_neg c2, if_pos c1, if_neg c0]; decide +kernel
  · rw [if_neg c5, if_pos c4, if_pos c3, if_neg c2, if_pos c1, if_neg c0]; decide +kernel
  · rw [if_pos c5, if_neg c4, if_pos c3, if_neg c2, if_pos c1, if_neg c0]; decide +kernel
  · rw [if_neg c5, if_neg c4, if_pos c3, if_neg c2, if_pos c1, if_neg c0]; decide +kernel
  · rw [if_pos c5, if_pos c4, if_neg c3, if_neg c2, if_pos c1, if_neg c0]; decide +kernel
  · rw [if_neg c5, if_pos c4, if_neg c3, if_neg c2, if_pos c1, if_neg c0]; decide +kernel
  · rw [if_pos c5, if_neg c4, if_neg c3, if_neg c2, if_pos c1, if_neg c0]; decide +kernel
  · rw [if_neg c5, if_neg c4, if_neg c3, if_neg c2, if_pos c1, if_neg c0]; decide +kernel
  · rw [if_pos c5, if_pos c4, if_pos c3, if_pos c2, if_neg c1, if_neg c0]; decide +kernel
  · rw [if_neg c5, if_pos c4, if_pos c3, if_pos c2, if_neg c1, if_neg c0]; decide +kernel
  · rw [if_pos c5, if_neg c4, if_pos c3, if_pos c2, if_neg c1, if_neg c0]; decide +kernel
  · rw [if_neg c5, if_neg c4, if_pos c3, if_pos c2, if_neg c1, if_neg c0]; decide +kernel
  · rw [if_pos c5, if_pos c4, if_neg c3, if_pos c2, if_neg c1, if_neg c0]; decide +kernel
  · rw [if_neg c5, if_pos c4, if_neg c3, if_pos c2, if_neg c1, if_neg c0]; decide +kernel
  · rw [if_pos c5, if_neg c4, if_neg c3, if_pos c2, if_neg c1, if_neg c0]; decide +kernel
  · rw [if_neg c5, if_neg c4, if_neg c3, if_pos c2, if_neg c1, if_neg c0]; decide +kernel
  · rw [if_pos c5, if_pos c4, if_pos c3, if_neg c2, if_neg c1, if_neg c0]; decide +kernel
  · rw [if_neg c5, if_pos c4, if_pos c3, if_neg c2, if_neg c1, if_neg c0]; decide +kernel
  · rw [if_pos c5, if_neg c4, if_pos c3, if_neg c2, if_neg c1, if_neg c0]; decide +kernel
  · rw [if_neg c5, if_neg c4, if_pos c3, if_neg c2, if_neg c1, if_neg c0]; decide +kernel
  · rw [if_pos c5, if_pos c4, if_neg c3, if_neg c2, if_neg c1, if_neg c0]; decide +kernel
  · rw [if_neg c5, if_pos c4, if_neg c3, if_neg c2, if_neg c1, if_neg c0]; decide +kernel
  · rw [if_pos c5, if_neg c4, if_neg c3, if_neg c2, if_neg c1, if_neg c0]; decide +kernel
  · rw [if_neg c5, if_neg c4, if_neg c3, if_neg c2, if_neg c1, if_neg c0]; decide +kernel
