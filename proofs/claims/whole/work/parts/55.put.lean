/-! characters in a number -/
theorem u_shr (x : Int64) (s : UInt64) : (x.toUInt64 >>> s).toInt64.toBitVec.toNat = x.toBitVec.toNat / 2 ^ (s.toNat % 64) := by
  show (x.toUInt64 >>> s).toNat = _
  rw [UInt64.toNat_shiftRight, Nat.shiftRight_eq_div_pow]
  rfl
theorem u_eq {x y : Int64} (h : x.toBitVec.toNat = y.toBitVec.toNat) : x = y := Int64.toBitVec_inj.mp (BitVec.eq_of_toNat_eq h)
theorem u_8 : ∀ i, i < 8 → (((nI (8 * i)).toInt64.toUInt64 &&& Int64.toUInt64 63).toNat) % 64 = 8 * i := by decide +kernel
theorem u_rest (c : Int64) {i : Nat} (hi : i < 8) : (p_rest c i).toBitVec.toNat = c.toBitVec.toNat / 2 ^ (8 * i) := by
  unfold p_rest
  rw [u_shr, u_8 i hi]
theorem u_and (x : Int64) : ∃ j : Nat, j < 256 ∧ x &&& 255 = lN j ∧ j = x.toBitVec.toNat % 256 := by
  refine ⟨x.toBitVec.toNat % 256, Nat.mod_lt _ (by omega), u_eq ?_, rfl⟩
  have e1 : (x &&& 255).toBitVec.toNat = x.toBitVec.toNat &&& 255 := by
    rw [Int64.toBitVec_and, BitVec.toNat_and]
    rfl
  have e2 : (lN (x.toBitVec.toNat % 256)).toBitVec.toNat = x.toBitVec.toNat % 256 := by
    show (x.toBitVec.toNat % 256) % 2 ^ 64 = _
    exact Nat.mod_eq_of_lt (by omega)
  rw [e1, e2]
  exact Nat.and_two_pow_sub_one_eq_mod x.toBitVec.toNat 8
theorem u_zero {x : Int64} (h : x.toBitVec.toNat = 0) : x = 0 := u_eq h
theorem e_num (c : Int64) : ∀ (k i : Nat) (l : Int64), i + k = 8 → l.toBitVec.toNat = c.toBitVec.toNat / 2 ^ (8 * i) → (∃ j : Nat, j ≤ 8 ∧ p_num c k i = nI j ∧ m_ch k l i = nI j) ∨ (p_num c k i = -2 ∧ m_ch k l i = 0)
  | 0, i, l, hk, hl => by
    have e : i = 8 := by omega
    subst e
    have h64 : c.toBitVec.toNat < 2 ^ 64 := c.toBitVec.isLt
    have hz : l = 0 := u_zero (by rw [hl]; exact Nat.div_eq_of_lt h64)
    refine Or.inl ⟨8, Nat.le_refl _, rfl, ?_⟩
    unfold m_ch
    rw [if_pos hz]
  | k + 1, i, l, hk, hl => by
    have hi : i < 8 := by omega
    have el : p_rest c i = l := u_eq (by rw [u_rest c hi, hl])
    obtain ⟨j, hj, ej, em⟩ := u_and l
    have ec : p_code c i = nI j := by
      unfold p_code
      rw [el, ej, lN_i]
    have e33 : m_in (l &&& 255) 33 126 ↔ (33 ≤ j ∧ j ≤ 126) := by
      rw [ej]
      have a1 : lN j < 33 ↔ j < 33 := pk_lLT (a := j) (b := 33) (by omega) (by omega)
      have a2 : (126 : Int64) < lN j ↔ 126 < j := pk_lLT (a := 126) (b := j) (by omega) (by omega)
      unfold m_in
      rw [a1, a2]
      omega
    have i0 : nI j = 0 ↔ j = 0 := nI_eq (b := 0) (by omega) (by omega)
    have i33 : nI j < 33 ↔ j < 33 := nI_ltI (b := 33) (by omega) (by omega)
    have i126 : nI j ≤ 126 ↔ j ≤ 126 := nI_leI (b := 126) (by omega) (by omega)
    rw [p_num, m_ch, ec, el]
    by_cases h0 : j = 0
    · rw [if_pos (i0.mpr h0), if_neg (fun z => absurd (e33.mp z).1 (by omega))]
      by_cases hz : l = 0
      · rw [if_pos hz, if_pos hz]
        exact Or.inl ⟨i, by omega, rfl, rfl⟩
      · rw [if_neg hz, if_neg hz]
        exact Or.inr ⟨rfl, rfl⟩
    · have hl0 : ¬ l = 0 := fun z => by
        rw [z] at em
        exact h0 em
      rw [if_neg (fun z => h0 (i0.mp z))]
      by_cases h33 : j < 33
      · rw [if_pos (i33.mpr h33), if_neg (fun z => absurd (e33.mp z).1 (by omega)), if_neg hl0]
        exact Or.inr ⟨rfl, rfl⟩
      · rw [if_neg (fun z => h33 (i33.mp z))]
        by_cases h126 : j ≤ 126
        · rw [if_pos (i126.mpr h126), if_pos (e33.mpr ⟨by omega, h126⟩)]
          refine e_num c k (i + 1) _ (by omega) ?_
          rw [u_shr, hl, show ((8 : Int32).toInt64.toUInt64 &&& Int64.toUInt64 63).toNat % 64 = 8 from by decide +kernel, Nat.div_div_eq_div_mul, ← Nat.pow_add, show 8 * i + 8 = 8 * (i + 1) by omega]
        · rw [if_neg (fun z => h126 (i126.mp z)), if_neg (fun z => h126 (e33.mp z).2), if_neg hl0]
          exact Or.inr ⟨rfl, rfl⟩
/-- how many characters: both refuse, or both tell 1 to 8 -/
theorem e_chars (c : Int64) : ((¬ 1 ≤ p_num c 8 0) ∧ m_ch 8 c 0 = 0) ∨ ∃ j : Nat, (1 ≤ j ∧ j ≤ 8) ∧ p_num c 8 0 = nI j ∧ m_ch 8 c 0 = nI j := by
  rcases e_num c 8 0 c rfl (by rw [Nat.mul_zero, Nat.pow_zero, Nat.div_one]) with ⟨j, hj, h1, h2⟩ | ⟨h1, h2⟩
  · by_cases h0 : j = 0
    · subst h0
      exact Or.inl ⟨by rw [h1]; decide, h2⟩
    · exact Or.inr ⟨j, ⟨by omega, hj⟩, h1, h2⟩
  · exact Or.inl ⟨by rw [h1]; decide, h2⟩
theorem e_pad {x : Int64} {n k : Nat} {tx : Nat → Int32} : ∀ m i, m + i = k → p_ap x m (n + i) (m_pa x k n tx i) = m_pa x k n tx k
  | 0, i, h => by
    have e : i = k := by omega
    subst e
    rfl
  | m + 1, i, h => by
    rw [p_ap]
    have ih := e_pad (x := x) (n := n) (k := k) (tx := tx) m (i + 1) (by omega)
    rw [m_pa, show k - 1 - i = m by omega] at ih
    exact ih
theorem e_append (x : Int64) (n k : Nat) (tx : Nat → Int32) : p_ap x k n tx = m_pa x k n tx k := e_pad (n := n) (tx := tx) k 0 rfl
