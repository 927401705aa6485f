/-! the events of a text happen in the reference -/
theorem m_bm_ne {tx : Nat → Int32} {tl sp : Nat} (h : ¬ m_bm tx tl sp = (-6)) : ∃ bm : Nat, bm < 3 ∧ m_bm tx tl sp = nI bm ∧ m_bs tx tl sp = sp + 1 ∧ sp < tl := by
  unfold m_bm m_bs at *
  by_cases h1 : m_has tx tl sp 111 111
  · exact ⟨0, by decide, if_pos h1, if_pos h1, h1.1⟩
  · by_cases h2 : m_has tx tl sp 105 105
    · exact ⟨1, by decide, by rw [if_neg h1, if_pos h2]; rfl, by rw [if_neg h1, if_pos h2], h2.1⟩
    · by_cases h3 : m_has tx tl sp 98 98
      · exact ⟨2, by decide, by rw [if_neg h1, if_neg h2, if_pos h3]; rfl, by rw [if_neg h1, if_neg h2, if_pos h3], h3.1⟩
      · exact absurd (by rw [if_neg h1, if_neg h2, if_neg h3]) h
theorem m_bs_n {tx : Nat → Int32} {tl sp : Nat} (h : m_bm tx tl sp = (-6)) : m_bs tx tl sp = sp := by
  unfold m_bm m_bs at *
  by_cases h1 : m_has tx tl sp 111 111
  · rw [if_pos h1] at h; exact absurd h (by decide)
  · rw [if_neg h1] at h ⊢
    by_cases h2 : m_has tx tl sp 105 105
    · rw [if_pos h2] at h; exact absurd h (by decide)
    · rw [if_neg h2] at h ⊢
      by_cases h3 : m_has tx tl sp 98 98
      · rw [if_pos h3] at h; exact absurd h (by decide)
      · rw [if_neg h3]
theorem m_bm_end {tx : Nat → Int32} {sp : Nat} : m_bm tx sp sp = (-6) := by
  have no : ∀ x y : Int32, ¬ m_has tx sp sp x y := fun x y q => absurd q.1 (Nat.lt_irrefl _)
  unfold m_bm
  rw [if_neg (no _ _), if_neg (no _ _), if_neg (no _ _)]
def m_ev (tx : Nat → Int32) (tl g : Nat) : Nat → Nat → (Nat → Int32) → Int32 → (Nat → Int32) × Int32 × Nat
  | 0, sp, a, n => (a, n, sp)
  | k + 1, sp, a, n => if m_bm tx tl sp = (-6) then (a, n, sp) else m_ev tx tl g k (sp + 1) (m_hap a g (m_bm tx tl sp).toNatClampNeg) (n + m_hapn a g (m_bm tx tl sp).toNatClampNeg)
theorem m_ev_s {tx : Nat → Int32} {tl g sp : Nat} {a : Nat → Int32} {n : Int32} (h : sp ≤ tl) : m_ev tx tl g (tl - sp) sp a n = if m_bm tx tl sp = (-6) then (a, n, sp) else m_ev tx tl g (tl - (sp + 1)) (sp + 1) (m_hap a g (m_bm tx tl sp).toNatClampNeg) (n + m_hapn a g (m_bm tx tl sp).toNatClampNeg) := by
  rcases Nat.lt_or_ge sp tl with c | c
  · obtain ⟨k, hk⟩ : ∃ k, tl - sp = k + 1 := ⟨tl - sp - 1, by omega⟩
    rw [hk, show tl - (sp + 1) = k by omega]
    rfl
  · have e : sp = tl := by omega
    subst e
    rw [Nat.sub_self, if_pos m_bm_end]
    rfl
theorem m_ev_b {tx : Nat → Int32} {tl g sp bm : Nat} {a : Nat → Int32} {n : Int32} (h : sp ≤ tl) (c : ¬ m_bm tx tl sp = (-6)) (e : m_bm tx tl sp = nI bm) (hb : bm < 3) : m_ev tx tl g (tl - sp) sp a n = m_ev tx tl g (tl - (sp + 1)) (sp + 1) (m_hap a g bm) (n + m_hapn a g bm) := by
  rw [m_ev_s h, if_neg c, e, nI_clamp (by omega)]
theorem m_run_b {tx : Nat → Int32} {tl sp : Nat} (h : sp ≤ tl) : m_run tx tl (tl - sp) sp = if m_bm tx tl sp = (-6) then sp else m_run tx tl (tl - (sp + 1)) (sp + 1) := by
  rw [m_run_s h]
  unfold m_bm
  by_cases h1 : m_has tx tl sp 111 111
  · rw [if_pos h1, if_pos h1, if_neg (by decide)]
  · by_cases h2 : m_has tx tl sp 105 105
    · rw [if_neg h1, if_neg h1, if_pos h2, if_pos h2, if_neg (by decide)]
    · by_cases h3 : m_has tx tl sp 98 98
      · rw [if_neg h1, if_neg h1, if_neg h2, if_neg h2, if_pos h3, if_pos h3, if_neg (by decide)]
      · rw [if_neg h1, if_neg h1, if_neg h2, if_neg h2, if_neg h3, if_neg h3, if_pos rfl]
theorem m_ev_run {tx : Nat → Int32} {tl g : Nat} : ∀ (k sp : Nat) (a : Nat → Int32) (n : Int32), sp ≤ tl → tl - sp = k → (m_ev tx tl g (tl - sp) sp a n).2.2 = m_run tx tl (tl - sp) sp
  | 0, sp, a, n, h, hk => by
    rw [hk]
    rfl
  | k + 1, sp, a, n, h, hk => by
    rw [m_ev_s h, m_run_b h]
    by_cases c : m_bm tx tl sp = (-6)
    · rw [if_pos c, if_pos c]
    · rw [if_neg c, if_neg c]
      exact m_ev_run k (sp + 1) _ _ (by omega) (by omega)
abbrev m_evx (tx : Nat → Int32) (tl sp : Nat) (a : Nat → Int32) (n : Int32) : (Nat → Int32) × Int32 × Nat := m_ev tx tl (tx sp - 48).toNatClampNeg (tl - (sp + 1)) (sp + 1) a n
def m_tick (a : Nat → Int32) (nu : Int32) : Nat → Int32 := if a 3 + nu ≤ 99999 then upd a 3 (a 3 + nu) else upd a 3 (a 3 + 0)
def m_rd (tx : Nat → Int32) (tl : Nat) : Nat → Nat → Int32 → (Nat → Int32) → Int32 → (Nat → Int32) × Int32 × Nat × Int32
  | 0, sp, nu, a, n => (a, n, sp, nu)
  | k + 1, sp, nu, a, n => if m_has tx tl sp 46 46 then (if m_has tx tl (m_re tx tl sp nu).2.1 59 59 then m_rd tx tl k ((m_re tx tl sp nu).2.1 + 1) (m_re tx tl sp nu).2.2 (m_tick a (m_re tx tl sp nu).2.2) n else (m_tick a (m_re tx tl sp nu).2.2, n, (m_re tx tl sp nu).2.1, (m_re tx tl sp nu).2.2)) else (if m_has tx tl (m_evx tx tl sp a n).2.2 59 59 then m_rd tx tl k ((m_evx tx tl sp a n).2.2 + 1) nu (m_evx tx tl sp a n).1 (m_evx tx tl sp a n).2.1 else ((m_evx tx tl sp a n).1, (m_evx tx tl sp a n).2.1, (m_evx tx tl sp a n).2.2, nu))
theorem m_ft_ok {tx : Nat → Int32} {tl k s : Nat} {n : Int32} (h60 : tl ≤ 60) (hs : s ≤ tl) (h : (m_ftl tx tl (k + 1) s n).1 = -6) : (m_re tx tl s n).1 = true ∧ ((m_has tx tl (m_re tx tl s n).2.1 59 59 ∧ (m_ftl tx tl k ((m_re tx tl s n).2.1 + 1) (m_re tx tl s n).2.2).1 = -6) ∨ ((¬ m_has tx tl (m_re tx tl s n).2.1 59 59) ∧ (m_re tx tl s n).2.1 = tl)) := by
  have hle := m_re_le (tx := tx) (nu := n) hs
  have nn : ∀ z : Nat, z ≤ 60 → ¬ nI z = (-6) := fun z hz q => by
    have e1 := congrArg Int32.toInt q
    rw [nI_toInt (by omega)] at e1
    have e2 : (-6 : Int32).toInt = -6 := by decide
    omega
  rw [m_ftl] at h
  by_cases c : (m_re tx tl s n).1 = true
  · rw [if_pos c] at h
    by_cases c2 : m_has tx tl (m_re tx tl s n).2.1 59 59
    · rw [if_pos c2] at h
      exact ⟨c, Or.inl ⟨c2, h⟩⟩
    · rw [if_neg c2] at h
      by_cases c3 : (m_re tx tl s n).2.1 = tl
      · exact ⟨c, Or.inr ⟨c2, c3⟩⟩
      · rw [if_neg c3] at h
        exact absurd h (nn _ (by omega))
  · rw [if_neg c] at h
    exact absurd h (nn _ (by omega))
theorem m_ftl_nu {tx : Nat → Int32} {tl : Nat} : ∀ (k sp : Nat) (n1 n2 : Int32), (m_ftl tx tl k sp n1).1 = (m_ftl tx tl k sp n2).1
  | 0, _, _, _ => rfl
  | k + 1, sp, n1, n2 => by
    have e : (m_re tx tl sp n1).1 = (m_re tx tl sp n2).1 ∧ (m_re tx tl sp n1).2.1 = (m_re tx tl sp n2).2.1 := by
      unfold m_re
      repeat' split
      all_goals exact ⟨rfl, rfl⟩
    rw [m_ftl, m_ftl, e.1, e.2]
    repeat' split
    all_goals first | rfl | exact m_ftl_nu k _ _ _
theorem m_re_gate {tx : Nat → Int32} {tl s : Nat} {n : Int32} (h : (m_re tx tl s n).1 = true) (hq : ¬ m_has tx tl s 46 46) : m_has tx tl s 48 53 ∧ (¬ m_bm tx tl (s + 1) = (-6)) ∧ m_re tx tl s n = (true, m_run tx tl (tl - (s + 1)) (s + 1), n) := by
  unfold m_re at h ⊢
  rw [if_neg hq] at h ⊢
  by_cases c : m_has tx tl s 48 53
  · rw [if_pos c] at h ⊢
    by_cases c2 : m_bm tx tl (s + 1) = (-6)
    · rw [if_pos c2] at h
      exact absurd h Bool.false_ne_true
    · rw [if_neg c2]
      obtain ⟨bm, -, -, e, hlt⟩ := m_bm_ne c2
      refine ⟨c, c2, ?_⟩
      rw [m_run_b (by omega : s + 1 ≤ tl), if_neg c2, e]
  · rw [if_neg c] at h
    exact absurd h Bool.false_ne_true
theorem m_gate_of {tx : Nat → Int32} {tl s : Nat} (h : m_has tx tl s 48 53) : ∃ g : Nat, g < 6 ∧ tx s - 48 = nI g := by
  have q := (m_inI (x := tx s) (lo := 48) (hi := 53) rfl rfl).mp h.2
  have q1 : (48 : Int32) ≤ tx s := Int32.not_lt.mp q.1
  have q2 : tx s ≤ 53 := Int32.not_lt.mp q.2
  rw [Int32.le_iff_toInt_le] at q1 q2
  have e1 : (48 : Int32).toInt = 48 := by decide
  have e2 : (53 : Int32).toInt = 53 := by decide
  have h0 : ¬ tx s < 0 := fun z => by
    rw [Int32.lt_iff_toInt_lt] at z
    have e3 : (0 : Int32).toInt = 0 := by decide
    omega
  obtain ⟨j, hj, e⟩ := nI_of h0
  rw [e, nI_toInt hj] at q1 q2
  refine ⟨j - 48, by omega, ?_⟩
  rw [e]
  exact pk_sub (a := j) (b := 48) (by omega)

theorem hw_X4_reads_0 : (.fieldLink RX4 147 "BeamTurnstilesModel" "spot" "I" : Cond) ∈ wsX4_reads := by decide +kernel
theorem hi_X4_reads_X4 : ∀ w ∈ wsX40, w ∈ wsX4_reads := by decide +kernel
theorem hw_X4_reads_2 : (.fieldLink RX4 7 "BeamTurnstilesModel" "all" "[I" : Cond) ∈ wsX4_reads := by decide +kernel
theorem hw_X4_reads_3 : (.fieldLink RX4 156 "BeamTurnstilesModel" "number" "I" : Cond) ∈ wsX4_reads := by decide +kernel
theorem hw_X4_reads_4 : (.constant RX4 95 (99999) : Cond) ∈ wsX4_reads := by decide +kernel
theorem hw_X4_reads_5 : (.fieldLink RX4 25 "BeamTurnstilesModel" "text" "[I" : Cond) ∈ wsX4_reads := by decide +kernel
set_option maxHeartbeats 4000000 in
set_option maxRecDepth 100000 in
theorem c_X4_reads (l : Launch) (D : va_G) (cI cC cZ cG : ClassId) (sz : Nat) (md : Nat → Nat) (a : Nat → Int32) (kp : Nat → Int32) (hs : Nat → Int32) (hn : Nat) (sl : Nat → Int32) (iv : Nat → Int32) (tx : Nat → Int32) (tl : Nat) (sp : Nat) (nu : Int32) (htl : tl ≤ 60) (hft : (m_ftl tx tl (tl + 1) 0 nu).1 = -6) : Met l yX4_reads wsX4_reads ({ frames := 5, cells := 0, slots := 0, locals := 111 } : Room) (b_W D (b_T cI cC cZ cG) b_X0 [((md 0), .inr (4, [.ref (md 1), .ref (md 2), .ref (md 3), .int (nI hn), .ref (md 4), .ref (md 5), .ref (md 6), .int (nI tl), .int (nI sp), .int nu])), ((md 1), .inl (cI, 86, .inl a)), ((md 2), .inl (cI, 86, .inl kp)), ((md 3), .inl (cI, 516, .inl hs)), ((md 4), .inl (cI, 172, .inl sl)), ((md 5), .inl (cI, 2, .inl iv)), ((md 6), .inl (cI, 60, .inl tx))] sz [.ref (md 0)]) (b_Qi D ((m_rd tx tl (tl + 1) 0 nu a 0).2.1) [((md 0), .inr (4, [.ref (md 1), .ref (md 2), .ref (md 3), .int (nI hn), .ref (md 4), .ref (md 5), .ref (md 6), .int (nI tl), .int (nI ((m_rd tx tl (tl + 1) 0 nu a 0).2.2.1)), .int ((m_rd tx tl (tl + 1) 0 nu a 0).2.2.2)])), ((md 1), .inl (cI, 86, .inl ((m_rd tx tl (tl + 1) 0 nu a 0).1))), ((md 2), .inl (cI, 86, .inl kp)), ((md 3), .inl (cI, 516, .inl hs)), ((md 4), .inl (cI, 172, .inl sl)), ((md 5), .inl (cI, 2, .inl iv)), ((md 6), .inl (cI, 60, .inl tx))] (va_A [((md 0), .inr (4, [.ref (md 1), .ref (md 2), .ref (md 3), .int (nI hn), .ref (md 4), .ref (md 5), .ref (md 6), .int (nI tl), .int (nI sp), .int nu])), ((md 1), .inl (cI, 86, .inl a)), ((md 2), .inl (cI, 86, .inl kp)), ((md 3), .inl (cI, 516, .inl hs)), ((md 4), .inl (cI, 172, .inl sl)), ((md 5), .inl (cI, 2, .inl iv)), ((md 6), .inl (cI, 60, .inl tx))] sz)) 0 0 (va_A [((md 0), .inr (4, [.ref (md 1), .ref (md 2), .ref (md 3), .int (nI hn), .ref (md 4), .ref (md 5), .ref (md 6), .int (nI tl), .int (nI sp), .int nu])), ((md 1), .inl (cI, 86, .inl a)), ((md 2), .inl (cI, 86, .inl kp)), ((md 3), .inl (cI, 516, .inl hs)), ((md 4), .inl (cI, 172, .inl sl)), ((md 5), .inl (cI, 2, .inl iv)), ((md 6), .inl (cI, 60, .inl tx))] sz) := by
  refine b_enterW (Qc := fun A => b_Qi D ((m_rd tx tl (tl + 1) 0 nu a 0).2.1) [((md 0), .inr (4, [.ref (md 1), .ref (md 2), .ref (md 3), .int (nI hn), .ref (md 4), .ref (md 5), .ref (md 6), .int (nI tl), .int (nI ((m_rd tx tl (tl + 1) 0 nu a 0).2.2.1)), .int ((m_rd tx tl (tl + 1) 0 nu a 0).2.2.2)])), ((md 1), .inl (cI, 86, .inl ((m_rd tx tl (tl + 1) 0 nu a 0).1))), ((md 2), .inl (cI, 86, .inl kp)), ((md 3), .inl (cI, 516, .inl hs)), ((md 4), .inl (cI, 172, .inl sl)), ((md 5), .inl (cI, 2, .inl iv)), ((md 6), .inl (cI, 60, .inl tx))] A) (cc := cX4_reads) (maxL := 5) (ret := (some .int)) (by decide) rfl (Nat.le_of_ble_eq_true rfl) ?_
  intro p e s m below meth c ls A hx hb hr hml hown hts hlocks hname hP hK hD hA hS hX hl Q hQ
  have hown : s.vm.findClass RX4 = some m.cls := hown
  have hl : lv_has ls 5 [(0, .ref (md 0))] := hl
  refine lv_aload_n (pc := 0) hx hb dX4_reads_0 rfl (lv_at hl 0 rfl) ?_
  refine lv_iconst (pc := 1) (v := 0) hx hb dX4_reads_1 (by decide) ?_
  refine va_put (pc := 2) (D := D) (ci := 4) (v := .int 0) (ty := .int) (C := RX4) (T := TX4) (N := 10) hx hb hts hi_X4_reads_X4 tyX4 tyX4_ok nmX4 hown hK hP hD hS 0 rfl rfl 8 (by decide) (hts _ hw_X4_reads_0) (fun _ h9 => h9) rfl (by decide +kernel) rfl rfl (Nat.le_of_ble_eq_true rfl) dX4_reads_2 (fun H locs hP hD hS => ?_)
  have hP : va_P D vwCl [((md 0), .inr (4, [.ref (md 1), .ref (md 2), .ref (md 3), .int (nI hn), .ref (md 4), .ref (md 5), .ref (md 6), .int (nI tl), .int 0, .int nu])), ((md 1), .inl (cI, 86, .inl a)), ((md 2), .inl (cI, 86, .inl kp)), ((md 3), .inl (cI, 516, .inl hs)), ((md 4), .inl (cI, 172, .inl sl)), ((md 5), .inl (cI, 2, .inl iv)), ((md 6), .inl (cI, 60, .inl tx))] H := hP
  have hD : va_D A [((md 0), .inr (4, [.ref (md 1), .ref (md 2), .ref (md 3), .int (nI hn), .ref (md 4), .ref (md 5), .ref (md 6), .int (nI tl), .int 0, .int nu])), ((md 1), .inl (cI, 86, .inl a)), ((md 2), .inl (cI, 86, .inl kp)), ((md 3), .inl (cI, 516, .inl hs)), ((md 4), .inl (cI, 172, .inl sl)), ((md 5), .inl (cI, 2, .inl iv)), ((md 6), .inl (cI, 60, .inl tx))] := hD
  refine lv_iconst (pc := 5) (v := 0) hx hb dX4_reads_5 (by decide) ?_
  refine lv_istore_n (pc := 6) (lv' := [(1, .int 0), (0, .ref (md 0))]) hx hb dX4_reads_6 rfl hl (by decide) rfl (fun ls hl => ?_)
  refine lv_iconst (pc := 7) (v := 1) hx hb dX4_reads_7 (by decide) ?_
  refine lv_istore_n (pc := 8) (lv' := [(2, .int 1), (1, .int 0), (0, .ref (md 0))]) hx hb dX4_reads_8 rfl hl (by decide) rfl (fun ls hl => ?_)
  have loop_9 : ∀ (fu : Nat) (s1 : Nat) (n1 : Int32) (a1 : Nat → Int32) (e1 : Int32) (k1 : Nat), (s1 ≤ tl) → (tl + 1 - s1 ≤ k1) → ((m_ftl tx tl k1 s1 n1).1 = -6) → (m_rd tx tl k1 s1 n1 a1 e1 = m_rd tx tl (tl + 1) 0 nu a 0) → tl + 1 - s1 < fu → ∀ (H : Heap) (locs : List Loc), va_P D vwCl [((md 0), .inr (4, [.ref (md 1), .ref (md 2), .ref (md 3), .int (nI hn), .ref (md 4), .ref (md 5), .ref (md 6), .int (nI tl), .int (nI s1), .int n1])), ((md 1), .inl (cI, 86, .inl a1)), ((md 2), .inl (cI, 86, .inl kp)), ((md 3), .inl (cI, 516, .inl hs)), ((md 4), .inl (cI, 172, .inl sl)), ((md 5), .inl (cI, 2, .inl iv)), ((md 6), .inl (cI, 60, .inl tx))] H → va_D A [((md 0), .inr (4, [.ref (md 1), .ref (md 2), .ref (md 3), .int (nI hn), .ref (md 4), .ref (md 5), .ref (md 6), .int (nI tl), .int (nI s1), .int n1])), ((md 1), .inl (cI, 86, .inl a1)), ((md 2), .inl (cI, 86, .inl kp)), ((md 3), .inl (cI, 516, .inl hs)), ((md 4), .inl (cI, 172, .inl sl)), ((md 5), .inl (cI, 2, .inl iv)), ((md 6), .inl (cI, 60, .inl tx))] → va_S A s.heap H locs → ∀ (ls : Array Slot), lv_has ls 5 [(2, .int 1), (1, .int e1), (0, .ref (md 0))] → W p l e ({ frames := 5, cells := 0, slots := 0, locals := 111 } : Room) s m ([.ref (md 0)] : List Value).toArray below meth c H locs 0 0 Q (F0 m 9 ls []) := by
    intro fu
    induction fu with
    | zero => intro s1 n1 a1 e1 k1 hs1 hk hft1 hv hfu H locs hP hD hS ls hl; exact absurd hfu (Nat.not_lt_zero _)
    | succ fu ih_9 =>
      intro s1 n1 a1 e1 k1 hs1 hk hft1 hv hfu H locs hP hD hS ls hl
      refine lv_iload_n (pc := 9) hx hb dX4_reads_9 rfl (lv_at hl 0 rfl) ?_
      refine lv_if_eq (pc := 10) (tgt := 128) hx hb dX4_reads_10 (by decide) (fun c_1 => ?_) (fun c_1 => ?_)
      · skip
        exact absurd c_1 (by decide)
      · skip
        obtain ⟨k2, ek⟩ : ∃ z9, k1 = z9 + 1 := ⟨k1 - 1, by omega⟩
        rw [ek] at hv hft1
        have hok := m_ft_ok htl hs1 hft1
        have hle := m_re_le (tx := tx) (nu := n1) hs1
        refine lv_aload_n (pc := 13) hx hb dX4_reads_13 rfl (lv_at hl 2 rfl) ?_
        refine lv_bipush (pc := 14) (v := 46) hx hb dX4_reads_14 (by decide) ?_
        rcases Classical.em (m_has tx tl s1 46 46) with hq_2 | hq_3
        · skip
          refine b_cW (pc := 16) (w1 := [((md 0), .inr (4, [.ref (md 1), .ref (md 2), .ref (md 3), .int (nI hn), .ref (md 4), .ref (md 5), .ref (md 6), .int (nI tl), .int (nI (s1 + 1)), .int n1])), ((md 1), .inl (cI, 86, .inl a1)), ((md 2), .inl (cI, 86, .inl kp)), ((md 3), .inl (cI, 516, .inl hs)), ((md 4), .inl (cI, 172, .inl sl)), ((md 5), .inl (cI, 2, .inl iv)), ((md 6), .inl (cI, 60, .inl tx))]) (va_runV (As := [.int 46]) (rest := []) ⟨hx, hb, hml, hown, hts⟩ (c_X4_takesOne_y l D cI cC cZ cG H.size md a1 kp hs hn sl iv tx tl s1 n1 46 (by first | omega | assumption) (by first | omega | assumption) hq_2) (cwV 1 hts gX4_reads_X4_takesOne rfl rfl rfl hy_X4_takesOne ⟨Nat.le_of_ble_eq_true rfl, Nat.le_of_ble_eq_true rfl⟩) (b_pWV (wc := [((md 0), .inr (4, [.ref (md 1), .ref (md 2), .ref (md 3), .int (nI hn), .ref (md 4), .ref (md 5), .ref (md 6), .int (nI tl), .int (nI s1), .int n1])), ((md 1), .inl (cI, 86, .inl a1)), ((md 2), .inl (cI, 86, .inl kp)), ((md 3), .inl (cI, 516, .inl hs)), ((md 4), .inl (cI, 172, .inl sl)), ((md 5), .inl (cI, 2, .inl iv)), ((md 6), .inl (cI, 60, .inl tx))]) hK hP hD b_Xok_0 [0, 1, 2, 3, 4, 5, 6] rfl (by decide) rfl trivial (ci := 4) (q0 := 0) rfl rfl) rfl rfl hl.1 rfl (lv_room (Nat.le_of_ble_eq_true rfl)) dX4_reads_16 ⟨Nat.zero_le _, Nat.zero_le _⟩) hP hD hS hA [0, 1, 2, 3, 4, 5, 6] rfl rfl (fun H locs hP hD hS => ?_)
          have hP : va_P D vwCl [((md 0), .inr (4, [.ref (md 1), .ref (md 2), .ref (md 3), .int (nI hn), .ref (md 4), .ref (md 5), .ref (md 6), .int (nI tl), .int (nI (s1 + 1)), .int n1])), ((md 1), .inl (cI, 86, .inl a1)), ((md 2), .inl (cI, 86, .inl kp)), ((md 3), .inl (cI, 516, .inl hs)), ((md 4), .inl (cI, 172, .inl sl)), ((md 5), .inl (cI, 2, .inl iv)), ((md 6), .inl (cI, 60, .inl tx))] H := hP
          have hD : va_D A [((md 0), .inr (4, [.ref (md 1), .ref (md 2), .ref (md 3), .int (nI hn), .ref (md 4), .ref (md 5), .ref (md 6), .int (nI tl), .int (nI (s1 + 1)), .int n1])), ((md 1), .inl (cI, 86, .inl a1)), ((md 2), .inl (cI, 86, .inl kp)), ((md 3), .inl (cI, 516, .inl hs)), ((md 4), .inl (cI, 172, .inl sl)), ((md 5), .inl (cI, 2, .inl iv)), ((md 6), .inl (cI, 60, .inl tx))] := hD
          refine lv_if_eq (pc := 19) (tgt := 63) hx hb dX4_reads_19 (by decide) (fun c_4 => ?_) (fun c_4 => ?_)
          · skip
            exact absurd c_4 (by decide)
          · skip
            refine lv_aload_n (pc := 22) hx hb dX4_reads_22 rfl (lv_at hl 2 rfl) ?_
            rcases m_rt_em tx tl (s1 + 1) with hq_5 | hq_6 | hq_7
            · skip
              exact absurd hok.1 (by rw [show m_re tx tl s1 n1 = (false, s1 + 1, n1) from (by simp only [m_re, if_pos hq_2, if_neg hq_5])]; exact Bool.false_ne_true)
            · skip
              refine b_cW (pc := 23) (w1 := [((md 0), .inr (4, [.ref (md 1), .ref (md 2), .ref (md 3), .int (nI hn), .ref (md 4), .ref (md 5), .ref (md 6), .int (nI tl), .int (nI ((s1 + 1) + 1)), .int (tx (s1 + 1) - 48)])), ((md 1), .inl (cI, 86, .inl a1)), ((md 2), .inl (cI, 86, .inl kp)), ((md 3), .inl (cI, 516, .inl hs)), ((md 4), .inl (cI, 172, .inl sl)), ((md 5), .inl (cI, 2, .inl iv)), ((md 6), .inl (cI, 60, .inl tx))]) (va_runV (As := []) (rest := []) ⟨hx, hb, hml, hown, hts⟩ (c_X4_readsTicks_1 l D cI cC cZ cG H.size md a1 kp hs hn sl iv tx tl (s1 + 1) n1 (by omega) (by omega) hq_6.1 hq_6.2) (cwV 0 hts gX4_reads_X4_readsTicks rfl rfl rfl hy_X4_readsTicks ⟨Nat.le_of_ble_eq_true rfl, Nat.le_of_ble_eq_true rfl⟩) (b_pWV (wc := [((md 0), .inr (4, [.ref (md 1), .ref (md 2), .ref (md 3), .int (nI hn), .ref (md 4), .ref (md 5), .ref (md 6), .int (nI tl), .int (nI (s1 + 1)), .int n1])), ((md 1), .inl (cI, 86, .inl a1)), ((md 2), .inl (cI, 86, .inl kp)), ((md 3), .inl (cI, 516, .inl hs)), ((md 4), .inl (cI, 172, .inl sl)), ((md 5), .inl (cI, 2, .inl iv)), ((md 6), .inl (cI, 60, .inl tx))]) hK hP hD b_Xok_0 [0, 1, 2, 3, 4, 5, 6] rfl (by decide) rfl trivial (ci := 4) (q0 := 0) rfl rfl) rfl rfl hl.1 rfl (lv_room (Nat.le_of_ble_eq_true rfl)) dX4_reads_23 ⟨Nat.zero_le _, Nat.zero_le _⟩) hP hD hS hA [0, 1, 2, 3, 4, 5, 6] rfl rfl (fun H locs hP hD hS => ?_)
              have hP : va_P D vwCl [((md 0), .inr (4, [.ref (md 1), .ref (md 2), .ref (md 3), .int (nI hn), .ref (md 4), .ref (md 5), .ref (md 6), .int (nI tl), .int (nI ((s1 + 1) + 1)), .int (tx (s1 + 1) - 48)])), ((md 1), .inl (cI, 86, .inl a1)), ((md 2), .inl (cI, 86, .inl kp)), ((md 3), .inl (cI, 516, .inl hs)), ((md 4), .inl (cI, 172, .inl sl)), ((md 5), .inl (cI, 2, .inl iv)), ((md 6), .inl (cI, 60, .inl tx))] H := hP
              have hD : va_D A [((md 0), .inr (4, [.ref (md 1), .ref (md 2), .ref (md 3), .int (nI hn), .ref (md 4), .ref (md 5), .ref (md 6), .int (nI tl), .int (nI ((s1 + 1) + 1)), .int (tx (s1 + 1) - 48)])), ((md 1), .inl (cI, 86, .inl a1)), ((md 2), .inl (cI, 86, .inl kp)), ((md 3), .inl (cI, 516, .inl hs)), ((md 4), .inl (cI, 172, .inl sl)), ((md 5), .inl (cI, 2, .inl iv)), ((md 6), .inl (cI, 60, .inl tx))] := hD
              refine lv_istore_n (pc := 26) (lv' := [(3, .int 1), (2, .int 1), (1, .int e1), (0, .ref (md 0))]) hx hb dX4_reads_26 rfl hl (by decide) rfl (fun ls hl => ?_)
              have er : m_re tx tl s1 n1 = (true, (s1 + 1) + 1, tx (s1 + 1) - 48) := by simp only [m_re, if_pos hq_2, if_pos hq_6.1, if_neg hq_6.2]
              have hle2 : (s1 + 1) + 1 ≤ tl := by rw [er] at hle; exact hle.2
              refine lv_aload_n (pc := 27) hx hb dX4_reads_27 rfl (lv_at hl 3 rfl) ?_
              refine va_get (pc := 28) (D := D) (ci := 4) (v := .ref (md 1)) (C := RX4) (T := TX4) (N := 10) hx hb hts hi_X4_reads_X4 hown hK hP 0 rfl rfl 0 (by decide) (hts _ hw_X4_reads_2) (fun _ h9 => h9) rfl dX4_reads_28 ?_
              refine lv_iconst (pc := 31) (v := 3) hx hb dX4_reads_31 (by decide) ?_
              refine lv_dup2_11 (pc := 32) hx hb dX4_reads_32 rfl rfl ?_
              refine b_iald (pc := 33) hx hb hK hP 1 0 rfl rfl 3 rfl (by omega) (by decide) dX4_reads_33 ?_
              refine lv_aload_n (pc := 34) hx hb dX4_reads_34 rfl (lv_at hl 3 rfl) ?_
              refine va_get (pc := 35) (D := D) (ci := 4) (v := .ref (md 1)) (C := RX4) (T := TX4) (N := 10) hx hb hts hi_X4_reads_X4 hown hK hP 0 rfl rfl 0 (by decide) (hts _ hw_X4_reads_2) (fun _ h9 => h9) rfl dX4_reads_35 ?_
              refine lv_iconst (pc := 38) (v := 3) hx hb dX4_reads_38 (by decide) ?_
              refine b_iald (pc := 39) hx hb hK hP 1 0 rfl rfl 3 rfl (by omega) (by decide) dX4_reads_39 ?_
              refine lv_aload_n (pc := 40) hx hb dX4_reads_40 rfl (lv_at hl 3 rfl) ?_
              refine va_get (pc := 41) (D := D) (ci := 4) (v := .int (tx (s1 + 1) - 48)) (C := RX4) (T := TX4) (N := 10) hx hb hts hi_X4_reads_X4 hown hK hP 0 rfl rfl 9 (by decide) (hts _ hw_X4_reads_3) (fun _ h9 => h9) rfl dX4_reads_41 ?_
              refine lv_iadd (pc := 44) hx hb dX4_reads_44 ?_
              refine lv_ldc (pc := 45) hx hb hown (hts _ hw_X4_reads_4) dX4_reads_45 ?_
              refine lv_icmp_le (pc := 47) (tgt := 54) hx hb dX4_reads_47 (by decide) (fun c_8 => ?_) (fun c_8 => ?_)
              · skip
                have c_8 : ((a1 3) + (tx (s1 + 1) - 48)) ≤ 99999 := c_8
                refine lv_aload_n (pc := 54) hx hb dX4_reads_54 rfl (lv_at hl 3 rfl) ?_
                refine va_get (pc := 55) (D := D) (ci := 4) (v := .int (tx (s1 + 1) - 48)) (C := RX4) (T := TX4) (N := 10) hx hb hts hi_X4_reads_X4 hown hK hP 0 rfl rfl 9 (by decide) (hts _ hw_X4_reads_3) (fun _ h9 => h9) rfl dX4_reads_55 ?_
                refine lv_iadd (pc := 58) hx hb dX4_reads_58 ?_
                refine b_iast (pc := 59) hx hb hK hP hD hS 1 0 rfl rfl 3 rfl (by omega) (by decide) dX4_reads_59 (fun H locs hP hD hS => ?_)
                obtain ⟨f_9, ef_9⟩ : ∃ z9 : Nat → Int32, z9 = upd a1 3 ((a1 3) + (tx (s1 + 1) - 48)) := ⟨_, rfl⟩
                have hP : va_P D vwCl [((md 0), .inr (4, [.ref (md 1), .ref (md 2), .ref (md 3), .int (nI hn), .ref (md 4), .ref (md 5), .ref (md 6), .int (nI tl), .int (nI ((s1 + 1) + 1)), .int (tx (s1 + 1) - 48)])), ((md 1), .inl (cI, 86, .inl f_9)), ((md 2), .inl (cI, 86, .inl kp)), ((md 3), .inl (cI, 516, .inl hs)), ((md 4), .inl (cI, 172, .inl sl)), ((md 5), .inl (cI, 2, .inl iv)), ((md 6), .inl (cI, 60, .inl tx))] H := by rw [ef_9]; exact hP
                have hD : va_D A [((md 0), .inr (4, [.ref (md 1), .ref (md 2), .ref (md 3), .int (nI hn), .ref (md 4), .ref (md 5), .ref (md 6), .int (nI tl), .int (nI ((s1 + 1) + 1)), .int (tx (s1 + 1) - 48)])), ((md 1), .inl (cI, 86, .inl f_9)), ((md 2), .inl (cI, 86, .inl kp)), ((md 3), .inl (cI, 516, .inl hs)), ((md 4), .inl (cI, 172, .inl sl)), ((md 5), .inl (cI, 2, .inl iv)), ((md 6), .inl (cI, 60, .inl tx))] := by rw [ef_9]; exact hD
                refine lv_goto (pc := 60) (tgt := 118) hx hb dX4_reads_60 (by decide) ?_
                refine lv_aload_n (pc := 118) hx hb dX4_reads_118 rfl (lv_at hl 3 rfl) ?_
                refine lv_bipush (pc := 119) (v := 59) hx hb dX4_reads_119 (by decide) ?_
                rcases Classical.em (m_has tx tl ((s1 + 1) + 1) 59 59) with hq_10 | hq_11
                · skip
                  refine b_cW (pc := 121) (w1 := [((md 0), .inr (4, [.ref (md 1), .ref (md 2), .ref (md 3), .int (nI hn), .ref (md 4), .ref (md 5), .ref (md 6), .int (nI tl), .int (nI (((s1 + 1) + 1) + 1)), .int (tx (s1 + 1) - 48)])), ((md 1), .inl (cI, 86, .inl f_9)), ((md 2), .inl (cI, 86, .inl kp)), ((md 3), .inl (cI, 516, .inl hs)), ((md 4), .inl (cI, 172, .inl sl)), ((md 5), .inl (cI, 2, .inl iv)), ((md 6), .inl (cI, 60, .inl tx))]) (va_runV (As := [.int 59]) (rest := []) ⟨hx, hb, hml, hown, hts⟩ (c_X4_takesOne_y l D cI cC cZ cG H.size md f_9 kp hs hn sl iv tx tl ((s1 + 1) + 1) (tx (s1 + 1) - 48) 59 (by first | omega | assumption) (by first | omega | assumption) hq_10) (cwV 1 hts gX4_reads_X4_takesOne rfl rfl rfl hy_X4_takesOne ⟨Nat.le_of_ble_eq_true rfl, Nat.le_of_ble_eq_true rfl⟩) (b_pWV (wc := [((md 0), .inr (4, [.ref (md 1), .ref (md 2), .ref (md 3), .int (nI hn), .ref (md 4), .ref (md 5), .ref (md 6), .int (nI tl), .int (nI ((s1 + 1) + 1)), .int (tx (s1 + 1) - 48)])), ((md 1), .inl (cI, 86, .inl f_9)), ((md 2), .inl (cI, 86, .inl kp)), ((md 3), .inl (cI, 516, .inl hs)), ((md 4), .inl (cI, 172, .inl sl)), ((md 5), .inl (cI, 2, .inl iv)), ((md 6), .inl (cI, 60, .inl tx))]) hK hP hD b_Xok_0 [0, 1, 2, 3, 4, 5, 6] rfl (by decide) rfl trivial (ci := 4) (q0 := 0) rfl rfl) rfl rfl hl.1 rfl (lv_room (Nat.le_of_ble_eq_true rfl)) dX4_reads_121 ⟨Nat.zero_le _, Nat.zero_le _⟩) hP hD hS hA [0, 1, 2, 3, 4, 5, 6] rfl rfl (fun H locs hP hD hS => ?_)
                  have hP : va_P D vwCl [((md 0), .inr (4, [.ref (md 1), .ref (md 2), .ref (md 3), .int (nI hn), .ref (md 4), .ref (md 5), .ref (md 6), .int (nI tl), .int (nI (((s1 + 1) + 1) + 1)), .int (tx (s1 + 1) - 48)])), ((md 1), .inl (cI, 86, .inl f_9)), ((md 2), .inl (cI, 86, .inl kp)), ((md 3), .inl (cI, 516, .inl hs)), ((md 4), .inl (cI, 172, .inl sl)), ((md 5), .inl (cI, 2, .inl iv)), ((md 6), .inl (cI, 60, .inl tx))] H := hP
                  have hD : va_D A [((md 0), .inr (4, [.ref (md 1), .ref (md 2), .ref (md 3), .int (nI hn), .ref (md 4), .ref (md 5), .ref (md 6), .int (nI tl), .int (nI (((s1 + 1) + 1) + 1)), .int (tx (s1 + 1) - 48)])), ((md 1), .inl (cI, 86, .inl f_9)), ((md 2), .inl (cI, 86, .inl kp)), ((md 3), .inl (cI, 516, .inl hs)), ((md 4), .inl (cI, 172, .inl sl)), ((md 5), .inl (cI, 2, .inl iv)), ((md 6), .inl (cI, 60, .inl tx))] := hD
                  refine lv_istore_n (pc := 124) (lv' := [(2, .int 1), (3, .int 1), (1, .int e1), (0, .ref (md 0))]) hx hb dX4_reads_124 rfl hl (by decide) rfl (fun ls hl => ?_)
                  refine lv_goto (pc := 125) (tgt := 9) hx hb dX4_reads_125 (by decide) ?_
                  subst ef_9
                  have hlt59 := hq_10.1
                  have hft2 : (m_ftl tx tl k2 (((s1 + 1) + 1) + 1) (tx (s1 + 1) - 48)).1 = -6 := by rw [er] at hok; exact hok.2.elim (fun q => q.2) (fun q => absurd hq_10 q.1)
                  have hle3 : s1 < ((s1 + 1) + 1) + 1 := Nat.lt_succ_of_le (by rw [er] at hle; exact hle.1)
                  exact ih_9 (((s1 + 1) + 1) + 1) (tx (s1 + 1) - 48) (upd a1 3 (a1 3 + (tx (s1 + 1) - 48))) e1 k2 (by omega) (by omega) hft2 (by rw [← hv, m_rd, if_pos hq_2, er, if_pos hq_10]; unfold m_tick; rw [if_pos c_8]; (try rfl)) (by omega) _ _ (hP.sub [0, 1, 2, 3, 4, 5, 6] rfl) (hD.sub [0, 1, 2, 3, 4, 5, 6] (by decide) rfl) hS ls (lv_sub hl [0, 2, 3] rfl)
                · skip
                  refine b_cW (pc := 121) (w1 := [((md 0), .inr (4, [.ref (md 1), .ref (md 2), .ref (md 3), .int (nI hn), .ref (md 4), .ref (md 5), .ref (md 6), .int (nI tl), .int (nI ((s1 + 1) + 1)), .int (tx (s1 + 1) - 48)])), ((md 1), .inl (cI, 86, .inl f_9)), ((md 2), .inl (cI, 86, .inl kp)), ((md 3), .inl (cI, 516, .inl hs)), ((md 4), .inl (cI, 172, .inl sl)), ((md 5), .inl (cI, 2, .inl iv)), ((md 6), .inl (cI, 60, .inl tx))]) (va_runV (As := [.int 59]) (rest := []) ⟨hx, hb, hml, hown, hts⟩ (c_X4_takesOne_n l D cI cC cZ cG H.size md f_9 kp hs hn sl iv tx tl ((s1 + 1) + 1) (tx (s1 + 1) - 48) 59 (by first | omega | assumption) (by first | omega | assumption) hq_11) (cwV 1 hts gX4_reads_X4_takesOne rfl rfl rfl hy_X4_takesOne ⟨Nat.le_of_ble_eq_true rfl, Nat.le_of_ble_eq_true rfl⟩) (b_pWV (wc := [((md 0), .inr (4, [.ref (md 1), .ref (md 2), .ref (md 3), .int (nI hn), .ref (md 4), .ref (md 5), .ref (md 6), .int (nI tl), .int (nI ((s1 + 1) + 1)), .int (tx (s1 + 1) - 48)])), ((md 1), .inl (cI, 86, .inl f_9)), ((md 2), .inl (cI, 86, .inl kp)), ((md 3), .inl (cI, 516, .inl hs)), ((md 4), .inl (cI, 172, .inl sl)), ((md 5), .inl (cI, 2, .inl iv)), ((md 6), .inl (cI, 60, .inl tx))]) hK hP hD b_Xok_0 [0, 1, 2, 3, 4, 5, 6] rfl (by decide) rfl trivial (ci := 4) (q0 := 0) rfl rfl) rfl rfl hl.1 rfl (lv_room (Nat.le_of_ble_eq_true rfl)) dX4_reads_121 ⟨Nat.zero_le _, Nat.zero_le _⟩) hP hD hS hA [0, 1, 2, 3, 4, 5, 6] rfl rfl (fun H locs hP hD hS => ?_)
                  have hP : va_P D vwCl [((md 0), .inr (4, [.ref (md 1), .ref (md 2), .ref (md 3), .int (nI hn), .ref (md 4), .ref (md 5), .ref (md 6), .int (nI tl), .int (nI ((s1 + 1) + 1)), .int (tx (s1 + 1) - 48)])), ((md 1), .inl (cI, 86, .inl f_9)), ((md 2), .inl (cI, 86, .inl kp)), ((md 3), .inl (cI, 516, .inl hs)), ((md 4), .inl (cI, 172, .inl sl)), ((md 5), .inl (cI, 2, .inl iv)), ((md 6), .inl (cI, 60, .inl tx))] H := hP
                  have hD : va_D A [((md 0), .inr (4, [.ref (md 1), .ref (md 2), .ref (md 3), .int (nI hn), .ref (md 4), .ref (md 5), .ref (md 6), .int (nI tl), .int (nI ((s1 + 1) + 1)), .int (tx (s1 + 1) - 48)])), ((md 1), .inl (cI, 86, .inl f_9)), ((md 2), .inl (cI, 86, .inl kp)), ((md 3), .inl (cI, 516, .inl hs)), ((md 4), .inl (cI, 172, .inl sl)), ((md 5), .inl (cI, 2, .inl iv)), ((md 6), .inl (cI, 60, .inl tx))] := hD
                  refine lv_istore_n (pc := 124) (lv' := [(2, .int 0), (3, .int 1), (1, .int e1), (0, .ref (md 0))]) hx hb dX4_reads_124 rfl hl (by decide) rfl (fun ls hl => ?_)
                  refine lv_goto (pc := 125) (tgt := 9) hx hb dX4_reads_125 (by decide) ?_
                  refine lv_iload_n (pc := 9) hx hb dX4_reads_9 rfl (lv_at hl 0 rfl) ?_
                  refine lv_if_eq (pc := 10) (tgt := 128) hx hb dX4_reads_10 (by decide) (fun c_12 => ?_) (fun c_12 => ?_)
                  · skip
                    refine lv_iload_n (pc := 128) hx hb dX4_reads_128 rfl (lv_at hl 2 rfl) ?_
                    subst ef_9
                    subst hQ
                    exact b_retW hx hb hr hlocks hS (by have e7 : m_rd tx tl (tl + 1) 0 nu a 0 = (upd a1 3 (a1 3 + (tx (s1 + 1) - 48)), e1, (s1 + 1) + 1, tx (s1 + 1) - 48) := (by rw [← hv, m_rd, if_pos hq_2, er, if_neg hq_11]; unfold m_tick; rw [if_pos c_8]); rw [e7]) (by have e7 : m_rd tx tl (tl + 1) 0 nu a 0 = (upd a1 3 (a1 3 + (tx (s1 + 1) - 48)), e1, (s1 + 1) + 1, tx (s1 + 1) - 48) := (by rw [← hv, m_rd, if_pos hq_2, er, if_neg hq_11]; unfold m_tick; rw [if_pos c_8]); rw [e7]; exact hP) dX4_reads_129
                  · skip
                    exact absurd c_12 (by decide)
              · skip
                have c_8 : ¬ (((a1 3) + (tx (s1 + 1) - 48)) ≤ 99999) := c_8
                refine lv_iconst (pc := 50) (v := 0) hx hb dX4_reads_50 (by decide) ?_
                refine lv_goto (pc := 51) (tgt := 58) hx hb dX4_reads_51 (by decide) ?_
                refine lv_iadd (pc := 58) hx hb dX4_reads_58 ?_
                refine b_iast (pc := 59) hx hb hK hP hD hS 1 0 rfl rfl 3 rfl (by omega) (by decide) dX4_reads_59 (fun H locs hP hD hS => ?_)
                obtain ⟨f_13, ef_13⟩ : ∃ z9 : Nat → Int32, z9 = upd a1 3 ((a1 3) + 0) := ⟨_, rfl⟩
                have hP : va_P D vwCl [((md 0), .inr (4, [.ref (md 1), .ref (md 2), .ref (md 3), .int (nI hn), .ref (md 4), .ref (md 5), .ref (md 6), .int (nI tl), .int (nI ((s1 + 1) + 1)), .int (tx (s1 + 1) - 48)])), ((md 1), .inl (cI, 86, .inl f_13)), ((md 2), .inl (cI, 86, .inl kp)), ((md 3), .inl (cI, 516, .inl hs)), ((md 4), .inl (cI, 172, .inl sl)), ((md 5), .inl (cI, 2, .inl iv)), ((md 6), .inl (cI, 60, .inl tx))] H := by rw [ef_13]; exact hP
                have hD : va_D A [((md 0), .inr (4, [.ref (md 1), .ref (md 2), .ref (md 3), .int (nI hn), .ref (md 4), .ref (md 5), .ref (md 6), .int (nI tl), .int (nI ((s1 + 1) + 1)), .int (tx (s1 + 1) - 48)])), ((md 1), .inl (cI, 86, .inl f_13)), ((md 2), .inl (cI, 86, .inl kp)), ((md 3), .inl (cI, 516, .inl hs)), ((md 4), .inl (cI, 172, .inl sl)), ((md 5), .inl (cI, 2, .inl iv)), ((md 6), .inl (cI, 60, .inl tx))] := by rw [ef_13]; exact hD
                refine lv_goto (pc := 60) (tgt := 118) hx hb dX4_reads_60 (by decide) ?_
                refine lv_aload_n (pc := 118) hx hb dX4_reads_118 rfl (lv_at hl 3 rfl) ?_
                refine lv_bipush (pc := 119) (v := 59) hx hb dX4_reads_119 (by decide) ?_
                rcases Classical.em (m_has tx tl ((s1 + 1) + 1) 59 59) with hq_14 | hq_15
                · skip
                  refine b_cW (pc := 121) (w1 := [((md 0), .inr (4, [.ref (md 1), .ref (md 2), .ref (md 3), .int (nI hn), .ref (md 4), .ref (md 5), .ref (md 6), .int (nI tl), .int (nI (((s1 + 1) + 1) + 1)), .int (tx (s1 + 1) - 48)])), ((md 1), .inl (cI, 86, .inl f_13)), ((md 2), .inl (cI, 86, .inl kp)), ((md 3), .inl (cI, 516, .inl hs)), ((md 4), .inl (cI, 172, .inl sl)), ((md 5), .inl (cI, 2, .inl iv)), ((md 6), .inl (cI, 60, .inl tx))]) (va_runV (As := [.int 59]) (rest := []) ⟨hx, hb, hml, hown, hts⟩ (c_X4_takesOne_y l D cI cC cZ cG H.size md f_13 kp hs hn sl iv tx tl ((s1 + 1) + 1) (tx (s1 + 1) - 48) 59 (by first | omega | assumption) (by first | omega | assumption) hq_14) (cwV 1 hts gX4_reads_X4_takesOne rfl rfl rfl hy_X4_takesOne ⟨Nat.le_of_ble_eq_true rfl, Nat.le_of_ble_eq_true rfl⟩) (b_pWV (wc := [((md 0), .inr (4, [.ref (md 1), .ref (md 2), .ref (md 3), .int (nI hn), .ref (md 4), .ref (md 5), .ref (md 6), .int (nI tl), .int (nI ((s1 + 1) + 1)), .int (tx (s1 + 1) - 48)])), ((md 1), .inl (cI, 86, .inl f_13)), ((md 2), .inl (cI, 86, .inl kp)), ((md 3), .inl (cI, 516, .inl hs)), ((md 4), .inl (cI, 172, .inl sl)), ((md 5), .inl (cI, 2, .inl iv)), ((md 6), .inl (cI, 60, .inl tx))]) hK hP hD b_Xok_0 [0, 1, 2, 3, 4, 5, 6] rfl (by decide) rfl trivial (ci := 4) (q0 := 0) rfl rfl) rfl rfl hl.1 rfl (lv_room (Nat.le_of_ble_eq_true rfl)) dX4_reads_121 ⟨Nat.zero_le _, Nat.zero_le _⟩) hP hD hS hA [0, 1, 2, 3, 4, 5, 6] rfl rfl (fun H locs hP hD hS => ?_)
                  have hP : va_P D vwCl [((md 0), .inr (4, [.ref (md 1), .ref (md 2), .ref (md 3), .int (nI hn), .ref (md 4), .ref (md 5), .ref (md 6), .int (nI tl), .int (nI (((s1 + 1) + 1) + 1)), .int (tx (s1 + 1) - 48)])), ((md 1), .inl (cI, 86, .inl f_13)), ((md 2), .inl (cI, 86, .inl kp)), ((md 3), .inl (cI, 516, .inl hs)), ((md 4), .inl (cI, 172, .inl sl)), ((md 5), .inl (cI, 2, .inl iv)), ((md 6), .inl (cI, 60, .inl tx))] H := hP
                  have hD : va_D A [((md 0), .inr (4, [.ref (md 1), .ref (md 2), .ref (md 3), .int (nI hn), .ref (md 4), .ref (md 5), .ref (md 6), .int (nI tl), .int (nI (((s1 + 1) + 1) + 1)), .int (tx (s1 + 1) - 48)])), ((md 1), .inl (cI, 86, .inl f_13)), ((md 2), .inl (cI, 86, .inl kp)), ((md 3), .inl (cI, 516, .inl hs)), ((md 4), .inl (cI, 172, .inl sl)), ((md 5), .inl (cI, 2, .inl iv)), ((md 6), .inl (cI, 60, .inl tx))] := hD
                  refine lv_istore_n (pc := 124) (lv' := [(2, .int 1), (3, .int 1), (1, .int e1), (0, .ref (md 0))]) hx hb dX4_reads_124 rfl hl (by decide) rfl (fun ls hl => ?_)
                  refine lv_goto (pc := 125) (tgt := 9) hx hb dX4_reads_125 (by decide) ?_
                  subst ef_13
                  have hlt59 := hq_14.1
                  have hft2 : (m_ftl tx tl k2 (((s1 + 1) + 1) + 1) (tx (s1 + 1) - 48)).1 = -6 := by rw [er] at hok; exact hok.2.elim (fun q => q.2) (fun q => absurd hq_14 q.1)
                  have hle3 : s1 < ((s1 + 1) + 1) + 1 := Nat.lt_succ_of_le (by rw [er] at hle; exact hle.1)
                  exact ih_9 (((s1 + 1) + 1) + 1) (tx (s1 + 1) - 48) (upd a1 3 (a1 3 + 0)) e1 k2 (by omega) (by omega) hft2 (by rw [← hv, m_rd, if_pos hq_2, er, if_pos hq_14]; unfold m_tick; rw [if_neg c_8]; (try rfl)) (by omega) _ _ (hP.sub [0, 1, 2, 3, 4, 5, 6] rfl) (hD.sub [0, 1, 2, 3, 4, 5, 6] (by decide) rfl) hS ls (lv_sub hl [0, 2, 3] rfl)
                · skip
                  refine b_cW (pc := 121) (w1 := [((md 0), .inr (4, [.ref (md 1), .ref (md 2), .ref (md 3), .int (nI hn), .ref (md 4), .ref (md 5), .ref (md 6), .int (nI tl), .int (nI ((s1 + 1) + 1)), .int (tx (s1 + 1) - 48)])), ((md 1), .inl (cI, 86, .inl f_13)), ((md 2), .inl (cI, 86, .inl kp)), ((md 3), .inl (cI, 516, .inl hs)), ((md 4), .inl (cI, 172, .inl sl)), ((md 5), .inl (cI, 2, .inl iv)), ((md 6), .inl (cI, 60, .inl tx))]) (va_runV (As := [.int 59]) (rest := []) ⟨hx, hb, hml, hown, hts⟩ (c_X4_takesOne_n l D cI cC cZ cG H.size md f_13 kp hs hn sl iv tx tl ((s1 + 1) + 1) (tx (s1 + 1) - 48) 59 (by first | omega | assumption) (by first | omega | assumption) hq_15) (cwV 1 hts gX4_reads_X4_takesOne rfl rfl rfl hy_X4_takesOne ⟨Nat.le_of_ble_eq_true rfl, Nat.le_of_ble_eq_true rfl⟩) (b_pWV (wc := [((md 0), .inr (4, [.ref (md 1), .ref (md 2), .ref (md 3), .int (nI hn), .ref (md 4), .ref (md 5), .ref (md 6), .int (nI tl), .int (nI ((s1 + 1) + 1)), .int (tx (s1 + 1) - 48)])), ((md 1), .inl (cI, 86, .inl f_13)), ((md 2), .inl (cI, 86, .inl kp)), ((md 3), .inl (cI, 516, .inl hs)), ((md 4), .inl (cI, 172, .inl sl)), ((md 5), .inl (cI, 2, .inl iv)), ((md 6), .inl (cI, 60, .inl tx))]) hK hP hD b_Xok_0 [0, 1, 2, 3, 4, 5, 6] rfl (by decide) rfl trivial (ci := 4) (q0 := 0) rfl rfl) rfl rfl hl.1 rfl (lv_room (Nat.le_of_ble_eq_true rfl)) dX4_reads_121 ⟨Nat.zero_le _, Nat.zero_le _⟩) hP hD hS hA [0, 1, 2, 3, 4, 5, 6] rfl rfl (fun H locs hP hD hS => ?_)
                  have hP : va_P D vwCl [((md 0), .inr (4, [.ref (md 1), .ref (md 2), .ref (md 3), .int (nI hn), .ref (md 4), .ref (md 5), .ref (md 6), .int (nI tl), .int (nI ((s1 + 1) + 1)), .int (tx (s1 + 1) - 48)])), ((md 1), .inl (cI, 86, .inl f_13)), ((md 2), .inl (cI, 86, .inl kp)), ((md 3), .inl (cI, 516, .inl hs)), ((md 4), .inl (cI, 172, .inl sl)), ((md 5), .inl (cI, 2, .inl iv)), ((md 6), .inl (cI, 60, .inl tx))] H := hP
                  have hD : va_D A [((md 0), .inr (4, [.ref (md 1), .ref (md 2), .ref (md 3), .int (nI hn), .ref (md 4), .ref (md 5), .ref (md 6), .int (nI tl), .int (nI ((s1 + 1) + 1)), .int (tx (s1 + 1) - 48)])), ((md 1), .inl (cI, 86, .inl f_13)), ((md 2), .inl (cI, 86, .inl kp)), ((md 3), .inl (cI, 516, .inl hs)), ((md 4), .inl (cI, 172, .inl sl)), ((md 5), .inl (cI, 2, .inl iv)), ((md 6), .inl (cI, 60, .inl tx))] := hD
                  refine lv_istore_n (pc := 124) (lv' := [(2, .int 0), (3, .int 1), (1, .int e1), (0, .ref (md 0))]) hx hb dX4_reads_124 rfl hl (by decide) rfl (fun ls hl => ?_)
                  refine lv_goto (pc := 125) (tgt := 9) hx hb dX4_reads_125 (by decide) ?_
                  refine lv_iload_n (pc := 9) hx hb dX4_reads_9 rfl (lv_at hl 0 rfl) ?_
                  refine lv_if_eq (pc := 10) (tgt := 128) hx hb dX4_reads_10 (by decide) (fun c_16 => ?_) (fun c_16 => ?_)
                  · skip
                    refine lv_iload_n (pc := 128) hx hb dX4_reads_128 rfl (lv_at hl 2 rfl) ?_
                    subst ef_13
                    subst hQ
                    exact b_retW hx hb hr hlocks hS (by have e7 : m_rd tx tl (tl + 1) 0 nu a 0 = (upd a1 3 (a1 3 + 0), e1, (s1 + 1) + 1, tx (s1 + 1) - 48) := (by rw [← hv, m_rd, if_pos hq_2, er, if_neg hq_15]; unfold m_tick; rw [if_neg c_8]); rw [e7]) (by have e7 : m_rd tx tl (tl + 1) 0 nu a 0 = (upd a1 3 (a1 3 + 0), e1, (s1 + 1) + 1, tx (s1 + 1) - 48) := (by rw [← hv, m_rd, if_pos hq_2, er, if_neg hq_15]; unfold m_tick; rw [if_neg c_8]); rw [e7]; exact hP) dX4_reads_129
                  · skip
                    exact absurd c_16 (by decide)
            · skip
              refine b_cW (pc := 23) (w1 := [((md 0), .inr (4, [.ref (md 1), .ref (md 2), .ref (md 3), .int (nI hn), .ref (md 4), .ref (md 5), .ref (md 6), .int (nI tl), .int (nI ((s1 + 1) + 1 + 1)), .int (10 * (tx (s1 + 1) - 48) + tx ((s1 + 1) + 1) - 48)])), ((md 1), .inl (cI, 86, .inl a1)), ((md 2), .inl (cI, 86, .inl kp)), ((md 3), .inl (cI, 516, .inl hs)), ((md 4), .inl (cI, 172, .inl sl)), ((md 5), .inl (cI, 2, .inl iv)), ((md 6), .inl (cI, 60, .inl tx))]) (va_runV (As := []) (rest := []) ⟨hx, hb, hml, hown, hts⟩ (c_X4_readsTicks_2 l D cI cC cZ cG H.size md a1 kp hs hn sl iv tx tl (s1 + 1) n1 (by omega) (by omega) hq_7.1 hq_7.2) (cwV 0 hts gX4_reads_X4_readsTicks rfl rfl rfl hy_X4_readsTicks ⟨Nat.le_of_ble_eq_true rfl, Nat.le_of_ble_eq_true rfl⟩) (b_pWV (wc := [((md 0), .inr (4, [.ref (md 1), .ref (md 2), .ref (md 3), .int (nI hn), .ref (md 4), .ref (md 5), .ref (md 6), .int (nI tl), .int (nI (s1 + 1)), .int n1])), ((md 1), .inl (cI, 86, .inl a1)), ((md 2), .inl (cI, 86, .inl kp)), ((md 3), .inl (cI, 516, .inl hs)), ((md 4), .inl (cI, 172, .inl sl)), ((md 5), .inl (cI, 2, .inl iv)), ((md 6), .inl (cI, 60, .inl tx))]) hK hP hD b_Xok_0 [0, 1, 2, 3, 4, 5, 6] rfl (by decide) rfl trivial (ci := 4) (q0 := 0) rfl rfl) rfl rfl hl.1 rfl (lv_room (Nat.le_of_ble_eq_true rfl)) dX4_reads_23 ⟨Nat.zero_le _, Nat.zero_le _⟩) hP hD hS hA [0, 1, 2, 3, 4, 5, 6] rfl rfl (fun H locs hP hD hS => ?_)
              have hP : va_P D vwCl [((md 0), .inr (4, [.ref (md 1), .ref (md 2), .ref (md 3), .int (nI hn), .ref (md 4), .ref (md 5), .ref (md 6), .int (nI tl), .int (nI ((s1 + 1) + 1 + 1)), .int (10 * (tx (s1 + 1) - 48) + tx ((s1 + 1) + 1) - 48)])), ((md 1), .inl (cI, 86, .inl a1)), ((md 2), .inl (cI, 86, .inl kp)), ((md 3), .inl (cI, 516, .inl hs)), ((md 4), .inl (cI, 172, .inl sl)), ((md 5), .inl (cI, 2, .inl iv)), ((md 6), .inl (cI, 60, .inl tx))] H := hP
              have hD : va_D A [((md 0), .inr (4, [.ref (md 1), .ref (md 2), .ref (md 3), .int (nI hn), .ref (md 4), .ref (md 5), .ref (md 6), .int (nI tl), .int (nI ((s1 + 1) + 1 + 1)), .int (10 * (tx (s1 + 1) - 48) + tx ((s1 + 1) + 1) - 48)])), ((md 1), .inl (cI, 86, .inl a1)), ((md 2), .inl (cI, 86, .inl kp)), ((md 3), .inl (cI, 516, .inl hs)), ((md 4), .inl (cI, 172, .inl sl)), ((md 5), .inl (cI, 2, .inl iv)), ((md 6), .inl (cI, 60, .inl tx))] := hD
              refine lv_istore_n (pc := 26) (lv' := [(3, .int 1), (2, .int 1), (1, .int e1), (0, .ref (md 0))]) hx hb dX4_reads_26 rfl hl (by decide) rfl (fun ls hl => ?_)
              have er : m_re tx tl s1 n1 = (true, (s1 + 1) + 1 + 1, 10 * (tx (s1 + 1) - 48) + tx ((s1 + 1) + 1) - 48) := by simp only [m_re, if_pos hq_2, if_pos hq_7.1, if_pos hq_7.2]
              have hle2 : (s1 + 1) + 1 + 1 ≤ tl := by rw [er] at hle; exact hle.2
              refine lv_aload_n (pc := 27) hx hb dX4_reads_27 rfl (lv_at hl 3 rfl) ?_
              refine va_get (pc := 28) (D := D) (ci := 4) (v := .ref (md 1)) (C := RX4) (T := TX4) (N := 10) hx hb hts hi_X4_reads_X4 hown hK hP 0 rfl rfl 0 (by decide) (hts _ hw_X4_reads_2) (fun _ h9 => h9) rfl dX4_reads_28 ?_
              refine lv_iconst (pc := 31) (v := 3) hx hb dX4_reads_31 (by decide) ?_
              refine lv_dup2_11 (pc := 32) hx hb dX4_reads_32 rfl rfl ?_
              refine b_iald (pc := 33) hx hb hK hP 1 0 rfl rfl 3 rfl (by omega) (by decide) dX4_reads_33 ?_
              refine lv_aload_n (pc := 34) hx hb dX4_reads_34 rfl (lv_at hl 3 rfl) ?_
              refine va_get (pc := 35) (D := D) (ci := 4) (v := .ref (md 1)) (C := RX4) (T := TX4) (N := 10) hx hb hts hi_X4_reads_X4 hown hK hP 0 rfl rfl 0 (by decide) (hts _ hw_X4_reads_2) (fun _ h9 => h9) rfl dX4_reads_35 ?_
              refine lv_iconst (pc := 38) (v := 3) hx hb dX4_reads_38 (by decide) ?_
              refine b_iald (pc := 39) hx hb hK hP 1 0 rfl rfl 3 rfl (by omega) (by decide) dX4_reads_39 ?_
              refine lv_aload_n (pc := 40) hx hb dX4_reads_40 rfl (lv_at hl 3 rfl) ?_
              refine va_get (pc := 41) (D := D) (ci := 4) (v := .int (10 * (tx (s1 + 1) - 48) + tx ((s1 + 1) + 1) - 48)) (C := RX4) (T := TX4) (N := 10) hx hb hts hi_X4_reads_X4 hown hK hP 0 rfl rfl 9 (by decide) (hts _ hw_X4_reads_3) (fun _ h9 => h9) rfl dX4_reads_41 ?_
              refine lv_iadd (pc := 44) hx hb dX4_reads_44 ?_
              refine lv_ldc (pc := 45) hx hb hown (hts _ hw_X4_reads_4) dX4_reads_45 ?_
              refine lv_icmp_le (pc := 47) (tgt := 54) hx hb dX4_reads_47 (by decide) (fun c_17 => ?_) (fun c_17 => ?_)
              · skip
                have c_17 : ((a1 3) + (10 * (tx (s1 + 1) - 48) + tx ((s1 + 1) + 1) - 48)) ≤ 99999 := c_17
                refine lv_aload_n (pc := 54) hx hb dX4_reads_54 rfl (lv_at hl 3 rfl) ?_
                refine va_get (pc := 55) (D := D) (ci := 4) (v := .int (10 * (tx (s1 + 1) - 48) + tx ((s1 + 1) + 1) - 48)) (C := RX4) (T := TX4) (N := 10) hx hb hts hi_X4_reads_X4 hown hK hP 0 rfl rfl 9 (by decide) (hts _ hw_X4_reads_3) (fun _ h9 => h9) rfl dX4_reads_55 ?_
                refine lv_iadd (pc := 58) hx hb dX4_reads_58 ?_
                refine b_iast (pc := 59) hx hb hK hP hD hS 1 0 rfl rfl 3 rfl (by omega) (by decide) dX4_reads_59 (fun H locs hP hD hS => ?_)
                obtain ⟨f_18, ef_18⟩ : ∃ z9 : Nat → Int32, z9 = upd a1 3 ((a1 3) + (10 * (tx (s1 + 1) - 48) + tx ((s1 + 1) + 1) - 48)) := ⟨_, rfl⟩
                have hP : va_P D vwCl [((md 0), .inr (4, [.ref (md 1), .ref (md 2), .ref (md 3), .int (nI hn), .ref (md 4), .ref (md 5), .ref (md 6), .int (nI tl), .int (nI ((s1 + 1) + 1 + 1)), .int (10 * (tx (s1 + 1) - 48) + tx ((s1 + 1) + 1) - 48)])), ((md 1), .inl (cI, 86, .inl f_18)), ((md 2), .inl (cI, 86, .inl kp)), ((md 3), .inl (cI, 516, .inl hs)), ((md 4), .inl (cI, 172, .inl sl)), ((md 5), .inl (cI, 2, .inl iv)), ((md 6), .inl (cI, 60, .inl tx))] H := by rw [ef_18]; exact hP
                have hD : va_D A [((md 0), .inr (4, [.ref (md 1), .ref (md 2), .ref (md 3), .int (nI hn), .ref (md 4), .ref (md 5), .ref (md 6), .int (nI tl), .int (nI ((s1 + 1) + 1 + 1)), .int (10 * (tx (s1 + 1) - 48) + tx ((s1 + 1) + 1) - 48)])), ((md 1), .inl (cI, 86, .inl f_18)), ((md 2), .inl (cI, 86, .inl kp)), ((md 3), .inl (cI, 516, .inl hs)), ((md 4), .inl (cI, 172, .inl sl)), ((md 5), .inl (cI, 2, .inl iv)), ((md 6), .inl (cI, 60, .inl tx))] := by rw [ef_18]; exact hD
                refine lv_goto (pc := 60) (tgt := 118) hx hb dX4_reads_60 (by decide) ?_
                refine lv_aload_n (pc := 118) hx hb dX4_reads_118 rfl (lv_at hl 3 rfl) ?_
                refine lv_bipush (pc := 119) (v := 59) hx hb dX4_reads_119 (by decide) ?_
                rcases Classical.em (m_has tx tl ((s1 + 1) + 1 + 1) 59 59) with hq_19 | hq_20
                · skip
                  refine b_cW (pc := 121) (w1 := [((md 0), .inr (4, [.ref (md 1), .ref (md 2), .ref (md 3), .int (nI hn), .ref (md 4), .ref (md 5), .ref (md 6), .int (nI tl), .int (nI (((s1 + 1) + 1 + 1) + 1)), .int (10 * (tx (s1 + 1) - 48) + tx ((s1 + 1) + 1) - 48)])), ((md 1), .inl (cI, 86, .inl f_18)), ((md 2), .inl (cI, 86, .inl kp)), ((md 3), .inl (cI, 516, .inl hs)), ((md 4), .inl (cI, 172, .inl sl)), ((md 5), .inl (cI, 2, .inl iv)), ((md 6), .inl (cI, 60, .inl tx))]) (va_runV (As := [.int 59]) (rest := []) ⟨hx, hb, hml, hown, hts⟩ (c_X4_takesOne_y l D cI cC cZ cG H.size md f_18 kp hs hn sl iv tx tl ((s1 + 1) + 1 + 1) (10 * (tx (s1 + 1) - 48) + tx ((s1 + 1) + 1) - 48) 59 (by first | omega | assumption) (by first | omega | assumption) hq_19) (cwV 1 hts gX4_reads_X4_takesOne rfl rfl rfl hy_X4_takesOne ⟨Nat.le_of_ble_eq_true rfl, Nat.le_of_ble_eq_true rfl⟩) (b_pWV (wc := [((md 0), .inr (4, [.ref (md 1), .ref (md 2), .ref (md 3), .int (nI hn), .ref (md 4), .ref (md 5), .ref (md 6), .int (nI tl), .int (nI ((s1 + 1) + 1 + 1)), .int (10 * (tx (s1 + 1) - 48) + tx ((s1 + 1) + 1) - 48)])), ((md 1), .inl (cI, 86, .inl f_18)), ((md 2), .inl (cI, 86, .inl kp)), ((md 3), .inl (cI, 516, .inl hs)), ((md 4), .inl (cI, 172, .inl sl)), ((md 5), .inl (cI, 2, .inl iv)), ((md 6), .inl (cI, 60, .inl tx))]) hK hP hD b_Xok_0 [0, 1, 2, 3, 4, 5, 6] rfl (by decide) rfl trivial (ci := 4) (q0 := 0) rfl rfl) rfl rfl hl.1 rfl (lv_room (Nat.le_of_ble_eq_true rfl)) dX4_reads_121 ⟨Nat.zero_le _, Nat.zero_le _⟩) hP hD hS hA [0, 1, 2, 3, 4, 5, 6] rfl rfl (fun H locs hP hD hS => ?_)
                  have hP : va_P D vwCl [((md 0), .inr (4, [.ref (md 1), .ref (md 2), .ref (md 3), .int (nI hn), .ref (md 4), .ref (md 5), .ref (md 6), .int (nI tl), .int (nI (((s1 + 1) + 1 + 1) + 1)), .int (10 * (tx (s1 + 1) - 48) + tx ((s1 + 1) + 1) - 48)])), ((md 1), .inl (cI, 86, .inl f_18)), ((md 2), .inl (cI, 86, .inl kp)), ((md 3), .inl (cI, 516, .inl hs)), ((md 4), .inl (cI, 172, .inl sl)), ((md 5), .inl (cI, 2, .inl iv)), ((md 6), .inl (cI, 60, .inl tx))] H := hP
                  have hD : va_D A [((md 0), .inr (4, [.ref (md 1), .ref (md 2), .ref (md 3), .int (nI hn), .ref (md 4), .ref (md 5), .ref (md 6), .int (nI tl), .int (nI (((s1 + 1) + 1 + 1) + 1)), .int (10 * (tx (s1 + 1) - 48) + tx ((s1 + 1) + 1) - 48)])), ((md 1), .inl (cI, 86, .inl f_18)), ((md 2), .inl (cI, 86, .inl kp)), ((md 3), .inl (cI, 516, .inl hs)), ((md 4), .inl (cI, 172, .inl sl)), ((md 5), .inl (cI, 2, .inl iv)), ((md 6), .inl (cI, 60, .inl tx))] := hD
                  refine lv_istore_n (pc := 124) (lv' := [(2, .int 1), (3, .int 1), (1, .int e1), (0, .ref (md 0))]) hx hb dX4_reads_124 rfl hl (by decide) rfl (fun ls hl => ?_)
                  refine lv_goto (pc := 125) (tgt := 9) hx hb dX4_reads_125 (by decide) ?_
                  subst ef_18
                  have hlt59 := hq_19.1
                  have hft2 : (m_ftl tx tl k2 (((s1 + 1) + 1 + 1) + 1) (10 * (tx (s1 + 1) - 48) + tx ((s1 + 1) + 1) - 48)).1 = -6 := by rw [er] at hok; exact hok.2.elim (fun q => q.2) (fun q => absurd hq_19 q.1)
                  have hle3 : s1 < ((s1 + 1) + 1 + 1) + 1 := Nat.lt_succ_of_le (by rw [er] at hle; exact hle.1)
                  exact ih_9 (((s1 + 1) + 1 + 1) + 1) (10 * (tx (s1 + 1) - 48) + tx ((s1 + 1) + 1) - 48) (upd a1 3 (a1 3 + (10 * (tx (s1 + 1) - 48) + tx ((s1 + 1) + 1) - 48))) e1 k2 (by omega) (by omega) hft2 (by rw [← hv, m_rd, if_pos hq_2, er, if_pos hq_19]; unfold m_tick; rw [if_pos c_17]; (try rfl)) (by omega) _ _ (hP.sub [0, 1, 2, 3, 4, 5, 6] rfl) (hD.sub [0, 1, 2, 3, 4, 5, 6] (by decide) rfl) hS ls (lv_sub hl [0, 2, 3] rfl)
                · skip
                  refine b_cW (pc := 121) (w1 := [((md 0), .inr (4, [.ref (md 1), .ref (md 2), .ref (md 3), .int (nI hn), .ref (md 4), .ref (md 5), .ref (md 6), .int (nI tl), .int (nI ((s1 + 1) + 1 + 1)), .int (10 * (tx (s1 + 1) - 48) + tx ((s1 + 1) + 1) - 48)])), ((md 1), .inl (cI, 86, .inl f_18)), ((md 2), .inl (cI, 86, .inl kp)), ((md 3), .inl (cI, 516, .inl hs)), ((md 4), .inl (cI, 172, .inl sl)), ((md 5), .inl (cI, 2, .inl iv)), ((md 6), .inl (cI, 60, .inl tx))]) (va_runV (As := [.int 59]) (rest := []) ⟨hx, hb, hml, hown, hts⟩ (c_X4_takesOne_n l D cI cC cZ cG H.size md f_18 kp hs hn sl iv tx tl ((s1 + 1) + 1 + 1) (10 * (tx (s1 + 1) - 48) + tx ((s1 + 1) + 1) - 48) 59 (by first | omega | assumption) (by first | omega | assumption) hq_20) (cwV 1 hts gX4_reads_X4_takesOne rfl rfl rfl hy_X4_takesOne ⟨Nat.le_of_ble_eq_true rfl, Nat.le_of_ble_eq_true rfl⟩) (b_pWV (wc := [((md 0), .inr (4, [.ref (md 1), .ref (md 2), .ref (md 3), .int (nI hn), .ref (md 4), .ref (md 5), .ref (md 6), .int (nI tl), .int (nI ((s1 + 1) + 1 + 1)), .int (10 * (tx (s1 + 1) - 48) + tx ((s1 + 1) + 1) - 48)])), ((md 1), .inl (cI, 86, .inl f_18)), ((md 2), .inl (cI, 86, .inl kp)), ((md 3), .inl (cI, 516, .inl hs)), ((md 4), .inl (cI, 172, .inl sl)), ((md 5), .inl (cI, 2, .inl iv)), ((md 6), .inl (cI, 60, .inl tx))]) hK hP hD b_Xok_0 [0, 1, 2, 3, 4, 5, 6] rfl (by decide) rfl trivial (ci := 4) (q0 := 0) rfl rfl) rfl rfl hl.1 rfl (lv_room (Nat.le_of_ble_eq_true rfl)) dX4_reads_121 ⟨Nat.zero_le _, Nat.zero_le _⟩) hP hD hS hA [0, 1, 2, 3, 4, 5, 6] rfl rfl (fun H locs hP hD hS => ?_)
                  have hP : va_P D vwCl [((md 0), .inr (4, [.ref (md 1), .ref (md 2), .ref (md 3), .int (nI hn), .ref (md 4), .ref (md 5), .ref (md 6), .int (nI tl), .int (nI ((s1 + 1) + 1 + 1)), .int (10 * (tx (s1 + 1) - 48) + tx ((s1 + 1) + 1) - 48)])), ((md 1), .inl (cI, 86, .inl f_18)), ((md 2), .inl (cI, 86, .inl kp)), ((md 3), .inl (cI, 516, .inl hs)), ((md 4), .inl (cI, 172, .inl sl)), ((md 5), .inl (cI, 2, .inl iv)), ((md 6), .inl (cI, 60, .inl tx))] H := hP
                  have hD : va_D A [((md 0), .inr (4, [.ref (md 1), .ref (md 2), .ref (md 3), .int (nI hn), .ref (md 4), .ref (md 5), .ref (md 6), .int (nI tl), .int (nI ((s1 + 1) + 1 + 1)), .int (10 * (tx (s1 + 1) - 48) + tx ((s1 + 1) + 1) - 48)])), ((md 1), .inl (cI, 86, .inl f_18)), ((md 2), .inl (cI, 86, .inl kp)), ((md 3), .inl (cI, 516, .inl hs)), ((md 4), .inl (cI, 172, .inl sl)), ((md 5), .inl (cI, 2, .inl iv)), ((md 6), .inl (cI, 60, .inl tx))] := hD
                  refine lv_istore_n (pc := 124) (lv' := [(2, .int 0), (3, .int 1), (1, .int e1), (0, .ref (md 0))]) hx hb dX4_reads_124 rfl hl (by decide) rfl (fun ls hl => ?_)
                  refine lv_goto (pc := 125) (tgt := 9) hx hb dX4_reads_125 (by decide) ?_
                  refine lv_iload_n (pc := 9) hx hb dX4_reads_9 rfl (lv_at hl 0 rfl) ?_
                  refine lv_if_eq (pc := 10) (tgt := 128) hx hb dX4_reads_10 (by decide) (fun c_21 => ?_) (fun c_21 => ?_)
                  · skip
                    refine lv_iload_n (pc := 128) hx hb dX4_reads_128 rfl (lv_at hl 2 rfl) ?_
                    subst ef_18
                    subst hQ
                    exact b_retW hx hb hr hlocks hS (by have e7 : m_rd tx tl (tl + 1) 0 nu a 0 = (upd a1 3 (a1 3 + (10 * (tx (s1 + 1) - 48) + tx ((s1 + 1) + 1) - 48)), e1, (s1 + 1) + 1 + 1, 10 * (tx (s1 + 1) - 48) + tx ((s1 + 1) + 1) - 48) := (by rw [← hv, m_rd, if_pos hq_2, er, if_neg hq_20]; unfold m_tick; rw [if_pos c_17]); rw [e7]) (by have e7 : m_rd tx tl (tl + 1) 0 nu a 0 = (upd a1 3 (a1 3 + (10 * (tx (s1 + 1) - 48) + tx ((s1 + 1) + 1) - 48)), e1, (s1 + 1) + 1 + 1, 10 * (tx (s1 + 1) - 48) + tx ((s1 + 1) + 1) - 48) := (by rw [← hv, m_rd, if_pos hq_2, er, if_neg hq_20]; unfold m_tick; rw [if_pos c_17]); rw [e7]; exact hP) dX4_reads_129
                  · skip
                    exact absurd c_21 (by decide)
              · skip
                have c_17 : ¬ (((a1 3) + (10 * (tx (s1 + 1) - 48) + tx ((s1 + 1) + 1) - 48)) ≤ 99999) := c_17
                refine lv_iconst (pc := 50) (v := 0) hx hb dX4_reads_50 (by decide) ?_
                refine lv_goto (pc := 51) (tgt := 58) hx hb dX4_reads_51 (by decide) ?_
                refine lv_iadd (pc := 58) hx hb dX4_reads_58 ?_
                refine b_iast (pc := 59) hx hb hK hP hD hS 1 0 rfl rfl 3 rfl (by omega) (by decide) dX4_reads_59 (fun H locs hP hD hS => ?_)
                obtain ⟨f_22, ef_22⟩ : ∃ z9 : Nat → Int32, z9 = upd a1 3 ((a1 3) + 0) := ⟨_, rfl⟩
                have hP : va_P D vwCl [((md 0), .inr (4, [.ref (md 1), .ref (md 2), .ref (md 3), .int (nI hn), .ref (md 4), .ref (md 5), .ref (md 6), .int (nI tl), .int (nI ((s1 + 1) + 1 + 1)), .int (10 * (tx (s1 + 1) - 48) + tx ((s1 + 1) + 1) - 48)])), ((md 1), .inl (cI, 86, .inl f_22)), ((md 2), .inl (cI, 86, .inl kp)), ((md 3), .inl (cI, 516, .inl hs)), ((md 4), .inl (cI, 172, .inl sl)), ((md 5), .inl (cI, 2, .inl iv)), ((md 6), .inl (cI, 60, .inl tx))] H := by rw [ef_22]; exact hP
                have hD : va_D A [((md 0), .inr (4, [.ref (md 1), .ref (md 2), .ref (md 3), .int (nI hn), .ref (md 4), .ref (md 5), .ref (md 6), .int (nI tl), .int (nI ((s1 + 1) + 1 + 1)), .int (10 * (tx (s1 + 1) - 48) + tx ((s1 + 1) + 1) - 48)])), ((md 1), .inl (cI, 86, .inl f_22)), ((md 2), .inl (cI, 86, .inl kp)), ((md 3), .inl (cI, 516, .inl hs)), ((md 4), .inl (cI, 172, .inl sl)), ((md 5), .inl (cI, 2, .inl iv)), ((md 6), .inl (cI, 60, .inl tx))] := by rw [ef_22]; exact hD
                refine lv_goto (pc := 60) (tgt := 118) hx hb dX4_reads_60 (by decide) ?_
                refine lv_aload_n (pc := 118) hx hb dX4_reads_118 rfl (lv_at hl 3 rfl) ?_
                refine lv_bipush (pc := 119) (v := 59) hx hb dX4_reads_119 (by decide) ?_
                rcases Classical.em (m_has tx tl ((s1 + 1) + 1 + 1) 59 59) with hq_23 | hq_24
                · skip
                  refine b_cW (pc := 121) (w1 := [((md 0), .inr (4, [.ref (md 1), .ref (md 2), .ref (md 3), .int (nI hn), .ref (md 4), .ref (md 5), .ref (md 6), .int (nI tl), .int (nI (((s1 + 1) + 1 + 1) + 1)), .int (10 * (tx (s1 + 1) - 48) + tx ((s1 + 1) + 1) - 48)])), ((md 1), .inl (cI, 86, .inl f_22)), ((md 2), .inl (cI, 86, .inl kp)), ((md 3), .inl (cI, 516, .inl hs)), ((md 4), .inl (cI, 172, .inl sl)), ((md 5), .inl (cI, 2, .inl iv)), ((md 6), .inl (cI, 60, .inl tx))]) (va_runV (As := [.int 59]) (rest := []) ⟨hx, hb, hml, hown, hts⟩ (c_X4_takesOne_y l D cI cC cZ cG H.size md f_22 kp hs hn sl iv tx tl ((s1 + 1) + 1 + 1) (10 * (tx (s1 + 1) - 48) + tx ((s1 + 1) + 1) - 48) 59 (by first | omega | assumption) (by first | omega | assumption) hq_23) (cwV 1 hts gX4_reads_X4_takesOne rfl rfl rfl hy_X4_takesOne ⟨Nat.le_of_ble_eq_true rfl, Nat.le_of_ble_eq_true rfl⟩) (b_pWV (wc := [((md 0), .inr (4, [.ref (md 1), .ref (md 2), .ref (md 3), .int (nI hn), .ref (md 4), .ref (md 5), .ref (md 6), .int (nI tl), .int (nI ((s1 + 1) + 1 + 1)), .int (10 * (tx (s1 + 1) - 48) + tx ((s1 + 1) + 1) - 48)])), ((md 1), .inl (cI, 86, .inl f_22)), ((md 2), .inl (cI, 86, .inl kp)), ((md 3), .inl (cI, 516, .inl hs)), ((md 4), .inl (cI, 172, .inl sl)), ((md 5), .inl (cI, 2, .inl iv)), ((md 6), .inl (cI, 60, .inl tx))]) hK hP hD b_Xok_0 [0, 1, 2, 3, 4, 5, 6] rfl (by decide) rfl trivial (ci := 4) (q0 := 0) rfl rfl) rfl rfl hl.1 rfl (lv_room (Nat.le_of_ble_eq_true rfl)) dX4_reads_121 ⟨Nat.zero_le _, Nat.zero_le _⟩) hP hD hS hA [0, 1, 2, 3, 4, 5, 6] rfl rfl (fun H locs hP hD hS => ?_)
                  have hP : va_P D vwCl [((md 0), .inr (4, [.ref (md 1), .ref (md 2), .ref (md 3), .int (nI hn), .ref (md 4), .ref (md 5), .ref (md 6), .int (nI tl), .int (nI (((s1 + 1) + 1 + 1) + 1)), .int (10 * (tx (s1 + 1) - 48) + tx ((s1 + 1) + 1) - 48)])), ((md 1), .inl (cI, 86, .inl f_22)), ((md 2), .inl (cI, 86, .inl kp)), ((md 3), .inl (cI, 516, .inl hs)), ((md 4), .inl (cI, 172, .inl sl)), ((md 5), .inl (cI, 2, .inl iv)), ((md 6), .inl (cI, 60, .inl tx))] H := hP
                  have hD : va_D A [((md 0), .inr (4, [.ref (md 1), .ref (md 2), .ref (md 3), .int (nI hn), .ref (md 4), .ref (md 5), .ref (md 6), .int (nI tl), .int (nI (((s1 + 1) + 1 + 1) + 1)), .int (10 * (tx (s1 + 1) - 48) + tx ((s1 + 1) + 1) - 48)])), ((md 1), .inl (cI, 86, .inl f_22)), ((md 2), .inl (cI, 86, .inl kp)), ((md 3), .inl (cI, 516, .inl hs)), ((md 4), .inl (cI, 172, .inl sl)), ((md 5), .inl (cI, 2, .inl iv)), ((md 6), .inl (cI, 60, .inl tx))] := hD
                  refine lv_istore_n (pc := 124) (lv' := [(2, .int 1), (3, .int 1), (1, .int e1), (0, .ref (md 0))]) hx hb dX4_reads_124 rfl hl (by decide) rfl (fun ls hl => ?_)
                  refine lv_goto (pc := 125) (tgt := 9) hx hb dX4_reads_125 (by decide) ?_
                  subst ef_22
                  have hlt59 := hq_23.1
                  have hft2 : (m_ftl tx tl k2 (((s1 + 1) + 1 + 1) + 1) (10 * (tx (s1 + 1) - 48) + tx ((s1 + 1) + 1) - 48)).1 = -6 := by rw [er] at hok; exact hok.2.elim (fun q => q.2) (fun q => absurd hq_23 q.1)
                  have hle3 : s1 < ((s1 + 1) + 1 + 1) + 1 := Nat.lt_succ_of_le (by rw [er] at hle; exact hle.1)
                  exact ih_9 (((s1 + 1) + 1 + 1) + 1) (10 * (tx (s1 + 1) - 48) + tx ((s1 + 1) + 1) - 48) (upd a1 3 (a1 3 + 0)) e1 k2 (by omega) (by omega) hft2 (by rw [← hv, m_rd, if_pos hq_2, er, if_pos hq_23]; unfold m_tick; rw [if_neg c_17]; (try rfl)) (by omega) _ _ (hP.sub [0, 1, 2, 3, 4, 5, 6] rfl) (hD.sub [0, 1, 2, 3, 4, 5, 6] (by decide) rfl) hS ls (lv_sub hl [0, 2, 3] rfl)
                · skip
                  refine b_cW (pc := 121) (w1 := [((md 0), .inr (4, [.ref (md 1), .ref (md 2), .ref (md 3), .int (nI hn), .ref (md 4), .ref (md 5), .ref (md 6), .int (nI tl), .int (nI ((s1 + 1) + 1 + 1)), .int (10 * (tx (s1 + 1) - 48) + tx ((s1 + 1) + 1) - 48)])), ((md 1), .inl (cI, 86, .inl f_22)), ((md 2), .inl (cI, 86, .inl kp)), ((md 3), .inl (cI, 516, .inl hs)), ((md 4), .inl (cI, 172, .inl sl)), ((md 5), .inl (cI, 2, .inl iv)), ((md 6), .inl (cI, 60, .inl tx))]) (va_runV (As := [.int 59]) (rest := []) ⟨hx, hb, hml, hown, hts⟩ (c_X4_takesOne_n l D cI cC cZ cG H.size md f_22 kp hs hn sl iv tx tl ((s1 + 1) + 1 + 1) (10 * (tx (s1 + 1) - 48) + tx ((s1 + 1) + 1) - 48) 59 (by first | omega | assumption) (by first | omega | assumption) hq_24) (cwV 1 hts gX4_reads_X4_takesOne rfl rfl rfl hy_X4_takesOne ⟨Nat.le_of_ble_eq_true rfl, Nat.le_of_ble_eq_true rfl⟩) (b_pWV (wc := [((md 0), .inr (4, [.ref (md 1), .ref (md 2), .ref (md 3), .int (nI hn), .ref (md 4), .ref (md 5), .ref (md 6), .int (nI tl), .int (nI ((s1 + 1) + 1 + 1)), .int (10 * (tx (s1 + 1) - 48) + tx ((s1 + 1) + 1) - 48)])), ((md 1), .inl (cI, 86, .inl f_22)), ((md 2), .inl (cI, 86, .inl kp)), ((md 3), .inl (cI, 516, .inl hs)), ((md 4), .inl (cI, 172, .inl sl)), ((md 5), .inl (cI, 2, .inl iv)), ((md 6), .inl (cI, 60, .inl tx))]) hK hP hD b_Xok_0 [0, 1, 2, 3, 4, 5, 6] rfl (by decide) rfl trivial (ci := 4) (q0 := 0) rfl rfl) rfl rfl hl.1 rfl (lv_room (Nat.le_of_ble_eq_true rfl)) dX4_reads_121 ⟨Nat.zero_le _, Nat.zero_le _⟩) hP hD hS hA [0, 1, 2, 3, 4, 5, 6] rfl rfl (fun H locs hP hD hS => ?_)
                  have hP : va_P D vwCl [((md 0), .inr (4, [.ref (md 1), .ref (md 2), .ref (md 3), .int (nI hn), .ref (md 4), .ref (md 5), .ref (md 6), .int (nI tl), .int (nI ((s1 + 1) + 1 + 1)), .int (10 * (tx (s1 + 1) - 48) + tx ((s1 + 1) + 1) - 48)])), ((md 1), .inl (cI, 86, .inl f_22)), ((md 2), .inl (cI, 86, .inl kp)), ((md 3), .inl (cI, 516, .inl hs)), ((md 4), .inl (cI, 172, .inl sl)), ((md 5), .inl (cI, 2, .inl iv)), ((md 6), .inl (cI, 60, .inl tx))] H := hP
                  have hD : va_D A [((md 0), .inr (4, [.ref (md 1), .ref (md 2), .ref (md 3), .int (nI hn), .ref (md 4), .ref (md 5), .ref (md 6), .int (nI tl), .int (nI ((s1 + 1) + 1 + 1)), .int (10 * (tx (s1 + 1) - 48) + tx ((s1 + 1) + 1) - 48)])), ((md 1), .inl (cI, 86, .inl f_22)), ((md 2), .inl (cI, 86, .inl kp)), ((md 3), .inl (cI, 516, .inl hs)), ((md 4), .inl (cI, 172, .inl sl)), ((md 5), .inl (cI, 2, .inl iv)), ((md 6), .inl (cI, 60, .inl tx))] := hD
                  refine lv_istore_n (pc := 124) (lv' := [(2, .int 0), (3, .int 1), (1, .int e1), (0, .ref (md 0))]) hx hb dX4_reads_124 rfl hl (by decide) rfl (fun ls hl => ?_)
                  refine lv_goto (pc := 125) (tgt := 9) hx hb dX4_reads_125 (by decide) ?_
                  refine lv_iload_n (pc := 9) hx hb dX4_reads_9 rfl (lv_at hl 0 rfl) ?_
                  refine lv_if_eq (pc := 10) (tgt := 128) hx hb dX4_reads_10 (by decide) (fun c_25 => ?_) (fun c_25 => ?_)
                  · skip
                    refine lv_iload_n (pc := 128) hx hb dX4_reads_128 rfl (lv_at hl 2 rfl) ?_
                    subst ef_22
                    subst hQ
                    exact b_retW hx hb hr hlocks hS (by have e7 : m_rd tx tl (tl + 1) 0 nu a 0 = (upd a1 3 (a1 3 + 0), e1, (s1 + 1) + 1 + 1, 10 * (tx (s1 + 1) - 48) + tx ((s1 + 1) + 1) - 48) := (by rw [← hv, m_rd, if_pos hq_2, er, if_neg hq_24]; unfold m_tick; rw [if_neg c_17]); rw [e7]) (by have e7 : m_rd tx tl (tl + 1) 0 nu a 0 = (upd a1 3 (a1 3 + 0), e1, (s1 + 1) + 1 + 1, 10 * (tx (s1 + 1) - 48) + tx ((s1 + 1) + 1) - 48) := (by rw [← hv, m_rd, if_pos hq_2, er, if_neg hq_24]; unfold m_tick; rw [if_neg c_17]); rw [e7]; exact hP) dX4_reads_129
                  · skip
                    exact absurd c_25 (by decide)
        · skip
          refine b_cW (pc := 16) (w1 := [((md 0), .inr (4, [.ref (md 1), .ref (md 2), .ref (md 3), .int (nI hn), .ref (md 4), .ref (md 5), .ref (md 6), .int (nI tl), .int (nI s1), .int n1])), ((md 1), .inl (cI, 86, .inl a1)), ((md 2), .inl (cI, 86, .inl kp)), ((md 3), .inl (cI, 516, .inl hs)), ((md 4), .inl (cI, 172, .inl sl)), ((md 5), .inl (cI, 2, .inl iv)), ((md 6), .inl (cI, 60, .inl tx))]) (va_runV (As := [.int 46]) (rest := []) ⟨hx, hb, hml, hown, hts⟩ (c_X4_takesOne_n l D cI cC cZ cG H.size md a1 kp hs hn sl iv tx tl s1 n1 46 (by first | omega | assumption) (by first | omega | assumption) hq_3) (cwV 1 hts gX4_reads_X4_takesOne rfl rfl rfl hy_X4_takesOne ⟨Nat.le_of_ble_eq_true rfl, Nat.le_of_ble_eq_true rfl⟩) (b_pWV (wc := [((md 0), .inr (4, [.ref (md 1), .ref (md 2), .ref (md 3), .int (nI hn), .ref (md 4), .ref (md 5), .ref (md 6), .int (nI tl), .int (nI s1), .int n1])), ((md 1), .inl (cI, 86, .inl a1)), ((md 2), .inl (cI, 86, .inl kp)), ((md 3), .inl (cI, 516, .inl hs)), ((md 4), .inl (cI, 172, .inl sl)), ((md 5), .inl (cI, 2, .inl iv)), ((md 6), .inl (cI, 60, .inl tx))]) hK hP hD b_Xok_0 [0, 1, 2, 3, 4, 5, 6] rfl (by decide) rfl trivial (ci := 4) (q0 := 0) rfl rfl) rfl rfl hl.1 rfl (lv_room (Nat.le_of_ble_eq_true rfl)) dX4_reads_16 ⟨Nat.zero_le _, Nat.zero_le _⟩) hP hD hS hA [0, 1, 2, 3, 4, 5, 6] rfl rfl (fun H locs hP hD hS => ?_)
          have hP : va_P D vwCl [((md 0), .inr (4, [.ref (md 1), .ref (md 2), .ref (md 3), .int (nI hn), .ref (md 4), .ref (md 5), .ref (md 6), .int (nI tl), .int (nI s1), .int n1])), ((md 1), .inl (cI, 86, .inl a1)), ((md 2), .inl (cI, 86, .inl kp)), ((md 3), .inl (cI, 516, .inl hs)), ((md 4), .inl (cI, 172, .inl sl)), ((md 5), .inl (cI, 2, .inl iv)), ((md 6), .inl (cI, 60, .inl tx))] H := hP
          have hD : va_D A [((md 0), .inr (4, [.ref (md 1), .ref (md 2), .ref (md 3), .int (nI hn), .ref (md 4), .ref (md 5), .ref (md 6), .int (nI tl), .int (nI s1), .int n1])), ((md 1), .inl (cI, 86, .inl a1)), ((md 2), .inl (cI, 86, .inl kp)), ((md 3), .inl (cI, 516, .inl hs)), ((md 4), .inl (cI, 172, .inl sl)), ((md 5), .inl (cI, 2, .inl iv)), ((md 6), .inl (cI, 60, .inl tx))] := hD
          refine lv_if_eq (pc := 19) (tgt := 63) hx hb dX4_reads_19 (by decide) (fun c_26 => ?_) (fun c_26 => ?_)
          · skip
            obtain ⟨hg48, hbm1, hre⟩ := m_re_gate hok.1 hq_3
            have hltg := hg48.1
            obtain ⟨g, hg, eg⟩ := m_gate_of hg48
            refine lv_aload_n (pc := 63) hx hb dX4_reads_63 rfl (lv_at hl 2 rfl) ?_
            refine va_get (pc := 64) (D := D) (ci := 4) (v := .ref (md 6)) (C := RX4) (T := TX4) (N := 10) hx hb hts hi_X4_reads_X4 hown hK hP 0 rfl rfl 6 (by decide) (hts _ hw_X4_reads_5) (fun _ h9 => h9) rfl dX4_reads_64 ?_
            refine lv_aload_n (pc := 67) hx hb dX4_reads_67 rfl (lv_at hl 2 rfl) ?_
            refine va_get (pc := 68) (D := D) (ci := 4) (v := .int (nI s1)) (C := RX4) (T := TX4) (N := 10) hx hb hts hi_X4_reads_X4 hown hK hP 0 rfl rfl 8 (by decide) (hts _ hw_X4_reads_0) (fun _ h9 => h9) rfl dX4_reads_68 ?_
            refine b_iald (pc := 71) hx hb hK hP 6 0 rfl rfl s1 rfl (by omega) (by decide) dX4_reads_71 ?_
            refine lv_bipush (pc := 72) (v := 48) hx hb dX4_reads_72 (by decide) ?_
            refine lv_isub (pc := 74) hx hb dX4_reads_74 ?_
            refine lv_istore_n (pc := 75) (lv' := [(3, .int ((tx s1) - 48)), (2, .int 1), (1, .int e1), (0, .ref (md 0))]) hx hb dX4_reads_75 rfl hl (by decide) rfl (fun ls hl => ?_)
            have hl : lv_has ls 5 [(3, .int (nI g)), (2, .int 1), (1, .int e1), (0, .ref (md 0))] := by rw [eg] at hl; exact hl
            refine lv_aload_n (pc := 76) hx hb dX4_reads_76 rfl (lv_at hl 3 rfl) ?_
            refine lv_dup (pc := 77) hx hb dX4_reads_77 rfl ?_
            refine va_get (pc := 78) (D := D) (ci := 4) (v := .int (nI s1)) (C := RX4) (T := TX4) (N := 10) hx hb hts hi_X4_reads_X4 hown hK hP 0 rfl rfl 8 (by decide) (hts _ hw_X4_reads_0) (fun _ h9 => h9) rfl dX4_reads_78 ?_
            refine lv_iconst (pc := 81) (v := 1) hx hb dX4_reads_81 (by decide) ?_
            refine lv_iadd (pc := 82) hx hb dX4_reads_82 ?_
            refine b_re (nI_add s1 1) ?_
            refine va_put (pc := 83) (D := D) (ci := 4) (v := .int (nI (s1 + 1))) (ty := .int) (C := RX4) (T := TX4) (N := 10) hx hb hts hi_X4_reads_X4 tyX4 tyX4_ok nmX4 hown hK hP hD hS 0 rfl rfl 8 (by decide) (hts _ hw_X4_reads_0) (fun _ h9 => h9) rfl (by decide +kernel) rfl rfl (Nat.le_of_ble_eq_true rfl) dX4_reads_83 (fun H locs hP hD hS => ?_)
            have hP : va_P D vwCl [((md 0), .inr (4, [.ref (md 1), .ref (md 2), .ref (md 3), .int (nI hn), .ref (md 4), .ref (md 5), .ref (md 6), .int (nI tl), .int (nI (s1 + 1)), .int n1])), ((md 1), .inl (cI, 86, .inl a1)), ((md 2), .inl (cI, 86, .inl kp)), ((md 3), .inl (cI, 516, .inl hs)), ((md 4), .inl (cI, 172, .inl sl)), ((md 5), .inl (cI, 2, .inl iv)), ((md 6), .inl (cI, 60, .inl tx))] H := hP
            have hD : va_D A [((md 0), .inr (4, [.ref (md 1), .ref (md 2), .ref (md 3), .int (nI hn), .ref (md 4), .ref (md 5), .ref (md 6), .int (nI tl), .int (nI (s1 + 1)), .int n1])), ((md 1), .inl (cI, 86, .inl a1)), ((md 2), .inl (cI, 86, .inl kp)), ((md 3), .inl (cI, 516, .inl hs)), ((md 4), .inl (cI, 172, .inl sl)), ((md 5), .inl (cI, 2, .inl iv)), ((md 6), .inl (cI, 60, .inl tx))] := hD
            refine lv_aload_n (pc := 86) hx hb dX4_reads_86 rfl (lv_at hl 3 rfl) ?_
            refine b_cW (pc := 87) (w1 := [((md 0), .inr (4, [.ref (md 1), .ref (md 2), .ref (md 3), .int (nI hn), .ref (md 4), .ref (md 5), .ref (md 6), .int (nI tl), .int (nI (m_bs tx tl (s1 + 1))), .int n1])), ((md 1), .inl (cI, 86, .inl a1)), ((md 2), .inl (cI, 86, .inl kp)), ((md 3), .inl (cI, 516, .inl hs)), ((md 4), .inl (cI, 172, .inl sl)), ((md 5), .inl (cI, 2, .inl iv)), ((md 6), .inl (cI, 60, .inl tx))]) (va_runV (As := []) (rest := []) ⟨hx, hb, hml, hown, hts⟩ (c_X4_beam l D cI cC cZ cG H.size md a1 kp hs hn sl iv tx tl (s1 + 1) n1 (by first | omega | assumption) (by first | omega | assumption)) (cwV 0 hts gX4_reads_X4_beam rfl rfl rfl hy_X4_beam ⟨Nat.le_of_ble_eq_true rfl, Nat.le_of_ble_eq_true rfl⟩) (b_pWV (wc := [((md 0), .inr (4, [.ref (md 1), .ref (md 2), .ref (md 3), .int (nI hn), .ref (md 4), .ref (md 5), .ref (md 6), .int (nI tl), .int (nI (s1 + 1)), .int n1])), ((md 1), .inl (cI, 86, .inl a1)), ((md 2), .inl (cI, 86, .inl kp)), ((md 3), .inl (cI, 516, .inl hs)), ((md 4), .inl (cI, 172, .inl sl)), ((md 5), .inl (cI, 2, .inl iv)), ((md 6), .inl (cI, 60, .inl tx))]) hK hP hD b_Xok_0 [0, 1, 2, 3, 4, 5, 6] rfl (by decide) rfl trivial (ci := 4) (q0 := 0) rfl rfl) rfl rfl hl.1 rfl (lv_room (Nat.le_of_ble_eq_true rfl)) dX4_reads_87 ⟨Nat.zero_le _, Nat.zero_le _⟩) hP hD hS hA [0, 1, 2, 3, 4, 5, 6] rfl rfl (fun H locs hP hD hS => ?_)
            have hP : va_P D vwCl [((md 0), .inr (4, [.ref (md 1), .ref (md 2), .ref (md 3), .int (nI hn), .ref (md 4), .ref (md 5), .ref (md 6), .int (nI tl), .int (nI (m_bs tx tl (s1 + 1))), .int n1])), ((md 1), .inl (cI, 86, .inl a1)), ((md 2), .inl (cI, 86, .inl kp)), ((md 3), .inl (cI, 516, .inl hs)), ((md 4), .inl (cI, 172, .inl sl)), ((md 5), .inl (cI, 2, .inl iv)), ((md 6), .inl (cI, 60, .inl tx))] H := hP
            have hD : va_D A [((md 0), .inr (4, [.ref (md 1), .ref (md 2), .ref (md 3), .int (nI hn), .ref (md 4), .ref (md 5), .ref (md 6), .int (nI tl), .int (nI (m_bs tx tl (s1 + 1))), .int n1])), ((md 1), .inl (cI, 86, .inl a1)), ((md 2), .inl (cI, 86, .inl kp)), ((md 3), .inl (cI, 516, .inl hs)), ((md 4), .inl (cI, 172, .inl sl)), ((md 5), .inl (cI, 2, .inl iv)), ((md 6), .inl (cI, 60, .inl tx))] := hD
            refine lv_istore (pc := 90) (lv' := [(4, .int (m_bm tx tl (s1 + 1))), (3, .int (nI g)), (2, .int 1), (1, .int e1), (0, .ref (md 0))]) hx hb dX4_reads_90 hl (by decide) rfl (fun ls hl => ?_)
            have loop_92 : ∀ (fu : Nat) (s2 : Nat) (a2 : Nat → Int32) (e2 : Int32), (s2 ≤ tl) → (m_ev tx tl g (tl - s2) s2 a2 e2 = m_ev tx tl g (tl - (s1 + 1)) (s1 + 1) a1 e1) → tl - s2 < fu → ∀ (H : Heap) (locs : List Loc), va_P D vwCl [((md 0), .inr (4, [.ref (md 1), .ref (md 2), .ref (md 3), .int (nI hn), .ref (md 4), .ref (md 5), .ref (md 6), .int (nI tl), .int (nI (m_bs tx tl s2)), .int n1])), ((md 1), .inl (cI, 86, .inl a2)), ((md 2), .inl (cI, 86, .inl kp)), ((md 3), .inl (cI, 516, .inl hs)), ((md 4), .inl (cI, 172, .inl sl)), ((md 5), .inl (cI, 2, .inl iv)), ((md 6), .inl (cI, 60, .inl tx))] H → va_D A [((md 0), .inr (4, [.ref (md 1), .ref (md 2), .ref (md 3), .int (nI hn), .ref (md 4), .ref (md 5), .ref (md 6), .int (nI tl), .int (nI (m_bs tx tl s2)), .int n1])), ((md 1), .inl (cI, 86, .inl a2)), ((md 2), .inl (cI, 86, .inl kp)), ((md 3), .inl (cI, 516, .inl hs)), ((md 4), .inl (cI, 172, .inl sl)), ((md 5), .inl (cI, 2, .inl iv)), ((md 6), .inl (cI, 60, .inl tx))] → va_S A s.heap H locs → ∀ (ls : Array Slot), lv_has ls 5 [(4, .int (m_bm tx tl s2)), (3, .int (nI g)), (2, .int 1), (1, .int e2), (0, .ref (md 0))] → W p l e ({ frames := 5, cells := 0, slots := 0, locals := 111 } : Room) s m ([.ref (md 0)] : List Value).toArray below meth c H locs 0 0 Q (F0 m 92 ls []) := by
              intro fu
              induction fu with
              | zero => intro s2 a2 e2 hs2 hv2 hfu H locs hP hD hS ls hl; exact absurd hfu (Nat.not_lt_zero _)
              | succ fu ih_92 =>
                intro s2 a2 e2 hs2 hv2 hfu H locs hP hD hS ls hl
                refine lv_iload (pc := 92) hx hb dX4_reads_92 (lv_at hl 0 rfl) ?_
                refine lv_bipush (pc := 94) (v := (-6)) hx hb dX4_reads_94 (by decide) ?_
                refine lv_icmp_eq (pc := 96) (tgt := 118) hx hb dX4_reads_96 (by decide) (fun c_27 => ?_) (fun c_27 => ?_)
                · skip
                  have c_27 : (m_bm tx tl s2) = (-6) := c_27
                  have es := m_bs_n c_27
                  have hP : va_P D vwCl [((md 0), .inr (4, [.ref (md 1), .ref (md 2), .ref (md 3), .int (nI hn), .ref (md 4), .ref (md 5), .ref (md 6), .int (nI tl), .int (nI s2), .int n1])), ((md 1), .inl (cI, 86, .inl a2)), ((md 2), .inl (cI, 86, .inl kp)), ((md 3), .inl (cI, 516, .inl hs)), ((md 4), .inl (cI, 172, .inl sl)), ((md 5), .inl (cI, 2, .inl iv)), ((md 6), .inl (cI, 60, .inl tx))] H := by rw [es] at hP; exact hP
                  have hD : va_D A [((md 0), .inr (4, [.ref (md 1), .ref (md 2), .ref (md 3), .int (nI hn), .ref (md 4), .ref (md 5), .ref (md 6), .int (nI tl), .int (nI s2), .int n1])), ((md 1), .inl (cI, 86, .inl a2)), ((md 2), .inl (cI, 86, .inl kp)), ((md 3), .inl (cI, 516, .inl hs)), ((md 4), .inl (cI, 172, .inl sl)), ((md 5), .inl (cI, 2, .inl iv)), ((md 6), .inl (cI, 60, .inl tx))] := by rw [es] at hD; exact hD
                  have e2x : m_ev tx tl g (tl - (s1 + 1)) (s1 + 1) a1 e1 = (a2, e2, s2) := by rw [← hv2, m_ev_s hs2, if_pos c_27]
                  have e2y : m_evx tx tl s1 a1 e1 = (a2, e2, s2) := by unfold m_evx; rw [eg, nI_clamp (by omega)]; exact e2x
                  have er : m_re tx tl s1 n1 = (true, s2, n1) := by rw [hre]; have h9 := m_ev_run (tx := tx) (tl := tl) (g := g) (tl - (s1 + 1)) (s1 + 1) a1 e1 (by omega) rfl; rw [e2x] at h9; rw [← h9]
                  refine lv_aload_n (pc := 118) hx hb dX4_reads_118 rfl (lv_at hl 4 rfl) ?_
                  refine lv_bipush (pc := 119) (v := 59) hx hb dX4_reads_119 (by decide) ?_
                  rcases Classical.em (m_has tx tl s2 59 59) with hq_28 | hq_29
                  · skip
                    refine b_cW (pc := 121) (w1 := [((md 0), .inr (4, [.ref (md 1), .ref (md 2), .ref (md 3), .int (nI hn), .ref (md 4), .ref (md 5), .ref (md 6), .int (nI tl), .int (nI (s2 + 1)), .int n1])), ((md 1), .inl (cI, 86, .inl a2)), ((md 2), .inl (cI, 86, .inl kp)), ((md 3), .inl (cI, 516, .inl hs)), ((md 4), .inl (cI, 172, .inl sl)), ((md 5), .inl (cI, 2, .inl iv)), ((md 6), .inl (cI, 60, .inl tx))]) (va_runV (As := [.int 59]) (rest := []) ⟨hx, hb, hml, hown, hts⟩ (c_X4_takesOne_y l D cI cC cZ cG H.size md a2 kp hs hn sl iv tx tl s2 n1 59 (by first | omega | assumption) (by first | omega | assumption) hq_28) (cwV 1 hts gX4_reads_X4_takesOne rfl rfl rfl hy_X4_takesOne ⟨Nat.le_of_ble_eq_true rfl, Nat.le_of_ble_eq_true rfl⟩) (b_pWV (wc := [((md 0), .inr (4, [.ref (md 1), .ref (md 2), .ref (md 3), .int (nI hn), .ref (md 4), .ref (md 5), .ref (md 6), .int (nI tl), .int (nI s2), .int n1])), ((md 1), .inl (cI, 86, .inl a2)), ((md 2), .inl (cI, 86, .inl kp)), ((md 3), .inl (cI, 516, .inl hs)), ((md 4), .inl (cI, 172, .inl sl)), ((md 5), .inl (cI, 2, .inl iv)), ((md 6), .inl (cI, 60, .inl tx))]) hK hP hD b_Xok_0 [0, 1, 2, 3, 4, 5, 6] rfl (by decide) rfl trivial (ci := 4) (q0 := 0) rfl rfl) rfl rfl hl.1 rfl (lv_room (Nat.le_of_ble_eq_true rfl)) dX4_reads_121 ⟨Nat.zero_le _, Nat.zero_le _⟩) hP hD hS hA [0, 1, 2, 3, 4, 5, 6] rfl rfl (fun H locs hP hD hS => ?_)
                    have hP : va_P D vwCl [((md 0), .inr (4, [.ref (md 1), .ref (md 2), .ref (md 3), .int (nI hn), .ref (md 4), .ref (md 5), .ref (md 6), .int (nI tl), .int (nI (s2 + 1)), .int n1])), ((md 1), .inl (cI, 86, .inl a2)), ((md 2), .inl (cI, 86, .inl kp)), ((md 3), .inl (cI, 516, .inl hs)), ((md 4), .inl (cI, 172, .inl sl)), ((md 5), .inl (cI, 2, .inl iv)), ((md 6), .inl (cI, 60, .inl tx))] H := hP
                    have hD : va_D A [((md 0), .inr (4, [.ref (md 1), .ref (md 2), .ref (md 3), .int (nI hn), .ref (md 4), .ref (md 5), .ref (md 6), .int (nI tl), .int (nI (s2 + 1)), .int n1])), ((md 1), .inl (cI, 86, .inl a2)), ((md 2), .inl (cI, 86, .inl kp)), ((md 3), .inl (cI, 516, .inl hs)), ((md 4), .inl (cI, 172, .inl sl)), ((md 5), .inl (cI, 2, .inl iv)), ((md 6), .inl (cI, 60, .inl tx))] := hD
                    refine lv_istore_n (pc := 124) (lv' := [(2, .int 1), (4, .int (m_bm tx tl s2)), (3, .int (nI g)), (1, .int e2), (0, .ref (md 0))]) hx hb dX4_reads_124 rfl hl (by decide) rfl (fun ls hl => ?_)
                    refine lv_goto (pc := 125) (tgt := 9) hx hb dX4_reads_125 (by decide) ?_
                    have hlt59 := hq_28.1
                    have hft2 : (m_ftl tx tl k2 (s2 + 1) (n1)).1 = -6 := by rw [er] at hok; exact hok.2.elim (fun q => q.2) (fun q => absurd hq_28 q.1)
                    have hle3 : s1 < s2 + 1 := Nat.lt_succ_of_le (by rw [er] at hle; exact hle.1)
                    exact ih_9 (s2 + 1) n1 a2 e2 k2 (by omega) (by omega) hft2 (by rw [← hv, m_rd, if_neg hq_3, e2y]; first | exact if_pos hq_28 | exact (if_pos hq_28).symm; (try rfl)) (by omega) _ _ (hP.sub [0, 1, 2, 3, 4, 5, 6] rfl) (hD.sub [0, 1, 2, 3, 4, 5, 6] (by decide) rfl) hS ls (lv_sub hl [0, 3, 4] rfl)
                  · skip
                    refine b_cW (pc := 121) (w1 := [((md 0), .inr (4, [.ref (md 1), .ref (md 2), .ref (md 3), .int (nI hn), .ref (md 4), .ref (md 5), .ref (md 6), .int (nI tl), .int (nI s2), .int n1])), ((md 1), .inl (cI, 86, .inl a2)), ((md 2), .inl (cI, 86, .inl kp)), ((md 3), .inl (cI, 516, .inl hs)), ((md 4), .inl (cI, 172, .inl sl)), ((md 5), .inl (cI, 2, .inl iv)), ((md 6), .inl (cI, 60, .inl tx))]) (va_runV (As := [.int 59]) (rest := []) ⟨hx, hb, hml, hown, hts⟩ (c_X4_takesOne_n l D cI cC cZ cG H.size md a2 kp hs hn sl iv tx tl s2 n1 59 (by first | omega | assumption) (by first | omega | assumption) hq_29) (cwV 1 hts gX4_reads_X4_takesOne rfl rfl rfl hy_X4_takesOne ⟨Nat.le_of_ble_eq_true rfl, Nat.le_of_ble_eq_true rfl⟩) (b_pWV (wc := [((md 0), .inr (4, [.ref (md 1), .ref (md 2), .ref (md 3), .int (nI hn), .ref (md 4), .ref (md 5), .ref (md 6), .int (nI tl), .int (nI s2), .int n1])), ((md 1), .inl (cI, 86, .inl a2)), ((md 2), .inl (cI, 86, .inl kp)), ((md 3), .inl (cI, 516, .inl hs)), ((md 4), .inl (cI, 172, .inl sl)), ((md 5), .inl (cI, 2, .inl iv)), ((md 6), .inl (cI, 60, .inl tx))]) hK hP hD b_Xok_0 [0, 1, 2, 3, 4, 5, 6] rfl (by decide) rfl trivial (ci := 4) (q0 := 0) rfl rfl) rfl rfl hl.1 rfl (lv_room (Nat.le_of_ble_eq_true rfl)) dX4_reads_121 ⟨Nat.zero_le _, Nat.zero_le _⟩) hP hD hS hA [0, 1, 2, 3, 4, 5, 6] rfl rfl (fun H locs hP hD hS => ?_)
                    have hP : va_P D vwCl [((md 0), .inr (4, [.ref (md 1), .ref (md 2), .ref (md 3), .int (nI hn), .ref (md 4), .ref (md 5), .ref (md 6), .int (nI tl), .int (nI s2), .int n1])), ((md 1), .inl (cI, 86, .inl a2)), ((md 2), .inl (cI, 86, .inl kp)), ((md 3), .inl (cI, 516, .inl hs)), ((md 4), .inl (cI, 172, .inl sl)), ((md 5), .inl (cI, 2, .inl iv)), ((md 6), .inl (cI, 60, .inl tx))] H := hP
                    have hD : va_D A [((md 0), .inr (4, [.ref (md 1), .ref (md 2), .ref (md 3), .int (nI hn), .ref (md 4), .ref (md 5), .ref (md 6), .int (nI tl), .int (nI s2), .int n1])), ((md 1), .inl (cI, 86, .inl a2)), ((md 2), .inl (cI, 86, .inl kp)), ((md 3), .inl (cI, 516, .inl hs)), ((md 4), .inl (cI, 172, .inl sl)), ((md 5), .inl (cI, 2, .inl iv)), ((md 6), .inl (cI, 60, .inl tx))] := hD
                    refine lv_istore_n (pc := 124) (lv' := [(2, .int 0), (4, .int (m_bm tx tl s2)), (3, .int (nI g)), (1, .int e2), (0, .ref (md 0))]) hx hb dX4_reads_124 rfl hl (by decide) rfl (fun ls hl => ?_)
                    refine lv_goto (pc := 125) (tgt := 9) hx hb dX4_reads_125 (by decide) ?_
                    refine lv_iload_n (pc := 9) hx hb dX4_reads_9 rfl (lv_at hl 0 rfl) ?_
                    refine lv_if_eq (pc := 10) (tgt := 128) hx hb dX4_reads_10 (by decide) (fun c_30 => ?_) (fun c_30 => ?_)
                    · skip
                      refine lv_iload_n (pc := 128) hx hb dX4_reads_128 rfl (lv_at hl 3 rfl) ?_
                      subst hQ
                      exact b_retW hx hb hr hlocks hS (by have e7 : m_rd tx tl (tl + 1) 0 nu a 0 = (a2, e2, s2, n1) := (by rw [← hv, m_rd, if_neg hq_3, e2y]; first | exact if_neg hq_29 | exact (if_neg hq_29).symm); rw [e7]) (by have e7 : m_rd tx tl (tl + 1) 0 nu a 0 = (a2, e2, s2, n1) := (by rw [← hv, m_rd, if_neg hq_3, e2y]; first | exact if_neg hq_29 | exact (if_neg hq_29).symm); rw [e7]; exact hP) dX4_reads_129
                    · skip
                      exact absurd c_30 (by decide)
                · skip
                  have c_27 : ¬ ((m_bm tx tl s2) = (-6)) := c_27
                  obtain ⟨bm, hbm3, ebm, es, hlt⟩ := m_bm_ne c_27
                  have hl : lv_has ls 5 [(4, .int (nI bm)), (3, .int (nI g)), (2, .int 1), (1, .int e2), (0, .ref (md 0))] := by rw [ebm] at hl; exact hl
                  have hP : va_P D vwCl [((md 0), .inr (4, [.ref (md 1), .ref (md 2), .ref (md 3), .int (nI hn), .ref (md 4), .ref (md 5), .ref (md 6), .int (nI tl), .int (nI (s2 + 1)), .int n1])), ((md 1), .inl (cI, 86, .inl a2)), ((md 2), .inl (cI, 86, .inl kp)), ((md 3), .inl (cI, 516, .inl hs)), ((md 4), .inl (cI, 172, .inl sl)), ((md 5), .inl (cI, 2, .inl iv)), ((md 6), .inl (cI, 60, .inl tx))] H := by rw [es] at hP; exact hP
                  have hD : va_D A [((md 0), .inr (4, [.ref (md 1), .ref (md 2), .ref (md 3), .int (nI hn), .ref (md 4), .ref (md 5), .ref (md 6), .int (nI tl), .int (nI (s2 + 1)), .int n1])), ((md 1), .inl (cI, 86, .inl a2)), ((md 2), .inl (cI, 86, .inl kp)), ((md 3), .inl (cI, 516, .inl hs)), ((md 4), .inl (cI, 172, .inl sl)), ((md 5), .inl (cI, 2, .inl iv)), ((md 6), .inl (cI, 60, .inl tx))] := by rw [es] at hD; exact hD
                  refine lv_iload_n (pc := 99) hx hb dX4_reads_99 rfl (lv_at hl 3 rfl) ?_
                  refine lv_aload_n (pc := 100) hx hb dX4_reads_100 rfl (lv_at hl 4 rfl) ?_
                  refine lv_iload_n (pc := 101) hx hb dX4_reads_101 rfl (lv_at hl 1 rfl) ?_
                  refine lv_iload (pc := 102) hx hb dX4_reads_102 (lv_at hl 0 rfl) ?_
                  refine b_cW (pc := 104) (w1 := [((md 0), .inr (4, [.ref (md 1), .ref (md 2), .ref (md 3), .int (nI hn), .ref (md 4), .ref (md 5), .ref (md 6), .int (nI tl), .int (nI (s2 + 1)), .int n1])), ((md 1), .inl (cI, 86, .inl (m_hap a2 g bm))), ((md 2), .inl (cI, 86, .inl kp)), ((md 3), .inl (cI, 516, .inl hs)), ((md 4), .inl (cI, 172, .inl sl)), ((md 5), .inl (cI, 2, .inl iv)), ((md 6), .inl (cI, 60, .inl tx))]) (va_runV (As := [.int (nI g), .int (nI bm)]) (rest := [.int e2]) ⟨hx, hb, hml, hown, hts⟩ (c_X4_happens l D cI cC cZ cG H.size md a2 kp hs hn sl iv tx tl (s2 + 1) n1 g bm (by first | omega | assumption) (by first | omega | assumption)) (cwV 2 hts gX4_reads_X4_happens rfl rfl rfl hy_X4_happens ⟨Nat.le_of_ble_eq_true rfl, Nat.le_of_ble_eq_true rfl⟩) (b_pWV (wc := [((md 0), .inr (4, [.ref (md 1), .ref (md 2), .ref (md 3), .int (nI hn), .ref (md 4), .ref (md 5), .ref (md 6), .int (nI tl), .int (nI (s2 + 1)), .int n1])), ((md 1), .inl (cI, 86, .inl a2)), ((md 2), .inl (cI, 86, .inl kp)), ((md 3), .inl (cI, 516, .inl hs)), ((md 4), .inl (cI, 172, .inl sl)), ((md 5), .inl (cI, 2, .inl iv)), ((md 6), .inl (cI, 60, .inl tx))]) hK hP hD b_Xok_0 [0, 1, 2, 3, 4, 5, 6] rfl (by decide) rfl trivial (ci := 4) (q0 := 0) rfl rfl) rfl rfl hl.1 rfl (lv_room (Nat.le_of_ble_eq_true rfl)) dX4_reads_104 ⟨Nat.zero_le _, Nat.zero_le _⟩) hP hD hS hA [0, 1, 2, 3, 4, 5, 6] rfl rfl (fun H locs hP hD hS => ?_)
                  have hP : va_P D vwCl [((md 0), .inr (4, [.ref (md 1), .ref (md 2), .ref (md 3), .int (nI hn), .ref (md 4), .ref (md 5), .ref (md 6), .int (nI tl), .int (nI (s2 + 1)), .int n1])), ((md 1), .inl (cI, 86, .inl (m_hap a2 g bm))), ((md 2), .inl (cI, 86, .inl kp)), ((md 3), .inl (cI, 516, .inl hs)), ((md 4), .inl (cI, 172, .inl sl)), ((md 5), .inl (cI, 2, .inl iv)), ((md 6), .inl (cI, 60, .inl tx))] H := hP
                  have hD : va_D A [((md 0), .inr (4, [.ref (md 1), .ref (md 2), .ref (md 3), .int (nI hn), .ref (md 4), .ref (md 5), .ref (md 6), .int (nI tl), .int (nI (s2 + 1)), .int n1])), ((md 1), .inl (cI, 86, .inl (m_hap a2 g bm))), ((md 2), .inl (cI, 86, .inl kp)), ((md 3), .inl (cI, 516, .inl hs)), ((md 4), .inl (cI, 172, .inl sl)), ((md 5), .inl (cI, 2, .inl iv)), ((md 6), .inl (cI, 60, .inl tx))] := hD
                  obtain ⟨f_31, ef_31⟩ : ∃ z9 : Nat → Int32, z9 = m_hap a2 g bm := ⟨_, rfl⟩
                  have hP : va_P D vwCl [((md 0), .inr (4, [.ref (md 1), .ref (md 2), .ref (md 3), .int (nI hn), .ref (md 4), .ref (md 5), .ref (md 6), .int (nI tl), .int (nI (s2 + 1)), .int n1])), ((md 1), .inl (cI, 86, .inl f_31)), ((md 2), .inl (cI, 86, .inl kp)), ((md 3), .inl (cI, 516, .inl hs)), ((md 4), .inl (cI, 172, .inl sl)), ((md 5), .inl (cI, 2, .inl iv)), ((md 6), .inl (cI, 60, .inl tx))] H := by rw [ef_31]; exact hP
                  have hD : va_D A [((md 0), .inr (4, [.ref (md 1), .ref (md 2), .ref (md 3), .int (nI hn), .ref (md 4), .ref (md 5), .ref (md 6), .int (nI tl), .int (nI (s2 + 1)), .int n1])), ((md 1), .inl (cI, 86, .inl f_31)), ((md 2), .inl (cI, 86, .inl kp)), ((md 3), .inl (cI, 516, .inl hs)), ((md 4), .inl (cI, 172, .inl sl)), ((md 5), .inl (cI, 2, .inl iv)), ((md 6), .inl (cI, 60, .inl tx))] := by rw [ef_31]; exact hD
                  refine lv_iadd (pc := 107) hx hb dX4_reads_107 ?_
                  refine lv_istore_n (pc := 108) (lv' := [(1, .int (e2 + (m_hapn a2 g bm))), (4, .int (nI bm)), (3, .int (nI g)), (2, .int 1), (0, .ref (md 0))]) hx hb dX4_reads_108 rfl hl (by decide) rfl (fun ls hl => ?_)
                  refine lv_aload_n (pc := 109) hx hb dX4_reads_109 rfl (lv_at hl 4 rfl) ?_
                  refine b_cW (pc := 110) (w1 := [((md 0), .inr (4, [.ref (md 1), .ref (md 2), .ref (md 3), .int (nI hn), .ref (md 4), .ref (md 5), .ref (md 6), .int (nI tl), .int (nI (m_bs tx tl (s2 + 1))), .int n1])), ((md 1), .inl (cI, 86, .inl f_31)), ((md 2), .inl (cI, 86, .inl kp)), ((md 3), .inl (cI, 516, .inl hs)), ((md 4), .inl (cI, 172, .inl sl)), ((md 5), .inl (cI, 2, .inl iv)), ((md 6), .inl (cI, 60, .inl tx))]) (va_runV (As := []) (rest := []) ⟨hx, hb, hml, hown, hts⟩ (c_X4_beam l D cI cC cZ cG H.size md f_31 kp hs hn sl iv tx tl (s2 + 1) n1 (by first | omega | assumption) (by first | omega | assumption)) (cwV 0 hts gX4_reads_X4_beam rfl rfl rfl hy_X4_beam ⟨Nat.le_of_ble_eq_true rfl, Nat.le_of_ble_eq_true rfl⟩) (b_pWV (wc := [((md 0), .inr (4, [.ref (md 1), .ref (md 2), .ref (md 3), .int (nI hn), .ref (md 4), .ref (md 5), .ref (md 6), .int (nI tl), .int (nI (s2 + 1)), .int n1])), ((md 1), .inl (cI, 86, .inl f_31)), ((md 2), .inl (cI, 86, .inl kp)), ((md 3), .inl (cI, 516, .inl hs)), ((md 4), .inl (cI, 172, .inl sl)), ((md 5), .inl (cI, 2, .inl iv)), ((md 6), .inl (cI, 60, .inl tx))]) hK hP hD b_Xok_0 [0, 1, 2, 3, 4, 5, 6] rfl (by decide) rfl trivial (ci := 4) (q0 := 0) rfl rfl) rfl rfl hl.1 rfl (lv_room (Nat.le_of_ble_eq_true rfl)) dX4_reads_110 ⟨Nat.zero_le _, Nat.zero_le _⟩) hP hD hS hA [0, 1, 2, 3, 4, 5, 6] rfl rfl (fun H locs hP hD hS => ?_)
                  have hP : va_P D vwCl [((md 0), .inr (4, [.ref (md 1), .ref (md 2), .ref (md 3), .int (nI hn), .ref (md 4), .ref (md 5), .ref (md 6), .int (nI tl), .int (nI (m_bs tx tl (s2 + 1))), .int n1])), ((md 1), .inl (cI, 86, .inl f_31)), ((md 2), .inl (cI, 86, .inl kp)), ((md 3), .inl (cI, 516, .inl hs)), ((md 4), .inl (cI, 172, .inl sl)), ((md 5), .inl (cI, 2, .inl iv)), ((md 6), .inl (cI, 60, .inl tx))] H := hP
                  have hD : va_D A [((md 0), .inr (4, [.ref (md 1), .ref (md 2), .ref (md 3), .int (nI hn), .ref (md 4), .ref (md 5), .ref (md 6), .int (nI tl), .int (nI (m_bs tx tl (s2 + 1))), .int n1])), ((md 1), .inl (cI, 86, .inl f_31)), ((md 2), .inl (cI, 86, .inl kp)), ((md 3), .inl (cI, 516, .inl hs)), ((md 4), .inl (cI, 172, .inl sl)), ((md 5), .inl (cI, 2, .inl iv)), ((md 6), .inl (cI, 60, .inl tx))] := hD
                  refine lv_istore (pc := 113) (lv' := [(4, .int (m_bm tx tl (s2 + 1))), (1, .int (e2 + (m_hapn a2 g bm))), (3, .int (nI g)), (2, .int 1), (0, .ref (md 0))]) hx hb dX4_reads_113 hl (by decide) rfl (fun ls hl => ?_)
                  refine lv_goto (pc := 115) (tgt := 92) hx hb dX4_reads_115 (by decide) ?_
                  subst ef_31
                  exact ih_92 (s2 + 1) (m_hap a2 g bm) (e2 + (m_hapn a2 g bm)) (by omega) (by rw [← hv2, m_ev_b hs2 c_27 ebm hbm3]) (by omega) _ _ (hP.sub [0, 1, 2, 3, 4, 5, 6] rfl) (hD.sub [0, 1, 2, 3, 4, 5, 6] (by decide) rfl) hS ls (lv_sub hl [0, 2, 3, 1, 4] rfl)
            exact loop_92 (tl + 1) (s1 + 1) a1 e1 (by omega) rfl (by omega) _ _ (hP.sub [0, 1, 2, 3, 4, 5, 6] rfl) (hD.sub [0, 1, 2, 3, 4, 5, 6] (by decide) rfl) hS ls (lv_sub hl [0, 1, 2, 3, 4] rfl)
          · skip
            exact absurd c_26 (by decide)
  exact loop_9 (tl + 2) 0 nu a 0 (tl + 1) (Nat.zero_le _) (by omega) hft rfl (by omega) _ _ (hP.sub [0, 1, 2, 3, 4, 5, 6] rfl) (hD.sub [0, 1, 2, 3, 4, 5, 6] (by decide) rfl) hS ls (lv_sub hl [0, 1, 2] rfl)
