/-! isStep -/
set_option maxHeartbeats 4000000 in
set_option maxRecDepth 100000 in
theorem c_L_isStep (l : Launch) (D : va_G) (cI cC cZ cG : ClassId) (tb lo hi sz : Nat) (ad bd : Nat → Nat) (σ ρ : HS) (N : Nat) (x y : Int32) (hR : Rel N σ ρ) (hN : N ≤ 50000) : Met l yL_isStep wsL_isStep ({ frames := 7, cells := 0, slots := 0, locals := 160 } : Room) (b_W D (b_T cI cC cZ cG) (b_X tb lo hi) (hc cI cC cZ cG ad σ ++ hc cI cC cZ cG bd ρ) sz [.ref (ad 0), .ref (bd 0), .int x, .int y]) (st_Qc D cI cC cZ cG N ad bd (va_A (hc cI cC cZ cG ad σ ++ hc cI cC cZ cG bd ρ) sz)) 0 0 (va_A (hc cI cC cZ cG ad σ ++ hc cI cC cZ cG bd ρ) sz) := by
  refine b_enterW (Qc := fun A => st_Qc D cI cC cZ cG N ad bd A) (cc := cL_isStep) (maxL := 13) (ret := (some .boolean)) (by decide) rfl (Nat.le_of_ble_eq_true rfl) ?_
  intro p e s m below meth c ls A hx hb hr hml hown hts hlocks hname hP hK hD hA hS hX hl Q hQ
  have hown : s.vm.findClass RL = some m.cls := hown
  have hl : lv_has ls 13 [(0, .ref (ad 0)), (1, .ref (bd 0)), (2, .int x), (3, .int y)] := hl
  refine lv_iload_n (pc := 0) hx hb dL_isStep_0 rfl (lv_at hl 2 rfl) ?_
  refine lv_iconst (pc := 1) (v := 4) hx hb dL_isStep_1 (by decide) ?_
  refine lv_ishr (pc := 2) hx hb dL_isStep_2 ?_
  refine lv_istore (pc := 3) (lv' := [(4, .int (x >>> (4 &&& 31))), (0, .ref (ad 0)), (1, .ref (bd 0)), (2, .int x), (3, .int y)]) hx hb dL_isStep_3 hl (by decide) rfl (fun ls hl => ?_)
  refine lv_iload (pc := 5) hx hb dL_isStep_5 (lv_at hl 0 rfl) ?_
  refine wj_cut (a := ∀ (n : Nat), (0 < n ∧ n ≤ 6) → W p l e ({ frames := 7, cells := 0, slots := 0, locals := 160 } : Room) s m (st_av ad bd x y) below meth c s.heap [] 0 0 Q (F0 m 21 ls [.int (nI n), .int (x >>> (4 &&& 31))])) ?_ (fun J_1 => ?_)
  · skip
    intro n hjJ_1
    refine b_cR (pc := 21) (va_runS (As := [.int (x >>> (4 &&& 31)), .int (nI n)]) (rest := []) ⟨hx, hb, hml, hown, hts⟩ (c_L_up l D cI cC cZ cG (x >>> (4 &&& 31)) n (by omega) (by omega)) (va_cwS 2 hts gL_isStep_L_up rfl rfl rfl hyS_L_up ⟨Nat.le_of_ble_eq_true rfl, Nat.le_of_ble_eq_true rfl⟩) (b_pRs hK (fun k q hk => by simp at hk)) rfl rfl hl.1 rfl (lv_room (Nat.le_of_ble_eq_true rfl)) dL_isStep_21 ⟨Nat.zero_le _, Nat.zero_le _⟩) ?_
    obtain ⟨u0, eu0⟩ : ∃ z : Nat, u_up (x >>> (4 &&& 31)) n = z := ⟨_, rfl⟩
    have hu0 : u0 < n := eu0 ▸ u_lt _ (by omega)
    refine b_re (congrArg nI eu0) ?_
    refine lv_istore (pc := 24) (lv' := [(5, .int (nI u0)), (4, .int (x >>> (4 &&& 31))), (0, .ref (ad 0)), (1, .ref (bd 0)), (2, .int x), (3, .int y)]) hx hb dL_isStep_24 hl (by decide) rfl (fun ls hl => ?_)
    obtain ⟨g, eg⟩ : ∃ z : Nat, u0 = z := ⟨_, rfl⟩
    have hg : g < 6 := by omega
    subst eg
    refine lv_iload_n (pc := 26) hx hb dL_isStep_26 rfl (lv_at hl 4 rfl) ?_
    refine lv_bipush (pc := 27) (v := 18) hx hb dL_isStep_27 (by decide) ?_
    refine b_cR (pc := 29) (va_runS (As := [.int x, .int 18]) (rest := []) ⟨hx, hb, hml, hown, hts⟩ (c_L_up l D cI cC cZ cG x 18 (by omega) (by omega)) (va_cwS 2 hts gL_isStep_L_up rfl rfl rfl hyS_L_up ⟨Nat.le_of_ble_eq_true rfl, Nat.le_of_ble_eq_true rfl⟩) (b_pRs hK (fun k q hk => by simp at hk)) rfl rfl hl.1 rfl (lv_room (Nat.le_of_ble_eq_true rfl)) dL_isStep_29 ⟨Nat.zero_le _, Nat.zero_le _⟩) ?_
    obtain ⟨u1, eu1⟩ : ∃ z : Nat, u_up x 18 = z := ⟨_, rfl⟩
    have hu1 : u1 < 18 := eu1 ▸ u_lt _ (by omega)
    refine b_re (congrArg nI eu1) ?_
    rcases (show u1 = 0 ∨ u1 = 1 ∨ u1 = 2 ∨ u1 = 3 ∨ u1 = 4 ∨ u1 = 5 ∨ u1 = 6 ∨ 7 ≤ u1 by omega) with z | z | z | z | z | z | z | z
    · skip
      subst z
      refine lv_tableIn (pc := 32) (tgt := 76) (off := 44) hx hb dL_isStep_32 (by decide) (by decide) (by decide) (by decide) ?_
      exact st_c0 (l := l) ⟨hx, hb, hr, hml, hown, hts, hlocks, hK, hA, hX⟩ hR hN hQ hP hD hS (lv_sub hl [2, 3, 4, 5, 1] rfl)
    · skip
      subst z
      refine lv_tableIn (pc := 32) (tgt := 209) (off := 177) hx hb dL_isStep_32 (by decide) (by decide) (by decide) (by decide) ?_
      exact st_c1 (l := l) ⟨hx, hb, hr, hml, hown, hts, hlocks, hK, hA, hX⟩ hR hN hQ hP hD hS (lv_sub hl [2, 3, 4, 5, 1] rfl)
    · skip
      subst z
      refine lv_tableIn (pc := 32) (tgt := 209) (off := 177) hx hb dL_isStep_32 (by decide) (by decide) (by decide) (by decide) ?_
      exact st_c1 (l := l) ⟨hx, hb, hr, hml, hown, hts, hlocks, hK, hA, hX⟩ hR hN hQ hP hD hS (lv_sub hl [2, 3, 4, 5, 1] rfl)
    · skip
      subst z
      refine lv_tableIn (pc := 32) (tgt := 209) (off := 177) hx hb dL_isStep_32 (by decide) (by decide) (by decide) (by decide) ?_
      exact st_c1 (l := l) ⟨hx, hb, hr, hml, hown, hts, hlocks, hK, hA, hX⟩ hR hN hQ hP hD hS (lv_sub hl [2, 3, 4, 5, 1] rfl)
    · skip
      subst z
      refine lv_tableIn (pc := 32) (tgt := 402) (off := 370) hx hb dL_isStep_32 (by decide) (by decide) (by decide) (by decide) ?_
      exact st_c4 (l := l) ⟨hx, hb, hr, hml, hown, hts, hlocks, hK, hA, hX⟩ hR hN hQ hP hD hS (lv_sub hl [2, 3, 4, 5, 1] rfl)
    · skip
      subst z
      refine lv_tableIn (pc := 32) (tgt := 517) (off := 485) hx hb dL_isStep_32 (by decide) (by decide) (by decide) (by decide) ?_
      exact st_c5 (l := l) ⟨hx, hb, hr, hml, hown, hts, hlocks, hK, hA, hX⟩ hR hN hQ hg hP hD hS (lv_sub hl [2, 3, 4, 5, 1, 0] rfl)
    · skip
      subst z
      refine lv_tableIn (pc := 32) (tgt := 627) (off := 595) hx hb dL_isStep_32 (by decide) (by decide) (by decide) (by decide) ?_
      exact st_c6 (l := l) ⟨hx, hb, hr, hml, hown, hts, hlocks, hK, hA, hX⟩ hR hN hQ hP hD hS (lv_sub hl [2, 3, 4, 5, 1] rfl)
    · skip
      refine lv_tableOut (pc := 32) (tgt := 695) hx hb dL_isStep_32 (Or.inr (by rw [nI_toInt (by omega)]; omega)) (by decide) ?_
      exact st_c7 (l := l) ⟨hx, hb, hr, hml, hown, hts, hlocks, hK, hA, hX⟩ hR hN hQ hg hP hD hS (lv_sub hl [2, 3, 4, 5, 1, 0] rfl)
  · skip
    refine lv_iload_n (pc := 7) hx hb dL_isStep_7 rfl (lv_at hl 4 rfl) ?_
    refine lv_iconst (pc := 8) (v := 3) hx hb dL_isStep_8 (by decide) ?_
    refine b_cR (pc := 9) (va_runS (As := [.int y, .int 3]) (rest := [.int (x >>> (4 &&& 31))]) ⟨hx, hb, hml, hown, hts⟩ (c_L_up l D cI cC cZ cG y 3 (by omega) (by omega)) (va_cwS 2 hts gL_isStep_L_up rfl rfl rfl hyS_L_up ⟨Nat.le_of_ble_eq_true rfl, Nat.le_of_ble_eq_true rfl⟩) (b_pRs hK (fun k q hk => by simp at hk)) rfl rfl hl.1 rfl (lv_room (Nat.le_of_ble_eq_true rfl)) dL_isStep_9 ⟨Nat.zero_le _, Nat.zero_le _⟩) ?_
    obtain ⟨u2, eu2⟩ : ∃ z : Nat, u_up y 3 = z := ⟨_, rfl⟩
    have hu2 : u2 < 3 := eu2 ▸ u_lt _ (by omega)
    refine b_re (congrArg nI eu2) ?_
    refine lv_if_ne (pc := 12) (tgt := 20) hx hb dL_isStep_12 (by decide) (fun c_2 => ?_) (fun c_2 => ?_)
    · skip
      have c_2 : ¬ (u2 = 0) := fun h9 => c_2 ((nI_eq (a := u2) (b := 0) (by omega) (by omega)).mpr h9)
      refine lv_iconst (pc := 20) (v := 2) hx hb dL_isStep_20 (by decide) ?_
      exact b_re (show _ = nI 2 from by decide) (J_1 2 (by omega))
    · skip
      have c_2 : u2 = 0 := (nI_eq (a := u2) (b := 0) (by omega) (by omega)).mp c_2
      refine lv_bipush (pc := 15) (v := 6) hx hb dL_isStep_15 (by decide) ?_
      refine lv_goto (pc := 17) (tgt := 21) hx hb dL_isStep_17 (by decide) ?_
      exact b_re (show _ = nI 6 from by decide) (J_1 6 (by omega))
