theorem m_nsl {x : Int32} (h : x < 0 ∨ ¬ x < 2) : ¬ (x = 0 ∨ x = 1) := fun q => q.elim (fun e => by subst e; exact absurd h (by decide)) (fun e => by subst e; exact absurd h (by decide))
theorem m_isl {w : Nat} (h : w < 2) : nI w = 0 ∨ nI w = 1 := by
  match w, h with
  | 0, _ => exact Or.inl rfl
  | 1, _ => exact Or.inr rfl
  | k + 2, h9 => exact absurd h9 (by omega)
theorem hw_X4_charactersOf_0 : (.constantLong RX4 137 (255) : Cond) ∈ wsX4_charactersOf := by decide +kernel
theorem hw_X4_charactersOf_1 : (.constantLong RX4 139 (33) : Cond) ∈ wsX4_charactersOf := by decide +kernel
theorem hw_X4_charactersOf_2 : (.constantLong RX4 141 (126) : Cond) ∈ wsX4_charactersOf := by decide +kernel
set_option maxHeartbeats 4000000 in
set_option maxRecDepth 100000 in
theorem c_X4_charactersOf (l : Launch) (D : va_G) (cI cC cZ cG : ClassId) (z : Int64) : Met l yX4_charactersOf wsX4_charactersOf ({ frames := 1, cells := 0, slots := 0, locals := 25 } : Room) (b_R D (b_T cI cC cZ cG) [] [.long z]) (vp_Si (fun r => r = m_ch 8 z 0)) 0 0 (fun _ => False) := by
  refine b_enterR (cc := cX4_charactersOf) (maxL := 5) (ret := (some .int)) (by decide) rfl (Nat.le_of_ble_eq_true rfl) ?_
  intro p e s m below meth c ls hx hb hr hml hown hts hlocks hP hK hl Q hQ
  have hown : s.vm.findClass RX4 = some m.cls := hown
  have hl : lv_has ls 5 [(0, .long z)] := hl
  refine lv_lload_n (pc := 0) hx hb dX4_charactersOf_0 rfl (lv_at hl 0 rfl) ?_
  refine lv_lstore_n (pc := 1) (lv' := [(2, .long z), (0, .long z)]) hx hb dX4_charactersOf_1 rfl hl (by decide) rfl (fun ls hl => ?_)
  refine lv_iconst (pc := 2) (v := 0) hx hb dX4_charactersOf_2 (by decide) ?_
  refine lv_istore (pc := 3) (lv' := [(4, .int 0), (2, .long z), (0, .long z)]) hx hb dX4_charactersOf_3 hl (by decide) rfl (fun ls hl => ?_)
  have loop_5 : ∀ (fu : Nat) (n1 : Nat) (l1 : Int64), (n1 ≤ 8) → (m_ch (8 - n1) l1 n1 = m_ch 8 z 0) → 8 - n1 < fu → ∀ (ls : Array Slot), lv_has ls 5 [(4, .int (nI n1)), (2, .long l1), (0, .long z)] → W p l e ({ frames := 1, cells := 0, slots := 0, locals := 25 } : Room) s m ([.long z] : List Value).toArray below meth c s.heap [] 0 0 Q (F0 m 5 ls []) := by
    intro fu
    induction fu with
    | zero => intro n1 l1 hn hv hfu ls hl; exact absurd hfu (Nat.not_lt_zero _)
    | succ fu ih_5 =>
      intro n1 l1 hn hv hfu ls hl
      refine lv_iload (pc := 5) hx hb dX4_charactersOf_5 (lv_at hl 0 rfl) ?_
      refine lv_bipush (pc := 7) (v := 8) hx hb dX4_charactersOf_7 (by decide) ?_
      refine lv_icmp_ge (pc := 9) (tgt := 40) hx hb dX4_charactersOf_9 (by decide) (fun c_1 => ?_) (fun c_1 => ?_)
      · skip
        have c_1 : 8 ≤ n1 := (nI_leI (a := 8) (b := n1) (by omega) (by omega)).mp c_1
        refine lv_lload_n (pc := 40) hx hb dX4_charactersOf_40 rfl (lv_at hl 1 rfl) ?_
        refine lv_lconst (pc := 41) (v := 0) hx hb dX4_charactersOf_41 (by decide) ?_
        refine W.lcmp (pc := 42) hx hb dX4_charactersOf_42 ?_
        refine lv_if_ne (pc := 43) (tgt := 51) hx hb dX4_charactersOf_43 (by decide) (fun c_2 => ?_) (fun c_2 => ?_)
        · skip
          have c_2 : ¬ (l1 = 0) := fun h9 => c_2 ((lg_cmp_eq l1 0).mpr h9)
          refine lv_iconst (pc := 51) (v := 0) hx hb dX4_charactersOf_51 (by decide) ?_
          subst hQ
          exact b_retR hx hb hr hlocks (by have e9 : n1 = 8 := (by omega); subst e9; rw [← hv, show 8 - 8 = 0 from rfl, m_ch, if_neg c_2]) dX4_charactersOf_52
        · skip
          have c_2 : l1 = 0 := (lg_cmp_eq l1 0).mp c_2
          refine lv_iload (pc := 46) hx hb dX4_charactersOf_46 (lv_at hl 0 rfl) ?_
          refine lv_goto (pc := 48) (tgt := 52) hx hb dX4_charactersOf_48 (by decide) ?_
          subst hQ
          exact b_retR hx hb hr hlocks (by have e9 : n1 = 8 := (by omega); subst e9; rw [← hv, show 8 - 8 = 0 from rfl, m_ch, if_pos c_2]) dX4_charactersOf_52
      · skip
        have c_1 : ¬ (8 ≤ n1) := fun h9 => c_1 ((nI_leI (a := 8) (b := n1) (by omega) (by omega)).mpr h9)
        refine lv_lload_n (pc := 12) hx hb dX4_charactersOf_12 rfl (lv_at hl 1 rfl) ?_
        refine lv_ldc2 (pc := 13) hx hb hown (hts _ hw_X4_charactersOf_0) dX4_charactersOf_13 ?_
        refine lv_land (pc := 16) hx hb dX4_charactersOf_16 ?_
        refine lv_ldc2 (pc := 17) hx hb hown (hts _ hw_X4_charactersOf_1) dX4_charactersOf_17 ?_
        refine lv_ldc2 (pc := 20) hx hb hown (hts _ hw_X4_charactersOf_2) dX4_charactersOf_20 ?_
        refine b_cR (pc := 23) (va_runS (As := [.long (l1 &&& 255), .long 33, .long 126]) (rest := []) ⟨hx, hb, hml, hown, hts⟩ (c_X4_in l D cI cC cZ cG (l1 &&& 255) 33 126) (va_cwS 3 hts gX4_charactersOf_X4_in rfl rfl rfl hyS_X4_in ⟨Nat.le_of_ble_eq_true rfl, Nat.le_of_ble_eq_true rfl⟩) (b_pRS (wc := []) hK hP [] rfl) rfl rfl hl.1 rfl (lv_room (Nat.le_of_ble_eq_true rfl)) dX4_charactersOf_23 ⟨Nat.zero_le _, Nat.zero_le _⟩) ?_
        refine lv_if_eq (pc := 26) (tgt := 40) hx hb dX4_charactersOf_26 (by decide) (fun c_3 => ?_) (fun c_3 => ?_)
        · skip
          have c_3 : ¬ (m_in (l1 &&& 255) 33 126) := b_i_0.mp c_3
          refine lv_lload_n (pc := 40) hx hb dX4_charactersOf_40 rfl (lv_at hl 1 rfl) ?_
          refine lv_lconst (pc := 41) (v := 0) hx hb dX4_charactersOf_41 (by decide) ?_
          refine W.lcmp (pc := 42) hx hb dX4_charactersOf_42 ?_
          refine lv_if_ne (pc := 43) (tgt := 51) hx hb dX4_charactersOf_43 (by decide) (fun c_4 => ?_) (fun c_4 => ?_)
          · skip
            have c_4 : ¬ (l1 = 0) := fun h9 => c_4 ((lg_cmp_eq l1 0).mpr h9)
            refine lv_iconst (pc := 51) (v := 0) hx hb dX4_charactersOf_51 (by decide) ?_
            subst hQ
            exact b_retR hx hb hr hlocks (by rw [← hv, m_ch_s (by omega), if_neg c_3, if_neg c_4]) dX4_charactersOf_52
          · skip
            have c_4 : l1 = 0 := (lg_cmp_eq l1 0).mp c_4
            refine lv_iload (pc := 46) hx hb dX4_charactersOf_46 (lv_at hl 0 rfl) ?_
            refine lv_goto (pc := 48) (tgt := 52) hx hb dX4_charactersOf_48 (by decide) ?_
            subst hQ
            exact b_retR hx hb hr hlocks (by rw [← hv, m_ch_s (by omega), if_neg c_3, if_pos c_4]) dX4_charactersOf_52
        · skip
          have c_3 : m_in (l1 &&& 255) 33 126 := Classical.not_not.mp (fun h9 => c_3 (b_i_0.mpr h9))
          refine lv_lload_n (pc := 29) hx hb dX4_charactersOf_29 rfl (lv_at hl 1 rfl) ?_
          refine lv_bipush (pc := 30) (v := 8) hx hb dX4_charactersOf_30 (by decide) ?_
          refine lv_lushr (pc := 32) hx hb dX4_charactersOf_32 rfl ?_
          refine lv_lstore_n (pc := 33) (lv' := [(2, .long ((l1.toUInt64 >>> ((8 : Int32).toInt64.toUInt64 &&& Int64.toUInt64 63)).toInt64)), (4, .int (nI n1)), (0, .long z)]) hx hb dX4_charactersOf_33 rfl hl (by decide) rfl (fun ls hl => ?_)
          refine lv_iinc (pc := 34) (v := nI (n1 + 1)) (lv' := [(4, .int (nI (n1 + 1))), (2, .long ((l1.toUInt64 >>> ((8 : Int32).toInt64.toUInt64 &&& Int64.toUInt64 63)).toInt64)), (0, .long z)]) hx hb dX4_charactersOf_34 hl (k := 1) rfl (nI_add n1 1) (by decide) rfl (fun ls hl => ?_)
          refine lv_goto (pc := 37) (tgt := 5) hx hb dX4_charactersOf_37 (by decide) ?_
          exact ih_5 (n1 + 1) ((l1.toUInt64 >>> ((8 : Int32).toInt64.toUInt64 &&& Int64.toUInt64 63)).toInt64) (by omega) (by rw [← hv, m_ch_s (by omega : n1 < 8), if_pos c_3]) (by omega) ls (lv_sub hl [0, 1, 2] rfl)
  exact loop_5 9 0 z (Nat.zero_le _) rfl (by omega) ls (lv_sub hl [0, 1, 2] rfl)
set_option maxHeartbeats 4000000 in
set_option maxRecDepth 100000 in
theorem c_X4_put_bad (l : Launch) (D : va_G) (cI cC cZ cG : ClassId) (md : Nat → Nat) (a : Nat → Int32) (kp : Nat → Int32) (hs : Nat → Int32) (hn : Nat) (sl : Nat → Int32) (iv : Nat → Int32) (tx : Nat → Int32) (tl : Nat) (sp : Nat) (nu : Int32) (z : Int64) (hbad : m_ch 8 z 0 = 0) : Met l yX4_put wsX4_put ({ frames := 2, cells := 0, slots := 0, locals := 49 } : Room) (b_R D (b_T cI cC cZ cG) [((md 0), .inr (4, [.ref (md 1), .ref (md 2), .ref (md 3), .int (nI hn), .ref (md 4), .ref (md 5), .ref (md 6), .int (nI tl), .int (nI sp), .int nu])), ((md 1), .inl (cI, 86, .inl a)), ((md 2), .inl (cI, 86, .inl kp)), ((md 3), .inl (cI, 516, .inl hs)), ((md 4), .inl (cI, 172, .inl sl)), ((md 5), .inl (cI, 2, .inl iv)), ((md 6), .inl (cI, 60, .inl tx))] [.ref (md 0), .long z]) (vp_Si (fun r => r = -2)) 0 0 (fun _ => False) := by
  refine b_enterR (cc := cX4_put) (maxL := 5) (ret := (some .int)) (by decide) rfl (Nat.le_of_ble_eq_true rfl) ?_
  intro p e s m below meth c ls hx hb hr hml hown hts hlocks hP hK hl Q hQ
  have hown : s.vm.findClass RX4 = some m.cls := hown
  have hl : lv_has ls 5 [(0, .ref (md 0)), (1, .long z)] := hl
  refine lv_lload_n (pc := 0) hx hb dX4_put_0 rfl (lv_at hl 1 rfl) ?_
  refine b_cR (pc := 1) (va_runS (As := [.long z]) (rest := []) ⟨hx, hb, hml, hown, hts⟩ (c_X4_charactersOf l D cI cC cZ cG z) (va_cwS 1 hts gX4_put_X4_charactersOf rfl rfl rfl hyS_X4_charactersOf ⟨Nat.le_of_ble_eq_true rfl, Nat.le_of_ble_eq_true rfl⟩) (b_pRS (wc := []) hK hP [] rfl) rfl rfl hl.1 rfl (lv_room (Nat.le_of_ble_eq_true rfl)) dX4_put_1 ⟨Nat.zero_le _, Nat.zero_le _⟩) ?_
  refine lv_istore_n (pc := 4) (lv' := [(3, .int (m_ch 8 z 0)), (0, .ref (md 0)), (1, .long z)]) hx hb dX4_put_4 rfl hl (by decide) rfl (fun ls hl => ?_)
  refine lv_iload_n (pc := 5) hx hb dX4_put_5 rfl (lv_at hl 0 rfl) ?_
  refine lv_if_ne (pc := 6) (tgt := 12) hx hb dX4_put_6 (by decide) (fun c_1 => ?_) (fun c_1 => ?_)
  · skip
    have c_1 : ¬ ((m_ch 8 z 0) = 0) := c_1
    exact absurd hbad c_1
  · skip
    have c_1 : (m_ch 8 z 0) = 0 := c_1
    refine lv_bipush (pc := 9) (v := (-2)) hx hb dX4_put_9 (by decide) ?_
    subst hQ
    exact b_retR hx hb hr hlocks (rfl) dX4_put_11
theorem hw_X4_put_many_0 : (.fieldLink RX4 119 "BeamTurnstilesModel" "textLong" "I" : Cond) ∈ wsX4_put := by decide +kernel
theorem hi_X4_put_many_X4 : ∀ w ∈ wsX40, w ∈ wsX4_put := by decide +kernel
set_option maxHeartbeats 4000000 in
set_option maxRecDepth 100000 in
theorem c_X4_put_many (l : Launch) (D : va_G) (cI cC cZ cG : ClassId) (md : Nat → Nat) (a : Nat → Int32) (kp : Nat → Int32) (hs : Nat → Int32) (hn : Nat) (sl : Nat → Int32) (iv : Nat → Int32) (tx : Nat → Int32) (tl : Nat) (sp : Nat) (nu : Int32) (z : Int64) (k : Nat) (htl : tl ≤ 60) (hk : m_ch 8 z 0 = nI k) (hk1 : 1 ≤ k ∧ k ≤ 8) (h6 : 60 < tl + k) : Met l yX4_put wsX4_put ({ frames := 2, cells := 0, slots := 0, locals := 49 } : Room) (b_R D (b_T cI cC cZ cG) [((md 0), .inr (4, [.ref (md 1), .ref (md 2), .ref (md 3), .int (nI hn), .ref (md 4), .ref (md 5), .ref (md 6), .int (nI tl), .int (nI sp), .int nu])), ((md 1), .inl (cI, 86, .inl a)), ((md 2), .inl (cI, 86, .inl kp)), ((md 3), .inl (cI, 516, .inl hs)), ((md 4), .inl (cI, 172, .inl sl)), ((md 5), .inl (cI, 2, .inl iv)), ((md 6), .inl (cI, 60, .inl tx))] [.ref (md 0), .long z]) (vp_Si (fun r => r = -4)) 0 0 (fun _ => False) := by
  refine b_enterR (cc := cX4_put) (maxL := 5) (ret := (some .int)) (by decide) rfl (Nat.le_of_ble_eq_true rfl) ?_
  intro p e s m below meth c ls hx hb hr hml hown hts hlocks hP hK hl Q hQ
  have hown : s.vm.findClass RX4 = some m.cls := hown
  have hl : lv_has ls 5 [(0, .ref (md 0)), (1, .long z)] := hl
  refine lv_lload_n (pc := 0) hx hb dX4_put_0 rfl (lv_at hl 1 rfl) ?_
  refine b_cR (pc := 1) (va_runS (As := [.long z]) (rest := []) ⟨hx, hb, hml, hown, hts⟩ (c_X4_charactersOf l D cI cC cZ cG z) (va_cwS 1 hts gX4_put_X4_charactersOf rfl rfl rfl hyS_X4_charactersOf ⟨Nat.le_of_ble_eq_true rfl, Nat.le_of_ble_eq_true rfl⟩) (b_pRS (wc := []) hK hP [] rfl) rfl rfl hl.1 rfl (lv_room (Nat.le_of_ble_eq_true rfl)) dX4_put_1 ⟨Nat.zero_le _, Nat.zero_le _⟩) ?_
  refine b_re hk ?_
  refine lv_istore_n (pc := 4) (lv' := [(3, .int (nI k)), (0, .ref (md 0)), (1, .long z)]) hx hb dX4_put_4 rfl hl (by decide) rfl (fun ls hl => ?_)
  refine lv_iload_n (pc := 5) hx hb dX4_put_5 rfl (lv_at hl 0 rfl) ?_
  refine lv_if_ne (pc := 6) (tgt := 12) hx hb dX4_put_6 (by decide) (fun c_1 => ?_) (fun c_1 => ?_)
  · skip
    have c_1 : ¬ (k = 0) := fun h9 => c_1 ((nI_eq (a := k) (b := 0) (by omega) (by omega)).mpr h9)
    refine lv_aload_n (pc := 12) hx hb dX4_put_12 rfl (lv_at hl 1 rfl) ?_
    refine va_get (pc := 13) (D := D) (ci := 4) (v := .int (nI tl)) (C := RX4) (T := TX4) (N := 10) hx hb hts hi_X4_put_many_X4 hown hK hP 0 rfl rfl 7 (by decide) (hts _ hw_X4_put_many_0) (fun _ h9 => h9) rfl dX4_put_13 ?_
    refine lv_iload_n (pc := 16) hx hb dX4_put_16 rfl (lv_at hl 0 rfl) ?_
    refine lv_iadd (pc := 17) hx hb dX4_put_17 ?_
    refine b_re (nI_add tl k) ?_
    refine lv_bipush (pc := 18) (v := 60) hx hb dX4_put_18 (by decide) ?_
    refine lv_icmp_le (pc := 20) (tgt := 26) hx hb dX4_put_20 (by decide) (fun c_2 => ?_) (fun c_2 => ?_)
    · skip
      have c_2 : tl + k ≤ 60 := (nI_leI (a := tl + k) (b := 60) (by omega) (by omega)).mp c_2
      exfalso; omega
    · skip
      have c_2 : ¬ (tl + k ≤ 60) := fun h9 => c_2 ((nI_leI (a := tl + k) (b := 60) (by omega) (by omega)).mpr h9)
      refine lv_bipush (pc := 23) (v := (-4)) hx hb dX4_put_23 (by decide) ?_
      subst hQ
      exact b_retR hx hb hr hlocks (rfl) dX4_put_25
  · skip
    have c_1 : k = 0 := (nI_eq (a := k) (b := 0) (by omega) (by omega)).mp c_1
    exfalso; omega
theorem hw_X4_put_ok_0 : (.fieldLink RX4 119 "BeamTurnstilesModel" "textLong" "I" : Cond) ∈ wsX4_put := by decide +kernel
theorem hi_X4_put_ok_X4 : ∀ w ∈ wsX40, w ∈ wsX4_put := by decide +kernel
theorem hw_X4_put_ok_2 : (.fieldLink RX4 25 "BeamTurnstilesModel" "text" "[I" : Cond) ∈ wsX4_put := by decide +kernel
theorem hw_X4_put_ok_3 : (.constantLong RX4 137 (255) : Cond) ∈ wsX4_put := by decide +kernel
set_option maxHeartbeats 4000000 in
set_option maxRecDepth 100000 in
theorem c_X4_put_ok (l : Launch) (D : va_G) (cI cC cZ cG : ClassId) (sz : Nat) (md : Nat → Nat) (a : Nat → Int32) (kp : Nat → Int32) (hs : Nat → Int32) (hn : Nat) (sl : Nat → Int32) (iv : Nat → Int32) (tx : Nat → Int32) (tl : Nat) (sp : Nat) (nu : Int32) (z : Int64) (k : Nat) (htl : tl ≤ 60) (hk : m_ch 8 z 0 = nI k) (hk1 : 1 ≤ k ∧ k ≤ 8) (h6 : tl + k ≤ 60) : Met l yX4_put wsX4_put ({ frames := 2, cells := 0, slots := 0, locals := 49 } : Room) (b_W D (b_T cI cC cZ cG) b_X0 [((md 0), .inr (4, [.ref (md 1), .ref (md 2), .ref (md 3), .int (nI hn), .ref (md 4), .ref (md 5), .ref (md 6), .int (nI tl), .int (nI sp), .int nu])), ((md 1), .inl (cI, 86, .inl a)), ((md 2), .inl (cI, 86, .inl kp)), ((md 3), .inl (cI, 516, .inl hs)), ((md 4), .inl (cI, 172, .inl sl)), ((md 5), .inl (cI, 2, .inl iv)), ((md 6), .inl (cI, 60, .inl tx))] sz [.ref (md 0), .long z]) (b_Qi D (nI (tl + k)) [((md 0), .inr (4, [.ref (md 1), .ref (md 2), .ref (md 3), .int (nI hn), .ref (md 4), .ref (md 5), .ref (md 6), .int (nI (tl + k)), .int (nI sp), .int nu])), ((md 1), .inl (cI, 86, .inl a)), ((md 2), .inl (cI, 86, .inl kp)), ((md 3), .inl (cI, 516, .inl hs)), ((md 4), .inl (cI, 172, .inl sl)), ((md 5), .inl (cI, 2, .inl iv)), ((md 6), .inl (cI, 60, .inl (m_pa z k tl tx k)))] (va_A [((md 0), .inr (4, [.ref (md 1), .ref (md 2), .ref (md 3), .int (nI hn), .ref (md 4), .ref (md 5), .ref (md 6), .int (nI tl), .int (nI sp), .int nu])), ((md 1), .inl (cI, 86, .inl a)), ((md 2), .inl (cI, 86, .inl kp)), ((md 3), .inl (cI, 516, .inl hs)), ((md 4), .inl (cI, 172, .inl sl)), ((md 5), .inl (cI, 2, .inl iv)), ((md 6), .inl (cI, 60, .inl tx))] sz)) 0 0 (va_A [((md 0), .inr (4, [.ref (md 1), .ref (md 2), .ref (md 3), .int (nI hn), .ref (md 4), .ref (md 5), .ref (md 6), .int (nI tl), .int (nI sp), .int nu])), ((md 1), .inl (cI, 86, .inl a)), ((md 2), .inl (cI, 86, .inl kp)), ((md 3), .inl (cI, 516, .inl hs)), ((md 4), .inl (cI, 172, .inl sl)), ((md 5), .inl (cI, 2, .inl iv)), ((md 6), .inl (cI, 60, .inl tx))] sz) := by
  refine b_enterW (Qc := fun A => b_Qi D (nI (tl + k)) [((md 0), .inr (4, [.ref (md 1), .ref (md 2), .ref (md 3), .int (nI hn), .ref (md 4), .ref (md 5), .ref (md 6), .int (nI (tl + k)), .int (nI sp), .int nu])), ((md 1), .inl (cI, 86, .inl a)), ((md 2), .inl (cI, 86, .inl kp)), ((md 3), .inl (cI, 516, .inl hs)), ((md 4), .inl (cI, 172, .inl sl)), ((md 5), .inl (cI, 2, .inl iv)), ((md 6), .inl (cI, 60, .inl (m_pa z k tl tx k)))] A) (cc := cX4_put) (maxL := 5) (ret := (some .int)) (by decide) rfl (Nat.le_of_ble_eq_true rfl) ?_
  intro p e s m below meth c ls A hx hb hr hml hown hts hlocks hname hP hK hD hA hS hX hl Q hQ
  have hown : s.vm.findClass RX4 = some m.cls := hown
  have hl : lv_has ls 5 [(0, .ref (md 0)), (1, .long z)] := hl
  refine lv_lload_n (pc := 0) hx hb dX4_put_0 rfl (lv_at hl 1 rfl) ?_
  refine b_cR (pc := 1) (va_runS (As := [.long z]) (rest := []) ⟨hx, hb, hml, hown, hts⟩ (c_X4_charactersOf l D cI cC cZ cG z) (va_cwS 1 hts gX4_put_X4_charactersOf rfl rfl rfl hyS_X4_charactersOf ⟨Nat.le_of_ble_eq_true rfl, Nat.le_of_ble_eq_true rfl⟩) (b_pRS (wc := []) hK hP [] rfl) rfl rfl hl.1 rfl (lv_room (Nat.le_of_ble_eq_true rfl)) dX4_put_1 ⟨Nat.zero_le _, Nat.zero_le _⟩) ?_
  refine b_re hk ?_
  refine lv_istore_n (pc := 4) (lv' := [(3, .int (nI k)), (0, .ref (md 0)), (1, .long z)]) hx hb dX4_put_4 rfl hl (by decide) rfl (fun ls hl => ?_)
  refine lv_iload_n (pc := 5) hx hb dX4_put_5 rfl (lv_at hl 0 rfl) ?_
  refine lv_if_ne (pc := 6) (tgt := 12) hx hb dX4_put_6 (by decide) (fun c_1 => ?_) (fun c_1 => ?_)
  · skip
    have c_1 : ¬ (k = 0) := fun h9 => c_1 ((nI_eq (a := k) (b := 0) (by omega) (by omega)).mpr h9)
    refine lv_aload_n (pc := 12) hx hb dX4_put_12 rfl (lv_at hl 1 rfl) ?_
    refine va_get (pc := 13) (D := D) (ci := 4) (v := .int (nI tl)) (C := RX4) (T := TX4) (N := 10) hx hb hts hi_X4_put_ok_X4 hown hK hP 0 rfl rfl 7 (by decide) (hts _ hw_X4_put_ok_0) (fun _ h9 => h9) rfl dX4_put_13 ?_
    refine lv_iload_n (pc := 16) hx hb dX4_put_16 rfl (lv_at hl 0 rfl) ?_
    refine lv_iadd (pc := 17) hx hb dX4_put_17 ?_
    refine b_re (nI_add tl k) ?_
    refine lv_bipush (pc := 18) (v := 60) hx hb dX4_put_18 (by decide) ?_
    refine lv_icmp_le (pc := 20) (tgt := 26) hx hb dX4_put_20 (by decide) (fun c_2 => ?_) (fun c_2 => ?_)
    · skip
      have c_2 : tl + k ≤ 60 := (nI_leI (a := tl + k) (b := 60) (by omega) (by omega)).mp c_2
      refine lv_iconst (pc := 26) (v := 0) hx hb dX4_put_26 (by decide) ?_
      refine lv_istore (pc := 27) (lv' := [(4, .int 0), (3, .int (nI k)), (0, .ref (md 0)), (1, .long z)]) hx hb dX4_put_27 hl (by decide) rfl (fun ls hl => ?_)
      have loop_29 : ∀ (fu : Nat) (i : Nat) (t1 : Nat → Int32), (i ≤ k) → (t1 = m_pa z k tl tx i) → k - i < fu → ∀ (H : Heap) (locs : List Loc), va_P D vwCl [((md 0), .inr (4, [.ref (md 1), .ref (md 2), .ref (md 3), .int (nI hn), .ref (md 4), .ref (md 5), .ref (md 6), .int (nI tl), .int (nI sp), .int nu])), ((md 1), .inl (cI, 86, .inl a)), ((md 2), .inl (cI, 86, .inl kp)), ((md 3), .inl (cI, 516, .inl hs)), ((md 4), .inl (cI, 172, .inl sl)), ((md 5), .inl (cI, 2, .inl iv)), ((md 6), .inl (cI, 60, .inl t1))] H → va_D A [((md 0), .inr (4, [.ref (md 1), .ref (md 2), .ref (md 3), .int (nI hn), .ref (md 4), .ref (md 5), .ref (md 6), .int (nI tl), .int (nI sp), .int nu])), ((md 1), .inl (cI, 86, .inl a)), ((md 2), .inl (cI, 86, .inl kp)), ((md 3), .inl (cI, 516, .inl hs)), ((md 4), .inl (cI, 172, .inl sl)), ((md 5), .inl (cI, 2, .inl iv)), ((md 6), .inl (cI, 60, .inl t1))] → va_S A s.heap H locs → ∀ (ls : Array Slot), lv_has ls 5 [(4, .int (nI i)), (3, .int (nI k)), (0, .ref (md 0)), (1, .long z)] → W p l e ({ frames := 2, cells := 0, slots := 0, locals := 49 } : Room) s m ([.ref (md 0), .long z] : List Value).toArray below meth c H locs 0 0 Q (F0 m 29 ls []) := by
        intro fu
        induction fu with
        | zero => intro i t1 hi ht1 hfu H locs hP hD hS ls hl; exact absurd hfu (Nat.not_lt_zero _)
        | succ fu ih_29 =>
          intro i t1 hi ht1 hfu H locs hP hD hS ls hl
          refine lv_iload (pc := 29) hx hb dX4_put_29 (lv_at hl 0 rfl) ?_
          refine lv_iload_n (pc := 31) hx hb dX4_put_31 rfl (lv_at hl 1 rfl) ?_
          refine lv_icmp_ge (pc := 32) (tgt := 69) hx hb dX4_put_32 (by decide) (fun c_3 => ?_) (fun c_3 => ?_)
          · skip
            have c_3 : k ≤ i := (nI_leI (a := k) (b := i) (by omega) (by omega)).mp c_3
            refine lv_aload_n (pc := 69) hx hb dX4_put_69 rfl (lv_at hl 2 rfl) ?_
            refine lv_dup (pc := 70) hx hb dX4_put_70 rfl ?_
            refine va_get (pc := 71) (D := D) (ci := 4) (v := .int (nI tl)) (C := RX4) (T := TX4) (N := 10) hx hb hts hi_X4_put_ok_X4 hown hK hP 0 rfl rfl 7 (by decide) (hts _ hw_X4_put_ok_0) (fun _ h9 => h9) rfl dX4_put_71 ?_
            refine lv_iload_n (pc := 74) hx hb dX4_put_74 rfl (lv_at hl 1 rfl) ?_
            refine lv_iadd (pc := 75) hx hb dX4_put_75 ?_
            refine b_re (nI_add tl k) ?_
            refine va_put (pc := 76) (D := D) (ci := 4) (v := .int (nI (tl + k))) (ty := .int) (C := RX4) (T := TX4) (N := 10) hx hb hts hi_X4_put_ok_X4 tyX4 tyX4_ok nmX4 hown hK hP hD hS 0 rfl rfl 7 (by decide) (hts _ hw_X4_put_ok_0) (fun _ h9 => h9) rfl (by decide +kernel) rfl rfl (Nat.le_of_ble_eq_true rfl) dX4_put_76 (fun H locs hP hD hS => ?_)
            have hP : va_P D vwCl [((md 0), .inr (4, [.ref (md 1), .ref (md 2), .ref (md 3), .int (nI hn), .ref (md 4), .ref (md 5), .ref (md 6), .int (nI (tl + k)), .int (nI sp), .int nu])), ((md 1), .inl (cI, 86, .inl a)), ((md 2), .inl (cI, 86, .inl kp)), ((md 3), .inl (cI, 516, .inl hs)), ((md 4), .inl (cI, 172, .inl sl)), ((md 5), .inl (cI, 2, .inl iv)), ((md 6), .inl (cI, 60, .inl t1))] H := hP
            have hD : va_D A [((md 0), .inr (4, [.ref (md 1), .ref (md 2), .ref (md 3), .int (nI hn), .ref (md 4), .ref (md 5), .ref (md 6), .int (nI (tl + k)), .int (nI sp), .int nu])), ((md 1), .inl (cI, 86, .inl a)), ((md 2), .inl (cI, 86, .inl kp)), ((md 3), .inl (cI, 516, .inl hs)), ((md 4), .inl (cI, 172, .inl sl)), ((md 5), .inl (cI, 2, .inl iv)), ((md 6), .inl (cI, 60, .inl t1))] := hD
            refine lv_aload_n (pc := 79) hx hb dX4_put_79 rfl (lv_at hl 2 rfl) ?_
            refine va_get (pc := 80) (D := D) (ci := 4) (v := .int (nI (tl + k))) (C := RX4) (T := TX4) (N := 10) hx hb hts hi_X4_put_ok_X4 hown hK hP 0 rfl rfl 7 (by decide) (hts _ hw_X4_put_ok_0) (fun _ h9 => h9) rfl dX4_put_80 ?_
            subst hQ
            exact b_retW hx hb hr hlocks hS (rfl) (by have e9 : i = k := (by omega); subst e9; rw [← ht1]; exact hP) dX4_put_83
          · skip
            have c_3 : ¬ (k ≤ i) := fun h9 => c_3 ((nI_leI (a := k) (b := i) (by omega) (by omega)).mpr h9)
            refine lv_aload_n (pc := 35) hx hb dX4_put_35 rfl (lv_at hl 2 rfl) ?_
            refine va_get (pc := 36) (D := D) (ci := 4) (v := .ref (md 6)) (C := RX4) (T := TX4) (N := 10) hx hb hts hi_X4_put_ok_X4 hown hK hP 0 rfl rfl 6 (by decide) (hts _ hw_X4_put_ok_2) (fun _ h9 => h9) rfl dX4_put_36 ?_
            refine lv_aload_n (pc := 39) hx hb dX4_put_39 rfl (lv_at hl 2 rfl) ?_
            refine va_get (pc := 40) (D := D) (ci := 4) (v := .int (nI tl)) (C := RX4) (T := TX4) (N := 10) hx hb hts hi_X4_put_ok_X4 hown hK hP 0 rfl rfl 7 (by decide) (hts _ hw_X4_put_ok_0) (fun _ h9 => h9) rfl dX4_put_40 ?_
            refine lv_iload (pc := 43) hx hb dX4_put_43 (lv_at hl 0 rfl) ?_
            refine lv_iadd (pc := 45) hx hb dX4_put_45 ?_
            refine b_re (nI_add tl i) ?_
            refine lv_lload_n (pc := 46) hx hb dX4_put_46 rfl (lv_at hl 3 rfl) ?_
            refine lv_bipush (pc := 47) (v := 8) hx hb dX4_put_47 (by decide) ?_
            refine lv_iload_n (pc := 49) hx hb dX4_put_49 rfl (lv_at hl 1 rfl) ?_
            refine lv_iconst (pc := 50) (v := 1) hx hb dX4_put_50 (by decide) ?_
            refine lv_isub (pc := 51) hx hb dX4_put_51 ?_
            refine b_re (pk_sub (a := k) (b := 1) (by omega)) ?_
            refine lv_iload (pc := 52) hx hb dX4_put_52 (lv_at hl 0 rfl) ?_
            refine lv_isub (pc := 54) hx hb dX4_put_54 ?_
            refine b_re (pk_sub (a := k - 1) (b := i) (by omega)) ?_
            refine lv_imul (pc := 55) hx hb dX4_put_55 ?_
            refine b_re (pk_mul 8 (k - 1 - i)) ?_
            refine lv_lushr (pc := 56) hx hb dX4_put_56 rfl ?_
            refine lv_ldc2 (pc := 57) hx hb hown (hts _ hw_X4_put_ok_3) dX4_put_57 ?_
            refine lv_land (pc := 60) hx hb dX4_put_60 ?_
            refine lv_l2i (pc := 61) hx hb dX4_put_61 rfl ?_
            refine b_iast (pc := 62) hx hb hK hP hD hS 6 0 rfl rfl (tl + i) rfl (by omega) (by decide) dX4_put_62 (fun H locs hP hD hS => ?_)
            obtain ⟨f_4, ef_4⟩ : ∃ z9 : Nat → Int32, z9 = upd t1 (tl + i) ((((z.toUInt64 >>> ((nI (8 * (k - 1 - i))).toInt64.toUInt64 &&& Int64.toUInt64 63)).toInt64) &&& 255).toInt32) := ⟨_, rfl⟩
            have hP : va_P D vwCl [((md 0), .inr (4, [.ref (md 1), .ref (md 2), .ref (md 3), .int (nI hn), .ref (md 4), .ref (md 5), .ref (md 6), .int (nI tl), .int (nI sp), .int nu])), ((md 1), .inl (cI, 86, .inl a)), ((md 2), .inl (cI, 86, .inl kp)), ((md 3), .inl (cI, 516, .inl hs)), ((md 4), .inl (cI, 172, .inl sl)), ((md 5), .inl (cI, 2, .inl iv)), ((md 6), .inl (cI, 60, .inl f_4))] H := by rw [ef_4]; exact hP
            have hD : va_D A [((md 0), .inr (4, [.ref (md 1), .ref (md 2), .ref (md 3), .int (nI hn), .ref (md 4), .ref (md 5), .ref (md 6), .int (nI tl), .int (nI sp), .int nu])), ((md 1), .inl (cI, 86, .inl a)), ((md 2), .inl (cI, 86, .inl kp)), ((md 3), .inl (cI, 516, .inl hs)), ((md 4), .inl (cI, 172, .inl sl)), ((md 5), .inl (cI, 2, .inl iv)), ((md 6), .inl (cI, 60, .inl f_4))] := by rw [ef_4]; exact hD
            refine lv_iinc (pc := 63) (v := nI (i + 1)) (lv' := [(4, .int (nI (i + 1))), (3, .int (nI k)), (0, .ref (md 0)), (1, .long z)]) hx hb dX4_put_63 hl (k := 0) rfl (nI_add i 1) (by decide) rfl (fun ls hl => ?_)
            refine lv_goto (pc := 66) (tgt := 29) hx hb dX4_put_66 (by decide) ?_
            exact ih_29 (i + 1) f_4 (by omega) (by rw [ef_4, ht1]; rfl) (by omega) _ _ (hP.sub [0, 1, 2, 3, 4, 5, 6] rfl) (hD.sub [0, 1, 2, 3, 4, 5, 6] (by decide) rfl) hS ls (lv_sub hl [0, 1, 2, 3] rfl)
      exact loop_29 (k + 1) 0 tx (Nat.zero_le _) rfl (by omega) _ _ (hP.sub [0, 1, 2, 3, 4, 5, 6] rfl) (hD.sub [0, 1, 2, 3, 4, 5, 6] (by decide) rfl) hS ls (lv_sub hl [0, 1, 2, 3] rfl)
    · skip
      have c_2 : ¬ (tl + k ≤ 60) := fun h9 => c_2 ((nI_leI (a := tl + k) (b := 60) (by omega) (by omega)).mpr h9)
      exfalso; omega
  · skip
    have c_1 : k = 0 := (nI_eq (a := k) (b := 0) (by omega) (by omega)).mp c_1
    exfalso; omega
theorem hw_X4_wipe_0 : (.fieldLink RX4 119 "BeamTurnstilesModel" "textLong" "I" : Cond) ∈ wsX4_wipe := by decide +kernel
theorem hi_X4_wipe_X4 : ∀ w ∈ wsX40, w ∈ wsX4_wipe := by decide +kernel
set_option maxHeartbeats 4000000 in
set_option maxRecDepth 100000 in
theorem c_X4_wipe (l : Launch) (D : va_G) (cI cC cZ cG : ClassId) (sz : Nat) (md : Nat → Nat) (a : Nat → Int32) (kp : Nat → Int32) (hs : Nat → Int32) (hn : Nat) (sl : Nat → Int32) (iv : Nat → Int32) (tx : Nat → Int32) (tl : Nat) (sp : Nat) (nu : Int32) : Met l yX4_wipe wsX4_wipe ({ frames := 0, cells := 0, slots := 0, locals := 0 } : Room) (b_W D (b_T cI cC cZ cG) b_X0 [((md 0), .inr (4, [.ref (md 1), .ref (md 2), .ref (md 3), .int (nI hn), .ref (md 4), .ref (md 5), .ref (md 6), .int (nI tl), .int (nI sp), .int nu])), ((md 1), .inl (cI, 86, .inl a)), ((md 2), .inl (cI, 86, .inl kp)), ((md 3), .inl (cI, 516, .inl hs)), ((md 4), .inl (cI, 172, .inl sl)), ((md 5), .inl (cI, 2, .inl iv)), ((md 6), .inl (cI, 60, .inl tx))] sz [.ref (md 0)]) (b_Qi D (nI tl) [((md 0), .inr (4, [.ref (md 1), .ref (md 2), .ref (md 3), .int (nI hn), .ref (md 4), .ref (md 5), .ref (md 6), .int (nI 0), .int (nI sp), .int nu])), ((md 1), .inl (cI, 86, .inl a)), ((md 2), .inl (cI, 86, .inl kp)), ((md 3), .inl (cI, 516, .inl hs)), ((md 4), .inl (cI, 172, .inl sl)), ((md 5), .inl (cI, 2, .inl iv)), ((md 6), .inl (cI, 60, .inl tx))] (va_A [((md 0), .inr (4, [.ref (md 1), .ref (md 2), .ref (md 3), .int (nI hn), .ref (md 4), .ref (md 5), .ref (md 6), .int (nI tl), .int (nI sp), .int nu])), ((md 1), .inl (cI, 86, .inl a)), ((md 2), .inl (cI, 86, .inl kp)), ((md 3), .inl (cI, 516, .inl hs)), ((md 4), .inl (cI, 172, .inl sl)), ((md 5), .inl (cI, 2, .inl iv)), ((md 6), .inl (cI, 60, .inl tx))] sz)) 0 0 (va_A [((md 0), .inr (4, [.ref (md 1), .ref (md 2), .ref (md 3), .int (nI hn), .ref (md 4), .ref (md 5), .ref (md 6), .int (nI tl), .int (nI sp), .int nu])), ((md 1), .inl (cI, 86, .inl a)), ((md 2), .inl (cI, 86, .inl kp)), ((md 3), .inl (cI, 516, .inl hs)), ((md 4), .inl (cI, 172, .inl sl)), ((md 5), .inl (cI, 2, .inl iv)), ((md 6), .inl (cI, 60, .inl tx))] sz) := by
  refine b_enterW (Qc := fun A => b_Qi D (nI tl) [((md 0), .inr (4, [.ref (md 1), .ref (md 2), .ref (md 3), .int (nI hn), .ref (md 4), .ref (md 5), .ref (md 6), .int (nI 0), .int (nI sp), .int nu])), ((md 1), .inl (cI, 86, .inl a)), ((md 2), .inl (cI, 86, .inl kp)), ((md 3), .inl (cI, 516, .inl hs)), ((md 4), .inl (cI, 172, .inl sl)), ((md 5), .inl (cI, 2, .inl iv)), ((md 6), .inl (cI, 60, .inl tx))] A) (cc := cX4_wipe) (maxL := 2) (ret := (some .int)) (by decide) rfl (Nat.le_of_ble_eq_true rfl) ?_
  intro p e s m below meth c ls A hx hb hr hml hown hts hlocks hname hP hK hD hA hS hX hl Q hQ
  have hown : s.vm.findClass RX4 = some m.cls := hown
  have hl : lv_has ls 2 [(0, .ref (md 0))] := hl
  refine lv_aload_n (pc := 0) hx hb dX4_wipe_0 rfl (lv_at hl 0 rfl) ?_
  refine va_get (pc := 1) (D := D) (ci := 4) (v := .int (nI tl)) (C := RX4) (T := TX4) (N := 10) hx hb hts hi_X4_wipe_X4 hown hK hP 0 rfl rfl 7 (by decide) (hts _ hw_X4_wipe_0) (fun _ h9 => h9) rfl dX4_wipe_1 ?_
  refine lv_istore_n (pc := 4) (lv' := [(1, .int (nI tl)), (0, .ref (md 0))]) hx hb dX4_wipe_4 rfl hl (by decide) rfl (fun ls hl => ?_)
  refine lv_aload_n (pc := 5) hx hb dX4_wipe_5 rfl (lv_at hl 1 rfl) ?_
  refine lv_iconst (pc := 6) (v := 0) hx hb dX4_wipe_6 (by decide) ?_
  refine va_put (pc := 7) (D := D) (ci := 4) (v := .int 0) (ty := .int) (C := RX4) (T := TX4) (N := 10) hx hb hts hi_X4_wipe_X4 tyX4 tyX4_ok nmX4 hown hK hP hD hS 0 rfl rfl 7 (by decide) (hts _ hw_X4_wipe_0) (fun _ h9 => h9) rfl (by decide +kernel) rfl rfl (Nat.le_of_ble_eq_true rfl) dX4_wipe_7 (fun H locs hP hD hS => ?_)
  have hP : va_P D vwCl [((md 0), .inr (4, [.ref (md 1), .ref (md 2), .ref (md 3), .int (nI hn), .ref (md 4), .ref (md 5), .ref (md 6), .int 0, .int (nI sp), .int nu])), ((md 1), .inl (cI, 86, .inl a)), ((md 2), .inl (cI, 86, .inl kp)), ((md 3), .inl (cI, 516, .inl hs)), ((md 4), .inl (cI, 172, .inl sl)), ((md 5), .inl (cI, 2, .inl iv)), ((md 6), .inl (cI, 60, .inl tx))] H := hP
  have hD : va_D A [((md 0), .inr (4, [.ref (md 1), .ref (md 2), .ref (md 3), .int (nI hn), .ref (md 4), .ref (md 5), .ref (md 6), .int 0, .int (nI sp), .int nu])), ((md 1), .inl (cI, 86, .inl a)), ((md 2), .inl (cI, 86, .inl kp)), ((md 3), .inl (cI, 516, .inl hs)), ((md 4), .inl (cI, 172, .inl sl)), ((md 5), .inl (cI, 2, .inl iv)), ((md 6), .inl (cI, 60, .inl tx))] := hD
  refine lv_iload_n (pc := 10) hx hb dX4_wipe_10 rfl (lv_at hl 0 rfl) ?_
  subst hQ
  exact b_retW hx hb hr hlocks hS (rfl) (hP) dX4_wipe_11
set_option maxHeartbeats 4000000 in
set_option maxRecDepth 100000 in
theorem c_X4_read_bad (l : Launch) (D : va_G) (cI cC cZ cG : ClassId) (sz : Nat) (md : Nat → Nat) (a : Nat → Int32) (kp : Nat → Int32) (hs : Nat → Int32) (hn : Nat) (sl : Nat → Int32) (iv : Nat → Int32) (tx : Nat → Int32) (tl : Nat) (sp : Nat) (nu : Int32) (htl : tl ≤ 60) (hbad : ¬ (m_ftl tx tl (tl + 1) 0 nu).1 = -6) : Met l yX4_read wsX4_read ({ frames := 6, cells := 0, slots := 0, locals := 130 } : Room) (b_W D (b_T cI cC cZ cG) b_X0 [((md 0), .inr (4, [.ref (md 1), .ref (md 2), .ref (md 3), .int (nI hn), .ref (md 4), .ref (md 5), .ref (md 6), .int (nI tl), .int (nI sp), .int nu])), ((md 1), .inl (cI, 86, .inl a)), ((md 2), .inl (cI, 86, .inl kp)), ((md 3), .inl (cI, 516, .inl hs)), ((md 4), .inl (cI, 172, .inl sl)), ((md 5), .inl (cI, 2, .inl iv)), ((md 6), .inl (cI, 60, .inl tx))] sz [.ref (md 0)]) (b_Qi D (-3) [((md 0), .inr (4, [.ref (md 1), .ref (md 2), .ref (md 3), .int (nI hn), .ref (md 4), .ref (md 5), .ref (md 6), .int (nI tl), .int (nI ((m_ftl tx tl (tl + 1) 0 nu).2.1)), .int ((m_ftl tx tl (tl + 1) 0 nu).2.2)])), ((md 1), .inl (cI, 86, .inl a)), ((md 2), .inl (cI, 86, .inl kp)), ((md 3), .inl (cI, 516, .inl hs)), ((md 4), .inl (cI, 172, .inl sl)), ((md 5), .inl (cI, 2, .inl iv)), ((md 6), .inl (cI, 60, .inl tx))] (va_A [((md 0), .inr (4, [.ref (md 1), .ref (md 2), .ref (md 3), .int (nI hn), .ref (md 4), .ref (md 5), .ref (md 6), .int (nI tl), .int (nI sp), .int nu])), ((md 1), .inl (cI, 86, .inl a)), ((md 2), .inl (cI, 86, .inl kp)), ((md 3), .inl (cI, 516, .inl hs)), ((md 4), .inl (cI, 172, .inl sl)), ((md 5), .inl (cI, 2, .inl iv)), ((md 6), .inl (cI, 60, .inl tx))] sz)) 0 0 (va_A [((md 0), .inr (4, [.ref (md 1), .ref (md 2), .ref (md 3), .int (nI hn), .ref (md 4), .ref (md 5), .ref (md 6), .int (nI tl), .int (nI sp), .int nu])), ((md 1), .inl (cI, 86, .inl a)), ((md 2), .inl (cI, 86, .inl kp)), ((md 3), .inl (cI, 516, .inl hs)), ((md 4), .inl (cI, 172, .inl sl)), ((md 5), .inl (cI, 2, .inl iv)), ((md 6), .inl (cI, 60, .inl tx))] sz) := by
  refine b_enterW (Qc := fun A => b_Qi D (-3) [((md 0), .inr (4, [.ref (md 1), .ref (md 2), .ref (md 3), .int (nI hn), .ref (md 4), .ref (md 5), .ref (md 6), .int (nI tl), .int (nI ((m_ftl tx tl (tl + 1) 0 nu).2.1)), .int ((m_ftl tx tl (tl + 1) 0 nu).2.2)])), ((md 1), .inl (cI, 86, .inl a)), ((md 2), .inl (cI, 86, .inl kp)), ((md 3), .inl (cI, 516, .inl hs)), ((md 4), .inl (cI, 172, .inl sl)), ((md 5), .inl (cI, 2, .inl iv)), ((md 6), .inl (cI, 60, .inl tx))] A) (cc := cX4_read) (maxL := 2) (ret := (some .int)) (by decide) rfl (Nat.le_of_ble_eq_true rfl) ?_
  intro p e s m below meth c ls A hx hb hr hml hown hts hlocks hname hP hK hD hA hS hX hl Q hQ
  have hown : s.vm.findClass RX4 = some m.cls := hown
  have hl : lv_has ls 2 [(0, .ref (md 0))] := hl
  refine lv_aload_n (pc := 0) hx hb dX4_read_0 rfl (lv_at hl 0 rfl) ?_
  refine b_cW (pc := 1) (w1 := [((md 0), .inr (4, [.ref (md 1), .ref (md 2), .ref (md 3), .int (nI hn), .ref (md 4), .ref (md 5), .ref (md 6), .int (nI tl), .int (nI ((m_ftl tx tl (tl + 1) 0 nu).2.1)), .int ((m_ftl tx tl (tl + 1) 0 nu).2.2)])), ((md 1), .inl (cI, 86, .inl a)), ((md 2), .inl (cI, 86, .inl kp)), ((md 3), .inl (cI, 516, .inl hs)), ((md 4), .inl (cI, 172, .inl sl)), ((md 5), .inl (cI, 2, .inl iv)), ((md 6), .inl (cI, 60, .inl tx))]) (va_runV (As := []) (rest := []) ⟨hx, hb, hml, hown, hts⟩ (c_X4_fault l D cI cC cZ cG s.heap.size md a kp hs hn sl iv tx tl sp nu (by first | omega | assumption)) (cwV 0 hts gX4_read_X4_fault rfl rfl rfl hy_X4_fault ⟨Nat.le_of_ble_eq_true rfl, Nat.le_of_ble_eq_true rfl⟩) (b_pWV (wc := [((md 0), .inr (4, [.ref (md 1), .ref (md 2), .ref (md 3), .int (nI hn), .ref (md 4), .ref (md 5), .ref (md 6), .int (nI tl), .int (nI sp), .int nu])), ((md 1), .inl (cI, 86, .inl a)), ((md 2), .inl (cI, 86, .inl kp)), ((md 3), .inl (cI, 516, .inl hs)), ((md 4), .inl (cI, 172, .inl sl)), ((md 5), .inl (cI, 2, .inl iv)), ((md 6), .inl (cI, 60, .inl tx))]) hK hP hD b_Xok_0 [0, 1, 2, 3, 4, 5, 6] rfl (by decide) rfl trivial (ci := 4) (q0 := 0) rfl rfl) rfl rfl hl.1 rfl (lv_room (Nat.le_of_ble_eq_true rfl)) dX4_read_1 ⟨Nat.zero_le _, Nat.zero_le _⟩) hP hD hS hA [0, 1, 2, 3, 4, 5, 6] rfl rfl (fun H locs hP hD hS => ?_)
  have hP : va_P D vwCl [((md 0), .inr (4, [.ref (md 1), .ref (md 2), .ref (md 3), .int (nI hn), .ref (md 4), .ref (md 5), .ref (md 6), .int (nI tl), .int (nI ((m_ftl tx tl (tl + 1) 0 nu).2.1)), .int ((m_ftl tx tl (tl + 1) 0 nu).2.2)])), ((md 1), .inl (cI, 86, .inl a)), ((md 2), .inl (cI, 86, .inl kp)), ((md 3), .inl (cI, 516, .inl hs)), ((md 4), .inl (cI, 172, .inl sl)), ((md 5), .inl (cI, 2, .inl iv)), ((md 6), .inl (cI, 60, .inl tx))] H := hP
  have hD : va_D A [((md 0), .inr (4, [.ref (md 1), .ref (md 2), .ref (md 3), .int (nI hn), .ref (md 4), .ref (md 5), .ref (md 6), .int (nI tl), .int (nI ((m_ftl tx tl (tl + 1) 0 nu).2.1)), .int ((m_ftl tx tl (tl + 1) 0 nu).2.2)])), ((md 1), .inl (cI, 86, .inl a)), ((md 2), .inl (cI, 86, .inl kp)), ((md 3), .inl (cI, 516, .inl hs)), ((md 4), .inl (cI, 172, .inl sl)), ((md 5), .inl (cI, 2, .inl iv)), ((md 6), .inl (cI, 60, .inl tx))] := hD
  refine lv_bipush (pc := 4) (v := (-6)) hx hb dX4_read_4 (by decide) ?_
  refine lv_icmp_eq (pc := 6) (tgt := 12) hx hb dX4_read_6 (by decide) (fun c_1 => ?_) (fun c_1 => ?_)
  · skip
    have c_1 : ((m_ftl tx tl (tl + 1) 0 nu).1) = (-6) := c_1
    exact absurd c_1 hbad
  · skip
    have c_1 : ¬ (((m_ftl tx tl (tl + 1) 0 nu).1) = (-6)) := c_1
    refine lv_bipush (pc := 9) (v := (-3)) hx hb dX4_read_9 (by decide) ?_
    subst hQ
    exact b_retW hx hb hr hlocks hS (rfl) (hP) dX4_read_11
theorem hw_X4_read_ok_0 : (.fieldLink RX4 119 "BeamTurnstilesModel" "textLong" "I" : Cond) ∈ wsX4_read := by decide +kernel
theorem hi_X4_read_ok_X4 : ∀ w ∈ wsX40, w ∈ wsX4_read := by decide +kernel
set_option maxHeartbeats 4000000 in
set_option maxRecDepth 100000 in
theorem c_X4_read_ok (l : Launch) (D : va_G) (cI cC cZ cG : ClassId) (sz : Nat) (md : Nat → Nat) (a : Nat → Int32) (kp : Nat → Int32) (hs : Nat → Int32) (hn : Nat) (sl : Nat → Int32) (iv : Nat → Int32) (tx : Nat → Int32) (tl : Nat) (sp : Nat) (nu : Int32) (htl : tl ≤ 60) (hl6 : hn ≤ 6) (ht : (m_ftl tx tl (tl + 1) 0 nu).1 = -6) : Met l yX4_read wsX4_read ({ frames := 6, cells := 0, slots := 0, locals := 135 } : Room) (b_W D (b_T cI cC cZ cG) b_X0 [((md 0), .inr (4, [.ref (md 1), .ref (md 2), .ref (md 3), .int (nI hn), .ref (md 4), .ref (md 5), .ref (md 6), .int (nI tl), .int (nI sp), .int nu])), ((md 1), .inl (cI, 86, .inl a)), ((md 2), .inl (cI, 86, .inl kp)), ((md 3), .inl (cI, 516, .inl hs)), ((md 4), .inl (cI, 172, .inl sl)), ((md 5), .inl (cI, 2, .inl iv)), ((md 6), .inl (cI, 60, .inl tx))] sz [.ref (md 0)]) (b_Qi D ((m_rdx tx tl nu a).2.1) [((md 0), .inr (4, [.ref (md 1), .ref (md 2), .ref (md 3), .int (nI (h_sz hn)), .ref (md 4), .ref (md 5), .ref (md 6), .int (nI 0), .int (nI ((m_rdx tx tl nu a).2.2.1)), .int ((m_rdx tx tl nu a).2.2.2)])), ((md 1), .inl (cI, 86, .inl ((m_rdx tx tl nu a).1))), ((md 2), .inl (cI, 86, .inl kp)), ((md 3), .inl (cI, 516, .inl (m_hs a hs hn))), ((md 4), .inl (cI, 172, .inl sl)), ((md 5), .inl (cI, 2, .inl iv)), ((md 6), .inl (cI, 60, .inl tx))] (va_A [((md 0), .inr (4, [.ref (md 1), .ref (md 2), .ref (md 3), .int (nI hn), .ref (md 4), .ref (md 5), .ref (md 6), .int (nI tl), .int (nI sp), .int nu])), ((md 1), .inl (cI, 86, .inl a)), ((md 2), .inl (cI, 86, .inl kp)), ((md 3), .inl (cI, 516, .inl hs)), ((md 4), .inl (cI, 172, .inl sl)), ((md 5), .inl (cI, 2, .inl iv)), ((md 6), .inl (cI, 60, .inl tx))] sz)) 0 0 (va_A [((md 0), .inr (4, [.ref (md 1), .ref (md 2), .ref (md 3), .int (nI hn), .ref (md 4), .ref (md 5), .ref (md 6), .int (nI tl), .int (nI sp), .int nu])), ((md 1), .inl (cI, 86, .inl a)), ((md 2), .inl (cI, 86, .inl kp)), ((md 3), .inl (cI, 516, .inl hs)), ((md 4), .inl (cI, 172, .inl sl)), ((md 5), .inl (cI, 2, .inl iv)), ((md 6), .inl (cI, 60, .inl tx))] sz) := by
  refine b_enterW (Qc := fun A => b_Qi D ((m_rdx tx tl nu a).2.1) [((md 0), .inr (4, [.ref (md 1), .ref (md 2), .ref (md 3), .int (nI (h_sz hn)), .ref (md 4), .ref (md 5), .ref (md 6), .int (nI 0), .int (nI ((m_rdx tx tl nu a).2.2.1)), .int ((m_rdx tx tl nu a).2.2.2)])), ((md 1), .inl (cI, 86, .inl ((m_rdx tx tl nu a).1))), ((md 2), .inl (cI, 86, .inl kp)), ((md 3), .inl (cI, 516, .inl (m_hs a hs hn))), ((md 4), .inl (cI, 172, .inl sl)), ((md 5), .inl (cI, 2, .inl iv)), ((md 6), .inl (cI, 60, .inl tx))] A) (cc := cX4_read) (maxL := 2) (ret := (some .int)) (by decide) rfl (Nat.le_of_ble_eq_true rfl) ?_
  intro p e s m below meth c ls A hx hb hr hml hown hts hlocks hname hP hK hD hA hS hX hl Q hQ
  have hown : s.vm.findClass RX4 = some m.cls := hown
  have hl : lv_has ls 2 [(0, .ref (md 0))] := hl
  refine lv_aload_n (pc := 0) hx hb dX4_read_0 rfl (lv_at hl 0 rfl) ?_
  refine b_cW (pc := 1) (w1 := [((md 0), .inr (4, [.ref (md 1), .ref (md 2), .ref (md 3), .int (nI hn), .ref (md 4), .ref (md 5), .ref (md 6), .int (nI tl), .int (nI ((m_ftl tx tl (tl + 1) 0 nu).2.1)), .int ((m_ftl tx tl (tl + 1) 0 nu).2.2)])), ((md 1), .inl (cI, 86, .inl a)), ((md 2), .inl (cI, 86, .inl kp)), ((md 3), .inl (cI, 516, .inl hs)), ((md 4), .inl (cI, 172, .inl sl)), ((md 5), .inl (cI, 2, .inl iv)), ((md 6), .inl (cI, 60, .inl tx))]) (va_runV (As := []) (rest := []) ⟨hx, hb, hml, hown, hts⟩ (c_X4_fault l D cI cC cZ cG s.heap.size md a kp hs hn sl iv tx tl sp nu (by first | omega | assumption)) (cwV 0 hts gX4_read_X4_fault rfl rfl rfl hy_X4_fault ⟨Nat.le_of_ble_eq_true rfl, Nat.le_of_ble_eq_true rfl⟩) (b_pWV (wc := [((md 0), .inr (4, [.ref (md 1), .ref (md 2), .ref (md 3), .int (nI hn), .ref (md 4), .ref (md 5), .ref (md 6), .int (nI tl), .int (nI sp), .int nu])), ((md 1), .inl (cI, 86, .inl a)), ((md 2), .inl (cI, 86, .inl kp)), ((md 3), .inl (cI, 516, .inl hs)), ((md 4), .inl (cI, 172, .inl sl)), ((md 5), .inl (cI, 2, .inl iv)), ((md 6), .inl (cI, 60, .inl tx))]) hK hP hD b_Xok_0 [0, 1, 2, 3, 4, 5, 6] rfl (by decide) rfl trivial (ci := 4) (q0 := 0) rfl rfl) rfl rfl hl.1 rfl (lv_room (Nat.le_of_ble_eq_true rfl)) dX4_read_1 ⟨Nat.zero_le _, Nat.zero_le _⟩) hP hD hS hA [0, 1, 2, 3, 4, 5, 6] rfl rfl (fun H locs hP hD hS => ?_)
  have hP : va_P D vwCl [((md 0), .inr (4, [.ref (md 1), .ref (md 2), .ref (md 3), .int (nI hn), .ref (md 4), .ref (md 5), .ref (md 6), .int (nI tl), .int (nI ((m_ftl tx tl (tl + 1) 0 nu).2.1)), .int ((m_ftl tx tl (tl + 1) 0 nu).2.2)])), ((md 1), .inl (cI, 86, .inl a)), ((md 2), .inl (cI, 86, .inl kp)), ((md 3), .inl (cI, 516, .inl hs)), ((md 4), .inl (cI, 172, .inl sl)), ((md 5), .inl (cI, 2, .inl iv)), ((md 6), .inl (cI, 60, .inl tx))] H := hP
  have hD : va_D A [((md 0), .inr (4, [.ref (md 1), .ref (md 2), .ref (md 3), .int (nI hn), .ref (md 4), .ref (md 5), .ref (md 6), .int (nI tl), .int (nI ((m_ftl tx tl (tl + 1) 0 nu).2.1)), .int ((m_ftl tx tl (tl + 1) 0 nu).2.2)])), ((md 1), .inl (cI, 86, .inl a)), ((md 2), .inl (cI, 86, .inl kp)), ((md 3), .inl (cI, 516, .inl hs)), ((md 4), .inl (cI, 172, .inl sl)), ((md 5), .inl (cI, 2, .inl iv)), ((md 6), .inl (cI, 60, .inl tx))] := hD
  refine lv_bipush (pc := 4) (v := (-6)) hx hb dX4_read_4 (by decide) ?_
  refine lv_icmp_eq (pc := 6) (tgt := 12) hx hb dX4_read_6 (by decide) (fun c_1 => ?_) (fun c_1 => ?_)
  · skip
    have c_1 : ((m_ftl tx tl (tl + 1) 0 nu).1) = (-6) := c_1
    refine lv_aload_n (pc := 12) hx hb dX4_read_12 rfl (lv_at hl 0 rfl) ?_
    refine b_cV (pc := 13) (w1 := [((md 0), .inr (4, [.ref (md 1), .ref (md 2), .ref (md 3), .int (nI (h_sz hn)), .ref (md 4), .ref (md 5), .ref (md 6), .int (nI tl), .int (nI ((m_ftl tx tl (tl + 1) 0 nu).2.1)), .int ((m_ftl tx tl (tl + 1) 0 nu).2.2)])), ((md 1), .inl (cI, 86, .inl a)), ((md 2), .inl (cI, 86, .inl kp)), ((md 3), .inl (cI, 516, .inl (m_hs a hs hn))), ((md 4), .inl (cI, 172, .inl sl)), ((md 5), .inl (cI, 2, .inl iv)), ((md 6), .inl (cI, 60, .inl tx))]) (va_runV (As := []) (rest := []) ⟨hx, hb, hml, hown, hts⟩ (c_X4_changes l D cI cC cZ cG H.size md a kp hs hn sl iv tx tl ((m_ftl tx tl (tl + 1) 0 nu).2.1) ((m_ftl tx tl (tl + 1) 0 nu).2.2) (by first | omega | assumption)) (cwV 0 hts gX4_read_X4_changes rfl rfl rfl hy_X4_changes ⟨Nat.le_of_ble_eq_true rfl, Nat.le_of_ble_eq_true rfl⟩) (b_pWV (wc := [((md 0), .inr (4, [.ref (md 1), .ref (md 2), .ref (md 3), .int (nI hn), .ref (md 4), .ref (md 5), .ref (md 6), .int (nI tl), .int (nI ((m_ftl tx tl (tl + 1) 0 nu).2.1)), .int ((m_ftl tx tl (tl + 1) 0 nu).2.2)])), ((md 1), .inl (cI, 86, .inl a)), ((md 2), .inl (cI, 86, .inl kp)), ((md 3), .inl (cI, 516, .inl hs)), ((md 4), .inl (cI, 172, .inl sl)), ((md 5), .inl (cI, 2, .inl iv)), ((md 6), .inl (cI, 60, .inl tx))]) hK hP hD b_Xok_0 [0, 1, 2, 3, 4, 5, 6] rfl (by decide) rfl trivial (ci := 4) (q0 := 0) rfl rfl) rfl rfl hl.1 rfl (lv_room (Nat.le_of_ble_eq_true rfl)) dX4_read_13 ⟨Nat.zero_le _, Nat.zero_le _⟩) hP hD hS hA [0, 1, 2, 3, 4, 5, 6] rfl rfl (fun H locs hP hD hS => ?_)
    have hP : va_P D vwCl [((md 0), .inr (4, [.ref (md 1), .ref (md 2), .ref (md 3), .int (nI (h_sz hn)), .ref (md 4), .ref (md 5), .ref (md 6), .int (nI tl), .int (nI ((m_ftl tx tl (tl + 1) 0 nu).2.1)), .int ((m_ftl tx tl (tl + 1) 0 nu).2.2)])), ((md 1), .inl (cI, 86, .inl a)), ((md 2), .inl (cI, 86, .inl kp)), ((md 3), .inl (cI, 516, .inl (m_hs a hs hn))), ((md 4), .inl (cI, 172, .inl sl)), ((md 5), .inl (cI, 2, .inl iv)), ((md 6), .inl (cI, 60, .inl tx))] H := hP
    have hD : va_D A [((md 0), .inr (4, [.ref (md 1), .ref (md 2), .ref (md 3), .int (nI (h_sz hn)), .ref (md 4), .ref (md 5), .ref (md 6), .int (nI tl), .int (nI ((m_ftl tx tl (tl + 1) 0 nu).2.1)), .int ((m_ftl tx tl (tl + 1) 0 nu).2.2)])), ((md 1), .inl (cI, 86, .inl a)), ((md 2), .inl (cI, 86, .inl kp)), ((md 3), .inl (cI, 516, .inl (m_hs a hs hn))), ((md 4), .inl (cI, 172, .inl sl)), ((md 5), .inl (cI, 2, .inl iv)), ((md 6), .inl (cI, 60, .inl tx))] := hD
    obtain ⟨f_2, ef_2⟩ : ∃ z9 : Nat → Int32, z9 = m_hs a hs hn := ⟨_, rfl⟩
    have hP : va_P D vwCl [((md 0), .inr (4, [.ref (md 1), .ref (md 2), .ref (md 3), .int (nI (h_sz hn)), .ref (md 4), .ref (md 5), .ref (md 6), .int (nI tl), .int (nI ((m_ftl tx tl (tl + 1) 0 nu).2.1)), .int ((m_ftl tx tl (tl + 1) 0 nu).2.2)])), ((md 1), .inl (cI, 86, .inl a)), ((md 2), .inl (cI, 86, .inl kp)), ((md 3), .inl (cI, 516, .inl f_2)), ((md 4), .inl (cI, 172, .inl sl)), ((md 5), .inl (cI, 2, .inl iv)), ((md 6), .inl (cI, 60, .inl tx))] H := by rw [ef_2]; exact hP
    have hD : va_D A [((md 0), .inr (4, [.ref (md 1), .ref (md 2), .ref (md 3), .int (nI (h_sz hn)), .ref (md 4), .ref (md 5), .ref (md 6), .int (nI tl), .int (nI ((m_ftl tx tl (tl + 1) 0 nu).2.1)), .int ((m_ftl tx tl (tl + 1) 0 nu).2.2)])), ((md 1), .inl (cI, 86, .inl a)), ((md 2), .inl (cI, 86, .inl kp)), ((md 3), .inl (cI, 516, .inl f_2)), ((md 4), .inl (cI, 172, .inl sl)), ((md 5), .inl (cI, 2, .inl iv)), ((md 6), .inl (cI, 60, .inl tx))] := by rw [ef_2]; exact hD
    refine lv_aload_n (pc := 16) hx hb dX4_read_16 rfl (lv_at hl 0 rfl) ?_
    refine b_cW (pc := 17) (w1 := [((md 0), .inr (4, [.ref (md 1), .ref (md 2), .ref (md 3), .int (nI (h_sz hn)), .ref (md 4), .ref (md 5), .ref (md 6), .int (nI tl), .int (nI ((m_rd tx tl (tl + 1) 0 ((m_ftl tx tl (tl + 1) 0 nu).2.2) a 0).2.2.1)), .int ((m_rd tx tl (tl + 1) 0 ((m_ftl tx tl (tl + 1) 0 nu).2.2) a 0).2.2.2)])), ((md 1), .inl (cI, 86, .inl ((m_rd tx tl (tl + 1) 0 ((m_ftl tx tl (tl + 1) 0 nu).2.2) a 0).1))), ((md 2), .inl (cI, 86, .inl kp)), ((md 3), .inl (cI, 516, .inl f_2)), ((md 4), .inl (cI, 172, .inl sl)), ((md 5), .inl (cI, 2, .inl iv)), ((md 6), .inl (cI, 60, .inl tx))]) (va_runV (As := []) (rest := []) ⟨hx, hb, hml, hown, hts⟩ (c_X4_reads l D cI cC cZ cG H.size md a kp f_2 (h_sz hn) sl iv tx tl ((m_ftl tx tl (tl + 1) 0 nu).2.1) ((m_ftl tx tl (tl + 1) 0 nu).2.2) (by first | omega | assumption) ((m_ftl_nu (tl + 1) 0 _ nu).trans ht)) (cwV 0 hts gX4_read_X4_reads rfl rfl rfl hy_X4_reads ⟨Nat.le_of_ble_eq_true rfl, Nat.le_of_ble_eq_true rfl⟩) (b_pWV (wc := [((md 0), .inr (4, [.ref (md 1), .ref (md 2), .ref (md 3), .int (nI (h_sz hn)), .ref (md 4), .ref (md 5), .ref (md 6), .int (nI tl), .int (nI ((m_ftl tx tl (tl + 1) 0 nu).2.1)), .int ((m_ftl tx tl (tl + 1) 0 nu).2.2)])), ((md 1), .inl (cI, 86, .inl a)), ((md 2), .inl (cI, 86, .inl kp)), ((md 3), .inl (cI, 516, .inl f_2)), ((md 4), .inl (cI, 172, .inl sl)), ((md 5), .inl (cI, 2, .inl iv)), ((md 6), .inl (cI, 60, .inl tx))]) hK hP hD b_Xok_0 [0, 1, 2, 3, 4, 5, 6] rfl (by decide) rfl trivial (ci := 4) (q0 := 0) rfl rfl) rfl rfl hl.1 rfl (lv_room (Nat.le_of_ble_eq_true rfl)) dX4_read_17 ⟨Nat.zero_le _, Nat.zero_le _⟩) hP hD hS hA [0, 1, 2, 3, 4, 5, 6] rfl rfl (fun H locs hP hD hS => ?_)
    have hP : va_P D vwCl [((md 0), .inr (4, [.ref (md 1), .ref (md 2), .ref (md 3), .int (nI (h_sz hn)), .ref (md 4), .ref (md 5), .ref (md 6), .int (nI tl), .int (nI ((m_rd tx tl (tl + 1) 0 ((m_ftl tx tl (tl + 1) 0 nu).2.2) a 0).2.2.1)), .int ((m_rd tx tl (tl + 1) 0 ((m_ftl tx tl (tl + 1) 0 nu).2.2) a 0).2.2.2)])), ((md 1), .inl (cI, 86, .inl ((m_rd tx tl (tl + 1) 0 ((m_ftl tx tl (tl + 1) 0 nu).2.2) a 0).1))), ((md 2), .inl (cI, 86, .inl kp)), ((md 3), .inl (cI, 516, .inl f_2)), ((md 4), .inl (cI, 172, .inl sl)), ((md 5), .inl (cI, 2, .inl iv)), ((md 6), .inl (cI, 60, .inl tx))] H := hP
    have hD : va_D A [((md 0), .inr (4, [.ref (md 1), .ref (md 2), .ref (md 3), .int (nI (h_sz hn)), .ref (md 4), .ref (md 5), .ref (md 6), .int (nI tl), .int (nI ((m_rd tx tl (tl + 1) 0 ((m_ftl tx tl (tl + 1) 0 nu).2.2) a 0).2.2.1)), .int ((m_rd tx tl (tl + 1) 0 ((m_ftl tx tl (tl + 1) 0 nu).2.2) a 0).2.2.2)])), ((md 1), .inl (cI, 86, .inl ((m_rd tx tl (tl + 1) 0 ((m_ftl tx tl (tl + 1) 0 nu).2.2) a 0).1))), ((md 2), .inl (cI, 86, .inl kp)), ((md 3), .inl (cI, 516, .inl f_2)), ((md 4), .inl (cI, 172, .inl sl)), ((md 5), .inl (cI, 2, .inl iv)), ((md 6), .inl (cI, 60, .inl tx))] := hD
    obtain ⟨f_3, ef_3⟩ : ∃ z9 : Nat → Int32, z9 = (m_rd tx tl (tl + 1) 0 ((m_ftl tx tl (tl + 1) 0 nu).2.2) a 0).1 := ⟨_, rfl⟩
    have hP : va_P D vwCl [((md 0), .inr (4, [.ref (md 1), .ref (md 2), .ref (md 3), .int (nI (h_sz hn)), .ref (md 4), .ref (md 5), .ref (md 6), .int (nI tl), .int (nI ((m_rd tx tl (tl + 1) 0 ((m_ftl tx tl (tl + 1) 0 nu).2.2) a 0).2.2.1)), .int ((m_rd tx tl (tl + 1) 0 ((m_ftl tx tl (tl + 1) 0 nu).2.2) a 0).2.2.2)])), ((md 1), .inl (cI, 86, .inl f_3)), ((md 2), .inl (cI, 86, .inl kp)), ((md 3), .inl (cI, 516, .inl f_2)), ((md 4), .inl (cI, 172, .inl sl)), ((md 5), .inl (cI, 2, .inl iv)), ((md 6), .inl (cI, 60, .inl tx))] H := by rw [ef_3]; exact hP
    have hD : va_D A [((md 0), .inr (4, [.ref (md 1), .ref (md 2), .ref (md 3), .int (nI (h_sz hn)), .ref (md 4), .ref (md 5), .ref (md 6), .int (nI tl), .int (nI ((m_rd tx tl (tl + 1) 0 ((m_ftl tx tl (tl + 1) 0 nu).2.2) a 0).2.2.1)), .int ((m_rd tx tl (tl + 1) 0 ((m_ftl tx tl (tl + 1) 0 nu).2.2) a 0).2.2.2)])), ((md 1), .inl (cI, 86, .inl f_3)), ((md 2), .inl (cI, 86, .inl kp)), ((md 3), .inl (cI, 516, .inl f_2)), ((md 4), .inl (cI, 172, .inl sl)), ((md 5), .inl (cI, 2, .inl iv)), ((md 6), .inl (cI, 60, .inl tx))] := by rw [ef_3]; exact hD
    refine lv_istore_n (pc := 20) (lv' := [(1, .int ((m_rd tx tl (tl + 1) 0 ((m_ftl tx tl (tl + 1) 0 nu).2.2) a 0).2.1)), (0, .ref (md 0))]) hx hb dX4_read_20 rfl hl (by decide) rfl (fun ls hl => ?_)
    refine lv_aload_n (pc := 21) hx hb dX4_read_21 rfl (lv_at hl 1 rfl) ?_
    refine lv_iconst (pc := 22) (v := 0) hx hb dX4_read_22 (by decide) ?_
    refine va_put (pc := 23) (D := D) (ci := 4) (v := .int 0) (ty := .int) (C := RX4) (T := TX4) (N := 10) hx hb hts hi_X4_read_ok_X4 tyX4 tyX4_ok nmX4 hown hK hP hD hS 0 rfl rfl 7 (by decide) (hts _ hw_X4_read_ok_0) (fun _ h9 => h9) rfl (by decide +kernel) rfl rfl (Nat.le_of_ble_eq_true rfl) dX4_read_23 (fun H locs hP hD hS => ?_)
    have hP : va_P D vwCl [((md 0), .inr (4, [.ref (md 1), .ref (md 2), .ref (md 3), .int (nI (h_sz hn)), .ref (md 4), .ref (md 5), .ref (md 6), .int 0, .int (nI ((m_rd tx tl (tl + 1) 0 ((m_ftl tx tl (tl + 1) 0 nu).2.2) a 0).2.2.1)), .int ((m_rd tx tl (tl + 1) 0 ((m_ftl tx tl (tl + 1) 0 nu).2.2) a 0).2.2.2)])), ((md 1), .inl (cI, 86, .inl f_3)), ((md 2), .inl (cI, 86, .inl kp)), ((md 3), .inl (cI, 516, .inl f_2)), ((md 4), .inl (cI, 172, .inl sl)), ((md 5), .inl (cI, 2, .inl iv)), ((md 6), .inl (cI, 60, .inl tx))] H := hP
    have hD : va_D A [((md 0), .inr (4, [.ref (md 1), .ref (md 2), .ref (md 3), .int (nI (h_sz hn)), .ref (md 4), .ref (md 5), .ref (md 6), .int 0, .int (nI ((m_rd tx tl (tl + 1) 0 ((m_ftl tx tl (tl + 1) 0 nu).2.2) a 0).2.2.1)), .int ((m_rd tx tl (tl + 1) 0 ((m_ftl tx tl (tl + 1) 0 nu).2.2) a 0).2.2.2)])), ((md 1), .inl (cI, 86, .inl f_3)), ((md 2), .inl (cI, 86, .inl kp)), ((md 3), .inl (cI, 516, .inl f_2)), ((md 4), .inl (cI, 172, .inl sl)), ((md 5), .inl (cI, 2, .inl iv)), ((md 6), .inl (cI, 60, .inl tx))] := hD
    refine lv_iload_n (pc := 26) hx hb dX4_read_26 rfl (lv_at hl 0 rfl) ?_
    subst ef_2
    subst ef_3
    subst hQ
    exact b_retW hx hb hr hlocks hS (rfl) (hP) dX4_read_27
  · skip
    have c_1 : ¬ (((m_ftl tx tl (tl + 1) 0 nu).1) = (-6)) := c_1
    exact absurd ht c_1
theorem hw_X4_undo_none_0 : (.fieldLink RX4 32 "BeamTurnstilesModel" "historyLong" "I" : Cond) ∈ wsX4_undo := by decide +kernel
theorem hi_X4_undo_none_X4 : ∀ w ∈ wsX40, w ∈ wsX4_undo := by decide +kernel
set_option maxHeartbeats 4000000 in
set_option maxRecDepth 100000 in
theorem c_X4_undo_none (l : Launch) (D : va_G) (cI cC cZ cG : ClassId) (md : Nat → Nat) (a : Nat → Int32) (kp : Nat → Int32) (hs : Nat → Int32) (hn : Nat) (sl : Nat → Int32) (iv : Nat → Int32) (tx : Nat → Int32) (tl : Nat) (sp : Nat) (nu : Int32) (hbad : hn = 0) : Met l yX4_undo wsX4_undo ({ frames := 0, cells := 0, slots := 0, locals := 0 } : Room) (b_R D (b_T cI cC cZ cG) [((md 0), .inr (4, [.ref (md 1), .ref (md 2), .ref (md 3), .int (nI hn), .ref (md 4), .ref (md 5), .ref (md 6), .int (nI tl), .int (nI sp), .int nu])), ((md 1), .inl (cI, 86, .inl a)), ((md 2), .inl (cI, 86, .inl kp)), ((md 3), .inl (cI, 516, .inl hs)), ((md 4), .inl (cI, 172, .inl sl)), ((md 5), .inl (cI, 2, .inl iv)), ((md 6), .inl (cI, 60, .inl tx))] [.ref (md 0)]) (vp_Si (fun r => r = -5)) 0 0 (fun _ => False) := by
  refine b_enterR (cc := cX4_undo) (maxL := 2) (ret := (some .int)) (by decide) rfl (Nat.le_of_ble_eq_true rfl) ?_
  intro p e s m below meth c ls hx hb hr hml hown hts hlocks hP hK hl Q hQ
  have hown : s.vm.findClass RX4 = some m.cls := hown
  have hl : lv_has ls 2 [(0, .ref (md 0))] := hl
  refine lv_aload_n (pc := 0) hx hb dX4_undo_0 rfl (lv_at hl 0 rfl) ?_
  refine va_get (pc := 1) (D := D) (ci := 4) (v := .int (nI hn)) (C := RX4) (T := TX4) (N := 10) hx hb hts hi_X4_undo_none_X4 hown hK hP 0 rfl rfl 3 (by decide) (hts _ hw_X4_undo_none_0) (fun _ h9 => h9) rfl dX4_undo_1 ?_
  refine lv_if_ne (pc := 4) (tgt := 10) hx hb dX4_undo_4 (by decide) (fun c_1 => ?_) (fun c_1 => ?_)
  · skip
    have c_1 : ¬ (hn = 0) := fun h9 => c_1 ((nI_eq (a := hn) (b := 0) (by omega) (by omega)).mpr h9)
    exfalso; omega
  · skip
    have c_1 : hn = 0 := (nI_eq (a := hn) (b := 0) (by omega) (by omega)).mp c_1
    refine lv_bipush (pc := 7) (v := (-5)) hx hb dX4_undo_7 (by decide) ?_
    subst hQ
    exact b_retR hx hb hr hlocks (rfl) dX4_undo_9
theorem hw_X4_undo_ok_0 : (.fieldLink RX4 32 "BeamTurnstilesModel" "historyLong" "I" : Cond) ∈ wsX4_undo := by decide +kernel
theorem hi_X4_undo_ok_X4 : ∀ w ∈ wsX40, w ∈ wsX4_undo := by decide +kernel
theorem hw_X4_undo_ok_2 : (.fieldLink RX4 7 "BeamTurnstilesModel" "all" "[I" : Cond) ∈ wsX4_undo := by decide +kernel
theorem hw_X4_undo_ok_3 : (.fieldLink RX4 16 "BeamTurnstilesModel" "history" "[I" : Cond) ∈ wsX4_undo := by decide +kernel
set_option maxHeartbeats 4000000 in
set_option maxRecDepth 100000 in
theorem c_X4_undo_ok (l : Launch) (D : va_G) (cI cC cZ cG : ClassId) (sz : Nat) (md : Nat → Nat) (a : Nat → Int32) (kp : Nat → Int32) (hs : Nat → Int32) (hn : Nat) (sl : Nat → Int32) (iv : Nat → Int32) (tx : Nat → Int32) (tl : Nat) (sp : Nat) (nu : Int32) (hl6 : hn ≤ 6) (hbad : 0 < hn) : Met l yX4_undo wsX4_undo ({ frames := 0, cells := 0, slots := 0, locals := 0 } : Room) (b_W D (b_T cI cC cZ cG) b_X0 [((md 0), .inr (4, [.ref (md 1), .ref (md 2), .ref (md 3), .int (nI hn), .ref (md 4), .ref (md 5), .ref (md 6), .int (nI tl), .int (nI sp), .int nu])), ((md 1), .inl (cI, 86, .inl a)), ((md 2), .inl (cI, 86, .inl kp)), ((md 3), .inl (cI, 516, .inl hs)), ((md 4), .inl (cI, 172, .inl sl)), ((md 5), .inl (cI, 2, .inl iv)), ((md 6), .inl (cI, 60, .inl tx))] sz [.ref (md 0)]) (b_Qi D (nI (hn - 1)) [((md 0), .inr (4, [.ref (md 1), .ref (md 2), .ref (md 3), .int (nI (hn - 1)), .ref (md 4), .ref (md 5), .ref (md 6), .int (nI tl), .int (nI sp), .int nu])), ((md 1), .inl (cI, 86, .inl (va_cpy hs a (86 * (hn - 1)) 0 86))), ((md 2), .inl (cI, 86, .inl kp)), ((md 3), .inl (cI, 516, .inl hs)), ((md 4), .inl (cI, 172, .inl sl)), ((md 5), .inl (cI, 2, .inl iv)), ((md 6), .inl (cI, 60, .inl tx))] (va_A [((md 0), .inr (4, [.ref (md 1), .ref (md 2), .ref (md 3), .int (nI hn), .ref (md 4), .ref (md 5), .ref (md 6), .int (nI tl), .int (nI sp), .int nu])), ((md 1), .inl (cI, 86, .inl a)), ((md 2), .inl (cI, 86, .inl kp)), ((md 3), .inl (cI, 516, .inl hs)), ((md 4), .inl (cI, 172, .inl sl)), ((md 5), .inl (cI, 2, .inl iv)), ((md 6), .inl (cI, 60, .inl tx))] sz)) 0 0 (va_A [((md 0), .inr (4, [.ref (md 1), .ref (md 2), .ref (md 3), .int (nI hn), .ref (md 4), .ref (md 5), .ref (md 6), .int (nI tl), .int (nI sp), .int nu])), ((md 1), .inl (cI, 86, .inl a)), ((md 2), .inl (cI, 86, .inl kp)), ((md 3), .inl (cI, 516, .inl hs)), ((md 4), .inl (cI, 172, .inl sl)), ((md 5), .inl (cI, 2, .inl iv)), ((md 6), .inl (cI, 60, .inl tx))] sz) := by
  refine b_enterW (Qc := fun A => b_Qi D (nI (hn - 1)) [((md 0), .inr (4, [.ref (md 1), .ref (md 2), .ref (md 3), .int (nI (hn - 1)), .ref (md 4), .ref (md 5), .ref (md 6), .int (nI tl), .int (nI sp), .int nu])), ((md 1), .inl (cI, 86, .inl (va_cpy hs a (86 * (hn - 1)) 0 86))), ((md 2), .inl (cI, 86, .inl kp)), ((md 3), .inl (cI, 516, .inl hs)), ((md 4), .inl (cI, 172, .inl sl)), ((md 5), .inl (cI, 2, .inl iv)), ((md 6), .inl (cI, 60, .inl tx))] A) (cc := cX4_undo) (maxL := 2) (ret := (some .int)) (by decide) rfl (Nat.le_of_ble_eq_true rfl) ?_
  intro p e s m below meth c ls A hx hb hr hml hown hts hlocks hname hP hK hD hA hS hX hl Q hQ
  have hown : s.vm.findClass RX4 = some m.cls := hown
  have hl : lv_has ls 2 [(0, .ref (md 0))] := hl
  refine lv_aload_n (pc := 0) hx hb dX4_undo_0 rfl (lv_at hl 0 rfl) ?_
  refine va_get (pc := 1) (D := D) (ci := 4) (v := .int (nI hn)) (C := RX4) (T := TX4) (N := 10) hx hb hts hi_X4_undo_ok_X4 hown hK hP 0 rfl rfl 3 (by decide) (hts _ hw_X4_undo_ok_0) (fun _ h9 => h9) rfl dX4_undo_1 ?_
  refine lv_if_ne (pc := 4) (tgt := 10) hx hb dX4_undo_4 (by decide) (fun c_1 => ?_) (fun c_1 => ?_)
  · skip
    have c_1 : ¬ (hn = 0) := fun h9 => c_1 ((nI_eq (a := hn) (b := 0) (by omega) (by omega)).mpr h9)
    refine lv_aload_n (pc := 10) hx hb dX4_undo_10 rfl (lv_at hl 0 rfl) ?_
    refine lv_dup (pc := 11) hx hb dX4_undo_11 rfl ?_
    refine va_get (pc := 12) (D := D) (ci := 4) (v := .int (nI hn)) (C := RX4) (T := TX4) (N := 10) hx hb hts hi_X4_undo_ok_X4 hown hK hP 0 rfl rfl 3 (by decide) (hts _ hw_X4_undo_ok_0) (fun _ h9 => h9) rfl dX4_undo_12 ?_
    refine lv_iconst (pc := 15) (v := 1) hx hb dX4_undo_15 (by decide) ?_
    refine lv_isub (pc := 16) hx hb dX4_undo_16 ?_
    refine b_re (pk_sub (a := hn) (b := 1) (by omega)) ?_
    refine va_put (pc := 17) (D := D) (ci := 4) (v := .int (nI (hn - 1))) (ty := .int) (C := RX4) (T := TX4) (N := 10) hx hb hts hi_X4_undo_ok_X4 tyX4 tyX4_ok nmX4 hown hK hP hD hS 0 rfl rfl 3 (by decide) (hts _ hw_X4_undo_ok_0) (fun _ h9 => h9) rfl (by decide +kernel) rfl rfl (Nat.le_of_ble_eq_true rfl) dX4_undo_17 (fun H locs hP hD hS => ?_)
    have hP : va_P D vwCl [((md 0), .inr (4, [.ref (md 1), .ref (md 2), .ref (md 3), .int (nI (hn - 1)), .ref (md 4), .ref (md 5), .ref (md 6), .int (nI tl), .int (nI sp), .int nu])), ((md 1), .inl (cI, 86, .inl a)), ((md 2), .inl (cI, 86, .inl kp)), ((md 3), .inl (cI, 516, .inl hs)), ((md 4), .inl (cI, 172, .inl sl)), ((md 5), .inl (cI, 2, .inl iv)), ((md 6), .inl (cI, 60, .inl tx))] H := hP
    have hD : va_D A [((md 0), .inr (4, [.ref (md 1), .ref (md 2), .ref (md 3), .int (nI (hn - 1)), .ref (md 4), .ref (md 5), .ref (md 6), .int (nI tl), .int (nI sp), .int nu])), ((md 1), .inl (cI, 86, .inl a)), ((md 2), .inl (cI, 86, .inl kp)), ((md 3), .inl (cI, 516, .inl hs)), ((md 4), .inl (cI, 172, .inl sl)), ((md 5), .inl (cI, 2, .inl iv)), ((md 6), .inl (cI, 60, .inl tx))] := hD
    refine lv_iconst (pc := 20) (v := 0) hx hb dX4_undo_20 (by decide) ?_
    refine lv_istore_n (pc := 21) (lv' := [(1, .int 0), (0, .ref (md 0))]) hx hb dX4_undo_21 rfl hl (by decide) rfl (fun ls hl => ?_)
    have loop_22 : ∀ (fu : Nat) (i : Nat) (t1 : Nat → Int32), (i ≤ 86) → (t1 = va_cpy hs a (86 * (hn - 1)) 0 i) → 86 - i < fu → ∀ (H : Heap) (locs : List Loc), va_P D vwCl [((md 0), .inr (4, [.ref (md 1), .ref (md 2), .ref (md 3), .int (nI (hn - 1)), .ref (md 4), .ref (md 5), .ref (md 6), .int (nI tl), .int (nI sp), .int nu])), ((md 1), .inl (cI, 86, .inl t1)), ((md 2), .inl (cI, 86, .inl kp)), ((md 3), .inl (cI, 516, .inl hs)), ((md 4), .inl (cI, 172, .inl sl)), ((md 5), .inl (cI, 2, .inl iv)), ((md 6), .inl (cI, 60, .inl tx))] H → va_D A [((md 0), .inr (4, [.ref (md 1), .ref (md 2), .ref (md 3), .int (nI (hn - 1)), .ref (md 4), .ref (md 5), .ref (md 6), .int (nI tl), .int (nI sp), .int nu])), ((md 1), .inl (cI, 86, .inl t1)), ((md 2), .inl (cI, 86, .inl kp)), ((md 3), .inl (cI, 516, .inl hs)), ((md 4), .inl (cI, 172, .inl sl)), ((md 5), .inl (cI, 2, .inl iv)), ((md 6), .inl (cI, 60, .inl tx))] → va_S A s.heap H locs → ∀ (ls : Array Slot), lv_has ls 2 [(1, .int (nI i)), (0, .ref (md 0))] → W p l e ({ frames := 0, cells := 0, slots := 0, locals := 0 } : Room) s m ([.ref (md 0)] : List Value).toArray below meth c H locs 0 0 Q (F0 m 22 ls []) := by
      intro fu
      induction fu with
      | zero => intro i t1 hi ht hfu H locs hP hD hS ls hl; exact absurd hfu (Nat.not_lt_zero _)
      | succ fu ih_22 =>
        intro i t1 hi ht hfu H locs hP hD hS ls hl
        refine lv_iload_n (pc := 22) hx hb dX4_undo_22 rfl (lv_at hl 0 rfl) ?_
        refine lv_bipush (pc := 23) (v := 86) hx hb dX4_undo_23 (by decide) ?_
        refine lv_icmp_ge (pc := 25) (tgt := 54) hx hb dX4_undo_25 (by decide) (fun c_2 => ?_) (fun c_2 => ?_)
        · skip
          have c_2 : 86 ≤ i := (nI_leI (a := 86) (b := i) (by omega) (by omega)).mp c_2
          refine lv_aload_n (pc := 54) hx hb dX4_undo_54 rfl (lv_at hl 1 rfl) ?_
          refine va_get (pc := 55) (D := D) (ci := 4) (v := .int (nI (hn - 1))) (C := RX4) (T := TX4) (N := 10) hx hb hts hi_X4_undo_ok_X4 hown hK hP 0 rfl rfl 3 (by decide) (hts _ hw_X4_undo_ok_0) (fun _ h9 => h9) rfl dX4_undo_55 ?_
          subst hQ
          exact b_retW hx hb hr hlocks hS (rfl) (by subst ht; have e9 : i = 86 := (by omega); subst e9; exact hP) dX4_undo_58
        · skip
          have c_2 : ¬ (86 ≤ i) := fun h9 => c_2 ((nI_leI (a := 86) (b := i) (by omega) (by omega)).mpr h9)
          refine lv_aload_n (pc := 28) hx hb dX4_undo_28 rfl (lv_at hl 1 rfl) ?_
          refine va_get (pc := 29) (D := D) (ci := 4) (v := .ref (md 1)) (C := RX4) (T := TX4) (N := 10) hx hb hts hi_X4_undo_ok_X4 hown hK hP 0 rfl rfl 0 (by decide) (hts _ hw_X4_undo_ok_2) (fun _ h9 => h9) rfl dX4_undo_29 ?_
          refine lv_iload_n (pc := 32) hx hb dX4_undo_32 rfl (lv_at hl 0 rfl) ?_
          refine lv_aload_n (pc := 33) hx hb dX4_undo_33 rfl (lv_at hl 1 rfl) ?_
          refine va_get (pc := 34) (D := D) (ci := 4) (v := .ref (md 3)) (C := RX4) (T := TX4) (N := 10) hx hb hts hi_X4_undo_ok_X4 hown hK hP 0 rfl rfl 2 (by decide) (hts _ hw_X4_undo_ok_3) (fun _ h9 => h9) rfl dX4_undo_34 ?_
          refine lv_bipush (pc := 37) (v := 86) hx hb dX4_undo_37 (by decide) ?_
          refine lv_aload_n (pc := 39) hx hb dX4_undo_39 rfl (lv_at hl 1 rfl) ?_
          refine va_get (pc := 40) (D := D) (ci := 4) (v := .int (nI (hn - 1))) (C := RX4) (T := TX4) (N := 10) hx hb hts hi_X4_undo_ok_X4 hown hK hP 0 rfl rfl 3 (by decide) (hts _ hw_X4_undo_ok_0) (fun _ h9 => h9) rfl dX4_undo_40 ?_
          refine lv_imul (pc := 43) hx hb dX4_undo_43 ?_
          refine b_re (pk_mul 86 (hn - 1)) ?_
          refine lv_iload_n (pc := 44) hx hb dX4_undo_44 rfl (lv_at hl 0 rfl) ?_
          refine lv_iadd (pc := 45) hx hb dX4_undo_45 ?_
          refine b_re (nI_add (86 * (hn - 1)) i) ?_
          refine b_iald (pc := 46) hx hb hK hP 3 0 rfl rfl (86 * (hn - 1) + i) rfl (by omega) (by decide) dX4_undo_46 ?_
          refine b_iast (pc := 47) hx hb hK hP hD hS 1 0 rfl rfl i rfl (by omega) (by decide) dX4_undo_47 (fun H locs hP hD hS => ?_)
          obtain ⟨f_3, ef_3⟩ : ∃ z9 : Nat → Int32, z9 = upd t1 i (hs (86 * (hn - 1) + i)) := ⟨_, rfl⟩
          have hP : va_P D vwCl [((md 0), .inr (4, [.ref (md 1), .ref (md 2), .ref (md 3), .int (nI (hn - 1)), .ref (md 4), .ref (md 5), .ref (md 6), .int (nI tl), .int (nI sp), .int nu])), ((md 1), .inl (cI, 86, .inl f_3)), ((md 2), .inl (cI, 86, .inl kp)), ((md 3), .inl (cI, 516, .inl hs)), ((md 4), .inl (cI, 172, .inl sl)), ((md 5), .inl (cI, 2, .inl iv)), ((md 6), .inl (cI, 60, .inl tx))] H := by rw [ef_3]; exact hP
          have hD : va_D A [((md 0), .inr (4, [.ref (md 1), .ref (md 2), .ref (md 3), .int (nI (hn - 1)), .ref (md 4), .ref (md 5), .ref (md 6), .int (nI tl), .int (nI sp), .int nu])), ((md 1), .inl (cI, 86, .inl f_3)), ((md 2), .inl (cI, 86, .inl kp)), ((md 3), .inl (cI, 516, .inl hs)), ((md 4), .inl (cI, 172, .inl sl)), ((md 5), .inl (cI, 2, .inl iv)), ((md 6), .inl (cI, 60, .inl tx))] := by rw [ef_3]; exact hD
          refine lv_iinc (pc := 48) (v := nI (i + 1)) (lv' := [(1, .int (nI (i + 1))), (0, .ref (md 0))]) hx hb dX4_undo_48 hl (k := 0) rfl (nI_add i 1) (by decide) rfl (fun ls hl => ?_)
          refine lv_goto (pc := 51) (tgt := 22) hx hb dX4_undo_51 (by decide) ?_
          exact ih_22 (i + 1) f_3 (by omega) (by rw [ef_3, ht]; have h9 := b_cpy_s hs a (86 * (hn - 1)) 0 i; (try simp only [Nat.zero_add] at h9); exact h9) (by omega) _ _ (hP.sub [0, 1, 2, 3, 4, 5, 6] rfl) (hD.sub [0, 1, 2, 3, 4, 5, 6] (by decide) rfl) hS ls (lv_sub hl [0, 1] rfl)
    exact loop_22 87 0 a (Nat.zero_le _) ((b_cpy_0 _ _ _ _).symm) (by omega) _ _ (hP.sub [0, 1, 2, 3, 4, 5, 6] rfl) (hD.sub [0, 1, 2, 3, 4, 5, 6] (by decide) rfl) hS ls (lv_sub hl [0, 1] rfl)
  · skip
    have c_1 : hn = 0 := (nI_eq (a := hn) (b := 0) (by omega) (by omega)).mp c_1
    exfalso; omega
set_option maxHeartbeats 4000000 in
set_option maxRecDepth 100000 in
theorem c_X4_isSlot (l : Launch) (D : va_G) (cI cC cZ cG : ClassId) (x : Int32) : Met l yX4_isSlot wsX4_isSlot ({ frames := 0, cells := 0, slots := 0, locals := 0 } : Room) (b_R D (b_T cI cC cZ cG) [] [.int x]) (vp_Si (fun r => r = b_i (x = 0 ∨ x = 1))) 0 0 (fun _ => False) := by
  refine b_enterR (cc := cX4_isSlot) (maxL := 1) (ret := (some .boolean)) (by decide) rfl (Nat.le_of_ble_eq_true rfl) ?_
  intro p e s m below meth c ls hx hb hr hml hown hts hlocks hP hK hl Q hQ
  have hown : s.vm.findClass RX4 = some m.cls := hown
  have hl : lv_has ls 1 [(0, .int x)] := hl
  refine lv_iload_n (pc := 0) hx hb dX4_isSlot_0 rfl (lv_at hl 0 rfl) ?_
  refine lv_if_eq (pc := 1) (tgt := 9) hx hb dX4_isSlot_1 (by decide) (fun c_1 => ?_) (fun c_1 => ?_)
  · skip
    have c_1 : x = 0 := c_1
    refine lv_iconst (pc := 9) (v := 1) hx hb dX4_isSlot_9 (by decide) ?_
    refine lv_goto (pc := 10) (tgt := 14) hx hb dX4_isSlot_10 (by decide) ?_
    subst hQ
    exact b_retRZ hx hb hr hlocks rfl ((b_i_t (by first | exact Or.inl (by assumption) | exact Or.inr (by assumption))).symm) dX4_isSlot_14
  · skip
    have c_1 : ¬ (x = 0) := c_1
    refine lv_iload_n (pc := 4) hx hb dX4_isSlot_4 rfl (lv_at hl 0 rfl) ?_
    refine lv_iconst (pc := 5) (v := 1) hx hb dX4_isSlot_5 (by decide) ?_
    refine lv_icmp_ne (pc := 6) (tgt := 13) hx hb dX4_isSlot_6 (by decide) (fun c_2 => ?_) (fun c_2 => ?_)
    · skip
      have c_2 : ¬ (x = 1) := c_2
      refine lv_iconst (pc := 13) (v := 0) hx hb dX4_isSlot_13 (by decide) ?_
      subst hQ
      exact b_retRZ hx hb hr hlocks rfl ((b_i_f (fun h9 => h9.elim (fun q => absurd q (by assumption)) (fun q => absurd q (by assumption)))).symm) dX4_isSlot_14
    · skip
      have c_2 : x = 1 := c_2
      refine lv_iconst (pc := 9) (v := 1) hx hb dX4_isSlot_9 (by decide) ?_
      refine lv_goto (pc := 10) (tgt := 14) hx hb dX4_isSlot_10 (by decide) ?_
      subst hQ
      exact b_retRZ hx hb hr hlocks rfl ((b_i_t (by first | exact Or.inl (by assumption) | exact Or.inr (by assumption))).symm) dX4_isSlot_14
set_option maxHeartbeats 4000000 in
set_option maxRecDepth 100000 in
theorem c_X4_save_bad (l : Launch) (D : va_G) (cI cC cZ cG : ClassId) (md : Nat → Nat) (a : Nat → Int32) (kp : Nat → Int32) (hs : Nat → Int32) (hn : Nat) (sl : Nat → Int32) (iv : Nat → Int32) (tx : Nat → Int32) (tl : Nat) (sp : Nat) (nu : Int32) (x : Int32) (hbad : x < 0 ∨ ¬ x < 2) : Met l yX4_save wsX4_save ({ frames := 1, cells := 0, slots := 0, locals := 20 } : Room) (b_R D (b_T cI cC cZ cG) [((md 0), .inr (4, [.ref (md 1), .ref (md 2), .ref (md 3), .int (nI hn), .ref (md 4), .ref (md 5), .ref (md 6), .int (nI tl), .int (nI sp), .int nu])), ((md 1), .inl (cI, 86, .inl a)), ((md 2), .inl (cI, 86, .inl kp)), ((md 3), .inl (cI, 516, .inl hs)), ((md 4), .inl (cI, 172, .inl sl)), ((md 5), .inl (cI, 2, .inl iv)), ((md 6), .inl (cI, 60, .inl tx))] [.ref (md 0), .int x]) (vp_Si (fun r => r = -2)) 0 0 (fun _ => False) := by
  refine b_enterR (cc := cX4_save) (maxL := 3) (ret := (some .int)) (by decide) rfl (Nat.le_of_ble_eq_true rfl) ?_
  intro p e s m below meth c ls hx hb hr hml hown hts hlocks hP hK hl Q hQ
  have hown : s.vm.findClass RX4 = some m.cls := hown
  have hl : lv_has ls 3 [(0, .ref (md 0)), (1, .int x)] := hl
  refine lv_iload_n (pc := 0) hx hb dX4_save_0 rfl (lv_at hl 1 rfl) ?_
  refine b_cR (pc := 1) (va_runS (As := [.int x]) (rest := []) ⟨hx, hb, hml, hown, hts⟩ (c_X4_isSlot l D cI cC cZ cG x) (va_cwS 1 hts gX4_save_X4_isSlot rfl rfl rfl hyS_X4_isSlot ⟨Nat.le_of_ble_eq_true rfl, Nat.le_of_ble_eq_true rfl⟩) (b_pRS (wc := []) hK hP [] rfl) rfl rfl hl.1 rfl (lv_room (Nat.le_of_ble_eq_true rfl)) dX4_save_1 ⟨Nat.zero_le _, Nat.zero_le _⟩) ?_
  refine lv_if_ne (pc := 4) (tgt := 10) hx hb dX4_save_4 (by decide) (fun c_1 => ?_) (fun c_1 => ?_)
  · skip
    have c_1 : x = 0 ∨ x = 1 := Classical.not_not.mp (fun h9 => c_1 (b_i_0.mpr h9))
    exact absurd c_1 (m_nsl hbad)
  · skip
    have c_1 : ¬ (x = 0 ∨ x = 1) := b_i_0.mp c_1
    refine lv_bipush (pc := 7) (v := (-2)) hx hb dX4_save_7 (by decide) ?_
    subst hQ
    exact b_retR hx hb hr hlocks (rfl) dX4_save_9
theorem hw_X4_save_ok_0 : (.fieldLink RX4 22 "BeamTurnstilesModel" "isSaved" "[I" : Cond) ∈ wsX4_save := by decide +kernel
theorem hi_X4_save_ok_X4 : ∀ w ∈ wsX40, w ∈ wsX4_save := by decide +kernel
theorem hw_X4_save_ok_2 : (.fieldLink RX4 7 "BeamTurnstilesModel" "all" "[I" : Cond) ∈ wsX4_save := by decide +kernel
theorem hw_X4_save_ok_3 : (.fieldLink RX4 19 "BeamTurnstilesModel" "slots" "[I" : Cond) ∈ wsX4_save := by decide +kernel
set_option maxHeartbeats 4000000 in
set_option maxRecDepth 100000 in
theorem c_X4_save_ok (l : Launch) (D : va_G) (cI cC cZ cG : ClassId) (sz : Nat) (md : Nat → Nat) (a : Nat → Int32) (kp : Nat → Int32) (hs : Nat → Int32) (hn : Nat) (sl : Nat → Int32) (iv : Nat → Int32) (tx : Nat → Int32) (tl : Nat) (sp : Nat) (nu : Int32) (w1 : Nat) (hw1 : w1 < 2) : Met l yX4_save wsX4_save ({ frames := 1, cells := 0, slots := 0, locals := 20 } : Room) (b_W D (b_T cI cC cZ cG) b_X0 [((md 0), .inr (4, [.ref (md 1), .ref (md 2), .ref (md 3), .int (nI hn), .ref (md 4), .ref (md 5), .ref (md 6), .int (nI tl), .int (nI sp), .int nu])), ((md 1), .inl (cI, 86, .inl a)), ((md 2), .inl (cI, 86, .inl kp)), ((md 3), .inl (cI, 516, .inl hs)), ((md 4), .inl (cI, 172, .inl sl)), ((md 5), .inl (cI, 2, .inl iv)), ((md 6), .inl (cI, 60, .inl tx))] sz [.ref (md 0), .int (nI w1)]) (b_Qi D (a 4) [((md 0), .inr (4, [.ref (md 1), .ref (md 2), .ref (md 3), .int (nI hn), .ref (md 4), .ref (md 5), .ref (md 6), .int (nI tl), .int (nI sp), .int nu])), ((md 1), .inl (cI, 86, .inl a)), ((md 2), .inl (cI, 86, .inl kp)), ((md 3), .inl (cI, 516, .inl hs)), ((md 4), .inl (cI, 172, .inl (va_cpy a sl 0 (86 * w1) 86))), ((md 5), .inl (cI, 2, .inl (upd iv w1 1))), ((md 6), .inl (cI, 60, .inl tx))] (va_A [((md 0), .inr (4, [.ref (md 1), .ref (md 2), .ref (md 3), .int (nI hn), .ref (md 4), .ref (md 5), .ref (md 6), .int (nI tl), .int (nI sp), .int nu])), ((md 1), .inl (cI, 86, .inl a)), ((md 2), .inl (cI, 86, .inl kp)), ((md 3), .inl (cI, 516, .inl hs)), ((md 4), .inl (cI, 172, .inl sl)), ((md 5), .inl (cI, 2, .inl iv)), ((md 6), .inl (cI, 60, .inl tx))] sz)) 0 0 (va_A [((md 0), .inr (4, [.ref (md 1), .ref (md 2), .ref (md 3), .int (nI hn), .ref (md 4), .ref (md 5), .ref (md 6), .int (nI tl), .int (nI sp), .int nu])), ((md 1), .inl (cI, 86, .inl a)), ((md 2), .inl (cI, 86, .inl kp)), ((md 3), .inl (cI, 516, .inl hs)), ((md 4), .inl (cI, 172, .inl sl)), ((md 5), .inl (cI, 2, .inl iv)), ((md 6), .inl (cI, 60, .inl tx))] sz) := by
  refine b_enterW (Qc := fun A => b_Qi D (a 4) [((md 0), .inr (4, [.ref (md 1), .ref (md 2), .ref (md 3), .int (nI hn), .ref (md 4), .ref (md 5), .ref (md 6), .int (nI tl), .int (nI sp), .int nu])), ((md 1), .inl (cI, 86, .inl a)), ((md 2), .inl (cI, 86, .inl kp)), ((md 3), .inl (cI, 516, .inl hs)), ((md 4), .inl (cI, 172, .inl (va_cpy a sl 0 (86 * w1) 86))), ((md 5), .inl (cI, 2, .inl (upd iv w1 1))), ((md 6), .inl (cI, 60, .inl tx))] A) (cc := cX4_save) (maxL := 3) (ret := (some .int)) (by decide) rfl (Nat.le_of_ble_eq_true rfl) ?_
  intro p e s m below meth c ls A hx hb hr hml hown hts hlocks hname hP hK hD hA hS hX hl Q hQ
  have hown : s.vm.findClass RX4 = some m.cls := hown
  have hl : lv_has ls 3 [(0, .ref (md 0)), (1, .int (nI w1))] := hl
  refine lv_iload_n (pc := 0) hx hb dX4_save_0 rfl (lv_at hl 1 rfl) ?_
  refine b_cR (pc := 1) (va_runS (As := [.int (nI w1)]) (rest := []) ⟨hx, hb, hml, hown, hts⟩ (c_X4_isSlot l D cI cC cZ cG (nI w1)) (va_cwS 1 hts gX4_save_X4_isSlot rfl rfl rfl hyS_X4_isSlot ⟨Nat.le_of_ble_eq_true rfl, Nat.le_of_ble_eq_true rfl⟩) (b_pRS (wc := []) hK hP [] rfl) rfl rfl hl.1 rfl (lv_room (Nat.le_of_ble_eq_true rfl)) dX4_save_1 ⟨Nat.zero_le _, Nat.zero_le _⟩) ?_
  refine lv_if_ne (pc := 4) (tgt := 10) hx hb dX4_save_4 (by decide) (fun c_1 => ?_) (fun c_1 => ?_)
  · skip
    have c_1 : (nI w1) = 0 ∨ (nI w1) = 1 := Classical.not_not.mp (fun h9 => c_1 (b_i_0.mpr h9))
    refine lv_iconst (pc := 10) (v := 0) hx hb dX4_save_10 (by decide) ?_
    refine lv_istore_n (pc := 11) (lv' := [(2, .int 0), (0, .ref (md 0)), (1, .int (nI w1))]) hx hb dX4_save_11 rfl hl (by decide) rfl (fun ls hl => ?_)
    have loop_12 : ∀ (fu : Nat) (i : Nat) (t1 : Nat → Int32), (i ≤ 86) → (t1 = va_cpy a sl 0 (86 * w1) i) → 86 - i < fu → ∀ (H : Heap) (locs : List Loc), va_P D vwCl [((md 0), .inr (4, [.ref (md 1), .ref (md 2), .ref (md 3), .int (nI hn), .ref (md 4), .ref (md 5), .ref (md 6), .int (nI tl), .int (nI sp), .int nu])), ((md 1), .inl (cI, 86, .inl a)), ((md 2), .inl (cI, 86, .inl kp)), ((md 3), .inl (cI, 516, .inl hs)), ((md 4), .inl (cI, 172, .inl t1)), ((md 5), .inl (cI, 2, .inl iv)), ((md 6), .inl (cI, 60, .inl tx))] H → va_D A [((md 0), .inr (4, [.ref (md 1), .ref (md 2), .ref (md 3), .int (nI hn), .ref (md 4), .ref (md 5), .ref (md 6), .int (nI tl), .int (nI sp), .int nu])), ((md 1), .inl (cI, 86, .inl a)), ((md 2), .inl (cI, 86, .inl kp)), ((md 3), .inl (cI, 516, .inl hs)), ((md 4), .inl (cI, 172, .inl t1)), ((md 5), .inl (cI, 2, .inl iv)), ((md 6), .inl (cI, 60, .inl tx))] → va_S A s.heap H locs → ∀ (ls : Array Slot), lv_has ls 3 [(2, .int (nI i)), (0, .ref (md 0)), (1, .int (nI w1))] → W p l e ({ frames := 1, cells := 0, slots := 0, locals := 20 } : Room) s m ([.ref (md 0), .int (nI w1)] : List Value).toArray below meth c H locs 0 0 Q (F0 m 12 ls []) := by
      intro fu
      induction fu with
      | zero => intro i t1 hi ht hfu H locs hP hD hS ls hl; exact absurd hfu (Nat.not_lt_zero _)
      | succ fu ih_12 =>
        intro i t1 hi ht hfu H locs hP hD hS ls hl
        refine lv_iload_n (pc := 12) hx hb dX4_save_12 rfl (lv_at hl 0 rfl) ?_
        refine lv_bipush (pc := 13) (v := 86) hx hb dX4_save_13 (by decide) ?_
        refine lv_icmp_ge (pc := 15) (tgt := 41) hx hb dX4_save_15 (by decide) (fun c_2 => ?_) (fun c_2 => ?_)
        · skip
          have c_2 : 86 ≤ i := (nI_leI (a := 86) (b := i) (by omega) (by omega)).mp c_2
          refine lv_aload_n (pc := 41) hx hb dX4_save_41 rfl (lv_at hl 1 rfl) ?_
          refine va_get (pc := 42) (D := D) (ci := 4) (v := .ref (md 5)) (C := RX4) (T := TX4) (N := 10) hx hb hts hi_X4_save_ok_X4 hown hK hP 0 rfl rfl 5 (by decide) (hts _ hw_X4_save_ok_0) (fun _ h9 => h9) rfl dX4_save_42 ?_
          refine lv_iload_n (pc := 45) hx hb dX4_save_45 rfl (lv_at hl 2 rfl) ?_
          refine lv_iconst (pc := 46) (v := 1) hx hb dX4_save_46 (by decide) ?_
          refine b_iast (pc := 47) hx hb hK hP hD hS 5 0 rfl rfl w1 rfl (by omega) (by decide) dX4_save_47 (fun H locs hP hD hS => ?_)
          obtain ⟨f_3, ef_3⟩ : ∃ z9 : Nat → Int32, z9 = upd iv w1 1 := ⟨_, rfl⟩
          have hP : va_P D vwCl [((md 0), .inr (4, [.ref (md 1), .ref (md 2), .ref (md 3), .int (nI hn), .ref (md 4), .ref (md 5), .ref (md 6), .int (nI tl), .int (nI sp), .int nu])), ((md 1), .inl (cI, 86, .inl a)), ((md 2), .inl (cI, 86, .inl kp)), ((md 3), .inl (cI, 516, .inl hs)), ((md 4), .inl (cI, 172, .inl t1)), ((md 5), .inl (cI, 2, .inl f_3)), ((md 6), .inl (cI, 60, .inl tx))] H := by rw [ef_3]; exact hP
          have hD : va_D A [((md 0), .inr (4, [.ref (md 1), .ref (md 2), .ref (md 3), .int (nI hn), .ref (md 4), .ref (md 5), .ref (md 6), .int (nI tl), .int (nI sp), .int nu])), ((md 1), .inl (cI, 86, .inl a)), ((md 2), .inl (cI, 86, .inl kp)), ((md 3), .inl (cI, 516, .inl hs)), ((md 4), .inl (cI, 172, .inl t1)), ((md 5), .inl (cI, 2, .inl f_3)), ((md 6), .inl (cI, 60, .inl tx))] := by rw [ef_3]; exact hD
          refine lv_aload_n (pc := 48) hx hb dX4_save_48 rfl (lv_at hl 1 rfl) ?_
          refine va_get (pc := 49) (D := D) (ci := 4) (v := .ref (md 1)) (C := RX4) (T := TX4) (N := 10) hx hb hts hi_X4_save_ok_X4 hown hK hP 0 rfl rfl 0 (by decide) (hts _ hw_X4_save_ok_2) (fun _ h9 => h9) rfl dX4_save_49 ?_
          refine lv_iconst (pc := 52) (v := 4) hx hb dX4_save_52 (by decide) ?_
          refine b_iald (pc := 53) hx hb hK hP 1 0 rfl rfl 4 rfl (by omega) (by decide) dX4_save_53 ?_
          subst ef_3
          subst hQ
          exact b_retW hx hb hr hlocks hS (rfl) (by subst ht; have e9 : i = 86 := (by omega); subst e9; exact hP) dX4_save_54
        · skip
          have c_2 : ¬ (86 ≤ i) := fun h9 => c_2 ((nI_leI (a := 86) (b := i) (by omega) (by omega)).mpr h9)
          refine lv_aload_n (pc := 18) hx hb dX4_save_18 rfl (lv_at hl 1 rfl) ?_
          refine va_get (pc := 19) (D := D) (ci := 4) (v := .ref (md 4)) (C := RX4) (T := TX4) (N := 10) hx hb hts hi_X4_save_ok_X4 hown hK hP 0 rfl rfl 4 (by decide) (hts _ hw_X4_save_ok_3) (fun _ h9 => h9) rfl dX4_save_19 ?_
          refine lv_bipush (pc := 22) (v := 86) hx hb dX4_save_22 (by decide) ?_
          refine lv_iload_n (pc := 24) hx hb dX4_save_24 rfl (lv_at hl 2 rfl) ?_
          refine lv_imul (pc := 25) hx hb dX4_save_25 ?_
          refine b_re (pk_mul 86 w1) ?_
          refine lv_iload_n (pc := 26) hx hb dX4_save_26 rfl (lv_at hl 0 rfl) ?_
          refine lv_iadd (pc := 27) hx hb dX4_save_27 ?_
          refine b_re (nI_add (86 * w1) i) ?_
          refine lv_aload_n (pc := 28) hx hb dX4_save_28 rfl (lv_at hl 1 rfl) ?_
          refine va_get (pc := 29) (D := D) (ci := 4) (v := .ref (md 1)) (C := RX4) (T := TX4) (N := 10) hx hb hts hi_X4_save_ok_X4 hown hK hP 0 rfl rfl 0 (by decide) (hts _ hw_X4_save_ok_2) (fun _ h9 => h9) rfl dX4_save_29 ?_
          refine lv_iload_n (pc := 32) hx hb dX4_save_32 rfl (lv_at hl 0 rfl) ?_
          refine b_iald (pc := 33) hx hb hK hP 1 0 rfl rfl i rfl (by omega) (by decide) dX4_save_33 ?_
          refine b_iast (pc := 34) hx hb hK hP hD hS 4 0 rfl rfl (86 * w1 + i) rfl (by omega) (by decide) dX4_save_34 (fun H locs hP hD hS => ?_)
          obtain ⟨f_4, ef_4⟩ : ∃ z9 : Nat → Int32, z9 = upd t1 (86 * w1 + i) (a i) := ⟨_, rfl⟩
          have hP : va_P D vwCl [((md 0), .inr (4, [.ref (md 1), .ref (md 2), .ref (md 3), .int (nI hn), .ref (md 4), .ref (md 5), .ref (md 6), .int (nI tl), .int (nI sp), .int nu])), ((md 1), .inl (cI, 86, .inl a)), ((md 2), .inl (cI, 86, .inl kp)), ((md 3), .inl (cI, 516, .inl hs)), ((md 4), .inl (cI, 172, .inl f_4)), ((md 5), .inl (cI, 2, .inl iv)), ((md 6), .inl (cI, 60, .inl tx))] H := by rw [ef_4]; exact hP
          have hD : va_D A [((md 0), .inr (4, [.ref (md 1), .ref (md 2), .ref (md 3), .int (nI hn), .ref (md 4), .ref (md 5), .ref (md 6), .int (nI tl), .int (nI sp), .int nu])), ((md 1), .inl (cI, 86, .inl a)), ((md 2), .inl (cI, 86, .inl kp)), ((md 3), .inl (cI, 516, .inl hs)), ((md 4), .inl (cI, 172, .inl f_4)), ((md 5), .inl (cI, 2, .inl iv)), ((md 6), .inl (cI, 60, .inl tx))] := by rw [ef_4]; exact hD
          refine lv_iinc (pc := 35) (v := nI (i + 1)) (lv' := [(2, .int (nI (i + 1))), (0, .ref (md 0)), (1, .int (nI w1))]) hx hb dX4_save_35 hl (k := 0) rfl (nI_add i 1) (by decide) rfl (fun ls hl => ?_)
          refine lv_goto (pc := 38) (tgt := 12) hx hb dX4_save_38 (by decide) ?_
          exact ih_12 (i + 1) f_4 (by omega) (by rw [ef_4, ht]; have h9 := b_cpy_s a sl 0 (86 * w1) i; (try simp only [Nat.zero_add] at h9); exact h9) (by omega) _ _ (hP.sub [0, 1, 2, 3, 4, 5, 6] rfl) (hD.sub [0, 1, 2, 3, 4, 5, 6] (by decide) rfl) hS ls (lv_sub hl [0, 1, 2] rfl)
    exact loop_12 87 0 sl (Nat.zero_le _) ((b_cpy_0 _ _ _ _).symm) (by omega) _ _ (hP.sub [0, 1, 2, 3, 4, 5, 6] rfl) (hD.sub [0, 1, 2, 3, 4, 5, 6] (by decide) rfl) hS ls (lv_sub hl [0, 1, 2] rfl)
  · skip
    have c_1 : ¬ ((nI w1) = 0 ∨ (nI w1) = 1) := b_i_0.mp c_1
    exact absurd (m_isl hw1) c_1
set_option maxHeartbeats 4000000 in
set_option maxRecDepth 100000 in
theorem c_X4_restore_bad (l : Launch) (D : va_G) (cI cC cZ cG : ClassId) (md : Nat → Nat) (a : Nat → Int32) (kp : Nat → Int32) (hs : Nat → Int32) (hn : Nat) (sl : Nat → Int32) (iv : Nat → Int32) (tx : Nat → Int32) (tl : Nat) (sp : Nat) (nu : Int32) (x : Int32) (hbad : x < 0 ∨ ¬ x < 2) : Met l yX4_restore wsX4_restore ({ frames := 1, cells := 0, slots := 0, locals := 20 } : Room) (b_R D (b_T cI cC cZ cG) [((md 0), .inr (4, [.ref (md 1), .ref (md 2), .ref (md 3), .int (nI hn), .ref (md 4), .ref (md 5), .ref (md 6), .int (nI tl), .int (nI sp), .int nu])), ((md 1), .inl (cI, 86, .inl a)), ((md 2), .inl (cI, 86, .inl kp)), ((md 3), .inl (cI, 516, .inl hs)), ((md 4), .inl (cI, 172, .inl sl)), ((md 5), .inl (cI, 2, .inl iv)), ((md 6), .inl (cI, 60, .inl tx))] [.ref (md 0), .int x]) (vp_Si (fun r => r = -2)) 0 0 (fun _ => False) := by
  refine b_enterR (cc := cX4_restore) (maxL := 3) (ret := (some .int)) (by decide) rfl (Nat.le_of_ble_eq_true rfl) ?_
  intro p e s m below meth c ls hx hb hr hml hown hts hlocks hP hK hl Q hQ
  have hown : s.vm.findClass RX4 = some m.cls := hown
  have hl : lv_has ls 3 [(0, .ref (md 0)), (1, .int x)] := hl
  refine lv_iload_n (pc := 0) hx hb dX4_restore_0 rfl (lv_at hl 1 rfl) ?_
  refine b_cR (pc := 1) (va_runS (As := [.int x]) (rest := []) ⟨hx, hb, hml, hown, hts⟩ (c_X4_isSlot l D cI cC cZ cG x) (va_cwS 1 hts gX4_restore_X4_isSlot rfl rfl rfl hyS_X4_isSlot ⟨Nat.le_of_ble_eq_true rfl, Nat.le_of_ble_eq_true rfl⟩) (b_pRS (wc := []) hK hP [] rfl) rfl rfl hl.1 rfl (lv_room (Nat.le_of_ble_eq_true rfl)) dX4_restore_1 ⟨Nat.zero_le _, Nat.zero_le _⟩) ?_
  refine lv_if_ne (pc := 4) (tgt := 10) hx hb dX4_restore_4 (by decide) (fun c_1 => ?_) (fun c_1 => ?_)
  · skip
    have c_1 : x = 0 ∨ x = 1 := Classical.not_not.mp (fun h9 => c_1 (b_i_0.mpr h9))
    exact absurd c_1 (m_nsl hbad)
  · skip
    have c_1 : ¬ (x = 0 ∨ x = 1) := b_i_0.mp c_1
    refine lv_bipush (pc := 7) (v := (-2)) hx hb dX4_restore_7 (by decide) ?_
    subst hQ
    exact b_retR hx hb hr hlocks (rfl) dX4_restore_9
theorem hw_X4_restore_none_0 : (.fieldLink RX4 22 "BeamTurnstilesModel" "isSaved" "[I" : Cond) ∈ wsX4_restore := by decide +kernel
theorem hi_X4_restore_none_X4 : ∀ w ∈ wsX40, w ∈ wsX4_restore := by decide +kernel
set_option maxHeartbeats 4000000 in
set_option maxRecDepth 100000 in
theorem c_X4_restore_none (l : Launch) (D : va_G) (cI cC cZ cG : ClassId) (md : Nat → Nat) (a : Nat → Int32) (kp : Nat → Int32) (hs : Nat → Int32) (hn : Nat) (sl : Nat → Int32) (iv : Nat → Int32) (tx : Nat → Int32) (tl : Nat) (sp : Nat) (nu : Int32) (w1 : Nat) (hw1 : w1 < 2) (hbad : iv w1 = 0) : Met l yX4_restore wsX4_restore ({ frames := 1, cells := 0, slots := 0, locals := 20 } : Room) (b_R D (b_T cI cC cZ cG) [((md 0), .inr (4, [.ref (md 1), .ref (md 2), .ref (md 3), .int (nI hn), .ref (md 4), .ref (md 5), .ref (md 6), .int (nI tl), .int (nI sp), .int nu])), ((md 1), .inl (cI, 86, .inl a)), ((md 2), .inl (cI, 86, .inl kp)), ((md 3), .inl (cI, 516, .inl hs)), ((md 4), .inl (cI, 172, .inl sl)), ((md 5), .inl (cI, 2, .inl iv)), ((md 6), .inl (cI, 60, .inl tx))] [.ref (md 0), .int (nI w1)]) (vp_Si (fun r => r = -5)) 0 0 (fun _ => False) := by
  refine b_enterR (cc := cX4_restore) (maxL := 3) (ret := (some .int)) (by decide) rfl (Nat.le_of_ble_eq_true rfl) ?_
  intro p e s m below meth c ls hx hb hr hml hown hts hlocks hP hK hl Q hQ
  have hown : s.vm.findClass RX4 = some m.cls := hown
  have hl : lv_has ls 3 [(0, .ref (md 0)), (1, .int (nI w1))] := hl
  refine lv_iload_n (pc := 0) hx hb dX4_restore_0 rfl (lv_at hl 1 rfl) ?_
  refine b_cR (pc := 1) (va_runS (As := [.int (nI w1)]) (rest := []) ⟨hx, hb, hml, hown, hts⟩ (c_X4_isSlot l D cI cC cZ cG (nI w1)) (va_cwS 1 hts gX4_restore_X4_isSlot rfl rfl rfl hyS_X4_isSlot ⟨Nat.le_of_ble_eq_true rfl, Nat.le_of_ble_eq_true rfl⟩) (b_pRS (wc := []) hK hP [] rfl) rfl rfl hl.1 rfl (lv_room (Nat.le_of_ble_eq_true rfl)) dX4_restore_1 ⟨Nat.zero_le _, Nat.zero_le _⟩) ?_
  refine lv_if_ne (pc := 4) (tgt := 10) hx hb dX4_restore_4 (by decide) (fun c_1 => ?_) (fun c_1 => ?_)
  · skip
    have c_1 : (nI w1) = 0 ∨ (nI w1) = 1 := Classical.not_not.mp (fun h9 => c_1 (b_i_0.mpr h9))
    refine lv_aload_n (pc := 10) hx hb dX4_restore_10 rfl (lv_at hl 0 rfl) ?_
    refine va_get (pc := 11) (D := D) (ci := 4) (v := .ref (md 5)) (C := RX4) (T := TX4) (N := 10) hx hb hts hi_X4_restore_none_X4 hown hK hP 0 rfl rfl 5 (by decide) (hts _ hw_X4_restore_none_0) (fun _ h9 => h9) rfl dX4_restore_11 ?_
    refine lv_iload_n (pc := 14) hx hb dX4_restore_14 rfl (lv_at hl 1 rfl) ?_
    refine b_iald (pc := 15) hx hb hK hP 5 0 rfl rfl w1 rfl (by omega) (by decide) dX4_restore_15 ?_
    refine lv_if_ne (pc := 16) (tgt := 22) hx hb dX4_restore_16 (by decide) (fun c_2 => ?_) (fun c_2 => ?_)
    · skip
      have c_2 : ¬ ((iv w1) = 0) := c_2
      exact absurd hbad c_2
    · skip
      have c_2 : (iv w1) = 0 := c_2
      refine lv_bipush (pc := 19) (v := (-5)) hx hb dX4_restore_19 (by decide) ?_
      subst hQ
      exact b_retR hx hb hr hlocks (rfl) dX4_restore_21
  · skip
    have c_1 : ¬ ((nI w1) = 0 ∨ (nI w1) = 1) := b_i_0.mp c_1
    exact absurd (m_isl hw1) c_1
theorem hw_X4_restore_ok_0 : (.fieldLink RX4 22 "BeamTurnstilesModel" "isSaved" "[I" : Cond) ∈ wsX4_restore := by decide +kernel
theorem hi_X4_restore_ok_X4 : ∀ w ∈ wsX40, w ∈ wsX4_restore := by decide +kernel
theorem hw_X4_restore_ok_2 : (.fieldLink RX4 7 "BeamTurnstilesModel" "all" "[I" : Cond) ∈ wsX4_restore := by decide +kernel
theorem hw_X4_restore_ok_3 : (.fieldLink RX4 19 "BeamTurnstilesModel" "slots" "[I" : Cond) ∈ wsX4_restore := by decide +kernel
set_option maxHeartbeats 4000000 in
set_option maxRecDepth 100000 in
theorem c_X4_restore_ok (l : Launch) (D : va_G) (cI cC cZ cG : ClassId) (sz : Nat) (md : Nat → Nat) (a : Nat → Int32) (kp : Nat → Int32) (hs : Nat → Int32) (hn : Nat) (sl : Nat → Int32) (iv : Nat → Int32) (tx : Nat → Int32) (tl : Nat) (sp : Nat) (nu : Int32) (w1 : Nat) (hl6 : hn ≤ 6) (hw1 : w1 < 2) (hbad : ¬ iv w1 = 0) : Met l yX4_restore wsX4_restore ({ frames := 1, cells := 0, slots := 0, locals := 21 } : Room) (b_W D (b_T cI cC cZ cG) b_X0 [((md 0), .inr (4, [.ref (md 1), .ref (md 2), .ref (md 3), .int (nI hn), .ref (md 4), .ref (md 5), .ref (md 6), .int (nI tl), .int (nI sp), .int nu])), ((md 1), .inl (cI, 86, .inl a)), ((md 2), .inl (cI, 86, .inl kp)), ((md 3), .inl (cI, 516, .inl hs)), ((md 4), .inl (cI, 172, .inl sl)), ((md 5), .inl (cI, 2, .inl iv)), ((md 6), .inl (cI, 60, .inl tx))] sz [.ref (md 0), .int (nI w1)]) (b_Qi D (va_cpy sl a (86 * w1) 0 86 4) [((md 0), .inr (4, [.ref (md 1), .ref (md 2), .ref (md 3), .int (nI (h_sz hn)), .ref (md 4), .ref (md 5), .ref (md 6), .int (nI tl), .int (nI sp), .int nu])), ((md 1), .inl (cI, 86, .inl (va_cpy sl a (86 * w1) 0 86))), ((md 2), .inl (cI, 86, .inl kp)), ((md 3), .inl (cI, 516, .inl (m_hs a hs hn))), ((md 4), .inl (cI, 172, .inl sl)), ((md 5), .inl (cI, 2, .inl iv)), ((md 6), .inl (cI, 60, .inl tx))] (va_A [((md 0), .inr (4, [.ref (md 1), .ref (md 2), .ref (md 3), .int (nI hn), .ref (md 4), .ref (md 5), .ref (md 6), .int (nI tl), .int (nI sp), .int nu])), ((md 1), .inl (cI, 86, .inl a)), ((md 2), .inl (cI, 86, .inl kp)), ((md 3), .inl (cI, 516, .inl hs)), ((md 4), .inl (cI, 172, .inl sl)), ((md 5), .inl (cI, 2, .inl iv)), ((md 6), .inl (cI, 60, .inl tx))] sz)) 0 0 (va_A [((md 0), .inr (4, [.ref (md 1), .ref (md 2), .ref (md 3), .int (nI hn), .ref (md 4), .ref (md 5), .ref (md 6), .int (nI tl), .int (nI sp), .int nu])), ((md 1), .inl (cI, 86, .inl a)), ((md 2), .inl (cI, 86, .inl kp)), ((md 3), .inl (cI, 516, .inl hs)), ((md 4), .inl (cI, 172, .inl sl)), ((md 5), .inl (cI, 2, .inl iv)), ((md 6), .inl (cI, 60, .inl tx))] sz) := by
  refine b_enterW (Qc := fun A => b_Qi D (va_cpy sl a (86 * w1) 0 86 4) [((md 0), .inr (4, [.ref (md 1), .ref (md 2), .ref (md 3), .int (nI (h_sz hn)), .ref (md 4), .ref (md 5), .ref (md 6), .int (nI tl), .int (nI sp), .int nu])), ((md 1), .inl (cI, 86, .inl (va_cpy sl a (86 * w1) 0 86))), ((md 2), .inl (cI, 86, .inl kp)), ((md 3), .inl (cI, 516, .inl (m_hs a hs hn))), ((md 4), .inl (cI, 172, .inl sl)), ((md 5), .inl (cI, 2, .inl iv)), ((md 6), .inl (cI, 60, .inl tx))] A) (cc := cX4_restore) (maxL := 3) (ret := (some .int)) (by decide) rfl (Nat.le_of_ble_eq_true rfl) ?_
  intro p e s m below meth c ls A hx hb hr hml hown hts hlocks hname hP hK hD hA hS hX hl Q hQ
  have hown : s.vm.findClass RX4 = some m.cls := hown
  have hl : lv_has ls 3 [(0, .ref (md 0)), (1, .int (nI w1))] := hl
  refine lv_iload_n (pc := 0) hx hb dX4_restore_0 rfl (lv_at hl 1 rfl) ?_
  refine b_cR (pc := 1) (va_runS (As := [.int (nI w1)]) (rest := []) ⟨hx, hb, hml, hown, hts⟩ (c_X4_isSlot l D cI cC cZ cG (nI w1)) (va_cwS 1 hts gX4_restore_X4_isSlot rfl rfl rfl hyS_X4_isSlot ⟨Nat.le_of_ble_eq_true rfl, Nat.le_of_ble_eq_true rfl⟩) (b_pRS (wc := []) hK hP [] rfl) rfl rfl hl.1 rfl (lv_room (Nat.le_of_ble_eq_true rfl)) dX4_restore_1 ⟨Nat.zero_le _, Nat.zero_le _⟩) ?_
  refine lv_if_ne (pc := 4) (tgt := 10) hx hb dX4_restore_4 (by decide) (fun c_1 => ?_) (fun c_1 => ?_)
  · skip
    have c_1 : (nI w1) = 0 ∨ (nI w1) = 1 := Classical.not_not.mp (fun h9 => c_1 (b_i_0.mpr h9))
    refine lv_aload_n (pc := 10) hx hb dX4_restore_10 rfl (lv_at hl 0 rfl) ?_
    refine va_get (pc := 11) (D := D) (ci := 4) (v := .ref (md 5)) (C := RX4) (T := TX4) (N := 10) hx hb hts hi_X4_restore_ok_X4 hown hK hP 0 rfl rfl 5 (by decide) (hts _ hw_X4_restore_ok_0) (fun _ h9 => h9) rfl dX4_restore_11 ?_
    refine lv_iload_n (pc := 14) hx hb dX4_restore_14 rfl (lv_at hl 1 rfl) ?_
    refine b_iald (pc := 15) hx hb hK hP 5 0 rfl rfl w1 rfl (by omega) (by decide) dX4_restore_15 ?_
    refine lv_if_ne (pc := 16) (tgt := 22) hx hb dX4_restore_16 (by decide) (fun c_2 => ?_) (fun c_2 => ?_)
    · skip
      have c_2 : ¬ ((iv w1) = 0) := c_2
      refine lv_aload_n (pc := 22) hx hb dX4_restore_22 rfl (lv_at hl 0 rfl) ?_
      refine b_cV (pc := 23) (w1 := [((md 0), .inr (4, [.ref (md 1), .ref (md 2), .ref (md 3), .int (nI (h_sz hn)), .ref (md 4), .ref (md 5), .ref (md 6), .int (nI tl), .int (nI sp), .int nu])), ((md 1), .inl (cI, 86, .inl a)), ((md 2), .inl (cI, 86, .inl kp)), ((md 3), .inl (cI, 516, .inl (m_hs a hs hn))), ((md 4), .inl (cI, 172, .inl sl)), ((md 5), .inl (cI, 2, .inl iv)), ((md 6), .inl (cI, 60, .inl tx))]) (va_runV (As := []) (rest := []) ⟨hx, hb, hml, hown, hts⟩ (c_X4_changes l D cI cC cZ cG s.heap.size md a kp hs hn sl iv tx tl sp nu (by first | omega | assumption)) (cwV 0 hts gX4_restore_X4_changes rfl rfl rfl hy_X4_changes ⟨Nat.le_of_ble_eq_true rfl, Nat.le_of_ble_eq_true rfl⟩) (b_pWV (wc := [((md 0), .inr (4, [.ref (md 1), .ref (md 2), .ref (md 3), .int (nI hn), .ref (md 4), .ref (md 5), .ref (md 6), .int (nI tl), .int (nI sp), .int nu])), ((md 1), .inl (cI, 86, .inl a)), ((md 2), .inl (cI, 86, .inl kp)), ((md 3), .inl (cI, 516, .inl hs)), ((md 4), .inl (cI, 172, .inl sl)), ((md 5), .inl (cI, 2, .inl iv)), ((md 6), .inl (cI, 60, .inl tx))]) hK hP hD b_Xok_0 [0, 1, 2, 3, 4, 5, 6] rfl (by decide) rfl trivial (ci := 4) (q0 := 0) rfl rfl) rfl rfl hl.1 rfl (lv_room (Nat.le_of_ble_eq_true rfl)) dX4_restore_23 ⟨Nat.zero_le _, Nat.zero_le _⟩) hP hD hS hA [0, 1, 2, 3, 4, 5, 6] rfl rfl (fun H locs hP hD hS => ?_)
      have hP : va_P D vwCl [((md 0), .inr (4, [.ref (md 1), .ref (md 2), .ref (md 3), .int (nI (h_sz hn)), .ref (md 4), .ref (md 5), .ref (md 6), .int (nI tl), .int (nI sp), .int nu])), ((md 1), .inl (cI, 86, .inl a)), ((md 2), .inl (cI, 86, .inl kp)), ((md 3), .inl (cI, 516, .inl (m_hs a hs hn))), ((md 4), .inl (cI, 172, .inl sl)), ((md 5), .inl (cI, 2, .inl iv)), ((md 6), .inl (cI, 60, .inl tx))] H := hP
      have hD : va_D A [((md 0), .inr (4, [.ref (md 1), .ref (md 2), .ref (md 3), .int (nI (h_sz hn)), .ref (md 4), .ref (md 5), .ref (md 6), .int (nI tl), .int (nI sp), .int nu])), ((md 1), .inl (cI, 86, .inl a)), ((md 2), .inl (cI, 86, .inl kp)), ((md 3), .inl (cI, 516, .inl (m_hs a hs hn))), ((md 4), .inl (cI, 172, .inl sl)), ((md 5), .inl (cI, 2, .inl iv)), ((md 6), .inl (cI, 60, .inl tx))] := hD
      obtain ⟨f_3, ef_3⟩ : ∃ z9 : Nat → Int32, z9 = m_hs a hs hn := ⟨_, rfl⟩
      have hP : va_P D vwCl [((md 0), .inr (4, [.ref (md 1), .ref (md 2), .ref (md 3), .int (nI (h_sz hn)), .ref (md 4), .ref (md 5), .ref (md 6), .int (nI tl), .int (nI sp), .int nu])), ((md 1), .inl (cI, 86, .inl a)), ((md 2), .inl (cI, 86, .inl kp)), ((md 3), .inl (cI, 516, .inl f_3)), ((md 4), .inl (cI, 172, .inl sl)), ((md 5), .inl (cI, 2, .inl iv)), ((md 6), .inl (cI, 60, .inl tx))] H := by rw [ef_3]; exact hP
      have hD : va_D A [((md 0), .inr (4, [.ref (md 1), .ref (md 2), .ref (md 3), .int (nI (h_sz hn)), .ref (md 4), .ref (md 5), .ref (md 6), .int (nI tl), .int (nI sp), .int nu])), ((md 1), .inl (cI, 86, .inl a)), ((md 2), .inl (cI, 86, .inl kp)), ((md 3), .inl (cI, 516, .inl f_3)), ((md 4), .inl (cI, 172, .inl sl)), ((md 5), .inl (cI, 2, .inl iv)), ((md 6), .inl (cI, 60, .inl tx))] := by rw [ef_3]; exact hD
      refine lv_iconst (pc := 26) (v := 0) hx hb dX4_restore_26 (by decide) ?_
      refine lv_istore_n (pc := 27) (lv' := [(2, .int 0), (0, .ref (md 0)), (1, .int (nI w1))]) hx hb dX4_restore_27 rfl hl (by decide) rfl (fun ls hl => ?_)
      have loop_28 : ∀ (fu : Nat) (i : Nat) (t1 : Nat → Int32), (i ≤ 86) → (t1 = va_cpy sl a (86 * w1) 0 i) → 86 - i < fu → ∀ (H : Heap) (locs : List Loc), va_P D vwCl [((md 0), .inr (4, [.ref (md 1), .ref (md 2), .ref (md 3), .int (nI (h_sz hn)), .ref (md 4), .ref (md 5), .ref (md 6), .int (nI tl), .int (nI sp), .int nu])), ((md 1), .inl (cI, 86, .inl t1)), ((md 2), .inl (cI, 86, .inl kp)), ((md 3), .inl (cI, 516, .inl f_3)), ((md 4), .inl (cI, 172, .inl sl)), ((md 5), .inl (cI, 2, .inl iv)), ((md 6), .inl (cI, 60, .inl tx))] H → va_D A [((md 0), .inr (4, [.ref (md 1), .ref (md 2), .ref (md 3), .int (nI (h_sz hn)), .ref (md 4), .ref (md 5), .ref (md 6), .int (nI tl), .int (nI sp), .int nu])), ((md 1), .inl (cI, 86, .inl t1)), ((md 2), .inl (cI, 86, .inl kp)), ((md 3), .inl (cI, 516, .inl f_3)), ((md 4), .inl (cI, 172, .inl sl)), ((md 5), .inl (cI, 2, .inl iv)), ((md 6), .inl (cI, 60, .inl tx))] → va_S A s.heap H locs → ∀ (ls : Array Slot), lv_has ls 3 [(2, .int (nI i)), (0, .ref (md 0)), (1, .int (nI w1))] → W p l e ({ frames := 1, cells := 0, slots := 0, locals := 21 } : Room) s m ([.ref (md 0), .int (nI w1)] : List Value).toArray below meth c H locs 0 0 Q (F0 m 28 ls []) := by
        intro fu
        induction fu with
        | zero => intro i t1 hi ht hfu H locs hP hD hS ls hl; exact absurd hfu (Nat.not_lt_zero _)
        | succ fu ih_28 =>
          intro i t1 hi ht hfu H locs hP hD hS ls hl
          refine lv_iload_n (pc := 28) hx hb dX4_restore_28 rfl (lv_at hl 0 rfl) ?_
          refine lv_bipush (pc := 29) (v := 86) hx hb dX4_restore_29 (by decide) ?_
          refine lv_icmp_ge (pc := 31) (tgt := 57) hx hb dX4_restore_31 (by decide) (fun c_4 => ?_) (fun c_4 => ?_)
          · skip
            have c_4 : 86 ≤ i := (nI_leI (a := 86) (b := i) (by omega) (by omega)).mp c_4
            refine lv_aload_n (pc := 57) hx hb dX4_restore_57 rfl (lv_at hl 1 rfl) ?_
            refine va_get (pc := 58) (D := D) (ci := 4) (v := .ref (md 1)) (C := RX4) (T := TX4) (N := 10) hx hb hts hi_X4_restore_ok_X4 hown hK hP 0 rfl rfl 0 (by decide) (hts _ hw_X4_restore_ok_2) (fun _ h9 => h9) rfl dX4_restore_58 ?_
            refine lv_iconst (pc := 61) (v := 4) hx hb dX4_restore_61 (by decide) ?_
            refine b_iald (pc := 62) hx hb hK hP 1 0 rfl rfl 4 rfl (by omega) (by decide) dX4_restore_62 ?_
            subst ef_3
            subst hQ
            exact b_retW hx hb hr hlocks hS (by have e8 : i = 86 := (by omega); rw [ht, e8]) (by subst ht; have e9 : i = 86 := (by omega); subst e9; exact hP) dX4_restore_63
          · skip
            have c_4 : ¬ (86 ≤ i) := fun h9 => c_4 ((nI_leI (a := 86) (b := i) (by omega) (by omega)).mpr h9)
            refine lv_aload_n (pc := 34) hx hb dX4_restore_34 rfl (lv_at hl 1 rfl) ?_
            refine va_get (pc := 35) (D := D) (ci := 4) (v := .ref (md 1)) (C := RX4) (T := TX4) (N := 10) hx hb hts hi_X4_restore_ok_X4 hown hK hP 0 rfl rfl 0 (by decide) (hts _ hw_X4_restore_ok_2) (fun _ h9 => h9) rfl dX4_restore_35 ?_
            refine lv_iload_n (pc := 38) hx hb dX4_restore_38 rfl (lv_at hl 0 rfl) ?_
            refine lv_aload_n (pc := 39) hx hb dX4_restore_39 rfl (lv_at hl 1 rfl) ?_
            refine va_get (pc := 40) (D := D) (ci := 4) (v := .ref (md 4)) (C := RX4) (T := TX4) (N := 10) hx hb hts hi_X4_restore_ok_X4 hown hK hP 0 rfl rfl 4 (by decide) (hts _ hw_X4_restore_ok_3) (fun _ h9 => h9) rfl dX4_restore_40 ?_
            refine lv_bipush (pc := 43) (v := 86) hx hb dX4_restore_43 (by decide) ?_
            refine lv_iload_n (pc := 45) hx hb dX4_restore_45 rfl (lv_at hl 2 rfl) ?_
            refine lv_imul (pc := 46) hx hb dX4_restore_46 ?_
            refine b_re (pk_mul 86 w1) ?_
            refine lv_iload_n (pc := 47) hx hb dX4_restore_47 rfl (lv_at hl 0 rfl) ?_
            refine lv_iadd (pc := 48) hx hb dX4_restore_48 ?_
            refine b_re (nI_add (86 * w1) i) ?_
            refine b_iald (pc := 49) hx hb hK hP 4 0 rfl rfl (86 * w1 + i) rfl (by omega) (by decide) dX4_restore_49 ?_
            refine b_iast (pc := 50) hx hb hK hP hD hS 1 0 rfl rfl i rfl (by omega) (by decide) dX4_restore_50 (fun H locs hP hD hS => ?_)
            obtain ⟨f_5, ef_5⟩ : ∃ z9 : Nat → Int32, z9 = upd t1 i (sl (86 * w1 + i)) := ⟨_, rfl⟩
            have hP : va_P D vwCl [((md 0), .inr (4, [.ref (md 1), .ref (md 2), .ref (md 3), .int (nI (h_sz hn)), .ref (md 4), .ref (md 5), .ref (md 6), .int (nI tl), .int (nI sp), .int nu])), ((md 1), .inl (cI, 86, .inl f_5)), ((md 2), .inl (cI, 86, .inl kp)), ((md 3), .inl (cI, 516, .inl f_3)), ((md 4), .inl (cI, 172, .inl sl)), ((md 5), .inl (cI, 2, .inl iv)), ((md 6), .inl (cI, 60, .inl tx))] H := by rw [ef_5]; exact hP
            have hD : va_D A [((md 0), .inr (4, [.ref (md 1), .ref (md 2), .ref (md 3), .int (nI (h_sz hn)), .ref (md 4), .ref (md 5), .ref (md 6), .int (nI tl), .int (nI sp), .int nu])), ((md 1), .inl (cI, 86, .inl f_5)), ((md 2), .inl (cI, 86, .inl kp)), ((md 3), .inl (cI, 516, .inl f_3)), ((md 4), .inl (cI, 172, .inl sl)), ((md 5), .inl (cI, 2, .inl iv)), ((md 6), .inl (cI, 60, .inl tx))] := by rw [ef_5]; exact hD
            refine lv_iinc (pc := 51) (v := nI (i + 1)) (lv' := [(2, .int (nI (i + 1))), (0, .ref (md 0)), (1, .int (nI w1))]) hx hb dX4_restore_51 hl (k := 0) rfl (nI_add i 1) (by decide) rfl (fun ls hl => ?_)
            refine lv_goto (pc := 54) (tgt := 28) hx hb dX4_restore_54 (by decide) ?_
            exact ih_28 (i + 1) f_5 (by omega) (by rw [ef_5, ht]; have h9 := b_cpy_s sl a (86 * w1) 0 i; (try simp only [Nat.zero_add] at h9); exact h9) (by omega) _ _ (hP.sub [0, 1, 2, 3, 4, 5, 6] rfl) (hD.sub [0, 1, 2, 3, 4, 5, 6] (by decide) rfl) hS ls (lv_sub hl [0, 1, 2] rfl)
      exact loop_28 87 0 a (Nat.zero_le _) ((b_cpy_0 _ _ _ _).symm) (by omega) _ _ (hP.sub [0, 1, 2, 3, 4, 5, 6] rfl) (hD.sub [0, 1, 2, 3, 4, 5, 6] (by decide) rfl) hS ls (lv_sub hl [0, 1, 2] rfl)
    · skip
      have c_2 : (iv w1) = 0 := c_2
      exact absurd c_2 hbad
  · skip
    have c_1 : ¬ ((nI w1) = 0 ∨ (nI w1) = 1) := b_i_0.mp c_1
    exact absurd (m_isl hw1) c_1
