/-! the reference's public methods -/
theorem m_outN {w lo hi : Nat} {L U : Int64} (h1 : (nI lo).toInt64 = L) (h2 : (nI hi).toInt64 = U) (hw : w < 2 ^ 31) (hl : lo < 2 ^ 31) (hu : hi < 2 ^ 31) (hr : w < lo ∨ hi < w) : ¬ m_in (nI w).toInt64 L U := fun q => by
  have q2 := (m_inI h1 h2).mp q
  exact hr.elim (fun z => q2.1 ((nI_ltI hw hl).mpr z)) (fun z => q2.2 ((nI_ltI hu hw).mpr z))
theorem m_n13 {x : Int32} (h : x < 0 ∨ ¬ x < 13) : x.toInt < 0 ∨ 12 < x.toInt := by
  refine h.elim (fun q => Or.inl ?_) (fun q => Or.inr ?_)
  · rw [Int32.lt_iff_toInt_lt] at q
    have e : (0 : Int32).toInt = 0 := by decide
    omega
  · have q2 : (13 : Int32) ≤ x := Int32.not_lt.mp q
    rw [Int32.le_iff_toInt_le] at q2
    have e : (13 : Int32).toInt = 13 := by decide
    omega
theorem m_ne18 {x k : Int32} (h : x < 0 ∨ ¬ x < 18) (hk : ¬ k < 0) (hk2 : k < 18) : ¬ x = k := fun q => by
  subst q
  exact h.elim hk (fun z => z hk2)
def m_cor (a : Nat → Int32) (x : Int32) : Nat → Int32 := if x ≤ upd a 4 x 5 then upd (upd a 4 x) 5 (upd a 4 x 5) else upd (upd a 4 x) 5 x
def m_bus2 (a : Nat → Int32) : Nat → Int32 × Int32
  | 0 => (-6, 0)
  | k + 1 => (if m_thr a k ≤ (m_bus2 a k).2 then (m_bus2 a k).1 else nI k, if m_thr a k ≤ (m_bus2 a k).2 then (m_bus2 a k).2 else m_thr a k)
abbrev m_nu1 (tx : Nat → Int32) (tl : Nat) (nu : Int32) : Int32 := (m_ftl tx tl (tl + 1) 0 nu).2.2
abbrev m_rdx (tx : Nat → Int32) (tl : Nat) (nu : Int32) (a : Nat → Int32) : (Nat → Int32) × Int32 × Nat × Int32 := m_rd tx tl (tl + 1) 0 (m_nu1 tx tl nu) a 0
theorem m_cha_60 {n k : Nat} (h : n ≤ 60) (hk : k ≤ 8) : nI n + nI k ≤ 60 ↔ n + k ≤ 60 := by
  rw [nI_add]
  exact nI_leI (a := n + k) (b := 60) (by omega) (by omega)

set_option maxHeartbeats 4000000 in
set_option maxRecDepth 100000 in
theorem c_X4_isSetting_bad (l : Launch) (D : va_G) (cI cC cZ cG : ClassId) (x : Int32) (y : Int32) (hbad : p_n3 x) : Met l yX4_isSetting wsX4_isSetting ({ frames := 0, cells := 0, slots := 0, locals := 0 } : Room) (b_R D (b_T cI cC cZ cG) [] [.int x, .int y]) (vp_Si (fun r => r = 0)) 0 0 (fun _ => False) := by
  refine b_enterR (cc := cX4_isSetting) (maxL := 2) (ret := (some .boolean)) (by decide) rfl (Nat.le_of_ble_eq_true rfl) ?_
  intro p e s m below meth c ls hx hb hr hml hown hts hlocks hP hK hl Q hQ
  have hown : s.vm.findClass RX4 = some m.cls := hown
  have hl : lv_has ls 2 [(0, .int x), (1, .int y)] := hl
  refine lv_iload_n (pc := 0) hx hb dX4_isSetting_0 rfl (lv_at hl 0 rfl) ?_
  refine lv_tableOut (pc := 1) (tgt := 58) hx hb dX4_isSetting_1 (m_n3 hbad) (by decide) ?_
  refine lv_iconst (pc := 58) (v := 0) hx hb dX4_isSetting_58 (by decide) ?_
  subst hQ
  exact b_retRZ hx hb hr hlocks rfl (rfl) dX4_isSetting_59
theorem hw_X4_isSetting_0_0 : (.constantLong RX4 72 (200) : Cond) ∈ wsX4_isSetting := by decide +kernel
set_option maxHeartbeats 4000000 in
set_option maxRecDepth 100000 in
theorem c_X4_isSetting_0 (l : Launch) (D : va_G) (cI cC cZ cG : ClassId) (y : Int32) : Met l yX4_isSetting wsX4_isSetting ({ frames := 1, cells := 0, slots := 0, locals := 25 } : Room) (b_R D (b_T cI cC cZ cG) [] [.int (nI 0), .int y]) (vp_Si (fun r => r = b_i (m_set 0 y))) 0 0 (fun _ => False) := by
  refine b_enterR (cc := cX4_isSetting) (maxL := 2) (ret := (some .boolean)) (by decide) rfl (Nat.le_of_ble_eq_true rfl) ?_
  intro p e s m below meth c ls hx hb hr hml hown hts hlocks hP hK hl Q hQ
  have hown : s.vm.findClass RX4 = some m.cls := hown
  have hl : lv_has ls 2 [(0, .int (nI 0)), (1, .int y)] := hl
  refine lv_iload_n (pc := 0) hx hb dX4_isSetting_0 rfl (lv_at hl 0 rfl) ?_
  refine lv_tableIn (pc := 1) (tgt := 28) (off := 27) hx hb dX4_isSetting_1 (by decide) (by decide) (by decide) (by decide) ?_
  refine lv_iload_n (pc := 28) hx hb dX4_isSetting_28 rfl (lv_at hl 1 rfl) ?_
  refine lv_i2l (pc := 29) hx hb dX4_isSetting_29 rfl ?_
  refine lv_lconst (pc := 30) (v := 1) hx hb dX4_isSetting_30 (by decide) ?_
  refine lv_ldc2 (pc := 31) hx hb hown (hts _ hw_X4_isSetting_0_0) dX4_isSetting_31 ?_
  refine b_cR (pc := 34) (va_runS (As := [.long y.toInt64, .long 1, .long 200]) (rest := []) ⟨hx, hb, hml, hown, hts⟩ (c_X4_in l D cI cC cZ cG y.toInt64 1 200) (va_cwS 3 hts gX4_isSetting_X4_in rfl rfl rfl hyS_X4_in ⟨Nat.le_of_ble_eq_true rfl, Nat.le_of_ble_eq_true rfl⟩) (b_pRS (wc := []) hK hP [] rfl) rfl rfl hl.1 rfl (lv_room (Nat.le_of_ble_eq_true rfl)) dX4_isSetting_34 ⟨Nat.zero_le _, Nat.zero_le _⟩) ?_
  subst hQ
  exact b_retRZ hx hb hr hlocks b_i_nar (rfl) dX4_isSetting_37
theorem hw_X4_isSetting_1_0 : (.constantLong RX4 74 (50) : Cond) ∈ wsX4_isSetting := by decide +kernel
set_option maxHeartbeats 4000000 in
set_option maxRecDepth 100000 in
theorem c_X4_isSetting_1 (l : Launch) (D : va_G) (cI cC cZ cG : ClassId) (y : Int32) : Met l yX4_isSetting wsX4_isSetting ({ frames := 1, cells := 0, slots := 0, locals := 25 } : Room) (b_R D (b_T cI cC cZ cG) [] [.int (nI 1), .int y]) (vp_Si (fun r => r = b_i (m_set 1 y))) 0 0 (fun _ => False) := by
  refine b_enterR (cc := cX4_isSetting) (maxL := 2) (ret := (some .boolean)) (by decide) rfl (Nat.le_of_ble_eq_true rfl) ?_
  intro p e s m below meth c ls hx hb hr hml hown hts hlocks hP hK hl Q hQ
  have hown : s.vm.findClass RX4 = some m.cls := hown
  have hl : lv_has ls 2 [(0, .int (nI 1)), (1, .int y)] := hl
  refine lv_iload_n (pc := 0) hx hb dX4_isSetting_0 rfl (lv_at hl 0 rfl) ?_
  refine lv_tableIn (pc := 1) (tgt := 38) (off := 37) hx hb dX4_isSetting_1 (by decide) (by decide) (by decide) (by decide) ?_
  refine lv_iload_n (pc := 38) hx hb dX4_isSetting_38 rfl (lv_at hl 1 rfl) ?_
  refine lv_i2l (pc := 39) hx hb dX4_isSetting_39 rfl ?_
  refine lv_lconst (pc := 40) (v := 0) hx hb dX4_isSetting_40 (by decide) ?_
  refine lv_ldc2 (pc := 41) hx hb hown (hts _ hw_X4_isSetting_1_0) dX4_isSetting_41 ?_
  refine b_cR (pc := 44) (va_runS (As := [.long y.toInt64, .long 0, .long 50]) (rest := []) ⟨hx, hb, hml, hown, hts⟩ (c_X4_in l D cI cC cZ cG y.toInt64 0 50) (va_cwS 3 hts gX4_isSetting_X4_in rfl rfl rfl hyS_X4_in ⟨Nat.le_of_ble_eq_true rfl, Nat.le_of_ble_eq_true rfl⟩) (b_pRS (wc := []) hK hP [] rfl) rfl rfl hl.1 rfl (lv_room (Nat.le_of_ble_eq_true rfl)) dX4_isSetting_44 ⟨Nat.zero_le _, Nat.zero_le _⟩) ?_
  subst hQ
  exact b_retRZ hx hb hr hlocks b_i_nar (rfl) dX4_isSetting_47
theorem hw_X4_isSetting_2_0 : (.constantLong RX4 76 (500) : Cond) ∈ wsX4_isSetting := by decide +kernel
set_option maxHeartbeats 4000000 in
set_option maxRecDepth 100000 in
theorem c_X4_isSetting_2 (l : Launch) (D : va_G) (cI cC cZ cG : ClassId) (y : Int32) : Met l yX4_isSetting wsX4_isSetting ({ frames := 1, cells := 0, slots := 0, locals := 25 } : Room) (b_R D (b_T cI cC cZ cG) [] [.int (nI 2), .int y]) (vp_Si (fun r => r = b_i (m_set 2 y))) 0 0 (fun _ => False) := by
  refine b_enterR (cc := cX4_isSetting) (maxL := 2) (ret := (some .boolean)) (by decide) rfl (Nat.le_of_ble_eq_true rfl) ?_
  intro p e s m below meth c ls hx hb hr hml hown hts hlocks hP hK hl Q hQ
  have hown : s.vm.findClass RX4 = some m.cls := hown
  have hl : lv_has ls 2 [(0, .int (nI 2)), (1, .int y)] := hl
  refine lv_iload_n (pc := 0) hx hb dX4_isSetting_0 rfl (lv_at hl 0 rfl) ?_
  refine lv_tableIn (pc := 1) (tgt := 48) (off := 47) hx hb dX4_isSetting_1 (by decide) (by decide) (by decide) (by decide) ?_
  refine lv_iload_n (pc := 48) hx hb dX4_isSetting_48 rfl (lv_at hl 1 rfl) ?_
  refine lv_i2l (pc := 49) hx hb dX4_isSetting_49 rfl ?_
  refine lv_lconst (pc := 50) (v := 1) hx hb dX4_isSetting_50 (by decide) ?_
  refine lv_ldc2 (pc := 51) hx hb hown (hts _ hw_X4_isSetting_2_0) dX4_isSetting_51 ?_
  refine b_cR (pc := 54) (va_runS (As := [.long y.toInt64, .long 1, .long 500]) (rest := []) ⟨hx, hb, hml, hown, hts⟩ (c_X4_in l D cI cC cZ cG y.toInt64 1 500) (va_cwS 3 hts gX4_isSetting_X4_in rfl rfl rfl hyS_X4_in ⟨Nat.le_of_ble_eq_true rfl, Nat.le_of_ble_eq_true rfl⟩) (b_pRS (wc := []) hK hP [] rfl) rfl rfl hl.1 rfl (lv_room (Nat.le_of_ble_eq_true rfl)) dX4_isSetting_54 ⟨Nat.zero_le _, Nat.zero_le _⟩) ?_
  subst hQ
  exact b_retRZ hx hb hr hlocks b_i_nar (rfl) dX4_isSetting_57
set_option maxHeartbeats 4000000 in
set_option maxRecDepth 100000 in
theorem c_X4_isSetting (l : Launch) (D : va_G) (cI cC cZ cG : ClassId) (s1 : Nat) (y : Int32) (hs : s1 < 3) : Met l yX4_isSetting wsX4_isSetting ({ frames := 1, cells := 0, slots := 0, locals := 25 } : Room) (b_R D (b_T cI cC cZ cG) [] [.int (nI s1), .int y]) (vp_Si (fun r => r = b_i (m_set s1 y))) 0 0 (fun _ => False) := by
  match s1, hs with
  | 0, _ => exact c_X4_isSetting_0 l D cI cC cZ cG y
  | 1, _ => exact c_X4_isSetting_1 l D cI cC cZ cG y
  | 2, _ => exact c_X4_isSetting_2 l D cI cC cZ cG y
  | k + 3, h9 => exact absurd h9 (by omega)
set_option maxHeartbeats 4000000 in
set_option maxRecDepth 100000 in
theorem c_X4_set_bad (l : Launch) (D : va_G) (cI cC cZ cG : ClassId) (md : Nat → Nat) (a : Nat → Int32) (kp : Nat → Int32) (hs : Nat → Int32) (hn : Nat) (sl : Nat → Int32) (iv : Nat → Int32) (tx : Nat → Int32) (tl : Nat) (sp : Nat) (nu : Int32) (x : Int32) (y : Int32) (hbad : p_n3 x) : Met l yX4_set wsX4_set ({ frames := 1, cells := 0, slots := 0, locals := 21 } : Room) (b_R D (b_T cI cC cZ cG) [((md 0), .inr (4, [.ref (md 1), .ref (md 2), .ref (md 3), .int (nI hn), .ref (md 4), .ref (md 5), .ref (md 6), .int (nI tl), .int (nI sp), .int nu])), ((md 1), .inl (cI, 86, .inl a)), ((md 2), .inl (cI, 86, .inl kp)), ((md 3), .inl (cI, 516, .inl hs)), ((md 4), .inl (cI, 172, .inl sl)), ((md 5), .inl (cI, 2, .inl iv)), ((md 6), .inl (cI, 60, .inl tx))] [.ref (md 0), .int x, .int y]) (vp_Si (fun r => r = -2)) 0 0 (fun _ => False) := by
  refine b_enterR (cc := cX4_set) (maxL := 4) (ret := (some .int)) (by decide) rfl (Nat.le_of_ble_eq_true rfl) ?_
  intro p e s m below meth c ls hx hb hr hml hown hts hlocks hP hK hl Q hQ
  have hown : s.vm.findClass RX4 = some m.cls := hown
  have hl : lv_has ls 4 [(0, .ref (md 0)), (1, .int x), (2, .int y)] := hl
  refine lv_iload_n (pc := 0) hx hb dX4_set_0 rfl (lv_at hl 1 rfl) ?_
  refine lv_iload_n (pc := 1) hx hb dX4_set_1 rfl (lv_at hl 2 rfl) ?_
  refine b_cR (pc := 2) (va_runS (As := [.int x, .int y]) (rest := []) ⟨hx, hb, hml, hown, hts⟩ (c_X4_isSetting_bad l D cI cC cZ cG x y (by first | omega | assumption)) (va_cwS 2 hts gX4_set_X4_isSetting rfl rfl rfl hyS_X4_isSetting ⟨Nat.le_of_ble_eq_true rfl, Nat.le_of_ble_eq_true rfl⟩) (b_pRS (wc := []) hK hP [] rfl) rfl rfl hl.1 rfl (lv_room (Nat.le_of_ble_eq_true rfl)) dX4_set_2 ⟨Nat.zero_le _, Nat.zero_le _⟩) ?_
  refine lv_if_ne (pc := 5) (tgt := 11) hx hb dX4_set_5 (by decide) (fun c_1 => ?_) (fun c_1 => ?_)
  · skip
    exact absurd c_1 (by decide)
  · skip
    refine lv_bipush (pc := 8) (v := (-2)) hx hb dX4_set_8 (by decide) ?_
    subst hQ
    exact b_retR hx hb hr hlocks (rfl) dX4_set_10
set_option maxHeartbeats 4000000 in
set_option maxRecDepth 100000 in
theorem c_X4_set_rng (l : Launch) (D : va_G) (cI cC cZ cG : ClassId) (md : Nat → Nat) (a : Nat → Int32) (kp : Nat → Int32) (hs : Nat → Int32) (hn : Nat) (sl : Nat → Int32) (iv : Nat → Int32) (tx : Nat → Int32) (tl : Nat) (sp : Nat) (nu : Int32) (s1 : Nat) (y : Int32) (hs3 : s1 < 3) (hbad : y < b_lo s1 ∨ ¬ y ≤ b_hi s1) : Met l yX4_set wsX4_set ({ frames := 2, cells := 0, slots := 0, locals := 46 } : Room) (b_R D (b_T cI cC cZ cG) [((md 0), .inr (4, [.ref (md 1), .ref (md 2), .ref (md 3), .int (nI hn), .ref (md 4), .ref (md 5), .ref (md 6), .int (nI tl), .int (nI sp), .int nu])), ((md 1), .inl (cI, 86, .inl a)), ((md 2), .inl (cI, 86, .inl kp)), ((md 3), .inl (cI, 516, .inl hs)), ((md 4), .inl (cI, 172, .inl sl)), ((md 5), .inl (cI, 2, .inl iv)), ((md 6), .inl (cI, 60, .inl tx))] [.ref (md 0), .int (nI s1), .int y]) (vp_Si (fun r => r = -2)) 0 0 (fun _ => False) := by
  refine b_enterR (cc := cX4_set) (maxL := 4) (ret := (some .int)) (by decide) rfl (Nat.le_of_ble_eq_true rfl) ?_
  intro p e s m below meth c ls hx hb hr hml hown hts hlocks hP hK hl Q hQ
  have hown : s.vm.findClass RX4 = some m.cls := hown
  have hl : lv_has ls 4 [(0, .ref (md 0)), (1, .int (nI s1)), (2, .int y)] := hl
  refine lv_iload_n (pc := 0) hx hb dX4_set_0 rfl (lv_at hl 1 rfl) ?_
  refine lv_iload_n (pc := 1) hx hb dX4_set_1 rfl (lv_at hl 2 rfl) ?_
  refine b_cR (pc := 2) (va_runS (As := [.int (nI s1), .int y]) (rest := []) ⟨hx, hb, hml, hown, hts⟩ (c_X4_isSetting l D cI cC cZ cG s1 y (by first | omega | assumption)) (va_cwS 2 hts gX4_set_X4_isSetting rfl rfl rfl hyS_X4_isSetting ⟨Nat.le_of_ble_eq_true rfl, Nat.le_of_ble_eq_true rfl⟩) (b_pRS (wc := []) hK hP [] rfl) rfl rfl hl.1 rfl (lv_room (Nat.le_of_ble_eq_true rfl)) dX4_set_2 ⟨Nat.zero_le _, Nat.zero_le _⟩) ?_
  refine lv_if_ne (pc := 5) (tgt := 11) hx hb dX4_set_5 (by decide) (fun c_1 => ?_) (fun c_1 => ?_)
  · skip
    have c_1 : m_set s1 y := Classical.not_not.mp (fun h9 => c_1 (b_i_0.mpr h9))
    exact absurd c_1 (m_set_no hs3 hbad)
  · skip
    have c_1 : ¬ (m_set s1 y) := b_i_0.mp c_1
    refine lv_bipush (pc := 8) (v := (-2)) hx hb dX4_set_8 (by decide) ?_
    subst hQ
    exact b_retR hx hb hr hlocks (rfl) dX4_set_10
theorem hw_X4_set_ok_0 : (.fieldLink RX4 7 "BeamTurnstilesModel" "all" "[I" : Cond) ∈ wsX4_set := by decide +kernel
theorem hi_X4_set_ok_X4 : ∀ w ∈ wsX40, w ∈ wsX4_set := by decide +kernel
set_option maxHeartbeats 4000000 in
set_option maxRecDepth 100000 in
theorem c_X4_set_ok (l : Launch) (D : va_G) (cI cC cZ cG : ClassId) (sz : Nat) (md : Nat → Nat) (a : Nat → Int32) (kp : Nat → Int32) (hs : Nat → Int32) (hn : Nat) (sl : Nat → Int32) (iv : Nat → Int32) (tx : Nat → Int32) (tl : Nat) (sp : Nat) (nu : Int32) (s1 : Nat) (y : Int32) (hl6 : hn ≤ 6) (hs3 : s1 < 3) (h1 : ¬ y < b_lo s1) (h2 : y ≤ b_hi s1) : Met l yX4_set wsX4_set ({ frames := 2, cells := 0, slots := 0, locals := 46 } : Room) (b_W D (b_T cI cC cZ cG) b_X0 [((md 0), .inr (4, [.ref (md 1), .ref (md 2), .ref (md 3), .int (nI hn), .ref (md 4), .ref (md 5), .ref (md 6), .int (nI tl), .int (nI sp), .int nu])), ((md 1), .inl (cI, 86, .inl a)), ((md 2), .inl (cI, 86, .inl kp)), ((md 3), .inl (cI, 516, .inl hs)), ((md 4), .inl (cI, 172, .inl sl)), ((md 5), .inl (cI, 2, .inl iv)), ((md 6), .inl (cI, 60, .inl tx))] sz [.ref (md 0), .int (nI s1), .int y]) (b_Qi D (a s1) [((md 0), .inr (4, [.ref (md 1), .ref (md 2), .ref (md 3), .int (nI (h_sz hn)), .ref (md 4), .ref (md 5), .ref (md 6), .int (nI tl), .int (nI sp), .int nu])), ((md 1), .inl (cI, 86, .inl (upd a s1 y))), ((md 2), .inl (cI, 86, .inl kp)), ((md 3), .inl (cI, 516, .inl (m_hs a hs hn))), ((md 4), .inl (cI, 172, .inl sl)), ((md 5), .inl (cI, 2, .inl iv)), ((md 6), .inl (cI, 60, .inl tx))] (va_A [((md 0), .inr (4, [.ref (md 1), .ref (md 2), .ref (md 3), .int (nI hn), .ref (md 4), .ref (md 5), .ref (md 6), .int (nI tl), .int (nI sp), .int nu])), ((md 1), .inl (cI, 86, .inl a)), ((md 2), .inl (cI, 86, .inl kp)), ((md 3), .inl (cI, 516, .inl hs)), ((md 4), .inl (cI, 172, .inl sl)), ((md 5), .inl (cI, 2, .inl iv)), ((md 6), .inl (cI, 60, .inl tx))] sz)) 0 0 (va_A [((md 0), .inr (4, [.ref (md 1), .ref (md 2), .ref (md 3), .int (nI hn), .ref (md 4), .ref (md 5), .ref (md 6), .int (nI tl), .int (nI sp), .int nu])), ((md 1), .inl (cI, 86, .inl a)), ((md 2), .inl (cI, 86, .inl kp)), ((md 3), .inl (cI, 516, .inl hs)), ((md 4), .inl (cI, 172, .inl sl)), ((md 5), .inl (cI, 2, .inl iv)), ((md 6), .inl (cI, 60, .inl tx))] sz) := by
  refine b_enterW (Qc := fun A => b_Qi D (a s1) [((md 0), .inr (4, [.ref (md 1), .ref (md 2), .ref (md 3), .int (nI (h_sz hn)), .ref (md 4), .ref (md 5), .ref (md 6), .int (nI tl), .int (nI sp), .int nu])), ((md 1), .inl (cI, 86, .inl (upd a s1 y))), ((md 2), .inl (cI, 86, .inl kp)), ((md 3), .inl (cI, 516, .inl (m_hs a hs hn))), ((md 4), .inl (cI, 172, .inl sl)), ((md 5), .inl (cI, 2, .inl iv)), ((md 6), .inl (cI, 60, .inl tx))] A) (cc := cX4_set) (maxL := 4) (ret := (some .int)) (by decide) rfl (Nat.le_of_ble_eq_true rfl) ?_
  intro p e s m below meth c ls A hx hb hr hml hown hts hlocks hname hP hK hD hA hS hX hl Q hQ
  have hown : s.vm.findClass RX4 = some m.cls := hown
  have hl : lv_has ls 4 [(0, .ref (md 0)), (1, .int (nI s1)), (2, .int y)] := hl
  refine lv_iload_n (pc := 0) hx hb dX4_set_0 rfl (lv_at hl 1 rfl) ?_
  refine lv_iload_n (pc := 1) hx hb dX4_set_1 rfl (lv_at hl 2 rfl) ?_
  refine b_cR (pc := 2) (va_runS (As := [.int (nI s1), .int y]) (rest := []) ⟨hx, hb, hml, hown, hts⟩ (c_X4_isSetting l D cI cC cZ cG s1 y (by first | omega | assumption)) (va_cwS 2 hts gX4_set_X4_isSetting rfl rfl rfl hyS_X4_isSetting ⟨Nat.le_of_ble_eq_true rfl, Nat.le_of_ble_eq_true rfl⟩) (b_pRS (wc := []) hK hP [] rfl) rfl rfl hl.1 rfl (lv_room (Nat.le_of_ble_eq_true rfl)) dX4_set_2 ⟨Nat.zero_le _, Nat.zero_le _⟩) ?_
  refine lv_if_ne (pc := 5) (tgt := 11) hx hb dX4_set_5 (by decide) (fun c_1 => ?_) (fun c_1 => ?_)
  · skip
    have c_1 : m_set s1 y := Classical.not_not.mp (fun h9 => c_1 (b_i_0.mpr h9))
    refine lv_aload_n (pc := 11) hx hb dX4_set_11 rfl (lv_at hl 0 rfl) ?_
    refine b_cV (pc := 12) (w1 := [((md 0), .inr (4, [.ref (md 1), .ref (md 2), .ref (md 3), .int (nI (h_sz hn)), .ref (md 4), .ref (md 5), .ref (md 6), .int (nI tl), .int (nI sp), .int nu])), ((md 1), .inl (cI, 86, .inl a)), ((md 2), .inl (cI, 86, .inl kp)), ((md 3), .inl (cI, 516, .inl (m_hs a hs hn))), ((md 4), .inl (cI, 172, .inl sl)), ((md 5), .inl (cI, 2, .inl iv)), ((md 6), .inl (cI, 60, .inl tx))]) (va_runV (As := []) (rest := []) ⟨hx, hb, hml, hown, hts⟩ (c_X4_changes l D cI cC cZ cG s.heap.size md a kp hs hn sl iv tx tl sp nu (by first | omega | assumption)) (cwV 0 hts gX4_set_X4_changes rfl rfl rfl hy_X4_changes ⟨Nat.le_of_ble_eq_true rfl, Nat.le_of_ble_eq_true rfl⟩) (b_pWV (wc := [((md 0), .inr (4, [.ref (md 1), .ref (md 2), .ref (md 3), .int (nI hn), .ref (md 4), .ref (md 5), .ref (md 6), .int (nI tl), .int (nI sp), .int nu])), ((md 1), .inl (cI, 86, .inl a)), ((md 2), .inl (cI, 86, .inl kp)), ((md 3), .inl (cI, 516, .inl hs)), ((md 4), .inl (cI, 172, .inl sl)), ((md 5), .inl (cI, 2, .inl iv)), ((md 6), .inl (cI, 60, .inl tx))]) hK hP hD b_Xok_0 [0, 1, 2, 3, 4, 5, 6] rfl (by decide) rfl trivial (ci := 4) (q0 := 0) rfl rfl) rfl rfl hl.1 rfl (lv_room (Nat.le_of_ble_eq_true rfl)) dX4_set_12 ⟨Nat.zero_le _, Nat.zero_le _⟩) hP hD hS hA [0, 1, 2, 3, 4, 5, 6] rfl rfl (fun H locs hP hD hS => ?_)
    have hP : va_P D vwCl [((md 0), .inr (4, [.ref (md 1), .ref (md 2), .ref (md 3), .int (nI (h_sz hn)), .ref (md 4), .ref (md 5), .ref (md 6), .int (nI tl), .int (nI sp), .int nu])), ((md 1), .inl (cI, 86, .inl a)), ((md 2), .inl (cI, 86, .inl kp)), ((md 3), .inl (cI, 516, .inl (m_hs a hs hn))), ((md 4), .inl (cI, 172, .inl sl)), ((md 5), .inl (cI, 2, .inl iv)), ((md 6), .inl (cI, 60, .inl tx))] H := hP
    have hD : va_D A [((md 0), .inr (4, [.ref (md 1), .ref (md 2), .ref (md 3), .int (nI (h_sz hn)), .ref (md 4), .ref (md 5), .ref (md 6), .int (nI tl), .int (nI sp), .int nu])), ((md 1), .inl (cI, 86, .inl a)), ((md 2), .inl (cI, 86, .inl kp)), ((md 3), .inl (cI, 516, .inl (m_hs a hs hn))), ((md 4), .inl (cI, 172, .inl sl)), ((md 5), .inl (cI, 2, .inl iv)), ((md 6), .inl (cI, 60, .inl tx))] := hD
    obtain ⟨f_2, ef_2⟩ : ∃ z9 : Nat → Int32, z9 = m_hs a hs hn := ⟨_, rfl⟩
    have hP : va_P D vwCl [((md 0), .inr (4, [.ref (md 1), .ref (md 2), .ref (md 3), .int (nI (h_sz hn)), .ref (md 4), .ref (md 5), .ref (md 6), .int (nI tl), .int (nI sp), .int nu])), ((md 1), .inl (cI, 86, .inl a)), ((md 2), .inl (cI, 86, .inl kp)), ((md 3), .inl (cI, 516, .inl f_2)), ((md 4), .inl (cI, 172, .inl sl)), ((md 5), .inl (cI, 2, .inl iv)), ((md 6), .inl (cI, 60, .inl tx))] H := by rw [ef_2]; exact hP
    have hD : va_D A [((md 0), .inr (4, [.ref (md 1), .ref (md 2), .ref (md 3), .int (nI (h_sz hn)), .ref (md 4), .ref (md 5), .ref (md 6), .int (nI tl), .int (nI sp), .int nu])), ((md 1), .inl (cI, 86, .inl a)), ((md 2), .inl (cI, 86, .inl kp)), ((md 3), .inl (cI, 516, .inl f_2)), ((md 4), .inl (cI, 172, .inl sl)), ((md 5), .inl (cI, 2, .inl iv)), ((md 6), .inl (cI, 60, .inl tx))] := by rw [ef_2]; exact hD
    refine lv_aload_n (pc := 15) hx hb dX4_set_15 rfl (lv_at hl 0 rfl) ?_
    refine va_get (pc := 16) (D := D) (ci := 4) (v := .ref (md 1)) (C := RX4) (T := TX4) (N := 10) hx hb hts hi_X4_set_ok_X4 hown hK hP 0 rfl rfl 0 (by decide) (hts _ hw_X4_set_ok_0) (fun _ h9 => h9) rfl dX4_set_16 ?_
    refine lv_iload_n (pc := 19) hx hb dX4_set_19 rfl (lv_at hl 1 rfl) ?_
    refine b_iald (pc := 20) hx hb hK hP 1 0 rfl rfl s1 rfl (by omega) (by decide) dX4_set_20 ?_
    refine lv_istore_n (pc := 21) (lv' := [(3, .int (a s1)), (0, .ref (md 0)), (1, .int (nI s1)), (2, .int y)]) hx hb dX4_set_21 rfl hl (by decide) rfl (fun ls hl => ?_)
    refine lv_aload_n (pc := 22) hx hb dX4_set_22 rfl (lv_at hl 1 rfl) ?_
    refine va_get (pc := 23) (D := D) (ci := 4) (v := .ref (md 1)) (C := RX4) (T := TX4) (N := 10) hx hb hts hi_X4_set_ok_X4 hown hK hP 0 rfl rfl 0 (by decide) (hts _ hw_X4_set_ok_0) (fun _ h9 => h9) rfl dX4_set_23 ?_
    refine lv_iload_n (pc := 26) hx hb dX4_set_26 rfl (lv_at hl 2 rfl) ?_
    refine lv_iload_n (pc := 27) hx hb dX4_set_27 rfl (lv_at hl 3 rfl) ?_
    refine b_iast (pc := 28) hx hb hK hP hD hS 1 0 rfl rfl s1 rfl (by omega) (by decide) dX4_set_28 (fun H locs hP hD hS => ?_)
    obtain ⟨f_3, ef_3⟩ : ∃ z9 : Nat → Int32, z9 = upd a s1 y := ⟨_, rfl⟩
    have hP : va_P D vwCl [((md 0), .inr (4, [.ref (md 1), .ref (md 2), .ref (md 3), .int (nI (h_sz hn)), .ref (md 4), .ref (md 5), .ref (md 6), .int (nI tl), .int (nI sp), .int nu])), ((md 1), .inl (cI, 86, .inl f_3)), ((md 2), .inl (cI, 86, .inl kp)), ((md 3), .inl (cI, 516, .inl f_2)), ((md 4), .inl (cI, 172, .inl sl)), ((md 5), .inl (cI, 2, .inl iv)), ((md 6), .inl (cI, 60, .inl tx))] H := by rw [ef_3]; exact hP
    have hD : va_D A [((md 0), .inr (4, [.ref (md 1), .ref (md 2), .ref (md 3), .int (nI (h_sz hn)), .ref (md 4), .ref (md 5), .ref (md 6), .int (nI tl), .int (nI sp), .int nu])), ((md 1), .inl (cI, 86, .inl f_3)), ((md 2), .inl (cI, 86, .inl kp)), ((md 3), .inl (cI, 516, .inl f_2)), ((md 4), .inl (cI, 172, .inl sl)), ((md 5), .inl (cI, 2, .inl iv)), ((md 6), .inl (cI, 60, .inl tx))] := by rw [ef_3]; exact hD
    refine lv_iload_n (pc := 29) hx hb dX4_set_29 rfl (lv_at hl 0 rfl) ?_
    subst ef_2
    subst ef_3
    subst hQ
    exact b_retW hx hb hr hlocks hS (rfl) (hP) dX4_set_30
  · skip
    have c_1 : ¬ (m_set s1 y) := b_i_0.mp c_1
    exact absurd (m_set_yes hs3 h1 h2) c_1
set_option maxHeartbeats 4000000 in
set_option maxRecDepth 100000 in
theorem c_X4_event_ng (l : Launch) (D : va_G) (cI cC cZ cG : ClassId) (md : Nat → Nat) (a : Nat → Int32) (kp : Nat → Int32) (hs : Nat → Int32) (hn : Nat) (sl : Nat → Int32) (iv : Nat → Int32) (tx : Nat → Int32) (tl : Nat) (sp : Nat) (nu : Int32) (x : Int32) (y : Int32) (hbad : p_ng x) : Met l yX4_event wsX4_event ({ frames := 2, cells := 0, slots := 0, locals := 45 } : Room) (b_R D (b_T cI cC cZ cG) [((md 0), .inr (4, [.ref (md 1), .ref (md 2), .ref (md 3), .int (nI hn), .ref (md 4), .ref (md 5), .ref (md 6), .int (nI tl), .int (nI sp), .int nu])), ((md 1), .inl (cI, 86, .inl a)), ((md 2), .inl (cI, 86, .inl kp)), ((md 3), .inl (cI, 516, .inl hs)), ((md 4), .inl (cI, 172, .inl sl)), ((md 5), .inl (cI, 2, .inl iv)), ((md 6), .inl (cI, 60, .inl tx))] [.ref (md 0), .int x, .int y]) (vp_Si (fun r => r = -1)) 0 0 (fun _ => False) := by
  refine b_enterR (cc := cX4_event) (maxL := 4) (ret := (some .int)) (by decide) rfl (Nat.le_of_ble_eq_true rfl) ?_
  intro p e s m below meth c ls hx hb hr hml hown hts hlocks hP hK hl Q hQ
  have hown : s.vm.findClass RX4 = some m.cls := hown
  have hl : lv_has ls 4 [(0, .ref (md 0)), (1, .int x), (2, .int y)] := hl
  refine lv_iload_n (pc := 0) hx hb dX4_event_0 rfl (lv_at hl 1 rfl) ?_
  refine b_cR (pc := 1) (va_runS (As := [.int x]) (rest := []) ⟨hx, hb, hml, hown, hts⟩ (c_X4_isGate l D cI cC cZ cG x) (va_cwS 1 hts gX4_event_X4_isGate rfl rfl rfl hyS_X4_isGate ⟨Nat.le_of_ble_eq_true rfl, Nat.le_of_ble_eq_true rfl⟩) (b_pRS (wc := []) hK hP [] rfl) rfl rfl hl.1 rfl (lv_room (Nat.le_of_ble_eq_true rfl)) dX4_event_1 ⟨Nat.zero_le _, Nat.zero_le _⟩) ?_
  refine lv_if_ne (pc := 4) (tgt := 9) hx hb dX4_event_4 (by decide) (fun c_1 => ?_) (fun c_1 => ?_)
  · skip
    have c_1 : m_in x.toInt64 0 5 := Classical.not_not.mp (fun h9 => c_1 (b_i_0.mpr h9))
    exact absurd c_1 (m_ng hbad)
  · skip
    have c_1 : ¬ (m_in x.toInt64 0 5) := b_i_0.mp c_1
    refine lv_iconst (pc := 7) (v := (-1)) hx hb dX4_event_7 (by decide) ?_
    subst hQ
    exact b_retR hx hb hr hlocks (rfl) dX4_event_8
theorem hw_X4_event_bb_0 : (.constantLong RX4 88 (2) : Cond) ∈ wsX4_event := by decide +kernel
set_option maxHeartbeats 4000000 in
set_option maxRecDepth 100000 in
theorem c_X4_event_bb (l : Launch) (D : va_G) (cI cC cZ cG : ClassId) (md : Nat → Nat) (a : Nat → Int32) (kp : Nat → Int32) (hs : Nat → Int32) (hn : Nat) (sl : Nat → Int32) (iv : Nat → Int32) (tx : Nat → Int32) (tl : Nat) (sp : Nat) (nu : Int32) (g : Nat) (y : Int32) (hg : g < 6) (hbad : p_n3 y) : Met l yX4_event wsX4_event ({ frames := 2, cells := 0, slots := 0, locals := 45 } : Room) (b_R D (b_T cI cC cZ cG) [((md 0), .inr (4, [.ref (md 1), .ref (md 2), .ref (md 3), .int (nI hn), .ref (md 4), .ref (md 5), .ref (md 6), .int (nI tl), .int (nI sp), .int nu])), ((md 1), .inl (cI, 86, .inl a)), ((md 2), .inl (cI, 86, .inl kp)), ((md 3), .inl (cI, 516, .inl hs)), ((md 4), .inl (cI, 172, .inl sl)), ((md 5), .inl (cI, 2, .inl iv)), ((md 6), .inl (cI, 60, .inl tx))] [.ref (md 0), .int (nI g), .int y]) (vp_Si (fun r => r = -2)) 0 0 (fun _ => False) := by
  refine b_enterR (cc := cX4_event) (maxL := 4) (ret := (some .int)) (by decide) rfl (Nat.le_of_ble_eq_true rfl) ?_
  intro p e s m below meth c ls hx hb hr hml hown hts hlocks hP hK hl Q hQ
  have hown : s.vm.findClass RX4 = some m.cls := hown
  have hl : lv_has ls 4 [(0, .ref (md 0)), (1, .int (nI g)), (2, .int y)] := hl
  refine lv_iload_n (pc := 0) hx hb dX4_event_0 rfl (lv_at hl 1 rfl) ?_
  refine b_cR (pc := 1) (va_runS (As := [.int (nI g)]) (rest := []) ⟨hx, hb, hml, hown, hts⟩ (c_X4_isGate l D cI cC cZ cG (nI g)) (va_cwS 1 hts gX4_event_X4_isGate rfl rfl rfl hyS_X4_isGate ⟨Nat.le_of_ble_eq_true rfl, Nat.le_of_ble_eq_true rfl⟩) (b_pRS (wc := []) hK hP [] rfl) rfl rfl hl.1 rfl (lv_room (Nat.le_of_ble_eq_true rfl)) dX4_event_1 ⟨Nat.zero_le _, Nat.zero_le _⟩) ?_
  refine lv_if_ne (pc := 4) (tgt := 9) hx hb dX4_event_4 (by decide) (fun c_1 => ?_) (fun c_1 => ?_)
  · skip
    have c_1 : m_in (nI g).toInt64 0 5 := Classical.not_not.mp (fun h9 => c_1 (b_i_0.mpr h9))
    refine lv_iload_n (pc := 9) hx hb dX4_event_9 rfl (lv_at hl 2 rfl) ?_
    refine lv_i2l (pc := 10) hx hb dX4_event_10 rfl ?_
    refine lv_lconst (pc := 11) (v := 0) hx hb dX4_event_11 (by decide) ?_
    refine lv_ldc2 (pc := 12) hx hb hown (hts _ hw_X4_event_bb_0) dX4_event_12 ?_
    refine b_cR (pc := 15) (va_runS (As := [.long y.toInt64, .long 0, .long 2]) (rest := []) ⟨hx, hb, hml, hown, hts⟩ (c_X4_in l D cI cC cZ cG y.toInt64 0 2) (va_cwS 3 hts gX4_event_X4_in rfl rfl rfl hyS_X4_in ⟨Nat.le_of_ble_eq_true rfl, Nat.le_of_ble_eq_true rfl⟩) (b_pRS (wc := []) hK hP [] rfl) rfl rfl hl.1 rfl (lv_room (Nat.le_of_ble_eq_true rfl)) dX4_event_15 ⟨Nat.zero_le _, Nat.zero_le _⟩) ?_
    refine lv_if_ne (pc := 18) (tgt := 24) hx hb dX4_event_18 (by decide) (fun c_2 => ?_) (fun c_2 => ?_)
    · skip
      have c_2 : m_in y.toInt64 0 2 := Classical.not_not.mp (fun h9 => c_2 (b_i_0.mpr h9))
      exact absurd c_2 (m_out (lo := 0) (hi := 2) (hj := 3) (by decide) (by decide) (by decide) hbad)
    · skip
      have c_2 : ¬ (m_in y.toInt64 0 2) := b_i_0.mp c_2
      refine lv_bipush (pc := 21) (v := (-2)) hx hb dX4_event_21 (by decide) ?_
      subst hQ
      exact b_retR hx hb hr hlocks (rfl) dX4_event_23
  · skip
    have c_1 : ¬ (m_in (nI g).toInt64 0 5) := b_i_0.mp c_1
    exact absurd (m_gk hg) c_1
theorem hw_X4_event_ok_0 : (.constantLong RX4 88 (2) : Cond) ∈ wsX4_event := by decide +kernel
set_option maxHeartbeats 4000000 in
set_option maxRecDepth 100000 in
theorem c_X4_event_ok (l : Launch) (D : va_G) (cI cC cZ cG : ClassId) (sz : Nat) (md : Nat → Nat) (a : Nat → Int32) (kp : Nat → Int32) (hs : Nat → Int32) (hn : Nat) (sl : Nat → Int32) (iv : Nat → Int32) (tx : Nat → Int32) (tl : Nat) (sp : Nat) (nu : Int32) (g : Nat) (bm : Nat) (hl6 : hn ≤ 6) (hg : g < 6) (hbm : bm < 3) : Met l yX4_event wsX4_event ({ frames := 5, cells := 0, slots := 0, locals := 111 } : Room) (b_W D (b_T cI cC cZ cG) b_X0 [((md 0), .inr (4, [.ref (md 1), .ref (md 2), .ref (md 3), .int (nI hn), .ref (md 4), .ref (md 5), .ref (md 6), .int (nI tl), .int (nI sp), .int nu])), ((md 1), .inl (cI, 86, .inl a)), ((md 2), .inl (cI, 86, .inl kp)), ((md 3), .inl (cI, 516, .inl hs)), ((md 4), .inl (cI, 172, .inl sl)), ((md 5), .inl (cI, 2, .inl iv)), ((md 6), .inl (cI, 60, .inl tx))] sz [.ref (md 0), .int (nI g), .int (nI bm)]) (b_Qi D (m_hap a g bm (8 + 13 * g + 0)) [((md 0), .inr (4, [.ref (md 1), .ref (md 2), .ref (md 3), .int (nI (h_sz hn)), .ref (md 4), .ref (md 5), .ref (md 6), .int (nI tl), .int (nI sp), .int nu])), ((md 1), .inl (cI, 86, .inl (m_hap a g bm))), ((md 2), .inl (cI, 86, .inl kp)), ((md 3), .inl (cI, 516, .inl (m_hs a hs hn))), ((md 4), .inl (cI, 172, .inl sl)), ((md 5), .inl (cI, 2, .inl iv)), ((md 6), .inl (cI, 60, .inl tx))] (va_A [((md 0), .inr (4, [.ref (md 1), .ref (md 2), .ref (md 3), .int (nI hn), .ref (md 4), .ref (md 5), .ref (md 6), .int (nI tl), .int (nI sp), .int nu])), ((md 1), .inl (cI, 86, .inl a)), ((md 2), .inl (cI, 86, .inl kp)), ((md 3), .inl (cI, 516, .inl hs)), ((md 4), .inl (cI, 172, .inl sl)), ((md 5), .inl (cI, 2, .inl iv)), ((md 6), .inl (cI, 60, .inl tx))] sz)) 0 0 (va_A [((md 0), .inr (4, [.ref (md 1), .ref (md 2), .ref (md 3), .int (nI hn), .ref (md 4), .ref (md 5), .ref (md 6), .int (nI tl), .int (nI sp), .int nu])), ((md 1), .inl (cI, 86, .inl a)), ((md 2), .inl (cI, 86, .inl kp)), ((md 3), .inl (cI, 516, .inl hs)), ((md 4), .inl (cI, 172, .inl sl)), ((md 5), .inl (cI, 2, .inl iv)), ((md 6), .inl (cI, 60, .inl tx))] sz) := by
  refine b_enterW (Qc := fun A => b_Qi D (m_hap a g bm (8 + 13 * g + 0)) [((md 0), .inr (4, [.ref (md 1), .ref (md 2), .ref (md 3), .int (nI (h_sz hn)), .ref (md 4), .ref (md 5), .ref (md 6), .int (nI tl), .int (nI sp), .int nu])), ((md 1), .inl (cI, 86, .inl (m_hap a g bm))), ((md 2), .inl (cI, 86, .inl kp)), ((md 3), .inl (cI, 516, .inl (m_hs a hs hn))), ((md 4), .inl (cI, 172, .inl sl)), ((md 5), .inl (cI, 2, .inl iv)), ((md 6), .inl (cI, 60, .inl tx))] A) (cc := cX4_event) (maxL := 4) (ret := (some .int)) (by decide) rfl (Nat.le_of_ble_eq_true rfl) ?_
  intro p e s m below meth c ls A hx hb hr hml hown hts hlocks hname hP hK hD hA hS hX hl Q hQ
  have hown : s.vm.findClass RX4 = some m.cls := hown
  have hl : lv_has ls 4 [(0, .ref (md 0)), (1, .int (nI g)), (2, .int (nI bm))] := hl
  refine lv_iload_n (pc := 0) hx hb dX4_event_0 rfl (lv_at hl 1 rfl) ?_
  refine b_cR (pc := 1) (va_runS (As := [.int (nI g)]) (rest := []) ⟨hx, hb, hml, hown, hts⟩ (c_X4_isGate l D cI cC cZ cG (nI g)) (va_cwS 1 hts gX4_event_X4_isGate rfl rfl rfl hyS_X4_isGate ⟨Nat.le_of_ble_eq_true rfl, Nat.le_of_ble_eq_true rfl⟩) (b_pRS (wc := []) hK hP [] rfl) rfl rfl hl.1 rfl (lv_room (Nat.le_of_ble_eq_true rfl)) dX4_event_1 ⟨Nat.zero_le _, Nat.zero_le _⟩) ?_
  refine lv_if_ne (pc := 4) (tgt := 9) hx hb dX4_event_4 (by decide) (fun c_1 => ?_) (fun c_1 => ?_)
  · skip
    have c_1 : m_in (nI g).toInt64 0 5 := Classical.not_not.mp (fun h9 => c_1 (b_i_0.mpr h9))
    refine lv_iload_n (pc := 9) hx hb dX4_event_9 rfl (lv_at hl 2 rfl) ?_
    refine lv_i2l (pc := 10) hx hb dX4_event_10 rfl ?_
    refine lv_lconst (pc := 11) (v := 0) hx hb dX4_event_11 (by decide) ?_
    refine lv_ldc2 (pc := 12) hx hb hown (hts _ hw_X4_event_ok_0) dX4_event_12 ?_
    refine b_cR (pc := 15) (va_runS (As := [.long ((nI bm).toInt64), .long 0, .long 2]) (rest := []) ⟨hx, hb, hml, hown, hts⟩ (c_X4_in l D cI cC cZ cG ((nI bm).toInt64) 0 2) (va_cwS 3 hts gX4_event_X4_in rfl rfl rfl hyS_X4_in ⟨Nat.le_of_ble_eq_true rfl, Nat.le_of_ble_eq_true rfl⟩) (b_pRS (wc := []) hK hP [] rfl) rfl rfl hl.1 rfl (lv_room (Nat.le_of_ble_eq_true rfl)) dX4_event_15 ⟨Nat.zero_le _, Nat.zero_le _⟩) ?_
    refine lv_if_ne (pc := 18) (tgt := 24) hx hb dX4_event_18 (by decide) (fun c_2 => ?_) (fun c_2 => ?_)
    · skip
      have c_2 : m_in ((nI bm).toInt64) 0 2 := Classical.not_not.mp (fun h9 => c_2 (b_i_0.mpr h9))
      refine lv_aload_n (pc := 24) hx hb dX4_event_24 rfl (lv_at hl 0 rfl) ?_
      refine b_cV (pc := 25) (w1 := [((md 0), .inr (4, [.ref (md 1), .ref (md 2), .ref (md 3), .int (nI (h_sz hn)), .ref (md 4), .ref (md 5), .ref (md 6), .int (nI tl), .int (nI sp), .int nu])), ((md 1), .inl (cI, 86, .inl a)), ((md 2), .inl (cI, 86, .inl kp)), ((md 3), .inl (cI, 516, .inl (m_hs a hs hn))), ((md 4), .inl (cI, 172, .inl sl)), ((md 5), .inl (cI, 2, .inl iv)), ((md 6), .inl (cI, 60, .inl tx))]) (va_runV (As := []) (rest := []) ⟨hx, hb, hml, hown, hts⟩ (c_X4_changes l D cI cC cZ cG s.heap.size md a kp hs hn sl iv tx tl sp nu (by first | omega | assumption)) (cwV 0 hts gX4_event_X4_changes rfl rfl rfl hy_X4_changes ⟨Nat.le_of_ble_eq_true rfl, Nat.le_of_ble_eq_true rfl⟩) (b_pWV (wc := [((md 0), .inr (4, [.ref (md 1), .ref (md 2), .ref (md 3), .int (nI hn), .ref (md 4), .ref (md 5), .ref (md 6), .int (nI tl), .int (nI sp), .int nu])), ((md 1), .inl (cI, 86, .inl a)), ((md 2), .inl (cI, 86, .inl kp)), ((md 3), .inl (cI, 516, .inl hs)), ((md 4), .inl (cI, 172, .inl sl)), ((md 5), .inl (cI, 2, .inl iv)), ((md 6), .inl (cI, 60, .inl tx))]) hK hP hD b_Xok_0 [0, 1, 2, 3, 4, 5, 6] rfl (by decide) rfl trivial (ci := 4) (q0 := 0) rfl rfl) rfl rfl hl.1 rfl (lv_room (Nat.le_of_ble_eq_true rfl)) dX4_event_25 ⟨Nat.zero_le _, Nat.zero_le _⟩) hP hD hS hA [0, 1, 2, 3, 4, 5, 6] rfl rfl (fun H locs hP hD hS => ?_)
      have hP : va_P D vwCl [((md 0), .inr (4, [.ref (md 1), .ref (md 2), .ref (md 3), .int (nI (h_sz hn)), .ref (md 4), .ref (md 5), .ref (md 6), .int (nI tl), .int (nI sp), .int nu])), ((md 1), .inl (cI, 86, .inl a)), ((md 2), .inl (cI, 86, .inl kp)), ((md 3), .inl (cI, 516, .inl (m_hs a hs hn))), ((md 4), .inl (cI, 172, .inl sl)), ((md 5), .inl (cI, 2, .inl iv)), ((md 6), .inl (cI, 60, .inl tx))] H := hP
      have hD : va_D A [((md 0), .inr (4, [.ref (md 1), .ref (md 2), .ref (md 3), .int (nI (h_sz hn)), .ref (md 4), .ref (md 5), .ref (md 6), .int (nI tl), .int (nI sp), .int nu])), ((md 1), .inl (cI, 86, .inl a)), ((md 2), .inl (cI, 86, .inl kp)), ((md 3), .inl (cI, 516, .inl (m_hs a hs hn))), ((md 4), .inl (cI, 172, .inl sl)), ((md 5), .inl (cI, 2, .inl iv)), ((md 6), .inl (cI, 60, .inl tx))] := hD
      obtain ⟨f_3, ef_3⟩ : ∃ z9 : Nat → Int32, z9 = m_hs a hs hn := ⟨_, rfl⟩
      have hP : va_P D vwCl [((md 0), .inr (4, [.ref (md 1), .ref (md 2), .ref (md 3), .int (nI (h_sz hn)), .ref (md 4), .ref (md 5), .ref (md 6), .int (nI tl), .int (nI sp), .int nu])), ((md 1), .inl (cI, 86, .inl a)), ((md 2), .inl (cI, 86, .inl kp)), ((md 3), .inl (cI, 516, .inl f_3)), ((md 4), .inl (cI, 172, .inl sl)), ((md 5), .inl (cI, 2, .inl iv)), ((md 6), .inl (cI, 60, .inl tx))] H := by rw [ef_3]; exact hP
      have hD : va_D A [((md 0), .inr (4, [.ref (md 1), .ref (md 2), .ref (md 3), .int (nI (h_sz hn)), .ref (md 4), .ref (md 5), .ref (md 6), .int (nI tl), .int (nI sp), .int nu])), ((md 1), .inl (cI, 86, .inl a)), ((md 2), .inl (cI, 86, .inl kp)), ((md 3), .inl (cI, 516, .inl f_3)), ((md 4), .inl (cI, 172, .inl sl)), ((md 5), .inl (cI, 2, .inl iv)), ((md 6), .inl (cI, 60, .inl tx))] := by rw [ef_3]; exact hD
      refine lv_aload_n (pc := 28) hx hb dX4_event_28 rfl (lv_at hl 0 rfl) ?_
      refine lv_iload_n (pc := 29) hx hb dX4_event_29 rfl (lv_at hl 1 rfl) ?_
      refine lv_iload_n (pc := 30) hx hb dX4_event_30 rfl (lv_at hl 2 rfl) ?_
      refine b_cW (pc := 31) (w1 := [((md 0), .inr (4, [.ref (md 1), .ref (md 2), .ref (md 3), .int (nI (h_sz hn)), .ref (md 4), .ref (md 5), .ref (md 6), .int (nI tl), .int (nI sp), .int nu])), ((md 1), .inl (cI, 86, .inl (m_hap a g bm))), ((md 2), .inl (cI, 86, .inl kp)), ((md 3), .inl (cI, 516, .inl f_3)), ((md 4), .inl (cI, 172, .inl sl)), ((md 5), .inl (cI, 2, .inl iv)), ((md 6), .inl (cI, 60, .inl tx))]) (va_runV (As := [.int (nI g), .int (nI bm)]) (rest := []) ⟨hx, hb, hml, hown, hts⟩ (c_X4_happens l D cI cC cZ cG H.size md a kp f_3 (h_sz hn) sl iv tx tl sp nu g bm (by first | omega | assumption) (by first | omega | assumption)) (cwV 2 hts gX4_event_X4_happens rfl rfl rfl hy_X4_happens ⟨Nat.le_of_ble_eq_true rfl, Nat.le_of_ble_eq_true rfl⟩) (b_pWV (wc := [((md 0), .inr (4, [.ref (md 1), .ref (md 2), .ref (md 3), .int (nI (h_sz hn)), .ref (md 4), .ref (md 5), .ref (md 6), .int (nI tl), .int (nI sp), .int nu])), ((md 1), .inl (cI, 86, .inl a)), ((md 2), .inl (cI, 86, .inl kp)), ((md 3), .inl (cI, 516, .inl f_3)), ((md 4), .inl (cI, 172, .inl sl)), ((md 5), .inl (cI, 2, .inl iv)), ((md 6), .inl (cI, 60, .inl tx))]) hK hP hD b_Xok_0 [0, 1, 2, 3, 4, 5, 6] rfl (by decide) rfl trivial (ci := 4) (q0 := 0) rfl rfl) rfl rfl hl.1 rfl (lv_room (Nat.le_of_ble_eq_true rfl)) dX4_event_31 ⟨Nat.zero_le _, Nat.zero_le _⟩) hP hD hS hA [0, 1, 2, 3, 4, 5, 6] rfl rfl (fun H locs hP hD hS => ?_)
      have hP : va_P D vwCl [((md 0), .inr (4, [.ref (md 1), .ref (md 2), .ref (md 3), .int (nI (h_sz hn)), .ref (md 4), .ref (md 5), .ref (md 6), .int (nI tl), .int (nI sp), .int nu])), ((md 1), .inl (cI, 86, .inl (m_hap a g bm))), ((md 2), .inl (cI, 86, .inl kp)), ((md 3), .inl (cI, 516, .inl f_3)), ((md 4), .inl (cI, 172, .inl sl)), ((md 5), .inl (cI, 2, .inl iv)), ((md 6), .inl (cI, 60, .inl tx))] H := hP
      have hD : va_D A [((md 0), .inr (4, [.ref (md 1), .ref (md 2), .ref (md 3), .int (nI (h_sz hn)), .ref (md 4), .ref (md 5), .ref (md 6), .int (nI tl), .int (nI sp), .int nu])), ((md 1), .inl (cI, 86, .inl (m_hap a g bm))), ((md 2), .inl (cI, 86, .inl kp)), ((md 3), .inl (cI, 516, .inl f_3)), ((md 4), .inl (cI, 172, .inl sl)), ((md 5), .inl (cI, 2, .inl iv)), ((md 6), .inl (cI, 60, .inl tx))] := hD
      obtain ⟨f_4, ef_4⟩ : ∃ z9 : Nat → Int32, z9 = m_hap a g bm := ⟨_, rfl⟩
      have hP : va_P D vwCl [((md 0), .inr (4, [.ref (md 1), .ref (md 2), .ref (md 3), .int (nI (h_sz hn)), .ref (md 4), .ref (md 5), .ref (md 6), .int (nI tl), .int (nI sp), .int nu])), ((md 1), .inl (cI, 86, .inl f_4)), ((md 2), .inl (cI, 86, .inl kp)), ((md 3), .inl (cI, 516, .inl f_3)), ((md 4), .inl (cI, 172, .inl sl)), ((md 5), .inl (cI, 2, .inl iv)), ((md 6), .inl (cI, 60, .inl tx))] H := by rw [ef_4]; exact hP
      have hD : va_D A [((md 0), .inr (4, [.ref (md 1), .ref (md 2), .ref (md 3), .int (nI (h_sz hn)), .ref (md 4), .ref (md 5), .ref (md 6), .int (nI tl), .int (nI sp), .int nu])), ((md 1), .inl (cI, 86, .inl f_4)), ((md 2), .inl (cI, 86, .inl kp)), ((md 3), .inl (cI, 516, .inl f_3)), ((md 4), .inl (cI, 172, .inl sl)), ((md 5), .inl (cI, 2, .inl iv)), ((md 6), .inl (cI, 60, .inl tx))] := by rw [ef_4]; exact hD
      refine lv_istore_n (pc := 34) (lv' := [(3, .int (m_hapn a g bm)), (0, .ref (md 0)), (1, .int (nI g)), (2, .int (nI bm))]) hx hb dX4_event_34 rfl hl (by decide) rfl (fun ls hl => ?_)
      refine lv_aload_n (pc := 35) hx hb dX4_event_35 rfl (lv_at hl 1 rfl) ?_
      refine lv_iload_n (pc := 36) hx hb dX4_event_36 rfl (lv_at hl 2 rfl) ?_
      refine lv_iconst (pc := 37) (v := 0) hx hb dX4_event_37 (by decide) ?_
      refine b_cR (pc := 38) (va_runV (As := [.int (nI g), .int 0]) (rest := []) ⟨hx, hb, hml, hown, hts⟩ (c_X4_get l D cI cC cZ cG md f_4 kp f_3 (h_sz hn) sl iv tx tl sp nu g 0 (by first | omega | assumption) (by first | omega | assumption)) (cwV 2 hts gX4_event_X4_get rfl rfl rfl hy_X4_get ⟨Nat.le_of_ble_eq_true rfl, Nat.le_of_ble_eq_true rfl⟩) (b_pRV (wc := [((md 0), .inr (4, [.ref (md 1), .ref (md 2), .ref (md 3), .int (nI (h_sz hn)), .ref (md 4), .ref (md 5), .ref (md 6), .int (nI tl), .int (nI sp), .int nu])), ((md 1), .inl (cI, 86, .inl f_4)), ((md 2), .inl (cI, 86, .inl kp)), ((md 3), .inl (cI, 516, .inl f_3)), ((md 4), .inl (cI, 172, .inl sl)), ((md 5), .inl (cI, 2, .inl iv)), ((md 6), .inl (cI, 60, .inl tx))]) hK hP [0, 1, 2, 3, 4, 5, 6] rfl (ci := 4) (q0 := 0) rfl rfl) rfl rfl hl.1 rfl (lv_room (Nat.le_of_ble_eq_true rfl)) dX4_event_38 ⟨Nat.zero_le _, Nat.zero_le _⟩) ?_
      subst ef_3
      subst ef_4
      subst hQ
      exact b_retW hx hb hr hlocks hS (rfl) (hP) dX4_event_41
    · skip
      have c_2 : ¬ (m_in ((nI bm).toInt64) 0 2) := b_i_0.mp c_2
      exact absurd (m_inN (lo := 0) (hi := 2) (by decide) (by decide) (by omega) (by omega) (by omega) (by omega)) c_2
  · skip
    have c_1 : ¬ (m_in (nI g).toInt64 0 5) := b_i_0.mp c_1
    exact absurd (m_gk hg) c_1
theorem hw_X4_pass_bad_0 : (.constantLong RX4 93 (999) : Cond) ∈ wsX4_pass := by decide +kernel
set_option maxHeartbeats 4000000 in
set_option maxRecDepth 100000 in
theorem c_X4_pass_bad (l : Launch) (D : va_G) (cI cC cZ cG : ClassId) (md : Nat → Nat) (a : Nat → Int32) (kp : Nat → Int32) (hs : Nat → Int32) (hn : Nat) (sl : Nat → Int32) (iv : Nat → Int32) (tx : Nat → Int32) (tl : Nat) (sp : Nat) (nu : Int32) (x : Int32) (hbad : x < 1 ∨ ¬ x ≤ 999) : Met l yX4_pass wsX4_pass ({ frames := 1, cells := 0, slots := 0, locals := 25 } : Room) (b_R D (b_T cI cC cZ cG) [((md 0), .inr (4, [.ref (md 1), .ref (md 2), .ref (md 3), .int (nI hn), .ref (md 4), .ref (md 5), .ref (md 6), .int (nI tl), .int (nI sp), .int nu])), ((md 1), .inl (cI, 86, .inl a)), ((md 2), .inl (cI, 86, .inl kp)), ((md 3), .inl (cI, 516, .inl hs)), ((md 4), .inl (cI, 172, .inl sl)), ((md 5), .inl (cI, 2, .inl iv)), ((md 6), .inl (cI, 60, .inl tx))] [.ref (md 0), .int x]) (vp_Si (fun r => r = -2)) 0 0 (fun _ => False) := by
  refine b_enterR (cc := cX4_pass) (maxL := 2) (ret := (some .int)) (by decide) rfl (Nat.le_of_ble_eq_true rfl) ?_
  intro p e s m below meth c ls hx hb hr hml hown hts hlocks hP hK hl Q hQ
  have hown : s.vm.findClass RX4 = some m.cls := hown
  have hl : lv_has ls 2 [(0, .ref (md 0)), (1, .int x)] := hl
  refine lv_iload_n (pc := 0) hx hb dX4_pass_0 rfl (lv_at hl 1 rfl) ?_
  refine lv_i2l (pc := 1) hx hb dX4_pass_1 rfl ?_
  refine lv_lconst (pc := 2) (v := 1) hx hb dX4_pass_2 (by decide) ?_
  refine lv_ldc2 (pc := 3) hx hb hown (hts _ hw_X4_pass_bad_0) dX4_pass_3 ?_
  refine b_cR (pc := 6) (va_runS (As := [.long x.toInt64, .long 1, .long 999]) (rest := []) ⟨hx, hb, hml, hown, hts⟩ (c_X4_in l D cI cC cZ cG x.toInt64 1 999) (va_cwS 3 hts gX4_pass_X4_in rfl rfl rfl hyS_X4_in ⟨Nat.le_of_ble_eq_true rfl, Nat.le_of_ble_eq_true rfl⟩) (b_pRS (wc := []) hK hP [] rfl) rfl rfl hl.1 rfl (lv_room (Nat.le_of_ble_eq_true rfl)) dX4_pass_6 ⟨Nat.zero_le _, Nat.zero_le _⟩) ?_
  refine lv_if_ne (pc := 9) (tgt := 15) hx hb dX4_pass_9 (by decide) (fun c_1 => ?_) (fun c_1 => ?_)
  · skip
    have c_1 : m_in x.toInt64 1 999 := Classical.not_not.mp (fun h9 => c_1 (b_i_0.mpr h9))
    exact absurd c_1 (m_lt1 hbad)
  · skip
    have c_1 : ¬ (m_in x.toInt64 1 999) := b_i_0.mp c_1
    refine lv_bipush (pc := 12) (v := (-2)) hx hb dX4_pass_12 (by decide) ?_
    subst hQ
    exact b_retR hx hb hr hlocks (rfl) dX4_pass_14
theorem hw_X4_pass_many_0 : (.constantLong RX4 93 (999) : Cond) ∈ wsX4_pass := by decide +kernel
theorem hw_X4_pass_many_1 : (.fieldLink RX4 7 "BeamTurnstilesModel" "all" "[I" : Cond) ∈ wsX4_pass := by decide +kernel
theorem hi_X4_pass_many_X4 : ∀ w ∈ wsX40, w ∈ wsX4_pass := by decide +kernel
theorem hw_X4_pass_many_3 : (.constant RX4 95 (99999) : Cond) ∈ wsX4_pass := by decide +kernel
set_option maxHeartbeats 4000000 in
set_option maxRecDepth 100000 in
theorem c_X4_pass_many (l : Launch) (D : va_G) (cI cC cZ cG : ClassId) (md : Nat → Nat) (a : Nat → Int32) (kp : Nat → Int32) (hs : Nat → Int32) (hn : Nat) (sl : Nat → Int32) (iv : Nat → Int32) (tx : Nat → Int32) (tl : Nat) (sp : Nat) (nu : Int32) (x : Int32) (h1 : ¬ x < 1) (h2 : x ≤ 999) (h3 : ¬ a 3 + x ≤ 99999) : Met l yX4_pass wsX4_pass ({ frames := 1, cells := 0, slots := 0, locals := 25 } : Room) (b_R D (b_T cI cC cZ cG) [((md 0), .inr (4, [.ref (md 1), .ref (md 2), .ref (md 3), .int (nI hn), .ref (md 4), .ref (md 5), .ref (md 6), .int (nI tl), .int (nI sp), .int nu])), ((md 1), .inl (cI, 86, .inl a)), ((md 2), .inl (cI, 86, .inl kp)), ((md 3), .inl (cI, 516, .inl hs)), ((md 4), .inl (cI, 172, .inl sl)), ((md 5), .inl (cI, 2, .inl iv)), ((md 6), .inl (cI, 60, .inl tx))] [.ref (md 0), .int x]) (vp_Si (fun r => r = -4)) 0 0 (fun _ => False) := by
  refine b_enterR (cc := cX4_pass) (maxL := 2) (ret := (some .int)) (by decide) rfl (Nat.le_of_ble_eq_true rfl) ?_
  intro p e s m below meth c ls hx hb hr hml hown hts hlocks hP hK hl Q hQ
  have hown : s.vm.findClass RX4 = some m.cls := hown
  have hl : lv_has ls 2 [(0, .ref (md 0)), (1, .int x)] := hl
  refine lv_iload_n (pc := 0) hx hb dX4_pass_0 rfl (lv_at hl 1 rfl) ?_
  refine lv_i2l (pc := 1) hx hb dX4_pass_1 rfl ?_
  refine lv_lconst (pc := 2) (v := 1) hx hb dX4_pass_2 (by decide) ?_
  refine lv_ldc2 (pc := 3) hx hb hown (hts _ hw_X4_pass_many_0) dX4_pass_3 ?_
  refine b_cR (pc := 6) (va_runS (As := [.long x.toInt64, .long 1, .long 999]) (rest := []) ⟨hx, hb, hml, hown, hts⟩ (c_X4_in l D cI cC cZ cG x.toInt64 1 999) (va_cwS 3 hts gX4_pass_X4_in rfl rfl rfl hyS_X4_in ⟨Nat.le_of_ble_eq_true rfl, Nat.le_of_ble_eq_true rfl⟩) (b_pRS (wc := []) hK hP [] rfl) rfl rfl hl.1 rfl (lv_room (Nat.le_of_ble_eq_true rfl)) dX4_pass_6 ⟨Nat.zero_le _, Nat.zero_le _⟩) ?_
  refine lv_if_ne (pc := 9) (tgt := 15) hx hb dX4_pass_9 (by decide) (fun c_1 => ?_) (fun c_1 => ?_)
  · skip
    have c_1 : m_in x.toInt64 1 999 := Classical.not_not.mp (fun h9 => c_1 (b_i_0.mpr h9))
    refine lv_aload_n (pc := 15) hx hb dX4_pass_15 rfl (lv_at hl 0 rfl) ?_
    refine va_get (pc := 16) (D := D) (ci := 4) (v := .ref (md 1)) (C := RX4) (T := TX4) (N := 10) hx hb hts hi_X4_pass_many_X4 hown hK hP 0 rfl rfl 0 (by decide) (hts _ hw_X4_pass_many_1) (fun _ h9 => h9) rfl dX4_pass_16 ?_
    refine lv_iconst (pc := 19) (v := 3) hx hb dX4_pass_19 (by decide) ?_
    refine b_iald (pc := 20) hx hb hK hP 1 0 rfl rfl 3 rfl (by omega) (by decide) dX4_pass_20 ?_
    refine lv_iload_n (pc := 21) hx hb dX4_pass_21 rfl (lv_at hl 1 rfl) ?_
    refine lv_iadd (pc := 22) hx hb dX4_pass_22 ?_
    refine lv_ldc (pc := 23) hx hb hown (hts _ hw_X4_pass_many_3) dX4_pass_23 ?_
    refine lv_icmp_le (pc := 25) (tgt := 31) hx hb dX4_pass_25 (by decide) (fun c_2 => ?_) (fun c_2 => ?_)
    · skip
      have c_2 : ((a 3) + x) ≤ 99999 := c_2
      exact absurd c_2 h3
    · skip
      have c_2 : ¬ (((a 3) + x) ≤ 99999) := c_2
      refine lv_bipush (pc := 28) (v := (-4)) hx hb dX4_pass_28 (by decide) ?_
      subst hQ
      exact b_retR hx hb hr hlocks (rfl) dX4_pass_30
  · skip
    have c_1 : ¬ (m_in x.toInt64 1 999) := b_i_0.mp c_1
    exact absurd (m_inE (lo := 1) (hi := 999) (by decide) (by decide) h1 h2) c_1
theorem hw_X4_pass_ok_0 : (.constantLong RX4 93 (999) : Cond) ∈ wsX4_pass := by decide +kernel
theorem hw_X4_pass_ok_1 : (.fieldLink RX4 7 "BeamTurnstilesModel" "all" "[I" : Cond) ∈ wsX4_pass := by decide +kernel
theorem hi_X4_pass_ok_X4 : ∀ w ∈ wsX40, w ∈ wsX4_pass := by decide +kernel
theorem hw_X4_pass_ok_3 : (.constant RX4 95 (99999) : Cond) ∈ wsX4_pass := by decide +kernel
set_option maxHeartbeats 4000000 in
set_option maxRecDepth 100000 in
theorem c_X4_pass_ok (l : Launch) (D : va_G) (cI cC cZ cG : ClassId) (sz : Nat) (md : Nat → Nat) (a : Nat → Int32) (kp : Nat → Int32) (hs : Nat → Int32) (hn : Nat) (sl : Nat → Int32) (iv : Nat → Int32) (tx : Nat → Int32) (tl : Nat) (sp : Nat) (nu : Int32) (x : Int32) (hl6 : hn ≤ 6) (h1 : ¬ x < 1) (h2 : x ≤ 999) (h3 : a 3 + x ≤ 99999) : Met l yX4_pass wsX4_pass ({ frames := 4, cells := 0, slots := 0, locals := 86 } : Room) (b_W D (b_T cI cC cZ cG) b_X0 [((md 0), .inr (4, [.ref (md 1), .ref (md 2), .ref (md 3), .int (nI hn), .ref (md 4), .ref (md 5), .ref (md 6), .int (nI tl), .int (nI sp), .int nu])), ((md 1), .inl (cI, 86, .inl a)), ((md 2), .inl (cI, 86, .inl kp)), ((md 3), .inl (cI, 516, .inl hs)), ((md 4), .inl (cI, 172, .inl sl)), ((md 5), .inl (cI, 2, .inl iv)), ((md 6), .inl (cI, 60, .inl tx))] sz [.ref (md 0), .int x]) (b_Qi D (m_bits (m_bm6 (upd a 3 (a 3 + x)) 6) 6) [((md 0), .inr (4, [.ref (md 1), .ref (md 2), .ref (md 3), .int (nI (h_sz hn)), .ref (md 4), .ref (md 5), .ref (md 6), .int (nI tl), .int (nI sp), .int nu])), ((md 1), .inl (cI, 86, .inl (upd a 3 (a 3 + x)))), ((md 2), .inl (cI, 86, .inl kp)), ((md 3), .inl (cI, 516, .inl (m_hs a hs hn))), ((md 4), .inl (cI, 172, .inl sl)), ((md 5), .inl (cI, 2, .inl iv)), ((md 6), .inl (cI, 60, .inl tx))] (va_A [((md 0), .inr (4, [.ref (md 1), .ref (md 2), .ref (md 3), .int (nI hn), .ref (md 4), .ref (md 5), .ref (md 6), .int (nI tl), .int (nI sp), .int nu])), ((md 1), .inl (cI, 86, .inl a)), ((md 2), .inl (cI, 86, .inl kp)), ((md 3), .inl (cI, 516, .inl hs)), ((md 4), .inl (cI, 172, .inl sl)), ((md 5), .inl (cI, 2, .inl iv)), ((md 6), .inl (cI, 60, .inl tx))] sz)) 0 0 (va_A [((md 0), .inr (4, [.ref (md 1), .ref (md 2), .ref (md 3), .int (nI hn), .ref (md 4), .ref (md 5), .ref (md 6), .int (nI tl), .int (nI sp), .int nu])), ((md 1), .inl (cI, 86, .inl a)), ((md 2), .inl (cI, 86, .inl kp)), ((md 3), .inl (cI, 516, .inl hs)), ((md 4), .inl (cI, 172, .inl sl)), ((md 5), .inl (cI, 2, .inl iv)), ((md 6), .inl (cI, 60, .inl tx))] sz) := by
  refine b_enterW (Qc := fun A => b_Qi D (m_bits (m_bm6 (upd a 3 (a 3 + x)) 6) 6) [((md 0), .inr (4, [.ref (md 1), .ref (md 2), .ref (md 3), .int (nI (h_sz hn)), .ref (md 4), .ref (md 5), .ref (md 6), .int (nI tl), .int (nI sp), .int nu])), ((md 1), .inl (cI, 86, .inl (upd a 3 (a 3 + x)))), ((md 2), .inl (cI, 86, .inl kp)), ((md 3), .inl (cI, 516, .inl (m_hs a hs hn))), ((md 4), .inl (cI, 172, .inl sl)), ((md 5), .inl (cI, 2, .inl iv)), ((md 6), .inl (cI, 60, .inl tx))] A) (cc := cX4_pass) (maxL := 2) (ret := (some .int)) (by decide) rfl (Nat.le_of_ble_eq_true rfl) ?_
  intro p e s m below meth c ls A hx hb hr hml hown hts hlocks hname hP hK hD hA hS hX hl Q hQ
  have hown : s.vm.findClass RX4 = some m.cls := hown
  have hl : lv_has ls 2 [(0, .ref (md 0)), (1, .int x)] := hl
  refine lv_iload_n (pc := 0) hx hb dX4_pass_0 rfl (lv_at hl 1 rfl) ?_
  refine lv_i2l (pc := 1) hx hb dX4_pass_1 rfl ?_
  refine lv_lconst (pc := 2) (v := 1) hx hb dX4_pass_2 (by decide) ?_
  refine lv_ldc2 (pc := 3) hx hb hown (hts _ hw_X4_pass_ok_0) dX4_pass_3 ?_
  refine b_cR (pc := 6) (va_runS (As := [.long x.toInt64, .long 1, .long 999]) (rest := []) ⟨hx, hb, hml, hown, hts⟩ (c_X4_in l D cI cC cZ cG x.toInt64 1 999) (va_cwS 3 hts gX4_pass_X4_in rfl rfl rfl hyS_X4_in ⟨Nat.le_of_ble_eq_true rfl, Nat.le_of_ble_eq_true rfl⟩) (b_pRS (wc := []) hK hP [] rfl) rfl rfl hl.1 rfl (lv_room (Nat.le_of_ble_eq_true rfl)) dX4_pass_6 ⟨Nat.zero_le _, Nat.zero_le _⟩) ?_
  refine lv_if_ne (pc := 9) (tgt := 15) hx hb dX4_pass_9 (by decide) (fun c_1 => ?_) (fun c_1 => ?_)
  · skip
    have c_1 : m_in x.toInt64 1 999 := Classical.not_not.mp (fun h9 => c_1 (b_i_0.mpr h9))
    refine lv_aload_n (pc := 15) hx hb dX4_pass_15 rfl (lv_at hl 0 rfl) ?_
    refine va_get (pc := 16) (D := D) (ci := 4) (v := .ref (md 1)) (C := RX4) (T := TX4) (N := 10) hx hb hts hi_X4_pass_ok_X4 hown hK hP 0 rfl rfl 0 (by decide) (hts _ hw_X4_pass_ok_1) (fun _ h9 => h9) rfl dX4_pass_16 ?_
    refine lv_iconst (pc := 19) (v := 3) hx hb dX4_pass_19 (by decide) ?_
    refine b_iald (pc := 20) hx hb hK hP 1 0 rfl rfl 3 rfl (by omega) (by decide) dX4_pass_20 ?_
    refine lv_iload_n (pc := 21) hx hb dX4_pass_21 rfl (lv_at hl 1 rfl) ?_
    refine lv_iadd (pc := 22) hx hb dX4_pass_22 ?_
    refine lv_ldc (pc := 23) hx hb hown (hts _ hw_X4_pass_ok_3) dX4_pass_23 ?_
    refine lv_icmp_le (pc := 25) (tgt := 31) hx hb dX4_pass_25 (by decide) (fun c_2 => ?_) (fun c_2 => ?_)
    · skip
      have c_2 : ((a 3) + x) ≤ 99999 := c_2
      refine lv_aload_n (pc := 31) hx hb dX4_pass_31 rfl (lv_at hl 0 rfl) ?_
      refine b_cV (pc := 32) (w1 := [((md 0), .inr (4, [.ref (md 1), .ref (md 2), .ref (md 3), .int (nI (h_sz hn)), .ref (md 4), .ref (md 5), .ref (md 6), .int (nI tl), .int (nI sp), .int nu])), ((md 1), .inl (cI, 86, .inl a)), ((md 2), .inl (cI, 86, .inl kp)), ((md 3), .inl (cI, 516, .inl (m_hs a hs hn))), ((md 4), .inl (cI, 172, .inl sl)), ((md 5), .inl (cI, 2, .inl iv)), ((md 6), .inl (cI, 60, .inl tx))]) (va_runV (As := []) (rest := []) ⟨hx, hb, hml, hown, hts⟩ (c_X4_changes l D cI cC cZ cG s.heap.size md a kp hs hn sl iv tx tl sp nu (by first | omega | assumption)) (cwV 0 hts gX4_pass_X4_changes rfl rfl rfl hy_X4_changes ⟨Nat.le_of_ble_eq_true rfl, Nat.le_of_ble_eq_true rfl⟩) (b_pWV (wc := [((md 0), .inr (4, [.ref (md 1), .ref (md 2), .ref (md 3), .int (nI hn), .ref (md 4), .ref (md 5), .ref (md 6), .int (nI tl), .int (nI sp), .int nu])), ((md 1), .inl (cI, 86, .inl a)), ((md 2), .inl (cI, 86, .inl kp)), ((md 3), .inl (cI, 516, .inl hs)), ((md 4), .inl (cI, 172, .inl sl)), ((md 5), .inl (cI, 2, .inl iv)), ((md 6), .inl (cI, 60, .inl tx))]) hK hP hD b_Xok_0 [0, 1, 2, 3, 4, 5, 6] rfl (by decide) rfl trivial (ci := 4) (q0 := 0) rfl rfl) rfl rfl hl.1 rfl (lv_room (Nat.le_of_ble_eq_true rfl)) dX4_pass_32 ⟨Nat.zero_le _, Nat.zero_le _⟩) hP hD hS hA [0, 1, 2, 3, 4, 5, 6] rfl rfl (fun H locs hP hD hS => ?_)
      have hP : va_P D vwCl [((md 0), .inr (4, [.ref (md 1), .ref (md 2), .ref (md 3), .int (nI (h_sz hn)), .ref (md 4), .ref (md 5), .ref (md 6), .int (nI tl), .int (nI sp), .int nu])), ((md 1), .inl (cI, 86, .inl a)), ((md 2), .inl (cI, 86, .inl kp)), ((md 3), .inl (cI, 516, .inl (m_hs a hs hn))), ((md 4), .inl (cI, 172, .inl sl)), ((md 5), .inl (cI, 2, .inl iv)), ((md 6), .inl (cI, 60, .inl tx))] H := hP
      have hD : va_D A [((md 0), .inr (4, [.ref (md 1), .ref (md 2), .ref (md 3), .int (nI (h_sz hn)), .ref (md 4), .ref (md 5), .ref (md 6), .int (nI tl), .int (nI sp), .int nu])), ((md 1), .inl (cI, 86, .inl a)), ((md 2), .inl (cI, 86, .inl kp)), ((md 3), .inl (cI, 516, .inl (m_hs a hs hn))), ((md 4), .inl (cI, 172, .inl sl)), ((md 5), .inl (cI, 2, .inl iv)), ((md 6), .inl (cI, 60, .inl tx))] := hD
      obtain ⟨f_3, ef_3⟩ : ∃ z9 : Nat → Int32, z9 = m_hs a hs hn := ⟨_, rfl⟩
      have hP : va_P D vwCl [((md 0), .inr (4, [.ref (md 1), .ref (md 2), .ref (md 3), .int (nI (h_sz hn)), .ref (md 4), .ref (md 5), .ref (md 6), .int (nI tl), .int (nI sp), .int nu])), ((md 1), .inl (cI, 86, .inl a)), ((md 2), .inl (cI, 86, .inl kp)), ((md 3), .inl (cI, 516, .inl f_3)), ((md 4), .inl (cI, 172, .inl sl)), ((md 5), .inl (cI, 2, .inl iv)), ((md 6), .inl (cI, 60, .inl tx))] H := by rw [ef_3]; exact hP
      have hD : va_D A [((md 0), .inr (4, [.ref (md 1), .ref (md 2), .ref (md 3), .int (nI (h_sz hn)), .ref (md 4), .ref (md 5), .ref (md 6), .int (nI tl), .int (nI sp), .int nu])), ((md 1), .inl (cI, 86, .inl a)), ((md 2), .inl (cI, 86, .inl kp)), ((md 3), .inl (cI, 516, .inl f_3)), ((md 4), .inl (cI, 172, .inl sl)), ((md 5), .inl (cI, 2, .inl iv)), ((md 6), .inl (cI, 60, .inl tx))] := by rw [ef_3]; exact hD
      refine lv_aload_n (pc := 35) hx hb dX4_pass_35 rfl (lv_at hl 0 rfl) ?_
      refine va_get (pc := 36) (D := D) (ci := 4) (v := .ref (md 1)) (C := RX4) (T := TX4) (N := 10) hx hb hts hi_X4_pass_ok_X4 hown hK hP 0 rfl rfl 0 (by decide) (hts _ hw_X4_pass_ok_1) (fun _ h9 => h9) rfl dX4_pass_36 ?_
      refine lv_iconst (pc := 39) (v := 3) hx hb dX4_pass_39 (by decide) ?_
      refine lv_dup2_11 (pc := 40) hx hb dX4_pass_40 rfl rfl ?_
      refine b_iald (pc := 41) hx hb hK hP 1 0 rfl rfl 3 rfl (by omega) (by decide) dX4_pass_41 ?_
      refine lv_iload_n (pc := 42) hx hb dX4_pass_42 rfl (lv_at hl 1 rfl) ?_
      refine lv_iadd (pc := 43) hx hb dX4_pass_43 ?_
      refine b_iast (pc := 44) hx hb hK hP hD hS 1 0 rfl rfl 3 rfl (by omega) (by decide) dX4_pass_44 (fun H locs hP hD hS => ?_)
      obtain ⟨f_4, ef_4⟩ : ∃ z9 : Nat → Int32, z9 = upd a 3 ((a 3) + x) := ⟨_, rfl⟩
      have hP : va_P D vwCl [((md 0), .inr (4, [.ref (md 1), .ref (md 2), .ref (md 3), .int (nI (h_sz hn)), .ref (md 4), .ref (md 5), .ref (md 6), .int (nI tl), .int (nI sp), .int nu])), ((md 1), .inl (cI, 86, .inl f_4)), ((md 2), .inl (cI, 86, .inl kp)), ((md 3), .inl (cI, 516, .inl f_3)), ((md 4), .inl (cI, 172, .inl sl)), ((md 5), .inl (cI, 2, .inl iv)), ((md 6), .inl (cI, 60, .inl tx))] H := by rw [ef_4]; exact hP
      have hD : va_D A [((md 0), .inr (4, [.ref (md 1), .ref (md 2), .ref (md 3), .int (nI (h_sz hn)), .ref (md 4), .ref (md 5), .ref (md 6), .int (nI tl), .int (nI sp), .int nu])), ((md 1), .inl (cI, 86, .inl f_4)), ((md 2), .inl (cI, 86, .inl kp)), ((md 3), .inl (cI, 516, .inl f_3)), ((md 4), .inl (cI, 172, .inl sl)), ((md 5), .inl (cI, 2, .inl iv)), ((md 6), .inl (cI, 60, .inl tx))] := by rw [ef_4]; exact hD
      refine lv_aload_n (pc := 45) hx hb dX4_pass_45 rfl (lv_at hl 0 rfl) ?_
      refine b_cR (pc := 46) (va_runV (As := []) (rest := []) ⟨hx, hb, hml, hown, hts⟩ (c_X4_blocked l D cI cC cZ cG md f_4 kp f_3 (h_sz hn) sl iv tx tl sp nu) (cwV 0 hts gX4_pass_X4_blocked rfl rfl rfl hy_X4_blocked ⟨Nat.le_of_ble_eq_true rfl, Nat.le_of_ble_eq_true rfl⟩) (b_pRV (wc := [((md 0), .inr (4, [.ref (md 1), .ref (md 2), .ref (md 3), .int (nI (h_sz hn)), .ref (md 4), .ref (md 5), .ref (md 6), .int (nI tl), .int (nI sp), .int nu])), ((md 1), .inl (cI, 86, .inl f_4)), ((md 2), .inl (cI, 86, .inl kp)), ((md 3), .inl (cI, 516, .inl f_3)), ((md 4), .inl (cI, 172, .inl sl)), ((md 5), .inl (cI, 2, .inl iv)), ((md 6), .inl (cI, 60, .inl tx))]) hK hP [0, 1, 2, 3, 4, 5, 6] rfl (ci := 4) (q0 := 0) rfl rfl) rfl rfl hl.1 rfl (lv_room (Nat.le_of_ble_eq_true rfl)) dX4_pass_46 ⟨Nat.zero_le _, Nat.zero_le _⟩) ?_
      refine b_cR (pc := 49) (va_runS (As := [.int (m_bm6 f_4 6)]) (rest := []) ⟨hx, hb, hml, hown, hts⟩ (c_X4_bits l D cI cC cZ cG (m_bm6 f_4 6)) (va_cwS 1 hts gX4_pass_X4_bits rfl rfl rfl hyS_X4_bits ⟨Nat.le_of_ble_eq_true rfl, Nat.le_of_ble_eq_true rfl⟩) (b_pRS (wc := []) hK hP [] rfl) rfl rfl hl.1 rfl (lv_room (Nat.le_of_ble_eq_true rfl)) dX4_pass_49 ⟨Nat.zero_le _, Nat.zero_le _⟩) ?_
      subst ef_3
      subst ef_4
      subst hQ
      exact b_retW hx hb hr hlocks hS (rfl) (hP) dX4_pass_52
    · skip
      have c_2 : ¬ (((a 3) + x) ≤ 99999) := c_2
      exact absurd h3 c_2
  · skip
    have c_1 : ¬ (m_in x.toInt64 1 999) := b_i_0.mp c_1
    exact absurd (m_inE (lo := 1) (hi := 999) (by decide) (by decide) h1 h2) c_1
theorem hw_X4_correct_bad_0 : (.constantLong RX4 93 (999) : Cond) ∈ wsX4_correct := by decide +kernel
set_option maxHeartbeats 4000000 in
set_option maxRecDepth 100000 in
theorem c_X4_correct_bad (l : Launch) (D : va_G) (cI cC cZ cG : ClassId) (md : Nat → Nat) (a : Nat → Int32) (kp : Nat → Int32) (hs : Nat → Int32) (hn : Nat) (sl : Nat → Int32) (iv : Nat → Int32) (tx : Nat → Int32) (tl : Nat) (sp : Nat) (nu : Int32) (x : Int32) (hbad : x < 0 ∨ ¬ x ≤ 999) : Met l yX4_correct wsX4_correct ({ frames := 1, cells := 0, slots := 0, locals := 25 } : Room) (b_R D (b_T cI cC cZ cG) [((md 0), .inr (4, [.ref (md 1), .ref (md 2), .ref (md 3), .int (nI hn), .ref (md 4), .ref (md 5), .ref (md 6), .int (nI tl), .int (nI sp), .int nu])), ((md 1), .inl (cI, 86, .inl a)), ((md 2), .inl (cI, 86, .inl kp)), ((md 3), .inl (cI, 516, .inl hs)), ((md 4), .inl (cI, 172, .inl sl)), ((md 5), .inl (cI, 2, .inl iv)), ((md 6), .inl (cI, 60, .inl tx))] [.ref (md 0), .int x]) (vp_Si (fun r => r = -2)) 0 0 (fun _ => False) := by
  refine b_enterR (cc := cX4_correct) (maxL := 3) (ret := (some .int)) (by decide) rfl (Nat.le_of_ble_eq_true rfl) ?_
  intro p e s m below meth c ls hx hb hr hml hown hts hlocks hP hK hl Q hQ
  have hown : s.vm.findClass RX4 = some m.cls := hown
  have hl : lv_has ls 3 [(0, .ref (md 0)), (1, .int x)] := hl
  refine lv_iload_n (pc := 0) hx hb dX4_correct_0 rfl (lv_at hl 1 rfl) ?_
  refine lv_i2l (pc := 1) hx hb dX4_correct_1 rfl ?_
  refine lv_lconst (pc := 2) (v := 0) hx hb dX4_correct_2 (by decide) ?_
  refine lv_ldc2 (pc := 3) hx hb hown (hts _ hw_X4_correct_bad_0) dX4_correct_3 ?_
  refine b_cR (pc := 6) (va_runS (As := [.long x.toInt64, .long 0, .long 999]) (rest := []) ⟨hx, hb, hml, hown, hts⟩ (c_X4_in l D cI cC cZ cG x.toInt64 0 999) (va_cwS 3 hts gX4_correct_X4_in rfl rfl rfl hyS_X4_in ⟨Nat.le_of_ble_eq_true rfl, Nat.le_of_ble_eq_true rfl⟩) (b_pRS (wc := []) hK hP [] rfl) rfl rfl hl.1 rfl (lv_room (Nat.le_of_ble_eq_true rfl)) dX4_correct_6 ⟨Nat.zero_le _, Nat.zero_le _⟩) ?_
  refine lv_if_ne (pc := 9) (tgt := 15) hx hb dX4_correct_9 (by decide) (fun c_1 => ?_) (fun c_1 => ?_)
  · skip
    have c_1 : m_in x.toInt64 0 999 := Classical.not_not.mp (fun h9 => c_1 (b_i_0.mpr h9))
    exact absurd c_1 (m_outE (lo := 0) (hi := 999) (by decide) (by decide) hbad)
  · skip
    have c_1 : ¬ (m_in x.toInt64 0 999) := b_i_0.mp c_1
    refine lv_bipush (pc := 12) (v := (-2)) hx hb dX4_correct_12 (by decide) ?_
    subst hQ
    exact b_retR hx hb hr hlocks (rfl) dX4_correct_14
theorem hw_X4_correct_ok_0 : (.constantLong RX4 93 (999) : Cond) ∈ wsX4_correct := by decide +kernel
theorem hw_X4_correct_ok_1 : (.fieldLink RX4 7 "BeamTurnstilesModel" "all" "[I" : Cond) ∈ wsX4_correct := by decide +kernel
theorem hi_X4_correct_ok_X4 : ∀ w ∈ wsX40, w ∈ wsX4_correct := by decide +kernel
set_option maxHeartbeats 4000000 in
set_option maxRecDepth 100000 in
theorem c_X4_correct_ok (l : Launch) (D : va_G) (cI cC cZ cG : ClassId) (sz : Nat) (md : Nat → Nat) (a : Nat → Int32) (kp : Nat → Int32) (hs : Nat → Int32) (hn : Nat) (sl : Nat → Int32) (iv : Nat → Int32) (tx : Nat → Int32) (tl : Nat) (sp : Nat) (nu : Int32) (x : Int32) (hl6 : hn ≤ 6) (h1 : ¬ x < 0) (h2 : x ≤ 999) : Met l yX4_correct wsX4_correct ({ frames := 1, cells := 0, slots := 0, locals := 25 } : Room) (b_W D (b_T cI cC cZ cG) b_X0 [((md 0), .inr (4, [.ref (md 1), .ref (md 2), .ref (md 3), .int (nI hn), .ref (md 4), .ref (md 5), .ref (md 6), .int (nI tl), .int (nI sp), .int nu])), ((md 1), .inl (cI, 86, .inl a)), ((md 2), .inl (cI, 86, .inl kp)), ((md 3), .inl (cI, 516, .inl hs)), ((md 4), .inl (cI, 172, .inl sl)), ((md 5), .inl (cI, 2, .inl iv)), ((md 6), .inl (cI, 60, .inl tx))] sz [.ref (md 0), .int x]) (b_Qi D (a 4) [((md 0), .inr (4, [.ref (md 1), .ref (md 2), .ref (md 3), .int (nI (h_sz hn)), .ref (md 4), .ref (md 5), .ref (md 6), .int (nI tl), .int (nI sp), .int nu])), ((md 1), .inl (cI, 86, .inl (m_cor a x))), ((md 2), .inl (cI, 86, .inl kp)), ((md 3), .inl (cI, 516, .inl (m_hs a hs hn))), ((md 4), .inl (cI, 172, .inl sl)), ((md 5), .inl (cI, 2, .inl iv)), ((md 6), .inl (cI, 60, .inl tx))] (va_A [((md 0), .inr (4, [.ref (md 1), .ref (md 2), .ref (md 3), .int (nI hn), .ref (md 4), .ref (md 5), .ref (md 6), .int (nI tl), .int (nI sp), .int nu])), ((md 1), .inl (cI, 86, .inl a)), ((md 2), .inl (cI, 86, .inl kp)), ((md 3), .inl (cI, 516, .inl hs)), ((md 4), .inl (cI, 172, .inl sl)), ((md 5), .inl (cI, 2, .inl iv)), ((md 6), .inl (cI, 60, .inl tx))] sz)) 0 0 (va_A [((md 0), .inr (4, [.ref (md 1), .ref (md 2), .ref (md 3), .int (nI hn), .ref (md 4), .ref (md 5), .ref (md 6), .int (nI tl), .int (nI sp), .int nu])), ((md 1), .inl (cI, 86, .inl a)), ((md 2), .inl (cI, 86, .inl kp)), ((md 3), .inl (cI, 516, .inl hs)), ((md 4), .inl (cI, 172, .inl sl)), ((md 5), .inl (cI, 2, .inl iv)), ((md 6), .inl (cI, 60, .inl tx))] sz) := by
  refine b_enterW (Qc := fun A => b_Qi D (a 4) [((md 0), .inr (4, [.ref (md 1), .ref (md 2), .ref (md 3), .int (nI (h_sz hn)), .ref (md 4), .ref (md 5), .ref (md 6), .int (nI tl), .int (nI sp), .int nu])), ((md 1), .inl (cI, 86, .inl (m_cor a x))), ((md 2), .inl (cI, 86, .inl kp)), ((md 3), .inl (cI, 516, .inl (m_hs a hs hn))), ((md 4), .inl (cI, 172, .inl sl)), ((md 5), .inl (cI, 2, .inl iv)), ((md 6), .inl (cI, 60, .inl tx))] A) (cc := cX4_correct) (maxL := 3) (ret := (some .int)) (by decide) rfl (Nat.le_of_ble_eq_true rfl) ?_
  intro p e s m below meth c ls A hx hb hr hml hown hts hlocks hname hP hK hD hA hS hX hl Q hQ
  have hown : s.vm.findClass RX4 = some m.cls := hown
  have hl : lv_has ls 3 [(0, .ref (md 0)), (1, .int x)] := hl
  refine lv_iload_n (pc := 0) hx hb dX4_correct_0 rfl (lv_at hl 1 rfl) ?_
  refine lv_i2l (pc := 1) hx hb dX4_correct_1 rfl ?_
  refine lv_lconst (pc := 2) (v := 0) hx hb dX4_correct_2 (by decide) ?_
  refine lv_ldc2 (pc := 3) hx hb hown (hts _ hw_X4_correct_ok_0) dX4_correct_3 ?_
  refine b_cR (pc := 6) (va_runS (As := [.long x.toInt64, .long 0, .long 999]) (rest := []) ⟨hx, hb, hml, hown, hts⟩ (c_X4_in l D cI cC cZ cG x.toInt64 0 999) (va_cwS 3 hts gX4_correct_X4_in rfl rfl rfl hyS_X4_in ⟨Nat.le_of_ble_eq_true rfl, Nat.le_of_ble_eq_true rfl⟩) (b_pRS (wc := []) hK hP [] rfl) rfl rfl hl.1 rfl (lv_room (Nat.le_of_ble_eq_true rfl)) dX4_correct_6 ⟨Nat.zero_le _, Nat.zero_le _⟩) ?_
  refine lv_if_ne (pc := 9) (tgt := 15) hx hb dX4_correct_9 (by decide) (fun c_1 => ?_) (fun c_1 => ?_)
  · skip
    have c_1 : m_in x.toInt64 0 999 := Classical.not_not.mp (fun h9 => c_1 (b_i_0.mpr h9))
    refine lv_aload_n (pc := 15) hx hb dX4_correct_15 rfl (lv_at hl 0 rfl) ?_
    refine b_cV (pc := 16) (w1 := [((md 0), .inr (4, [.ref (md 1), .ref (md 2), .ref (md 3), .int (nI (h_sz hn)), .ref (md 4), .ref (md 5), .ref (md 6), .int (nI tl), .int (nI sp), .int nu])), ((md 1), .inl (cI, 86, .inl a)), ((md 2), .inl (cI, 86, .inl kp)), ((md 3), .inl (cI, 516, .inl (m_hs a hs hn))), ((md 4), .inl (cI, 172, .inl sl)), ((md 5), .inl (cI, 2, .inl iv)), ((md 6), .inl (cI, 60, .inl tx))]) (va_runV (As := []) (rest := []) ⟨hx, hb, hml, hown, hts⟩ (c_X4_changes l D cI cC cZ cG s.heap.size md a kp hs hn sl iv tx tl sp nu (by first | omega | assumption)) (cwV 0 hts gX4_correct_X4_changes rfl rfl rfl hy_X4_changes ⟨Nat.le_of_ble_eq_true rfl, Nat.le_of_ble_eq_true rfl⟩) (b_pWV (wc := [((md 0), .inr (4, [.ref (md 1), .ref (md 2), .ref (md 3), .int (nI hn), .ref (md 4), .ref (md 5), .ref (md 6), .int (nI tl), .int (nI sp), .int nu])), ((md 1), .inl (cI, 86, .inl a)), ((md 2), .inl (cI, 86, .inl kp)), ((md 3), .inl (cI, 516, .inl hs)), ((md 4), .inl (cI, 172, .inl sl)), ((md 5), .inl (cI, 2, .inl iv)), ((md 6), .inl (cI, 60, .inl tx))]) hK hP hD b_Xok_0 [0, 1, 2, 3, 4, 5, 6] rfl (by decide) rfl trivial (ci := 4) (q0 := 0) rfl rfl) rfl rfl hl.1 rfl (lv_room (Nat.le_of_ble_eq_true rfl)) dX4_correct_16 ⟨Nat.zero_le _, Nat.zero_le _⟩) hP hD hS hA [0, 1, 2, 3, 4, 5, 6] rfl rfl (fun H locs hP hD hS => ?_)
    have hP : va_P D vwCl [((md 0), .inr (4, [.ref (md 1), .ref (md 2), .ref (md 3), .int (nI (h_sz hn)), .ref (md 4), .ref (md 5), .ref (md 6), .int (nI tl), .int (nI sp), .int nu])), ((md 1), .inl (cI, 86, .inl a)), ((md 2), .inl (cI, 86, .inl kp)), ((md 3), .inl (cI, 516, .inl (m_hs a hs hn))), ((md 4), .inl (cI, 172, .inl sl)), ((md 5), .inl (cI, 2, .inl iv)), ((md 6), .inl (cI, 60, .inl tx))] H := hP
    have hD : va_D A [((md 0), .inr (4, [.ref (md 1), .ref (md 2), .ref (md 3), .int (nI (h_sz hn)), .ref (md 4), .ref (md 5), .ref (md 6), .int (nI tl), .int (nI sp), .int nu])), ((md 1), .inl (cI, 86, .inl a)), ((md 2), .inl (cI, 86, .inl kp)), ((md 3), .inl (cI, 516, .inl (m_hs a hs hn))), ((md 4), .inl (cI, 172, .inl sl)), ((md 5), .inl (cI, 2, .inl iv)), ((md 6), .inl (cI, 60, .inl tx))] := hD
    obtain ⟨f_2, ef_2⟩ : ∃ z9 : Nat → Int32, z9 = m_hs a hs hn := ⟨_, rfl⟩
    have hP : va_P D vwCl [((md 0), .inr (4, [.ref (md 1), .ref (md 2), .ref (md 3), .int (nI (h_sz hn)), .ref (md 4), .ref (md 5), .ref (md 6), .int (nI tl), .int (nI sp), .int nu])), ((md 1), .inl (cI, 86, .inl a)), ((md 2), .inl (cI, 86, .inl kp)), ((md 3), .inl (cI, 516, .inl f_2)), ((md 4), .inl (cI, 172, .inl sl)), ((md 5), .inl (cI, 2, .inl iv)), ((md 6), .inl (cI, 60, .inl tx))] H := by rw [ef_2]; exact hP
    have hD : va_D A [((md 0), .inr (4, [.ref (md 1), .ref (md 2), .ref (md 3), .int (nI (h_sz hn)), .ref (md 4), .ref (md 5), .ref (md 6), .int (nI tl), .int (nI sp), .int nu])), ((md 1), .inl (cI, 86, .inl a)), ((md 2), .inl (cI, 86, .inl kp)), ((md 3), .inl (cI, 516, .inl f_2)), ((md 4), .inl (cI, 172, .inl sl)), ((md 5), .inl (cI, 2, .inl iv)), ((md 6), .inl (cI, 60, .inl tx))] := by rw [ef_2]; exact hD
    refine lv_aload_n (pc := 19) hx hb dX4_correct_19 rfl (lv_at hl 0 rfl) ?_
    refine va_get (pc := 20) (D := D) (ci := 4) (v := .ref (md 1)) (C := RX4) (T := TX4) (N := 10) hx hb hts hi_X4_correct_ok_X4 hown hK hP 0 rfl rfl 0 (by decide) (hts _ hw_X4_correct_ok_1) (fun _ h9 => h9) rfl dX4_correct_20 ?_
    refine lv_iconst (pc := 23) (v := 4) hx hb dX4_correct_23 (by decide) ?_
    refine b_iald (pc := 24) hx hb hK hP 1 0 rfl rfl 4 rfl (by omega) (by decide) dX4_correct_24 ?_
    refine lv_istore_n (pc := 25) (lv' := [(2, .int (a 4)), (0, .ref (md 0)), (1, .int x)]) hx hb dX4_correct_25 rfl hl (by decide) rfl (fun ls hl => ?_)
    refine lv_aload_n (pc := 26) hx hb dX4_correct_26 rfl (lv_at hl 1 rfl) ?_
    refine va_get (pc := 27) (D := D) (ci := 4) (v := .ref (md 1)) (C := RX4) (T := TX4) (N := 10) hx hb hts hi_X4_correct_ok_X4 hown hK hP 0 rfl rfl 0 (by decide) (hts _ hw_X4_correct_ok_1) (fun _ h9 => h9) rfl dX4_correct_27 ?_
    refine lv_iconst (pc := 30) (v := 4) hx hb dX4_correct_30 (by decide) ?_
    refine lv_iload_n (pc := 31) hx hb dX4_correct_31 rfl (lv_at hl 2 rfl) ?_
    refine b_iast (pc := 32) hx hb hK hP hD hS 1 0 rfl rfl 4 rfl (by omega) (by decide) dX4_correct_32 (fun H locs hP hD hS => ?_)
    obtain ⟨f_3, ef_3⟩ : ∃ z9 : Nat → Int32, z9 = upd a 4 x := ⟨_, rfl⟩
    have hP : va_P D vwCl [((md 0), .inr (4, [.ref (md 1), .ref (md 2), .ref (md 3), .int (nI (h_sz hn)), .ref (md 4), .ref (md 5), .ref (md 6), .int (nI tl), .int (nI sp), .int nu])), ((md 1), .inl (cI, 86, .inl f_3)), ((md 2), .inl (cI, 86, .inl kp)), ((md 3), .inl (cI, 516, .inl f_2)), ((md 4), .inl (cI, 172, .inl sl)), ((md 5), .inl (cI, 2, .inl iv)), ((md 6), .inl (cI, 60, .inl tx))] H := by rw [ef_3]; exact hP
    have hD : va_D A [((md 0), .inr (4, [.ref (md 1), .ref (md 2), .ref (md 3), .int (nI (h_sz hn)), .ref (md 4), .ref (md 5), .ref (md 6), .int (nI tl), .int (nI sp), .int nu])), ((md 1), .inl (cI, 86, .inl f_3)), ((md 2), .inl (cI, 86, .inl kp)), ((md 3), .inl (cI, 516, .inl f_2)), ((md 4), .inl (cI, 172, .inl sl)), ((md 5), .inl (cI, 2, .inl iv)), ((md 6), .inl (cI, 60, .inl tx))] := by rw [ef_3]; exact hD
    refine lv_aload_n (pc := 33) hx hb dX4_correct_33 rfl (lv_at hl 1 rfl) ?_
    refine va_get (pc := 34) (D := D) (ci := 4) (v := .ref (md 1)) (C := RX4) (T := TX4) (N := 10) hx hb hts hi_X4_correct_ok_X4 hown hK hP 0 rfl rfl 0 (by decide) (hts _ hw_X4_correct_ok_1) (fun _ h9 => h9) rfl dX4_correct_34 ?_
    refine lv_iconst (pc := 37) (v := 5) hx hb dX4_correct_37 (by decide) ?_
    refine lv_iload_n (pc := 38) hx hb dX4_correct_38 rfl (lv_at hl 2 rfl) ?_
    refine lv_aload_n (pc := 39) hx hb dX4_correct_39 rfl (lv_at hl 1 rfl) ?_
    refine va_get (pc := 40) (D := D) (ci := 4) (v := .ref (md 1)) (C := RX4) (T := TX4) (N := 10) hx hb hts hi_X4_correct_ok_X4 hown hK hP 0 rfl rfl 0 (by decide) (hts _ hw_X4_correct_ok_1) (fun _ h9 => h9) rfl dX4_correct_40 ?_
    refine lv_iconst (pc := 43) (v := 5) hx hb dX4_correct_43 (by decide) ?_
    refine b_iald (pc := 44) hx hb hK hP 1 0 rfl rfl 5 rfl (by omega) (by decide) dX4_correct_44 ?_
    refine lv_icmp_le (pc := 45) (tgt := 52) hx hb dX4_correct_45 (by decide) (fun c_4 => ?_) (fun c_4 => ?_)
    · skip
      have c_4 : x ≤ (f_3 5) := c_4
      refine lv_aload_n (pc := 52) hx hb dX4_correct_52 rfl (lv_at hl 1 rfl) ?_
      refine va_get (pc := 53) (D := D) (ci := 4) (v := .ref (md 1)) (C := RX4) (T := TX4) (N := 10) hx hb hts hi_X4_correct_ok_X4 hown hK hP 0 rfl rfl 0 (by decide) (hts _ hw_X4_correct_ok_1) (fun _ h9 => h9) rfl dX4_correct_53 ?_
      refine lv_iconst (pc := 56) (v := 5) hx hb dX4_correct_56 (by decide) ?_
      refine b_iald (pc := 57) hx hb hK hP 1 0 rfl rfl 5 rfl (by omega) (by decide) dX4_correct_57 ?_
      refine b_iast (pc := 58) hx hb hK hP hD hS 1 0 rfl rfl 5 rfl (by omega) (by decide) dX4_correct_58 (fun H locs hP hD hS => ?_)
      obtain ⟨f_5, ef_5⟩ : ∃ z9 : Nat → Int32, z9 = upd f_3 5 (f_3 5) := ⟨_, rfl⟩
      have hP : va_P D vwCl [((md 0), .inr (4, [.ref (md 1), .ref (md 2), .ref (md 3), .int (nI (h_sz hn)), .ref (md 4), .ref (md 5), .ref (md 6), .int (nI tl), .int (nI sp), .int nu])), ((md 1), .inl (cI, 86, .inl f_5)), ((md 2), .inl (cI, 86, .inl kp)), ((md 3), .inl (cI, 516, .inl f_2)), ((md 4), .inl (cI, 172, .inl sl)), ((md 5), .inl (cI, 2, .inl iv)), ((md 6), .inl (cI, 60, .inl tx))] H := by rw [ef_5]; exact hP
      have hD : va_D A [((md 0), .inr (4, [.ref (md 1), .ref (md 2), .ref (md 3), .int (nI (h_sz hn)), .ref (md 4), .ref (md 5), .ref (md 6), .int (nI tl), .int (nI sp), .int nu])), ((md 1), .inl (cI, 86, .inl f_5)), ((md 2), .inl (cI, 86, .inl kp)), ((md 3), .inl (cI, 516, .inl f_2)), ((md 4), .inl (cI, 172, .inl sl)), ((md 5), .inl (cI, 2, .inl iv)), ((md 6), .inl (cI, 60, .inl tx))] := by rw [ef_5]; exact hD
      refine lv_iload_n (pc := 59) hx hb dX4_correct_59 rfl (lv_at hl 0 rfl) ?_
      subst ef_2
      subst ef_3
      subst ef_5
      subst hQ
      exact b_retW hx hb hr hlocks hS (by first | (simp only [m_cor, if_pos c_1, if_pos c_4]; done) | rfl) (by refine b_eqP ?_ hP; simp only [m_cor, if_pos c_1, if_pos c_4]) dX4_correct_60
    · skip
      have c_4 : ¬ (x ≤ (f_3 5)) := c_4
      refine lv_iload_n (pc := 48) hx hb dX4_correct_48 rfl (lv_at hl 2 rfl) ?_
      refine lv_goto (pc := 49) (tgt := 58) hx hb dX4_correct_49 (by decide) ?_
      refine b_iast (pc := 58) hx hb hK hP hD hS 1 0 rfl rfl 5 rfl (by omega) (by decide) dX4_correct_58 (fun H locs hP hD hS => ?_)
      obtain ⟨f_6, ef_6⟩ : ∃ z9 : Nat → Int32, z9 = upd f_3 5 x := ⟨_, rfl⟩
      have hP : va_P D vwCl [((md 0), .inr (4, [.ref (md 1), .ref (md 2), .ref (md 3), .int (nI (h_sz hn)), .ref (md 4), .ref (md 5), .ref (md 6), .int (nI tl), .int (nI sp), .int nu])), ((md 1), .inl (cI, 86, .inl f_6)), ((md 2), .inl (cI, 86, .inl kp)), ((md 3), .inl (cI, 516, .inl f_2)), ((md 4), .inl (cI, 172, .inl sl)), ((md 5), .inl (cI, 2, .inl iv)), ((md 6), .inl (cI, 60, .inl tx))] H := by rw [ef_6]; exact hP
      have hD : va_D A [((md 0), .inr (4, [.ref (md 1), .ref (md 2), .ref (md 3), .int (nI (h_sz hn)), .ref (md 4), .ref (md 5), .ref (md 6), .int (nI tl), .int (nI sp), .int nu])), ((md 1), .inl (cI, 86, .inl f_6)), ((md 2), .inl (cI, 86, .inl kp)), ((md 3), .inl (cI, 516, .inl f_2)), ((md 4), .inl (cI, 172, .inl sl)), ((md 5), .inl (cI, 2, .inl iv)), ((md 6), .inl (cI, 60, .inl tx))] := by rw [ef_6]; exact hD
      refine lv_iload_n (pc := 59) hx hb dX4_correct_59 rfl (lv_at hl 0 rfl) ?_
      subst ef_2
      subst ef_3
      subst ef_6
      subst hQ
      exact b_retW hx hb hr hlocks hS (by first | (simp only [m_cor, if_pos c_1, if_neg c_4]; done) | rfl) (by refine b_eqP ?_ hP; simp only [m_cor, if_pos c_1, if_neg c_4]) dX4_correct_60
  · skip
    have c_1 : ¬ (m_in x.toInt64 0 999) := b_i_0.mp c_1
    exact absurd (m_inE (lo := 0) (hi := 999) (by decide) (by decide) h1 h2) c_1
set_option maxHeartbeats 4000000 in
set_option maxRecDepth 100000 in
theorem c_X4_clear_ng (l : Launch) (D : va_G) (cI cC cZ cG : ClassId) (md : Nat → Nat) (a : Nat → Int32) (kp : Nat → Int32) (hs : Nat → Int32) (hn : Nat) (sl : Nat → Int32) (iv : Nat → Int32) (tx : Nat → Int32) (tl : Nat) (sp : Nat) (nu : Int32) (x : Int32) (hbad : p_ng x) : Met l yX4_clear wsX4_clear ({ frames := 2, cells := 0, slots := 0, locals := 45 } : Room) (b_R D (b_T cI cC cZ cG) [((md 0), .inr (4, [.ref (md 1), .ref (md 2), .ref (md 3), .int (nI hn), .ref (md 4), .ref (md 5), .ref (md 6), .int (nI tl), .int (nI sp), .int nu])), ((md 1), .inl (cI, 86, .inl a)), ((md 2), .inl (cI, 86, .inl kp)), ((md 3), .inl (cI, 516, .inl hs)), ((md 4), .inl (cI, 172, .inl sl)), ((md 5), .inl (cI, 2, .inl iv)), ((md 6), .inl (cI, 60, .inl tx))] [.ref (md 0), .int x]) (vp_Si (fun r => r = -1)) 0 0 (fun _ => False) := by
  refine b_enterR (cc := cX4_clear) (maxL := 3) (ret := (some .int)) (by decide) rfl (Nat.le_of_ble_eq_true rfl) ?_
  intro p e s m below meth c ls hx hb hr hml hown hts hlocks hP hK hl Q hQ
  have hown : s.vm.findClass RX4 = some m.cls := hown
  have hl : lv_has ls 3 [(0, .ref (md 0)), (1, .int x)] := hl
  refine lv_iload_n (pc := 0) hx hb dX4_clear_0 rfl (lv_at hl 1 rfl) ?_
  refine b_cR (pc := 1) (va_runS (As := [.int x]) (rest := []) ⟨hx, hb, hml, hown, hts⟩ (c_X4_isGate l D cI cC cZ cG x) (va_cwS 1 hts gX4_clear_X4_isGate rfl rfl rfl hyS_X4_isGate ⟨Nat.le_of_ble_eq_true rfl, Nat.le_of_ble_eq_true rfl⟩) (b_pRS (wc := []) hK hP [] rfl) rfl rfl hl.1 rfl (lv_room (Nat.le_of_ble_eq_true rfl)) dX4_clear_1 ⟨Nat.zero_le _, Nat.zero_le _⟩) ?_
  refine lv_if_ne (pc := 4) (tgt := 9) hx hb dX4_clear_4 (by decide) (fun c_1 => ?_) (fun c_1 => ?_)
  · skip
    have c_1 : m_in x.toInt64 0 5 := Classical.not_not.mp (fun h9 => c_1 (b_i_0.mpr h9))
    exact absurd c_1 (m_ng hbad)
  · skip
    have c_1 : ¬ (m_in x.toInt64 0 5) := b_i_0.mp c_1
    refine lv_iconst (pc := 7) (v := (-1)) hx hb dX4_clear_7 (by decide) ?_
    subst hQ
    exact b_retR hx hb hr hlocks (rfl) dX4_clear_8
set_option maxHeartbeats 4000000 in
set_option maxRecDepth 100000 in
theorem c_X4_clear_np (l : Launch) (D : va_G) (cI cC cZ cG : ClassId) (md : Nat → Nat) (a : Nat → Int32) (kp : Nat → Int32) (hs : Nat → Int32) (hn : Nat) (sl : Nat → Int32) (iv : Nat → Int32) (tx : Nat → Int32) (tl : Nat) (sp : Nat) (nu : Int32) (g : Nat) (hg : g < 6) (hbad : a (8 + 13 * g + 1) = (-6)) : Met l yX4_clear wsX4_clear ({ frames := 2, cells := 0, slots := 0, locals := 45 } : Room) (b_R D (b_T cI cC cZ cG) [((md 0), .inr (4, [.ref (md 1), .ref (md 2), .ref (md 3), .int (nI hn), .ref (md 4), .ref (md 5), .ref (md 6), .int (nI tl), .int (nI sp), .int nu])), ((md 1), .inl (cI, 86, .inl a)), ((md 2), .inl (cI, 86, .inl kp)), ((md 3), .inl (cI, 516, .inl hs)), ((md 4), .inl (cI, 172, .inl sl)), ((md 5), .inl (cI, 2, .inl iv)), ((md 6), .inl (cI, 60, .inl tx))] [.ref (md 0), .int (nI g)]) (vp_Si (fun r => r = -5)) 0 0 (fun _ => False) := by
  refine b_enterR (cc := cX4_clear) (maxL := 3) (ret := (some .int)) (by decide) rfl (Nat.le_of_ble_eq_true rfl) ?_
  intro p e s m below meth c ls hx hb hr hml hown hts hlocks hP hK hl Q hQ
  have hown : s.vm.findClass RX4 = some m.cls := hown
  have hl : lv_has ls 3 [(0, .ref (md 0)), (1, .int (nI g))] := hl
  refine lv_iload_n (pc := 0) hx hb dX4_clear_0 rfl (lv_at hl 1 rfl) ?_
  refine b_cR (pc := 1) (va_runS (As := [.int (nI g)]) (rest := []) ⟨hx, hb, hml, hown, hts⟩ (c_X4_isGate l D cI cC cZ cG (nI g)) (va_cwS 1 hts gX4_clear_X4_isGate rfl rfl rfl hyS_X4_isGate ⟨Nat.le_of_ble_eq_true rfl, Nat.le_of_ble_eq_true rfl⟩) (b_pRS (wc := []) hK hP [] rfl) rfl rfl hl.1 rfl (lv_room (Nat.le_of_ble_eq_true rfl)) dX4_clear_1 ⟨Nat.zero_le _, Nat.zero_le _⟩) ?_
  refine lv_if_ne (pc := 4) (tgt := 9) hx hb dX4_clear_4 (by decide) (fun c_1 => ?_) (fun c_1 => ?_)
  · skip
    have c_1 : m_in (nI g).toInt64 0 5 := Classical.not_not.mp (fun h9 => c_1 (b_i_0.mpr h9))
    refine lv_aload_n (pc := 9) hx hb dX4_clear_9 rfl (lv_at hl 0 rfl) ?_
    refine lv_iload_n (pc := 10) hx hb dX4_clear_10 rfl (lv_at hl 1 rfl) ?_
    refine b_cR (pc := 11) (va_runV (As := [.int (nI g)]) (rest := []) ⟨hx, hb, hml, hown, hts⟩ (c_X4_isUnderWay l D cI cC cZ cG md a kp hs hn sl iv tx tl sp nu g (by first | omega | assumption)) (cwV 1 hts gX4_clear_X4_isUnderWay rfl rfl rfl hy_X4_isUnderWay ⟨Nat.le_of_ble_eq_true rfl, Nat.le_of_ble_eq_true rfl⟩) (b_pRV (wc := [((md 0), .inr (4, [.ref (md 1), .ref (md 2), .ref (md 3), .int (nI hn), .ref (md 4), .ref (md 5), .ref (md 6), .int (nI tl), .int (nI sp), .int nu])), ((md 1), .inl (cI, 86, .inl a)), ((md 2), .inl (cI, 86, .inl kp)), ((md 3), .inl (cI, 516, .inl hs)), ((md 4), .inl (cI, 172, .inl sl)), ((md 5), .inl (cI, 2, .inl iv)), ((md 6), .inl (cI, 60, .inl tx))]) hK hP [0, 1, 2, 3, 4, 5, 6] rfl (ci := 4) (q0 := 0) rfl rfl) rfl rfl hl.1 rfl (lv_room (Nat.le_of_ble_eq_true rfl)) dX4_clear_11 ⟨Nat.zero_le _, Nat.zero_le _⟩) ?_
    refine lv_if_ne (pc := 14) (tgt := 20) hx hb dX4_clear_14 (by decide) (fun c_2 => ?_) (fun c_2 => ?_)
    · skip
      have c_2 : ¬ a (8 + 13 * g + 1) = (-6) := Classical.not_not.mp (fun h9 => c_2 (b_i_0.mpr h9))
      exact absurd hbad c_2
    · skip
      have c_2 : ¬ (¬ a (8 + 13 * g + 1) = (-6)) := b_i_0.mp c_2
      refine lv_bipush (pc := 17) (v := (-5)) hx hb dX4_clear_17 (by decide) ?_
      subst hQ
      exact b_retR hx hb hr hlocks (rfl) dX4_clear_19
  · skip
    have c_1 : ¬ (m_in (nI g).toInt64 0 5) := b_i_0.mp c_1
    exact absurd (m_gk hg) c_1
set_option maxHeartbeats 4000000 in
set_option maxRecDepth 100000 in
theorem c_X4_clear_ok (l : Launch) (D : va_G) (cI cC cZ cG : ClassId) (sz : Nat) (md : Nat → Nat) (a : Nat → Int32) (kp : Nat → Int32) (hs : Nat → Int32) (hn : Nat) (sl : Nat → Int32) (iv : Nat → Int32) (tx : Nat → Int32) (tl : Nat) (sp : Nat) (nu : Int32) (g : Nat) (hl6 : hn ≤ 6) (hg : g < 6) (hbad : ¬ a (8 + 13 * g + 1) = (-6)) : Met l yX4_clear wsX4_clear ({ frames := 4, cells := 0, slots := 0, locals := 86 } : Room) (b_W D (b_T cI cC cZ cG) b_X0 [((md 0), .inr (4, [.ref (md 1), .ref (md 2), .ref (md 3), .int (nI hn), .ref (md 4), .ref (md 5), .ref (md 6), .int (nI tl), .int (nI sp), .int nu])), ((md 1), .inl (cI, 86, .inl a)), ((md 2), .inl (cI, 86, .inl kp)), ((md 3), .inl (cI, 516, .inl hs)), ((md 4), .inl (cI, 172, .inl sl)), ((md 5), .inl (cI, 2, .inl iv)), ((md 6), .inl (cI, 60, .inl tx))] sz [.ref (md 0), .int (nI g)]) (b_Qi D (a (8 + 13 * g + 0)) [((md 0), .inr (4, [.ref (md 1), .ref (md 2), .ref (md 3), .int (nI (h_sz hn)), .ref (md 4), .ref (md 5), .ref (md 6), .int (nI tl), .int (nI sp), .int nu])), ((md 1), .inl (cI, 86, .inl (m_en a g 7))), ((md 2), .inl (cI, 86, .inl kp)), ((md 3), .inl (cI, 516, .inl (m_hs a hs hn))), ((md 4), .inl (cI, 172, .inl sl)), ((md 5), .inl (cI, 2, .inl iv)), ((md 6), .inl (cI, 60, .inl tx))] (va_A [((md 0), .inr (4, [.ref (md 1), .ref (md 2), .ref (md 3), .int (nI hn), .ref (md 4), .ref (md 5), .ref (md 6), .int (nI tl), .int (nI sp), .int nu])), ((md 1), .inl (cI, 86, .inl a)), ((md 2), .inl (cI, 86, .inl kp)), ((md 3), .inl (cI, 516, .inl hs)), ((md 4), .inl (cI, 172, .inl sl)), ((md 5), .inl (cI, 2, .inl iv)), ((md 6), .inl (cI, 60, .inl tx))] sz)) 0 0 (va_A [((md 0), .inr (4, [.ref (md 1), .ref (md 2), .ref (md 3), .int (nI hn), .ref (md 4), .ref (md 5), .ref (md 6), .int (nI tl), .int (nI sp), .int nu])), ((md 1), .inl (cI, 86, .inl a)), ((md 2), .inl (cI, 86, .inl kp)), ((md 3), .inl (cI, 516, .inl hs)), ((md 4), .inl (cI, 172, .inl sl)), ((md 5), .inl (cI, 2, .inl iv)), ((md 6), .inl (cI, 60, .inl tx))] sz) := by
  refine b_enterW (Qc := fun A => b_Qi D (a (8 + 13 * g + 0)) [((md 0), .inr (4, [.ref (md 1), .ref (md 2), .ref (md 3), .int (nI (h_sz hn)), .ref (md 4), .ref (md 5), .ref (md 6), .int (nI tl), .int (nI sp), .int nu])), ((md 1), .inl (cI, 86, .inl (m_en a g 7))), ((md 2), .inl (cI, 86, .inl kp)), ((md 3), .inl (cI, 516, .inl (m_hs a hs hn))), ((md 4), .inl (cI, 172, .inl sl)), ((md 5), .inl (cI, 2, .inl iv)), ((md 6), .inl (cI, 60, .inl tx))] A) (cc := cX4_clear) (maxL := 3) (ret := (some .int)) (by decide) rfl (Nat.le_of_ble_eq_true rfl) ?_
  intro p e s m below meth c ls A hx hb hr hml hown hts hlocks hname hP hK hD hA hS hX hl Q hQ
  have hown : s.vm.findClass RX4 = some m.cls := hown
  have hl : lv_has ls 3 [(0, .ref (md 0)), (1, .int (nI g))] := hl
  refine lv_iload_n (pc := 0) hx hb dX4_clear_0 rfl (lv_at hl 1 rfl) ?_
  refine b_cR (pc := 1) (va_runS (As := [.int (nI g)]) (rest := []) ⟨hx, hb, hml, hown, hts⟩ (c_X4_isGate l D cI cC cZ cG (nI g)) (va_cwS 1 hts gX4_clear_X4_isGate rfl rfl rfl hyS_X4_isGate ⟨Nat.le_of_ble_eq_true rfl, Nat.le_of_ble_eq_true rfl⟩) (b_pRS (wc := []) hK hP [] rfl) rfl rfl hl.1 rfl (lv_room (Nat.le_of_ble_eq_true rfl)) dX4_clear_1 ⟨Nat.zero_le _, Nat.zero_le _⟩) ?_
  refine lv_if_ne (pc := 4) (tgt := 9) hx hb dX4_clear_4 (by decide) (fun c_1 => ?_) (fun c_1 => ?_)
  · skip
    have c_1 : m_in (nI g).toInt64 0 5 := Classical.not_not.mp (fun h9 => c_1 (b_i_0.mpr h9))
    refine lv_aload_n (pc := 9) hx hb dX4_clear_9 rfl (lv_at hl 0 rfl) ?_
    refine lv_iload_n (pc := 10) hx hb dX4_clear_10 rfl (lv_at hl 1 rfl) ?_
    refine b_cR (pc := 11) (va_runV (As := [.int (nI g)]) (rest := []) ⟨hx, hb, hml, hown, hts⟩ (c_X4_isUnderWay l D cI cC cZ cG md a kp hs hn sl iv tx tl sp nu g (by first | omega | assumption)) (cwV 1 hts gX4_clear_X4_isUnderWay rfl rfl rfl hy_X4_isUnderWay ⟨Nat.le_of_ble_eq_true rfl, Nat.le_of_ble_eq_true rfl⟩) (b_pRV (wc := [((md 0), .inr (4, [.ref (md 1), .ref (md 2), .ref (md 3), .int (nI hn), .ref (md 4), .ref (md 5), .ref (md 6), .int (nI tl), .int (nI sp), .int nu])), ((md 1), .inl (cI, 86, .inl a)), ((md 2), .inl (cI, 86, .inl kp)), ((md 3), .inl (cI, 516, .inl hs)), ((md 4), .inl (cI, 172, .inl sl)), ((md 5), .inl (cI, 2, .inl iv)), ((md 6), .inl (cI, 60, .inl tx))]) hK hP [0, 1, 2, 3, 4, 5, 6] rfl (ci := 4) (q0 := 0) rfl rfl) rfl rfl hl.1 rfl (lv_room (Nat.le_of_ble_eq_true rfl)) dX4_clear_11 ⟨Nat.zero_le _, Nat.zero_le _⟩) ?_
    refine lv_if_ne (pc := 14) (tgt := 20) hx hb dX4_clear_14 (by decide) (fun c_2 => ?_) (fun c_2 => ?_)
    · skip
      have c_2 : ¬ a (8 + 13 * g + 1) = (-6) := Classical.not_not.mp (fun h9 => c_2 (b_i_0.mpr h9))
      refine lv_aload_n (pc := 20) hx hb dX4_clear_20 rfl (lv_at hl 0 rfl) ?_
      refine b_cV (pc := 21) (w1 := [((md 0), .inr (4, [.ref (md 1), .ref (md 2), .ref (md 3), .int (nI (h_sz hn)), .ref (md 4), .ref (md 5), .ref (md 6), .int (nI tl), .int (nI sp), .int nu])), ((md 1), .inl (cI, 86, .inl a)), ((md 2), .inl (cI, 86, .inl kp)), ((md 3), .inl (cI, 516, .inl (m_hs a hs hn))), ((md 4), .inl (cI, 172, .inl sl)), ((md 5), .inl (cI, 2, .inl iv)), ((md 6), .inl (cI, 60, .inl tx))]) (va_runV (As := []) (rest := []) ⟨hx, hb, hml, hown, hts⟩ (c_X4_changes l D cI cC cZ cG s.heap.size md a kp hs hn sl iv tx tl sp nu (by first | omega | assumption)) (cwV 0 hts gX4_clear_X4_changes rfl rfl rfl hy_X4_changes ⟨Nat.le_of_ble_eq_true rfl, Nat.le_of_ble_eq_true rfl⟩) (b_pWV (wc := [((md 0), .inr (4, [.ref (md 1), .ref (md 2), .ref (md 3), .int (nI hn), .ref (md 4), .ref (md 5), .ref (md 6), .int (nI tl), .int (nI sp), .int nu])), ((md 1), .inl (cI, 86, .inl a)), ((md 2), .inl (cI, 86, .inl kp)), ((md 3), .inl (cI, 516, .inl hs)), ((md 4), .inl (cI, 172, .inl sl)), ((md 5), .inl (cI, 2, .inl iv)), ((md 6), .inl (cI, 60, .inl tx))]) hK hP hD b_Xok_0 [0, 1, 2, 3, 4, 5, 6] rfl (by decide) rfl trivial (ci := 4) (q0 := 0) rfl rfl) rfl rfl hl.1 rfl (lv_room (Nat.le_of_ble_eq_true rfl)) dX4_clear_21 ⟨Nat.zero_le _, Nat.zero_le _⟩) hP hD hS hA [0, 1, 2, 3, 4, 5, 6] rfl rfl (fun H locs hP hD hS => ?_)
      have hP : va_P D vwCl [((md 0), .inr (4, [.ref (md 1), .ref (md 2), .ref (md 3), .int (nI (h_sz hn)), .ref (md 4), .ref (md 5), .ref (md 6), .int (nI tl), .int (nI sp), .int nu])), ((md 1), .inl (cI, 86, .inl a)), ((md 2), .inl (cI, 86, .inl kp)), ((md 3), .inl (cI, 516, .inl (m_hs a hs hn))), ((md 4), .inl (cI, 172, .inl sl)), ((md 5), .inl (cI, 2, .inl iv)), ((md 6), .inl (cI, 60, .inl tx))] H := hP
      have hD : va_D A [((md 0), .inr (4, [.ref (md 1), .ref (md 2), .ref (md 3), .int (nI (h_sz hn)), .ref (md 4), .ref (md 5), .ref (md 6), .int (nI tl), .int (nI sp), .int nu])), ((md 1), .inl (cI, 86, .inl a)), ((md 2), .inl (cI, 86, .inl kp)), ((md 3), .inl (cI, 516, .inl (m_hs a hs hn))), ((md 4), .inl (cI, 172, .inl sl)), ((md 5), .inl (cI, 2, .inl iv)), ((md 6), .inl (cI, 60, .inl tx))] := hD
      obtain ⟨f_3, ef_3⟩ : ∃ z9 : Nat → Int32, z9 = m_hs a hs hn := ⟨_, rfl⟩
      have hP : va_P D vwCl [((md 0), .inr (4, [.ref (md 1), .ref (md 2), .ref (md 3), .int (nI (h_sz hn)), .ref (md 4), .ref (md 5), .ref (md 6), .int (nI tl), .int (nI sp), .int nu])), ((md 1), .inl (cI, 86, .inl a)), ((md 2), .inl (cI, 86, .inl kp)), ((md 3), .inl (cI, 516, .inl f_3)), ((md 4), .inl (cI, 172, .inl sl)), ((md 5), .inl (cI, 2, .inl iv)), ((md 6), .inl (cI, 60, .inl tx))] H := by rw [ef_3]; exact hP
      have hD : va_D A [((md 0), .inr (4, [.ref (md 1), .ref (md 2), .ref (md 3), .int (nI (h_sz hn)), .ref (md 4), .ref (md 5), .ref (md 6), .int (nI tl), .int (nI sp), .int nu])), ((md 1), .inl (cI, 86, .inl a)), ((md 2), .inl (cI, 86, .inl kp)), ((md 3), .inl (cI, 516, .inl f_3)), ((md 4), .inl (cI, 172, .inl sl)), ((md 5), .inl (cI, 2, .inl iv)), ((md 6), .inl (cI, 60, .inl tx))] := by rw [ef_3]; exact hD
      refine lv_aload_n (pc := 24) hx hb dX4_clear_24 rfl (lv_at hl 0 rfl) ?_
      refine lv_iload_n (pc := 25) hx hb dX4_clear_25 rfl (lv_at hl 1 rfl) ?_
      refine lv_iconst (pc := 26) (v := 0) hx hb dX4_clear_26 (by decide) ?_
      refine b_cR (pc := 27) (va_runV (As := [.int (nI g), .int 0]) (rest := []) ⟨hx, hb, hml, hown, hts⟩ (c_X4_get l D cI cC cZ cG md a kp f_3 (h_sz hn) sl iv tx tl sp nu g 0 (by first | omega | assumption) (by first | omega | assumption)) (cwV 2 hts gX4_clear_X4_get rfl rfl rfl hy_X4_get ⟨Nat.le_of_ble_eq_true rfl, Nat.le_of_ble_eq_true rfl⟩) (b_pRV (wc := [((md 0), .inr (4, [.ref (md 1), .ref (md 2), .ref (md 3), .int (nI (h_sz hn)), .ref (md 4), .ref (md 5), .ref (md 6), .int (nI tl), .int (nI sp), .int nu])), ((md 1), .inl (cI, 86, .inl a)), ((md 2), .inl (cI, 86, .inl kp)), ((md 3), .inl (cI, 516, .inl f_3)), ((md 4), .inl (cI, 172, .inl sl)), ((md 5), .inl (cI, 2, .inl iv)), ((md 6), .inl (cI, 60, .inl tx))]) hK hP [0, 1, 2, 3, 4, 5, 6] rfl (ci := 4) (q0 := 0) rfl rfl) rfl rfl hl.1 rfl (lv_room (Nat.le_of_ble_eq_true rfl)) dX4_clear_27 ⟨Nat.zero_le _, Nat.zero_le _⟩) ?_
      refine lv_istore_n (pc := 30) (lv' := [(2, .int (a (8 + 13 * g + 0))), (0, .ref (md 0)), (1, .int (nI g))]) hx hb dX4_clear_30 rfl hl (by decide) rfl (fun ls hl => ?_)
      refine lv_aload_n (pc := 31) hx hb dX4_clear_31 rfl (lv_at hl 1 rfl) ?_
      refine lv_iload_n (pc := 32) hx hb dX4_clear_32 rfl (lv_at hl 2 rfl) ?_
      refine lv_bipush (pc := 33) (v := 7) hx hb dX4_clear_33 (by decide) ?_
      refine b_cV (pc := 35) (w1 := [((md 0), .inr (4, [.ref (md 1), .ref (md 2), .ref (md 3), .int (nI (h_sz hn)), .ref (md 4), .ref (md 5), .ref (md 6), .int (nI tl), .int (nI sp), .int nu])), ((md 1), .inl (cI, 86, .inl (m_en a g 7))), ((md 2), .inl (cI, 86, .inl kp)), ((md 3), .inl (cI, 516, .inl f_3)), ((md 4), .inl (cI, 172, .inl sl)), ((md 5), .inl (cI, 2, .inl iv)), ((md 6), .inl (cI, 60, .inl tx))]) (va_runV (As := [.int (nI g), .int 7]) (rest := []) ⟨hx, hb, hml, hown, hts⟩ (c_X4_ends l D cI cC cZ cG H.size md a kp f_3 (h_sz hn) sl iv tx tl sp nu g 7 (by first | omega | assumption) (by first | omega | assumption)) (cwV 2 hts gX4_clear_X4_ends rfl rfl rfl hy_X4_ends ⟨Nat.le_of_ble_eq_true rfl, Nat.le_of_ble_eq_true rfl⟩) (b_pWV (wc := [((md 0), .inr (4, [.ref (md 1), .ref (md 2), .ref (md 3), .int (nI (h_sz hn)), .ref (md 4), .ref (md 5), .ref (md 6), .int (nI tl), .int (nI sp), .int nu])), ((md 1), .inl (cI, 86, .inl a)), ((md 2), .inl (cI, 86, .inl kp)), ((md 3), .inl (cI, 516, .inl f_3)), ((md 4), .inl (cI, 172, .inl sl)), ((md 5), .inl (cI, 2, .inl iv)), ((md 6), .inl (cI, 60, .inl tx))]) hK hP hD b_Xok_0 [0, 1, 2, 3, 4, 5, 6] rfl (by decide) rfl trivial (ci := 4) (q0 := 0) rfl rfl) rfl rfl hl.1 rfl (lv_room (Nat.le_of_ble_eq_true rfl)) dX4_clear_35 ⟨Nat.zero_le _, Nat.zero_le _⟩) hP hD hS hA [0, 1, 2, 3, 4, 5, 6] rfl rfl (fun H locs hP hD hS => ?_)
      have hP : va_P D vwCl [((md 0), .inr (4, [.ref (md 1), .ref (md 2), .ref (md 3), .int (nI (h_sz hn)), .ref (md 4), .ref (md 5), .ref (md 6), .int (nI tl), .int (nI sp), .int nu])), ((md 1), .inl (cI, 86, .inl (m_en a g 7))), ((md 2), .inl (cI, 86, .inl kp)), ((md 3), .inl (cI, 516, .inl f_3)), ((md 4), .inl (cI, 172, .inl sl)), ((md 5), .inl (cI, 2, .inl iv)), ((md 6), .inl (cI, 60, .inl tx))] H := hP
      have hD : va_D A [((md 0), .inr (4, [.ref (md 1), .ref (md 2), .ref (md 3), .int (nI (h_sz hn)), .ref (md 4), .ref (md 5), .ref (md 6), .int (nI tl), .int (nI sp), .int nu])), ((md 1), .inl (cI, 86, .inl (m_en a g 7))), ((md 2), .inl (cI, 86, .inl kp)), ((md 3), .inl (cI, 516, .inl f_3)), ((md 4), .inl (cI, 172, .inl sl)), ((md 5), .inl (cI, 2, .inl iv)), ((md 6), .inl (cI, 60, .inl tx))] := hD
      refine lv_iload_n (pc := 38) hx hb dX4_clear_38 rfl (lv_at hl 0 rfl) ?_
      subst ef_3
      subst hQ
      exact b_retW hx hb hr hlocks hS (rfl) (hP) dX4_clear_39
    · skip
      have c_2 : ¬ (¬ a (8 + 13 * g + 1) = (-6)) := b_i_0.mp c_2
      exact absurd hbad c_2
  · skip
    have c_1 : ¬ (m_in (nI g).toInt64 0 5) := b_i_0.mp c_1
    exact absurd (m_gk hg) c_1
set_option maxHeartbeats 4000000 in
set_option maxRecDepth 100000 in
theorem c_X4_gate_ng (l : Launch) (D : va_G) (cI cC cZ cG : ClassId) (md : Nat → Nat) (a : Nat → Int32) (kp : Nat → Int32) (hs : Nat → Int32) (hn : Nat) (sl : Nat → Int32) (iv : Nat → Int32) (tx : Nat → Int32) (tl : Nat) (sp : Nat) (nu : Int32) (x : Int32) (y : Int32) (hbad : p_ng x) : Met l yX4_gate wsX4_gate ({ frames := 2, cells := 0, slots := 0, locals := 45 } : Room) (b_R D (b_T cI cC cZ cG) [((md 0), .inr (4, [.ref (md 1), .ref (md 2), .ref (md 3), .int (nI hn), .ref (md 4), .ref (md 5), .ref (md 6), .int (nI tl), .int (nI sp), .int nu])), ((md 1), .inl (cI, 86, .inl a)), ((md 2), .inl (cI, 86, .inl kp)), ((md 3), .inl (cI, 516, .inl hs)), ((md 4), .inl (cI, 172, .inl sl)), ((md 5), .inl (cI, 2, .inl iv)), ((md 6), .inl (cI, 60, .inl tx))] [.ref (md 0), .int x, .int y]) (vp_Si (fun r => r = -1)) 0 0 (fun _ => False) := by
  refine b_enterR (cc := cX4_gate) (maxL := 3) (ret := (some .int)) (by decide) rfl (Nat.le_of_ble_eq_true rfl) ?_
  intro p e s m below meth c ls hx hb hr hml hown hts hlocks hP hK hl Q hQ
  have hown : s.vm.findClass RX4 = some m.cls := hown
  have hl : lv_has ls 3 [(0, .ref (md 0)), (1, .int x), (2, .int y)] := hl
  refine lv_iload_n (pc := 0) hx hb dX4_gate_0 rfl (lv_at hl 1 rfl) ?_
  refine b_cR (pc := 1) (va_runS (As := [.int x]) (rest := []) ⟨hx, hb, hml, hown, hts⟩ (c_X4_isGate l D cI cC cZ cG x) (va_cwS 1 hts gX4_gate_X4_isGate rfl rfl rfl hyS_X4_isGate ⟨Nat.le_of_ble_eq_true rfl, Nat.le_of_ble_eq_true rfl⟩) (b_pRS (wc := []) hK hP [] rfl) rfl rfl hl.1 rfl (lv_room (Nat.le_of_ble_eq_true rfl)) dX4_gate_1 ⟨Nat.zero_le _, Nat.zero_le _⟩) ?_
  refine lv_if_ne (pc := 4) (tgt := 9) hx hb dX4_gate_4 (by decide) (fun c_1 => ?_) (fun c_1 => ?_)
  · skip
    have c_1 : m_in x.toInt64 0 5 := Classical.not_not.mp (fun h9 => c_1 (b_i_0.mpr h9))
    exact absurd c_1 (m_ng hbad)
  · skip
    have c_1 : ¬ (m_in x.toInt64 0 5) := b_i_0.mp c_1
    refine lv_iconst (pc := 7) (v := (-1)) hx hb dX4_gate_7 (by decide) ?_
    subst hQ
    exact b_retR hx hb hr hlocks (rfl) dX4_gate_8
set_option maxHeartbeats 4000000 in
set_option maxRecDepth 100000 in
theorem c_X4_gate_bw (l : Launch) (D : va_G) (cI cC cZ cG : ClassId) (md : Nat → Nat) (a : Nat → Int32) (kp : Nat → Int32) (hs : Nat → Int32) (hn : Nat) (sl : Nat → Int32) (iv : Nat → Int32) (tx : Nat → Int32) (tl : Nat) (sp : Nat) (nu : Int32) (g : Nat) (y : Int32) (hg : g < 6) (hbad : y < 0 ∨ ¬ y < 13) : Met l yX4_gate wsX4_gate ({ frames := 2, cells := 0, slots := 0, locals := 45 } : Room) (b_R D (b_T cI cC cZ cG) [((md 0), .inr (4, [.ref (md 1), .ref (md 2), .ref (md 3), .int (nI hn), .ref (md 4), .ref (md 5), .ref (md 6), .int (nI tl), .int (nI sp), .int nu])), ((md 1), .inl (cI, 86, .inl a)), ((md 2), .inl (cI, 86, .inl kp)), ((md 3), .inl (cI, 516, .inl hs)), ((md 4), .inl (cI, 172, .inl sl)), ((md 5), .inl (cI, 2, .inl iv)), ((md 6), .inl (cI, 60, .inl tx))] [.ref (md 0), .int (nI g), .int y]) (vp_Si (fun r => r = -2)) 0 0 (fun _ => False) := by
  refine b_enterR (cc := cX4_gate) (maxL := 3) (ret := (some .int)) (by decide) rfl (Nat.le_of_ble_eq_true rfl) ?_
  intro p e s m below meth c ls hx hb hr hml hown hts hlocks hP hK hl Q hQ
  have hown : s.vm.findClass RX4 = some m.cls := hown
  have hl : lv_has ls 3 [(0, .ref (md 0)), (1, .int (nI g)), (2, .int y)] := hl
  refine lv_iload_n (pc := 0) hx hb dX4_gate_0 rfl (lv_at hl 1 rfl) ?_
  refine b_cR (pc := 1) (va_runS (As := [.int (nI g)]) (rest := []) ⟨hx, hb, hml, hown, hts⟩ (c_X4_isGate l D cI cC cZ cG (nI g)) (va_cwS 1 hts gX4_gate_X4_isGate rfl rfl rfl hyS_X4_isGate ⟨Nat.le_of_ble_eq_true rfl, Nat.le_of_ble_eq_true rfl⟩) (b_pRS (wc := []) hK hP [] rfl) rfl rfl hl.1 rfl (lv_room (Nat.le_of_ble_eq_true rfl)) dX4_gate_1 ⟨Nat.zero_le _, Nat.zero_le _⟩) ?_
  refine lv_if_ne (pc := 4) (tgt := 9) hx hb dX4_gate_4 (by decide) (fun c_1 => ?_) (fun c_1 => ?_)
  · skip
    have c_1 : m_in (nI g).toInt64 0 5 := Classical.not_not.mp (fun h9 => c_1 (b_i_0.mpr h9))
    refine lv_iload_n (pc := 9) hx hb dX4_gate_9 rfl (lv_at hl 2 rfl) ?_
    refine lv_tableOut (pc := 10) (tgt := 134) hx hb dX4_gate_10 (m_n13 hbad) (by decide) ?_
    refine lv_bipush (pc := 134) (v := (-2)) hx hb dX4_gate_134 (by decide) ?_
    subst hQ
    exact b_retR hx hb hr hlocks (rfl) dX4_gate_136
  · skip
    have c_1 : ¬ (m_in (nI g).toInt64 0 5) := b_i_0.mp c_1
    exact absurd (m_gk hg) c_1
set_option maxHeartbeats 4000000 in
set_option maxRecDepth 100000 in
theorem c_X4_gate_0 (l : Launch) (D : va_G) (cI cC cZ cG : ClassId) (md : Nat → Nat) (a : Nat → Int32) (kp : Nat → Int32) (hs : Nat → Int32) (hn : Nat) (sl : Nat → Int32) (iv : Nat → Int32) (tx : Nat → Int32) (tl : Nat) (sp : Nat) (nu : Int32) (g : Nat) (hg : g < 6) : Met l yX4_gate wsX4_gate ({ frames := 3, cells := 0, slots := 0, locals := 64 } : Room) (b_R D (b_T cI cC cZ cG) [((md 0), .inr (4, [.ref (md 1), .ref (md 2), .ref (md 3), .int (nI hn), .ref (md 4), .ref (md 5), .ref (md 6), .int (nI tl), .int (nI sp), .int nu])), ((md 1), .inl (cI, 86, .inl a)), ((md 2), .inl (cI, 86, .inl kp)), ((md 3), .inl (cI, 516, .inl hs)), ((md 4), .inl (cI, 172, .inl sl)), ((md 5), .inl (cI, 2, .inl iv)), ((md 6), .inl (cI, 60, .inl tx))] [.ref (md 0), .int (nI g), .int (nI 0)]) (vp_Si (fun r => r = m_gate a g 0)) 0 0 (fun _ => False) := by
  refine b_enterR (cc := cX4_gate) (maxL := 3) (ret := (some .int)) (by decide) rfl (Nat.le_of_ble_eq_true rfl) ?_
  intro p e s m below meth c ls hx hb hr hml hown hts hlocks hP hK hl Q hQ
  have hown : s.vm.findClass RX4 = some m.cls := hown
  have hl : lv_has ls 3 [(0, .ref (md 0)), (1, .int (nI g)), (2, .int (nI 0))] := hl
  refine lv_iload_n (pc := 0) hx hb dX4_gate_0 rfl (lv_at hl 1 rfl) ?_
  refine b_cR (pc := 1) (va_runS (As := [.int (nI g)]) (rest := []) ⟨hx, hb, hml, hown, hts⟩ (c_X4_isGate l D cI cC cZ cG (nI g)) (va_cwS 1 hts gX4_gate_X4_isGate rfl rfl rfl hyS_X4_isGate ⟨Nat.le_of_ble_eq_true rfl, Nat.le_of_ble_eq_true rfl⟩) (b_pRS (wc := []) hK hP [] rfl) rfl rfl hl.1 rfl (lv_room (Nat.le_of_ble_eq_true rfl)) dX4_gate_1 ⟨Nat.zero_le _, Nat.zero_le _⟩) ?_
  refine lv_if_ne (pc := 4) (tgt := 9) hx hb dX4_gate_4 (by decide) (fun c_1 => ?_) (fun c_1 => ?_)
  · skip
    have c_1 : m_in (nI g).toInt64 0 5 := Classical.not_not.mp (fun h9 => c_1 (b_i_0.mpr h9))
    refine lv_iload_n (pc := 9) hx hb dX4_gate_9 rfl (lv_at hl 2 rfl) ?_
    refine lv_tableIn (pc := 10) (tgt := 76) (off := 66) hx hb dX4_gate_10 (by decide) (by decide) (by decide) (by decide) ?_
    refine lv_aload_n (pc := 76) hx hb dX4_gate_76 rfl (lv_at hl 0 rfl) ?_
    refine lv_iload_n (pc := 77) hx hb dX4_gate_77 rfl (lv_at hl 1 rfl) ?_
    refine lv_iload_n (pc := 78) hx hb dX4_gate_78 rfl (lv_at hl 2 rfl) ?_
    refine b_cR (pc := 79) (va_runV (As := [.int (nI g), .int (nI 0)]) (rest := []) ⟨hx, hb, hml, hown, hts⟩ (c_X4_get l D cI cC cZ cG md a kp hs hn sl iv tx tl sp nu g 0 (by first | omega | assumption) (by first | omega | assumption)) (cwV 2 hts gX4_gate_X4_get rfl rfl rfl hy_X4_get ⟨Nat.le_of_ble_eq_true rfl, Nat.le_of_ble_eq_true rfl⟩) (b_pRV (wc := [((md 0), .inr (4, [.ref (md 1), .ref (md 2), .ref (md 3), .int (nI hn), .ref (md 4), .ref (md 5), .ref (md 6), .int (nI tl), .int (nI sp), .int nu])), ((md 1), .inl (cI, 86, .inl a)), ((md 2), .inl (cI, 86, .inl kp)), ((md 3), .inl (cI, 516, .inl hs)), ((md 4), .inl (cI, 172, .inl sl)), ((md 5), .inl (cI, 2, .inl iv)), ((md 6), .inl (cI, 60, .inl tx))]) hK hP [0, 1, 2, 3, 4, 5, 6] rfl (ci := 4) (q0 := 0) rfl rfl) rfl rfl hl.1 rfl (lv_room (Nat.le_of_ble_eq_true rfl)) dX4_gate_79 ⟨Nat.zero_le _, Nat.zero_le _⟩) ?_
    subst hQ
    exact b_retR hx hb hr hlocks (by simp only [m_gate, (eq_true rfl : ((0 : Nat) = 0) = True), if_true, if_false]) dX4_gate_82
  · skip
    have c_1 : ¬ (m_in (nI g).toInt64 0 5) := b_i_0.mp c_1
    exact absurd (m_gk hg) c_1
set_option maxHeartbeats 4000000 in
set_option maxRecDepth 100000 in
theorem c_X4_gate_1 (l : Launch) (D : va_G) (cI cC cZ cG : ClassId) (md : Nat → Nat) (a : Nat → Int32) (kp : Nat → Int32) (hs : Nat → Int32) (hn : Nat) (sl : Nat → Int32) (iv : Nat → Int32) (tx : Nat → Int32) (tl : Nat) (sp : Nat) (nu : Int32) (g : Nat) (hg : g < 6) : Met l yX4_gate wsX4_gate ({ frames := 3, cells := 0, slots := 0, locals := 64 } : Room) (b_R D (b_T cI cC cZ cG) [((md 0), .inr (4, [.ref (md 1), .ref (md 2), .ref (md 3), .int (nI hn), .ref (md 4), .ref (md 5), .ref (md 6), .int (nI tl), .int (nI sp), .int nu])), ((md 1), .inl (cI, 86, .inl a)), ((md 2), .inl (cI, 86, .inl kp)), ((md 3), .inl (cI, 516, .inl hs)), ((md 4), .inl (cI, 172, .inl sl)), ((md 5), .inl (cI, 2, .inl iv)), ((md 6), .inl (cI, 60, .inl tx))] [.ref (md 0), .int (nI g), .int (nI 1)]) (vp_Si (fun r => r = m_gate a g 1)) 0 0 (fun _ => False) := by
  refine b_enterR (cc := cX4_gate) (maxL := 3) (ret := (some .int)) (by decide) rfl (Nat.le_of_ble_eq_true rfl) ?_
  intro p e s m below meth c ls hx hb hr hml hown hts hlocks hP hK hl Q hQ
  have hown : s.vm.findClass RX4 = some m.cls := hown
  have hl : lv_has ls 3 [(0, .ref (md 0)), (1, .int (nI g)), (2, .int (nI 1))] := hl
  refine lv_iload_n (pc := 0) hx hb dX4_gate_0 rfl (lv_at hl 1 rfl) ?_
  refine b_cR (pc := 1) (va_runS (As := [.int (nI g)]) (rest := []) ⟨hx, hb, hml, hown, hts⟩ (c_X4_isGate l D cI cC cZ cG (nI g)) (va_cwS 1 hts gX4_gate_X4_isGate rfl rfl rfl hyS_X4_isGate ⟨Nat.le_of_ble_eq_true rfl, Nat.le_of_ble_eq_true rfl⟩) (b_pRS (wc := []) hK hP [] rfl) rfl rfl hl.1 rfl (lv_room (Nat.le_of_ble_eq_true rfl)) dX4_gate_1 ⟨Nat.zero_le _, Nat.zero_le _⟩) ?_
  refine lv_if_ne (pc := 4) (tgt := 9) hx hb dX4_gate_4 (by decide) (fun c_1 => ?_) (fun c_1 => ?_)
  · skip
    have c_1 : m_in (nI g).toInt64 0 5 := Classical.not_not.mp (fun h9 => c_1 (b_i_0.mpr h9))
    refine lv_iload_n (pc := 9) hx hb dX4_gate_9 rfl (lv_at hl 2 rfl) ?_
    refine lv_tableIn (pc := 10) (tgt := 76) (off := 66) hx hb dX4_gate_10 (by decide) (by decide) (by decide) (by decide) ?_
    refine lv_aload_n (pc := 76) hx hb dX4_gate_76 rfl (lv_at hl 0 rfl) ?_
    refine lv_iload_n (pc := 77) hx hb dX4_gate_77 rfl (lv_at hl 1 rfl) ?_
    refine lv_iload_n (pc := 78) hx hb dX4_gate_78 rfl (lv_at hl 2 rfl) ?_
    refine b_cR (pc := 79) (va_runV (As := [.int (nI g), .int (nI 1)]) (rest := []) ⟨hx, hb, hml, hown, hts⟩ (c_X4_get l D cI cC cZ cG md a kp hs hn sl iv tx tl sp nu g 1 (by first | omega | assumption) (by first | omega | assumption)) (cwV 2 hts gX4_gate_X4_get rfl rfl rfl hy_X4_get ⟨Nat.le_of_ble_eq_true rfl, Nat.le_of_ble_eq_true rfl⟩) (b_pRV (wc := [((md 0), .inr (4, [.ref (md 1), .ref (md 2), .ref (md 3), .int (nI hn), .ref (md 4), .ref (md 5), .ref (md 6), .int (nI tl), .int (nI sp), .int nu])), ((md 1), .inl (cI, 86, .inl a)), ((md 2), .inl (cI, 86, .inl kp)), ((md 3), .inl (cI, 516, .inl hs)), ((md 4), .inl (cI, 172, .inl sl)), ((md 5), .inl (cI, 2, .inl iv)), ((md 6), .inl (cI, 60, .inl tx))]) hK hP [0, 1, 2, 3, 4, 5, 6] rfl (ci := 4) (q0 := 0) rfl rfl) rfl rfl hl.1 rfl (lv_room (Nat.le_of_ble_eq_true rfl)) dX4_gate_79 ⟨Nat.zero_le _, Nat.zero_le _⟩) ?_
    subst hQ
    exact b_retR hx hb hr hlocks (by simp only [m_gate, (eq_false (by decide) : ((1 : Nat) = 0) = False), (eq_true rfl : ((1 : Nat) = 1) = True), if_true, if_false]) dX4_gate_82
  · skip
    have c_1 : ¬ (m_in (nI g).toInt64 0 5) := b_i_0.mp c_1
    exact absurd (m_gk hg) c_1
set_option maxHeartbeats 4000000 in
set_option maxRecDepth 100000 in
theorem c_X4_gate_2 (l : Launch) (D : va_G) (cI cC cZ cG : ClassId) (md : Nat → Nat) (a : Nat → Int32) (kp : Nat → Int32) (hs : Nat → Int32) (hn : Nat) (sl : Nat → Int32) (iv : Nat → Int32) (tx : Nat → Int32) (tl : Nat) (sp : Nat) (nu : Int32) (g : Nat) (hg : g < 6) : Met l yX4_gate wsX4_gate ({ frames := 3, cells := 0, slots := 0, locals := 64 } : Room) (b_R D (b_T cI cC cZ cG) [((md 0), .inr (4, [.ref (md 1), .ref (md 2), .ref (md 3), .int (nI hn), .ref (md 4), .ref (md 5), .ref (md 6), .int (nI tl), .int (nI sp), .int nu])), ((md 1), .inl (cI, 86, .inl a)), ((md 2), .inl (cI, 86, .inl kp)), ((md 3), .inl (cI, 516, .inl hs)), ((md 4), .inl (cI, 172, .inl sl)), ((md 5), .inl (cI, 2, .inl iv)), ((md 6), .inl (cI, 60, .inl tx))] [.ref (md 0), .int (nI g), .int (nI 2)]) (vp_Si (fun r => r = m_gate a g 2)) 0 0 (fun _ => False) := by
  refine b_enterR (cc := cX4_gate) (maxL := 3) (ret := (some .int)) (by decide) rfl (Nat.le_of_ble_eq_true rfl) ?_
  intro p e s m below meth c ls hx hb hr hml hown hts hlocks hP hK hl Q hQ
  have hown : s.vm.findClass RX4 = some m.cls := hown
  have hl : lv_has ls 3 [(0, .ref (md 0)), (1, .int (nI g)), (2, .int (nI 2))] := hl
  refine lv_iload_n (pc := 0) hx hb dX4_gate_0 rfl (lv_at hl 1 rfl) ?_
  refine b_cR (pc := 1) (va_runS (As := [.int (nI g)]) (rest := []) ⟨hx, hb, hml, hown, hts⟩ (c_X4_isGate l D cI cC cZ cG (nI g)) (va_cwS 1 hts gX4_gate_X4_isGate rfl rfl rfl hyS_X4_isGate ⟨Nat.le_of_ble_eq_true rfl, Nat.le_of_ble_eq_true rfl⟩) (b_pRS (wc := []) hK hP [] rfl) rfl rfl hl.1 rfl (lv_room (Nat.le_of_ble_eq_true rfl)) dX4_gate_1 ⟨Nat.zero_le _, Nat.zero_le _⟩) ?_
  refine lv_if_ne (pc := 4) (tgt := 9) hx hb dX4_gate_4 (by decide) (fun c_1 => ?_) (fun c_1 => ?_)
  · skip
    have c_1 : m_in (nI g).toInt64 0 5 := Classical.not_not.mp (fun h9 => c_1 (b_i_0.mpr h9))
    refine lv_iload_n (pc := 9) hx hb dX4_gate_9 rfl (lv_at hl 2 rfl) ?_
    refine lv_tableIn (pc := 10) (tgt := 83) (off := 73) hx hb dX4_gate_10 (by decide) (by decide) (by decide) (by decide) ?_
    refine lv_aload_n (pc := 83) hx hb dX4_gate_83 rfl (lv_at hl 0 rfl) ?_
    refine lv_iload_n (pc := 84) hx hb dX4_gate_84 rfl (lv_at hl 1 rfl) ?_
    refine b_cR (pc := 85) (va_runV (As := [.int (nI g)]) (rest := []) ⟨hx, hb, hml, hown, hts⟩ (c_X4_placeOf l D cI cC cZ cG md a kp hs hn sl iv tx tl sp nu g (by first | omega | assumption)) (cwV 1 hts gX4_gate_X4_placeOf rfl rfl rfl hy_X4_placeOf ⟨Nat.le_of_ble_eq_true rfl, Nat.le_of_ble_eq_true rfl⟩) (b_pRV (wc := [((md 0), .inr (4, [.ref (md 1), .ref (md 2), .ref (md 3), .int (nI hn), .ref (md 4), .ref (md 5), .ref (md 6), .int (nI tl), .int (nI sp), .int nu])), ((md 1), .inl (cI, 86, .inl a)), ((md 2), .inl (cI, 86, .inl kp)), ((md 3), .inl (cI, 516, .inl hs)), ((md 4), .inl (cI, 172, .inl sl)), ((md 5), .inl (cI, 2, .inl iv)), ((md 6), .inl (cI, 60, .inl tx))]) hK hP [0, 1, 2, 3, 4, 5, 6] rfl (ci := 4) (q0 := 0) rfl rfl) rfl rfl hl.1 rfl (lv_room (Nat.le_of_ble_eq_true rfl)) dX4_gate_85 ⟨Nat.zero_le _, Nat.zero_le _⟩) ?_
    subst hQ
    exact b_retR hx hb hr hlocks (by simp only [m_gate, (eq_false (by decide) : ((2 : Nat) = 0) = False), (eq_false (by decide) : ((2 : Nat) = 1) = False), (eq_true rfl : ((2 : Nat) = 2) = True), if_true, if_false]) dX4_gate_88
  · skip
    have c_1 : ¬ (m_in (nI g).toInt64 0 5) := b_i_0.mp c_1
    exact absurd (m_gk hg) c_1
set_option maxHeartbeats 4000000 in
set_option maxRecDepth 100000 in
theorem c_X4_gate_3 (l : Launch) (D : va_G) (cI cC cZ cG : ClassId) (md : Nat → Nat) (a : Nat → Int32) (kp : Nat → Int32) (hs : Nat → Int32) (hn : Nat) (sl : Nat → Int32) (iv : Nat → Int32) (tx : Nat → Int32) (tl : Nat) (sp : Nat) (nu : Int32) (g : Nat) (hg : g < 6) : Met l yX4_gate wsX4_gate ({ frames := 3, cells := 0, slots := 0, locals := 64 } : Room) (b_R D (b_T cI cC cZ cG) [((md 0), .inr (4, [.ref (md 1), .ref (md 2), .ref (md 3), .int (nI hn), .ref (md 4), .ref (md 5), .ref (md 6), .int (nI tl), .int (nI sp), .int nu])), ((md 1), .inl (cI, 86, .inl a)), ((md 2), .inl (cI, 86, .inl kp)), ((md 3), .inl (cI, 516, .inl hs)), ((md 4), .inl (cI, 172, .inl sl)), ((md 5), .inl (cI, 2, .inl iv)), ((md 6), .inl (cI, 60, .inl tx))] [.ref (md 0), .int (nI g), .int (nI 3)]) (vp_Si (fun r => r = m_gate a g 3)) 0 0 (fun _ => False) := by
  refine b_enterR (cc := cX4_gate) (maxL := 3) (ret := (some .int)) (by decide) rfl (Nat.le_of_ble_eq_true rfl) ?_
  intro p e s m below meth c ls hx hb hr hml hown hts hlocks hP hK hl Q hQ
  have hown : s.vm.findClass RX4 = some m.cls := hown
  have hl : lv_has ls 3 [(0, .ref (md 0)), (1, .int (nI g)), (2, .int (nI 3))] := hl
  refine lv_iload_n (pc := 0) hx hb dX4_gate_0 rfl (lv_at hl 1 rfl) ?_
  refine b_cR (pc := 1) (va_runS (As := [.int (nI g)]) (rest := []) ⟨hx, hb, hml, hown, hts⟩ (c_X4_isGate l D cI cC cZ cG (nI g)) (va_cwS 1 hts gX4_gate_X4_isGate rfl rfl rfl hyS_X4_isGate ⟨Nat.le_of_ble_eq_true rfl, Nat.le_of_ble_eq_true rfl⟩) (b_pRS (wc := []) hK hP [] rfl) rfl rfl hl.1 rfl (lv_room (Nat.le_of_ble_eq_true rfl)) dX4_gate_1 ⟨Nat.zero_le _, Nat.zero_le _⟩) ?_
  refine lv_if_ne (pc := 4) (tgt := 9) hx hb dX4_gate_4 (by decide) (fun c_1 => ?_) (fun c_1 => ?_)
  · skip
    have c_1 : m_in (nI g).toInt64 0 5 := Classical.not_not.mp (fun h9 => c_1 (b_i_0.mpr h9))
    refine lv_iload_n (pc := 9) hx hb dX4_gate_9 rfl (lv_at hl 2 rfl) ?_
    refine lv_tableIn (pc := 10) (tgt := 89) (off := 79) hx hb dX4_gate_10 (by decide) (by decide) (by decide) (by decide) ?_
    refine lv_aload_n (pc := 89) hx hb dX4_gate_89 rfl (lv_at hl 0 rfl) ?_
    refine lv_iload_n (pc := 90) hx hb dX4_gate_90 rfl (lv_at hl 1 rfl) ?_
    refine b_cR (pc := 91) (va_runV (As := [.int (nI g)]) (rest := []) ⟨hx, hb, hml, hown, hts⟩ (c_X4_isUnderWay l D cI cC cZ cG md a kp hs hn sl iv tx tl sp nu g (by first | omega | assumption)) (cwV 1 hts gX4_gate_X4_isUnderWay rfl rfl rfl hy_X4_isUnderWay ⟨Nat.le_of_ble_eq_true rfl, Nat.le_of_ble_eq_true rfl⟩) (b_pRV (wc := [((md 0), .inr (4, [.ref (md 1), .ref (md 2), .ref (md 3), .int (nI hn), .ref (md 4), .ref (md 5), .ref (md 6), .int (nI tl), .int (nI sp), .int nu])), ((md 1), .inl (cI, 86, .inl a)), ((md 2), .inl (cI, 86, .inl kp)), ((md 3), .inl (cI, 516, .inl hs)), ((md 4), .inl (cI, 172, .inl sl)), ((md 5), .inl (cI, 2, .inl iv)), ((md 6), .inl (cI, 60, .inl tx))]) hK hP [0, 1, 2, 3, 4, 5, 6] rfl (ci := 4) (q0 := 0) rfl rfl) rfl rfl hl.1 rfl (lv_room (Nat.le_of_ble_eq_true rfl)) dX4_gate_91 ⟨Nat.zero_le _, Nat.zero_le _⟩) ?_
    refine lv_if_eq (pc := 94) (tgt := 106) hx hb dX4_gate_94 (by decide) (fun c_2 => ?_) (fun c_2 => ?_)
    · skip
      have c_2 : ¬ (¬ a (8 + 13 * g + 1) = (-6)) := b_i_0.mp c_2
      refine lv_bipush (pc := 106) (v := (-6)) hx hb dX4_gate_106 (by decide) ?_
      subst hQ
      exact b_retR hx hb hr hlocks (by simp only [m_gate, (eq_false (by decide) : ((3 : Nat) = 0) = False), (eq_false (by decide) : ((3 : Nat) = 1) = False), (eq_false (by decide) : ((3 : Nat) = 2) = False), (eq_true rfl : ((3 : Nat) = 3) = True), if_true, if_false, if_neg c_2]) dX4_gate_108
    · skip
      have c_2 : ¬ a (8 + 13 * g + 1) = (-6) := Classical.not_not.mp (fun h9 => c_2 (b_i_0.mpr h9))
      refine lv_aload_n (pc := 97) hx hb dX4_gate_97 rfl (lv_at hl 0 rfl) ?_
      refine lv_iload_n (pc := 98) hx hb dX4_gate_98 rfl (lv_at hl 1 rfl) ?_
      refine lv_iconst (pc := 99) (v := 3) hx hb dX4_gate_99 (by decide) ?_
      refine b_cR (pc := 100) (va_runV (As := [.int (nI g), .int 3]) (rest := []) ⟨hx, hb, hml, hown, hts⟩ (c_X4_get l D cI cC cZ cG md a kp hs hn sl iv tx tl sp nu g 3 (by first | omega | assumption) (by first | omega | assumption)) (cwV 2 hts gX4_gate_X4_get rfl rfl rfl hy_X4_get ⟨Nat.le_of_ble_eq_true rfl, Nat.le_of_ble_eq_true rfl⟩) (b_pRV (wc := [((md 0), .inr (4, [.ref (md 1), .ref (md 2), .ref (md 3), .int (nI hn), .ref (md 4), .ref (md 5), .ref (md 6), .int (nI tl), .int (nI sp), .int nu])), ((md 1), .inl (cI, 86, .inl a)), ((md 2), .inl (cI, 86, .inl kp)), ((md 3), .inl (cI, 516, .inl hs)), ((md 4), .inl (cI, 172, .inl sl)), ((md 5), .inl (cI, 2, .inl iv)), ((md 6), .inl (cI, 60, .inl tx))]) hK hP [0, 1, 2, 3, 4, 5, 6] rfl (ci := 4) (q0 := 0) rfl rfl) rfl rfl hl.1 rfl (lv_room (Nat.le_of_ble_eq_true rfl)) dX4_gate_100 ⟨Nat.zero_le _, Nat.zero_le _⟩) ?_
      refine lv_goto (pc := 103) (tgt := 108) hx hb dX4_gate_103 (by decide) ?_
      subst hQ
      exact b_retR hx hb hr hlocks (by simp only [m_gate, (eq_false (by decide) : ((3 : Nat) = 0) = False), (eq_false (by decide) : ((3 : Nat) = 1) = False), (eq_false (by decide) : ((3 : Nat) = 2) = False), (eq_true rfl : ((3 : Nat) = 3) = True), if_true, if_false, if_pos c_2]) dX4_gate_108
  · skip
    have c_1 : ¬ (m_in (nI g).toInt64 0 5) := b_i_0.mp c_1
    exact absurd (m_gk hg) c_1
set_option maxHeartbeats 4000000 in
set_option maxRecDepth 100000 in
theorem c_X4_gate_4 (l : Launch) (D : va_G) (cI cC cZ cG : ClassId) (md : Nat → Nat) (a : Nat → Int32) (kp : Nat → Int32) (hs : Nat → Int32) (hn : Nat) (sl : Nat → Int32) (iv : Nat → Int32) (tx : Nat → Int32) (tl : Nat) (sp : Nat) (nu : Int32) (g : Nat) (hg : g < 6) : Met l yX4_gate wsX4_gate ({ frames := 3, cells := 0, slots := 0, locals := 64 } : Room) (b_R D (b_T cI cC cZ cG) [((md 0), .inr (4, [.ref (md 1), .ref (md 2), .ref (md 3), .int (nI hn), .ref (md 4), .ref (md 5), .ref (md 6), .int (nI tl), .int (nI sp), .int nu])), ((md 1), .inl (cI, 86, .inl a)), ((md 2), .inl (cI, 86, .inl kp)), ((md 3), .inl (cI, 516, .inl hs)), ((md 4), .inl (cI, 172, .inl sl)), ((md 5), .inl (cI, 2, .inl iv)), ((md 6), .inl (cI, 60, .inl tx))] [.ref (md 0), .int (nI g), .int (nI 4)]) (vp_Si (fun r => r = m_gate a g 4)) 0 0 (fun _ => False) := by
  refine b_enterR (cc := cX4_gate) (maxL := 3) (ret := (some .int)) (by decide) rfl (Nat.le_of_ble_eq_true rfl) ?_
  intro p e s m below meth c ls hx hb hr hml hown hts hlocks hP hK hl Q hQ
  have hown : s.vm.findClass RX4 = some m.cls := hown
  have hl : lv_has ls 3 [(0, .ref (md 0)), (1, .int (nI g)), (2, .int (nI 4))] := hl
  refine lv_iload_n (pc := 0) hx hb dX4_gate_0 rfl (lv_at hl 1 rfl) ?_
  refine b_cR (pc := 1) (va_runS (As := [.int (nI g)]) (rest := []) ⟨hx, hb, hml, hown, hts⟩ (c_X4_isGate l D cI cC cZ cG (nI g)) (va_cwS 1 hts gX4_gate_X4_isGate rfl rfl rfl hyS_X4_isGate ⟨Nat.le_of_ble_eq_true rfl, Nat.le_of_ble_eq_true rfl⟩) (b_pRS (wc := []) hK hP [] rfl) rfl rfl hl.1 rfl (lv_room (Nat.le_of_ble_eq_true rfl)) dX4_gate_1 ⟨Nat.zero_le _, Nat.zero_le _⟩) ?_
  refine lv_if_ne (pc := 4) (tgt := 9) hx hb dX4_gate_4 (by decide) (fun c_1 => ?_) (fun c_1 => ?_)
  · skip
    have c_1 : m_in (nI g).toInt64 0 5 := Classical.not_not.mp (fun h9 => c_1 (b_i_0.mpr h9))
    refine lv_iload_n (pc := 9) hx hb dX4_gate_9 rfl (lv_at hl 2 rfl) ?_
    refine lv_tableIn (pc := 10) (tgt := 109) (off := 99) hx hb dX4_gate_10 (by decide) (by decide) (by decide) (by decide) ?_
    refine lv_aload_n (pc := 109) hx hb dX4_gate_109 rfl (lv_at hl 0 rfl) ?_
    refine lv_iload_n (pc := 110) hx hb dX4_gate_110 rfl (lv_at hl 1 rfl) ?_
    refine b_cR (pc := 111) (va_runV (As := [.int (nI g)]) (rest := []) ⟨hx, hb, hml, hown, hts⟩ (c_X4_isBlocked l D cI cC cZ cG md a kp hs hn sl iv tx tl sp nu g (by first | omega | assumption)) (cwV 1 hts gX4_gate_X4_isBlocked rfl rfl rfl hy_X4_isBlocked ⟨Nat.le_of_ble_eq_true rfl, Nat.le_of_ble_eq_true rfl⟩) (b_pRV (wc := [((md 0), .inr (4, [.ref (md 1), .ref (md 2), .ref (md 3), .int (nI hn), .ref (md 4), .ref (md 5), .ref (md 6), .int (nI tl), .int (nI sp), .int nu])), ((md 1), .inl (cI, 86, .inl a)), ((md 2), .inl (cI, 86, .inl kp)), ((md 3), .inl (cI, 516, .inl hs)), ((md 4), .inl (cI, 172, .inl sl)), ((md 5), .inl (cI, 2, .inl iv)), ((md 6), .inl (cI, 60, .inl tx))]) hK hP [0, 1, 2, 3, 4, 5, 6] rfl (ci := 4) (q0 := 0) rfl rfl) rfl rfl hl.1 rfl (lv_room (Nat.le_of_ble_eq_true rfl)) dX4_gate_111 ⟨Nat.zero_le _, Nat.zero_le _⟩) ?_
    refine lv_if_eq (pc := 114) (tgt := 121) hx hb dX4_gate_114 (by decide) (fun c_2 => ?_) (fun c_2 => ?_)
    · skip
      have c_2 : ¬ (m_blk a g) := b_i_0.mp c_2
      refine lv_iconst (pc := 121) (v := 0) hx hb dX4_gate_121 (by decide) ?_
      subst hQ
      exact b_retR hx hb hr hlocks (by simp only [m_gate, (eq_false (by decide) : ((4 : Nat) = 0) = False), (eq_false (by decide) : ((4 : Nat) = 1) = False), (eq_false (by decide) : ((4 : Nat) = 2) = False), (eq_false (by decide) : ((4 : Nat) = 3) = False), (eq_true rfl : ((4 : Nat) = 4) = True), if_true, if_false]; exact (b_i_f c_2).symm) dX4_gate_122
    · skip
      have c_2 : m_blk a g := Classical.not_not.mp (fun h9 => c_2 (b_i_0.mpr h9))
      refine lv_iconst (pc := 117) (v := 1) hx hb dX4_gate_117 (by decide) ?_
      refine lv_goto (pc := 118) (tgt := 122) hx hb dX4_gate_118 (by decide) ?_
      subst hQ
      exact b_retR hx hb hr hlocks (by simp only [m_gate, (eq_false (by decide) : ((4 : Nat) = 0) = False), (eq_false (by decide) : ((4 : Nat) = 1) = False), (eq_false (by decide) : ((4 : Nat) = 2) = False), (eq_false (by decide) : ((4 : Nat) = 3) = False), (eq_true rfl : ((4 : Nat) = 4) = True), if_true, if_false]; exact (b_i_t c_2).symm) dX4_gate_122
  · skip
    have c_1 : ¬ (m_in (nI g).toInt64 0 5) := b_i_0.mp c_1
    exact absurd (m_gk hg) c_1
set_option maxHeartbeats 4000000 in
set_option maxRecDepth 100000 in
theorem c_X4_gate_5 (l : Launch) (D : va_G) (cI cC cZ cG : ClassId) (md : Nat → Nat) (a : Nat → Int32) (kp : Nat → Int32) (hs : Nat → Int32) (hn : Nat) (sl : Nat → Int32) (iv : Nat → Int32) (tx : Nat → Int32) (tl : Nat) (sp : Nat) (nu : Int32) (g : Nat) (hg : g < 6) : Met l yX4_gate wsX4_gate ({ frames := 3, cells := 0, slots := 0, locals := 64 } : Room) (b_R D (b_T cI cC cZ cG) [((md 0), .inr (4, [.ref (md 1), .ref (md 2), .ref (md 3), .int (nI hn), .ref (md 4), .ref (md 5), .ref (md 6), .int (nI tl), .int (nI sp), .int nu])), ((md 1), .inl (cI, 86, .inl a)), ((md 2), .inl (cI, 86, .inl kp)), ((md 3), .inl (cI, 516, .inl hs)), ((md 4), .inl (cI, 172, .inl sl)), ((md 5), .inl (cI, 2, .inl iv)), ((md 6), .inl (cI, 60, .inl tx))] [.ref (md 0), .int (nI g), .int (nI 5)]) (vp_Si (fun r => r = m_gate a g 5)) 0 0 (fun _ => False) := by
  refine b_enterR (cc := cX4_gate) (maxL := 3) (ret := (some .int)) (by decide) rfl (Nat.le_of_ble_eq_true rfl) ?_
  intro p e s m below meth c ls hx hb hr hml hown hts hlocks hP hK hl Q hQ
  have hown : s.vm.findClass RX4 = some m.cls := hown
  have hl : lv_has ls 3 [(0, .ref (md 0)), (1, .int (nI g)), (2, .int (nI 5))] := hl
  refine lv_iload_n (pc := 0) hx hb dX4_gate_0 rfl (lv_at hl 1 rfl) ?_
  refine b_cR (pc := 1) (va_runS (As := [.int (nI g)]) (rest := []) ⟨hx, hb, hml, hown, hts⟩ (c_X4_isGate l D cI cC cZ cG (nI g)) (va_cwS 1 hts gX4_gate_X4_isGate rfl rfl rfl hyS_X4_isGate ⟨Nat.le_of_ble_eq_true rfl, Nat.le_of_ble_eq_true rfl⟩) (b_pRS (wc := []) hK hP [] rfl) rfl rfl hl.1 rfl (lv_room (Nat.le_of_ble_eq_true rfl)) dX4_gate_1 ⟨Nat.zero_le _, Nat.zero_le _⟩) ?_
  refine lv_if_ne (pc := 4) (tgt := 9) hx hb dX4_gate_4 (by decide) (fun c_1 => ?_) (fun c_1 => ?_)
  · skip
    have c_1 : m_in (nI g).toInt64 0 5 := Classical.not_not.mp (fun h9 => c_1 (b_i_0.mpr h9))
    refine lv_iload_n (pc := 9) hx hb dX4_gate_9 rfl (lv_at hl 2 rfl) ?_
    refine lv_tableIn (pc := 10) (tgt := 123) (off := 113) hx hb dX4_gate_10 (by decide) (by decide) (by decide) (by decide) ?_
    refine lv_aload_n (pc := 123) hx hb dX4_gate_123 rfl (lv_at hl 0 rfl) ?_
    refine lv_iload_n (pc := 124) hx hb dX4_gate_124 rfl (lv_at hl 1 rfl) ?_
    refine lv_iconst (pc := 125) (v := 4) hx hb dX4_gate_125 (by decide) ?_
    refine lv_iload_n (pc := 126) hx hb dX4_gate_126 rfl (lv_at hl 2 rfl) ?_
    refine lv_iadd (pc := 127) hx hb dX4_gate_127 ?_
    refine b_re (nI_add 4 5) ?_
    refine lv_iconst (pc := 128) (v := 5) hx hb dX4_gate_128 (by decide) ?_
    refine lv_isub (pc := 129) hx hb dX4_gate_129 ?_
    refine b_re (pk_sub (a := 4 + 5) (b := 5) (by decide)) ?_
    refine b_cR (pc := 130) (va_runV (As := [.int (nI g), .int (nI (4 + 5 - 5))]) (rest := []) ⟨hx, hb, hml, hown, hts⟩ (c_X4_get l D cI cC cZ cG md a kp hs hn sl iv tx tl sp nu g (4 + 5 - 5) (by first | omega | assumption) (by first | omega | assumption)) (cwV 2 hts gX4_gate_X4_get rfl rfl rfl hy_X4_get ⟨Nat.le_of_ble_eq_true rfl, Nat.le_of_ble_eq_true rfl⟩) (b_pRV (wc := [((md 0), .inr (4, [.ref (md 1), .ref (md 2), .ref (md 3), .int (nI hn), .ref (md 4), .ref (md 5), .ref (md 6), .int (nI tl), .int (nI sp), .int nu])), ((md 1), .inl (cI, 86, .inl a)), ((md 2), .inl (cI, 86, .inl kp)), ((md 3), .inl (cI, 516, .inl hs)), ((md 4), .inl (cI, 172, .inl sl)), ((md 5), .inl (cI, 2, .inl iv)), ((md 6), .inl (cI, 60, .inl tx))]) hK hP [0, 1, 2, 3, 4, 5, 6] rfl (ci := 4) (q0 := 0) rfl rfl) rfl rfl hl.1 rfl (lv_room (Nat.le_of_ble_eq_true rfl)) dX4_gate_130 ⟨Nat.zero_le _, Nat.zero_le _⟩) ?_
    subst hQ
    exact b_retR hx hb hr hlocks (by simp only [m_gate, (eq_false (by decide) : ((5 : Nat) = 0) = False), (eq_false (by decide) : ((5 : Nat) = 1) = False), (eq_false (by decide) : ((5 : Nat) = 2) = False), (eq_false (by decide) : ((5 : Nat) = 3) = False), (eq_false (by decide) : ((5 : Nat) = 4) = False), if_true, if_false]) dX4_gate_133
  · skip
    have c_1 : ¬ (m_in (nI g).toInt64 0 5) := b_i_0.mp c_1
    exact absurd (m_gk hg) c_1
set_option maxHeartbeats 4000000 in
set_option maxRecDepth 100000 in
theorem c_X4_gate_6 (l : Launch) (D : va_G) (cI cC cZ cG : ClassId) (md : Nat → Nat) (a : Nat → Int32) (kp : Nat → Int32) (hs : Nat → Int32) (hn : Nat) (sl : Nat → Int32) (iv : Nat → Int32) (tx : Nat → Int32) (tl : Nat) (sp : Nat) (nu : Int32) (g : Nat) (hg : g < 6) : Met l yX4_gate wsX4_gate ({ frames := 3, cells := 0, slots := 0, locals := 64 } : Room) (b_R D (b_T cI cC cZ cG) [((md 0), .inr (4, [.ref (md 1), .ref (md 2), .ref (md 3), .int (nI hn), .ref (md 4), .ref (md 5), .ref (md 6), .int (nI tl), .int (nI sp), .int nu])), ((md 1), .inl (cI, 86, .inl a)), ((md 2), .inl (cI, 86, .inl kp)), ((md 3), .inl (cI, 516, .inl hs)), ((md 4), .inl (cI, 172, .inl sl)), ((md 5), .inl (cI, 2, .inl iv)), ((md 6), .inl (cI, 60, .inl tx))] [.ref (md 0), .int (nI g), .int (nI 6)]) (vp_Si (fun r => r = m_gate a g 6)) 0 0 (fun _ => False) := by
  refine b_enterR (cc := cX4_gate) (maxL := 3) (ret := (some .int)) (by decide) rfl (Nat.le_of_ble_eq_true rfl) ?_
  intro p e s m below meth c ls hx hb hr hml hown hts hlocks hP hK hl Q hQ
  have hown : s.vm.findClass RX4 = some m.cls := hown
  have hl : lv_has ls 3 [(0, .ref (md 0)), (1, .int (nI g)), (2, .int (nI 6))] := hl
  refine lv_iload_n (pc := 0) hx hb dX4_gate_0 rfl (lv_at hl 1 rfl) ?_
  refine b_cR (pc := 1) (va_runS (As := [.int (nI g)]) (rest := []) ⟨hx, hb, hml, hown, hts⟩ (c_X4_isGate l D cI cC cZ cG (nI g)) (va_cwS 1 hts gX4_gate_X4_isGate rfl rfl rfl hyS_X4_isGate ⟨Nat.le_of_ble_eq_true rfl, Nat.le_of_ble_eq_true rfl⟩) (b_pRS (wc := []) hK hP [] rfl) rfl rfl hl.1 rfl (lv_room (Nat.le_of_ble_eq_true rfl)) dX4_gate_1 ⟨Nat.zero_le _, Nat.zero_le _⟩) ?_
  refine lv_if_ne (pc := 4) (tgt := 9) hx hb dX4_gate_4 (by decide) (fun c_1 => ?_) (fun c_1 => ?_)
  · skip
    have c_1 : m_in (nI g).toInt64 0 5 := Classical.not_not.mp (fun h9 => c_1 (b_i_0.mpr h9))
    refine lv_iload_n (pc := 9) hx hb dX4_gate_9 rfl (lv_at hl 2 rfl) ?_
    refine lv_tableIn (pc := 10) (tgt := 123) (off := 113) hx hb dX4_gate_10 (by decide) (by decide) (by decide) (by decide) ?_
    refine lv_aload_n (pc := 123) hx hb dX4_gate_123 rfl (lv_at hl 0 rfl) ?_
    refine lv_iload_n (pc := 124) hx hb dX4_gate_124 rfl (lv_at hl 1 rfl) ?_
    refine lv_iconst (pc := 125) (v := 4) hx hb dX4_gate_125 (by decide) ?_
    refine lv_iload_n (pc := 126) hx hb dX4_gate_126 rfl (lv_at hl 2 rfl) ?_
    refine lv_iadd (pc := 127) hx hb dX4_gate_127 ?_
    refine b_re (nI_add 4 6) ?_
    refine lv_iconst (pc := 128) (v := 5) hx hb dX4_gate_128 (by decide) ?_
    refine lv_isub (pc := 129) hx hb dX4_gate_129 ?_
    refine b_re (pk_sub (a := 4 + 6) (b := 5) (by decide)) ?_
    refine b_cR (pc := 130) (va_runV (As := [.int (nI g), .int (nI (4 + 6 - 5))]) (rest := []) ⟨hx, hb, hml, hown, hts⟩ (c_X4_get l D cI cC cZ cG md a kp hs hn sl iv tx tl sp nu g (4 + 6 - 5) (by first | omega | assumption) (by first | omega | assumption)) (cwV 2 hts gX4_gate_X4_get rfl rfl rfl hy_X4_get ⟨Nat.le_of_ble_eq_true rfl, Nat.le_of_ble_eq_true rfl⟩) (b_pRV (wc := [((md 0), .inr (4, [.ref (md 1), .ref (md 2), .ref (md 3), .int (nI hn), .ref (md 4), .ref (md 5), .ref (md 6), .int (nI tl), .int (nI sp), .int nu])), ((md 1), .inl (cI, 86, .inl a)), ((md 2), .inl (cI, 86, .inl kp)), ((md 3), .inl (cI, 516, .inl hs)), ((md 4), .inl (cI, 172, .inl sl)), ((md 5), .inl (cI, 2, .inl iv)), ((md 6), .inl (cI, 60, .inl tx))]) hK hP [0, 1, 2, 3, 4, 5, 6] rfl (ci := 4) (q0 := 0) rfl rfl) rfl rfl hl.1 rfl (lv_room (Nat.le_of_ble_eq_true rfl)) dX4_gate_130 ⟨Nat.zero_le _, Nat.zero_le _⟩) ?_
    subst hQ
    exact b_retR hx hb hr hlocks (by simp only [m_gate, (eq_false (by decide) : ((6 : Nat) = 0) = False), (eq_false (by decide) : ((6 : Nat) = 1) = False), (eq_false (by decide) : ((6 : Nat) = 2) = False), (eq_false (by decide) : ((6 : Nat) = 3) = False), (eq_false (by decide) : ((6 : Nat) = 4) = False), if_true, if_false]) dX4_gate_133
  · skip
    have c_1 : ¬ (m_in (nI g).toInt64 0 5) := b_i_0.mp c_1
    exact absurd (m_gk hg) c_1
set_option maxHeartbeats 4000000 in
set_option maxRecDepth 100000 in
theorem c_X4_gate_7 (l : Launch) (D : va_G) (cI cC cZ cG : ClassId) (md : Nat → Nat) (a : Nat → Int32) (kp : Nat → Int32) (hs : Nat → Int32) (hn : Nat) (sl : Nat → Int32) (iv : Nat → Int32) (tx : Nat → Int32) (tl : Nat) (sp : Nat) (nu : Int32) (g : Nat) (hg : g < 6) : Met l yX4_gate wsX4_gate ({ frames := 3, cells := 0, slots := 0, locals := 64 } : Room) (b_R D (b_T cI cC cZ cG) [((md 0), .inr (4, [.ref (md 1), .ref (md 2), .ref (md 3), .int (nI hn), .ref (md 4), .ref (md 5), .ref (md 6), .int (nI tl), .int (nI sp), .int nu])), ((md 1), .inl (cI, 86, .inl a)), ((md 2), .inl (cI, 86, .inl kp)), ((md 3), .inl (cI, 516, .inl hs)), ((md 4), .inl (cI, 172, .inl sl)), ((md 5), .inl (cI, 2, .inl iv)), ((md 6), .inl (cI, 60, .inl tx))] [.ref (md 0), .int (nI g), .int (nI 7)]) (vp_Si (fun r => r = m_gate a g 7)) 0 0 (fun _ => False) := by
  refine b_enterR (cc := cX4_gate) (maxL := 3) (ret := (some .int)) (by decide) rfl (Nat.le_of_ble_eq_true rfl) ?_
  intro p e s m below meth c ls hx hb hr hml hown hts hlocks hP hK hl Q hQ
  have hown : s.vm.findClass RX4 = some m.cls := hown
  have hl : lv_has ls 3 [(0, .ref (md 0)), (1, .int (nI g)), (2, .int (nI 7))] := hl
  refine lv_iload_n (pc := 0) hx hb dX4_gate_0 rfl (lv_at hl 1 rfl) ?_
  refine b_cR (pc := 1) (va_runS (As := [.int (nI g)]) (rest := []) ⟨hx, hb, hml, hown, hts⟩ (c_X4_isGate l D cI cC cZ cG (nI g)) (va_cwS 1 hts gX4_gate_X4_isGate rfl rfl rfl hyS_X4_isGate ⟨Nat.le_of_ble_eq_true rfl, Nat.le_of_ble_eq_true rfl⟩) (b_pRS (wc := []) hK hP [] rfl) rfl rfl hl.1 rfl (lv_room (Nat.le_of_ble_eq_true rfl)) dX4_gate_1 ⟨Nat.zero_le _, Nat.zero_le _⟩) ?_
  refine lv_if_ne (pc := 4) (tgt := 9) hx hb dX4_gate_4 (by decide) (fun c_1 => ?_) (fun c_1 => ?_)
  · skip
    have c_1 : m_in (nI g).toInt64 0 5 := Classical.not_not.mp (fun h9 => c_1 (b_i_0.mpr h9))
    refine lv_iload_n (pc := 9) hx hb dX4_gate_9 rfl (lv_at hl 2 rfl) ?_
    refine lv_tableIn (pc := 10) (tgt := 123) (off := 113) hx hb dX4_gate_10 (by decide) (by decide) (by decide) (by decide) ?_
    refine lv_aload_n (pc := 123) hx hb dX4_gate_123 rfl (lv_at hl 0 rfl) ?_
    refine lv_iload_n (pc := 124) hx hb dX4_gate_124 rfl (lv_at hl 1 rfl) ?_
    refine lv_iconst (pc := 125) (v := 4) hx hb dX4_gate_125 (by decide) ?_
    refine lv_iload_n (pc := 126) hx hb dX4_gate_126 rfl (lv_at hl 2 rfl) ?_
    refine lv_iadd (pc := 127) hx hb dX4_gate_127 ?_
    refine b_re (nI_add 4 7) ?_
    refine lv_iconst (pc := 128) (v := 5) hx hb dX4_gate_128 (by decide) ?_
    refine lv_isub (pc := 129) hx hb dX4_gate_129 ?_
    refine b_re (pk_sub (a := 4 + 7) (b := 5) (by decide)) ?_
    refine b_cR (pc := 130) (va_runV (As := [.int (nI g), .int (nI (4 + 7 - 5))]) (rest := []) ⟨hx, hb, hml, hown, hts⟩ (c_X4_get l D cI cC cZ cG md a kp hs hn sl iv tx tl sp nu g (4 + 7 - 5) (by first | omega | assumption) (by first | omega | assumption)) (cwV 2 hts gX4_gate_X4_get rfl rfl rfl hy_X4_get ⟨Nat.le_of_ble_eq_true rfl, Nat.le_of_ble_eq_true rfl⟩) (b_pRV (wc := [((md 0), .inr (4, [.ref (md 1), .ref (md 2), .ref (md 3), .int (nI hn), .ref (md 4), .ref (md 5), .ref (md 6), .int (nI tl), .int (nI sp), .int nu])), ((md 1), .inl (cI, 86, .inl a)), ((md 2), .inl (cI, 86, .inl kp)), ((md 3), .inl (cI, 516, .inl hs)), ((md 4), .inl (cI, 172, .inl sl)), ((md 5), .inl (cI, 2, .inl iv)), ((md 6), .inl (cI, 60, .inl tx))]) hK hP [0, 1, 2, 3, 4, 5, 6] rfl (ci := 4) (q0 := 0) rfl rfl) rfl rfl hl.1 rfl (lv_room (Nat.le_of_ble_eq_true rfl)) dX4_gate_130 ⟨Nat.zero_le _, Nat.zero_le _⟩) ?_
    subst hQ
    exact b_retR hx hb hr hlocks (by simp only [m_gate, (eq_false (by decide) : ((7 : Nat) = 0) = False), (eq_false (by decide) : ((7 : Nat) = 1) = False), (eq_false (by decide) : ((7 : Nat) = 2) = False), (eq_false (by decide) : ((7 : Nat) = 3) = False), (eq_false (by decide) : ((7 : Nat) = 4) = False), if_true, if_false]) dX4_gate_133
  · skip
    have c_1 : ¬ (m_in (nI g).toInt64 0 5) := b_i_0.mp c_1
    exact absurd (m_gk hg) c_1
set_option maxHeartbeats 4000000 in
set_option maxRecDepth 100000 in
theorem c_X4_gate_8 (l : Launch) (D : va_G) (cI cC cZ cG : ClassId) (md : Nat → Nat) (a : Nat → Int32) (kp : Nat → Int32) (hs : Nat → Int32) (hn : Nat) (sl : Nat → Int32) (iv : Nat → Int32) (tx : Nat → Int32) (tl : Nat) (sp : Nat) (nu : Int32) (g : Nat) (hg : g < 6) : Met l yX4_gate wsX4_gate ({ frames := 3, cells := 0, slots := 0, locals := 64 } : Room) (b_R D (b_T cI cC cZ cG) [((md 0), .inr (4, [.ref (md 1), .ref (md 2), .ref (md 3), .int (nI hn), .ref (md 4), .ref (md 5), .ref (md 6), .int (nI tl), .int (nI sp), .int nu])), ((md 1), .inl (cI, 86, .inl a)), ((md 2), .inl (cI, 86, .inl kp)), ((md 3), .inl (cI, 516, .inl hs)), ((md 4), .inl (cI, 172, .inl sl)), ((md 5), .inl (cI, 2, .inl iv)), ((md 6), .inl (cI, 60, .inl tx))] [.ref (md 0), .int (nI g), .int (nI 8)]) (vp_Si (fun r => r = m_gate a g 8)) 0 0 (fun _ => False) := by
  refine b_enterR (cc := cX4_gate) (maxL := 3) (ret := (some .int)) (by decide) rfl (Nat.le_of_ble_eq_true rfl) ?_
  intro p e s m below meth c ls hx hb hr hml hown hts hlocks hP hK hl Q hQ
  have hown : s.vm.findClass RX4 = some m.cls := hown
  have hl : lv_has ls 3 [(0, .ref (md 0)), (1, .int (nI g)), (2, .int (nI 8))] := hl
  refine lv_iload_n (pc := 0) hx hb dX4_gate_0 rfl (lv_at hl 1 rfl) ?_
  refine b_cR (pc := 1) (va_runS (As := [.int (nI g)]) (rest := []) ⟨hx, hb, hml, hown, hts⟩ (c_X4_isGate l D cI cC cZ cG (nI g)) (va_cwS 1 hts gX4_gate_X4_isGate rfl rfl rfl hyS_X4_isGate ⟨Nat.le_of_ble_eq_true rfl, Nat.le_of_ble_eq_true rfl⟩) (b_pRS (wc := []) hK hP [] rfl) rfl rfl hl.1 rfl (lv_room (Nat.le_of_ble_eq_true rfl)) dX4_gate_1 ⟨Nat.zero_le _, Nat.zero_le _⟩) ?_
  refine lv_if_ne (pc := 4) (tgt := 9) hx hb dX4_gate_4 (by decide) (fun c_1 => ?_) (fun c_1 => ?_)
  · skip
    have c_1 : m_in (nI g).toInt64 0 5 := Classical.not_not.mp (fun h9 => c_1 (b_i_0.mpr h9))
    refine lv_iload_n (pc := 9) hx hb dX4_gate_9 rfl (lv_at hl 2 rfl) ?_
    refine lv_tableIn (pc := 10) (tgt := 123) (off := 113) hx hb dX4_gate_10 (by decide) (by decide) (by decide) (by decide) ?_
    refine lv_aload_n (pc := 123) hx hb dX4_gate_123 rfl (lv_at hl 0 rfl) ?_
    refine lv_iload_n (pc := 124) hx hb dX4_gate_124 rfl (lv_at hl 1 rfl) ?_
    refine lv_iconst (pc := 125) (v := 4) hx hb dX4_gate_125 (by decide) ?_
    refine lv_iload_n (pc := 126) hx hb dX4_gate_126 rfl (lv_at hl 2 rfl) ?_
    refine lv_iadd (pc := 127) hx hb dX4_gate_127 ?_
    refine b_re (nI_add 4 8) ?_
    refine lv_iconst (pc := 128) (v := 5) hx hb dX4_gate_128 (by decide) ?_
    refine lv_isub (pc := 129) hx hb dX4_gate_129 ?_
    refine b_re (pk_sub (a := 4 + 8) (b := 5) (by decide)) ?_
    refine b_cR (pc := 130) (va_runV (As := [.int (nI g), .int (nI (4 + 8 - 5))]) (rest := []) ⟨hx, hb, hml, hown, hts⟩ (c_X4_get l D cI cC cZ cG md a kp hs hn sl iv tx tl sp nu g (4 + 8 - 5) (by first | omega | assumption) (by first | omega | assumption)) (cwV 2 hts gX4_gate_X4_get rfl rfl rfl hy_X4_get ⟨Nat.le_of_ble_eq_true rfl, Nat.le_of_ble_eq_true rfl⟩) (b_pRV (wc := [((md 0), .inr (4, [.ref (md 1), .ref (md 2), .ref (md 3), .int (nI hn), .ref (md 4), .ref (md 5), .ref (md 6), .int (nI tl), .int (nI sp), .int nu])), ((md 1), .inl (cI, 86, .inl a)), ((md 2), .inl (cI, 86, .inl kp)), ((md 3), .inl (cI, 516, .inl hs)), ((md 4), .inl (cI, 172, .inl sl)), ((md 5), .inl (cI, 2, .inl iv)), ((md 6), .inl (cI, 60, .inl tx))]) hK hP [0, 1, 2, 3, 4, 5, 6] rfl (ci := 4) (q0 := 0) rfl rfl) rfl rfl hl.1 rfl (lv_room (Nat.le_of_ble_eq_true rfl)) dX4_gate_130 ⟨Nat.zero_le _, Nat.zero_le _⟩) ?_
    subst hQ
    exact b_retR hx hb hr hlocks (by simp only [m_gate, (eq_false (by decide) : ((8 : Nat) = 0) = False), (eq_false (by decide) : ((8 : Nat) = 1) = False), (eq_false (by decide) : ((8 : Nat) = 2) = False), (eq_false (by decide) : ((8 : Nat) = 3) = False), (eq_false (by decide) : ((8 : Nat) = 4) = False), if_true, if_false]) dX4_gate_133
  · skip
    have c_1 : ¬ (m_in (nI g).toInt64 0 5) := b_i_0.mp c_1
    exact absurd (m_gk hg) c_1
set_option maxHeartbeats 4000000 in
set_option maxRecDepth 100000 in
theorem c_X4_gate_9 (l : Launch) (D : va_G) (cI cC cZ cG : ClassId) (md : Nat → Nat) (a : Nat → Int32) (kp : Nat → Int32) (hs : Nat → Int32) (hn : Nat) (sl : Nat → Int32) (iv : Nat → Int32) (tx : Nat → Int32) (tl : Nat) (sp : Nat) (nu : Int32) (g : Nat) (hg : g < 6) : Met l yX4_gate wsX4_gate ({ frames := 3, cells := 0, slots := 0, locals := 64 } : Room) (b_R D (b_T cI cC cZ cG) [((md 0), .inr (4, [.ref (md 1), .ref (md 2), .ref (md 3), .int (nI hn), .ref (md 4), .ref (md 5), .ref (md 6), .int (nI tl), .int (nI sp), .int nu])), ((md 1), .inl (cI, 86, .inl a)), ((md 2), .inl (cI, 86, .inl kp)), ((md 3), .inl (cI, 516, .inl hs)), ((md 4), .inl (cI, 172, .inl sl)), ((md 5), .inl (cI, 2, .inl iv)), ((md 6), .inl (cI, 60, .inl tx))] [.ref (md 0), .int (nI g), .int (nI 9)]) (vp_Si (fun r => r = m_gate a g 9)) 0 0 (fun _ => False) := by
  refine b_enterR (cc := cX4_gate) (maxL := 3) (ret := (some .int)) (by decide) rfl (Nat.le_of_ble_eq_true rfl) ?_
  intro p e s m below meth c ls hx hb hr hml hown hts hlocks hP hK hl Q hQ
  have hown : s.vm.findClass RX4 = some m.cls := hown
  have hl : lv_has ls 3 [(0, .ref (md 0)), (1, .int (nI g)), (2, .int (nI 9))] := hl
  refine lv_iload_n (pc := 0) hx hb dX4_gate_0 rfl (lv_at hl 1 rfl) ?_
  refine b_cR (pc := 1) (va_runS (As := [.int (nI g)]) (rest := []) ⟨hx, hb, hml, hown, hts⟩ (c_X4_isGate l D cI cC cZ cG (nI g)) (va_cwS 1 hts gX4_gate_X4_isGate rfl rfl rfl hyS_X4_isGate ⟨Nat.le_of_ble_eq_true rfl, Nat.le_of_ble_eq_true rfl⟩) (b_pRS (wc := []) hK hP [] rfl) rfl rfl hl.1 rfl (lv_room (Nat.le_of_ble_eq_true rfl)) dX4_gate_1 ⟨Nat.zero_le _, Nat.zero_le _⟩) ?_
  refine lv_if_ne (pc := 4) (tgt := 9) hx hb dX4_gate_4 (by decide) (fun c_1 => ?_) (fun c_1 => ?_)
  · skip
    have c_1 : m_in (nI g).toInt64 0 5 := Classical.not_not.mp (fun h9 => c_1 (b_i_0.mpr h9))
    refine lv_iload_n (pc := 9) hx hb dX4_gate_9 rfl (lv_at hl 2 rfl) ?_
    refine lv_tableIn (pc := 10) (tgt := 123) (off := 113) hx hb dX4_gate_10 (by decide) (by decide) (by decide) (by decide) ?_
    refine lv_aload_n (pc := 123) hx hb dX4_gate_123 rfl (lv_at hl 0 rfl) ?_
    refine lv_iload_n (pc := 124) hx hb dX4_gate_124 rfl (lv_at hl 1 rfl) ?_
    refine lv_iconst (pc := 125) (v := 4) hx hb dX4_gate_125 (by decide) ?_
    refine lv_iload_n (pc := 126) hx hb dX4_gate_126 rfl (lv_at hl 2 rfl) ?_
    refine lv_iadd (pc := 127) hx hb dX4_gate_127 ?_
    refine b_re (nI_add 4 9) ?_
    refine lv_iconst (pc := 128) (v := 5) hx hb dX4_gate_128 (by decide) ?_
    refine lv_isub (pc := 129) hx hb dX4_gate_129 ?_
    refine b_re (pk_sub (a := 4 + 9) (b := 5) (by decide)) ?_
    refine b_cR (pc := 130) (va_runV (As := [.int (nI g), .int (nI (4 + 9 - 5))]) (rest := []) ⟨hx, hb, hml, hown, hts⟩ (c_X4_get l D cI cC cZ cG md a kp hs hn sl iv tx tl sp nu g (4 + 9 - 5) (by first | omega | assumption) (by first | omega | assumption)) (cwV 2 hts gX4_gate_X4_get rfl rfl rfl hy_X4_get ⟨Nat.le_of_ble_eq_true rfl, Nat.le_of_ble_eq_true rfl⟩) (b_pRV (wc := [((md 0), .inr (4, [.ref (md 1), .ref (md 2), .ref (md 3), .int (nI hn), .ref (md 4), .ref (md 5), .ref (md 6), .int (nI tl), .int (nI sp), .int nu])), ((md 1), .inl (cI, 86, .inl a)), ((md 2), .inl (cI, 86, .inl kp)), ((md 3), .inl (cI, 516, .inl hs)), ((md 4), .inl (cI, 172, .inl sl)), ((md 5), .inl (cI, 2, .inl iv)), ((md 6), .inl (cI, 60, .inl tx))]) hK hP [0, 1, 2, 3, 4, 5, 6] rfl (ci := 4) (q0 := 0) rfl rfl) rfl rfl hl.1 rfl (lv_room (Nat.le_of_ble_eq_true rfl)) dX4_gate_130 ⟨Nat.zero_le _, Nat.zero_le _⟩) ?_
    subst hQ
    exact b_retR hx hb hr hlocks (by simp only [m_gate, (eq_false (by decide) : ((9 : Nat) = 0) = False), (eq_false (by decide) : ((9 : Nat) = 1) = False), (eq_false (by decide) : ((9 : Nat) = 2) = False), (eq_false (by decide) : ((9 : Nat) = 3) = False), (eq_false (by decide) : ((9 : Nat) = 4) = False), if_true, if_false]) dX4_gate_133
  · skip
    have c_1 : ¬ (m_in (nI g).toInt64 0 5) := b_i_0.mp c_1
    exact absurd (m_gk hg) c_1
set_option maxHeartbeats 4000000 in
set_option maxRecDepth 100000 in
theorem c_X4_gate_10 (l : Launch) (D : va_G) (cI cC cZ cG : ClassId) (md : Nat → Nat) (a : Nat → Int32) (kp : Nat → Int32) (hs : Nat → Int32) (hn : Nat) (sl : Nat → Int32) (iv : Nat → Int32) (tx : Nat → Int32) (tl : Nat) (sp : Nat) (nu : Int32) (g : Nat) (hg : g < 6) : Met l yX4_gate wsX4_gate ({ frames := 3, cells := 0, slots := 0, locals := 64 } : Room) (b_R D (b_T cI cC cZ cG) [((md 0), .inr (4, [.ref (md 1), .ref (md 2), .ref (md 3), .int (nI hn), .ref (md 4), .ref (md 5), .ref (md 6), .int (nI tl), .int (nI sp), .int nu])), ((md 1), .inl (cI, 86, .inl a)), ((md 2), .inl (cI, 86, .inl kp)), ((md 3), .inl (cI, 516, .inl hs)), ((md 4), .inl (cI, 172, .inl sl)), ((md 5), .inl (cI, 2, .inl iv)), ((md 6), .inl (cI, 60, .inl tx))] [.ref (md 0), .int (nI g), .int (nI 10)]) (vp_Si (fun r => r = m_gate a g 10)) 0 0 (fun _ => False) := by
  refine b_enterR (cc := cX4_gate) (maxL := 3) (ret := (some .int)) (by decide) rfl (Nat.le_of_ble_eq_true rfl) ?_
  intro p e s m below meth c ls hx hb hr hml hown hts hlocks hP hK hl Q hQ
  have hown : s.vm.findClass RX4 = some m.cls := hown
  have hl : lv_has ls 3 [(0, .ref (md 0)), (1, .int (nI g)), (2, .int (nI 10))] := hl
  refine lv_iload_n (pc := 0) hx hb dX4_gate_0 rfl (lv_at hl 1 rfl) ?_
  refine b_cR (pc := 1) (va_runS (As := [.int (nI g)]) (rest := []) ⟨hx, hb, hml, hown, hts⟩ (c_X4_isGate l D cI cC cZ cG (nI g)) (va_cwS 1 hts gX4_gate_X4_isGate rfl rfl rfl hyS_X4_isGate ⟨Nat.le_of_ble_eq_true rfl, Nat.le_of_ble_eq_true rfl⟩) (b_pRS (wc := []) hK hP [] rfl) rfl rfl hl.1 rfl (lv_room (Nat.le_of_ble_eq_true rfl)) dX4_gate_1 ⟨Nat.zero_le _, Nat.zero_le _⟩) ?_
  refine lv_if_ne (pc := 4) (tgt := 9) hx hb dX4_gate_4 (by decide) (fun c_1 => ?_) (fun c_1 => ?_)
  · skip
    have c_1 : m_in (nI g).toInt64 0 5 := Classical.not_not.mp (fun h9 => c_1 (b_i_0.mpr h9))
    refine lv_iload_n (pc := 9) hx hb dX4_gate_9 rfl (lv_at hl 2 rfl) ?_
    refine lv_tableIn (pc := 10) (tgt := 123) (off := 113) hx hb dX4_gate_10 (by decide) (by decide) (by decide) (by decide) ?_
    refine lv_aload_n (pc := 123) hx hb dX4_gate_123 rfl (lv_at hl 0 rfl) ?_
    refine lv_iload_n (pc := 124) hx hb dX4_gate_124 rfl (lv_at hl 1 rfl) ?_
    refine lv_iconst (pc := 125) (v := 4) hx hb dX4_gate_125 (by decide) ?_
    refine lv_iload_n (pc := 126) hx hb dX4_gate_126 rfl (lv_at hl 2 rfl) ?_
    refine lv_iadd (pc := 127) hx hb dX4_gate_127 ?_
    refine b_re (nI_add 4 10) ?_
    refine lv_iconst (pc := 128) (v := 5) hx hb dX4_gate_128 (by decide) ?_
    refine lv_isub (pc := 129) hx hb dX4_gate_129 ?_
    refine b_re (pk_sub (a := 4 + 10) (b := 5) (by decide)) ?_
    refine b_cR (pc := 130) (va_runV (As := [.int (nI g), .int (nI (4 + 10 - 5))]) (rest := []) ⟨hx, hb, hml, hown, hts⟩ (c_X4_get l D cI cC cZ cG md a kp hs hn sl iv tx tl sp nu g (4 + 10 - 5) (by first | omega | assumption) (by first | omega | assumption)) (cwV 2 hts gX4_gate_X4_get rfl rfl rfl hy_X4_get ⟨Nat.le_of_ble_eq_true rfl, Nat.le_of_ble_eq_true rfl⟩) (b_pRV (wc := [((md 0), .inr (4, [.ref (md 1), .ref (md 2), .ref (md 3), .int (nI hn), .ref (md 4), .ref (md 5), .ref (md 6), .int (nI tl), .int (nI sp), .int nu])), ((md 1), .inl (cI, 86, .inl a)), ((md 2), .inl (cI, 86, .inl kp)), ((md 3), .inl (cI, 516, .inl hs)), ((md 4), .inl (cI, 172, .inl sl)), ((md 5), .inl (cI, 2, .inl iv)), ((md 6), .inl (cI, 60, .inl tx))]) hK hP [0, 1, 2, 3, 4, 5, 6] rfl (ci := 4) (q0 := 0) rfl rfl) rfl rfl hl.1 rfl (lv_room (Nat.le_of_ble_eq_true rfl)) dX4_gate_130 ⟨Nat.zero_le _, Nat.zero_le _⟩) ?_
    subst hQ
    exact b_retR hx hb hr hlocks (by simp only [m_gate, (eq_false (by decide) : ((10 : Nat) = 0) = False), (eq_false (by decide) : ((10 : Nat) = 1) = False), (eq_false (by decide) : ((10 : Nat) = 2) = False), (eq_false (by decide) : ((10 : Nat) = 3) = False), (eq_false (by decide) : ((10 : Nat) = 4) = False), if_true, if_false]) dX4_gate_133
  · skip
    have c_1 : ¬ (m_in (nI g).toInt64 0 5) := b_i_0.mp c_1
    exact absurd (m_gk hg) c_1
set_option maxHeartbeats 4000000 in
set_option maxRecDepth 100000 in
theorem c_X4_gate_11 (l : Launch) (D : va_G) (cI cC cZ cG : ClassId) (md : Nat → Nat) (a : Nat → Int32) (kp : Nat → Int32) (hs : Nat → Int32) (hn : Nat) (sl : Nat → Int32) (iv : Nat → Int32) (tx : Nat → Int32) (tl : Nat) (sp : Nat) (nu : Int32) (g : Nat) (hg : g < 6) : Met l yX4_gate wsX4_gate ({ frames := 3, cells := 0, slots := 0, locals := 64 } : Room) (b_R D (b_T cI cC cZ cG) [((md 0), .inr (4, [.ref (md 1), .ref (md 2), .ref (md 3), .int (nI hn), .ref (md 4), .ref (md 5), .ref (md 6), .int (nI tl), .int (nI sp), .int nu])), ((md 1), .inl (cI, 86, .inl a)), ((md 2), .inl (cI, 86, .inl kp)), ((md 3), .inl (cI, 516, .inl hs)), ((md 4), .inl (cI, 172, .inl sl)), ((md 5), .inl (cI, 2, .inl iv)), ((md 6), .inl (cI, 60, .inl tx))] [.ref (md 0), .int (nI g), .int (nI 11)]) (vp_Si (fun r => r = m_gate a g 11)) 0 0 (fun _ => False) := by
  refine b_enterR (cc := cX4_gate) (maxL := 3) (ret := (some .int)) (by decide) rfl (Nat.le_of_ble_eq_true rfl) ?_
  intro p e s m below meth c ls hx hb hr hml hown hts hlocks hP hK hl Q hQ
  have hown : s.vm.findClass RX4 = some m.cls := hown
  have hl : lv_has ls 3 [(0, .ref (md 0)), (1, .int (nI g)), (2, .int (nI 11))] := hl
  refine lv_iload_n (pc := 0) hx hb dX4_gate_0 rfl (lv_at hl 1 rfl) ?_
  refine b_cR (pc := 1) (va_runS (As := [.int (nI g)]) (rest := []) ⟨hx, hb, hml, hown, hts⟩ (c_X4_isGate l D cI cC cZ cG (nI g)) (va_cwS 1 hts gX4_gate_X4_isGate rfl rfl rfl hyS_X4_isGate ⟨Nat.le_of_ble_eq_true rfl, Nat.le_of_ble_eq_true rfl⟩) (b_pRS (wc := []) hK hP [] rfl) rfl rfl hl.1 rfl (lv_room (Nat.le_of_ble_eq_true rfl)) dX4_gate_1 ⟨Nat.zero_le _, Nat.zero_le _⟩) ?_
  refine lv_if_ne (pc := 4) (tgt := 9) hx hb dX4_gate_4 (by decide) (fun c_1 => ?_) (fun c_1 => ?_)
  · skip
    have c_1 : m_in (nI g).toInt64 0 5 := Classical.not_not.mp (fun h9 => c_1 (b_i_0.mpr h9))
    refine lv_iload_n (pc := 9) hx hb dX4_gate_9 rfl (lv_at hl 2 rfl) ?_
    refine lv_tableIn (pc := 10) (tgt := 123) (off := 113) hx hb dX4_gate_10 (by decide) (by decide) (by decide) (by decide) ?_
    refine lv_aload_n (pc := 123) hx hb dX4_gate_123 rfl (lv_at hl 0 rfl) ?_
    refine lv_iload_n (pc := 124) hx hb dX4_gate_124 rfl (lv_at hl 1 rfl) ?_
    refine lv_iconst (pc := 125) (v := 4) hx hb dX4_gate_125 (by decide) ?_
    refine lv_iload_n (pc := 126) hx hb dX4_gate_126 rfl (lv_at hl 2 rfl) ?_
    refine lv_iadd (pc := 127) hx hb dX4_gate_127 ?_
    refine b_re (nI_add 4 11) ?_
    refine lv_iconst (pc := 128) (v := 5) hx hb dX4_gate_128 (by decide) ?_
    refine lv_isub (pc := 129) hx hb dX4_gate_129 ?_
    refine b_re (pk_sub (a := 4 + 11) (b := 5) (by decide)) ?_
    refine b_cR (pc := 130) (va_runV (As := [.int (nI g), .int (nI (4 + 11 - 5))]) (rest := []) ⟨hx, hb, hml, hown, hts⟩ (c_X4_get l D cI cC cZ cG md a kp hs hn sl iv tx tl sp nu g (4 + 11 - 5) (by first | omega | assumption) (by first | omega | assumption)) (cwV 2 hts gX4_gate_X4_get rfl rfl rfl hy_X4_get ⟨Nat.le_of_ble_eq_true rfl, Nat.le_of_ble_eq_true rfl⟩) (b_pRV (wc := [((md 0), .inr (4, [.ref (md 1), .ref (md 2), .ref (md 3), .int (nI hn), .ref (md 4), .ref (md 5), .ref (md 6), .int (nI tl), .int (nI sp), .int nu])), ((md 1), .inl (cI, 86, .inl a)), ((md 2), .inl (cI, 86, .inl kp)), ((md 3), .inl (cI, 516, .inl hs)), ((md 4), .inl (cI, 172, .inl sl)), ((md 5), .inl (cI, 2, .inl iv)), ((md 6), .inl (cI, 60, .inl tx))]) hK hP [0, 1, 2, 3, 4, 5, 6] rfl (ci := 4) (q0 := 0) rfl rfl) rfl rfl hl.1 rfl (lv_room (Nat.le_of_ble_eq_true rfl)) dX4_gate_130 ⟨Nat.zero_le _, Nat.zero_le _⟩) ?_
    subst hQ
    exact b_retR hx hb hr hlocks (by simp only [m_gate, (eq_false (by decide) : ((11 : Nat) = 0) = False), (eq_false (by decide) : ((11 : Nat) = 1) = False), (eq_false (by decide) : ((11 : Nat) = 2) = False), (eq_false (by decide) : ((11 : Nat) = 3) = False), (eq_false (by decide) : ((11 : Nat) = 4) = False), if_true, if_false]) dX4_gate_133
  · skip
    have c_1 : ¬ (m_in (nI g).toInt64 0 5) := b_i_0.mp c_1
    exact absurd (m_gk hg) c_1
set_option maxHeartbeats 4000000 in
set_option maxRecDepth 100000 in
theorem c_X4_gate_12 (l : Launch) (D : va_G) (cI cC cZ cG : ClassId) (md : Nat → Nat) (a : Nat → Int32) (kp : Nat → Int32) (hs : Nat → Int32) (hn : Nat) (sl : Nat → Int32) (iv : Nat → Int32) (tx : Nat → Int32) (tl : Nat) (sp : Nat) (nu : Int32) (g : Nat) (hg : g < 6) : Met l yX4_gate wsX4_gate ({ frames := 3, cells := 0, slots := 0, locals := 64 } : Room) (b_R D (b_T cI cC cZ cG) [((md 0), .inr (4, [.ref (md 1), .ref (md 2), .ref (md 3), .int (nI hn), .ref (md 4), .ref (md 5), .ref (md 6), .int (nI tl), .int (nI sp), .int nu])), ((md 1), .inl (cI, 86, .inl a)), ((md 2), .inl (cI, 86, .inl kp)), ((md 3), .inl (cI, 516, .inl hs)), ((md 4), .inl (cI, 172, .inl sl)), ((md 5), .inl (cI, 2, .inl iv)), ((md 6), .inl (cI, 60, .inl tx))] [.ref (md 0), .int (nI g), .int (nI 12)]) (vp_Si (fun r => r = m_gate a g 12)) 0 0 (fun _ => False) := by
  refine b_enterR (cc := cX4_gate) (maxL := 3) (ret := (some .int)) (by decide) rfl (Nat.le_of_ble_eq_true rfl) ?_
  intro p e s m below meth c ls hx hb hr hml hown hts hlocks hP hK hl Q hQ
  have hown : s.vm.findClass RX4 = some m.cls := hown
  have hl : lv_has ls 3 [(0, .ref (md 0)), (1, .int (nI g)), (2, .int (nI 12))] := hl
  refine lv_iload_n (pc := 0) hx hb dX4_gate_0 rfl (lv_at hl 1 rfl) ?_
  refine b_cR (pc := 1) (va_runS (As := [.int (nI g)]) (rest := []) ⟨hx, hb, hml, hown, hts⟩ (c_X4_isGate l D cI cC cZ cG (nI g)) (va_cwS 1 hts gX4_gate_X4_isGate rfl rfl rfl hyS_X4_isGate ⟨Nat.le_of_ble_eq_true rfl, Nat.le_of_ble_eq_true rfl⟩) (b_pRS (wc := []) hK hP [] rfl) rfl rfl hl.1 rfl (lv_room (Nat.le_of_ble_eq_true rfl)) dX4_gate_1 ⟨Nat.zero_le _, Nat.zero_le _⟩) ?_
  refine lv_if_ne (pc := 4) (tgt := 9) hx hb dX4_gate_4 (by decide) (fun c_1 => ?_) (fun c_1 => ?_)
  · skip
    have c_1 : m_in (nI g).toInt64 0 5 := Classical.not_not.mp (fun h9 => c_1 (b_i_0.mpr h9))
    refine lv_iload_n (pc := 9) hx hb dX4_gate_9 rfl (lv_at hl 2 rfl) ?_
    refine lv_tableIn (pc := 10) (tgt := 123) (off := 113) hx hb dX4_gate_10 (by decide) (by decide) (by decide) (by decide) ?_
    refine lv_aload_n (pc := 123) hx hb dX4_gate_123 rfl (lv_at hl 0 rfl) ?_
    refine lv_iload_n (pc := 124) hx hb dX4_gate_124 rfl (lv_at hl 1 rfl) ?_
    refine lv_iconst (pc := 125) (v := 4) hx hb dX4_gate_125 (by decide) ?_
    refine lv_iload_n (pc := 126) hx hb dX4_gate_126 rfl (lv_at hl 2 rfl) ?_
    refine lv_iadd (pc := 127) hx hb dX4_gate_127 ?_
    refine b_re (nI_add 4 12) ?_
    refine lv_iconst (pc := 128) (v := 5) hx hb dX4_gate_128 (by decide) ?_
    refine lv_isub (pc := 129) hx hb dX4_gate_129 ?_
    refine b_re (pk_sub (a := 4 + 12) (b := 5) (by decide)) ?_
    refine b_cR (pc := 130) (va_runV (As := [.int (nI g), .int (nI (4 + 12 - 5))]) (rest := []) ⟨hx, hb, hml, hown, hts⟩ (c_X4_get l D cI cC cZ cG md a kp hs hn sl iv tx tl sp nu g (4 + 12 - 5) (by first | omega | assumption) (by first | omega | assumption)) (cwV 2 hts gX4_gate_X4_get rfl rfl rfl hy_X4_get ⟨Nat.le_of_ble_eq_true rfl, Nat.le_of_ble_eq_true rfl⟩) (b_pRV (wc := [((md 0), .inr (4, [.ref (md 1), .ref (md 2), .ref (md 3), .int (nI hn), .ref (md 4), .ref (md 5), .ref (md 6), .int (nI tl), .int (nI sp), .int nu])), ((md 1), .inl (cI, 86, .inl a)), ((md 2), .inl (cI, 86, .inl kp)), ((md 3), .inl (cI, 516, .inl hs)), ((md 4), .inl (cI, 172, .inl sl)), ((md 5), .inl (cI, 2, .inl iv)), ((md 6), .inl (cI, 60, .inl tx))]) hK hP [0, 1, 2, 3, 4, 5, 6] rfl (ci := 4) (q0 := 0) rfl rfl) rfl rfl hl.1 rfl (lv_room (Nat.le_of_ble_eq_true rfl)) dX4_gate_130 ⟨Nat.zero_le _, Nat.zero_le _⟩) ?_
    subst hQ
    exact b_retR hx hb hr hlocks (by simp only [m_gate, (eq_false (by decide) : ((12 : Nat) = 0) = False), (eq_false (by decide) : ((12 : Nat) = 1) = False), (eq_false (by decide) : ((12 : Nat) = 2) = False), (eq_false (by decide) : ((12 : Nat) = 3) = False), (eq_false (by decide) : ((12 : Nat) = 4) = False), if_true, if_false]) dX4_gate_133
  · skip
    have c_1 : ¬ (m_in (nI g).toInt64 0 5) := b_i_0.mp c_1
    exact absurd (m_gk hg) c_1
set_option maxHeartbeats 4000000 in
set_option maxRecDepth 100000 in
theorem c_X4_gate_ok (l : Launch) (D : va_G) (cI cC cZ cG : ClassId) (md : Nat → Nat) (a : Nat → Int32) (kp : Nat → Int32) (hs : Nat → Int32) (hn : Nat) (sl : Nat → Int32) (iv : Nat → Int32) (tx : Nat → Int32) (tl : Nat) (sp : Nat) (nu : Int32) (g : Nat) (w1 : Nat) (hg : g < 6) (hw : w1 < 13) : Met l yX4_gate wsX4_gate ({ frames := 3, cells := 0, slots := 0, locals := 64 } : Room) (b_R D (b_T cI cC cZ cG) [((md 0), .inr (4, [.ref (md 1), .ref (md 2), .ref (md 3), .int (nI hn), .ref (md 4), .ref (md 5), .ref (md 6), .int (nI tl), .int (nI sp), .int nu])), ((md 1), .inl (cI, 86, .inl a)), ((md 2), .inl (cI, 86, .inl kp)), ((md 3), .inl (cI, 516, .inl hs)), ((md 4), .inl (cI, 172, .inl sl)), ((md 5), .inl (cI, 2, .inl iv)), ((md 6), .inl (cI, 60, .inl tx))] [.ref (md 0), .int (nI g), .int (nI w1)]) (vp_Si (fun r => r = m_gate a g w1)) 0 0 (fun _ => False) := by
  match w1, hw with
  | 0, _ => exact c_X4_gate_0 l D cI cC cZ cG md a kp hs hn sl iv tx tl sp nu g hg
  | 1, _ => exact c_X4_gate_1 l D cI cC cZ cG md a kp hs hn sl iv tx tl sp nu g hg
  | 2, _ => exact c_X4_gate_2 l D cI cC cZ cG md a kp hs hn sl iv tx tl sp nu g hg
  | 3, _ => exact c_X4_gate_3 l D cI cC cZ cG md a kp hs hn sl iv tx tl sp nu g hg
  | 4, _ => exact c_X4_gate_4 l D cI cC cZ cG md a kp hs hn sl iv tx tl sp nu g hg
  | 5, _ => exact c_X4_gate_5 l D cI cC cZ cG md a kp hs hn sl iv tx tl sp nu g hg
  | 6, _ => exact c_X4_gate_6 l D cI cC cZ cG md a kp hs hn sl iv tx tl sp nu g hg
  | 7, _ => exact c_X4_gate_7 l D cI cC cZ cG md a kp hs hn sl iv tx tl sp nu g hg
  | 8, _ => exact c_X4_gate_8 l D cI cC cZ cG md a kp hs hn sl iv tx tl sp nu g hg
  | 9, _ => exact c_X4_gate_9 l D cI cC cZ cG md a kp hs hn sl iv tx tl sp nu g hg
  | 10, _ => exact c_X4_gate_10 l D cI cC cZ cG md a kp hs hn sl iv tx tl sp nu g hg
  | 11, _ => exact c_X4_gate_11 l D cI cC cZ cG md a kp hs hn sl iv tx tl sp nu g hg
  | 12, _ => exact c_X4_gate_12 l D cI cC cZ cG md a kp hs hn sl iv tx tl sp nu g hg
  | k + 13, h9 => exact absurd h9 (by omega)
theorem hw_X4_count_bad_0 : (.constantLong RX4 107 (7) : Cond) ∈ wsX4_count := by decide +kernel
theorem hw_X4_count_bad_1 : (.constantLong RX4 109 (8) : Cond) ∈ wsX4_count := by decide +kernel
theorem hw_X4_count_bad_2 : (.constantLong RX4 111 (13) : Cond) ∈ wsX4_count := by decide +kernel
set_option maxHeartbeats 4000000 in
set_option maxRecDepth 100000 in
theorem c_X4_count_bad (l : Launch) (D : va_G) (cI cC cZ cG : ClassId) (md : Nat → Nat) (a : Nat → Int32) (kp : Nat → Int32) (hs : Nat → Int32) (hn : Nat) (sl : Nat → Int32) (iv : Nat → Int32) (tx : Nat → Int32) (tl : Nat) (sp : Nat) (nu : Int32) (x : Int32) (hbad : x < 0 ∨ ¬ x < 18) : Met l yX4_count wsX4_count ({ frames := 1, cells := 0, slots := 0, locals := 25 } : Room) (b_R D (b_T cI cC cZ cG) [((md 0), .inr (4, [.ref (md 1), .ref (md 2), .ref (md 3), .int (nI hn), .ref (md 4), .ref (md 5), .ref (md 6), .int (nI tl), .int (nI sp), .int nu])), ((md 1), .inl (cI, 86, .inl a)), ((md 2), .inl (cI, 86, .inl kp)), ((md 3), .inl (cI, 516, .inl hs)), ((md 4), .inl (cI, 172, .inl sl)), ((md 5), .inl (cI, 2, .inl iv)), ((md 6), .inl (cI, 60, .inl tx))] [.ref (md 0), .int x]) (vp_Si (fun r => r = -2)) 0 0 (fun _ => False) := by
  refine b_enterR (cc := cX4_count) (maxL := 2) (ret := (some .int)) (by decide) rfl (Nat.le_of_ble_eq_true rfl) ?_
  intro p e s m below meth c ls hx hb hr hml hown hts hlocks hP hK hl Q hQ
  have hown : s.vm.findClass RX4 = some m.cls := hown
  have hl : lv_has ls 2 [(0, .ref (md 0)), (1, .int x)] := hl
  refine lv_iload_n (pc := 0) hx hb dX4_count_0 rfl (lv_at hl 1 rfl) ?_
  refine lv_i2l (pc := 1) hx hb dX4_count_1 rfl ?_
  refine lv_lconst (pc := 2) (v := 0) hx hb dX4_count_2 (by decide) ?_
  refine lv_ldc2 (pc := 3) hx hb hown (hts _ hw_X4_count_bad_0) dX4_count_3 ?_
  refine b_cR (pc := 6) (va_runS (As := [.long x.toInt64, .long 0, .long 7]) (rest := []) ⟨hx, hb, hml, hown, hts⟩ (c_X4_in l D cI cC cZ cG x.toInt64 0 7) (va_cwS 3 hts gX4_count_X4_in rfl rfl rfl hyS_X4_in ⟨Nat.le_of_ble_eq_true rfl, Nat.le_of_ble_eq_true rfl⟩) (b_pRS (wc := []) hK hP [] rfl) rfl rfl hl.1 rfl (lv_room (Nat.le_of_ble_eq_true rfl)) dX4_count_6 ⟨Nat.zero_le _, Nat.zero_le _⟩) ?_
  refine lv_if_eq (pc := 9) (tgt := 19) hx hb dX4_count_9 (by decide) (fun c_1 => ?_) (fun c_1 => ?_)
  · skip
    have c_1 : ¬ (m_in x.toInt64 0 7) := b_i_0.mp c_1
    refine lv_iload_n (pc := 19) hx hb dX4_count_19 rfl (lv_at hl 1 rfl) ?_
    refine lv_i2l (pc := 20) hx hb dX4_count_20 rfl ?_
    refine lv_ldc2 (pc := 21) hx hb hown (hts _ hw_X4_count_bad_1) dX4_count_21 ?_
    refine lv_ldc2 (pc := 24) hx hb hown (hts _ hw_X4_count_bad_2) dX4_count_24 ?_
    refine b_cR (pc := 27) (va_runS (As := [.long x.toInt64, .long 8, .long 13]) (rest := []) ⟨hx, hb, hml, hown, hts⟩ (c_X4_in l D cI cC cZ cG x.toInt64 8 13) (va_cwS 3 hts gX4_count_X4_in rfl rfl rfl hyS_X4_in ⟨Nat.le_of_ble_eq_true rfl, Nat.le_of_ble_eq_true rfl⟩) (b_pRS (wc := []) hK hP [] rfl) rfl rfl hl.1 rfl (lv_room (Nat.le_of_ble_eq_true rfl)) dX4_count_27 ⟨Nat.zero_le _, Nat.zero_le _⟩) ?_
    refine lv_if_eq (pc := 30) (tgt := 44) hx hb dX4_count_30 (by decide) (fun c_2 => ?_) (fun c_2 => ?_)
    · skip
      have c_2 : ¬ (m_in x.toInt64 8 13) := b_i_0.mp c_2
      refine lv_iload_n (pc := 44) hx hb dX4_count_44 rfl (lv_at hl 1 rfl) ?_
      refine lv_bipush (pc := 45) (v := 14) hx hb dX4_count_45 (by decide) ?_
      refine lv_icmp_ne (pc := 47) (tgt := 57) hx hb dX4_count_47 (by decide) (fun c_3 => ?_) (fun c_3 => ?_)
      · skip
        have c_3 : ¬ (x = 14) := c_3
        refine lv_iload_n (pc := 57) hx hb dX4_count_57 rfl (lv_at hl 1 rfl) ?_
        refine lv_bipush (pc := 58) (v := 15) hx hb dX4_count_58 (by decide) ?_
        refine lv_icmp_ne (pc := 60) (tgt := 70) hx hb dX4_count_60 (by decide) (fun c_4 => ?_) (fun c_4 => ?_)
        · skip
          have c_4 : ¬ (x = 15) := c_4
          refine lv_iload_n (pc := 70) hx hb dX4_count_70 rfl (lv_at hl 1 rfl) ?_
          refine lv_bipush (pc := 71) (v := 16) hx hb dX4_count_71 (by decide) ?_
          refine lv_icmp_ne (pc := 73) (tgt := 83) hx hb dX4_count_73 (by decide) (fun c_5 => ?_) (fun c_5 => ?_)
          · skip
            have c_5 : ¬ (x = 16) := c_5
            refine lv_iload_n (pc := 83) hx hb dX4_count_83 rfl (lv_at hl 1 rfl) ?_
            refine lv_bipush (pc := 84) (v := 17) hx hb dX4_count_84 (by decide) ?_
            refine lv_icmp_ne (pc := 86) (tgt := 96) hx hb dX4_count_86 (by decide) (fun c_6 => ?_) (fun c_6 => ?_)
            · skip
              have c_6 : ¬ (x = 17) := c_6
              refine lv_bipush (pc := 96) (v := (-2)) hx hb dX4_count_96 (by decide) ?_
              subst hQ
              exact b_retR hx hb hr hlocks (rfl) dX4_count_98
            · skip
              have c_6 : x = 17 := c_6
              exact absurd c_6 (m_ne18 hbad (by decide) (by decide))
          · skip
            have c_5 : x = 16 := c_5
            exact absurd c_5 (m_ne18 hbad (by decide) (by decide))
        · skip
          have c_4 : x = 15 := c_4
          exact absurd c_4 (m_ne18 hbad (by decide) (by decide))
      · skip
        have c_3 : x = 14 := c_3
        exact absurd c_3 (m_ne18 hbad (by decide) (by decide))
    · skip
      have c_2 : m_in x.toInt64 8 13 := Classical.not_not.mp (fun h9 => c_2 (b_i_0.mpr h9))
      exact absurd c_2 (m_out (lo := 8) (hi := 13) (hj := 14) (by decide) (by decide) (by decide) (hbad.imp (fun q => Int32.lt_trans q (by decide)) (fun z q => z (Int32.lt_trans q (by decide)))))
  · skip
    have c_1 : m_in x.toInt64 0 7 := Classical.not_not.mp (fun h9 => c_1 (b_i_0.mpr h9))
    exact absurd c_1 (m_out (lo := 0) (hi := 7) (hj := 8) (by decide) (by decide) (by decide) (hbad.imp id (fun z q => z (Int32.lt_trans q (by decide)))))
theorem hw_X4_count_lo_0 : (.constantLong RX4 107 (7) : Cond) ∈ wsX4_count := by decide +kernel
theorem hw_X4_count_lo_1 : (.fieldLink RX4 7 "BeamTurnstilesModel" "all" "[I" : Cond) ∈ wsX4_count := by decide +kernel
theorem hi_X4_count_lo_X4 : ∀ w ∈ wsX40, w ∈ wsX4_count := by decide +kernel
set_option maxHeartbeats 4000000 in
set_option maxRecDepth 100000 in
theorem c_X4_count_lo (l : Launch) (D : va_G) (cI cC cZ cG : ClassId) (md : Nat → Nat) (a : Nat → Int32) (kp : Nat → Int32) (hs : Nat → Int32) (hn : Nat) (sl : Nat → Int32) (iv : Nat → Int32) (tx : Nat → Int32) (tl : Nat) (sp : Nat) (nu : Int32) (w1 : Nat) (hw : w1 < 8) : Met l yX4_count wsX4_count ({ frames := 1, cells := 0, slots := 0, locals := 25 } : Room) (b_R D (b_T cI cC cZ cG) [((md 0), .inr (4, [.ref (md 1), .ref (md 2), .ref (md 3), .int (nI hn), .ref (md 4), .ref (md 5), .ref (md 6), .int (nI tl), .int (nI sp), .int nu])), ((md 1), .inl (cI, 86, .inl a)), ((md 2), .inl (cI, 86, .inl kp)), ((md 3), .inl (cI, 516, .inl hs)), ((md 4), .inl (cI, 172, .inl sl)), ((md 5), .inl (cI, 2, .inl iv)), ((md 6), .inl (cI, 60, .inl tx))] [.ref (md 0), .int (nI w1)]) (vp_Si (fun r => r = a w1)) 0 0 (fun _ => False) := by
  refine b_enterR (cc := cX4_count) (maxL := 2) (ret := (some .int)) (by decide) rfl (Nat.le_of_ble_eq_true rfl) ?_
  intro p e s m below meth c ls hx hb hr hml hown hts hlocks hP hK hl Q hQ
  have hown : s.vm.findClass RX4 = some m.cls := hown
  have hl : lv_has ls 2 [(0, .ref (md 0)), (1, .int (nI w1))] := hl
  refine lv_iload_n (pc := 0) hx hb dX4_count_0 rfl (lv_at hl 1 rfl) ?_
  refine lv_i2l (pc := 1) hx hb dX4_count_1 rfl ?_
  refine lv_lconst (pc := 2) (v := 0) hx hb dX4_count_2 (by decide) ?_
  refine lv_ldc2 (pc := 3) hx hb hown (hts _ hw_X4_count_lo_0) dX4_count_3 ?_
  refine b_cR (pc := 6) (va_runS (As := [.long ((nI w1).toInt64), .long 0, .long 7]) (rest := []) ⟨hx, hb, hml, hown, hts⟩ (c_X4_in l D cI cC cZ cG ((nI w1).toInt64) 0 7) (va_cwS 3 hts gX4_count_X4_in rfl rfl rfl hyS_X4_in ⟨Nat.le_of_ble_eq_true rfl, Nat.le_of_ble_eq_true rfl⟩) (b_pRS (wc := []) hK hP [] rfl) rfl rfl hl.1 rfl (lv_room (Nat.le_of_ble_eq_true rfl)) dX4_count_6 ⟨Nat.zero_le _, Nat.zero_le _⟩) ?_
  refine lv_if_eq (pc := 9) (tgt := 19) hx hb dX4_count_9 (by decide) (fun c_1 => ?_) (fun c_1 => ?_)
  · skip
    have c_1 : ¬ (m_in ((nI w1).toInt64) 0 7) := b_i_0.mp c_1
    exact absurd (m_inN (lo := 0) (hi := 7) (by decide) (by decide) (by omega) (by omega) (by omega) (by omega)) c_1
  · skip
    have c_1 : m_in ((nI w1).toInt64) 0 7 := Classical.not_not.mp (fun h9 => c_1 (b_i_0.mpr h9))
    refine lv_aload_n (pc := 12) hx hb dX4_count_12 rfl (lv_at hl 0 rfl) ?_
    refine va_get (pc := 13) (D := D) (ci := 4) (v := .ref (md 1)) (C := RX4) (T := TX4) (N := 10) hx hb hts hi_X4_count_lo_X4 hown hK hP 0 rfl rfl 0 (by decide) (hts _ hw_X4_count_lo_1) (fun _ h9 => h9) rfl dX4_count_13 ?_
    refine lv_iload_n (pc := 16) hx hb dX4_count_16 rfl (lv_at hl 1 rfl) ?_
    refine b_iald (pc := 17) hx hb hK hP 1 0 rfl rfl w1 rfl (by omega) (by decide) dX4_count_17 ?_
    subst hQ
    exact b_retR hx hb hr hlocks (rfl) dX4_count_18
theorem hw_X4_count_mid_0 : (.constantLong RX4 107 (7) : Cond) ∈ wsX4_count := by decide +kernel
theorem hw_X4_count_mid_1 : (.constantLong RX4 109 (8) : Cond) ∈ wsX4_count := by decide +kernel
theorem hw_X4_count_mid_2 : (.constantLong RX4 111 (13) : Cond) ∈ wsX4_count := by decide +kernel
set_option maxHeartbeats 4000000 in
set_option maxRecDepth 100000 in
theorem c_X4_count_mid (l : Launch) (D : va_G) (cI cC cZ cG : ClassId) (md : Nat → Nat) (a : Nat → Int32) (kp : Nat → Int32) (hs : Nat → Int32) (hn : Nat) (sl : Nat → Int32) (iv : Nat → Int32) (tx : Nat → Int32) (tl : Nat) (sp : Nat) (nu : Int32) (w1 : Nat) (hw : 8 ≤ w1 ∧ w1 < 14) : Met l yX4_count wsX4_count ({ frames := 2, cells := 0, slots := 0, locals := 45 } : Room) (b_R D (b_T cI cC cZ cG) [((md 0), .inr (4, [.ref (md 1), .ref (md 2), .ref (md 3), .int (nI hn), .ref (md 4), .ref (md 5), .ref (md 6), .int (nI tl), .int (nI sp), .int nu])), ((md 1), .inl (cI, 86, .inl a)), ((md 2), .inl (cI, 86, .inl kp)), ((md 3), .inl (cI, 516, .inl hs)), ((md 4), .inl (cI, 172, .inl sl)), ((md 5), .inl (cI, 2, .inl iv)), ((md 6), .inl (cI, 60, .inl tx))] [.ref (md 0), .int (nI w1)]) (vp_Si (fun r => r = m_sum a (4 + w1 - 8) 6)) 0 0 (fun _ => False) := by
  refine b_enterR (cc := cX4_count) (maxL := 2) (ret := (some .int)) (by decide) rfl (Nat.le_of_ble_eq_true rfl) ?_
  intro p e s m below meth c ls hx hb hr hml hown hts hlocks hP hK hl Q hQ
  have hown : s.vm.findClass RX4 = some m.cls := hown
  have hl : lv_has ls 2 [(0, .ref (md 0)), (1, .int (nI w1))] := hl
  refine lv_iload_n (pc := 0) hx hb dX4_count_0 rfl (lv_at hl 1 rfl) ?_
  refine lv_i2l (pc := 1) hx hb dX4_count_1 rfl ?_
  refine lv_lconst (pc := 2) (v := 0) hx hb dX4_count_2 (by decide) ?_
  refine lv_ldc2 (pc := 3) hx hb hown (hts _ hw_X4_count_mid_0) dX4_count_3 ?_
  refine b_cR (pc := 6) (va_runS (As := [.long ((nI w1).toInt64), .long 0, .long 7]) (rest := []) ⟨hx, hb, hml, hown, hts⟩ (c_X4_in l D cI cC cZ cG ((nI w1).toInt64) 0 7) (va_cwS 3 hts gX4_count_X4_in rfl rfl rfl hyS_X4_in ⟨Nat.le_of_ble_eq_true rfl, Nat.le_of_ble_eq_true rfl⟩) (b_pRS (wc := []) hK hP [] rfl) rfl rfl hl.1 rfl (lv_room (Nat.le_of_ble_eq_true rfl)) dX4_count_6 ⟨Nat.zero_le _, Nat.zero_le _⟩) ?_
  refine lv_if_eq (pc := 9) (tgt := 19) hx hb dX4_count_9 (by decide) (fun c_1 => ?_) (fun c_1 => ?_)
  · skip
    have c_1 : ¬ (m_in ((nI w1).toInt64) 0 7) := b_i_0.mp c_1
    refine lv_iload_n (pc := 19) hx hb dX4_count_19 rfl (lv_at hl 1 rfl) ?_
    refine lv_i2l (pc := 20) hx hb dX4_count_20 rfl ?_
    refine lv_ldc2 (pc := 21) hx hb hown (hts _ hw_X4_count_mid_1) dX4_count_21 ?_
    refine lv_ldc2 (pc := 24) hx hb hown (hts _ hw_X4_count_mid_2) dX4_count_24 ?_
    refine b_cR (pc := 27) (va_runS (As := [.long ((nI w1).toInt64), .long 8, .long 13]) (rest := []) ⟨hx, hb, hml, hown, hts⟩ (c_X4_in l D cI cC cZ cG ((nI w1).toInt64) 8 13) (va_cwS 3 hts gX4_count_X4_in rfl rfl rfl hyS_X4_in ⟨Nat.le_of_ble_eq_true rfl, Nat.le_of_ble_eq_true rfl⟩) (b_pRS (wc := []) hK hP [] rfl) rfl rfl hl.1 rfl (lv_room (Nat.le_of_ble_eq_true rfl)) dX4_count_27 ⟨Nat.zero_le _, Nat.zero_le _⟩) ?_
    refine lv_if_eq (pc := 30) (tgt := 44) hx hb dX4_count_30 (by decide) (fun c_2 => ?_) (fun c_2 => ?_)
    · skip
      have c_2 : ¬ (m_in ((nI w1).toInt64) 8 13) := b_i_0.mp c_2
      exact absurd (m_inN (lo := 8) (hi := 13) (by decide) (by decide) (by omega) (by omega) (by omega) (by omega)) c_2
    · skip
      have c_2 : m_in ((nI w1).toInt64) 8 13 := Classical.not_not.mp (fun h9 => c_2 (b_i_0.mpr h9))
      refine lv_aload_n (pc := 33) hx hb dX4_count_33 rfl (lv_at hl 0 rfl) ?_
      refine lv_iconst (pc := 34) (v := 4) hx hb dX4_count_34 (by decide) ?_
      refine lv_iload_n (pc := 35) hx hb dX4_count_35 rfl (lv_at hl 1 rfl) ?_
      refine lv_iadd (pc := 36) hx hb dX4_count_36 ?_
      refine b_re (nI_add 4 w1) ?_
      refine lv_bipush (pc := 37) (v := 8) hx hb dX4_count_37 (by decide) ?_
      refine lv_isub (pc := 39) hx hb dX4_count_39 ?_
      refine b_re (pk_sub (a := 4 + w1) (b := 8) (by omega)) ?_
      refine b_cR (pc := 40) (va_runV (As := [.int (nI (4 + w1 - 8))]) (rest := []) ⟨hx, hb, hml, hown, hts⟩ (c_X4_allOf l D cI cC cZ cG md a kp hs hn sl iv tx tl sp nu (4 + w1 - 8) (by first | omega | assumption)) (cwV 1 hts gX4_count_X4_allOf rfl rfl rfl hy_X4_allOf ⟨Nat.le_of_ble_eq_true rfl, Nat.le_of_ble_eq_true rfl⟩) (b_pRV (wc := [((md 0), .inr (4, [.ref (md 1), .ref (md 2), .ref (md 3), .int (nI hn), .ref (md 4), .ref (md 5), .ref (md 6), .int (nI tl), .int (nI sp), .int nu])), ((md 1), .inl (cI, 86, .inl a)), ((md 2), .inl (cI, 86, .inl kp)), ((md 3), .inl (cI, 516, .inl hs)), ((md 4), .inl (cI, 172, .inl sl)), ((md 5), .inl (cI, 2, .inl iv)), ((md 6), .inl (cI, 60, .inl tx))]) hK hP [0, 1, 2, 3, 4, 5, 6] rfl (ci := 4) (q0 := 0) rfl rfl) rfl rfl hl.1 rfl (lv_room (Nat.le_of_ble_eq_true rfl)) dX4_count_40 ⟨Nat.zero_le _, Nat.zero_le _⟩) ?_
      subst hQ
      exact b_retR hx hb hr hlocks (rfl) dX4_count_43
  · skip
    have c_1 : m_in ((nI w1).toInt64) 0 7 := Classical.not_not.mp (fun h9 => c_1 (b_i_0.mpr h9))
    exact absurd c_1 (m_outN (lo := 0) (hi := 7) (by decide) (by decide) (by omega) (by omega) (by omega) (by omega))
theorem hw_X4_count_14_0 : (.constantLong RX4 107 (7) : Cond) ∈ wsX4_count := by decide +kernel
theorem hw_X4_count_14_1 : (.constantLong RX4 109 (8) : Cond) ∈ wsX4_count := by decide +kernel
theorem hw_X4_count_14_2 : (.constantLong RX4 111 (13) : Cond) ∈ wsX4_count := by decide +kernel
set_option maxHeartbeats 4000000 in
set_option maxRecDepth 100000 in
theorem c_X4_count_14 (l : Launch) (D : va_G) (cI cC cZ cG : ClassId) (md : Nat → Nat) (a : Nat → Int32) (kp : Nat → Int32) (hs : Nat → Int32) (hn : Nat) (sl : Nat → Int32) (iv : Nat → Int32) (tx : Nat → Int32) (tl : Nat) (sp : Nat) (nu : Int32) : Met l yX4_count wsX4_count ({ frames := 4, cells := 0, slots := 0, locals := 86 } : Room) (b_R D (b_T cI cC cZ cG) [((md 0), .inr (4, [.ref (md 1), .ref (md 2), .ref (md 3), .int (nI hn), .ref (md 4), .ref (md 5), .ref (md 6), .int (nI tl), .int (nI sp), .int nu])), ((md 1), .inl (cI, 86, .inl a)), ((md 2), .inl (cI, 86, .inl kp)), ((md 3), .inl (cI, 516, .inl hs)), ((md 4), .inl (cI, 172, .inl sl)), ((md 5), .inl (cI, 2, .inl iv)), ((md 6), .inl (cI, 60, .inl tx))] [.ref (md 0), .int (nI 14)]) (vp_Si (fun r => r = m_bm6 a 6)) 0 0 (fun _ => False) := by
  refine b_enterR (cc := cX4_count) (maxL := 2) (ret := (some .int)) (by decide) rfl (Nat.le_of_ble_eq_true rfl) ?_
  intro p e s m below meth c ls hx hb hr hml hown hts hlocks hP hK hl Q hQ
  have hown : s.vm.findClass RX4 = some m.cls := hown
  have hl : lv_has ls 2 [(0, .ref (md 0)), (1, .int (nI 14))] := hl
  refine lv_iload_n (pc := 0) hx hb dX4_count_0 rfl (lv_at hl 1 rfl) ?_
  refine lv_i2l (pc := 1) hx hb dX4_count_1 rfl ?_
  refine lv_lconst (pc := 2) (v := 0) hx hb dX4_count_2 (by decide) ?_
  refine lv_ldc2 (pc := 3) hx hb hown (hts _ hw_X4_count_14_0) dX4_count_3 ?_
  refine b_cR (pc := 6) (va_runS (As := [.long ((nI 14).toInt64), .long 0, .long 7]) (rest := []) ⟨hx, hb, hml, hown, hts⟩ (c_X4_in l D cI cC cZ cG ((nI 14).toInt64) 0 7) (va_cwS 3 hts gX4_count_X4_in rfl rfl rfl hyS_X4_in ⟨Nat.le_of_ble_eq_true rfl, Nat.le_of_ble_eq_true rfl⟩) (b_pRS (wc := []) hK hP [] rfl) rfl rfl hl.1 rfl (lv_room (Nat.le_of_ble_eq_true rfl)) dX4_count_6 ⟨Nat.zero_le _, Nat.zero_le _⟩) ?_
  refine lv_if_eq (pc := 9) (tgt := 19) hx hb dX4_count_9 (by decide) (fun c_1 => ?_) (fun c_1 => ?_)
  · skip
    have c_1 : ¬ (m_in ((nI 14).toInt64) 0 7) := b_i_0.mp c_1
    refine lv_iload_n (pc := 19) hx hb dX4_count_19 rfl (lv_at hl 1 rfl) ?_
    refine lv_i2l (pc := 20) hx hb dX4_count_20 rfl ?_
    refine lv_ldc2 (pc := 21) hx hb hown (hts _ hw_X4_count_14_1) dX4_count_21 ?_
    refine lv_ldc2 (pc := 24) hx hb hown (hts _ hw_X4_count_14_2) dX4_count_24 ?_
    refine b_cR (pc := 27) (va_runS (As := [.long ((nI 14).toInt64), .long 8, .long 13]) (rest := []) ⟨hx, hb, hml, hown, hts⟩ (c_X4_in l D cI cC cZ cG ((nI 14).toInt64) 8 13) (va_cwS 3 hts gX4_count_X4_in rfl rfl rfl hyS_X4_in ⟨Nat.le_of_ble_eq_true rfl, Nat.le_of_ble_eq_true rfl⟩) (b_pRS (wc := []) hK hP [] rfl) rfl rfl hl.1 rfl (lv_room (Nat.le_of_ble_eq_true rfl)) dX4_count_27 ⟨Nat.zero_le _, Nat.zero_le _⟩) ?_
    refine lv_if_eq (pc := 30) (tgt := 44) hx hb dX4_count_30 (by decide) (fun c_2 => ?_) (fun c_2 => ?_)
    · skip
      have c_2 : ¬ (m_in ((nI 14).toInt64) 8 13) := b_i_0.mp c_2
      refine lv_iload_n (pc := 44) hx hb dX4_count_44 rfl (lv_at hl 1 rfl) ?_
      refine lv_bipush (pc := 45) (v := 14) hx hb dX4_count_45 (by decide) ?_
      refine lv_icmp_ne (pc := 47) (tgt := 57) hx hb dX4_count_47 (by decide) (fun c_3 => ?_) (fun c_3 => ?_)
      · skip
        have c_3 : ¬ (14 = 14) := fun h9 => c_3 ((nI_eq (a := 14) (b := 14) (by omega) (by omega)).mpr h9)
        exact absurd c_3 (by decide)
      · skip
        have c_3 : 14 = 14 := (nI_eq (a := 14) (b := 14) (by omega) (by omega)).mp c_3
        refine lv_aload_n (pc := 50) hx hb dX4_count_50 rfl (lv_at hl 0 rfl) ?_
        refine b_cR (pc := 51) (va_runV (As := []) (rest := []) ⟨hx, hb, hml, hown, hts⟩ (c_X4_blocked l D cI cC cZ cG md a kp hs hn sl iv tx tl sp nu) (cwV 0 hts gX4_count_X4_blocked rfl rfl rfl hy_X4_blocked ⟨Nat.le_of_ble_eq_true rfl, Nat.le_of_ble_eq_true rfl⟩) (b_pRV (wc := [((md 0), .inr (4, [.ref (md 1), .ref (md 2), .ref (md 3), .int (nI hn), .ref (md 4), .ref (md 5), .ref (md 6), .int (nI tl), .int (nI sp), .int nu])), ((md 1), .inl (cI, 86, .inl a)), ((md 2), .inl (cI, 86, .inl kp)), ((md 3), .inl (cI, 516, .inl hs)), ((md 4), .inl (cI, 172, .inl sl)), ((md 5), .inl (cI, 2, .inl iv)), ((md 6), .inl (cI, 60, .inl tx))]) hK hP [0, 1, 2, 3, 4, 5, 6] rfl (ci := 4) (q0 := 0) rfl rfl) rfl rfl hl.1 rfl (lv_room (Nat.le_of_ble_eq_true rfl)) dX4_count_51 ⟨Nat.zero_le _, Nat.zero_le _⟩) ?_
        refine lv_goto (pc := 54) (tgt := 98) hx hb dX4_count_54 (by decide) ?_
        subst hQ
        exact b_retR hx hb hr hlocks (rfl) dX4_count_98
    · skip
      have c_2 : m_in ((nI 14).toInt64) 8 13 := Classical.not_not.mp (fun h9 => c_2 (b_i_0.mpr h9))
      exact absurd c_2 (m_outN (lo := 8) (hi := 13) (by decide) (by decide) (by omega) (by omega) (by omega) (by omega))
  · skip
    have c_1 : m_in ((nI 14).toInt64) 0 7 := Classical.not_not.mp (fun h9 => c_1 (b_i_0.mpr h9))
    exact absurd c_1 (m_outN (lo := 0) (hi := 7) (by decide) (by decide) (by omega) (by omega) (by omega) (by omega))
theorem hw_X4_count_15_0 : (.constantLong RX4 107 (7) : Cond) ∈ wsX4_count := by decide +kernel
theorem hw_X4_count_15_1 : (.constantLong RX4 109 (8) : Cond) ∈ wsX4_count := by decide +kernel
theorem hw_X4_count_15_2 : (.constantLong RX4 111 (13) : Cond) ∈ wsX4_count := by decide +kernel
set_option maxHeartbeats 4000000 in
set_option maxRecDepth 100000 in
theorem c_X4_count_15 (l : Launch) (D : va_G) (cI cC cZ cG : ClassId) (md : Nat → Nat) (a : Nat → Int32) (kp : Nat → Int32) (hs : Nat → Int32) (hn : Nat) (sl : Nat → Int32) (iv : Nat → Int32) (tx : Nat → Int32) (tl : Nat) (sp : Nat) (nu : Int32) : Met l yX4_count wsX4_count ({ frames := 3, cells := 0, slots := 0, locals := 65 } : Room) (b_R D (b_T cI cC cZ cG) [((md 0), .inr (4, [.ref (md 1), .ref (md 2), .ref (md 3), .int (nI hn), .ref (md 4), .ref (md 5), .ref (md 6), .int (nI tl), .int (nI sp), .int nu])), ((md 1), .inl (cI, 86, .inl a)), ((md 2), .inl (cI, 86, .inl kp)), ((md 3), .inl (cI, 516, .inl hs)), ((md 4), .inl (cI, 172, .inl sl)), ((md 5), .inl (cI, 2, .inl iv)), ((md 6), .inl (cI, 60, .inl tx))] [.ref (md 0), .int (nI 15)]) (vp_Si (fun r => r = m_um a 6)) 0 0 (fun _ => False) := by
  refine b_enterR (cc := cX4_count) (maxL := 2) (ret := (some .int)) (by decide) rfl (Nat.le_of_ble_eq_true rfl) ?_
  intro p e s m below meth c ls hx hb hr hml hown hts hlocks hP hK hl Q hQ
  have hown : s.vm.findClass RX4 = some m.cls := hown
  have hl : lv_has ls 2 [(0, .ref (md 0)), (1, .int (nI 15))] := hl
  refine lv_iload_n (pc := 0) hx hb dX4_count_0 rfl (lv_at hl 1 rfl) ?_
  refine lv_i2l (pc := 1) hx hb dX4_count_1 rfl ?_
  refine lv_lconst (pc := 2) (v := 0) hx hb dX4_count_2 (by decide) ?_
  refine lv_ldc2 (pc := 3) hx hb hown (hts _ hw_X4_count_15_0) dX4_count_3 ?_
  refine b_cR (pc := 6) (va_runS (As := [.long ((nI 15).toInt64), .long 0, .long 7]) (rest := []) ⟨hx, hb, hml, hown, hts⟩ (c_X4_in l D cI cC cZ cG ((nI 15).toInt64) 0 7) (va_cwS 3 hts gX4_count_X4_in rfl rfl rfl hyS_X4_in ⟨Nat.le_of_ble_eq_true rfl, Nat.le_of_ble_eq_true rfl⟩) (b_pRS (wc := []) hK hP [] rfl) rfl rfl hl.1 rfl (lv_room (Nat.le_of_ble_eq_true rfl)) dX4_count_6 ⟨Nat.zero_le _, Nat.zero_le _⟩) ?_
  refine lv_if_eq (pc := 9) (tgt := 19) hx hb dX4_count_9 (by decide) (fun c_1 => ?_) (fun c_1 => ?_)
  · skip
    have c_1 : ¬ (m_in ((nI 15).toInt64) 0 7) := b_i_0.mp c_1
    refine lv_iload_n (pc := 19) hx hb dX4_count_19 rfl (lv_at hl 1 rfl) ?_
    refine lv_i2l (pc := 20) hx hb dX4_count_20 rfl ?_
    refine lv_ldc2 (pc := 21) hx hb hown (hts _ hw_X4_count_15_1) dX4_count_21 ?_
    refine lv_ldc2 (pc := 24) hx hb hown (hts _ hw_X4_count_15_2) dX4_count_24 ?_
    refine b_cR (pc := 27) (va_runS (As := [.long ((nI 15).toInt64), .long 8, .long 13]) (rest := []) ⟨hx, hb, hml, hown, hts⟩ (c_X4_in l D cI cC cZ cG ((nI 15).toInt64) 8 13) (va_cwS 3 hts gX4_count_X4_in rfl rfl rfl hyS_X4_in ⟨Nat.le_of_ble_eq_true rfl, Nat.le_of_ble_eq_true rfl⟩) (b_pRS (wc := []) hK hP [] rfl) rfl rfl hl.1 rfl (lv_room (Nat.le_of_ble_eq_true rfl)) dX4_count_27 ⟨Nat.zero_le _, Nat.zero_le _⟩) ?_
    refine lv_if_eq (pc := 30) (tgt := 44) hx hb dX4_count_30 (by decide) (fun c_2 => ?_) (fun c_2 => ?_)
    · skip
      have c_2 : ¬ (m_in ((nI 15).toInt64) 8 13) := b_i_0.mp c_2
      refine lv_iload_n (pc := 44) hx hb dX4_count_44 rfl (lv_at hl 1 rfl) ?_
      refine lv_bipush (pc := 45) (v := 14) hx hb dX4_count_45 (by decide) ?_
      refine lv_icmp_ne (pc := 47) (tgt := 57) hx hb dX4_count_47 (by decide) (fun c_3 => ?_) (fun c_3 => ?_)
      · skip
        have c_3 : ¬ (15 = 14) := fun h9 => c_3 ((nI_eq (a := 15) (b := 14) (by omega) (by omega)).mpr h9)
        refine lv_iload_n (pc := 57) hx hb dX4_count_57 rfl (lv_at hl 1 rfl) ?_
        refine lv_bipush (pc := 58) (v := 15) hx hb dX4_count_58 (by decide) ?_
        refine lv_icmp_ne (pc := 60) (tgt := 70) hx hb dX4_count_60 (by decide) (fun c_4 => ?_) (fun c_4 => ?_)
        · skip
          have c_4 : ¬ (15 = 15) := fun h9 => c_4 ((nI_eq (a := 15) (b := 15) (by omega) (by omega)).mpr h9)
          exact absurd c_4 (by decide)
        · skip
          have c_4 : 15 = 15 := (nI_eq (a := 15) (b := 15) (by omega) (by omega)).mp c_4
          refine lv_aload_n (pc := 63) hx hb dX4_count_63 rfl (lv_at hl 0 rfl) ?_
          refine b_cR (pc := 64) (va_runV (As := []) (rest := []) ⟨hx, hb, hml, hown, hts⟩ (c_X4_underWay l D cI cC cZ cG md a kp hs hn sl iv tx tl sp nu) (cwV 0 hts gX4_count_X4_underWay rfl rfl rfl hy_X4_underWay ⟨Nat.le_of_ble_eq_true rfl, Nat.le_of_ble_eq_true rfl⟩) (b_pRV (wc := [((md 0), .inr (4, [.ref (md 1), .ref (md 2), .ref (md 3), .int (nI hn), .ref (md 4), .ref (md 5), .ref (md 6), .int (nI tl), .int (nI sp), .int nu])), ((md 1), .inl (cI, 86, .inl a)), ((md 2), .inl (cI, 86, .inl kp)), ((md 3), .inl (cI, 516, .inl hs)), ((md 4), .inl (cI, 172, .inl sl)), ((md 5), .inl (cI, 2, .inl iv)), ((md 6), .inl (cI, 60, .inl tx))]) hK hP [0, 1, 2, 3, 4, 5, 6] rfl (ci := 4) (q0 := 0) rfl rfl) rfl rfl hl.1 rfl (lv_room (Nat.le_of_ble_eq_true rfl)) dX4_count_64 ⟨Nat.zero_le _, Nat.zero_le _⟩) ?_
          refine lv_goto (pc := 67) (tgt := 98) hx hb dX4_count_67 (by decide) ?_
          subst hQ
          exact b_retR hx hb hr hlocks (rfl) dX4_count_98
      · skip
        have c_3 : 15 = 14 := (nI_eq (a := 15) (b := 14) (by omega) (by omega)).mp c_3
        exact absurd c_3 (by decide)
    · skip
      have c_2 : m_in ((nI 15).toInt64) 8 13 := Classical.not_not.mp (fun h9 => c_2 (b_i_0.mpr h9))
      exact absurd c_2 (m_outN (lo := 8) (hi := 13) (by decide) (by decide) (by omega) (by omega) (by omega) (by omega))
  · skip
    have c_1 : m_in ((nI 15).toInt64) 0 7 := Classical.not_not.mp (fun h9 => c_1 (b_i_0.mpr h9))
    exact absurd c_1 (m_outN (lo := 0) (hi := 7) (by decide) (by decide) (by omega) (by omega) (by omega) (by omega))
theorem hw_X4_count_16_0 : (.constantLong RX4 107 (7) : Cond) ∈ wsX4_count := by decide +kernel
theorem hw_X4_count_16_1 : (.constantLong RX4 109 (8) : Cond) ∈ wsX4_count := by decide +kernel
theorem hw_X4_count_16_2 : (.constantLong RX4 111 (13) : Cond) ∈ wsX4_count := by decide +kernel
theorem hw_X4_count_16_3 : (.fieldLink RX4 119 "BeamTurnstilesModel" "textLong" "I" : Cond) ∈ wsX4_count := by decide +kernel
theorem hi_X4_count_16_X4 : ∀ w ∈ wsX40, w ∈ wsX4_count := by decide +kernel
set_option maxHeartbeats 4000000 in
set_option maxRecDepth 100000 in
theorem c_X4_count_16 (l : Launch) (D : va_G) (cI cC cZ cG : ClassId) (md : Nat → Nat) (a : Nat → Int32) (kp : Nat → Int32) (hs : Nat → Int32) (hn : Nat) (sl : Nat → Int32) (iv : Nat → Int32) (tx : Nat → Int32) (tl : Nat) (sp : Nat) (nu : Int32) : Met l yX4_count wsX4_count ({ frames := 1, cells := 0, slots := 0, locals := 25 } : Room) (b_R D (b_T cI cC cZ cG) [((md 0), .inr (4, [.ref (md 1), .ref (md 2), .ref (md 3), .int (nI hn), .ref (md 4), .ref (md 5), .ref (md 6), .int (nI tl), .int (nI sp), .int nu])), ((md 1), .inl (cI, 86, .inl a)), ((md 2), .inl (cI, 86, .inl kp)), ((md 3), .inl (cI, 516, .inl hs)), ((md 4), .inl (cI, 172, .inl sl)), ((md 5), .inl (cI, 2, .inl iv)), ((md 6), .inl (cI, 60, .inl tx))] [.ref (md 0), .int (nI 16)]) (vp_Si (fun r => r = nI tl)) 0 0 (fun _ => False) := by
  refine b_enterR (cc := cX4_count) (maxL := 2) (ret := (some .int)) (by decide) rfl (Nat.le_of_ble_eq_true rfl) ?_
  intro p e s m below meth c ls hx hb hr hml hown hts hlocks hP hK hl Q hQ
  have hown : s.vm.findClass RX4 = some m.cls := hown
  have hl : lv_has ls 2 [(0, .ref (md 0)), (1, .int (nI 16))] := hl
  refine lv_iload_n (pc := 0) hx hb dX4_count_0 rfl (lv_at hl 1 rfl) ?_
  refine lv_i2l (pc := 1) hx hb dX4_count_1 rfl ?_
  refine lv_lconst (pc := 2) (v := 0) hx hb dX4_count_2 (by decide) ?_
  refine lv_ldc2 (pc := 3) hx hb hown (hts _ hw_X4_count_16_0) dX4_count_3 ?_
  refine b_cR (pc := 6) (va_runS (As := [.long ((nI 16).toInt64), .long 0, .long 7]) (rest := []) ⟨hx, hb, hml, hown, hts⟩ (c_X4_in l D cI cC cZ cG ((nI 16).toInt64) 0 7) (va_cwS 3 hts gX4_count_X4_in rfl rfl rfl hyS_X4_in ⟨Nat.le_of_ble_eq_true rfl, Nat.le_of_ble_eq_true rfl⟩) (b_pRS (wc := []) hK hP [] rfl) rfl rfl hl.1 rfl (lv_room (Nat.le_of_ble_eq_true rfl)) dX4_count_6 ⟨Nat.zero_le _, Nat.zero_le _⟩) ?_
  refine lv_if_eq (pc := 9) (tgt := 19) hx hb dX4_count_9 (by decide) (fun c_1 => ?_) (fun c_1 => ?_)
  · skip
    have c_1 : ¬ (m_in ((nI 16).toInt64) 0 7) := b_i_0.mp c_1
    refine lv_iload_n (pc := 19) hx hb dX4_count_19 rfl (lv_at hl 1 rfl) ?_
    refine lv_i2l (pc := 20) hx hb dX4_count_20 rfl ?_
    refine lv_ldc2 (pc := 21) hx hb hown (hts _ hw_X4_count_16_1) dX4_count_21 ?_
    refine lv_ldc2 (pc := 24) hx hb hown (hts _ hw_X4_count_16_2) dX4_count_24 ?_
    refine b_cR (pc := 27) (va_runS (As := [.long ((nI 16).toInt64), .long 8, .long 13]) (rest := []) ⟨hx, hb, hml, hown, hts⟩ (c_X4_in l D cI cC cZ cG ((nI 16).toInt64) 8 13) (va_cwS 3 hts gX4_count_X4_in rfl rfl rfl hyS_X4_in ⟨Nat.le_of_ble_eq_true rfl, Nat.le_of_ble_eq_true rfl⟩) (b_pRS (wc := []) hK hP [] rfl) rfl rfl hl.1 rfl (lv_room (Nat.le_of_ble_eq_true rfl)) dX4_count_27 ⟨Nat.zero_le _, Nat.zero_le _⟩) ?_
    refine lv_if_eq (pc := 30) (tgt := 44) hx hb dX4_count_30 (by decide) (fun c_2 => ?_) (fun c_2 => ?_)
    · skip
      have c_2 : ¬ (m_in ((nI 16).toInt64) 8 13) := b_i_0.mp c_2
      refine lv_iload_n (pc := 44) hx hb dX4_count_44 rfl (lv_at hl 1 rfl) ?_
      refine lv_bipush (pc := 45) (v := 14) hx hb dX4_count_45 (by decide) ?_
      refine lv_icmp_ne (pc := 47) (tgt := 57) hx hb dX4_count_47 (by decide) (fun c_3 => ?_) (fun c_3 => ?_)
      · skip
        have c_3 : ¬ (16 = 14) := fun h9 => c_3 ((nI_eq (a := 16) (b := 14) (by omega) (by omega)).mpr h9)
        refine lv_iload_n (pc := 57) hx hb dX4_count_57 rfl (lv_at hl 1 rfl) ?_
        refine lv_bipush (pc := 58) (v := 15) hx hb dX4_count_58 (by decide) ?_
        refine lv_icmp_ne (pc := 60) (tgt := 70) hx hb dX4_count_60 (by decide) (fun c_4 => ?_) (fun c_4 => ?_)
        · skip
          have c_4 : ¬ (16 = 15) := fun h9 => c_4 ((nI_eq (a := 16) (b := 15) (by omega) (by omega)).mpr h9)
          refine lv_iload_n (pc := 70) hx hb dX4_count_70 rfl (lv_at hl 1 rfl) ?_
          refine lv_bipush (pc := 71) (v := 16) hx hb dX4_count_71 (by decide) ?_
          refine lv_icmp_ne (pc := 73) (tgt := 83) hx hb dX4_count_73 (by decide) (fun c_5 => ?_) (fun c_5 => ?_)
          · skip
            have c_5 : ¬ (16 = 16) := fun h9 => c_5 ((nI_eq (a := 16) (b := 16) (by omega) (by omega)).mpr h9)
            exact absurd c_5 (by decide)
          · skip
            have c_5 : 16 = 16 := (nI_eq (a := 16) (b := 16) (by omega) (by omega)).mp c_5
            refine lv_aload_n (pc := 76) hx hb dX4_count_76 rfl (lv_at hl 0 rfl) ?_
            refine va_get (pc := 77) (D := D) (ci := 4) (v := .int (nI tl)) (C := RX4) (T := TX4) (N := 10) hx hb hts hi_X4_count_16_X4 hown hK hP 0 rfl rfl 7 (by decide) (hts _ hw_X4_count_16_3) (fun _ h9 => h9) rfl dX4_count_77 ?_
            refine lv_goto (pc := 80) (tgt := 98) hx hb dX4_count_80 (by decide) ?_
            subst hQ
            exact b_retR hx hb hr hlocks (rfl) dX4_count_98
        · skip
          have c_4 : 16 = 15 := (nI_eq (a := 16) (b := 15) (by omega) (by omega)).mp c_4
          exact absurd c_4 (by decide)
      · skip
        have c_3 : 16 = 14 := (nI_eq (a := 16) (b := 14) (by omega) (by omega)).mp c_3
        exact absurd c_3 (by decide)
    · skip
      have c_2 : m_in ((nI 16).toInt64) 8 13 := Classical.not_not.mp (fun h9 => c_2 (b_i_0.mpr h9))
      exact absurd c_2 (m_outN (lo := 8) (hi := 13) (by decide) (by decide) (by omega) (by omega) (by omega) (by omega))
  · skip
    have c_1 : m_in ((nI 16).toInt64) 0 7 := Classical.not_not.mp (fun h9 => c_1 (b_i_0.mpr h9))
    exact absurd c_1 (m_outN (lo := 0) (hi := 7) (by decide) (by decide) (by omega) (by omega) (by omega) (by omega))
theorem hw_X4_count_17_0 : (.constantLong RX4 107 (7) : Cond) ∈ wsX4_count := by decide +kernel
theorem hw_X4_count_17_1 : (.constantLong RX4 109 (8) : Cond) ∈ wsX4_count := by decide +kernel
theorem hw_X4_count_17_2 : (.constantLong RX4 111 (13) : Cond) ∈ wsX4_count := by decide +kernel
theorem hw_X4_count_17_3 : (.fieldLink RX4 32 "BeamTurnstilesModel" "historyLong" "I" : Cond) ∈ wsX4_count := by decide +kernel
theorem hi_X4_count_17_X4 : ∀ w ∈ wsX40, w ∈ wsX4_count := by decide +kernel
set_option maxHeartbeats 4000000 in
set_option maxRecDepth 100000 in
theorem c_X4_count_17 (l : Launch) (D : va_G) (cI cC cZ cG : ClassId) (md : Nat → Nat) (a : Nat → Int32) (kp : Nat → Int32) (hs : Nat → Int32) (hn : Nat) (sl : Nat → Int32) (iv : Nat → Int32) (tx : Nat → Int32) (tl : Nat) (sp : Nat) (nu : Int32) : Met l yX4_count wsX4_count ({ frames := 1, cells := 0, slots := 0, locals := 25 } : Room) (b_R D (b_T cI cC cZ cG) [((md 0), .inr (4, [.ref (md 1), .ref (md 2), .ref (md 3), .int (nI hn), .ref (md 4), .ref (md 5), .ref (md 6), .int (nI tl), .int (nI sp), .int nu])), ((md 1), .inl (cI, 86, .inl a)), ((md 2), .inl (cI, 86, .inl kp)), ((md 3), .inl (cI, 516, .inl hs)), ((md 4), .inl (cI, 172, .inl sl)), ((md 5), .inl (cI, 2, .inl iv)), ((md 6), .inl (cI, 60, .inl tx))] [.ref (md 0), .int (nI 17)]) (vp_Si (fun r => r = nI hn)) 0 0 (fun _ => False) := by
  refine b_enterR (cc := cX4_count) (maxL := 2) (ret := (some .int)) (by decide) rfl (Nat.le_of_ble_eq_true rfl) ?_
  intro p e s m below meth c ls hx hb hr hml hown hts hlocks hP hK hl Q hQ
  have hown : s.vm.findClass RX4 = some m.cls := hown
  have hl : lv_has ls 2 [(0, .ref (md 0)), (1, .int (nI 17))] := hl
  refine lv_iload_n (pc := 0) hx hb dX4_count_0 rfl (lv_at hl 1 rfl) ?_
  refine lv_i2l (pc := 1) hx hb dX4_count_1 rfl ?_
  refine lv_lconst (pc := 2) (v := 0) hx hb dX4_count_2 (by decide) ?_
  refine lv_ldc2 (pc := 3) hx hb hown (hts _ hw_X4_count_17_0) dX4_count_3 ?_
  refine b_cR (pc := 6) (va_runS (As := [.long ((nI 17).toInt64), .long 0, .long 7]) (rest := []) ⟨hx, hb, hml, hown, hts⟩ (c_X4_in l D cI cC cZ cG ((nI 17).toInt64) 0 7) (va_cwS 3 hts gX4_count_X4_in rfl rfl rfl hyS_X4_in ⟨Nat.le_of_ble_eq_true rfl, Nat.le_of_ble_eq_true rfl⟩) (b_pRS (wc := []) hK hP [] rfl) rfl rfl hl.1 rfl (lv_room (Nat.le_of_ble_eq_true rfl)) dX4_count_6 ⟨Nat.zero_le _, Nat.zero_le _⟩) ?_
  refine lv_if_eq (pc := 9) (tgt := 19) hx hb dX4_count_9 (by decide) (fun c_1 => ?_) (fun c_1 => ?_)
  · skip
    have c_1 : ¬ (m_in ((nI 17).toInt64) 0 7) := b_i_0.mp c_1
    refine lv_iload_n (pc := 19) hx hb dX4_count_19 rfl (lv_at hl 1 rfl) ?_
    refine lv_i2l (pc := 20) hx hb dX4_count_20 rfl ?_
    refine lv_ldc2 (pc := 21) hx hb hown (hts _ hw_X4_count_17_1) dX4_count_21 ?_
    refine lv_ldc2 (pc := 24) hx hb hown (hts _ hw_X4_count_17_2) dX4_count_24 ?_
    refine b_cR (pc := 27) (va_runS (As := [.long ((nI 17).toInt64), .long 8, .long 13]) (rest := []) ⟨hx, hb, hml, hown, hts⟩ (c_X4_in l D cI cC cZ cG ((nI 17).toInt64) 8 13) (va_cwS 3 hts gX4_count_X4_in rfl rfl rfl hyS_X4_in ⟨Nat.le_of_ble_eq_true rfl, Nat.le_of_ble_eq_true rfl⟩) (b_pRS (wc := []) hK hP [] rfl) rfl rfl hl.1 rfl (lv_room (Nat.le_of_ble_eq_true rfl)) dX4_count_27 ⟨Nat.zero_le _, Nat.zero_le _⟩) ?_
    refine lv_if_eq (pc := 30) (tgt := 44) hx hb dX4_count_30 (by decide) (fun c_2 => ?_) (fun c_2 => ?_)
    · skip
      have c_2 : ¬ (m_in ((nI 17).toInt64) 8 13) := b_i_0.mp c_2
      refine lv_iload_n (pc := 44) hx hb dX4_count_44 rfl (lv_at hl 1 rfl) ?_
      refine lv_bipush (pc := 45) (v := 14) hx hb dX4_count_45 (by decide) ?_
      refine lv_icmp_ne (pc := 47) (tgt := 57) hx hb dX4_count_47 (by decide) (fun c_3 => ?_) (fun c_3 => ?_)
      · skip
        have c_3 : ¬ (17 = 14) := fun h9 => c_3 ((nI_eq (a := 17) (b := 14) (by omega) (by omega)).mpr h9)
        refine lv_iload_n (pc := 57) hx hb dX4_count_57 rfl (lv_at hl 1 rfl) ?_
        refine lv_bipush (pc := 58) (v := 15) hx hb dX4_count_58 (by decide) ?_
        refine lv_icmp_ne (pc := 60) (tgt := 70) hx hb dX4_count_60 (by decide) (fun c_4 => ?_) (fun c_4 => ?_)
        · skip
          have c_4 : ¬ (17 = 15) := fun h9 => c_4 ((nI_eq (a := 17) (b := 15) (by omega) (by omega)).mpr h9)
          refine lv_iload_n (pc := 70) hx hb dX4_count_70 rfl (lv_at hl 1 rfl) ?_
          refine lv_bipush (pc := 71) (v := 16) hx hb dX4_count_71 (by decide) ?_
          refine lv_icmp_ne (pc := 73) (tgt := 83) hx hb dX4_count_73 (by decide) (fun c_5 => ?_) (fun c_5 => ?_)
          · skip
            have c_5 : ¬ (17 = 16) := fun h9 => c_5 ((nI_eq (a := 17) (b := 16) (by omega) (by omega)).mpr h9)
            refine lv_iload_n (pc := 83) hx hb dX4_count_83 rfl (lv_at hl 1 rfl) ?_
            refine lv_bipush (pc := 84) (v := 17) hx hb dX4_count_84 (by decide) ?_
            refine lv_icmp_ne (pc := 86) (tgt := 96) hx hb dX4_count_86 (by decide) (fun c_6 => ?_) (fun c_6 => ?_)
            · skip
              have c_6 : ¬ (17 = 17) := fun h9 => c_6 ((nI_eq (a := 17) (b := 17) (by omega) (by omega)).mpr h9)
              exact absurd c_6 (by decide)
            · skip
              have c_6 : 17 = 17 := (nI_eq (a := 17) (b := 17) (by omega) (by omega)).mp c_6
              refine lv_aload_n (pc := 89) hx hb dX4_count_89 rfl (lv_at hl 0 rfl) ?_
              refine va_get (pc := 90) (D := D) (ci := 4) (v := .int (nI hn)) (C := RX4) (T := TX4) (N := 10) hx hb hts hi_X4_count_17_X4 hown hK hP 0 rfl rfl 3 (by decide) (hts _ hw_X4_count_17_3) (fun _ h9 => h9) rfl dX4_count_90 ?_
              refine lv_goto (pc := 93) (tgt := 98) hx hb dX4_count_93 (by decide) ?_
              subst hQ
              exact b_retR hx hb hr hlocks (rfl) dX4_count_98
          · skip
            have c_5 : 17 = 16 := (nI_eq (a := 17) (b := 16) (by omega) (by omega)).mp c_5
            exact absurd c_5 (by decide)
        · skip
          have c_4 : 17 = 15 := (nI_eq (a := 17) (b := 15) (by omega) (by omega)).mp c_4
          exact absurd c_4 (by decide)
      · skip
        have c_3 : 17 = 14 := (nI_eq (a := 17) (b := 14) (by omega) (by omega)).mp c_3
        exact absurd c_3 (by decide)
    · skip
      have c_2 : m_in ((nI 17).toInt64) 8 13 := Classical.not_not.mp (fun h9 => c_2 (b_i_0.mpr h9))
      exact absurd c_2 (m_outN (lo := 8) (hi := 13) (by decide) (by decide) (by omega) (by omega) (by omega) (by omega))
  · skip
    have c_1 : m_in ((nI 17).toInt64) 0 7 := Classical.not_not.mp (fun h9 => c_1 (b_i_0.mpr h9))
    exact absurd c_1 (m_outN (lo := 0) (hi := 7) (by decide) (by decide) (by omega) (by omega) (by omega) (by omega))
set_option maxHeartbeats 4000000 in
set_option maxRecDepth 100000 in
theorem c_X4_mean_ng (l : Launch) (D : va_G) (cI cC cZ cG : ClassId) (md : Nat → Nat) (a : Nat → Int32) (kp : Nat → Int32) (hs : Nat → Int32) (hn : Nat) (sl : Nat → Int32) (iv : Nat → Int32) (tx : Nat → Int32) (tl : Nat) (sp : Nat) (nu : Int32) (x : Int32) (hbad : p_ng x) : Met l yX4_mean wsX4_mean ({ frames := 2, cells := 0, slots := 0, locals := 45 } : Room) (b_R D (b_T cI cC cZ cG) [((md 0), .inr (4, [.ref (md 1), .ref (md 2), .ref (md 3), .int (nI hn), .ref (md 4), .ref (md 5), .ref (md 6), .int (nI tl), .int (nI sp), .int nu])), ((md 1), .inl (cI, 86, .inl a)), ((md 2), .inl (cI, 86, .inl kp)), ((md 3), .inl (cI, 516, .inl hs)), ((md 4), .inl (cI, 172, .inl sl)), ((md 5), .inl (cI, 2, .inl iv)), ((md 6), .inl (cI, 60, .inl tx))] [.ref (md 0), .int x]) (vp_Si (fun r => r = -1)) 0 0 (fun _ => False) := by
  refine b_enterR (cc := cX4_mean) (maxL := 2) (ret := (some .int)) (by decide) rfl (Nat.le_of_ble_eq_true rfl) ?_
  intro p e s m below meth c ls hx hb hr hml hown hts hlocks hP hK hl Q hQ
  have hown : s.vm.findClass RX4 = some m.cls := hown
  have hl : lv_has ls 2 [(0, .ref (md 0)), (1, .int x)] := hl
  refine lv_iload_n (pc := 0) hx hb dX4_mean_0 rfl (lv_at hl 1 rfl) ?_
  refine b_cR (pc := 1) (va_runS (As := [.int x]) (rest := []) ⟨hx, hb, hml, hown, hts⟩ (c_X4_isGate l D cI cC cZ cG x) (va_cwS 1 hts gX4_mean_X4_isGate rfl rfl rfl hyS_X4_isGate ⟨Nat.le_of_ble_eq_true rfl, Nat.le_of_ble_eq_true rfl⟩) (b_pRS (wc := []) hK hP [] rfl) rfl rfl hl.1 rfl (lv_room (Nat.le_of_ble_eq_true rfl)) dX4_mean_1 ⟨Nat.zero_le _, Nat.zero_le _⟩) ?_
  refine lv_if_ne (pc := 4) (tgt := 11) hx hb dX4_mean_4 (by decide) (fun c_1 => ?_) (fun c_1 => ?_)
  · skip
    have c_1 : m_in x.toInt64 0 5 := Classical.not_not.mp (fun h9 => c_1 (b_i_0.mpr h9))
    exact absurd c_1 (m_ng hbad)
  · skip
    have c_1 : ¬ (m_in x.toInt64 0 5) := b_i_0.mp c_1
    refine lv_iconst (pc := 7) (v := (-1)) hx hb dX4_mean_7 (by decide) ?_
    refine lv_goto (pc := 8) (tgt := 37) hx hb dX4_mean_8 (by decide) ?_
    subst hQ
    exact b_retR hx hb hr hlocks (rfl) dX4_mean_37
set_option maxHeartbeats 4000000 in
set_option maxRecDepth 100000 in
theorem c_X4_mean_ok (l : Launch) (D : va_G) (cI cC cZ cG : ClassId) (md : Nat → Nat) (a : Nat → Int32) (kp : Nat → Int32) (hs : Nat → Int32) (hn : Nat) (sl : Nat → Int32) (iv : Nat → Int32) (tx : Nat → Int32) (tl : Nat) (sp : Nat) (nu : Int32) (g : Nat) (hg : g < 6) : Met l yX4_mean wsX4_mean ({ frames := 2, cells := 0, slots := 0, locals := 45 } : Room) (b_R D (b_T cI cC cZ cG) [((md 0), .inr (4, [.ref (md 1), .ref (md 2), .ref (md 3), .int (nI hn), .ref (md 4), .ref (md 5), .ref (md 6), .int (nI tl), .int (nI sp), .int nu])), ((md 1), .inl (cI, 86, .inl a)), ((md 2), .inl (cI, 86, .inl kp)), ((md 3), .inl (cI, 516, .inl hs)), ((md 4), .inl (cI, 172, .inl sl)), ((md 5), .inl (cI, 2, .inl iv)), ((md 6), .inl (cI, 60, .inl tx))] [.ref (md 0), .int (nI g)]) (vp_Si (fun r => r = m_mean a g)) 0 0 (fun _ => False) := by
  refine b_enterR (cc := cX4_mean) (maxL := 2) (ret := (some .int)) (by decide) rfl (Nat.le_of_ble_eq_true rfl) ?_
  intro p e s m below meth c ls hx hb hr hml hown hts hlocks hP hK hl Q hQ
  have hown : s.vm.findClass RX4 = some m.cls := hown
  have hl : lv_has ls 2 [(0, .ref (md 0)), (1, .int (nI g))] := hl
  refine lv_iload_n (pc := 0) hx hb dX4_mean_0 rfl (lv_at hl 1 rfl) ?_
  refine b_cR (pc := 1) (va_runS (As := [.int (nI g)]) (rest := []) ⟨hx, hb, hml, hown, hts⟩ (c_X4_isGate l D cI cC cZ cG (nI g)) (va_cwS 1 hts gX4_mean_X4_isGate rfl rfl rfl hyS_X4_isGate ⟨Nat.le_of_ble_eq_true rfl, Nat.le_of_ble_eq_true rfl⟩) (b_pRS (wc := []) hK hP [] rfl) rfl rfl hl.1 rfl (lv_room (Nat.le_of_ble_eq_true rfl)) dX4_mean_1 ⟨Nat.zero_le _, Nat.zero_le _⟩) ?_
  refine lv_if_ne (pc := 4) (tgt := 11) hx hb dX4_mean_4 (by decide) (fun c_1 => ?_) (fun c_1 => ?_)
  · skip
    have c_1 : m_in (nI g).toInt64 0 5 := Classical.not_not.mp (fun h9 => c_1 (b_i_0.mpr h9))
    refine lv_aload_n (pc := 11) hx hb dX4_mean_11 rfl (lv_at hl 0 rfl) ?_
    refine lv_iload_n (pc := 12) hx hb dX4_mean_12 rfl (lv_at hl 1 rfl) ?_
    refine b_cR (pc := 13) (va_runV (As := [.int (nI g)]) (rest := []) ⟨hx, hb, hml, hown, hts⟩ (c_X4_through l D cI cC cZ cG md a kp hs hn sl iv tx tl sp nu g (by first | omega | assumption)) (cwV 1 hts gX4_mean_X4_through rfl rfl rfl hy_X4_through ⟨Nat.le_of_ble_eq_true rfl, Nat.le_of_ble_eq_true rfl⟩) (b_pRV (wc := [((md 0), .inr (4, [.ref (md 1), .ref (md 2), .ref (md 3), .int (nI hn), .ref (md 4), .ref (md 5), .ref (md 6), .int (nI tl), .int (nI sp), .int nu])), ((md 1), .inl (cI, 86, .inl a)), ((md 2), .inl (cI, 86, .inl kp)), ((md 3), .inl (cI, 516, .inl hs)), ((md 4), .inl (cI, 172, .inl sl)), ((md 5), .inl (cI, 2, .inl iv)), ((md 6), .inl (cI, 60, .inl tx))]) hK hP [0, 1, 2, 3, 4, 5, 6] rfl (ci := 4) (q0 := 0) rfl rfl) rfl rfl hl.1 rfl (lv_room (Nat.le_of_ble_eq_true rfl)) dX4_mean_13 ⟨Nat.zero_le _, Nat.zero_le _⟩) ?_
    refine lv_if_ne (pc := 16) (tgt := 24) hx hb dX4_mean_16 (by decide) (fun c_2 => ?_) (fun c_2 => ?_)
    · skip
      have c_2 : ¬ ((m_thr a g) = 0) := c_2
      refine lv_aload_n (pc := 24) hx hb dX4_mean_24 rfl (lv_at hl 0 rfl) ?_
      refine lv_iload_n (pc := 25) hx hb dX4_mean_25 rfl (lv_at hl 1 rfl) ?_
      refine lv_bipush (pc := 26) (v := 10) hx hb dX4_mean_26 (by decide) ?_
      refine b_cR (pc := 28) (va_runV (As := [.int (nI g), .int 10]) (rest := []) ⟨hx, hb, hml, hown, hts⟩ (c_X4_get l D cI cC cZ cG md a kp hs hn sl iv tx tl sp nu g 10 (by first | omega | assumption) (by first | omega | assumption)) (cwV 2 hts gX4_mean_X4_get rfl rfl rfl hy_X4_get ⟨Nat.le_of_ble_eq_true rfl, Nat.le_of_ble_eq_true rfl⟩) (b_pRV (wc := [((md 0), .inr (4, [.ref (md 1), .ref (md 2), .ref (md 3), .int (nI hn), .ref (md 4), .ref (md 5), .ref (md 6), .int (nI tl), .int (nI sp), .int nu])), ((md 1), .inl (cI, 86, .inl a)), ((md 2), .inl (cI, 86, .inl kp)), ((md 3), .inl (cI, 516, .inl hs)), ((md 4), .inl (cI, 172, .inl sl)), ((md 5), .inl (cI, 2, .inl iv)), ((md 6), .inl (cI, 60, .inl tx))]) hK hP [0, 1, 2, 3, 4, 5, 6] rfl (ci := 4) (q0 := 0) rfl rfl) rfl rfl hl.1 rfl (lv_room (Nat.le_of_ble_eq_true rfl)) dX4_mean_28 ⟨Nat.zero_le _, Nat.zero_le _⟩) ?_
      refine lv_aload_n (pc := 31) hx hb dX4_mean_31 rfl (lv_at hl 0 rfl) ?_
      refine lv_iload_n (pc := 32) hx hb dX4_mean_32 rfl (lv_at hl 1 rfl) ?_
      refine b_cR (pc := 33) (va_runV (As := [.int (nI g)]) (rest := [.int (a (8 + 13 * g + 10))]) ⟨hx, hb, hml, hown, hts⟩ (c_X4_through l D cI cC cZ cG md a kp hs hn sl iv tx tl sp nu g (by first | omega | assumption)) (cwV 1 hts gX4_mean_X4_through rfl rfl rfl hy_X4_through ⟨Nat.le_of_ble_eq_true rfl, Nat.le_of_ble_eq_true rfl⟩) (b_pRV (wc := [((md 0), .inr (4, [.ref (md 1), .ref (md 2), .ref (md 3), .int (nI hn), .ref (md 4), .ref (md 5), .ref (md 6), .int (nI tl), .int (nI sp), .int nu])), ((md 1), .inl (cI, 86, .inl a)), ((md 2), .inl (cI, 86, .inl kp)), ((md 3), .inl (cI, 516, .inl hs)), ((md 4), .inl (cI, 172, .inl sl)), ((md 5), .inl (cI, 2, .inl iv)), ((md 6), .inl (cI, 60, .inl tx))]) hK hP [0, 1, 2, 3, 4, 5, 6] rfl (ci := 4) (q0 := 0) rfl rfl) rfl rfl hl.1 rfl (lv_room (Nat.le_of_ble_eq_true rfl)) dX4_mean_33 ⟨Nat.zero_le _, Nat.zero_le _⟩) ?_
      refine lv_idiv (pc := 36) hx hb dX4_mean_36 (by assumption) ?_
      subst hQ
      exact b_retR hx hb hr hlocks (by simp only [m_mean, if_neg c_2]) dX4_mean_37
    · skip
      have c_2 : (m_thr a g) = 0 := c_2
      refine lv_bipush (pc := 19) (v := (-6)) hx hb dX4_mean_19 (by decide) ?_
      refine lv_goto (pc := 21) (tgt := 37) hx hb dX4_mean_21 (by decide) ?_
      subst hQ
      exact b_retR hx hb hr hlocks (by simp only [m_mean, if_pos c_2]) dX4_mean_37
  · skip
    have c_1 : ¬ (m_in (nI g).toInt64 0 5) := b_i_0.mp c_1
    exact absurd (m_gk hg) c_1
set_option maxHeartbeats 4000000 in
set_option maxRecDepth 100000 in
theorem c_X4_busiest (l : Launch) (D : va_G) (cI cC cZ cG : ClassId) (md : Nat → Nat) (a : Nat → Int32) (kp : Nat → Int32) (hs : Nat → Int32) (hn : Nat) (sl : Nat → Int32) (iv : Nat → Int32) (tx : Nat → Int32) (tl : Nat) (sp : Nat) (nu : Int32) : Met l yX4_busiest wsX4_busiest ({ frames := 2, cells := 0, slots := 0, locals := 43 } : Room) (b_R D (b_T cI cC cZ cG) [((md 0), .inr (4, [.ref (md 1), .ref (md 2), .ref (md 3), .int (nI hn), .ref (md 4), .ref (md 5), .ref (md 6), .int (nI tl), .int (nI sp), .int nu])), ((md 1), .inl (cI, 86, .inl a)), ((md 2), .inl (cI, 86, .inl kp)), ((md 3), .inl (cI, 516, .inl hs)), ((md 4), .inl (cI, 172, .inl sl)), ((md 5), .inl (cI, 2, .inl iv)), ((md 6), .inl (cI, 60, .inl tx))] [.ref (md 0)]) (vp_Si (fun r => r = (m_bus2 a 6).1)) 0 0 (fun _ => False) := by
  refine b_enterR (cc := cX4_busiest) (maxL := 4) (ret := (some .int)) (by decide) rfl (Nat.le_of_ble_eq_true rfl) ?_
  intro p e s m below meth c ls hx hb hr hml hown hts hlocks hP hK hl Q hQ
  have hown : s.vm.findClass RX4 = some m.cls := hown
  have hl : lv_has ls 4 [(0, .ref (md 0))] := hl
  refine lv_bipush (pc := 0) (v := (-6)) hx hb dX4_busiest_0 (by decide) ?_
  refine lv_istore_n (pc := 2) (lv' := [(1, .int (-6)), (0, .ref (md 0))]) hx hb dX4_busiest_2 rfl hl (by decide) rfl (fun ls hl => ?_)
  refine lv_iconst (pc := 3) (v := 0) hx hb dX4_busiest_3 (by decide) ?_
  refine lv_istore_n (pc := 4) (lv' := [(2, .int 0), (1, .int (-6)), (0, .ref (md 0))]) hx hb dX4_busiest_4 rfl hl (by decide) rfl (fun ls hl => ?_)
  refine lv_iconst (pc := 5) (v := 0) hx hb dX4_busiest_5 (by decide) ?_
  refine lv_istore_n (pc := 6) (lv' := [(3, .int 0), (2, .int 0), (1, .int (-6)), (0, .ref (md 0))]) hx hb dX4_busiest_6 rfl hl (by decide) rfl (fun ls hl => ?_)
  have loop_7 : ∀ (fu : Nat) (i : Nat) (b1 : Int32) (b2 : Int32), (i ≤ 6) → (b1 = (m_bus2 a i).1) → (b2 = (m_bus2 a i).2) → 6 - i < fu → ∀ (ls : Array Slot), lv_has ls 4 [(3, .int (nI i)), (2, .int b2), (1, .int b1), (0, .ref (md 0))] → W p l e ({ frames := 2, cells := 0, slots := 0, locals := 43 } : Room) s m ([.ref (md 0)] : List Value).toArray below meth c s.heap [] 0 0 Q (F0 m 7 ls []) := by
    intro fu
    induction fu with
    | zero => intro i b1 b2 hi hb1 hb2 hfu ls hl; exact absurd hfu (Nat.not_lt_zero _)
    | succ fu ih_7 =>
      intro i b1 b2 hi hb1 hb2 hfu ls hl
      refine lv_iload_n (pc := 7) hx hb dX4_busiest_7 rfl (lv_at hl 0 rfl) ?_
      refine lv_bipush (pc := 8) (v := 6) hx hb dX4_busiest_8 (by decide) ?_
      refine lv_icmp_ge (pc := 10) (tgt := 53) hx hb dX4_busiest_10 (by decide) (fun c_1 => ?_) (fun c_1 => ?_)
      · skip
        have c_1 : 6 ≤ i := (nI_leI (a := 6) (b := i) (by omega) (by omega)).mp c_1
        refine lv_iload_n (pc := 53) hx hb dX4_busiest_53 rfl (lv_at hl 2 rfl) ?_
        subst hQ
        exact b_retR hx hb hr hlocks (by have e9 : i = 6 := (by omega); rw [hb1, e9]) dX4_busiest_54
      · skip
        have c_1 : ¬ (6 ≤ i) := fun h9 => c_1 ((nI_leI (a := 6) (b := i) (by omega) (by omega)).mpr h9)
        refine lv_aload_n (pc := 13) hx hb dX4_busiest_13 rfl (lv_at hl 3 rfl) ?_
        refine lv_iload_n (pc := 14) hx hb dX4_busiest_14 rfl (lv_at hl 0 rfl) ?_
        refine b_cR (pc := 15) (va_runV (As := [.int (nI i)]) (rest := []) ⟨hx, hb, hml, hown, hts⟩ (c_X4_through l D cI cC cZ cG md a kp hs hn sl iv tx tl sp nu i (by first | omega | assumption)) (cwV 1 hts gX4_busiest_X4_through rfl rfl rfl hy_X4_through ⟨Nat.le_of_ble_eq_true rfl, Nat.le_of_ble_eq_true rfl⟩) (b_pRV (wc := [((md 0), .inr (4, [.ref (md 1), .ref (md 2), .ref (md 3), .int (nI hn), .ref (md 4), .ref (md 5), .ref (md 6), .int (nI tl), .int (nI sp), .int nu])), ((md 1), .inl (cI, 86, .inl a)), ((md 2), .inl (cI, 86, .inl kp)), ((md 3), .inl (cI, 516, .inl hs)), ((md 4), .inl (cI, 172, .inl sl)), ((md 5), .inl (cI, 2, .inl iv)), ((md 6), .inl (cI, 60, .inl tx))]) hK hP [0, 1, 2, 3, 4, 5, 6] rfl (ci := 4) (q0 := 0) rfl rfl) rfl rfl hl.1 rfl (lv_room (Nat.le_of_ble_eq_true rfl)) dX4_busiest_15 ⟨Nat.zero_le _, Nat.zero_le _⟩) ?_
        refine lv_iload_n (pc := 18) hx hb dX4_busiest_18 rfl (lv_at hl 1 rfl) ?_
        refine lv_icmp_le (pc := 19) (tgt := 26) hx hb dX4_busiest_19 (by decide) (fun c_2 => ?_) (fun c_2 => ?_)
        · skip
          have c_2 : (m_thr a i) ≤ b2 := c_2
          refine lv_iload_n (pc := 26) hx hb dX4_busiest_26 rfl (lv_at hl 2 rfl) ?_
          refine lv_istore_n (pc := 27) (lv' := [(1, .int b1), (3, .int (nI i)), (2, .int b2), (0, .ref (md 0))]) hx hb dX4_busiest_27 rfl hl (by decide) rfl (fun ls hl => ?_)
          refine lv_aload_n (pc := 28) hx hb dX4_busiest_28 rfl (lv_at hl 3 rfl) ?_
          refine lv_iload_n (pc := 29) hx hb dX4_busiest_29 rfl (lv_at hl 1 rfl) ?_
          refine b_cR (pc := 30) (va_runV (As := [.int (nI i)]) (rest := []) ⟨hx, hb, hml, hown, hts⟩ (c_X4_through l D cI cC cZ cG md a kp hs hn sl iv tx tl sp nu i (by first | omega | assumption)) (cwV 1 hts gX4_busiest_X4_through rfl rfl rfl hy_X4_through ⟨Nat.le_of_ble_eq_true rfl, Nat.le_of_ble_eq_true rfl⟩) (b_pRV (wc := [((md 0), .inr (4, [.ref (md 1), .ref (md 2), .ref (md 3), .int (nI hn), .ref (md 4), .ref (md 5), .ref (md 6), .int (nI tl), .int (nI sp), .int nu])), ((md 1), .inl (cI, 86, .inl a)), ((md 2), .inl (cI, 86, .inl kp)), ((md 3), .inl (cI, 516, .inl hs)), ((md 4), .inl (cI, 172, .inl sl)), ((md 5), .inl (cI, 2, .inl iv)), ((md 6), .inl (cI, 60, .inl tx))]) hK hP [0, 1, 2, 3, 4, 5, 6] rfl (ci := 4) (q0 := 0) rfl rfl) rfl rfl hl.1 rfl (lv_room (Nat.le_of_ble_eq_true rfl)) dX4_busiest_30 ⟨Nat.zero_le _, Nat.zero_le _⟩) ?_
          refine lv_iload_n (pc := 33) hx hb dX4_busiest_33 rfl (lv_at hl 2 rfl) ?_
          refine lv_icmp_le (pc := 34) (tgt := 45) hx hb dX4_busiest_34 (by decide) (fun c_3 => ?_) (fun c_3 => ?_)
          · skip
            have c_3 : (m_thr a i) ≤ b2 := c_3
            refine lv_iload_n (pc := 45) hx hb dX4_busiest_45 rfl (lv_at hl 2 rfl) ?_
            refine lv_istore_n (pc := 46) (lv' := [(2, .int b2), (1, .int b1), (3, .int (nI i)), (0, .ref (md 0))]) hx hb dX4_busiest_46 rfl hl (by decide) rfl (fun ls hl => ?_)
            refine lv_iinc (pc := 47) (v := nI (i + 1)) (lv' := [(3, .int (nI (i + 1))), (2, .int b2), (1, .int b1), (0, .ref (md 0))]) hx hb dX4_busiest_47 hl (k := 2) rfl (nI_add i 1) (by decide) rfl (fun ls hl => ?_)
            refine lv_goto (pc := 50) (tgt := 7) hx hb dX4_busiest_50 (by decide) ?_
            exact ih_7 (i + 1) b1 b2 (by omega) (by simp only [m_bus2, hb1, if_pos (hb2 ▸ c_2)]) (by simp only [m_bus2, hb2]; rw [if_pos (hb2 ▸ c_3)]) (by omega) ls (lv_sub hl [0, 1, 2, 3] rfl)
          · skip
            have c_3 : ¬ ((m_thr a i) ≤ b2) := c_3
            refine lv_aload_n (pc := 37) hx hb dX4_busiest_37 rfl (lv_at hl 3 rfl) ?_
            refine lv_iload_n (pc := 38) hx hb dX4_busiest_38 rfl (lv_at hl 1 rfl) ?_
            refine b_cR (pc := 39) (va_runV (As := [.int (nI i)]) (rest := []) ⟨hx, hb, hml, hown, hts⟩ (c_X4_through l D cI cC cZ cG md a kp hs hn sl iv tx tl sp nu i (by first | omega | assumption)) (cwV 1 hts gX4_busiest_X4_through rfl rfl rfl hy_X4_through ⟨Nat.le_of_ble_eq_true rfl, Nat.le_of_ble_eq_true rfl⟩) (b_pRV (wc := [((md 0), .inr (4, [.ref (md 1), .ref (md 2), .ref (md 3), .int (nI hn), .ref (md 4), .ref (md 5), .ref (md 6), .int (nI tl), .int (nI sp), .int nu])), ((md 1), .inl (cI, 86, .inl a)), ((md 2), .inl (cI, 86, .inl kp)), ((md 3), .inl (cI, 516, .inl hs)), ((md 4), .inl (cI, 172, .inl sl)), ((md 5), .inl (cI, 2, .inl iv)), ((md 6), .inl (cI, 60, .inl tx))]) hK hP [0, 1, 2, 3, 4, 5, 6] rfl (ci := 4) (q0 := 0) rfl rfl) rfl rfl hl.1 rfl (lv_room (Nat.le_of_ble_eq_true rfl)) dX4_busiest_39 ⟨Nat.zero_le _, Nat.zero_le _⟩) ?_
            refine lv_goto (pc := 42) (tgt := 46) hx hb dX4_busiest_42 (by decide) ?_
            refine lv_istore_n (pc := 46) (lv' := [(2, .int (m_thr a i)), (1, .int b1), (3, .int (nI i)), (0, .ref (md 0))]) hx hb dX4_busiest_46 rfl hl (by decide) rfl (fun ls hl => ?_)
            refine lv_iinc (pc := 47) (v := nI (i + 1)) (lv' := [(3, .int (nI (i + 1))), (2, .int (m_thr a i)), (1, .int b1), (0, .ref (md 0))]) hx hb dX4_busiest_47 hl (k := 2) rfl (nI_add i 1) (by decide) rfl (fun ls hl => ?_)
            refine lv_goto (pc := 50) (tgt := 7) hx hb dX4_busiest_50 (by decide) ?_
            exact ih_7 (i + 1) b1 (m_thr a i) (by omega) (by simp only [m_bus2, hb1, if_pos (hb2 ▸ c_2)]) (by simp only [m_bus2, hb2]; rw [if_neg (hb2 ▸ c_3)]) (by omega) ls (lv_sub hl [0, 1, 2, 3] rfl)
        · skip
          have c_2 : ¬ ((m_thr a i) ≤ b2) := c_2
          refine lv_iload_n (pc := 22) hx hb dX4_busiest_22 rfl (lv_at hl 0 rfl) ?_
          refine lv_goto (pc := 23) (tgt := 27) hx hb dX4_busiest_23 (by decide) ?_
          refine lv_istore_n (pc := 27) (lv' := [(1, .int (nI i)), (3, .int (nI i)), (2, .int b2), (0, .ref (md 0))]) hx hb dX4_busiest_27 rfl hl (by decide) rfl (fun ls hl => ?_)
          refine lv_aload_n (pc := 28) hx hb dX4_busiest_28 rfl (lv_at hl 3 rfl) ?_
          refine lv_iload_n (pc := 29) hx hb dX4_busiest_29 rfl (lv_at hl 1 rfl) ?_
          refine b_cR (pc := 30) (va_runV (As := [.int (nI i)]) (rest := []) ⟨hx, hb, hml, hown, hts⟩ (c_X4_through l D cI cC cZ cG md a kp hs hn sl iv tx tl sp nu i (by first | omega | assumption)) (cwV 1 hts gX4_busiest_X4_through rfl rfl rfl hy_X4_through ⟨Nat.le_of_ble_eq_true rfl, Nat.le_of_ble_eq_true rfl⟩) (b_pRV (wc := [((md 0), .inr (4, [.ref (md 1), .ref (md 2), .ref (md 3), .int (nI hn), .ref (md 4), .ref (md 5), .ref (md 6), .int (nI tl), .int (nI sp), .int nu])), ((md 1), .inl (cI, 86, .inl a)), ((md 2), .inl (cI, 86, .inl kp)), ((md 3), .inl (cI, 516, .inl hs)), ((md 4), .inl (cI, 172, .inl sl)), ((md 5), .inl (cI, 2, .inl iv)), ((md 6), .inl (cI, 60, .inl tx))]) hK hP [0, 1, 2, 3, 4, 5, 6] rfl (ci := 4) (q0 := 0) rfl rfl) rfl rfl hl.1 rfl (lv_room (Nat.le_of_ble_eq_true rfl)) dX4_busiest_30 ⟨Nat.zero_le _, Nat.zero_le _⟩) ?_
          refine lv_iload_n (pc := 33) hx hb dX4_busiest_33 rfl (lv_at hl 2 rfl) ?_
          refine lv_icmp_le (pc := 34) (tgt := 45) hx hb dX4_busiest_34 (by decide) (fun c_4 => ?_) (fun c_4 => ?_)
          · skip
            have c_4 : (m_thr a i) ≤ b2 := c_4
            refine lv_iload_n (pc := 45) hx hb dX4_busiest_45 rfl (lv_at hl 2 rfl) ?_
            refine lv_istore_n (pc := 46) (lv' := [(2, .int b2), (1, .int (nI i)), (3, .int (nI i)), (0, .ref (md 0))]) hx hb dX4_busiest_46 rfl hl (by decide) rfl (fun ls hl => ?_)
            refine lv_iinc (pc := 47) (v := nI (i + 1)) (lv' := [(3, .int (nI (i + 1))), (2, .int b2), (1, .int (nI i)), (0, .ref (md 0))]) hx hb dX4_busiest_47 hl (k := 2) rfl (nI_add i 1) (by decide) rfl (fun ls hl => ?_)
            refine lv_goto (pc := 50) (tgt := 7) hx hb dX4_busiest_50 (by decide) ?_
            exact ih_7 (i + 1) (nI i) b2 (by omega) (by simp only [m_bus2, hb1, if_neg (hb2 ▸ c_2)]) (by simp only [m_bus2, hb2]; rw [if_pos (hb2 ▸ c_4)]) (by omega) ls (lv_sub hl [0, 1, 2, 3] rfl)
          · skip
            have c_4 : ¬ ((m_thr a i) ≤ b2) := c_4
            refine lv_aload_n (pc := 37) hx hb dX4_busiest_37 rfl (lv_at hl 3 rfl) ?_
            refine lv_iload_n (pc := 38) hx hb dX4_busiest_38 rfl (lv_at hl 1 rfl) ?_
            refine b_cR (pc := 39) (va_runV (As := [.int (nI i)]) (rest := []) ⟨hx, hb, hml, hown, hts⟩ (c_X4_through l D cI cC cZ cG md a kp hs hn sl iv tx tl sp nu i (by first | omega | assumption)) (cwV 1 hts gX4_busiest_X4_through rfl rfl rfl hy_X4_through ⟨Nat.le_of_ble_eq_true rfl, Nat.le_of_ble_eq_true rfl⟩) (b_pRV (wc := [((md 0), .inr (4, [.ref (md 1), .ref (md 2), .ref (md 3), .int (nI hn), .ref (md 4), .ref (md 5), .ref (md 6), .int (nI tl), .int (nI sp), .int nu])), ((md 1), .inl (cI, 86, .inl a)), ((md 2), .inl (cI, 86, .inl kp)), ((md 3), .inl (cI, 516, .inl hs)), ((md 4), .inl (cI, 172, .inl sl)), ((md 5), .inl (cI, 2, .inl iv)), ((md 6), .inl (cI, 60, .inl tx))]) hK hP [0, 1, 2, 3, 4, 5, 6] rfl (ci := 4) (q0 := 0) rfl rfl) rfl rfl hl.1 rfl (lv_room (Nat.le_of_ble_eq_true rfl)) dX4_busiest_39 ⟨Nat.zero_le _, Nat.zero_le _⟩) ?_
            refine lv_goto (pc := 42) (tgt := 46) hx hb dX4_busiest_42 (by decide) ?_
            refine lv_istore_n (pc := 46) (lv' := [(2, .int (m_thr a i)), (1, .int (nI i)), (3, .int (nI i)), (0, .ref (md 0))]) hx hb dX4_busiest_46 rfl hl (by decide) rfl (fun ls hl => ?_)
            refine lv_iinc (pc := 47) (v := nI (i + 1)) (lv' := [(3, .int (nI (i + 1))), (2, .int (m_thr a i)), (1, .int (nI i)), (0, .ref (md 0))]) hx hb dX4_busiest_47 hl (k := 2) rfl (nI_add i 1) (by decide) rfl (fun ls hl => ?_)
            refine lv_goto (pc := 50) (tgt := 7) hx hb dX4_busiest_50 (by decide) ?_
            exact ih_7 (i + 1) (nI i) (m_thr a i) (by omega) (by simp only [m_bus2, hb1, if_neg (hb2 ▸ c_2)]) (by simp only [m_bus2, hb2]; rw [if_neg (hb2 ▸ c_4)]) (by omega) ls (lv_sub hl [0, 1, 2, 3] rfl)
  exact loop_7 7 0 (-6) 0 (Nat.zero_le _) rfl rfl (by omega) ls (lv_sub hl [0, 1, 2, 3] rfl)
set_option maxHeartbeats 4000000 in
set_option maxRecDepth 100000 in
theorem c_X4_ifRead_bad (l : Launch) (D : va_G) (cI cC cZ cG : ClassId) (sz : Nat) (md : Nat → Nat) (a : Nat → Int32) (kp : Nat → Int32) (hs : Nat → Int32) (hn : Nat) (sl : Nat → Int32) (iv : Nat → Int32) (tx : Nat → Int32) (tl : Nat) (sp : Nat) (nu : Int32) (x : Int32) (htl : tl ≤ 60) (hbad : ¬ (m_ftl tx tl (tl + 1) 0 nu).1 = -6) : Met l yX4_ifRead wsX4_ifRead ({ frames := 6, cells := 0, slots := 0, locals := 130 } : Room) (b_W D (b_T cI cC cZ cG) b_X0 [((md 0), .inr (4, [.ref (md 1), .ref (md 2), .ref (md 3), .int (nI hn), .ref (md 4), .ref (md 5), .ref (md 6), .int (nI tl), .int (nI sp), .int nu])), ((md 1), .inl (cI, 86, .inl a)), ((md 2), .inl (cI, 86, .inl kp)), ((md 3), .inl (cI, 516, .inl hs)), ((md 4), .inl (cI, 172, .inl sl)), ((md 5), .inl (cI, 2, .inl iv)), ((md 6), .inl (cI, 60, .inl tx))] sz [.ref (md 0), .int x]) (b_Qi D (-3) [((md 0), .inr (4, [.ref (md 1), .ref (md 2), .ref (md 3), .int (nI hn), .ref (md 4), .ref (md 5), .ref (md 6), .int (nI tl), .int (nI ((m_ftl tx tl (tl + 1) 0 nu).2.1)), .int ((m_ftl tx tl (tl + 1) 0 nu).2.2)])), ((md 1), .inl (cI, 86, .inl a)), ((md 2), .inl (cI, 86, .inl kp)), ((md 3), .inl (cI, 516, .inl hs)), ((md 4), .inl (cI, 172, .inl sl)), ((md 5), .inl (cI, 2, .inl iv)), ((md 6), .inl (cI, 60, .inl tx))] (va_A [((md 0), .inr (4, [.ref (md 1), .ref (md 2), .ref (md 3), .int (nI hn), .ref (md 4), .ref (md 5), .ref (md 6), .int (nI tl), .int (nI sp), .int nu])), ((md 1), .inl (cI, 86, .inl a)), ((md 2), .inl (cI, 86, .inl kp)), ((md 3), .inl (cI, 516, .inl hs)), ((md 4), .inl (cI, 172, .inl sl)), ((md 5), .inl (cI, 2, .inl iv)), ((md 6), .inl (cI, 60, .inl tx))] sz)) 0 0 (va_A [((md 0), .inr (4, [.ref (md 1), .ref (md 2), .ref (md 3), .int (nI hn), .ref (md 4), .ref (md 5), .ref (md 6), .int (nI tl), .int (nI sp), .int nu])), ((md 1), .inl (cI, 86, .inl a)), ((md 2), .inl (cI, 86, .inl kp)), ((md 3), .inl (cI, 516, .inl hs)), ((md 4), .inl (cI, 172, .inl sl)), ((md 5), .inl (cI, 2, .inl iv)), ((md 6), .inl (cI, 60, .inl tx))] sz) := by
  refine b_enterW (Qc := fun A => b_Qi D (-3) [((md 0), .inr (4, [.ref (md 1), .ref (md 2), .ref (md 3), .int (nI hn), .ref (md 4), .ref (md 5), .ref (md 6), .int (nI tl), .int (nI ((m_ftl tx tl (tl + 1) 0 nu).2.1)), .int ((m_ftl tx tl (tl + 1) 0 nu).2.2)])), ((md 1), .inl (cI, 86, .inl a)), ((md 2), .inl (cI, 86, .inl kp)), ((md 3), .inl (cI, 516, .inl hs)), ((md 4), .inl (cI, 172, .inl sl)), ((md 5), .inl (cI, 2, .inl iv)), ((md 6), .inl (cI, 60, .inl tx))] A) (cc := cX4_ifRead) (maxL := 5) (ret := (some .int)) (by decide) rfl (Nat.le_of_ble_eq_true rfl) ?_
  intro p e s m below meth c ls A hx hb hr hml hown hts hlocks hname hP hK hD hA hS hX hl Q hQ
  have hown : s.vm.findClass RX4 = some m.cls := hown
  have hl : lv_has ls 5 [(0, .ref (md 0)), (1, .int x)] := hl
  refine lv_aload_n (pc := 0) hx hb dX4_ifRead_0 rfl (lv_at hl 0 rfl) ?_
  refine b_cW (pc := 1) (w1 := [((md 0), .inr (4, [.ref (md 1), .ref (md 2), .ref (md 3), .int (nI hn), .ref (md 4), .ref (md 5), .ref (md 6), .int (nI tl), .int (nI ((m_ftl tx tl (tl + 1) 0 nu).2.1)), .int ((m_ftl tx tl (tl + 1) 0 nu).2.2)])), ((md 1), .inl (cI, 86, .inl a)), ((md 2), .inl (cI, 86, .inl kp)), ((md 3), .inl (cI, 516, .inl hs)), ((md 4), .inl (cI, 172, .inl sl)), ((md 5), .inl (cI, 2, .inl iv)), ((md 6), .inl (cI, 60, .inl tx))]) (va_runV (As := []) (rest := []) ⟨hx, hb, hml, hown, hts⟩ (c_X4_fault l D cI cC cZ cG s.heap.size md a kp hs hn sl iv tx tl sp nu (by first | omega | assumption)) (cwV 0 hts gX4_ifRead_X4_fault rfl rfl rfl hy_X4_fault ⟨Nat.le_of_ble_eq_true rfl, Nat.le_of_ble_eq_true rfl⟩) (b_pWV (wc := [((md 0), .inr (4, [.ref (md 1), .ref (md 2), .ref (md 3), .int (nI hn), .ref (md 4), .ref (md 5), .ref (md 6), .int (nI tl), .int (nI sp), .int nu])), ((md 1), .inl (cI, 86, .inl a)), ((md 2), .inl (cI, 86, .inl kp)), ((md 3), .inl (cI, 516, .inl hs)), ((md 4), .inl (cI, 172, .inl sl)), ((md 5), .inl (cI, 2, .inl iv)), ((md 6), .inl (cI, 60, .inl tx))]) hK hP hD b_Xok_0 [0, 1, 2, 3, 4, 5, 6] rfl (by decide) rfl trivial (ci := 4) (q0 := 0) rfl rfl) rfl rfl hl.1 rfl (lv_room (Nat.le_of_ble_eq_true rfl)) dX4_ifRead_1 ⟨Nat.zero_le _, Nat.zero_le _⟩) hP hD hS hA [0, 1, 2, 3, 4, 5, 6] rfl rfl (fun H locs hP hD hS => ?_)
  have hP : va_P D vwCl [((md 0), .inr (4, [.ref (md 1), .ref (md 2), .ref (md 3), .int (nI hn), .ref (md 4), .ref (md 5), .ref (md 6), .int (nI tl), .int (nI ((m_ftl tx tl (tl + 1) 0 nu).2.1)), .int ((m_ftl tx tl (tl + 1) 0 nu).2.2)])), ((md 1), .inl (cI, 86, .inl a)), ((md 2), .inl (cI, 86, .inl kp)), ((md 3), .inl (cI, 516, .inl hs)), ((md 4), .inl (cI, 172, .inl sl)), ((md 5), .inl (cI, 2, .inl iv)), ((md 6), .inl (cI, 60, .inl tx))] H := hP
  have hD : va_D A [((md 0), .inr (4, [.ref (md 1), .ref (md 2), .ref (md 3), .int (nI hn), .ref (md 4), .ref (md 5), .ref (md 6), .int (nI tl), .int (nI ((m_ftl tx tl (tl + 1) 0 nu).2.1)), .int ((m_ftl tx tl (tl + 1) 0 nu).2.2)])), ((md 1), .inl (cI, 86, .inl a)), ((md 2), .inl (cI, 86, .inl kp)), ((md 3), .inl (cI, 516, .inl hs)), ((md 4), .inl (cI, 172, .inl sl)), ((md 5), .inl (cI, 2, .inl iv)), ((md 6), .inl (cI, 60, .inl tx))] := hD
  refine lv_bipush (pc := 4) (v := (-6)) hx hb dX4_ifRead_4 (by decide) ?_
  refine lv_icmp_eq (pc := 6) (tgt := 12) hx hb dX4_ifRead_6 (by decide) (fun c_1 => ?_) (fun c_1 => ?_)
  · skip
    have c_1 : ((m_ftl tx tl (tl + 1) 0 nu).1) = (-6) := c_1
    exact absurd c_1 hbad
  · skip
    have c_1 : ¬ (((m_ftl tx tl (tl + 1) 0 nu).1) = (-6)) := c_1
    refine lv_bipush (pc := 9) (v := (-3)) hx hb dX4_ifRead_9 (by decide) ?_
    subst hQ
    exact b_retW hx hb hr hlocks hS (rfl) (hP) dX4_ifRead_11
theorem hw_X4_ifRead_bw_0 : (.constantLong RX4 36 (5) : Cond) ∈ wsX4_ifRead := by decide +kernel
set_option maxHeartbeats 4000000 in
set_option maxRecDepth 100000 in
theorem c_X4_ifRead_bw (l : Launch) (D : va_G) (cI cC cZ cG : ClassId) (sz : Nat) (md : Nat → Nat) (a : Nat → Int32) (kp : Nat → Int32) (hs : Nat → Int32) (hn : Nat) (sl : Nat → Int32) (iv : Nat → Int32) (tx : Nat → Int32) (tl : Nat) (sp : Nat) (nu : Int32) (x : Int32) (htl : tl ≤ 60) (ht : (m_ftl tx tl (tl + 1) 0 nu).1 = -6) (hbad : x < 0 ∨ ¬ x < 6) : Met l yX4_ifRead wsX4_ifRead ({ frames := 6, cells := 0, slots := 0, locals := 130 } : Room) (b_W D (b_T cI cC cZ cG) b_X0 [((md 0), .inr (4, [.ref (md 1), .ref (md 2), .ref (md 3), .int (nI hn), .ref (md 4), .ref (md 5), .ref (md 6), .int (nI tl), .int (nI sp), .int nu])), ((md 1), .inl (cI, 86, .inl a)), ((md 2), .inl (cI, 86, .inl kp)), ((md 3), .inl (cI, 516, .inl hs)), ((md 4), .inl (cI, 172, .inl sl)), ((md 5), .inl (cI, 2, .inl iv)), ((md 6), .inl (cI, 60, .inl tx))] sz [.ref (md 0), .int x]) (b_Qi D (-2) [((md 0), .inr (4, [.ref (md 1), .ref (md 2), .ref (md 3), .int (nI hn), .ref (md 4), .ref (md 5), .ref (md 6), .int (nI tl), .int (nI ((m_ftl tx tl (tl + 1) 0 nu).2.1)), .int ((m_ftl tx tl (tl + 1) 0 nu).2.2)])), ((md 1), .inl (cI, 86, .inl a)), ((md 2), .inl (cI, 86, .inl kp)), ((md 3), .inl (cI, 516, .inl hs)), ((md 4), .inl (cI, 172, .inl sl)), ((md 5), .inl (cI, 2, .inl iv)), ((md 6), .inl (cI, 60, .inl tx))] (va_A [((md 0), .inr (4, [.ref (md 1), .ref (md 2), .ref (md 3), .int (nI hn), .ref (md 4), .ref (md 5), .ref (md 6), .int (nI tl), .int (nI sp), .int nu])), ((md 1), .inl (cI, 86, .inl a)), ((md 2), .inl (cI, 86, .inl kp)), ((md 3), .inl (cI, 516, .inl hs)), ((md 4), .inl (cI, 172, .inl sl)), ((md 5), .inl (cI, 2, .inl iv)), ((md 6), .inl (cI, 60, .inl tx))] sz)) 0 0 (va_A [((md 0), .inr (4, [.ref (md 1), .ref (md 2), .ref (md 3), .int (nI hn), .ref (md 4), .ref (md 5), .ref (md 6), .int (nI tl), .int (nI sp), .int nu])), ((md 1), .inl (cI, 86, .inl a)), ((md 2), .inl (cI, 86, .inl kp)), ((md 3), .inl (cI, 516, .inl hs)), ((md 4), .inl (cI, 172, .inl sl)), ((md 5), .inl (cI, 2, .inl iv)), ((md 6), .inl (cI, 60, .inl tx))] sz) := by
  refine b_enterW (Qc := fun A => b_Qi D (-2) [((md 0), .inr (4, [.ref (md 1), .ref (md 2), .ref (md 3), .int (nI hn), .ref (md 4), .ref (md 5), .ref (md 6), .int (nI tl), .int (nI ((m_ftl tx tl (tl + 1) 0 nu).2.1)), .int ((m_ftl tx tl (tl + 1) 0 nu).2.2)])), ((md 1), .inl (cI, 86, .inl a)), ((md 2), .inl (cI, 86, .inl kp)), ((md 3), .inl (cI, 516, .inl hs)), ((md 4), .inl (cI, 172, .inl sl)), ((md 5), .inl (cI, 2, .inl iv)), ((md 6), .inl (cI, 60, .inl tx))] A) (cc := cX4_ifRead) (maxL := 5) (ret := (some .int)) (by decide) rfl (Nat.le_of_ble_eq_true rfl) ?_
  intro p e s m below meth c ls A hx hb hr hml hown hts hlocks hname hP hK hD hA hS hX hl Q hQ
  have hown : s.vm.findClass RX4 = some m.cls := hown
  have hl : lv_has ls 5 [(0, .ref (md 0)), (1, .int x)] := hl
  refine lv_aload_n (pc := 0) hx hb dX4_ifRead_0 rfl (lv_at hl 0 rfl) ?_
  refine b_cW (pc := 1) (w1 := [((md 0), .inr (4, [.ref (md 1), .ref (md 2), .ref (md 3), .int (nI hn), .ref (md 4), .ref (md 5), .ref (md 6), .int (nI tl), .int (nI ((m_ftl tx tl (tl + 1) 0 nu).2.1)), .int ((m_ftl tx tl (tl + 1) 0 nu).2.2)])), ((md 1), .inl (cI, 86, .inl a)), ((md 2), .inl (cI, 86, .inl kp)), ((md 3), .inl (cI, 516, .inl hs)), ((md 4), .inl (cI, 172, .inl sl)), ((md 5), .inl (cI, 2, .inl iv)), ((md 6), .inl (cI, 60, .inl tx))]) (va_runV (As := []) (rest := []) ⟨hx, hb, hml, hown, hts⟩ (c_X4_fault l D cI cC cZ cG s.heap.size md a kp hs hn sl iv tx tl sp nu (by first | omega | assumption)) (cwV 0 hts gX4_ifRead_X4_fault rfl rfl rfl hy_X4_fault ⟨Nat.le_of_ble_eq_true rfl, Nat.le_of_ble_eq_true rfl⟩) (b_pWV (wc := [((md 0), .inr (4, [.ref (md 1), .ref (md 2), .ref (md 3), .int (nI hn), .ref (md 4), .ref (md 5), .ref (md 6), .int (nI tl), .int (nI sp), .int nu])), ((md 1), .inl (cI, 86, .inl a)), ((md 2), .inl (cI, 86, .inl kp)), ((md 3), .inl (cI, 516, .inl hs)), ((md 4), .inl (cI, 172, .inl sl)), ((md 5), .inl (cI, 2, .inl iv)), ((md 6), .inl (cI, 60, .inl tx))]) hK hP hD b_Xok_0 [0, 1, 2, 3, 4, 5, 6] rfl (by decide) rfl trivial (ci := 4) (q0 := 0) rfl rfl) rfl rfl hl.1 rfl (lv_room (Nat.le_of_ble_eq_true rfl)) dX4_ifRead_1 ⟨Nat.zero_le _, Nat.zero_le _⟩) hP hD hS hA [0, 1, 2, 3, 4, 5, 6] rfl rfl (fun H locs hP hD hS => ?_)
  have hP : va_P D vwCl [((md 0), .inr (4, [.ref (md 1), .ref (md 2), .ref (md 3), .int (nI hn), .ref (md 4), .ref (md 5), .ref (md 6), .int (nI tl), .int (nI ((m_ftl tx tl (tl + 1) 0 nu).2.1)), .int ((m_ftl tx tl (tl + 1) 0 nu).2.2)])), ((md 1), .inl (cI, 86, .inl a)), ((md 2), .inl (cI, 86, .inl kp)), ((md 3), .inl (cI, 516, .inl hs)), ((md 4), .inl (cI, 172, .inl sl)), ((md 5), .inl (cI, 2, .inl iv)), ((md 6), .inl (cI, 60, .inl tx))] H := hP
  have hD : va_D A [((md 0), .inr (4, [.ref (md 1), .ref (md 2), .ref (md 3), .int (nI hn), .ref (md 4), .ref (md 5), .ref (md 6), .int (nI tl), .int (nI ((m_ftl tx tl (tl + 1) 0 nu).2.1)), .int ((m_ftl tx tl (tl + 1) 0 nu).2.2)])), ((md 1), .inl (cI, 86, .inl a)), ((md 2), .inl (cI, 86, .inl kp)), ((md 3), .inl (cI, 516, .inl hs)), ((md 4), .inl (cI, 172, .inl sl)), ((md 5), .inl (cI, 2, .inl iv)), ((md 6), .inl (cI, 60, .inl tx))] := hD
  refine lv_bipush (pc := 4) (v := (-6)) hx hb dX4_ifRead_4 (by decide) ?_
  refine lv_icmp_eq (pc := 6) (tgt := 12) hx hb dX4_ifRead_6 (by decide) (fun c_1 => ?_) (fun c_1 => ?_)
  · skip
    have c_1 : ((m_ftl tx tl (tl + 1) 0 nu).1) = (-6) := c_1
    refine lv_iload_n (pc := 12) hx hb dX4_ifRead_12 rfl (lv_at hl 1 rfl) ?_
    refine lv_i2l (pc := 13) hx hb dX4_ifRead_13 rfl ?_
    refine lv_lconst (pc := 14) (v := 0) hx hb dX4_ifRead_14 (by decide) ?_
    refine lv_ldc2 (pc := 15) hx hb hown (hts _ hw_X4_ifRead_bw_0) dX4_ifRead_15 ?_
    refine b_cR (pc := 18) (va_runS (As := [.long x.toInt64, .long 0, .long 5]) (rest := []) ⟨hx, hb, hml, hown, hts⟩ (c_X4_in l D cI cC cZ cG x.toInt64 0 5) (va_cwS 3 hts gX4_ifRead_X4_in rfl rfl rfl hyS_X4_in ⟨Nat.le_of_ble_eq_true rfl, Nat.le_of_ble_eq_true rfl⟩) (b_pRS (wc := []) hK hP [] rfl) rfl rfl hl.1 rfl (lv_room (Nat.le_of_ble_eq_true rfl)) dX4_ifRead_18 ⟨Nat.zero_le _, Nat.zero_le _⟩) ?_
    refine lv_if_ne (pc := 21) (tgt := 27) hx hb dX4_ifRead_21 (by decide) (fun c_2 => ?_) (fun c_2 => ?_)
    · skip
      have c_2 : m_in x.toInt64 0 5 := Classical.not_not.mp (fun h9 => c_2 (b_i_0.mpr h9))
      exact absurd c_2 (m_out (lo := 0) (hi := 5) (hj := 6) (by decide) (by decide) (by decide) hbad)
    · skip
      have c_2 : ¬ (m_in x.toInt64 0 5) := b_i_0.mp c_2
      refine lv_bipush (pc := 24) (v := (-2)) hx hb dX4_ifRead_24 (by decide) ?_
      subst hQ
      exact b_retW hx hb hr hlocks hS (rfl) (hP) dX4_ifRead_26
  · skip
    have c_1 : ¬ (((m_ftl tx tl (tl + 1) 0 nu).1) = (-6)) := c_1
    exact absurd ht c_1
theorem hw_X4_ifRead_0_0 : (.constantLong RX4 36 (5) : Cond) ∈ wsX4_ifRead := by decide +kernel
set_option maxHeartbeats 4000000 in
set_option maxRecDepth 100000 in
theorem c_X4_ifRead_0 (l : Launch) (D : va_G) (cI cC cZ cG : ClassId) (sz : Nat) (md : Nat → Nat) (a : Nat → Int32) (kp : Nat → Int32) (hs : Nat → Int32) (hn : Nat) (sl : Nat → Int32) (iv : Nat → Int32) (tx : Nat → Int32) (tl : Nat) (sp : Nat) (nu : Int32) (htl : tl ≤ 60) (ht : (m_ftl tx tl (tl + 1) 0 nu).1 = -6) : Met l yX4_ifRead wsX4_ifRead ({ frames := 6, cells := 0, slots := 0, locals := 135 } : Room) (b_W D (b_T cI cC cZ cG) b_X0 [((md 0), .inr (4, [.ref (md 1), .ref (md 2), .ref (md 3), .int (nI hn), .ref (md 4), .ref (md 5), .ref (md 6), .int (nI tl), .int (nI sp), .int nu])), ((md 1), .inl (cI, 86, .inl a)), ((md 2), .inl (cI, 86, .inl kp)), ((md 3), .inl (cI, 516, .inl hs)), ((md 4), .inl (cI, 172, .inl sl)), ((md 5), .inl (cI, 2, .inl iv)), ((md 6), .inl (cI, 60, .inl tx))] sz [.ref (md 0), .int (nI 0)]) (b_Qi D (m_sum (m_rdx tx tl nu a).1 (4 + 0) 6 - m_sum a (4 + 0) 6) [((md 0), .inr (4, [.ref (md 1), .ref (md 2), .ref (md 3), .int (nI hn), .ref (md 4), .ref (md 5), .ref (md 6), .int (nI tl), .int (nI ((m_rdx tx tl nu a).2.2.1)), .int ((m_rdx tx tl nu a).2.2.2)])), ((md 1), .inl (cI, 86, .inl (va_cpy (va_cpy a kp 0 0 86) (m_rdx tx tl nu a).1 0 0 86))), ((md 2), .inl (cI, 86, .inl (va_cpy a kp 0 0 86))), ((md 3), .inl (cI, 516, .inl hs)), ((md 4), .inl (cI, 172, .inl sl)), ((md 5), .inl (cI, 2, .inl iv)), ((md 6), .inl (cI, 60, .inl tx))] (va_A [((md 0), .inr (4, [.ref (md 1), .ref (md 2), .ref (md 3), .int (nI hn), .ref (md 4), .ref (md 5), .ref (md 6), .int (nI tl), .int (nI sp), .int nu])), ((md 1), .inl (cI, 86, .inl a)), ((md 2), .inl (cI, 86, .inl kp)), ((md 3), .inl (cI, 516, .inl hs)), ((md 4), .inl (cI, 172, .inl sl)), ((md 5), .inl (cI, 2, .inl iv)), ((md 6), .inl (cI, 60, .inl tx))] sz)) 0 0 (va_A [((md 0), .inr (4, [.ref (md 1), .ref (md 2), .ref (md 3), .int (nI hn), .ref (md 4), .ref (md 5), .ref (md 6), .int (nI tl), .int (nI sp), .int nu])), ((md 1), .inl (cI, 86, .inl a)), ((md 2), .inl (cI, 86, .inl kp)), ((md 3), .inl (cI, 516, .inl hs)), ((md 4), .inl (cI, 172, .inl sl)), ((md 5), .inl (cI, 2, .inl iv)), ((md 6), .inl (cI, 60, .inl tx))] sz) := by
  refine b_enterW (Qc := fun A => b_Qi D (m_sum (m_rdx tx tl nu a).1 (4 + 0) 6 - m_sum a (4 + 0) 6) [((md 0), .inr (4, [.ref (md 1), .ref (md 2), .ref (md 3), .int (nI hn), .ref (md 4), .ref (md 5), .ref (md 6), .int (nI tl), .int (nI ((m_rdx tx tl nu a).2.2.1)), .int ((m_rdx tx tl nu a).2.2.2)])), ((md 1), .inl (cI, 86, .inl (va_cpy (va_cpy a kp 0 0 86) (m_rdx tx tl nu a).1 0 0 86))), ((md 2), .inl (cI, 86, .inl (va_cpy a kp 0 0 86))), ((md 3), .inl (cI, 516, .inl hs)), ((md 4), .inl (cI, 172, .inl sl)), ((md 5), .inl (cI, 2, .inl iv)), ((md 6), .inl (cI, 60, .inl tx))] A) (cc := cX4_ifRead) (maxL := 5) (ret := (some .int)) (by decide) rfl (Nat.le_of_ble_eq_true rfl) ?_
  intro p e s m below meth c ls A hx hb hr hml hown hts hlocks hname hP hK hD hA hS hX hl Q hQ
  have hown : s.vm.findClass RX4 = some m.cls := hown
  have hl : lv_has ls 5 [(0, .ref (md 0)), (1, .int (nI 0))] := hl
  refine lv_aload_n (pc := 0) hx hb dX4_ifRead_0 rfl (lv_at hl 0 rfl) ?_
  refine b_cW (pc := 1) (w1 := [((md 0), .inr (4, [.ref (md 1), .ref (md 2), .ref (md 3), .int (nI hn), .ref (md 4), .ref (md 5), .ref (md 6), .int (nI tl), .int (nI ((m_ftl tx tl (tl + 1) 0 nu).2.1)), .int ((m_ftl tx tl (tl + 1) 0 nu).2.2)])), ((md 1), .inl (cI, 86, .inl a)), ((md 2), .inl (cI, 86, .inl kp)), ((md 3), .inl (cI, 516, .inl hs)), ((md 4), .inl (cI, 172, .inl sl)), ((md 5), .inl (cI, 2, .inl iv)), ((md 6), .inl (cI, 60, .inl tx))]) (va_runV (As := []) (rest := []) ⟨hx, hb, hml, hown, hts⟩ (c_X4_fault l D cI cC cZ cG s.heap.size md a kp hs hn sl iv tx tl sp nu (by first | omega | assumption)) (cwV 0 hts gX4_ifRead_X4_fault rfl rfl rfl hy_X4_fault ⟨Nat.le_of_ble_eq_true rfl, Nat.le_of_ble_eq_true rfl⟩) (b_pWV (wc := [((md 0), .inr (4, [.ref (md 1), .ref (md 2), .ref (md 3), .int (nI hn), .ref (md 4), .ref (md 5), .ref (md 6), .int (nI tl), .int (nI sp), .int nu])), ((md 1), .inl (cI, 86, .inl a)), ((md 2), .inl (cI, 86, .inl kp)), ((md 3), .inl (cI, 516, .inl hs)), ((md 4), .inl (cI, 172, .inl sl)), ((md 5), .inl (cI, 2, .inl iv)), ((md 6), .inl (cI, 60, .inl tx))]) hK hP hD b_Xok_0 [0, 1, 2, 3, 4, 5, 6] rfl (by decide) rfl trivial (ci := 4) (q0 := 0) rfl rfl) rfl rfl hl.1 rfl (lv_room (Nat.le_of_ble_eq_true rfl)) dX4_ifRead_1 ⟨Nat.zero_le _, Nat.zero_le _⟩) hP hD hS hA [0, 1, 2, 3, 4, 5, 6] rfl rfl (fun H locs hP hD hS => ?_)
  have hP : va_P D vwCl [((md 0), .inr (4, [.ref (md 1), .ref (md 2), .ref (md 3), .int (nI hn), .ref (md 4), .ref (md 5), .ref (md 6), .int (nI tl), .int (nI ((m_ftl tx tl (tl + 1) 0 nu).2.1)), .int ((m_ftl tx tl (tl + 1) 0 nu).2.2)])), ((md 1), .inl (cI, 86, .inl a)), ((md 2), .inl (cI, 86, .inl kp)), ((md 3), .inl (cI, 516, .inl hs)), ((md 4), .inl (cI, 172, .inl sl)), ((md 5), .inl (cI, 2, .inl iv)), ((md 6), .inl (cI, 60, .inl tx))] H := hP
  have hD : va_D A [((md 0), .inr (4, [.ref (md 1), .ref (md 2), .ref (md 3), .int (nI hn), .ref (md 4), .ref (md 5), .ref (md 6), .int (nI tl), .int (nI ((m_ftl tx tl (tl + 1) 0 nu).2.1)), .int ((m_ftl tx tl (tl + 1) 0 nu).2.2)])), ((md 1), .inl (cI, 86, .inl a)), ((md 2), .inl (cI, 86, .inl kp)), ((md 3), .inl (cI, 516, .inl hs)), ((md 4), .inl (cI, 172, .inl sl)), ((md 5), .inl (cI, 2, .inl iv)), ((md 6), .inl (cI, 60, .inl tx))] := hD
  refine lv_bipush (pc := 4) (v := (-6)) hx hb dX4_ifRead_4 (by decide) ?_
  refine lv_icmp_eq (pc := 6) (tgt := 12) hx hb dX4_ifRead_6 (by decide) (fun c_1 => ?_) (fun c_1 => ?_)
  · skip
    have c_1 : ((m_ftl tx tl (tl + 1) 0 nu).1) = (-6) := c_1
    refine lv_iload_n (pc := 12) hx hb dX4_ifRead_12 rfl (lv_at hl 1 rfl) ?_
    refine lv_i2l (pc := 13) hx hb dX4_ifRead_13 rfl ?_
    refine lv_lconst (pc := 14) (v := 0) hx hb dX4_ifRead_14 (by decide) ?_
    refine lv_ldc2 (pc := 15) hx hb hown (hts _ hw_X4_ifRead_0_0) dX4_ifRead_15 ?_
    refine b_cR (pc := 18) (va_runS (As := [.long ((nI 0).toInt64), .long 0, .long 5]) (rest := []) ⟨hx, hb, hml, hown, hts⟩ (c_X4_in l D cI cC cZ cG ((nI 0).toInt64) 0 5) (va_cwS 3 hts gX4_ifRead_X4_in rfl rfl rfl hyS_X4_in ⟨Nat.le_of_ble_eq_true rfl, Nat.le_of_ble_eq_true rfl⟩) (b_pRS (wc := []) hK hP [] rfl) rfl rfl hl.1 rfl (lv_room (Nat.le_of_ble_eq_true rfl)) dX4_ifRead_18 ⟨Nat.zero_le _, Nat.zero_le _⟩) ?_
    refine lv_if_ne (pc := 21) (tgt := 27) hx hb dX4_ifRead_21 (by decide) (fun c_2 => ?_) (fun c_2 => ?_)
    · skip
      have c_2 : m_in ((nI 0).toInt64) 0 5 := Classical.not_not.mp (fun h9 => c_2 (b_i_0.mpr h9))
      refine lv_iload_n (pc := 27) hx hb dX4_ifRead_27 rfl (lv_at hl 1 rfl) ?_
      refine lv_iconst (pc := 28) (v := 4) hx hb dX4_ifRead_28 (by decide) ?_
      refine lv_icmp_ge (pc := 29) (tgt := 42) hx hb dX4_ifRead_29 (by decide) (fun c_3 => ?_) (fun c_3 => ?_)
      · skip
        have c_3 : 4 ≤ 0 := (nI_leI (a := 4) (b := 0) (by omega) (by omega)).mp c_3
        exact absurd c_3 (by decide)
      · skip
        have c_3 : ¬ (4 ≤ 0) := fun h9 => c_3 ((nI_leI (a := 4) (b := 0) (by omega) (by omega)).mpr h9)
        refine lv_aload_n (pc := 32) hx hb dX4_ifRead_32 rfl (lv_at hl 0 rfl) ?_
        refine lv_iconst (pc := 33) (v := 4) hx hb dX4_ifRead_33 (by decide) ?_
        refine lv_iload_n (pc := 34) hx hb dX4_ifRead_34 rfl (lv_at hl 1 rfl) ?_
        refine lv_iadd (pc := 35) hx hb dX4_ifRead_35 ?_
        refine b_re (nI_add 4 0) ?_
        refine b_cR (pc := 36) (va_runV (As := [.int (nI (4 + 0))]) (rest := []) ⟨hx, hb, hml, hown, hts⟩ (c_X4_allOf l D cI cC cZ cG md a kp hs hn sl iv tx tl ((m_ftl tx tl (tl + 1) 0 nu).2.1) ((m_ftl tx tl (tl + 1) 0 nu).2.2) (4 + 0) (by first | omega | assumption)) (cwV 1 hts gX4_ifRead_X4_allOf rfl rfl rfl hy_X4_allOf ⟨Nat.le_of_ble_eq_true rfl, Nat.le_of_ble_eq_true rfl⟩) (b_pRV (wc := [((md 0), .inr (4, [.ref (md 1), .ref (md 2), .ref (md 3), .int (nI hn), .ref (md 4), .ref (md 5), .ref (md 6), .int (nI tl), .int (nI ((m_ftl tx tl (tl + 1) 0 nu).2.1)), .int ((m_ftl tx tl (tl + 1) 0 nu).2.2)])), ((md 1), .inl (cI, 86, .inl a)), ((md 2), .inl (cI, 86, .inl kp)), ((md 3), .inl (cI, 516, .inl hs)), ((md 4), .inl (cI, 172, .inl sl)), ((md 5), .inl (cI, 2, .inl iv)), ((md 6), .inl (cI, 60, .inl tx))]) hK hP [0, 1, 2, 3, 4, 5, 6] rfl (ci := 4) (q0 := 0) rfl rfl) rfl rfl hl.1 rfl (lv_room (Nat.le_of_ble_eq_true rfl)) dX4_ifRead_36 ⟨Nat.zero_le _, Nat.zero_le _⟩) ?_
        refine lv_goto (pc := 39) (tgt := 58) hx hb dX4_ifRead_39 (by decide) ?_
        refine lv_istore_n (pc := 58) (lv' := [(2, .int (m_sum a (4 + 0) 6)), (0, .ref (md 0)), (1, .int (nI 0))]) hx hb dX4_ifRead_58 rfl hl (by decide) rfl (fun ls hl => ?_)
        refine lv_aload_n (pc := 59) hx hb dX4_ifRead_59 rfl (lv_at hl 1 rfl) ?_
        refine b_cV (pc := 60) (w1 := [((md 0), .inr (4, [.ref (md 1), .ref (md 2), .ref (md 3), .int (nI hn), .ref (md 4), .ref (md 5), .ref (md 6), .int (nI tl), .int (nI ((m_ftl tx tl (tl + 1) 0 nu).2.1)), .int ((m_ftl tx tl (tl + 1) 0 nu).2.2)])), ((md 1), .inl (cI, 86, .inl a)), ((md 2), .inl (cI, 86, .inl (va_cpy a kp 0 0 86))), ((md 3), .inl (cI, 516, .inl hs)), ((md 4), .inl (cI, 172, .inl sl)), ((md 5), .inl (cI, 2, .inl iv)), ((md 6), .inl (cI, 60, .inl tx))]) (va_runV (As := []) (rest := []) ⟨hx, hb, hml, hown, hts⟩ (c_X4_keeps l D cI cC cZ cG H.size md a kp hs hn sl iv tx tl ((m_ftl tx tl (tl + 1) 0 nu).2.1) ((m_ftl tx tl (tl + 1) 0 nu).2.2)) (cwV 0 hts gX4_ifRead_X4_keeps rfl rfl rfl hy_X4_keeps ⟨Nat.le_of_ble_eq_true rfl, Nat.le_of_ble_eq_true rfl⟩) (b_pWV (wc := [((md 0), .inr (4, [.ref (md 1), .ref (md 2), .ref (md 3), .int (nI hn), .ref (md 4), .ref (md 5), .ref (md 6), .int (nI tl), .int (nI ((m_ftl tx tl (tl + 1) 0 nu).2.1)), .int ((m_ftl tx tl (tl + 1) 0 nu).2.2)])), ((md 1), .inl (cI, 86, .inl a)), ((md 2), .inl (cI, 86, .inl kp)), ((md 3), .inl (cI, 516, .inl hs)), ((md 4), .inl (cI, 172, .inl sl)), ((md 5), .inl (cI, 2, .inl iv)), ((md 6), .inl (cI, 60, .inl tx))]) hK hP hD b_Xok_0 [0, 1, 2, 3, 4, 5, 6] rfl (by decide) rfl trivial (ci := 4) (q0 := 0) rfl rfl) rfl rfl hl.1 rfl (lv_room (Nat.le_of_ble_eq_true rfl)) dX4_ifRead_60 ⟨Nat.zero_le _, Nat.zero_le _⟩) hP hD hS hA [0, 1, 2, 3, 4, 5, 6] rfl rfl (fun H locs hP hD hS => ?_)
        have hP : va_P D vwCl [((md 0), .inr (4, [.ref (md 1), .ref (md 2), .ref (md 3), .int (nI hn), .ref (md 4), .ref (md 5), .ref (md 6), .int (nI tl), .int (nI ((m_ftl tx tl (tl + 1) 0 nu).2.1)), .int ((m_ftl tx tl (tl + 1) 0 nu).2.2)])), ((md 1), .inl (cI, 86, .inl a)), ((md 2), .inl (cI, 86, .inl (va_cpy a kp 0 0 86))), ((md 3), .inl (cI, 516, .inl hs)), ((md 4), .inl (cI, 172, .inl sl)), ((md 5), .inl (cI, 2, .inl iv)), ((md 6), .inl (cI, 60, .inl tx))] H := hP
        have hD : va_D A [((md 0), .inr (4, [.ref (md 1), .ref (md 2), .ref (md 3), .int (nI hn), .ref (md 4), .ref (md 5), .ref (md 6), .int (nI tl), .int (nI ((m_ftl tx tl (tl + 1) 0 nu).2.1)), .int ((m_ftl tx tl (tl + 1) 0 nu).2.2)])), ((md 1), .inl (cI, 86, .inl a)), ((md 2), .inl (cI, 86, .inl (va_cpy a kp 0 0 86))), ((md 3), .inl (cI, 516, .inl hs)), ((md 4), .inl (cI, 172, .inl sl)), ((md 5), .inl (cI, 2, .inl iv)), ((md 6), .inl (cI, 60, .inl tx))] := hD
        refine lv_aload_n (pc := 63) hx hb dX4_ifRead_63 rfl (lv_at hl 1 rfl) ?_
        refine b_cW (pc := 64) (w1 := [((md 0), .inr (4, [.ref (md 1), .ref (md 2), .ref (md 3), .int (nI hn), .ref (md 4), .ref (md 5), .ref (md 6), .int (nI tl), .int (nI ((m_rd tx tl (tl + 1) 0 ((m_ftl tx tl (tl + 1) 0 nu).2.2) a 0).2.2.1)), .int ((m_rd tx tl (tl + 1) 0 ((m_ftl tx tl (tl + 1) 0 nu).2.2) a 0).2.2.2)])), ((md 1), .inl (cI, 86, .inl ((m_rd tx tl (tl + 1) 0 ((m_ftl tx tl (tl + 1) 0 nu).2.2) a 0).1))), ((md 2), .inl (cI, 86, .inl (va_cpy a kp 0 0 86))), ((md 3), .inl (cI, 516, .inl hs)), ((md 4), .inl (cI, 172, .inl sl)), ((md 5), .inl (cI, 2, .inl iv)), ((md 6), .inl (cI, 60, .inl tx))]) (va_runV (As := []) (rest := []) ⟨hx, hb, hml, hown, hts⟩ (c_X4_reads l D cI cC cZ cG H.size md a (va_cpy a kp 0 0 86) hs hn sl iv tx tl ((m_ftl tx tl (tl + 1) 0 nu).2.1) ((m_ftl tx tl (tl + 1) 0 nu).2.2) (by first | omega | assumption) ((m_ftl_nu (tl + 1) 0 _ nu).trans ht)) (cwV 0 hts gX4_ifRead_X4_reads rfl rfl rfl hy_X4_reads ⟨Nat.le_of_ble_eq_true rfl, Nat.le_of_ble_eq_true rfl⟩) (b_pWV (wc := [((md 0), .inr (4, [.ref (md 1), .ref (md 2), .ref (md 3), .int (nI hn), .ref (md 4), .ref (md 5), .ref (md 6), .int (nI tl), .int (nI ((m_ftl tx tl (tl + 1) 0 nu).2.1)), .int ((m_ftl tx tl (tl + 1) 0 nu).2.2)])), ((md 1), .inl (cI, 86, .inl a)), ((md 2), .inl (cI, 86, .inl (va_cpy a kp 0 0 86))), ((md 3), .inl (cI, 516, .inl hs)), ((md 4), .inl (cI, 172, .inl sl)), ((md 5), .inl (cI, 2, .inl iv)), ((md 6), .inl (cI, 60, .inl tx))]) hK hP hD b_Xok_0 [0, 1, 2, 3, 4, 5, 6] rfl (by decide) rfl trivial (ci := 4) (q0 := 0) rfl rfl) rfl rfl hl.1 rfl (lv_room (Nat.le_of_ble_eq_true rfl)) dX4_ifRead_64 ⟨Nat.zero_le _, Nat.zero_le _⟩) hP hD hS hA [0, 1, 2, 3, 4, 5, 6] rfl rfl (fun H locs hP hD hS => ?_)
        have hP : va_P D vwCl [((md 0), .inr (4, [.ref (md 1), .ref (md 2), .ref (md 3), .int (nI hn), .ref (md 4), .ref (md 5), .ref (md 6), .int (nI tl), .int (nI ((m_rd tx tl (tl + 1) 0 ((m_ftl tx tl (tl + 1) 0 nu).2.2) a 0).2.2.1)), .int ((m_rd tx tl (tl + 1) 0 ((m_ftl tx tl (tl + 1) 0 nu).2.2) a 0).2.2.2)])), ((md 1), .inl (cI, 86, .inl ((m_rd tx tl (tl + 1) 0 ((m_ftl tx tl (tl + 1) 0 nu).2.2) a 0).1))), ((md 2), .inl (cI, 86, .inl (va_cpy a kp 0 0 86))), ((md 3), .inl (cI, 516, .inl hs)), ((md 4), .inl (cI, 172, .inl sl)), ((md 5), .inl (cI, 2, .inl iv)), ((md 6), .inl (cI, 60, .inl tx))] H := hP
        have hD : va_D A [((md 0), .inr (4, [.ref (md 1), .ref (md 2), .ref (md 3), .int (nI hn), .ref (md 4), .ref (md 5), .ref (md 6), .int (nI tl), .int (nI ((m_rd tx tl (tl + 1) 0 ((m_ftl tx tl (tl + 1) 0 nu).2.2) a 0).2.2.1)), .int ((m_rd tx tl (tl + 1) 0 ((m_ftl tx tl (tl + 1) 0 nu).2.2) a 0).2.2.2)])), ((md 1), .inl (cI, 86, .inl ((m_rd tx tl (tl + 1) 0 ((m_ftl tx tl (tl + 1) 0 nu).2.2) a 0).1))), ((md 2), .inl (cI, 86, .inl (va_cpy a kp 0 0 86))), ((md 3), .inl (cI, 516, .inl hs)), ((md 4), .inl (cI, 172, .inl sl)), ((md 5), .inl (cI, 2, .inl iv)), ((md 6), .inl (cI, 60, .inl tx))] := hD
        obtain ⟨f_4, ef_4⟩ : ∃ z9 : Nat → Int32, z9 = (m_rd tx tl (tl + 1) 0 ((m_ftl tx tl (tl + 1) 0 nu).2.2) a 0).1 := ⟨_, rfl⟩
        have hP : va_P D vwCl [((md 0), .inr (4, [.ref (md 1), .ref (md 2), .ref (md 3), .int (nI hn), .ref (md 4), .ref (md 5), .ref (md 6), .int (nI tl), .int (nI ((m_rd tx tl (tl + 1) 0 ((m_ftl tx tl (tl + 1) 0 nu).2.2) a 0).2.2.1)), .int ((m_rd tx tl (tl + 1) 0 ((m_ftl tx tl (tl + 1) 0 nu).2.2) a 0).2.2.2)])), ((md 1), .inl (cI, 86, .inl f_4)), ((md 2), .inl (cI, 86, .inl (va_cpy a kp 0 0 86))), ((md 3), .inl (cI, 516, .inl hs)), ((md 4), .inl (cI, 172, .inl sl)), ((md 5), .inl (cI, 2, .inl iv)), ((md 6), .inl (cI, 60, .inl tx))] H := by rw [ef_4]; exact hP
        have hD : va_D A [((md 0), .inr (4, [.ref (md 1), .ref (md 2), .ref (md 3), .int (nI hn), .ref (md 4), .ref (md 5), .ref (md 6), .int (nI tl), .int (nI ((m_rd tx tl (tl + 1) 0 ((m_ftl tx tl (tl + 1) 0 nu).2.2) a 0).2.2.1)), .int ((m_rd tx tl (tl + 1) 0 ((m_ftl tx tl (tl + 1) 0 nu).2.2) a 0).2.2.2)])), ((md 1), .inl (cI, 86, .inl f_4)), ((md 2), .inl (cI, 86, .inl (va_cpy a kp 0 0 86))), ((md 3), .inl (cI, 516, .inl hs)), ((md 4), .inl (cI, 172, .inl sl)), ((md 5), .inl (cI, 2, .inl iv)), ((md 6), .inl (cI, 60, .inl tx))] := by rw [ef_4]; exact hD
        refine lv_istore_n (pc := 67) (lv' := [(3, .int ((m_rd tx tl (tl + 1) 0 ((m_ftl tx tl (tl + 1) 0 nu).2.2) a 0).2.1)), (2, .int (m_sum a (4 + 0) 6)), (0, .ref (md 0)), (1, .int (nI 0))]) hx hb dX4_ifRead_67 rfl hl (by decide) rfl (fun ls hl => ?_)
        refine lv_iload_n (pc := 68) hx hb dX4_ifRead_68 rfl (lv_at hl 3 rfl) ?_
        refine lv_iconst (pc := 69) (v := 4) hx hb dX4_ifRead_69 (by decide) ?_
        refine lv_icmp_ge (pc := 70) (tgt := 83) hx hb dX4_ifRead_70 (by decide) (fun c_5 => ?_) (fun c_5 => ?_)
        · skip
          have c_5 : 4 ≤ 0 := (nI_leI (a := 4) (b := 0) (by omega) (by omega)).mp c_5
          exact absurd c_5 (by decide)
        · skip
          have c_5 : ¬ (4 ≤ 0) := fun h9 => c_5 ((nI_leI (a := 4) (b := 0) (by omega) (by omega)).mpr h9)
          refine lv_aload_n (pc := 73) hx hb dX4_ifRead_73 rfl (lv_at hl 2 rfl) ?_
          refine lv_iconst (pc := 74) (v := 4) hx hb dX4_ifRead_74 (by decide) ?_
          refine lv_iload_n (pc := 75) hx hb dX4_ifRead_75 rfl (lv_at hl 3 rfl) ?_
          refine lv_iadd (pc := 76) hx hb dX4_ifRead_76 ?_
          refine b_re (nI_add 4 0) ?_
          refine b_cR (pc := 77) (va_runV (As := [.int (nI (4 + 0))]) (rest := []) ⟨hx, hb, hml, hown, hts⟩ (c_X4_allOf l D cI cC cZ cG md f_4 (va_cpy a kp 0 0 86) hs hn sl iv tx tl ((m_rd tx tl (tl + 1) 0 ((m_ftl tx tl (tl + 1) 0 nu).2.2) a 0).2.2.1) ((m_rd tx tl (tl + 1) 0 ((m_ftl tx tl (tl + 1) 0 nu).2.2) a 0).2.2.2) (4 + 0) (by first | omega | assumption)) (cwV 1 hts gX4_ifRead_X4_allOf rfl rfl rfl hy_X4_allOf ⟨Nat.le_of_ble_eq_true rfl, Nat.le_of_ble_eq_true rfl⟩) (b_pRV (wc := [((md 0), .inr (4, [.ref (md 1), .ref (md 2), .ref (md 3), .int (nI hn), .ref (md 4), .ref (md 5), .ref (md 6), .int (nI tl), .int (nI ((m_rd tx tl (tl + 1) 0 ((m_ftl tx tl (tl + 1) 0 nu).2.2) a 0).2.2.1)), .int ((m_rd tx tl (tl + 1) 0 ((m_ftl tx tl (tl + 1) 0 nu).2.2) a 0).2.2.2)])), ((md 1), .inl (cI, 86, .inl f_4)), ((md 2), .inl (cI, 86, .inl (va_cpy a kp 0 0 86))), ((md 3), .inl (cI, 516, .inl hs)), ((md 4), .inl (cI, 172, .inl sl)), ((md 5), .inl (cI, 2, .inl iv)), ((md 6), .inl (cI, 60, .inl tx))]) hK hP [0, 1, 2, 3, 4, 5, 6] rfl (ci := 4) (q0 := 0) rfl rfl) rfl rfl hl.1 rfl (lv_room (Nat.le_of_ble_eq_true rfl)) dX4_ifRead_77 ⟨Nat.zero_le _, Nat.zero_le _⟩) ?_
          refine lv_goto (pc := 80) (tgt := 104) hx hb dX4_ifRead_80 (by decide) ?_
          refine lv_istore (pc := 104) (lv' := [(4, .int (m_sum f_4 (4 + 0) 6)), (3, .int ((m_rd tx tl (tl + 1) 0 ((m_ftl tx tl (tl + 1) 0 nu).2.2) a 0).2.1)), (2, .int (m_sum a (4 + 0) 6)), (0, .ref (md 0)), (1, .int (nI 0))]) hx hb dX4_ifRead_104 hl (by decide) rfl (fun ls hl => ?_)
          refine lv_aload_n (pc := 106) hx hb dX4_ifRead_106 rfl (lv_at hl 3 rfl) ?_
          refine b_cV (pc := 107) (w1 := [((md 0), .inr (4, [.ref (md 1), .ref (md 2), .ref (md 3), .int (nI hn), .ref (md 4), .ref (md 5), .ref (md 6), .int (nI tl), .int (nI ((m_rd tx tl (tl + 1) 0 ((m_ftl tx tl (tl + 1) 0 nu).2.2) a 0).2.2.1)), .int ((m_rd tx tl (tl + 1) 0 ((m_ftl tx tl (tl + 1) 0 nu).2.2) a 0).2.2.2)])), ((md 1), .inl (cI, 86, .inl (va_cpy (va_cpy a kp 0 0 86) f_4 0 0 86))), ((md 2), .inl (cI, 86, .inl (va_cpy a kp 0 0 86))), ((md 3), .inl (cI, 516, .inl hs)), ((md 4), .inl (cI, 172, .inl sl)), ((md 5), .inl (cI, 2, .inl iv)), ((md 6), .inl (cI, 60, .inl tx))]) (va_runV (As := []) (rest := []) ⟨hx, hb, hml, hown, hts⟩ (c_X4_comesBack l D cI cC cZ cG H.size md f_4 (va_cpy a kp 0 0 86) hs hn sl iv tx tl ((m_rd tx tl (tl + 1) 0 ((m_ftl tx tl (tl + 1) 0 nu).2.2) a 0).2.2.1) ((m_rd tx tl (tl + 1) 0 ((m_ftl tx tl (tl + 1) 0 nu).2.2) a 0).2.2.2)) (cwV 0 hts gX4_ifRead_X4_comesBack rfl rfl rfl hy_X4_comesBack ⟨Nat.le_of_ble_eq_true rfl, Nat.le_of_ble_eq_true rfl⟩) (b_pWV (wc := [((md 0), .inr (4, [.ref (md 1), .ref (md 2), .ref (md 3), .int (nI hn), .ref (md 4), .ref (md 5), .ref (md 6), .int (nI tl), .int (nI ((m_rd tx tl (tl + 1) 0 ((m_ftl tx tl (tl + 1) 0 nu).2.2) a 0).2.2.1)), .int ((m_rd tx tl (tl + 1) 0 ((m_ftl tx tl (tl + 1) 0 nu).2.2) a 0).2.2.2)])), ((md 1), .inl (cI, 86, .inl f_4)), ((md 2), .inl (cI, 86, .inl (va_cpy a kp 0 0 86))), ((md 3), .inl (cI, 516, .inl hs)), ((md 4), .inl (cI, 172, .inl sl)), ((md 5), .inl (cI, 2, .inl iv)), ((md 6), .inl (cI, 60, .inl tx))]) hK hP hD b_Xok_0 [0, 1, 2, 3, 4, 5, 6] rfl (by decide) rfl trivial (ci := 4) (q0 := 0) rfl rfl) rfl rfl hl.1 rfl (lv_room (Nat.le_of_ble_eq_true rfl)) dX4_ifRead_107 ⟨Nat.zero_le _, Nat.zero_le _⟩) hP hD hS hA [0, 1, 2, 3, 4, 5, 6] rfl rfl (fun H locs hP hD hS => ?_)
          have hP : va_P D vwCl [((md 0), .inr (4, [.ref (md 1), .ref (md 2), .ref (md 3), .int (nI hn), .ref (md 4), .ref (md 5), .ref (md 6), .int (nI tl), .int (nI ((m_rd tx tl (tl + 1) 0 ((m_ftl tx tl (tl + 1) 0 nu).2.2) a 0).2.2.1)), .int ((m_rd tx tl (tl + 1) 0 ((m_ftl tx tl (tl + 1) 0 nu).2.2) a 0).2.2.2)])), ((md 1), .inl (cI, 86, .inl (va_cpy (va_cpy a kp 0 0 86) f_4 0 0 86))), ((md 2), .inl (cI, 86, .inl (va_cpy a kp 0 0 86))), ((md 3), .inl (cI, 516, .inl hs)), ((md 4), .inl (cI, 172, .inl sl)), ((md 5), .inl (cI, 2, .inl iv)), ((md 6), .inl (cI, 60, .inl tx))] H := hP
          have hD : va_D A [((md 0), .inr (4, [.ref (md 1), .ref (md 2), .ref (md 3), .int (nI hn), .ref (md 4), .ref (md 5), .ref (md 6), .int (nI tl), .int (nI ((m_rd tx tl (tl + 1) 0 ((m_ftl tx tl (tl + 1) 0 nu).2.2) a 0).2.2.1)), .int ((m_rd tx tl (tl + 1) 0 ((m_ftl tx tl (tl + 1) 0 nu).2.2) a 0).2.2.2)])), ((md 1), .inl (cI, 86, .inl (va_cpy (va_cpy a kp 0 0 86) f_4 0 0 86))), ((md 2), .inl (cI, 86, .inl (va_cpy a kp 0 0 86))), ((md 3), .inl (cI, 516, .inl hs)), ((md 4), .inl (cI, 172, .inl sl)), ((md 5), .inl (cI, 2, .inl iv)), ((md 6), .inl (cI, 60, .inl tx))] := hD
          refine lv_iload (pc := 110) hx hb dX4_ifRead_110 (lv_at hl 0 rfl) ?_
          refine lv_iload_n (pc := 112) hx hb dX4_ifRead_112 rfl (lv_at hl 2 rfl) ?_
          refine lv_isub (pc := 113) hx hb dX4_ifRead_113 ?_
          subst ef_4
          subst hQ
          exact b_retW hx hb hr hlocks hS (rfl) (hP) dX4_ifRead_114
    · skip
      have c_2 : ¬ (m_in ((nI 0).toInt64) 0 5) := b_i_0.mp c_2
      exact absurd (m_inN (lo := 0) (hi := 5) (by decide) (by decide) (by omega) (by omega) (by omega) (by omega)) c_2
  · skip
    have c_1 : ¬ (((m_ftl tx tl (tl + 1) 0 nu).1) = (-6)) := c_1
    exact absurd ht c_1
theorem hw_X4_ifRead_1_0 : (.constantLong RX4 36 (5) : Cond) ∈ wsX4_ifRead := by decide +kernel
set_option maxHeartbeats 4000000 in
set_option maxRecDepth 100000 in
theorem c_X4_ifRead_1 (l : Launch) (D : va_G) (cI cC cZ cG : ClassId) (sz : Nat) (md : Nat → Nat) (a : Nat → Int32) (kp : Nat → Int32) (hs : Nat → Int32) (hn : Nat) (sl : Nat → Int32) (iv : Nat → Int32) (tx : Nat → Int32) (tl : Nat) (sp : Nat) (nu : Int32) (htl : tl ≤ 60) (ht : (m_ftl tx tl (tl + 1) 0 nu).1 = -6) : Met l yX4_ifRead wsX4_ifRead ({ frames := 6, cells := 0, slots := 0, locals := 135 } : Room) (b_W D (b_T cI cC cZ cG) b_X0 [((md 0), .inr (4, [.ref (md 1), .ref (md 2), .ref (md 3), .int (nI hn), .ref (md 4), .ref (md 5), .ref (md 6), .int (nI tl), .int (nI sp), .int nu])), ((md 1), .inl (cI, 86, .inl a)), ((md 2), .inl (cI, 86, .inl kp)), ((md 3), .inl (cI, 516, .inl hs)), ((md 4), .inl (cI, 172, .inl sl)), ((md 5), .inl (cI, 2, .inl iv)), ((md 6), .inl (cI, 60, .inl tx))] sz [.ref (md 0), .int (nI 1)]) (b_Qi D (m_sum (m_rdx tx tl nu a).1 (4 + 1) 6 - m_sum a (4 + 1) 6) [((md 0), .inr (4, [.ref (md 1), .ref (md 2), .ref (md 3), .int (nI hn), .ref (md 4), .ref (md 5), .ref (md 6), .int (nI tl), .int (nI ((m_rdx tx tl nu a).2.2.1)), .int ((m_rdx tx tl nu a).2.2.2)])), ((md 1), .inl (cI, 86, .inl (va_cpy (va_cpy a kp 0 0 86) (m_rdx tx tl nu a).1 0 0 86))), ((md 2), .inl (cI, 86, .inl (va_cpy a kp 0 0 86))), ((md 3), .inl (cI, 516, .inl hs)), ((md 4), .inl (cI, 172, .inl sl)), ((md 5), .inl (cI, 2, .inl iv)), ((md 6), .inl (cI, 60, .inl tx))] (va_A [((md 0), .inr (4, [.ref (md 1), .ref (md 2), .ref (md 3), .int (nI hn), .ref (md 4), .ref (md 5), .ref (md 6), .int (nI tl), .int (nI sp), .int nu])), ((md 1), .inl (cI, 86, .inl a)), ((md 2), .inl (cI, 86, .inl kp)), ((md 3), .inl (cI, 516, .inl hs)), ((md 4), .inl (cI, 172, .inl sl)), ((md 5), .inl (cI, 2, .inl iv)), ((md 6), .inl (cI, 60, .inl tx))] sz)) 0 0 (va_A [((md 0), .inr (4, [.ref (md 1), .ref (md 2), .ref (md 3), .int (nI hn), .ref (md 4), .ref (md 5), .ref (md 6), .int (nI tl), .int (nI sp), .int nu])), ((md 1), .inl (cI, 86, .inl a)), ((md 2), .inl (cI, 86, .inl kp)), ((md 3), .inl (cI, 516, .inl hs)), ((md 4), .inl (cI, 172, .inl sl)), ((md 5), .inl (cI, 2, .inl iv)), ((md 6), .inl (cI, 60, .inl tx))] sz) := by
  refine b_enterW (Qc := fun A => b_Qi D (m_sum (m_rdx tx tl nu a).1 (4 + 1) 6 - m_sum a (4 + 1) 6) [((md 0), .inr (4, [.ref (md 1), .ref (md 2), .ref (md 3), .int (nI hn), .ref (md 4), .ref (md 5), .ref (md 6), .int (nI tl), .int (nI ((m_rdx tx tl nu a).2.2.1)), .int ((m_rdx tx tl nu a).2.2.2)])), ((md 1), .inl (cI, 86, .inl (va_cpy (va_cpy a kp 0 0 86) (m_rdx tx tl nu a).1 0 0 86))), ((md 2), .inl (cI, 86, .inl (va_cpy a kp 0 0 86))), ((md 3), .inl (cI, 516, .inl hs)), ((md 4), .inl (cI, 172, .inl sl)), ((md 5), .inl (cI, 2, .inl iv)), ((md 6), .inl (cI, 60, .inl tx))] A) (cc := cX4_ifRead) (maxL := 5) (ret := (some .int)) (by decide) rfl (Nat.le_of_ble_eq_true rfl) ?_
  intro p e s m below meth c ls A hx hb hr hml hown hts hlocks hname hP hK hD hA hS hX hl Q hQ
  have hown : s.vm.findClass RX4 = some m.cls := hown
  have hl : lv_has ls 5 [(0, .ref (md 0)), (1, .int (nI 1))] := hl
  refine lv_aload_n (pc := 0) hx hb dX4_ifRead_0 rfl (lv_at hl 0 rfl) ?_
  refine b_cW (pc := 1) (w1 := [((md 0), .inr (4, [.ref (md 1), .ref (md 2), .ref (md 3), .int (nI hn), .ref (md 4), .ref (md 5), .ref (md 6), .int (nI tl), .int (nI ((m_ftl tx tl (tl + 1) 0 nu).2.1)), .int ((m_ftl tx tl (tl + 1) 0 nu).2.2)])), ((md 1), .inl (cI, 86, .inl a)), ((md 2), .inl (cI, 86, .inl kp)), ((md 3), .inl (cI, 516, .inl hs)), ((md 4), .inl (cI, 172, .inl sl)), ((md 5), .inl (cI, 2, .inl iv)), ((md 6), .inl (cI, 60, .inl tx))]) (va_runV (As := []) (rest := []) ⟨hx, hb, hml, hown, hts⟩ (c_X4_fault l D cI cC cZ cG s.heap.size md a kp hs hn sl iv tx tl sp nu (by first | omega | assumption)) (cwV 0 hts gX4_ifRead_X4_fault rfl rfl rfl hy_X4_fault ⟨Nat.le_of_ble_eq_true rfl, Nat.le_of_ble_eq_true rfl⟩) (b_pWV (wc := [((md 0), .inr (4, [.ref (md 1), .ref (md 2), .ref (md 3), .int (nI hn), .ref (md 4), .ref (md 5), .ref (md 6), .int (nI tl), .int (nI sp), .int nu])), ((md 1), .inl (cI, 86, .inl a)), ((md 2), .inl (cI, 86, .inl kp)), ((md 3), .inl (cI, 516, .inl hs)), ((md 4), .inl (cI, 172, .inl sl)), ((md 5), .inl (cI, 2, .inl iv)), ((md 6), .inl (cI, 60, .inl tx))]) hK hP hD b_Xok_0 [0, 1, 2, 3, 4, 5, 6] rfl (by decide) rfl trivial (ci := 4) (q0 := 0) rfl rfl) rfl rfl hl.1 rfl (lv_room (Nat.le_of_ble_eq_true rfl)) dX4_ifRead_1 ⟨Nat.zero_le _, Nat.zero_le _⟩) hP hD hS hA [0, 1, 2, 3, 4, 5, 6] rfl rfl (fun H locs hP hD hS => ?_)
  have hP : va_P D vwCl [((md 0), .inr (4, [.ref (md 1), .ref (md 2), .ref (md 3), .int (nI hn), .ref (md 4), .ref (md 5), .ref (md 6), .int (nI tl), .int (nI ((m_ftl tx tl (tl + 1) 0 nu).2.1)), .int ((m_ftl tx tl (tl + 1) 0 nu).2.2)])), ((md 1), .inl (cI, 86, .inl a)), ((md 2), .inl (cI, 86, .inl kp)), ((md 3), .inl (cI, 516, .inl hs)), ((md 4), .inl (cI, 172, .inl sl)), ((md 5), .inl (cI, 2, .inl iv)), ((md 6), .inl (cI, 60, .inl tx))] H := hP
  have hD : va_D A [((md 0), .inr (4, [.ref (md 1), .ref (md 2), .ref (md 3), .int (nI hn), .ref (md 4), .ref (md 5), .ref (md 6), .int (nI tl), .int (nI ((m_ftl tx tl (tl + 1) 0 nu).2.1)), .int ((m_ftl tx tl (tl + 1) 0 nu).2.2)])), ((md 1), .inl (cI, 86, .inl a)), ((md 2), .inl (cI, 86, .inl kp)), ((md 3), .inl (cI, 516, .inl hs)), ((md 4), .inl (cI, 172, .inl sl)), ((md 5), .inl (cI, 2, .inl iv)), ((md 6), .inl (cI, 60, .inl tx))] := hD
  refine lv_bipush (pc := 4) (v := (-6)) hx hb dX4_ifRead_4 (by decide) ?_
  refine lv_icmp_eq (pc := 6) (tgt := 12) hx hb dX4_ifRead_6 (by decide) (fun c_1 => ?_) (fun c_1 => ?_)
  · skip
    have c_1 : ((m_ftl tx tl (tl + 1) 0 nu).1) = (-6) := c_1
    refine lv_iload_n (pc := 12) hx hb dX4_ifRead_12 rfl (lv_at hl 1 rfl) ?_
    refine lv_i2l (pc := 13) hx hb dX4_ifRead_13 rfl ?_
    refine lv_lconst (pc := 14) (v := 0) hx hb dX4_ifRead_14 (by decide) ?_
    refine lv_ldc2 (pc := 15) hx hb hown (hts _ hw_X4_ifRead_1_0) dX4_ifRead_15 ?_
    refine b_cR (pc := 18) (va_runS (As := [.long ((nI 1).toInt64), .long 0, .long 5]) (rest := []) ⟨hx, hb, hml, hown, hts⟩ (c_X4_in l D cI cC cZ cG ((nI 1).toInt64) 0 5) (va_cwS 3 hts gX4_ifRead_X4_in rfl rfl rfl hyS_X4_in ⟨Nat.le_of_ble_eq_true rfl, Nat.le_of_ble_eq_true rfl⟩) (b_pRS (wc := []) hK hP [] rfl) rfl rfl hl.1 rfl (lv_room (Nat.le_of_ble_eq_true rfl)) dX4_ifRead_18 ⟨Nat.zero_le _, Nat.zero_le _⟩) ?_
    refine lv_if_ne (pc := 21) (tgt := 27) hx hb dX4_ifRead_21 (by decide) (fun c_2 => ?_) (fun c_2 => ?_)
    · skip
      have c_2 : m_in ((nI 1).toInt64) 0 5 := Classical.not_not.mp (fun h9 => c_2 (b_i_0.mpr h9))
      refine lv_iload_n (pc := 27) hx hb dX4_ifRead_27 rfl (lv_at hl 1 rfl) ?_
      refine lv_iconst (pc := 28) (v := 4) hx hb dX4_ifRead_28 (by decide) ?_
      refine lv_icmp_ge (pc := 29) (tgt := 42) hx hb dX4_ifRead_29 (by decide) (fun c_3 => ?_) (fun c_3 => ?_)
      · skip
        have c_3 : 4 ≤ 1 := (nI_leI (a := 4) (b := 1) (by omega) (by omega)).mp c_3
        exact absurd c_3 (by decide)
      · skip
        have c_3 : ¬ (4 ≤ 1) := fun h9 => c_3 ((nI_leI (a := 4) (b := 1) (by omega) (by omega)).mpr h9)
        refine lv_aload_n (pc := 32) hx hb dX4_ifRead_32 rfl (lv_at hl 0 rfl) ?_
        refine lv_iconst (pc := 33) (v := 4) hx hb dX4_ifRead_33 (by decide) ?_
        refine lv_iload_n (pc := 34) hx hb dX4_ifRead_34 rfl (lv_at hl 1 rfl) ?_
        refine lv_iadd (pc := 35) hx hb dX4_ifRead_35 ?_
        refine b_re (nI_add 4 1) ?_
        refine b_cR (pc := 36) (va_runV (As := [.int (nI (4 + 1))]) (rest := []) ⟨hx, hb, hml, hown, hts⟩ (c_X4_allOf l D cI cC cZ cG md a kp hs hn sl iv tx tl ((m_ftl tx tl (tl + 1) 0 nu).2.1) ((m_ftl tx tl (tl + 1) 0 nu).2.2) (4 + 1) (by first | omega | assumption)) (cwV 1 hts gX4_ifRead_X4_allOf rfl rfl rfl hy_X4_allOf ⟨Nat.le_of_ble_eq_true rfl, Nat.le_of_ble_eq_true rfl⟩) (b_pRV (wc := [((md 0), .inr (4, [.ref (md 1), .ref (md 2), .ref (md 3), .int (nI hn), .ref (md 4), .ref (md 5), .ref (md 6), .int (nI tl), .int (nI ((m_ftl tx tl (tl + 1) 0 nu).2.1)), .int ((m_ftl tx tl (tl + 1) 0 nu).2.2)])), ((md 1), .inl (cI, 86, .inl a)), ((md 2), .inl (cI, 86, .inl kp)), ((md 3), .inl (cI, 516, .inl hs)), ((md 4), .inl (cI, 172, .inl sl)), ((md 5), .inl (cI, 2, .inl iv)), ((md 6), .inl (cI, 60, .inl tx))]) hK hP [0, 1, 2, 3, 4, 5, 6] rfl (ci := 4) (q0 := 0) rfl rfl) rfl rfl hl.1 rfl (lv_room (Nat.le_of_ble_eq_true rfl)) dX4_ifRead_36 ⟨Nat.zero_le _, Nat.zero_le _⟩) ?_
        refine lv_goto (pc := 39) (tgt := 58) hx hb dX4_ifRead_39 (by decide) ?_
        refine lv_istore_n (pc := 58) (lv' := [(2, .int (m_sum a (4 + 1) 6)), (0, .ref (md 0)), (1, .int (nI 1))]) hx hb dX4_ifRead_58 rfl hl (by decide) rfl (fun ls hl => ?_)
        refine lv_aload_n (pc := 59) hx hb dX4_ifRead_59 rfl (lv_at hl 1 rfl) ?_
        refine b_cV (pc := 60) (w1 := [((md 0), .inr (4, [.ref (md 1), .ref (md 2), .ref (md 3), .int (nI hn), .ref (md 4), .ref (md 5), .ref (md 6), .int (nI tl), .int (nI ((m_ftl tx tl (tl + 1) 0 nu).2.1)), .int ((m_ftl tx tl (tl + 1) 0 nu).2.2)])), ((md 1), .inl (cI, 86, .inl a)), ((md 2), .inl (cI, 86, .inl (va_cpy a kp 0 0 86))), ((md 3), .inl (cI, 516, .inl hs)), ((md 4), .inl (cI, 172, .inl sl)), ((md 5), .inl (cI, 2, .inl iv)), ((md 6), .inl (cI, 60, .inl tx))]) (va_runV (As := []) (rest := []) ⟨hx, hb, hml, hown, hts⟩ (c_X4_keeps l D cI cC cZ cG H.size md a kp hs hn sl iv tx tl ((m_ftl tx tl (tl + 1) 0 nu).2.1) ((m_ftl tx tl (tl + 1) 0 nu).2.2)) (cwV 0 hts gX4_ifRead_X4_keeps rfl rfl rfl hy_X4_keeps ⟨Nat.le_of_ble_eq_true rfl, Nat.le_of_ble_eq_true rfl⟩) (b_pWV (wc := [((md 0), .inr (4, [.ref (md 1), .ref (md 2), .ref (md 3), .int (nI hn), .ref (md 4), .ref (md 5), .ref (md 6), .int (nI tl), .int (nI ((m_ftl tx tl (tl + 1) 0 nu).2.1)), .int ((m_ftl tx tl (tl + 1) 0 nu).2.2)])), ((md 1), .inl (cI, 86, .inl a)), ((md 2), .inl (cI, 86, .inl kp)), ((md 3), .inl (cI, 516, .inl hs)), ((md 4), .inl (cI, 172, .inl sl)), ((md 5), .inl (cI, 2, .inl iv)), ((md 6), .inl (cI, 60, .inl tx))]) hK hP hD b_Xok_0 [0, 1, 2, 3, 4, 5, 6] rfl (by decide) rfl trivial (ci := 4) (q0 := 0) rfl rfl) rfl rfl hl.1 rfl (lv_room (Nat.le_of_ble_eq_true rfl)) dX4_ifRead_60 ⟨Nat.zero_le _, Nat.zero_le _⟩) hP hD hS hA [0, 1, 2, 3, 4, 5, 6] rfl rfl (fun H locs hP hD hS => ?_)
        have hP : va_P D vwCl [((md 0), .inr (4, [.ref (md 1), .ref (md 2), .ref (md 3), .int (nI hn), .ref (md 4), .ref (md 5), .ref (md 6), .int (nI tl), .int (nI ((m_ftl tx tl (tl + 1) 0 nu).2.1)), .int ((m_ftl tx tl (tl + 1) 0 nu).2.2)])), ((md 1), .inl (cI, 86, .inl a)), ((md 2), .inl (cI, 86, .inl (va_cpy a kp 0 0 86))), ((md 3), .inl (cI, 516, .inl hs)), ((md 4), .inl (cI, 172, .inl sl)), ((md 5), .inl (cI, 2, .inl iv)), ((md 6), .inl (cI, 60, .inl tx))] H := hP
        have hD : va_D A [((md 0), .inr (4, [.ref (md 1), .ref (md 2), .ref (md 3), .int (nI hn), .ref (md 4), .ref (md 5), .ref (md 6), .int (nI tl), .int (nI ((m_ftl tx tl (tl + 1) 0 nu).2.1)), .int ((m_ftl tx tl (tl + 1) 0 nu).2.2)])), ((md 1), .inl (cI, 86, .inl a)), ((md 2), .inl (cI, 86, .inl (va_cpy a kp 0 0 86))), ((md 3), .inl (cI, 516, .inl hs)), ((md 4), .inl (cI, 172, .inl sl)), ((md 5), .inl (cI, 2, .inl iv)), ((md 6), .inl (cI, 60, .inl tx))] := hD
        refine lv_aload_n (pc := 63) hx hb dX4_ifRead_63 rfl (lv_at hl 1 rfl) ?_
        refine b_cW (pc := 64) (w1 := [((md 0), .inr (4, [.ref (md 1), .ref (md 2), .ref (md 3), .int (nI hn), .ref (md 4), .ref (md 5), .ref (md 6), .int (nI tl), .int (nI ((m_rd tx tl (tl + 1) 0 ((m_ftl tx tl (tl + 1) 0 nu).2.2) a 0).2.2.1)), .int ((m_rd tx tl (tl + 1) 0 ((m_ftl tx tl (tl + 1) 0 nu).2.2) a 0).2.2.2)])), ((md 1), .inl (cI, 86, .inl ((m_rd tx tl (tl + 1) 0 ((m_ftl tx tl (tl + 1) 0 nu).2.2) a 0).1))), ((md 2), .inl (cI, 86, .inl (va_cpy a kp 0 0 86))), ((md 3), .inl (cI, 516, .inl hs)), ((md 4), .inl (cI, 172, .inl sl)), ((md 5), .inl (cI, 2, .inl iv)), ((md 6), .inl (cI, 60, .inl tx))]) (va_runV (As := []) (rest := []) ⟨hx, hb, hml, hown, hts⟩ (c_X4_reads l D cI cC cZ cG H.size md a (va_cpy a kp 0 0 86) hs hn sl iv tx tl ((m_ftl tx tl (tl + 1) 0 nu).2.1) ((m_ftl tx tl (tl + 1) 0 nu).2.2) (by first | omega | assumption) ((m_ftl_nu (tl + 1) 0 _ nu).trans ht)) (cwV 0 hts gX4_ifRead_X4_reads rfl rfl rfl hy_X4_reads ⟨Nat.le_of_ble_eq_true rfl, Nat.le_of_ble_eq_true rfl⟩) (b_pWV (wc := [((md 0), .inr (4, [.ref (md 1), .ref (md 2), .ref (md 3), .int (nI hn), .ref (md 4), .ref (md 5), .ref (md 6), .int (nI tl), .int (nI ((m_ftl tx tl (tl + 1) 0 nu).2.1)), .int ((m_ftl tx tl (tl + 1) 0 nu).2.2)])), ((md 1), .inl (cI, 86, .inl a)), ((md 2), .inl (cI, 86, .inl (va_cpy a kp 0 0 86))), ((md 3), .inl (cI, 516, .inl hs)), ((md 4), .inl (cI, 172, .inl sl)), ((md 5), .inl (cI, 2, .inl iv)), ((md 6), .inl (cI, 60, .inl tx))]) hK hP hD b_Xok_0 [0, 1, 2, 3, 4, 5, 6] rfl (by decide) rfl trivial (ci := 4) (q0 := 0) rfl rfl) rfl rfl hl.1 rfl (lv_room (Nat.le_of_ble_eq_true rfl)) dX4_ifRead_64 ⟨Nat.zero_le _, Nat.zero_le _⟩) hP hD hS hA [0, 1, 2, 3, 4, 5, 6] rfl rfl (fun H locs hP hD hS => ?_)
        have hP : va_P D vwCl [((md 0), .inr (4, [.ref (md 1), .ref (md 2), .ref (md 3), .int (nI hn), .ref (md 4), .ref (md 5), .ref (md 6), .int (nI tl), .int (nI ((m_rd tx tl (tl + 1) 0 ((m_ftl tx tl (tl + 1) 0 nu).2.2) a 0).2.2.1)), .int ((m_rd tx tl (tl + 1) 0 ((m_ftl tx tl (tl + 1) 0 nu).2.2) a 0).2.2.2)])), ((md 1), .inl (cI, 86, .inl ((m_rd tx tl (tl + 1) 0 ((m_ftl tx tl (tl + 1) 0 nu).2.2) a 0).1))), ((md 2), .inl (cI, 86, .inl (va_cpy a kp 0 0 86))), ((md 3), .inl (cI, 516, .inl hs)), ((md 4), .inl (cI, 172, .inl sl)), ((md 5), .inl (cI, 2, .inl iv)), ((md 6), .inl (cI, 60, .inl tx))] H := hP
        have hD : va_D A [((md 0), .inr (4, [.ref (md 1), .ref (md 2), .ref (md 3), .int (nI hn), .ref (md 4), .ref (md 5), .ref (md 6), .int (nI tl), .int (nI ((m_rd tx tl (tl + 1) 0 ((m_ftl tx tl (tl + 1) 0 nu).2.2) a 0).2.2.1)), .int ((m_rd tx tl (tl + 1) 0 ((m_ftl tx tl (tl + 1) 0 nu).2.2) a 0).2.2.2)])), ((md 1), .inl (cI, 86, .inl ((m_rd tx tl (tl + 1) 0 ((m_ftl tx tl (tl + 1) 0 nu).2.2) a 0).1))), ((md 2), .inl (cI, 86, .inl (va_cpy a kp 0 0 86))), ((md 3), .inl (cI, 516, .inl hs)), ((md 4), .inl (cI, 172, .inl sl)), ((md 5), .inl (cI, 2, .inl iv)), ((md 6), .inl (cI, 60, .inl tx))] := hD
        obtain ⟨f_4, ef_4⟩ : ∃ z9 : Nat → Int32, z9 = (m_rd tx tl (tl + 1) 0 ((m_ftl tx tl (tl + 1) 0 nu).2.2) a 0).1 := ⟨_, rfl⟩
        have hP : va_P D vwCl [((md 0), .inr (4, [.ref (md 1), .ref (md 2), .ref (md 3), .int (nI hn), .ref (md 4), .ref (md 5), .ref (md 6), .int (nI tl), .int (nI ((m_rd tx tl (tl + 1) 0 ((m_ftl tx tl (tl + 1) 0 nu).2.2) a 0).2.2.1)), .int ((m_rd tx tl (tl + 1) 0 ((m_ftl tx tl (tl + 1) 0 nu).2.2) a 0).2.2.2)])), ((md 1), .inl (cI, 86, .inl f_4)), ((md 2), .inl (cI, 86, .inl (va_cpy a kp 0 0 86))), ((md 3), .inl (cI, 516, .inl hs)), ((md 4), .inl (cI, 172, .inl sl)), ((md 5), .inl (cI, 2, .inl iv)), ((md 6), .inl (cI, 60, .inl tx))] H := by rw [ef_4]; exact hP
        have hD : va_D A [((md 0), .inr (4, [.ref (md 1), .ref (md 2), .ref (md 3), .int (nI hn), .ref (md 4), .ref (md 5), .ref (md 6), .int (nI tl), .int (nI ((m_rd tx tl (tl + 1) 0 ((m_ftl tx tl (tl + 1) 0 nu).2.2) a 0).2.2.1)), .int ((m_rd tx tl (tl + 1) 0 ((m_ftl tx tl (tl + 1) 0 nu).2.2) a 0).2.2.2)])), ((md 1), .inl (cI, 86, .inl f_4)), ((md 2), .inl (cI, 86, .inl (va_cpy a kp 0 0 86))), ((md 3), .inl (cI, 516, .inl hs)), ((md 4), .inl (cI, 172, .inl sl)), ((md 5), .inl (cI, 2, .inl iv)), ((md 6), .inl (cI, 60, .inl tx))] := by rw [ef_4]; exact hD
        refine lv_istore_n (pc := 67) (lv' := [(3, .int ((m_rd tx tl (tl + 1) 0 ((m_ftl tx tl (tl + 1) 0 nu).2.2) a 0).2.1)), (2, .int (m_sum a (4 + 1) 6)), (0, .ref (md 0)), (1, .int (nI 1))]) hx hb dX4_ifRead_67 rfl hl (by decide) rfl (fun ls hl => ?_)
        refine lv_iload_n (pc := 68) hx hb dX4_ifRead_68 rfl (lv_at hl 3 rfl) ?_
        refine lv_iconst (pc := 69) (v := 4) hx hb dX4_ifRead_69 (by decide) ?_
        refine lv_icmp_ge (pc := 70) (tgt := 83) hx hb dX4_ifRead_70 (by decide) (fun c_5 => ?_) (fun c_5 => ?_)
        · skip
          have c_5 : 4 ≤ 1 := (nI_leI (a := 4) (b := 1) (by omega) (by omega)).mp c_5
          exact absurd c_5 (by decide)
        · skip
          have c_5 : ¬ (4 ≤ 1) := fun h9 => c_5 ((nI_leI (a := 4) (b := 1) (by omega) (by omega)).mpr h9)
          refine lv_aload_n (pc := 73) hx hb dX4_ifRead_73 rfl (lv_at hl 2 rfl) ?_
          refine lv_iconst (pc := 74) (v := 4) hx hb dX4_ifRead_74 (by decide) ?_
          refine lv_iload_n (pc := 75) hx hb dX4_ifRead_75 rfl (lv_at hl 3 rfl) ?_
          refine lv_iadd (pc := 76) hx hb dX4_ifRead_76 ?_
          refine b_re (nI_add 4 1) ?_
          refine b_cR (pc := 77) (va_runV (As := [.int (nI (4 + 1))]) (rest := []) ⟨hx, hb, hml, hown, hts⟩ (c_X4_allOf l D cI cC cZ cG md f_4 (va_cpy a kp 0 0 86) hs hn sl iv tx tl ((m_rd tx tl (tl + 1) 0 ((m_ftl tx tl (tl + 1) 0 nu).2.2) a 0).2.2.1) ((m_rd tx tl (tl + 1) 0 ((m_ftl tx tl (tl + 1) 0 nu).2.2) a 0).2.2.2) (4 + 1) (by first | omega | assumption)) (cwV 1 hts gX4_ifRead_X4_allOf rfl rfl rfl hy_X4_allOf ⟨Nat.le_of_ble_eq_true rfl, Nat.le_of_ble_eq_true rfl⟩) (b_pRV (wc := [((md 0), .inr (4, [.ref (md 1), .ref (md 2), .ref (md 3), .int (nI hn), .ref (md 4), .ref (md 5), .ref (md 6), .int (nI tl), .int (nI ((m_rd tx tl (tl + 1) 0 ((m_ftl tx tl (tl + 1) 0 nu).2.2) a 0).2.2.1)), .int ((m_rd tx tl (tl + 1) 0 ((m_ftl tx tl (tl + 1) 0 nu).2.2) a 0).2.2.2)])), ((md 1), .inl (cI, 86, .inl f_4)), ((md 2), .inl (cI, 86, .inl (va_cpy a kp 0 0 86))), ((md 3), .inl (cI, 516, .inl hs)), ((md 4), .inl (cI, 172, .inl sl)), ((md 5), .inl (cI, 2, .inl iv)), ((md 6), .inl (cI, 60, .inl tx))]) hK hP [0, 1, 2, 3, 4, 5, 6] rfl (ci := 4) (q0 := 0) rfl rfl) rfl rfl hl.1 rfl (lv_room (Nat.le_of_ble_eq_true rfl)) dX4_ifRead_77 ⟨Nat.zero_le _, Nat.zero_le _⟩) ?_
          refine lv_goto (pc := 80) (tgt := 104) hx hb dX4_ifRead_80 (by decide) ?_
          refine lv_istore (pc := 104) (lv' := [(4, .int (m_sum f_4 (4 + 1) 6)), (3, .int ((m_rd tx tl (tl + 1) 0 ((m_ftl tx tl (tl + 1) 0 nu).2.2) a 0).2.1)), (2, .int (m_sum a (4 + 1) 6)), (0, .ref (md 0)), (1, .int (nI 1))]) hx hb dX4_ifRead_104 hl (by decide) rfl (fun ls hl => ?_)
          refine lv_aload_n (pc := 106) hx hb dX4_ifRead_106 rfl (lv_at hl 3 rfl) ?_
          refine b_cV (pc := 107) (w1 := [((md 0), .inr (4, [.ref (md 1), .ref (md 2), .ref (md 3), .int (nI hn), .ref (md 4), .ref (md 5), .ref (md 6), .int (nI tl), .int (nI ((m_rd tx tl (tl + 1) 0 ((m_ftl tx tl (tl + 1) 0 nu).2.2) a 0).2.2.1)), .int ((m_rd tx tl (tl + 1) 0 ((m_ftl tx tl (tl + 1) 0 nu).2.2) a 0).2.2.2)])), ((md 1), .inl (cI, 86, .inl (va_cpy (va_cpy a kp 0 0 86) f_4 0 0 86))), ((md 2), .inl (cI, 86, .inl (va_cpy a kp 0 0 86))), ((md 3), .inl (cI, 516, .inl hs)), ((md 4), .inl (cI, 172, .inl sl)), ((md 5), .inl (cI, 2, .inl iv)), ((md 6), .inl (cI, 60, .inl tx))]) (va_runV (As := []) (rest := []) ⟨hx, hb, hml, hown, hts⟩ (c_X4_comesBack l D cI cC cZ cG H.size md f_4 (va_cpy a kp 0 0 86) hs hn sl iv tx tl ((m_rd tx tl (tl + 1) 0 ((m_ftl tx tl (tl + 1) 0 nu).2.2) a 0).2.2.1) ((m_rd tx tl (tl + 1) 0 ((m_ftl tx tl (tl + 1) 0 nu).2.2) a 0).2.2.2)) (cwV 0 hts gX4_ifRead_X4_comesBack rfl rfl rfl hy_X4_comesBack ⟨Nat.le_of_ble_eq_true rfl, Nat.le_of_ble_eq_true rfl⟩) (b_pWV (wc := [((md 0), .inr (4, [.ref (md 1), .ref (md 2), .ref (md 3), .int (nI hn), .ref (md 4), .ref (md 5), .ref (md 6), .int (nI tl), .int (nI ((m_rd tx tl (tl + 1) 0 ((m_ftl tx tl (tl + 1) 0 nu).2.2) a 0).2.2.1)), .int ((m_rd tx tl (tl + 1) 0 ((m_ftl tx tl (tl + 1) 0 nu).2.2) a 0).2.2.2)])), ((md 1), .inl (cI, 86, .inl f_4)), ((md 2), .inl (cI, 86, .inl (va_cpy a kp 0 0 86))), ((md 3), .inl (cI, 516, .inl hs)), ((md 4), .inl (cI, 172, .inl sl)), ((md 5), .inl (cI, 2, .inl iv)), ((md 6), .inl (cI, 60, .inl tx))]) hK hP hD b_Xok_0 [0, 1, 2, 3, 4, 5, 6] rfl (by decide) rfl trivial (ci := 4) (q0 := 0) rfl rfl) rfl rfl hl.1 rfl (lv_room (Nat.le_of_ble_eq_true rfl)) dX4_ifRead_107 ⟨Nat.zero_le _, Nat.zero_le _⟩) hP hD hS hA [0, 1, 2, 3, 4, 5, 6] rfl rfl (fun H locs hP hD hS => ?_)
          have hP : va_P D vwCl [((md 0), .inr (4, [.ref (md 1), .ref (md 2), .ref (md 3), .int (nI hn), .ref (md 4), .ref (md 5), .ref (md 6), .int (nI tl), .int (nI ((m_rd tx tl (tl + 1) 0 ((m_ftl tx tl (tl + 1) 0 nu).2.2) a 0).2.2.1)), .int ((m_rd tx tl (tl + 1) 0 ((m_ftl tx tl (tl + 1) 0 nu).2.2) a 0).2.2.2)])), ((md 1), .inl (cI, 86, .inl (va_cpy (va_cpy a kp 0 0 86) f_4 0 0 86))), ((md 2), .inl (cI, 86, .inl (va_cpy a kp 0 0 86))), ((md 3), .inl (cI, 516, .inl hs)), ((md 4), .inl (cI, 172, .inl sl)), ((md 5), .inl (cI, 2, .inl iv)), ((md 6), .inl (cI, 60, .inl tx))] H := hP
          have hD : va_D A [((md 0), .inr (4, [.ref (md 1), .ref (md 2), .ref (md 3), .int (nI hn), .ref (md 4), .ref (md 5), .ref (md 6), .int (nI tl), .int (nI ((m_rd tx tl (tl + 1) 0 ((m_ftl tx tl (tl + 1) 0 nu).2.2) a 0).2.2.1)), .int ((m_rd tx tl (tl + 1) 0 ((m_ftl tx tl (tl + 1) 0 nu).2.2) a 0).2.2.2)])), ((md 1), .inl (cI, 86, .inl (va_cpy (va_cpy a kp 0 0 86) f_4 0 0 86))), ((md 2), .inl (cI, 86, .inl (va_cpy a kp 0 0 86))), ((md 3), .inl (cI, 516, .inl hs)), ((md 4), .inl (cI, 172, .inl sl)), ((md 5), .inl (cI, 2, .inl iv)), ((md 6), .inl (cI, 60, .inl tx))] := hD
          refine lv_iload (pc := 110) hx hb dX4_ifRead_110 (lv_at hl 0 rfl) ?_
          refine lv_iload_n (pc := 112) hx hb dX4_ifRead_112 rfl (lv_at hl 2 rfl) ?_
          refine lv_isub (pc := 113) hx hb dX4_ifRead_113 ?_
          subst ef_4
          subst hQ
          exact b_retW hx hb hr hlocks hS (rfl) (hP) dX4_ifRead_114
    · skip
      have c_2 : ¬ (m_in ((nI 1).toInt64) 0 5) := b_i_0.mp c_2
      exact absurd (m_inN (lo := 0) (hi := 5) (by decide) (by decide) (by omega) (by omega) (by omega) (by omega)) c_2
  · skip
    have c_1 : ¬ (((m_ftl tx tl (tl + 1) 0 nu).1) = (-6)) := c_1
    exact absurd ht c_1
theorem hw_X4_ifRead_2_0 : (.constantLong RX4 36 (5) : Cond) ∈ wsX4_ifRead := by decide +kernel
set_option maxHeartbeats 4000000 in
set_option maxRecDepth 100000 in
theorem c_X4_ifRead_2 (l : Launch) (D : va_G) (cI cC cZ cG : ClassId) (sz : Nat) (md : Nat → Nat) (a : Nat → Int32) (kp : Nat → Int32) (hs : Nat → Int32) (hn : Nat) (sl : Nat → Int32) (iv : Nat → Int32) (tx : Nat → Int32) (tl : Nat) (sp : Nat) (nu : Int32) (htl : tl ≤ 60) (ht : (m_ftl tx tl (tl + 1) 0 nu).1 = -6) : Met l yX4_ifRead wsX4_ifRead ({ frames := 6, cells := 0, slots := 0, locals := 135 } : Room) (b_W D (b_T cI cC cZ cG) b_X0 [((md 0), .inr (4, [.ref (md 1), .ref (md 2), .ref (md 3), .int (nI hn), .ref (md 4), .ref (md 5), .ref (md 6), .int (nI tl), .int (nI sp), .int nu])), ((md 1), .inl (cI, 86, .inl a)), ((md 2), .inl (cI, 86, .inl kp)), ((md 3), .inl (cI, 516, .inl hs)), ((md 4), .inl (cI, 172, .inl sl)), ((md 5), .inl (cI, 2, .inl iv)), ((md 6), .inl (cI, 60, .inl tx))] sz [.ref (md 0), .int (nI 2)]) (b_Qi D (m_sum (m_rdx tx tl nu a).1 (4 + 2) 6 - m_sum a (4 + 2) 6) [((md 0), .inr (4, [.ref (md 1), .ref (md 2), .ref (md 3), .int (nI hn), .ref (md 4), .ref (md 5), .ref (md 6), .int (nI tl), .int (nI ((m_rdx tx tl nu a).2.2.1)), .int ((m_rdx tx tl nu a).2.2.2)])), ((md 1), .inl (cI, 86, .inl (va_cpy (va_cpy a kp 0 0 86) (m_rdx tx tl nu a).1 0 0 86))), ((md 2), .inl (cI, 86, .inl (va_cpy a kp 0 0 86))), ((md 3), .inl (cI, 516, .inl hs)), ((md 4), .inl (cI, 172, .inl sl)), ((md 5), .inl (cI, 2, .inl iv)), ((md 6), .inl (cI, 60, .inl tx))] (va_A [((md 0), .inr (4, [.ref (md 1), .ref (md 2), .ref (md 3), .int (nI hn), .ref (md 4), .ref (md 5), .ref (md 6), .int (nI tl), .int (nI sp), .int nu])), ((md 1), .inl (cI, 86, .inl a)), ((md 2), .inl (cI, 86, .inl kp)), ((md 3), .inl (cI, 516, .inl hs)), ((md 4), .inl (cI, 172, .inl sl)), ((md 5), .inl (cI, 2, .inl iv)), ((md 6), .inl (cI, 60, .inl tx))] sz)) 0 0 (va_A [((md 0), .inr (4, [.ref (md 1), .ref (md 2), .ref (md 3), .int (nI hn), .ref (md 4), .ref (md 5), .ref (md 6), .int (nI tl), .int (nI sp), .int nu])), ((md 1), .inl (cI, 86, .inl a)), ((md 2), .inl (cI, 86, .inl kp)), ((md 3), .inl (cI, 516, .inl hs)), ((md 4), .inl (cI, 172, .inl sl)), ((md 5), .inl (cI, 2, .inl iv)), ((md 6), .inl (cI, 60, .inl tx))] sz) := by
  refine b_enterW (Qc := fun A => b_Qi D (m_sum (m_rdx tx tl nu a).1 (4 + 2) 6 - m_sum a (4 + 2) 6) [((md 0), .inr (4, [.ref (md 1), .ref (md 2), .ref (md 3), .int (nI hn), .ref (md 4), .ref (md 5), .ref (md 6), .int (nI tl), .int (nI ((m_rdx tx tl nu a).2.2.1)), .int ((m_rdx tx tl nu a).2.2.2)])), ((md 1), .inl (cI, 86, .inl (va_cpy (va_cpy a kp 0 0 86) (m_rdx tx tl nu a).1 0 0 86))), ((md 2), .inl (cI, 86, .inl (va_cpy a kp 0 0 86))), ((md 3), .inl (cI, 516, .inl hs)), ((md 4), .inl (cI, 172, .inl sl)), ((md 5), .inl (cI, 2, .inl iv)), ((md 6), .inl (cI, 60, .inl tx))] A) (cc := cX4_ifRead) (maxL := 5) (ret := (some .int)) (by decide) rfl (Nat.le_of_ble_eq_true rfl) ?_
  intro p e s m below meth c ls A hx hb hr hml hown hts hlocks hname hP hK hD hA hS hX hl Q hQ
  have hown : s.vm.findClass RX4 = some m.cls := hown
  have hl : lv_has ls 5 [(0, .ref (md 0)), (1, .int (nI 2))] := hl
  refine lv_aload_n (pc := 0) hx hb dX4_ifRead_0 rfl (lv_at hl 0 rfl) ?_
  refine b_cW (pc := 1) (w1 := [((md 0), .inr (4, [.ref (md 1), .ref (md 2), .ref (md 3), .int (nI hn), .ref (md 4), .ref (md 5), .ref (md 6), .int (nI tl), .int (nI ((m_ftl tx tl (tl + 1) 0 nu).2.1)), .int ((m_ftl tx tl (tl + 1) 0 nu).2.2)])), ((md 1), .inl (cI, 86, .inl a)), ((md 2), .inl (cI, 86, .inl kp)), ((md 3), .inl (cI, 516, .inl hs)), ((md 4), .inl (cI, 172, .inl sl)), ((md 5), .inl (cI, 2, .inl iv)), ((md 6), .inl (cI, 60, .inl tx))]) (va_runV (As := []) (rest := []) ⟨hx, hb, hml, hown, hts⟩ (c_X4_fault l D cI cC cZ cG s.heap.size md a kp hs hn sl iv tx tl sp nu (by first | omega | assumption)) (cwV 0 hts gX4_ifRead_X4_fault rfl rfl rfl hy_X4_fault ⟨Nat.le_of_ble_eq_true rfl, Nat.le_of_ble_eq_true rfl⟩) (b_pWV (wc := [((md 0), .inr (4, [.ref (md 1), .ref (md 2), .ref (md 3), .int (nI hn), .ref (md 4), .ref (md 5), .ref (md 6), .int (nI tl), .int (nI sp), .int nu])), ((md 1), .inl (cI, 86, .inl a)), ((md 2), .inl (cI, 86, .inl kp)), ((md 3), .inl (cI, 516, .inl hs)), ((md 4), .inl (cI, 172, .inl sl)), ((md 5), .inl (cI, 2, .inl iv)), ((md 6), .inl (cI, 60, .inl tx))]) hK hP hD b_Xok_0 [0, 1, 2, 3, 4, 5, 6] rfl (by decide) rfl trivial (ci := 4) (q0 := 0) rfl rfl) rfl rfl hl.1 rfl (lv_room (Nat.le_of_ble_eq_true rfl)) dX4_ifRead_1 ⟨Nat.zero_le _, Nat.zero_le _⟩) hP hD hS hA [0, 1, 2, 3, 4, 5, 6] rfl rfl (fun H locs hP hD hS => ?_)
  have hP : va_P D vwCl [((md 0), .inr (4, [.ref (md 1), .ref (md 2), .ref (md 3), .int (nI hn), .ref (md 4), .ref (md 5), .ref (md 6), .int (nI tl), .int (nI ((m_ftl tx tl (tl + 1) 0 nu).2.1)), .int ((m_ftl tx tl (tl + 1) 0 nu).2.2)])), ((md 1), .inl (cI, 86, .inl a)), ((md 2), .inl (cI, 86, .inl kp)), ((md 3), .inl (cI, 516, .inl hs)), ((md 4), .inl (cI, 172, .inl sl)), ((md 5), .inl (cI, 2, .inl iv)), ((md 6), .inl (cI, 60, .inl tx))] H := hP
  have hD : va_D A [((md 0), .inr (4, [.ref (md 1), .ref (md 2), .ref (md 3), .int (nI hn), .ref (md 4), .ref (md 5), .ref (md 6), .int (nI tl), .int (nI ((m_ftl tx tl (tl + 1) 0 nu).2.1)), .int ((m_ftl tx tl (tl + 1) 0 nu).2.2)])), ((md 1), .inl (cI, 86, .inl a)), ((md 2), .inl (cI, 86, .inl kp)), ((md 3), .inl (cI, 516, .inl hs)), ((md 4), .inl (cI, 172, .inl sl)), ((md 5), .inl (cI, 2, .inl iv)), ((md 6), .inl (cI, 60, .inl tx))] := hD
  refine lv_bipush (pc := 4) (v := (-6)) hx hb dX4_ifRead_4 (by decide) ?_
  refine lv_icmp_eq (pc := 6) (tgt := 12) hx hb dX4_ifRead_6 (by decide) (fun c_1 => ?_) (fun c_1 => ?_)
  · skip
    have c_1 : ((m_ftl tx tl (tl + 1) 0 nu).1) = (-6) := c_1
    refine lv_iload_n (pc := 12) hx hb dX4_ifRead_12 rfl (lv_at hl 1 rfl) ?_
    refine lv_i2l (pc := 13) hx hb dX4_ifRead_13 rfl ?_
    refine lv_lconst (pc := 14) (v := 0) hx hb dX4_ifRead_14 (by decide) ?_
    refine lv_ldc2 (pc := 15) hx hb hown (hts _ hw_X4_ifRead_2_0) dX4_ifRead_15 ?_
    refine b_cR (pc := 18) (va_runS (As := [.long ((nI 2).toInt64), .long 0, .long 5]) (rest := []) ⟨hx, hb, hml, hown, hts⟩ (c_X4_in l D cI cC cZ cG ((nI 2).toInt64) 0 5) (va_cwS 3 hts gX4_ifRead_X4_in rfl rfl rfl hyS_X4_in ⟨Nat.le_of_ble_eq_true rfl, Nat.le_of_ble_eq_true rfl⟩) (b_pRS (wc := []) hK hP [] rfl) rfl rfl hl.1 rfl (lv_room (Nat.le_of_ble_eq_true rfl)) dX4_ifRead_18 ⟨Nat.zero_le _, Nat.zero_le _⟩) ?_
    refine lv_if_ne (pc := 21) (tgt := 27) hx hb dX4_ifRead_21 (by decide) (fun c_2 => ?_) (fun c_2 => ?_)
    · skip
      have c_2 : m_in ((nI 2).toInt64) 0 5 := Classical.not_not.mp (fun h9 => c_2 (b_i_0.mpr h9))
      refine lv_iload_n (pc := 27) hx hb dX4_ifRead_27 rfl (lv_at hl 1 rfl) ?_
      refine lv_iconst (pc := 28) (v := 4) hx hb dX4_ifRead_28 (by decide) ?_
      refine lv_icmp_ge (pc := 29) (tgt := 42) hx hb dX4_ifRead_29 (by decide) (fun c_3 => ?_) (fun c_3 => ?_)
      · skip
        have c_3 : 4 ≤ 2 := (nI_leI (a := 4) (b := 2) (by omega) (by omega)).mp c_3
        exact absurd c_3 (by decide)
      · skip
        have c_3 : ¬ (4 ≤ 2) := fun h9 => c_3 ((nI_leI (a := 4) (b := 2) (by omega) (by omega)).mpr h9)
        refine lv_aload_n (pc := 32) hx hb dX4_ifRead_32 rfl (lv_at hl 0 rfl) ?_
        refine lv_iconst (pc := 33) (v := 4) hx hb dX4_ifRead_33 (by decide) ?_
        refine lv_iload_n (pc := 34) hx hb dX4_ifRead_34 rfl (lv_at hl 1 rfl) ?_
        refine lv_iadd (pc := 35) hx hb dX4_ifRead_35 ?_
        refine b_re (nI_add 4 2) ?_
        refine b_cR (pc := 36) (va_runV (As := [.int (nI (4 + 2))]) (rest := []) ⟨hx, hb, hml, hown, hts⟩ (c_X4_allOf l D cI cC cZ cG md a kp hs hn sl iv tx tl ((m_ftl tx tl (tl + 1) 0 nu).2.1) ((m_ftl tx tl (tl + 1) 0 nu).2.2) (4 + 2) (by first | omega | assumption)) (cwV 1 hts gX4_ifRead_X4_allOf rfl rfl rfl hy_X4_allOf ⟨Nat.le_of_ble_eq_true rfl, Nat.le_of_ble_eq_true rfl⟩) (b_pRV (wc := [((md 0), .inr (4, [.ref (md 1), .ref (md 2), .ref (md 3), .int (nI hn), .ref (md 4), .ref (md 5), .ref (md 6), .int (nI tl), .int (nI ((m_ftl tx tl (tl + 1) 0 nu).2.1)), .int ((m_ftl tx tl (tl + 1) 0 nu).2.2)])), ((md 1), .inl (cI, 86, .inl a)), ((md 2), .inl (cI, 86, .inl kp)), ((md 3), .inl (cI, 516, .inl hs)), ((md 4), .inl (cI, 172, .inl sl)), ((md 5), .inl (cI, 2, .inl iv)), ((md 6), .inl (cI, 60, .inl tx))]) hK hP [0, 1, 2, 3, 4, 5, 6] rfl (ci := 4) (q0 := 0) rfl rfl) rfl rfl hl.1 rfl (lv_room (Nat.le_of_ble_eq_true rfl)) dX4_ifRead_36 ⟨Nat.zero_le _, Nat.zero_le _⟩) ?_
        refine lv_goto (pc := 39) (tgt := 58) hx hb dX4_ifRead_39 (by decide) ?_
        refine lv_istore_n (pc := 58) (lv' := [(2, .int (m_sum a (4 + 2) 6)), (0, .ref (md 0)), (1, .int (nI 2))]) hx hb dX4_ifRead_58 rfl hl (by decide) rfl (fun ls hl => ?_)
        refine lv_aload_n (pc := 59) hx hb dX4_ifRead_59 rfl (lv_at hl 1 rfl) ?_
        refine b_cV (pc := 60) (w1 := [((md 0), .inr (4, [.ref (md 1), .ref (md 2), .ref (md 3), .int (nI hn), .ref (md 4), .ref (md 5), .ref (md 6), .int (nI tl), .int (nI ((m_ftl tx tl (tl + 1) 0 nu).2.1)), .int ((m_ftl tx tl (tl + 1) 0 nu).2.2)])), ((md 1), .inl (cI, 86, .inl a)), ((md 2), .inl (cI, 86, .inl (va_cpy a kp 0 0 86))), ((md 3), .inl (cI, 516, .inl hs)), ((md 4), .inl (cI, 172, .inl sl)), ((md 5), .inl (cI, 2, .inl iv)), ((md 6), .inl (cI, 60, .inl tx))]) (va_runV (As := []) (rest := []) ⟨hx, hb, hml, hown, hts⟩ (c_X4_keeps l D cI cC cZ cG H.size md a kp hs hn sl iv tx tl ((m_ftl tx tl (tl + 1) 0 nu).2.1) ((m_ftl tx tl (tl + 1) 0 nu).2.2)) (cwV 0 hts gX4_ifRead_X4_keeps rfl rfl rfl hy_X4_keeps ⟨Nat.le_of_ble_eq_true rfl, Nat.le_of_ble_eq_true rfl⟩) (b_pWV (wc := [((md 0), .inr (4, [.ref (md 1), .ref (md 2), .ref (md 3), .int (nI hn), .ref (md 4), .ref (md 5), .ref (md 6), .int (nI tl), .int (nI ((m_ftl tx tl (tl + 1) 0 nu).2.1)), .int ((m_ftl tx tl (tl + 1) 0 nu).2.2)])), ((md 1), .inl (cI, 86, .inl a)), ((md 2), .inl (cI, 86, .inl kp)), ((md 3), .inl (cI, 516, .inl hs)), ((md 4), .inl (cI, 172, .inl sl)), ((md 5), .inl (cI, 2, .inl iv)), ((md 6), .inl (cI, 60, .inl tx))]) hK hP hD b_Xok_0 [0, 1, 2, 3, 4, 5, 6] rfl (by decide) rfl trivial (ci := 4) (q0 := 0) rfl rfl) rfl rfl hl.1 rfl (lv_room (Nat.le_of_ble_eq_true rfl)) dX4_ifRead_60 ⟨Nat.zero_le _, Nat.zero_le _⟩) hP hD hS hA [0, 1, 2, 3, 4, 5, 6] rfl rfl (fun H locs hP hD hS => ?_)
        have hP : va_P D vwCl [((md 0), .inr (4, [.ref (md 1), .ref (md 2), .ref (md 3), .int (nI hn), .ref (md 4), .ref (md 5), .ref (md 6), .int (nI tl), .int (nI ((m_ftl tx tl (tl + 1) 0 nu).2.1)), .int ((m_ftl tx tl (tl + 1) 0 nu).2.2)])), ((md 1), .inl (cI, 86, .inl a)), ((md 2), .inl (cI, 86, .inl (va_cpy a kp 0 0 86))), ((md 3), .inl (cI, 516, .inl hs)), ((md 4), .inl (cI, 172, .inl sl)), ((md 5), .inl (cI, 2, .inl iv)), ((md 6), .inl (cI, 60, .inl tx))] H := hP
        have hD : va_D A [((md 0), .inr (4, [.ref (md 1), .ref (md 2), .ref (md 3), .int (nI hn), .ref (md 4), .ref (md 5), .ref (md 6), .int (nI tl), .int (nI ((m_ftl tx tl (tl + 1) 0 nu).2.1)), .int ((m_ftl tx tl (tl + 1) 0 nu).2.2)])), ((md 1), .inl (cI, 86, .inl a)), ((md 2), .inl (cI, 86, .inl (va_cpy a kp 0 0 86))), ((md 3), .inl (cI, 516, .inl hs)), ((md 4), .inl (cI, 172, .inl sl)), ((md 5), .inl (cI, 2, .inl iv)), ((md 6), .inl (cI, 60, .inl tx))] := hD
        refine lv_aload_n (pc := 63) hx hb dX4_ifRead_63 rfl (lv_at hl 1 rfl) ?_
        refine b_cW (pc := 64) (w1 := [((md 0), .inr (4, [.ref (md 1), .ref (md 2), .ref (md 3), .int (nI hn), .ref (md 4), .ref (md 5), .ref (md 6), .int (nI tl), .int (nI ((m_rd tx tl (tl + 1) 0 ((m_ftl tx tl (tl + 1) 0 nu).2.2) a 0).2.2.1)), .int ((m_rd tx tl (tl + 1) 0 ((m_ftl tx tl (tl + 1) 0 nu).2.2) a 0).2.2.2)])), ((md 1), .inl (cI, 86, .inl ((m_rd tx tl (tl + 1) 0 ((m_ftl tx tl (tl + 1) 0 nu).2.2) a 0).1))), ((md 2), .inl (cI, 86, .inl (va_cpy a kp 0 0 86))), ((md 3), .inl (cI, 516, .inl hs)), ((md 4), .inl (cI, 172, .inl sl)), ((md 5), .inl (cI, 2, .inl iv)), ((md 6), .inl (cI, 60, .inl tx))]) (va_runV (As := []) (rest := []) ⟨hx, hb, hml, hown, hts⟩ (c_X4_reads l D cI cC cZ cG H.size md a (va_cpy a kp 0 0 86) hs hn sl iv tx tl ((m_ftl tx tl (tl + 1) 0 nu).2.1) ((m_ftl tx tl (tl + 1) 0 nu).2.2) (by first | omega | assumption) ((m_ftl_nu (tl + 1) 0 _ nu).trans ht)) (cwV 0 hts gX4_ifRead_X4_reads rfl rfl rfl hy_X4_reads ⟨Nat.le_of_ble_eq_true rfl, Nat.le_of_ble_eq_true rfl⟩) (b_pWV (wc := [((md 0), .inr (4, [.ref (md 1), .ref (md 2), .ref (md 3), .int (nI hn), .ref (md 4), .ref (md 5), .ref (md 6), .int (nI tl), .int (nI ((m_ftl tx tl (tl + 1) 0 nu).2.1)), .int ((m_ftl tx tl (tl + 1) 0 nu).2.2)])), ((md 1), .inl (cI, 86, .inl a)), ((md 2), .inl (cI, 86, .inl (va_cpy a kp 0 0 86))), ((md 3), .inl (cI, 516, .inl hs)), ((md 4), .inl (cI, 172, .inl sl)), ((md 5), .inl (cI, 2, .inl iv)), ((md 6), .inl (cI, 60, .inl tx))]) hK hP hD b_Xok_0 [0, 1, 2, 3, 4, 5, 6] rfl (by decide) rfl trivial (ci := 4) (q0 := 0) rfl rfl) rfl rfl hl.1 rfl (lv_room (Nat.le_of_ble_eq_true rfl)) dX4_ifRead_64 ⟨Nat.zero_le _, Nat.zero_le _⟩) hP hD hS hA [0, 1, 2, 3, 4, 5, 6] rfl rfl (fun H locs hP hD hS => ?_)
        have hP : va_P D vwCl [((md 0), .inr (4, [.ref (md 1), .ref (md 2), .ref (md 3), .int (nI hn), .ref (md 4), .ref (md 5), .ref (md 6), .int (nI tl), .int (nI ((m_rd tx tl (tl + 1) 0 ((m_ftl tx tl (tl + 1) 0 nu).2.2) a 0).2.2.1)), .int ((m_rd tx tl (tl + 1) 0 ((m_ftl tx tl (tl + 1) 0 nu).2.2) a 0).2.2.2)])), ((md 1), .inl (cI, 86, .inl ((m_rd tx tl (tl + 1) 0 ((m_ftl tx tl (tl + 1) 0 nu).2.2) a 0).1))), ((md 2), .inl (cI, 86, .inl (va_cpy a kp 0 0 86))), ((md 3), .inl (cI, 516, .inl hs)), ((md 4), .inl (cI, 172, .inl sl)), ((md 5), .inl (cI, 2, .inl iv)), ((md 6), .inl (cI, 60, .inl tx))] H := hP
        have hD : va_D A [((md 0), .inr (4, [.ref (md 1), .ref (md 2), .ref (md 3), .int (nI hn), .ref (md 4), .ref (md 5), .ref (md 6), .int (nI tl), .int (nI ((m_rd tx tl (tl + 1) 0 ((m_ftl tx tl (tl + 1) 0 nu).2.2) a 0).2.2.1)), .int ((m_rd tx tl (tl + 1) 0 ((m_ftl tx tl (tl + 1) 0 nu).2.2) a 0).2.2.2)])), ((md 1), .inl (cI, 86, .inl ((m_rd tx tl (tl + 1) 0 ((m_ftl tx tl (tl + 1) 0 nu).2.2) a 0).1))), ((md 2), .inl (cI, 86, .inl (va_cpy a kp 0 0 86))), ((md 3), .inl (cI, 516, .inl hs)), ((md 4), .inl (cI, 172, .inl sl)), ((md 5), .inl (cI, 2, .inl iv)), ((md 6), .inl (cI, 60, .inl tx))] := hD
        obtain ⟨f_4, ef_4⟩ : ∃ z9 : Nat → Int32, z9 = (m_rd tx tl (tl + 1) 0 ((m_ftl tx tl (tl + 1) 0 nu).2.2) a 0).1 := ⟨_, rfl⟩
        have hP : va_P D vwCl [((md 0), .inr (4, [.ref (md 1), .ref (md 2), .ref (md 3), .int (nI hn), .ref (md 4), .ref (md 5), .ref (md 6), .int (nI tl), .int (nI ((m_rd tx tl (tl + 1) 0 ((m_ftl tx tl (tl + 1) 0 nu).2.2) a 0).2.2.1)), .int ((m_rd tx tl (tl + 1) 0 ((m_ftl tx tl (tl + 1) 0 nu).2.2) a 0).2.2.2)])), ((md 1), .inl (cI, 86, .inl f_4)), ((md 2), .inl (cI, 86, .inl (va_cpy a kp 0 0 86))), ((md 3), .inl (cI, 516, .inl hs)), ((md 4), .inl (cI, 172, .inl sl)), ((md 5), .inl (cI, 2, .inl iv)), ((md 6), .inl (cI, 60, .inl tx))] H := by rw [ef_4]; exact hP
        have hD : va_D A [((md 0), .inr (4, [.ref (md 1), .ref (md 2), .ref (md 3), .int (nI hn), .ref (md 4), .ref (md 5), .ref (md 6), .int (nI tl), .int (nI ((m_rd tx tl (tl + 1) 0 ((m_ftl tx tl (tl + 1) 0 nu).2.2) a 0).2.2.1)), .int ((m_rd tx tl (tl + 1) 0 ((m_ftl tx tl (tl + 1) 0 nu).2.2) a 0).2.2.2)])), ((md 1), .inl (cI, 86, .inl f_4)), ((md 2), .inl (cI, 86, .inl (va_cpy a kp 0 0 86))), ((md 3), .inl (cI, 516, .inl hs)), ((md 4), .inl (cI, 172, .inl sl)), ((md 5), .inl (cI, 2, .inl iv)), ((md 6), .inl (cI, 60, .inl tx))] := by rw [ef_4]; exact hD
        refine lv_istore_n (pc := 67) (lv' := [(3, .int ((m_rd tx tl (tl + 1) 0 ((m_ftl tx tl (tl + 1) 0 nu).2.2) a 0).2.1)), (2, .int (m_sum a (4 + 2) 6)), (0, .ref (md 0)), (1, .int (nI 2))]) hx hb dX4_ifRead_67 rfl hl (by decide) rfl (fun ls hl => ?_)
        refine lv_iload_n (pc := 68) hx hb dX4_ifRead_68 rfl (lv_at hl 3 rfl) ?_
        refine lv_iconst (pc := 69) (v := 4) hx hb dX4_ifRead_69 (by decide) ?_
        refine lv_icmp_ge (pc := 70) (tgt := 83) hx hb dX4_ifRead_70 (by decide) (fun c_5 => ?_) (fun c_5 => ?_)
        · skip
          have c_5 : 4 ≤ 2 := (nI_leI (a := 4) (b := 2) (by omega) (by omega)).mp c_5
          exact absurd c_5 (by decide)
        · skip
          have c_5 : ¬ (4 ≤ 2) := fun h9 => c_5 ((nI_leI (a := 4) (b := 2) (by omega) (by omega)).mpr h9)
          refine lv_aload_n (pc := 73) hx hb dX4_ifRead_73 rfl (lv_at hl 2 rfl) ?_
          refine lv_iconst (pc := 74) (v := 4) hx hb dX4_ifRead_74 (by decide) ?_
          refine lv_iload_n (pc := 75) hx hb dX4_ifRead_75 rfl (lv_at hl 3 rfl) ?_
          refine lv_iadd (pc := 76) hx hb dX4_ifRead_76 ?_
          refine b_re (nI_add 4 2) ?_
          refine b_cR (pc := 77) (va_runV (As := [.int (nI (4 + 2))]) (rest := []) ⟨hx, hb, hml, hown, hts⟩ (c_X4_allOf l D cI cC cZ cG md f_4 (va_cpy a kp 0 0 86) hs hn sl iv tx tl ((m_rd tx tl (tl + 1) 0 ((m_ftl tx tl (tl + 1) 0 nu).2.2) a 0).2.2.1) ((m_rd tx tl (tl + 1) 0 ((m_ftl tx tl (tl + 1) 0 nu).2.2) a 0).2.2.2) (4 + 2) (by first | omega | assumption)) (cwV 1 hts gX4_ifRead_X4_allOf rfl rfl rfl hy_X4_allOf ⟨Nat.le_of_ble_eq_true rfl, Nat.le_of_ble_eq_true rfl⟩) (b_pRV (wc := [((md 0), .inr (4, [.ref (md 1), .ref (md 2), .ref (md 3), .int (nI hn), .ref (md 4), .ref (md 5), .ref (md 6), .int (nI tl), .int (nI ((m_rd tx tl (tl + 1) 0 ((m_ftl tx tl (tl + 1) 0 nu).2.2) a 0).2.2.1)), .int ((m_rd tx tl (tl + 1) 0 ((m_ftl tx tl (tl + 1) 0 nu).2.2) a 0).2.2.2)])), ((md 1), .inl (cI, 86, .inl f_4)), ((md 2), .inl (cI, 86, .inl (va_cpy a kp 0 0 86))), ((md 3), .inl (cI, 516, .inl hs)), ((md 4), .inl (cI, 172, .inl sl)), ((md 5), .inl (cI, 2, .inl iv)), ((md 6), .inl (cI, 60, .inl tx))]) hK hP [0, 1, 2, 3, 4, 5, 6] rfl (ci := 4) (q0 := 0) rfl rfl) rfl rfl hl.1 rfl (lv_room (Nat.le_of_ble_eq_true rfl)) dX4_ifRead_77 ⟨Nat.zero_le _, Nat.zero_le _⟩) ?_
          refine lv_goto (pc := 80) (tgt := 104) hx hb dX4_ifRead_80 (by decide) ?_
          refine lv_istore (pc := 104) (lv' := [(4, .int (m_sum f_4 (4 + 2) 6)), (3, .int ((m_rd tx tl (tl + 1) 0 ((m_ftl tx tl (tl + 1) 0 nu).2.2) a 0).2.1)), (2, .int (m_sum a (4 + 2) 6)), (0, .ref (md 0)), (1, .int (nI 2))]) hx hb dX4_ifRead_104 hl (by decide) rfl (fun ls hl => ?_)
          refine lv_aload_n (pc := 106) hx hb dX4_ifRead_106 rfl (lv_at hl 3 rfl) ?_
          refine b_cV (pc := 107) (w1 := [((md 0), .inr (4, [.ref (md 1), .ref (md 2), .ref (md 3), .int (nI hn), .ref (md 4), .ref (md 5), .ref (md 6), .int (nI tl), .int (nI ((m_rd tx tl (tl + 1) 0 ((m_ftl tx tl (tl + 1) 0 nu).2.2) a 0).2.2.1)), .int ((m_rd tx tl (tl + 1) 0 ((m_ftl tx tl (tl + 1) 0 nu).2.2) a 0).2.2.2)])), ((md 1), .inl (cI, 86, .inl (va_cpy (va_cpy a kp 0 0 86) f_4 0 0 86))), ((md 2), .inl (cI, 86, .inl (va_cpy a kp 0 0 86))), ((md 3), .inl (cI, 516, .inl hs)), ((md 4), .inl (cI, 172, .inl sl)), ((md 5), .inl (cI, 2, .inl iv)), ((md 6), .inl (cI, 60, .inl tx))]) (va_runV (As := []) (rest := []) ⟨hx, hb, hml, hown, hts⟩ (c_X4_comesBack l D cI cC cZ cG H.size md f_4 (va_cpy a kp 0 0 86) hs hn sl iv tx tl ((m_rd tx tl (tl + 1) 0 ((m_ftl tx tl (tl + 1) 0 nu).2.2) a 0).2.2.1) ((m_rd tx tl (tl + 1) 0 ((m_ftl tx tl (tl + 1) 0 nu).2.2) a 0).2.2.2)) (cwV 0 hts gX4_ifRead_X4_comesBack rfl rfl rfl hy_X4_comesBack ⟨Nat.le_of_ble_eq_true rfl, Nat.le_of_ble_eq_true rfl⟩) (b_pWV (wc := [((md 0), .inr (4, [.ref (md 1), .ref (md 2), .ref (md 3), .int (nI hn), .ref (md 4), .ref (md 5), .ref (md 6), .int (nI tl), .int (nI ((m_rd tx tl (tl + 1) 0 ((m_ftl tx tl (tl + 1) 0 nu).2.2) a 0).2.2.1)), .int ((m_rd tx tl (tl + 1) 0 ((m_ftl tx tl (tl + 1) 0 nu).2.2) a 0).2.2.2)])), ((md 1), .inl (cI, 86, .inl f_4)), ((md 2), .inl (cI, 86, .inl (va_cpy a kp 0 0 86))), ((md 3), .inl (cI, 516, .inl hs)), ((md 4), .inl (cI, 172, .inl sl)), ((md 5), .inl (cI, 2, .inl iv)), ((md 6), .inl (cI, 60, .inl tx))]) hK hP hD b_Xok_0 [0, 1, 2, 3, 4, 5, 6] rfl (by decide) rfl trivial (ci := 4) (q0 := 0) rfl rfl) rfl rfl hl.1 rfl (lv_room (Nat.le_of_ble_eq_true rfl)) dX4_ifRead_107 ⟨Nat.zero_le _, Nat.zero_le _⟩) hP hD hS hA [0, 1, 2, 3, 4, 5, 6] rfl rfl (fun H locs hP hD hS => ?_)
          have hP : va_P D vwCl [((md 0), .inr (4, [.ref (md 1), .ref (md 2), .ref (md 3), .int (nI hn), .ref (md 4), .ref (md 5), .ref (md 6), .int (nI tl), .int (nI ((m_rd tx tl (tl + 1) 0 ((m_ftl tx tl (tl + 1) 0 nu).2.2) a 0).2.2.1)), .int ((m_rd tx tl (tl + 1) 0 ((m_ftl tx tl (tl + 1) 0 nu).2.2) a 0).2.2.2)])), ((md 1), .inl (cI, 86, .inl (va_cpy (va_cpy a kp 0 0 86) f_4 0 0 86))), ((md 2), .inl (cI, 86, .inl (va_cpy a kp 0 0 86))), ((md 3), .inl (cI, 516, .inl hs)), ((md 4), .inl (cI, 172, .inl sl)), ((md 5), .inl (cI, 2, .inl iv)), ((md 6), .inl (cI, 60, .inl tx))] H := hP
          have hD : va_D A [((md 0), .inr (4, [.ref (md 1), .ref (md 2), .ref (md 3), .int (nI hn), .ref (md 4), .ref (md 5), .ref (md 6), .int (nI tl), .int (nI ((m_rd tx tl (tl + 1) 0 ((m_ftl tx tl (tl + 1) 0 nu).2.2) a 0).2.2.1)), .int ((m_rd tx tl (tl + 1) 0 ((m_ftl tx tl (tl + 1) 0 nu).2.2) a 0).2.2.2)])), ((md 1), .inl (cI, 86, .inl (va_cpy (va_cpy a kp 0 0 86) f_4 0 0 86))), ((md 2), .inl (cI, 86, .inl (va_cpy a kp 0 0 86))), ((md 3), .inl (cI, 516, .inl hs)), ((md 4), .inl (cI, 172, .inl sl)), ((md 5), .inl (cI, 2, .inl iv)), ((md 6), .inl (cI, 60, .inl tx))] := hD
          refine lv_iload (pc := 110) hx hb dX4_ifRead_110 (lv_at hl 0 rfl) ?_
          refine lv_iload_n (pc := 112) hx hb dX4_ifRead_112 rfl (lv_at hl 2 rfl) ?_
          refine lv_isub (pc := 113) hx hb dX4_ifRead_113 ?_
          subst ef_4
          subst hQ
          exact b_retW hx hb hr hlocks hS (rfl) (hP) dX4_ifRead_114
    · skip
      have c_2 : ¬ (m_in ((nI 2).toInt64) 0 5) := b_i_0.mp c_2
      exact absurd (m_inN (lo := 0) (hi := 5) (by decide) (by decide) (by omega) (by omega) (by omega) (by omega)) c_2
  · skip
    have c_1 : ¬ (((m_ftl tx tl (tl + 1) 0 nu).1) = (-6)) := c_1
    exact absurd ht c_1
theorem hw_X4_ifRead_3_0 : (.constantLong RX4 36 (5) : Cond) ∈ wsX4_ifRead := by decide +kernel
set_option maxHeartbeats 4000000 in
set_option maxRecDepth 100000 in
theorem c_X4_ifRead_3 (l : Launch) (D : va_G) (cI cC cZ cG : ClassId) (sz : Nat) (md : Nat → Nat) (a : Nat → Int32) (kp : Nat → Int32) (hs : Nat → Int32) (hn : Nat) (sl : Nat → Int32) (iv : Nat → Int32) (tx : Nat → Int32) (tl : Nat) (sp : Nat) (nu : Int32) (htl : tl ≤ 60) (ht : (m_ftl tx tl (tl + 1) 0 nu).1 = -6) : Met l yX4_ifRead wsX4_ifRead ({ frames := 6, cells := 0, slots := 0, locals := 135 } : Room) (b_W D (b_T cI cC cZ cG) b_X0 [((md 0), .inr (4, [.ref (md 1), .ref (md 2), .ref (md 3), .int (nI hn), .ref (md 4), .ref (md 5), .ref (md 6), .int (nI tl), .int (nI sp), .int nu])), ((md 1), .inl (cI, 86, .inl a)), ((md 2), .inl (cI, 86, .inl kp)), ((md 3), .inl (cI, 516, .inl hs)), ((md 4), .inl (cI, 172, .inl sl)), ((md 5), .inl (cI, 2, .inl iv)), ((md 6), .inl (cI, 60, .inl tx))] sz [.ref (md 0), .int (nI 3)]) (b_Qi D (m_sum (m_rdx tx tl nu a).1 (4 + 3) 6 - m_sum a (4 + 3) 6) [((md 0), .inr (4, [.ref (md 1), .ref (md 2), .ref (md 3), .int (nI hn), .ref (md 4), .ref (md 5), .ref (md 6), .int (nI tl), .int (nI ((m_rdx tx tl nu a).2.2.1)), .int ((m_rdx tx tl nu a).2.2.2)])), ((md 1), .inl (cI, 86, .inl (va_cpy (va_cpy a kp 0 0 86) (m_rdx tx tl nu a).1 0 0 86))), ((md 2), .inl (cI, 86, .inl (va_cpy a kp 0 0 86))), ((md 3), .inl (cI, 516, .inl hs)), ((md 4), .inl (cI, 172, .inl sl)), ((md 5), .inl (cI, 2, .inl iv)), ((md 6), .inl (cI, 60, .inl tx))] (va_A [((md 0), .inr (4, [.ref (md 1), .ref (md 2), .ref (md 3), .int (nI hn), .ref (md 4), .ref (md 5), .ref (md 6), .int (nI tl), .int (nI sp), .int nu])), ((md 1), .inl (cI, 86, .inl a)), ((md 2), .inl (cI, 86, .inl kp)), ((md 3), .inl (cI, 516, .inl hs)), ((md 4), .inl (cI, 172, .inl sl)), ((md 5), .inl (cI, 2, .inl iv)), ((md 6), .inl (cI, 60, .inl tx))] sz)) 0 0 (va_A [((md 0), .inr (4, [.ref (md 1), .ref (md 2), .ref (md 3), .int (nI hn), .ref (md 4), .ref (md 5), .ref (md 6), .int (nI tl), .int (nI sp), .int nu])), ((md 1), .inl (cI, 86, .inl a)), ((md 2), .inl (cI, 86, .inl kp)), ((md 3), .inl (cI, 516, .inl hs)), ((md 4), .inl (cI, 172, .inl sl)), ((md 5), .inl (cI, 2, .inl iv)), ((md 6), .inl (cI, 60, .inl tx))] sz) := by
  refine b_enterW (Qc := fun A => b_Qi D (m_sum (m_rdx tx tl nu a).1 (4 + 3) 6 - m_sum a (4 + 3) 6) [((md 0), .inr (4, [.ref (md 1), .ref (md 2), .ref (md 3), .int (nI hn), .ref (md 4), .ref (md 5), .ref (md 6), .int (nI tl), .int (nI ((m_rdx tx tl nu a).2.2.1)), .int ((m_rdx tx tl nu a).2.2.2)])), ((md 1), .inl (cI, 86, .inl (va_cpy (va_cpy a kp 0 0 86) (m_rdx tx tl nu a).1 0 0 86))), ((md 2), .inl (cI, 86, .inl (va_cpy a kp 0 0 86))), ((md 3), .inl (cI, 516, .inl hs)), ((md 4), .inl (cI, 172, .inl sl)), ((md 5), .inl (cI, 2, .inl iv)), ((md 6), .inl (cI, 60, .inl tx))] A) (cc := cX4_ifRead) (maxL := 5) (ret := (some .int)) (by decide) rfl (Nat.le_of_ble_eq_true rfl) ?_
  intro p e s m below meth c ls A hx hb hr hml hown hts hlocks hname hP hK hD hA hS hX hl Q hQ
  have hown : s.vm.findClass RX4 = some m.cls := hown
  have hl : lv_has ls 5 [(0, .ref (md 0)), (1, .int (nI 3))] := hl
  refine lv_aload_n (pc := 0) hx hb dX4_ifRead_0 rfl (lv_at hl 0 rfl) ?_
  refine b_cW (pc := 1) (w1 := [((md 0), .inr (4, [.ref (md 1), .ref (md 2), .ref (md 3), .int (nI hn), .ref (md 4), .ref (md 5), .ref (md 6), .int (nI tl), .int (nI ((m_ftl tx tl (tl + 1) 0 nu).2.1)), .int ((m_ftl tx tl (tl + 1) 0 nu).2.2)])), ((md 1), .inl (cI, 86, .inl a)), ((md 2), .inl (cI, 86, .inl kp)), ((md 3), .inl (cI, 516, .inl hs)), ((md 4), .inl (cI, 172, .inl sl)), ((md 5), .inl (cI, 2, .inl iv)), ((md 6), .inl (cI, 60, .inl tx))]) (va_runV (As := []) (rest := []) ⟨hx, hb, hml, hown, hts⟩ (c_X4_fault l D cI cC cZ cG s.heap.size md a kp hs hn sl iv tx tl sp nu (by first | omega | assumption)) (cwV 0 hts gX4_ifRead_X4_fault rfl rfl rfl hy_X4_fault ⟨Nat.le_of_ble_eq_true rfl, Nat.le_of_ble_eq_true rfl⟩) (b_pWV (wc := [((md 0), .inr (4, [.ref (md 1), .ref (md 2), .ref (md 3), .int (nI hn), .ref (md 4), .ref (md 5), .ref (md 6), .int (nI tl), .int (nI sp), .int nu])), ((md 1), .inl (cI, 86, .inl a)), ((md 2), .inl (cI, 86, .inl kp)), ((md 3), .inl (cI, 516, .inl hs)), ((md 4), .inl (cI, 172, .inl sl)), ((md 5), .inl (cI, 2, .inl iv)), ((md 6), .inl (cI, 60, .inl tx))]) hK hP hD b_Xok_0 [0, 1, 2, 3, 4, 5, 6] rfl (by decide) rfl trivial (ci := 4) (q0 := 0) rfl rfl) rfl rfl hl.1 rfl (lv_room (Nat.le_of_ble_eq_true rfl)) dX4_ifRead_1 ⟨Nat.zero_le _, Nat.zero_le _⟩) hP hD hS hA [0, 1, 2, 3, 4, 5, 6] rfl rfl (fun H locs hP hD hS => ?_)
  have hP : va_P D vwCl [((md 0), .inr (4, [.ref (md 1), .ref (md 2), .ref (md 3), .int (nI hn), .ref (md 4), .ref (md 5), .ref (md 6), .int (nI tl), .int (nI ((m_ftl tx tl (tl + 1) 0 nu).2.1)), .int ((m_ftl tx tl (tl + 1) 0 nu).2.2)])), ((md 1), .inl (cI, 86, .inl a)), ((md 2), .inl (cI, 86, .inl kp)), ((md 3), .inl (cI, 516, .inl hs)), ((md 4), .inl (cI, 172, .inl sl)), ((md 5), .inl (cI, 2, .inl iv)), ((md 6), .inl (cI, 60, .inl tx))] H := hP
  have hD : va_D A [((md 0), .inr (4, [.ref (md 1), .ref (md 2), .ref (md 3), .int (nI hn), .ref (md 4), .ref (md 5), .ref (md 6), .int (nI tl), .int (nI ((m_ftl tx tl (tl + 1) 0 nu).2.1)), .int ((m_ftl tx tl (tl + 1) 0 nu).2.2)])), ((md 1), .inl (cI, 86, .inl a)), ((md 2), .inl (cI, 86, .inl kp)), ((md 3), .inl (cI, 516, .inl hs)), ((md 4), .inl (cI, 172, .inl sl)), ((md 5), .inl (cI, 2, .inl iv)), ((md 6), .inl (cI, 60, .inl tx))] := hD
  refine lv_bipush (pc := 4) (v := (-6)) hx hb dX4_ifRead_4 (by decide) ?_
  refine lv_icmp_eq (pc := 6) (tgt := 12) hx hb dX4_ifRead_6 (by decide) (fun c_1 => ?_) (fun c_1 => ?_)
  · skip
    have c_1 : ((m_ftl tx tl (tl + 1) 0 nu).1) = (-6) := c_1
    refine lv_iload_n (pc := 12) hx hb dX4_ifRead_12 rfl (lv_at hl 1 rfl) ?_
    refine lv_i2l (pc := 13) hx hb dX4_ifRead_13 rfl ?_
    refine lv_lconst (pc := 14) (v := 0) hx hb dX4_ifRead_14 (by decide) ?_
    refine lv_ldc2 (pc := 15) hx hb hown (hts _ hw_X4_ifRead_3_0) dX4_ifRead_15 ?_
    refine b_cR (pc := 18) (va_runS (As := [.long ((nI 3).toInt64), .long 0, .long 5]) (rest := []) ⟨hx, hb, hml, hown, hts⟩ (c_X4_in l D cI cC cZ cG ((nI 3).toInt64) 0 5) (va_cwS 3 hts gX4_ifRead_X4_in rfl rfl rfl hyS_X4_in ⟨Nat.le_of_ble_eq_true rfl, Nat.le_of_ble_eq_true rfl⟩) (b_pRS (wc := []) hK hP [] rfl) rfl rfl hl.1 rfl (lv_room (Nat.le_of_ble_eq_true rfl)) dX4_ifRead_18 ⟨Nat.zero_le _, Nat.zero_le _⟩) ?_
    refine lv_if_ne (pc := 21) (tgt := 27) hx hb dX4_ifRead_21 (by decide) (fun c_2 => ?_) (fun c_2 => ?_)
    · skip
      have c_2 : m_in ((nI 3).toInt64) 0 5 := Classical.not_not.mp (fun h9 => c_2 (b_i_0.mpr h9))
      refine lv_iload_n (pc := 27) hx hb dX4_ifRead_27 rfl (lv_at hl 1 rfl) ?_
      refine lv_iconst (pc := 28) (v := 4) hx hb dX4_ifRead_28 (by decide) ?_
      refine lv_icmp_ge (pc := 29) (tgt := 42) hx hb dX4_ifRead_29 (by decide) (fun c_3 => ?_) (fun c_3 => ?_)
      · skip
        have c_3 : 4 ≤ 3 := (nI_leI (a := 4) (b := 3) (by omega) (by omega)).mp c_3
        exact absurd c_3 (by decide)
      · skip
        have c_3 : ¬ (4 ≤ 3) := fun h9 => c_3 ((nI_leI (a := 4) (b := 3) (by omega) (by omega)).mpr h9)
        refine lv_aload_n (pc := 32) hx hb dX4_ifRead_32 rfl (lv_at hl 0 rfl) ?_
        refine lv_iconst (pc := 33) (v := 4) hx hb dX4_ifRead_33 (by decide) ?_
        refine lv_iload_n (pc := 34) hx hb dX4_ifRead_34 rfl (lv_at hl 1 rfl) ?_
        refine lv_iadd (pc := 35) hx hb dX4_ifRead_35 ?_
        refine b_re (nI_add 4 3) ?_
        refine b_cR (pc := 36) (va_runV (As := [.int (nI (4 + 3))]) (rest := []) ⟨hx, hb, hml, hown, hts⟩ (c_X4_allOf l D cI cC cZ cG md a kp hs hn sl iv tx tl ((m_ftl tx tl (tl + 1) 0 nu).2.1) ((m_ftl tx tl (tl + 1) 0 nu).2.2) (4 + 3) (by first | omega | assumption)) (cwV 1 hts gX4_ifRead_X4_allOf rfl rfl rfl hy_X4_allOf ⟨Nat.le_of_ble_eq_true rfl, Nat.le_of_ble_eq_true rfl⟩) (b_pRV (wc := [((md 0), .inr (4, [.ref (md 1), .ref (md 2), .ref (md 3), .int (nI hn), .ref (md 4), .ref (md 5), .ref (md 6), .int (nI tl), .int (nI ((m_ftl tx tl (tl + 1) 0 nu).2.1)), .int ((m_ftl tx tl (tl + 1) 0 nu).2.2)])), ((md 1), .inl (cI, 86, .inl a)), ((md 2), .inl (cI, 86, .inl kp)), ((md 3), .inl (cI, 516, .inl hs)), ((md 4), .inl (cI, 172, .inl sl)), ((md 5), .inl (cI, 2, .inl iv)), ((md 6), .inl (cI, 60, .inl tx))]) hK hP [0, 1, 2, 3, 4, 5, 6] rfl (ci := 4) (q0 := 0) rfl rfl) rfl rfl hl.1 rfl (lv_room (Nat.le_of_ble_eq_true rfl)) dX4_ifRead_36 ⟨Nat.zero_le _, Nat.zero_le _⟩) ?_
        refine lv_goto (pc := 39) (tgt := 58) hx hb dX4_ifRead_39 (by decide) ?_
        refine lv_istore_n (pc := 58) (lv' := [(2, .int (m_sum a (4 + 3) 6)), (0, .ref (md 0)), (1, .int (nI 3))]) hx hb dX4_ifRead_58 rfl hl (by decide) rfl (fun ls hl => ?_)
        refine lv_aload_n (pc := 59) hx hb dX4_ifRead_59 rfl (lv_at hl 1 rfl) ?_
        refine b_cV (pc := 60) (w1 := [((md 0), .inr (4, [.ref (md 1), .ref (md 2), .ref (md 3), .int (nI hn), .ref (md 4), .ref (md 5), .ref (md 6), .int (nI tl), .int (nI ((m_ftl tx tl (tl + 1) 0 nu).2.1)), .int ((m_ftl tx tl (tl + 1) 0 nu).2.2)])), ((md 1), .inl (cI, 86, .inl a)), ((md 2), .inl (cI, 86, .inl (va_cpy a kp 0 0 86))), ((md 3), .inl (cI, 516, .inl hs)), ((md 4), .inl (cI, 172, .inl sl)), ((md 5), .inl (cI, 2, .inl iv)), ((md 6), .inl (cI, 60, .inl tx))]) (va_runV (As := []) (rest := []) ⟨hx, hb, hml, hown, hts⟩ (c_X4_keeps l D cI cC cZ cG H.size md a kp hs hn sl iv tx tl ((m_ftl tx tl (tl + 1) 0 nu).2.1) ((m_ftl tx tl (tl + 1) 0 nu).2.2)) (cwV 0 hts gX4_ifRead_X4_keeps rfl rfl rfl hy_X4_keeps ⟨Nat.le_of_ble_eq_true rfl, Nat.le_of_ble_eq_true rfl⟩) (b_pWV (wc := [((md 0), .inr (4, [.ref (md 1), .ref (md 2), .ref (md 3), .int (nI hn), .ref (md 4), .ref (md 5), .ref (md 6), .int (nI tl), .int (nI ((m_ftl tx tl (tl + 1) 0 nu).2.1)), .int ((m_ftl tx tl (tl + 1) 0 nu).2.2)])), ((md 1), .inl (cI, 86, .inl a)), ((md 2), .inl (cI, 86, .inl kp)), ((md 3), .inl (cI, 516, .inl hs)), ((md 4), .inl (cI, 172, .inl sl)), ((md 5), .inl (cI, 2, .inl iv)), ((md 6), .inl (cI, 60, .inl tx))]) hK hP hD b_Xok_0 [0, 1, 2, 3, 4, 5, 6] rfl (by decide) rfl trivial (ci := 4) (q0 := 0) rfl rfl) rfl rfl hl.1 rfl (lv_room (Nat.le_of_ble_eq_true rfl)) dX4_ifRead_60 ⟨Nat.zero_le _, Nat.zero_le _⟩) hP hD hS hA [0, 1, 2, 3, 4, 5, 6] rfl rfl (fun H locs hP hD hS => ?_)
        have hP : va_P D vwCl [((md 0), .inr (4, [.ref (md 1), .ref (md 2), .ref (md 3), .int (nI hn), .ref (md 4), .ref (md 5), .ref (md 6), .int (nI tl), .int (nI ((m_ftl tx tl (tl + 1) 0 nu).2.1)), .int ((m_ftl tx tl (tl + 1) 0 nu).2.2)])), ((md 1), .inl (cI, 86, .inl a)), ((md 2), .inl (cI, 86, .inl (va_cpy a kp 0 0 86))), ((md 3), .inl (cI, 516, .inl hs)), ((md 4), .inl (cI, 172, .inl sl)), ((md 5), .inl (cI, 2, .inl iv)), ((md 6), .inl (cI, 60, .inl tx))] H := hP
        have hD : va_D A [((md 0), .inr (4, [.ref (md 1), .ref (md 2), .ref (md 3), .int (nI hn), .ref (md 4), .ref (md 5), .ref (md 6), .int (nI tl), .int (nI ((m_ftl tx tl (tl + 1) 0 nu).2.1)), .int ((m_ftl tx tl (tl + 1) 0 nu).2.2)])), ((md 1), .inl (cI, 86, .inl a)), ((md 2), .inl (cI, 86, .inl (va_cpy a kp 0 0 86))), ((md 3), .inl (cI, 516, .inl hs)), ((md 4), .inl (cI, 172, .inl sl)), ((md 5), .inl (cI, 2, .inl iv)), ((md 6), .inl (cI, 60, .inl tx))] := hD
        refine lv_aload_n (pc := 63) hx hb dX4_ifRead_63 rfl (lv_at hl 1 rfl) ?_
        refine b_cW (pc := 64) (w1 := [((md 0), .inr (4, [.ref (md 1), .ref (md 2), .ref (md 3), .int (nI hn), .ref (md 4), .ref (md 5), .ref (md 6), .int (nI tl), .int (nI ((m_rd tx tl (tl + 1) 0 ((m_ftl tx tl (tl + 1) 0 nu).2.2) a 0).2.2.1)), .int ((m_rd tx tl (tl + 1) 0 ((m_ftl tx tl (tl + 1) 0 nu).2.2) a 0).2.2.2)])), ((md 1), .inl (cI, 86, .inl ((m_rd tx tl (tl + 1) 0 ((m_ftl tx tl (tl + 1) 0 nu).2.2) a 0).1))), ((md 2), .inl (cI, 86, .inl (va_cpy a kp 0 0 86))), ((md 3), .inl (cI, 516, .inl hs)), ((md 4), .inl (cI, 172, .inl sl)), ((md 5), .inl (cI, 2, .inl iv)), ((md 6), .inl (cI, 60, .inl tx))]) (va_runV (As := []) (rest := []) ⟨hx, hb, hml, hown, hts⟩ (c_X4_reads l D cI cC cZ cG H.size md a (va_cpy a kp 0 0 86) hs hn sl iv tx tl ((m_ftl tx tl (tl + 1) 0 nu).2.1) ((m_ftl tx tl (tl + 1) 0 nu).2.2) (by first | omega | assumption) ((m_ftl_nu (tl + 1) 0 _ nu).trans ht)) (cwV 0 hts gX4_ifRead_X4_reads rfl rfl rfl hy_X4_reads ⟨Nat.le_of_ble_eq_true rfl, Nat.le_of_ble_eq_true rfl⟩) (b_pWV (wc := [((md 0), .inr (4, [.ref (md 1), .ref (md 2), .ref (md 3), .int (nI hn), .ref (md 4), .ref (md 5), .ref (md 6), .int (nI tl), .int (nI ((m_ftl tx tl (tl + 1) 0 nu).2.1)), .int ((m_ftl tx tl (tl + 1) 0 nu).2.2)])), ((md 1), .inl (cI, 86, .inl a)), ((md 2), .inl (cI, 86, .inl (va_cpy a kp 0 0 86))), ((md 3), .inl (cI, 516, .inl hs)), ((md 4), .inl (cI, 172, .inl sl)), ((md 5), .inl (cI, 2, .inl iv)), ((md 6), .inl (cI, 60, .inl tx))]) hK hP hD b_Xok_0 [0, 1, 2, 3, 4, 5, 6] rfl (by decide) rfl trivial (ci := 4) (q0 := 0) rfl rfl) rfl rfl hl.1 rfl (lv_room (Nat.le_of_ble_eq_true rfl)) dX4_ifRead_64 ⟨Nat.zero_le _, Nat.zero_le _⟩) hP hD hS hA [0, 1, 2, 3, 4, 5, 6] rfl rfl (fun H locs hP hD hS => ?_)
        have hP : va_P D vwCl [((md 0), .inr (4, [.ref (md 1), .ref (md 2), .ref (md 3), .int (nI hn), .ref (md 4), .ref (md 5), .ref (md 6), .int (nI tl), .int (nI ((m_rd tx tl (tl + 1) 0 ((m_ftl tx tl (tl + 1) 0 nu).2.2) a 0).2.2.1)), .int ((m_rd tx tl (tl + 1) 0 ((m_ftl tx tl (tl + 1) 0 nu).2.2) a 0).2.2.2)])), ((md 1), .inl (cI, 86, .inl ((m_rd tx tl (tl + 1) 0 ((m_ftl tx tl (tl + 1) 0 nu).2.2) a 0).1))), ((md 2), .inl (cI, 86, .inl (va_cpy a kp 0 0 86))), ((md 3), .inl (cI, 516, .inl hs)), ((md 4), .inl (cI, 172, .inl sl)), ((md 5), .inl (cI, 2, .inl iv)), ((md 6), .inl (cI, 60, .inl tx))] H := hP
        have hD : va_D A [((md 0), .inr (4, [.ref (md 1), .ref (md 2), .ref (md 3), .int (nI hn), .ref (md 4), .ref (md 5), .ref (md 6), .int (nI tl), .int (nI ((m_rd tx tl (tl + 1) 0 ((m_ftl tx tl (tl + 1) 0 nu).2.2) a 0).2.2.1)), .int ((m_rd tx tl (tl + 1) 0 ((m_ftl tx tl (tl + 1) 0 nu).2.2) a 0).2.2.2)])), ((md 1), .inl (cI, 86, .inl ((m_rd tx tl (tl + 1) 0 ((m_ftl tx tl (tl + 1) 0 nu).2.2) a 0).1))), ((md 2), .inl (cI, 86, .inl (va_cpy a kp 0 0 86))), ((md 3), .inl (cI, 516, .inl hs)), ((md 4), .inl (cI, 172, .inl sl)), ((md 5), .inl (cI, 2, .inl iv)), ((md 6), .inl (cI, 60, .inl tx))] := hD
        obtain ⟨f_4, ef_4⟩ : ∃ z9 : Nat → Int32, z9 = (m_rd tx tl (tl + 1) 0 ((m_ftl tx tl (tl + 1) 0 nu).2.2) a 0).1 := ⟨_, rfl⟩
        have hP : va_P D vwCl [((md 0), .inr (4, [.ref (md 1), .ref (md 2), .ref (md 3), .int (nI hn), .ref (md 4), .ref (md 5), .ref (md 6), .int (nI tl), .int (nI ((m_rd tx tl (tl + 1) 0 ((m_ftl tx tl (tl + 1) 0 nu).2.2) a 0).2.2.1)), .int ((m_rd tx tl (tl + 1) 0 ((m_ftl tx tl (tl + 1) 0 nu).2.2) a 0).2.2.2)])), ((md 1), .inl (cI, 86, .inl f_4)), ((md 2), .inl (cI, 86, .inl (va_cpy a kp 0 0 86))), ((md 3), .inl (cI, 516, .inl hs)), ((md 4), .inl (cI, 172, .inl sl)), ((md 5), .inl (cI, 2, .inl iv)), ((md 6), .inl (cI, 60, .inl tx))] H := by rw [ef_4]; exact hP
        have hD : va_D A [((md 0), .inr (4, [.ref (md 1), .ref (md 2), .ref (md 3), .int (nI hn), .ref (md 4), .ref (md 5), .ref (md 6), .int (nI tl), .int (nI ((m_rd tx tl (tl + 1) 0 ((m_ftl tx tl (tl + 1) 0 nu).2.2) a 0).2.2.1)), .int ((m_rd tx tl (tl + 1) 0 ((m_ftl tx tl (tl + 1) 0 nu).2.2) a 0).2.2.2)])), ((md 1), .inl (cI, 86, .inl f_4)), ((md 2), .inl (cI, 86, .inl (va_cpy a kp 0 0 86))), ((md 3), .inl (cI, 516, .inl hs)), ((md 4), .inl (cI, 172, .inl sl)), ((md 5), .inl (cI, 2, .inl iv)), ((md 6), .inl (cI, 60, .inl tx))] := by rw [ef_4]; exact hD
        refine lv_istore_n (pc := 67) (lv' := [(3, .int ((m_rd tx tl (tl + 1) 0 ((m_ftl tx tl (tl + 1) 0 nu).2.2) a 0).2.1)), (2, .int (m_sum a (4 + 3) 6)), (0, .ref (md 0)), (1, .int (nI 3))]) hx hb dX4_ifRead_67 rfl hl (by decide) rfl (fun ls hl => ?_)
        refine lv_iload_n (pc := 68) hx hb dX4_ifRead_68 rfl (lv_at hl 3 rfl) ?_
        refine lv_iconst (pc := 69) (v := 4) hx hb dX4_ifRead_69 (by decide) ?_
        refine lv_icmp_ge (pc := 70) (tgt := 83) hx hb dX4_ifRead_70 (by decide) (fun c_5 => ?_) (fun c_5 => ?_)
        · skip
          have c_5 : 4 ≤ 3 := (nI_leI (a := 4) (b := 3) (by omega) (by omega)).mp c_5
          exact absurd c_5 (by decide)
        · skip
          have c_5 : ¬ (4 ≤ 3) := fun h9 => c_5 ((nI_leI (a := 4) (b := 3) (by omega) (by omega)).mpr h9)
          refine lv_aload_n (pc := 73) hx hb dX4_ifRead_73 rfl (lv_at hl 2 rfl) ?_
          refine lv_iconst (pc := 74) (v := 4) hx hb dX4_ifRead_74 (by decide) ?_
          refine lv_iload_n (pc := 75) hx hb dX4_ifRead_75 rfl (lv_at hl 3 rfl) ?_
          refine lv_iadd (pc := 76) hx hb dX4_ifRead_76 ?_
          refine b_re (nI_add 4 3) ?_
          refine b_cR (pc := 77) (va_runV (As := [.int (nI (4 + 3))]) (rest := []) ⟨hx, hb, hml, hown, hts⟩ (c_X4_allOf l D cI cC cZ cG md f_4 (va_cpy a kp 0 0 86) hs hn sl iv tx tl ((m_rd tx tl (tl + 1) 0 ((m_ftl tx tl (tl + 1) 0 nu).2.2) a 0).2.2.1) ((m_rd tx tl (tl + 1) 0 ((m_ftl tx tl (tl + 1) 0 nu).2.2) a 0).2.2.2) (4 + 3) (by first | omega | assumption)) (cwV 1 hts gX4_ifRead_X4_allOf rfl rfl rfl hy_X4_allOf ⟨Nat.le_of_ble_eq_true rfl, Nat.le_of_ble_eq_true rfl⟩) (b_pRV (wc := [((md 0), .inr (4, [.ref (md 1), .ref (md 2), .ref (md 3), .int (nI hn), .ref (md 4), .ref (md 5), .ref (md 6), .int (nI tl), .int (nI ((m_rd tx tl (tl + 1) 0 ((m_ftl tx tl (tl + 1) 0 nu).2.2) a 0).2.2.1)), .int ((m_rd tx tl (tl + 1) 0 ((m_ftl tx tl (tl + 1) 0 nu).2.2) a 0).2.2.2)])), ((md 1), .inl (cI, 86, .inl f_4)), ((md 2), .inl (cI, 86, .inl (va_cpy a kp 0 0 86))), ((md 3), .inl (cI, 516, .inl hs)), ((md 4), .inl (cI, 172, .inl sl)), ((md 5), .inl (cI, 2, .inl iv)), ((md 6), .inl (cI, 60, .inl tx))]) hK hP [0, 1, 2, 3, 4, 5, 6] rfl (ci := 4) (q0 := 0) rfl rfl) rfl rfl hl.1 rfl (lv_room (Nat.le_of_ble_eq_true rfl)) dX4_ifRead_77 ⟨Nat.zero_le _, Nat.zero_le _⟩) ?_
          refine lv_goto (pc := 80) (tgt := 104) hx hb dX4_ifRead_80 (by decide) ?_
          refine lv_istore (pc := 104) (lv' := [(4, .int (m_sum f_4 (4 + 3) 6)), (3, .int ((m_rd tx tl (tl + 1) 0 ((m_ftl tx tl (tl + 1) 0 nu).2.2) a 0).2.1)), (2, .int (m_sum a (4 + 3) 6)), (0, .ref (md 0)), (1, .int (nI 3))]) hx hb dX4_ifRead_104 hl (by decide) rfl (fun ls hl => ?_)
          refine lv_aload_n (pc := 106) hx hb dX4_ifRead_106 rfl (lv_at hl 3 rfl) ?_
          refine b_cV (pc := 107) (w1 := [((md 0), .inr (4, [.ref (md 1), .ref (md 2), .ref (md 3), .int (nI hn), .ref (md 4), .ref (md 5), .ref (md 6), .int (nI tl), .int (nI ((m_rd tx tl (tl + 1) 0 ((m_ftl tx tl (tl + 1) 0 nu).2.2) a 0).2.2.1)), .int ((m_rd tx tl (tl + 1) 0 ((m_ftl tx tl (tl + 1) 0 nu).2.2) a 0).2.2.2)])), ((md 1), .inl (cI, 86, .inl (va_cpy (va_cpy a kp 0 0 86) f_4 0 0 86))), ((md 2), .inl (cI, 86, .inl (va_cpy a kp 0 0 86))), ((md 3), .inl (cI, 516, .inl hs)), ((md 4), .inl (cI, 172, .inl sl)), ((md 5), .inl (cI, 2, .inl iv)), ((md 6), .inl (cI, 60, .inl tx))]) (va_runV (As := []) (rest := []) ⟨hx, hb, hml, hown, hts⟩ (c_X4_comesBack l D cI cC cZ cG H.size md f_4 (va_cpy a kp 0 0 86) hs hn sl iv tx tl ((m_rd tx tl (tl + 1) 0 ((m_ftl tx tl (tl + 1) 0 nu).2.2) a 0).2.2.1) ((m_rd tx tl (tl + 1) 0 ((m_ftl tx tl (tl + 1) 0 nu).2.2) a 0).2.2.2)) (cwV 0 hts gX4_ifRead_X4_comesBack rfl rfl rfl hy_X4_comesBack ⟨Nat.le_of_ble_eq_true rfl, Nat.le_of_ble_eq_true rfl⟩) (b_pWV (wc := [((md 0), .inr (4, [.ref (md 1), .ref (md 2), .ref (md 3), .int (nI hn), .ref (md 4), .ref (md 5), .ref (md 6), .int (nI tl), .int (nI ((m_rd tx tl (tl + 1) 0 ((m_ftl tx tl (tl + 1) 0 nu).2.2) a 0).2.2.1)), .int ((m_rd tx tl (tl + 1) 0 ((m_ftl tx tl (tl + 1) 0 nu).2.2) a 0).2.2.2)])), ((md 1), .inl (cI, 86, .inl f_4)), ((md 2), .inl (cI, 86, .inl (va_cpy a kp 0 0 86))), ((md 3), .inl (cI, 516, .inl hs)), ((md 4), .inl (cI, 172, .inl sl)), ((md 5), .inl (cI, 2, .inl iv)), ((md 6), .inl (cI, 60, .inl tx))]) hK hP hD b_Xok_0 [0, 1, 2, 3, 4, 5, 6] rfl (by decide) rfl trivial (ci := 4) (q0 := 0) rfl rfl) rfl rfl hl.1 rfl (lv_room (Nat.le_of_ble_eq_true rfl)) dX4_ifRead_107 ⟨Nat.zero_le _, Nat.zero_le _⟩) hP hD hS hA [0, 1, 2, 3, 4, 5, 6] rfl rfl (fun H locs hP hD hS => ?_)
          have hP : va_P D vwCl [((md 0), .inr (4, [.ref (md 1), .ref (md 2), .ref (md 3), .int (nI hn), .ref (md 4), .ref (md 5), .ref (md 6), .int (nI tl), .int (nI ((m_rd tx tl (tl + 1) 0 ((m_ftl tx tl (tl + 1) 0 nu).2.2) a 0).2.2.1)), .int ((m_rd tx tl (tl + 1) 0 ((m_ftl tx tl (tl + 1) 0 nu).2.2) a 0).2.2.2)])), ((md 1), .inl (cI, 86, .inl (va_cpy (va_cpy a kp 0 0 86) f_4 0 0 86))), ((md 2), .inl (cI, 86, .inl (va_cpy a kp 0 0 86))), ((md 3), .inl (cI, 516, .inl hs)), ((md 4), .inl (cI, 172, .inl sl)), ((md 5), .inl (cI, 2, .inl iv)), ((md 6), .inl (cI, 60, .inl tx))] H := hP
          have hD : va_D A [((md 0), .inr (4, [.ref (md 1), .ref (md 2), .ref (md 3), .int (nI hn), .ref (md 4), .ref (md 5), .ref (md 6), .int (nI tl), .int (nI ((m_rd tx tl (tl + 1) 0 ((m_ftl tx tl (tl + 1) 0 nu).2.2) a 0).2.2.1)), .int ((m_rd tx tl (tl + 1) 0 ((m_ftl tx tl (tl + 1) 0 nu).2.2) a 0).2.2.2)])), ((md 1), .inl (cI, 86, .inl (va_cpy (va_cpy a kp 0 0 86) f_4 0 0 86))), ((md 2), .inl (cI, 86, .inl (va_cpy a kp 0 0 86))), ((md 3), .inl (cI, 516, .inl hs)), ((md 4), .inl (cI, 172, .inl sl)), ((md 5), .inl (cI, 2, .inl iv)), ((md 6), .inl (cI, 60, .inl tx))] := hD
          refine lv_iload (pc := 110) hx hb dX4_ifRead_110 (lv_at hl 0 rfl) ?_
          refine lv_iload_n (pc := 112) hx hb dX4_ifRead_112 rfl (lv_at hl 2 rfl) ?_
          refine lv_isub (pc := 113) hx hb dX4_ifRead_113 ?_
          subst ef_4
          subst hQ
          exact b_retW hx hb hr hlocks hS (rfl) (hP) dX4_ifRead_114
    · skip
      have c_2 : ¬ (m_in ((nI 3).toInt64) 0 5) := b_i_0.mp c_2
      exact absurd (m_inN (lo := 0) (hi := 5) (by decide) (by decide) (by omega) (by omega) (by omega) (by omega)) c_2
  · skip
    have c_1 : ¬ (((m_ftl tx tl (tl + 1) 0 nu).1) = (-6)) := c_1
    exact absurd ht c_1
theorem hw_X4_ifRead_4_0 : (.constantLong RX4 36 (5) : Cond) ∈ wsX4_ifRead := by decide +kernel
theorem hw_X4_ifRead_4_1 : (.fieldLink RX4 7 "BeamTurnstilesModel" "all" "[I" : Cond) ∈ wsX4_ifRead := by decide +kernel
theorem hi_X4_ifRead_4_X4 : ∀ w ∈ wsX40, w ∈ wsX4_ifRead := by decide +kernel
set_option maxHeartbeats 4000000 in
set_option maxRecDepth 100000 in
theorem c_X4_ifRead_4 (l : Launch) (D : va_G) (cI cC cZ cG : ClassId) (sz : Nat) (md : Nat → Nat) (a : Nat → Int32) (kp : Nat → Int32) (hs : Nat → Int32) (hn : Nat) (sl : Nat → Int32) (iv : Nat → Int32) (tx : Nat → Int32) (tl : Nat) (sp : Nat) (nu : Int32) (htl : tl ≤ 60) (ht : (m_ftl tx tl (tl + 1) 0 nu).1 = -6) : Met l yX4_ifRead wsX4_ifRead ({ frames := 6, cells := 0, slots := 0, locals := 135 } : Room) (b_W D (b_T cI cC cZ cG) b_X0 [((md 0), .inr (4, [.ref (md 1), .ref (md 2), .ref (md 3), .int (nI hn), .ref (md 4), .ref (md 5), .ref (md 6), .int (nI tl), .int (nI sp), .int nu])), ((md 1), .inl (cI, 86, .inl a)), ((md 2), .inl (cI, 86, .inl kp)), ((md 3), .inl (cI, 516, .inl hs)), ((md 4), .inl (cI, 172, .inl sl)), ((md 5), .inl (cI, 2, .inl iv)), ((md 6), .inl (cI, 60, .inl tx))] sz [.ref (md 0), .int (nI 4)]) (b_Qi D ((m_rdx tx tl nu a).1 4 - 0) [((md 0), .inr (4, [.ref (md 1), .ref (md 2), .ref (md 3), .int (nI hn), .ref (md 4), .ref (md 5), .ref (md 6), .int (nI tl), .int (nI ((m_rdx tx tl nu a).2.2.1)), .int ((m_rdx tx tl nu a).2.2.2)])), ((md 1), .inl (cI, 86, .inl (va_cpy (va_cpy a kp 0 0 86) (m_rdx tx tl nu a).1 0 0 86))), ((md 2), .inl (cI, 86, .inl (va_cpy a kp 0 0 86))), ((md 3), .inl (cI, 516, .inl hs)), ((md 4), .inl (cI, 172, .inl sl)), ((md 5), .inl (cI, 2, .inl iv)), ((md 6), .inl (cI, 60, .inl tx))] (va_A [((md 0), .inr (4, [.ref (md 1), .ref (md 2), .ref (md 3), .int (nI hn), .ref (md 4), .ref (md 5), .ref (md 6), .int (nI tl), .int (nI sp), .int nu])), ((md 1), .inl (cI, 86, .inl a)), ((md 2), .inl (cI, 86, .inl kp)), ((md 3), .inl (cI, 516, .inl hs)), ((md 4), .inl (cI, 172, .inl sl)), ((md 5), .inl (cI, 2, .inl iv)), ((md 6), .inl (cI, 60, .inl tx))] sz)) 0 0 (va_A [((md 0), .inr (4, [.ref (md 1), .ref (md 2), .ref (md 3), .int (nI hn), .ref (md 4), .ref (md 5), .ref (md 6), .int (nI tl), .int (nI sp), .int nu])), ((md 1), .inl (cI, 86, .inl a)), ((md 2), .inl (cI, 86, .inl kp)), ((md 3), .inl (cI, 516, .inl hs)), ((md 4), .inl (cI, 172, .inl sl)), ((md 5), .inl (cI, 2, .inl iv)), ((md 6), .inl (cI, 60, .inl tx))] sz) := by
  refine b_enterW (Qc := fun A => b_Qi D ((m_rdx tx tl nu a).1 4 - 0) [((md 0), .inr (4, [.ref (md 1), .ref (md 2), .ref (md 3), .int (nI hn), .ref (md 4), .ref (md 5), .ref (md 6), .int (nI tl), .int (nI ((m_rdx tx tl nu a).2.2.1)), .int ((m_rdx tx tl nu a).2.2.2)])), ((md 1), .inl (cI, 86, .inl (va_cpy (va_cpy a kp 0 0 86) (m_rdx tx tl nu a).1 0 0 86))), ((md 2), .inl (cI, 86, .inl (va_cpy a kp 0 0 86))), ((md 3), .inl (cI, 516, .inl hs)), ((md 4), .inl (cI, 172, .inl sl)), ((md 5), .inl (cI, 2, .inl iv)), ((md 6), .inl (cI, 60, .inl tx))] A) (cc := cX4_ifRead) (maxL := 5) (ret := (some .int)) (by decide) rfl (Nat.le_of_ble_eq_true rfl) ?_
  intro p e s m below meth c ls A hx hb hr hml hown hts hlocks hname hP hK hD hA hS hX hl Q hQ
  have hown : s.vm.findClass RX4 = some m.cls := hown
  have hl : lv_has ls 5 [(0, .ref (md 0)), (1, .int (nI 4))] := hl
  refine lv_aload_n (pc := 0) hx hb dX4_ifRead_0 rfl (lv_at hl 0 rfl) ?_
  refine b_cW (pc := 1) (w1 := [((md 0), .inr (4, [.ref (md 1), .ref (md 2), .ref (md 3), .int (nI hn), .ref (md 4), .ref (md 5), .ref (md 6), .int (nI tl), .int (nI ((m_ftl tx tl (tl + 1) 0 nu).2.1)), .int ((m_ftl tx tl (tl + 1) 0 nu).2.2)])), ((md 1), .inl (cI, 86, .inl a)), ((md 2), .inl (cI, 86, .inl kp)), ((md 3), .inl (cI, 516, .inl hs)), ((md 4), .inl (cI, 172, .inl sl)), ((md 5), .inl (cI, 2, .inl iv)), ((md 6), .inl (cI, 60, .inl tx))]) (va_runV (As := []) (rest := []) ⟨hx, hb, hml, hown, hts⟩ (c_X4_fault l D cI cC cZ cG s.heap.size md a kp hs hn sl iv tx tl sp nu (by first | omega | assumption)) (cwV 0 hts gX4_ifRead_X4_fault rfl rfl rfl hy_X4_fault ⟨Nat.le_of_ble_eq_true rfl, Nat.le_of_ble_eq_true rfl⟩) (b_pWV (wc := [((md 0), .inr (4, [.ref (md 1), .ref (md 2), .ref (md 3), .int (nI hn), .ref (md 4), .ref (md 5), .ref (md 6), .int (nI tl), .int (nI sp), .int nu])), ((md 1), .inl (cI, 86, .inl a)), ((md 2), .inl (cI, 86, .inl kp)), ((md 3), .inl (cI, 516, .inl hs)), ((md 4), .inl (cI, 172, .inl sl)), ((md 5), .inl (cI, 2, .inl iv)), ((md 6), .inl (cI, 60, .inl tx))]) hK hP hD b_Xok_0 [0, 1, 2, 3, 4, 5, 6] rfl (by decide) rfl trivial (ci := 4) (q0 := 0) rfl rfl) rfl rfl hl.1 rfl (lv_room (Nat.le_of_ble_eq_true rfl)) dX4_ifRead_1 ⟨Nat.zero_le _, Nat.zero_le _⟩) hP hD hS hA [0, 1, 2, 3, 4, 5, 6] rfl rfl (fun H locs hP hD hS => ?_)
  have hP : va_P D vwCl [((md 0), .inr (4, [.ref (md 1), .ref (md 2), .ref (md 3), .int (nI hn), .ref (md 4), .ref (md 5), .ref (md 6), .int (nI tl), .int (nI ((m_ftl tx tl (tl + 1) 0 nu).2.1)), .int ((m_ftl tx tl (tl + 1) 0 nu).2.2)])), ((md 1), .inl (cI, 86, .inl a)), ((md 2), .inl (cI, 86, .inl kp)), ((md 3), .inl (cI, 516, .inl hs)), ((md 4), .inl (cI, 172, .inl sl)), ((md 5), .inl (cI, 2, .inl iv)), ((md 6), .inl (cI, 60, .inl tx))] H := hP
  have hD : va_D A [((md 0), .inr (4, [.ref (md 1), .ref (md 2), .ref (md 3), .int (nI hn), .ref (md 4), .ref (md 5), .ref (md 6), .int (nI tl), .int (nI ((m_ftl tx tl (tl + 1) 0 nu).2.1)), .int ((m_ftl tx tl (tl + 1) 0 nu).2.2)])), ((md 1), .inl (cI, 86, .inl a)), ((md 2), .inl (cI, 86, .inl kp)), ((md 3), .inl (cI, 516, .inl hs)), ((md 4), .inl (cI, 172, .inl sl)), ((md 5), .inl (cI, 2, .inl iv)), ((md 6), .inl (cI, 60, .inl tx))] := hD
  refine lv_bipush (pc := 4) (v := (-6)) hx hb dX4_ifRead_4 (by decide) ?_
  refine lv_icmp_eq (pc := 6) (tgt := 12) hx hb dX4_ifRead_6 (by decide) (fun c_1 => ?_) (fun c_1 => ?_)
  · skip
    have c_1 : ((m_ftl tx tl (tl + 1) 0 nu).1) = (-6) := c_1
    refine lv_iload_n (pc := 12) hx hb dX4_ifRead_12 rfl (lv_at hl 1 rfl) ?_
    refine lv_i2l (pc := 13) hx hb dX4_ifRead_13 rfl ?_
    refine lv_lconst (pc := 14) (v := 0) hx hb dX4_ifRead_14 (by decide) ?_
    refine lv_ldc2 (pc := 15) hx hb hown (hts _ hw_X4_ifRead_4_0) dX4_ifRead_15 ?_
    refine b_cR (pc := 18) (va_runS (As := [.long ((nI 4).toInt64), .long 0, .long 5]) (rest := []) ⟨hx, hb, hml, hown, hts⟩ (c_X4_in l D cI cC cZ cG ((nI 4).toInt64) 0 5) (va_cwS 3 hts gX4_ifRead_X4_in rfl rfl rfl hyS_X4_in ⟨Nat.le_of_ble_eq_true rfl, Nat.le_of_ble_eq_true rfl⟩) (b_pRS (wc := []) hK hP [] rfl) rfl rfl hl.1 rfl (lv_room (Nat.le_of_ble_eq_true rfl)) dX4_ifRead_18 ⟨Nat.zero_le _, Nat.zero_le _⟩) ?_
    refine lv_if_ne (pc := 21) (tgt := 27) hx hb dX4_ifRead_21 (by decide) (fun c_2 => ?_) (fun c_2 => ?_)
    · skip
      have c_2 : m_in ((nI 4).toInt64) 0 5 := Classical.not_not.mp (fun h9 => c_2 (b_i_0.mpr h9))
      refine lv_iload_n (pc := 27) hx hb dX4_ifRead_27 rfl (lv_at hl 1 rfl) ?_
      refine lv_iconst (pc := 28) (v := 4) hx hb dX4_ifRead_28 (by decide) ?_
      refine lv_icmp_ge (pc := 29) (tgt := 42) hx hb dX4_ifRead_29 (by decide) (fun c_3 => ?_) (fun c_3 => ?_)
      · skip
        have c_3 : 4 ≤ 4 := (nI_leI (a := 4) (b := 4) (by omega) (by omega)).mp c_3
        refine lv_iload_n (pc := 42) hx hb dX4_ifRead_42 rfl (lv_at hl 1 rfl) ?_
        refine lv_iconst (pc := 43) (v := 4) hx hb dX4_ifRead_43 (by decide) ?_
        refine lv_icmp_ne (pc := 44) (tgt := 51) hx hb dX4_ifRead_44 (by decide) (fun c_4 => ?_) (fun c_4 => ?_)
        · skip
          have c_4 : ¬ (4 = 4) := fun h9 => c_4 ((nI_eq (a := 4) (b := 4) (by omega) (by omega)).mpr h9)
          exact absurd c_4 (by decide)
        · skip
          have c_4 : 4 = 4 := (nI_eq (a := 4) (b := 4) (by omega) (by omega)).mp c_4
          refine lv_iconst (pc := 47) (v := 0) hx hb dX4_ifRead_47 (by decide) ?_
          refine lv_goto (pc := 48) (tgt := 58) hx hb dX4_ifRead_48 (by decide) ?_
          refine lv_istore_n (pc := 58) (lv' := [(2, .int 0), (0, .ref (md 0)), (1, .int (nI 4))]) hx hb dX4_ifRead_58 rfl hl (by decide) rfl (fun ls hl => ?_)
          refine lv_aload_n (pc := 59) hx hb dX4_ifRead_59 rfl (lv_at hl 1 rfl) ?_
          refine b_cV (pc := 60) (w1 := [((md 0), .inr (4, [.ref (md 1), .ref (md 2), .ref (md 3), .int (nI hn), .ref (md 4), .ref (md 5), .ref (md 6), .int (nI tl), .int (nI ((m_ftl tx tl (tl + 1) 0 nu).2.1)), .int ((m_ftl tx tl (tl + 1) 0 nu).2.2)])), ((md 1), .inl (cI, 86, .inl a)), ((md 2), .inl (cI, 86, .inl (va_cpy a kp 0 0 86))), ((md 3), .inl (cI, 516, .inl hs)), ((md 4), .inl (cI, 172, .inl sl)), ((md 5), .inl (cI, 2, .inl iv)), ((md 6), .inl (cI, 60, .inl tx))]) (va_runV (As := []) (rest := []) ⟨hx, hb, hml, hown, hts⟩ (c_X4_keeps l D cI cC cZ cG H.size md a kp hs hn sl iv tx tl ((m_ftl tx tl (tl + 1) 0 nu).2.1) ((m_ftl tx tl (tl + 1) 0 nu).2.2)) (cwV 0 hts gX4_ifRead_X4_keeps rfl rfl rfl hy_X4_keeps ⟨Nat.le_of_ble_eq_true rfl, Nat.le_of_ble_eq_true rfl⟩) (b_pWV (wc := [((md 0), .inr (4, [.ref (md 1), .ref (md 2), .ref (md 3), .int (nI hn), .ref (md 4), .ref (md 5), .ref (md 6), .int (nI tl), .int (nI ((m_ftl tx tl (tl + 1) 0 nu).2.1)), .int ((m_ftl tx tl (tl + 1) 0 nu).2.2)])), ((md 1), .inl (cI, 86, .inl a)), ((md 2), .inl (cI, 86, .inl kp)), ((md 3), .inl (cI, 516, .inl hs)), ((md 4), .inl (cI, 172, .inl sl)), ((md 5), .inl (cI, 2, .inl iv)), ((md 6), .inl (cI, 60, .inl tx))]) hK hP hD b_Xok_0 [0, 1, 2, 3, 4, 5, 6] rfl (by decide) rfl trivial (ci := 4) (q0 := 0) rfl rfl) rfl rfl hl.1 rfl (lv_room (Nat.le_of_ble_eq_true rfl)) dX4_ifRead_60 ⟨Nat.zero_le _, Nat.zero_le _⟩) hP hD hS hA [0, 1, 2, 3, 4, 5, 6] rfl rfl (fun H locs hP hD hS => ?_)
          have hP : va_P D vwCl [((md 0), .inr (4, [.ref (md 1), .ref (md 2), .ref (md 3), .int (nI hn), .ref (md 4), .ref (md 5), .ref (md 6), .int (nI tl), .int (nI ((m_ftl tx tl (tl + 1) 0 nu).2.1)), .int ((m_ftl tx tl (tl + 1) 0 nu).2.2)])), ((md 1), .inl (cI, 86, .inl a)), ((md 2), .inl (cI, 86, .inl (va_cpy a kp 0 0 86))), ((md 3), .inl (cI, 516, .inl hs)), ((md 4), .inl (cI, 172, .inl sl)), ((md 5), .inl (cI, 2, .inl iv)), ((md 6), .inl (cI, 60, .inl tx))] H := hP
          have hD : va_D A [((md 0), .inr (4, [.ref (md 1), .ref (md 2), .ref (md 3), .int (nI hn), .ref (md 4), .ref (md 5), .ref (md 6), .int (nI tl), .int (nI ((m_ftl tx tl (tl + 1) 0 nu).2.1)), .int ((m_ftl tx tl (tl + 1) 0 nu).2.2)])), ((md 1), .inl (cI, 86, .inl a)), ((md 2), .inl (cI, 86, .inl (va_cpy a kp 0 0 86))), ((md 3), .inl (cI, 516, .inl hs)), ((md 4), .inl (cI, 172, .inl sl)), ((md 5), .inl (cI, 2, .inl iv)), ((md 6), .inl (cI, 60, .inl tx))] := hD
          refine lv_aload_n (pc := 63) hx hb dX4_ifRead_63 rfl (lv_at hl 1 rfl) ?_
          refine b_cW (pc := 64) (w1 := [((md 0), .inr (4, [.ref (md 1), .ref (md 2), .ref (md 3), .int (nI hn), .ref (md 4), .ref (md 5), .ref (md 6), .int (nI tl), .int (nI ((m_rd tx tl (tl + 1) 0 ((m_ftl tx tl (tl + 1) 0 nu).2.2) a 0).2.2.1)), .int ((m_rd tx tl (tl + 1) 0 ((m_ftl tx tl (tl + 1) 0 nu).2.2) a 0).2.2.2)])), ((md 1), .inl (cI, 86, .inl ((m_rd tx tl (tl + 1) 0 ((m_ftl tx tl (tl + 1) 0 nu).2.2) a 0).1))), ((md 2), .inl (cI, 86, .inl (va_cpy a kp 0 0 86))), ((md 3), .inl (cI, 516, .inl hs)), ((md 4), .inl (cI, 172, .inl sl)), ((md 5), .inl (cI, 2, .inl iv)), ((md 6), .inl (cI, 60, .inl tx))]) (va_runV (As := []) (rest := []) ⟨hx, hb, hml, hown, hts⟩ (c_X4_reads l D cI cC cZ cG H.size md a (va_cpy a kp 0 0 86) hs hn sl iv tx tl ((m_ftl tx tl (tl + 1) 0 nu).2.1) ((m_ftl tx tl (tl + 1) 0 nu).2.2) (by first | omega | assumption) ((m_ftl_nu (tl + 1) 0 _ nu).trans ht)) (cwV 0 hts gX4_ifRead_X4_reads rfl rfl rfl hy_X4_reads ⟨Nat.le_of_ble_eq_true rfl, Nat.le_of_ble_eq_true rfl⟩) (b_pWV (wc := [((md 0), .inr (4, [.ref (md 1), .ref (md 2), .ref (md 3), .int (nI hn), .ref (md 4), .ref (md 5), .ref (md 6), .int (nI tl), .int (nI ((m_ftl tx tl (tl + 1) 0 nu).2.1)), .int ((m_ftl tx tl (tl + 1) 0 nu).2.2)])), ((md 1), .inl (cI, 86, .inl a)), ((md 2), .inl (cI, 86, .inl (va_cpy a kp 0 0 86))), ((md 3), .inl (cI, 516, .inl hs)), ((md 4), .inl (cI, 172, .inl sl)), ((md 5), .inl (cI, 2, .inl iv)), ((md 6), .inl (cI, 60, .inl tx))]) hK hP hD b_Xok_0 [0, 1, 2, 3, 4, 5, 6] rfl (by decide) rfl trivial (ci := 4) (q0 := 0) rfl rfl) rfl rfl hl.1 rfl (lv_room (Nat.le_of_ble_eq_true rfl)) dX4_ifRead_64 ⟨Nat.zero_le _, Nat.zero_le _⟩) hP hD hS hA [0, 1, 2, 3, 4, 5, 6] rfl rfl (fun H locs hP hD hS => ?_)
          have hP : va_P D vwCl [((md 0), .inr (4, [.ref (md 1), .ref (md 2), .ref (md 3), .int (nI hn), .ref (md 4), .ref (md 5), .ref (md 6), .int (nI tl), .int (nI ((m_rd tx tl (tl + 1) 0 ((m_ftl tx tl (tl + 1) 0 nu).2.2) a 0).2.2.1)), .int ((m_rd tx tl (tl + 1) 0 ((m_ftl tx tl (tl + 1) 0 nu).2.2) a 0).2.2.2)])), ((md 1), .inl (cI, 86, .inl ((m_rd tx tl (tl + 1) 0 ((m_ftl tx tl (tl + 1) 0 nu).2.2) a 0).1))), ((md 2), .inl (cI, 86, .inl (va_cpy a kp 0 0 86))), ((md 3), .inl (cI, 516, .inl hs)), ((md 4), .inl (cI, 172, .inl sl)), ((md 5), .inl (cI, 2, .inl iv)), ((md 6), .inl (cI, 60, .inl tx))] H := hP
          have hD : va_D A [((md 0), .inr (4, [.ref (md 1), .ref (md 2), .ref (md 3), .int (nI hn), .ref (md 4), .ref (md 5), .ref (md 6), .int (nI tl), .int (nI ((m_rd tx tl (tl + 1) 0 ((m_ftl tx tl (tl + 1) 0 nu).2.2) a 0).2.2.1)), .int ((m_rd tx tl (tl + 1) 0 ((m_ftl tx tl (tl + 1) 0 nu).2.2) a 0).2.2.2)])), ((md 1), .inl (cI, 86, .inl ((m_rd tx tl (tl + 1) 0 ((m_ftl tx tl (tl + 1) 0 nu).2.2) a 0).1))), ((md 2), .inl (cI, 86, .inl (va_cpy a kp 0 0 86))), ((md 3), .inl (cI, 516, .inl hs)), ((md 4), .inl (cI, 172, .inl sl)), ((md 5), .inl (cI, 2, .inl iv)), ((md 6), .inl (cI, 60, .inl tx))] := hD
          obtain ⟨f_5, ef_5⟩ : ∃ z9 : Nat → Int32, z9 = (m_rd tx tl (tl + 1) 0 ((m_ftl tx tl (tl + 1) 0 nu).2.2) a 0).1 := ⟨_, rfl⟩
          have hP : va_P D vwCl [((md 0), .inr (4, [.ref (md 1), .ref (md 2), .ref (md 3), .int (nI hn), .ref (md 4), .ref (md 5), .ref (md 6), .int (nI tl), .int (nI ((m_rd tx tl (tl + 1) 0 ((m_ftl tx tl (tl + 1) 0 nu).2.2) a 0).2.2.1)), .int ((m_rd tx tl (tl + 1) 0 ((m_ftl tx tl (tl + 1) 0 nu).2.2) a 0).2.2.2)])), ((md 1), .inl (cI, 86, .inl f_5)), ((md 2), .inl (cI, 86, .inl (va_cpy a kp 0 0 86))), ((md 3), .inl (cI, 516, .inl hs)), ((md 4), .inl (cI, 172, .inl sl)), ((md 5), .inl (cI, 2, .inl iv)), ((md 6), .inl (cI, 60, .inl tx))] H := by rw [ef_5]; exact hP
          have hD : va_D A [((md 0), .inr (4, [.ref (md 1), .ref (md 2), .ref (md 3), .int (nI hn), .ref (md 4), .ref (md 5), .ref (md 6), .int (nI tl), .int (nI ((m_rd tx tl (tl + 1) 0 ((m_ftl tx tl (tl + 1) 0 nu).2.2) a 0).2.2.1)), .int ((m_rd tx tl (tl + 1) 0 ((m_ftl tx tl (tl + 1) 0 nu).2.2) a 0).2.2.2)])), ((md 1), .inl (cI, 86, .inl f_5)), ((md 2), .inl (cI, 86, .inl (va_cpy a kp 0 0 86))), ((md 3), .inl (cI, 516, .inl hs)), ((md 4), .inl (cI, 172, .inl sl)), ((md 5), .inl (cI, 2, .inl iv)), ((md 6), .inl (cI, 60, .inl tx))] := by rw [ef_5]; exact hD
          refine lv_istore_n (pc := 67) (lv' := [(3, .int ((m_rd tx tl (tl + 1) 0 ((m_ftl tx tl (tl + 1) 0 nu).2.2) a 0).2.1)), (2, .int 0), (0, .ref (md 0)), (1, .int (nI 4))]) hx hb dX4_ifRead_67 rfl hl (by decide) rfl (fun ls hl => ?_)
          refine lv_iload_n (pc := 68) hx hb dX4_ifRead_68 rfl (lv_at hl 3 rfl) ?_
          refine lv_iconst (pc := 69) (v := 4) hx hb dX4_ifRead_69 (by decide) ?_
          refine lv_icmp_ge (pc := 70) (tgt := 83) hx hb dX4_ifRead_70 (by decide) (fun c_6 => ?_) (fun c_6 => ?_)
          · skip
            have c_6 : 4 ≤ 4 := (nI_leI (a := 4) (b := 4) (by omega) (by omega)).mp c_6
            refine lv_iload_n (pc := 83) hx hb dX4_ifRead_83 rfl (lv_at hl 3 rfl) ?_
            refine lv_iconst (pc := 84) (v := 4) hx hb dX4_ifRead_84 (by decide) ?_
            refine lv_icmp_ne (pc := 85) (tgt := 97) hx hb dX4_ifRead_85 (by decide) (fun c_7 => ?_) (fun c_7 => ?_)
            · skip
              have c_7 : ¬ (4 = 4) := fun h9 => c_7 ((nI_eq (a := 4) (b := 4) (by omega) (by omega)).mpr h9)
              exact absurd c_7 (by decide)
            · skip
              have c_7 : 4 = 4 := (nI_eq (a := 4) (b := 4) (by omega) (by omega)).mp c_7
              refine lv_aload_n (pc := 88) hx hb dX4_ifRead_88 rfl (lv_at hl 2 rfl) ?_
              refine va_get (pc := 89) (D := D) (ci := 4) (v := .ref (md 1)) (C := RX4) (T := TX4) (N := 10) hx hb hts hi_X4_ifRead_4_X4 hown hK hP 0 rfl rfl 0 (by decide) (hts _ hw_X4_ifRead_4_1) (fun _ h9 => h9) rfl dX4_ifRead_89 ?_
              refine lv_iconst (pc := 92) (v := 4) hx hb dX4_ifRead_92 (by decide) ?_
              refine b_iald (pc := 93) hx hb hK hP 1 0 rfl rfl 4 rfl (by omega) (by decide) dX4_ifRead_93 ?_
              refine lv_goto (pc := 94) (tgt := 104) hx hb dX4_ifRead_94 (by decide) ?_
              refine lv_istore (pc := 104) (lv' := [(4, .int (f_5 4)), (3, .int ((m_rd tx tl (tl + 1) 0 ((m_ftl tx tl (tl + 1) 0 nu).2.2) a 0).2.1)), (2, .int 0), (0, .ref (md 0)), (1, .int (nI 4))]) hx hb dX4_ifRead_104 hl (by decide) rfl (fun ls hl => ?_)
              refine lv_aload_n (pc := 106) hx hb dX4_ifRead_106 rfl (lv_at hl 3 rfl) ?_
              refine b_cV (pc := 107) (w1 := [((md 0), .inr (4, [.ref (md 1), .ref (md 2), .ref (md 3), .int (nI hn), .ref (md 4), .ref (md 5), .ref (md 6), .int (nI tl), .int (nI ((m_rd tx tl (tl + 1) 0 ((m_ftl tx tl (tl + 1) 0 nu).2.2) a 0).2.2.1)), .int ((m_rd tx tl (tl + 1) 0 ((m_ftl tx tl (tl + 1) 0 nu).2.2) a 0).2.2.2)])), ((md 1), .inl (cI, 86, .inl (va_cpy (va_cpy a kp 0 0 86) f_5 0 0 86))), ((md 2), .inl (cI, 86, .inl (va_cpy a kp 0 0 86))), ((md 3), .inl (cI, 516, .inl hs)), ((md 4), .inl (cI, 172, .inl sl)), ((md 5), .inl (cI, 2, .inl iv)), ((md 6), .inl (cI, 60, .inl tx))]) (va_runV (As := []) (rest := []) ⟨hx, hb, hml, hown, hts⟩ (c_X4_comesBack l D cI cC cZ cG H.size md f_5 (va_cpy a kp 0 0 86) hs hn sl iv tx tl ((m_rd tx tl (tl + 1) 0 ((m_ftl tx tl (tl + 1) 0 nu).2.2) a 0).2.2.1) ((m_rd tx tl (tl + 1) 0 ((m_ftl tx tl (tl + 1) 0 nu).2.2) a 0).2.2.2)) (cwV 0 hts gX4_ifRead_X4_comesBack rfl rfl rfl hy_X4_comesBack ⟨Nat.le_of_ble_eq_true rfl, Nat.le_of_ble_eq_true rfl⟩) (b_pWV (wc := [((md 0), .inr (4, [.ref (md 1), .ref (md 2), .ref (md 3), .int (nI hn), .ref (md 4), .ref (md 5), .ref (md 6), .int (nI tl), .int (nI ((m_rd tx tl (tl + 1) 0 ((m_ftl tx tl (tl + 1) 0 nu).2.2) a 0).2.2.1)), .int ((m_rd tx tl (tl + 1) 0 ((m_ftl tx tl (tl + 1) 0 nu).2.2) a 0).2.2.2)])), ((md 1), .inl (cI, 86, .inl f_5)), ((md 2), .inl (cI, 86, .inl (va_cpy a kp 0 0 86))), ((md 3), .inl (cI, 516, .inl hs)), ((md 4), .inl (cI, 172, .inl sl)), ((md 5), .inl (cI, 2, .inl iv)), ((md 6), .inl (cI, 60, .inl tx))]) hK hP hD b_Xok_0 [0, 1, 2, 3, 4, 5, 6] rfl (by decide) rfl trivial (ci := 4) (q0 := 0) rfl rfl) rfl rfl hl.1 rfl (lv_room (Nat.le_of_ble_eq_true rfl)) dX4_ifRead_107 ⟨Nat.zero_le _, Nat.zero_le _⟩) hP hD hS hA [0, 1, 2, 3, 4, 5, 6] rfl rfl (fun H locs hP hD hS => ?_)
              have hP : va_P D vwCl [((md 0), .inr (4, [.ref (md 1), .ref (md 2), .ref (md 3), .int (nI hn), .ref (md 4), .ref (md 5), .ref (md 6), .int (nI tl), .int (nI ((m_rd tx tl (tl + 1) 0 ((m_ftl tx tl (tl + 1) 0 nu).2.2) a 0).2.2.1)), .int ((m_rd tx tl (tl + 1) 0 ((m_ftl tx tl (tl + 1) 0 nu).2.2) a 0).2.2.2)])), ((md 1), .inl (cI, 86, .inl (va_cpy (va_cpy a kp 0 0 86) f_5 0 0 86))), ((md 2), .inl (cI, 86, .inl (va_cpy a kp 0 0 86))), ((md 3), .inl (cI, 516, .inl hs)), ((md 4), .inl (cI, 172, .inl sl)), ((md 5), .inl (cI, 2, .inl iv)), ((md 6), .inl (cI, 60, .inl tx))] H := hP
              have hD : va_D A [((md 0), .inr (4, [.ref (md 1), .ref (md 2), .ref (md 3), .int (nI hn), .ref (md 4), .ref (md 5), .ref (md 6), .int (nI tl), .int (nI ((m_rd tx tl (tl + 1) 0 ((m_ftl tx tl (tl + 1) 0 nu).2.2) a 0).2.2.1)), .int ((m_rd tx tl (tl + 1) 0 ((m_ftl tx tl (tl + 1) 0 nu).2.2) a 0).2.2.2)])), ((md 1), .inl (cI, 86, .inl (va_cpy (va_cpy a kp 0 0 86) f_5 0 0 86))), ((md 2), .inl (cI, 86, .inl (va_cpy a kp 0 0 86))), ((md 3), .inl (cI, 516, .inl hs)), ((md 4), .inl (cI, 172, .inl sl)), ((md 5), .inl (cI, 2, .inl iv)), ((md 6), .inl (cI, 60, .inl tx))] := hD
              refine lv_iload (pc := 110) hx hb dX4_ifRead_110 (lv_at hl 0 rfl) ?_
              refine lv_iload_n (pc := 112) hx hb dX4_ifRead_112 rfl (lv_at hl 2 rfl) ?_
              refine lv_isub (pc := 113) hx hb dX4_ifRead_113 ?_
              subst ef_5
              subst hQ
              exact b_retW hx hb hr hlocks hS (rfl) (hP) dX4_ifRead_114
          · skip
            have c_6 : ¬ (4 ≤ 4) := fun h9 => c_6 ((nI_leI (a := 4) (b := 4) (by omega) (by omega)).mpr h9)
            exact absurd c_6 (by decide)
      · skip
        have c_3 : ¬ (4 ≤ 4) := fun h9 => c_3 ((nI_leI (a := 4) (b := 4) (by omega) (by omega)).mpr h9)
        exact absurd c_3 (by decide)
    · skip
      have c_2 : ¬ (m_in ((nI 4).toInt64) 0 5) := b_i_0.mp c_2
      exact absurd (m_inN (lo := 0) (hi := 5) (by decide) (by decide) (by omega) (by omega) (by omega) (by omega)) c_2
  · skip
    have c_1 : ¬ (((m_ftl tx tl (tl + 1) 0 nu).1) = (-6)) := c_1
    exact absurd ht c_1
theorem hw_X4_ifRead_5_0 : (.constantLong RX4 36 (5) : Cond) ∈ wsX4_ifRead := by decide +kernel
theorem hw_X4_ifRead_5_1 : (.fieldLink RX4 7 "BeamTurnstilesModel" "all" "[I" : Cond) ∈ wsX4_ifRead := by decide +kernel
theorem hi_X4_ifRead_5_X4 : ∀ w ∈ wsX40, w ∈ wsX4_ifRead := by decide +kernel
set_option maxHeartbeats 4000000 in
set_option maxRecDepth 100000 in
theorem c_X4_ifRead_5 (l : Launch) (D : va_G) (cI cC cZ cG : ClassId) (sz : Nat) (md : Nat → Nat) (a : Nat → Int32) (kp : Nat → Int32) (hs : Nat → Int32) (hn : Nat) (sl : Nat → Int32) (iv : Nat → Int32) (tx : Nat → Int32) (tl : Nat) (sp : Nat) (nu : Int32) (htl : tl ≤ 60) (ht : (m_ftl tx tl (tl + 1) 0 nu).1 = -6) : Met l yX4_ifRead wsX4_ifRead ({ frames := 6, cells := 0, slots := 0, locals := 135 } : Room) (b_W D (b_T cI cC cZ cG) b_X0 [((md 0), .inr (4, [.ref (md 1), .ref (md 2), .ref (md 3), .int (nI hn), .ref (md 4), .ref (md 5), .ref (md 6), .int (nI tl), .int (nI sp), .int nu])), ((md 1), .inl (cI, 86, .inl a)), ((md 2), .inl (cI, 86, .inl kp)), ((md 3), .inl (cI, 516, .inl hs)), ((md 4), .inl (cI, 172, .inl sl)), ((md 5), .inl (cI, 2, .inl iv)), ((md 6), .inl (cI, 60, .inl tx))] sz [.ref (md 0), .int (nI 5)]) (b_Qi D ((m_rdx tx tl nu a).1 6 - a 6) [((md 0), .inr (4, [.ref (md 1), .ref (md 2), .ref (md 3), .int (nI hn), .ref (md 4), .ref (md 5), .ref (md 6), .int (nI tl), .int (nI ((m_rdx tx tl nu a).2.2.1)), .int ((m_rdx tx tl nu a).2.2.2)])), ((md 1), .inl (cI, 86, .inl (va_cpy (va_cpy a kp 0 0 86) (m_rdx tx tl nu a).1 0 0 86))), ((md 2), .inl (cI, 86, .inl (va_cpy a kp 0 0 86))), ((md 3), .inl (cI, 516, .inl hs)), ((md 4), .inl (cI, 172, .inl sl)), ((md 5), .inl (cI, 2, .inl iv)), ((md 6), .inl (cI, 60, .inl tx))] (va_A [((md 0), .inr (4, [.ref (md 1), .ref (md 2), .ref (md 3), .int (nI hn), .ref (md 4), .ref (md 5), .ref (md 6), .int (nI tl), .int (nI sp), .int nu])), ((md 1), .inl (cI, 86, .inl a)), ((md 2), .inl (cI, 86, .inl kp)), ((md 3), .inl (cI, 516, .inl hs)), ((md 4), .inl (cI, 172, .inl sl)), ((md 5), .inl (cI, 2, .inl iv)), ((md 6), .inl (cI, 60, .inl tx))] sz)) 0 0 (va_A [((md 0), .inr (4, [.ref (md 1), .ref (md 2), .ref (md 3), .int (nI hn), .ref (md 4), .ref (md 5), .ref (md 6), .int (nI tl), .int (nI sp), .int nu])), ((md 1), .inl (cI, 86, .inl a)), ((md 2), .inl (cI, 86, .inl kp)), ((md 3), .inl (cI, 516, .inl hs)), ((md 4), .inl (cI, 172, .inl sl)), ((md 5), .inl (cI, 2, .inl iv)), ((md 6), .inl (cI, 60, .inl tx))] sz) := by
  refine b_enterW (Qc := fun A => b_Qi D ((m_rdx tx tl nu a).1 6 - a 6) [((md 0), .inr (4, [.ref (md 1), .ref (md 2), .ref (md 3), .int (nI hn), .ref (md 4), .ref (md 5), .ref (md 6), .int (nI tl), .int (nI ((m_rdx tx tl nu a).2.2.1)), .int ((m_rdx tx tl nu a).2.2.2)])), ((md 1), .inl (cI, 86, .inl (va_cpy (va_cpy a kp 0 0 86) (m_rdx tx tl nu a).1 0 0 86))), ((md 2), .inl (cI, 86, .inl (va_cpy a kp 0 0 86))), ((md 3), .inl (cI, 516, .inl hs)), ((md 4), .inl (cI, 172, .inl sl)), ((md 5), .inl (cI, 2, .inl iv)), ((md 6), .inl (cI, 60, .inl tx))] A) (cc := cX4_ifRead) (maxL := 5) (ret := (some .int)) (by decide) rfl (Nat.le_of_ble_eq_true rfl) ?_
  intro p e s m below meth c ls A hx hb hr hml hown hts hlocks hname hP hK hD hA hS hX hl Q hQ
  have hown : s.vm.findClass RX4 = some m.cls := hown
  have hl : lv_has ls 5 [(0, .ref (md 0)), (1, .int (nI 5))] := hl
  refine lv_aload_n (pc := 0) hx hb dX4_ifRead_0 rfl (lv_at hl 0 rfl) ?_
  refine b_cW (pc := 1) (w1 := [((md 0), .inr (4, [.ref (md 1), .ref (md 2), .ref (md 3), .int (nI hn), .ref (md 4), .ref (md 5), .ref (md 6), .int (nI tl), .int (nI ((m_ftl tx tl (tl + 1) 0 nu).2.1)), .int ((m_ftl tx tl (tl + 1) 0 nu).2.2)])), ((md 1), .inl (cI, 86, .inl a)), ((md 2), .inl (cI, 86, .inl kp)), ((md 3), .inl (cI, 516, .inl hs)), ((md 4), .inl (cI, 172, .inl sl)), ((md 5), .inl (cI, 2, .inl iv)), ((md 6), .inl (cI, 60, .inl tx))]) (va_runV (As := []) (rest := []) ⟨hx, hb, hml, hown, hts⟩ (c_X4_fault l D cI cC cZ cG s.heap.size md a kp hs hn sl iv tx tl sp nu (by first | omega | assumption)) (cwV 0 hts gX4_ifRead_X4_fault rfl rfl rfl hy_X4_fault ⟨Nat.le_of_ble_eq_true rfl, Nat.le_of_ble_eq_true rfl⟩) (b_pWV (wc := [((md 0), .inr (4, [.ref (md 1), .ref (md 2), .ref (md 3), .int (nI hn), .ref (md 4), .ref (md 5), .ref (md 6), .int (nI tl), .int (nI sp), .int nu])), ((md 1), .inl (cI, 86, .inl a)), ((md 2), .inl (cI, 86, .inl kp)), ((md 3), .inl (cI, 516, .inl hs)), ((md 4), .inl (cI, 172, .inl sl)), ((md 5), .inl (cI, 2, .inl iv)), ((md 6), .inl (cI, 60, .inl tx))]) hK hP hD b_Xok_0 [0, 1, 2, 3, 4, 5, 6] rfl (by decide) rfl trivial (ci := 4) (q0 := 0) rfl rfl) rfl rfl hl.1 rfl (lv_room (Nat.le_of_ble_eq_true rfl)) dX4_ifRead_1 ⟨Nat.zero_le _, Nat.zero_le _⟩) hP hD hS hA [0, 1, 2, 3, 4, 5, 6] rfl rfl (fun H locs hP hD hS => ?_)
  have hP : va_P D vwCl [((md 0), .inr (4, [.ref (md 1), .ref (md 2), .ref (md 3), .int (nI hn), .ref (md 4), .ref (md 5), .ref (md 6), .int (nI tl), .int (nI ((m_ftl tx tl (tl + 1) 0 nu).2.1)), .int ((m_ftl tx tl (tl + 1) 0 nu).2.2)])), ((md 1), .inl (cI, 86, .inl a)), ((md 2), .inl (cI, 86, .inl kp)), ((md 3), .inl (cI, 516, .inl hs)), ((md 4), .inl (cI, 172, .inl sl)), ((md 5), .inl (cI, 2, .inl iv)), ((md 6), .inl (cI, 60, .inl tx))] H := hP
  have hD : va_D A [((md 0), .inr (4, [.ref (md 1), .ref (md 2), .ref (md 3), .int (nI hn), .ref (md 4), .ref (md 5), .ref (md 6), .int (nI tl), .int (nI ((m_ftl tx tl (tl + 1) 0 nu).2.1)), .int ((m_ftl tx tl (tl + 1) 0 nu).2.2)])), ((md 1), .inl (cI, 86, .inl a)), ((md 2), .inl (cI, 86, .inl kp)), ((md 3), .inl (cI, 516, .inl hs)), ((md 4), .inl (cI, 172, .inl sl)), ((md 5), .inl (cI, 2, .inl iv)), ((md 6), .inl (cI, 60, .inl tx))] := hD
  refine lv_bipush (pc := 4) (v := (-6)) hx hb dX4_ifRead_4 (by decide) ?_
  refine lv_icmp_eq (pc := 6) (tgt := 12) hx hb dX4_ifRead_6 (by decide) (fun c_1 => ?_) (fun c_1 => ?_)
  · skip
    have c_1 : ((m_ftl tx tl (tl + 1) 0 nu).1) = (-6) := c_1
    refine lv_iload_n (pc := 12) hx hb dX4_ifRead_12 rfl (lv_at hl 1 rfl) ?_
    refine lv_i2l (pc := 13) hx hb dX4_ifRead_13 rfl ?_
    refine lv_lconst (pc := 14) (v := 0) hx hb dX4_ifRead_14 (by decide) ?_
    refine lv_ldc2 (pc := 15) hx hb hown (hts _ hw_X4_ifRead_5_0) dX4_ifRead_15 ?_
    refine b_cR (pc := 18) (va_runS (As := [.long ((nI 5).toInt64), .long 0, .long 5]) (rest := []) ⟨hx, hb, hml, hown, hts⟩ (c_X4_in l D cI cC cZ cG ((nI 5).toInt64) 0 5) (va_cwS 3 hts gX4_ifRead_X4_in rfl rfl rfl hyS_X4_in ⟨Nat.le_of_ble_eq_true rfl, Nat.le_of_ble_eq_true rfl⟩) (b_pRS (wc := []) hK hP [] rfl) rfl rfl hl.1 rfl (lv_room (Nat.le_of_ble_eq_true rfl)) dX4_ifRead_18 ⟨Nat.zero_le _, Nat.zero_le _⟩) ?_
    refine lv_if_ne (pc := 21) (tgt := 27) hx hb dX4_ifRead_21 (by decide) (fun c_2 => ?_) (fun c_2 => ?_)
    · skip
      have c_2 : m_in ((nI 5).toInt64) 0 5 := Classical.not_not.mp (fun h9 => c_2 (b_i_0.mpr h9))
      refine lv_iload_n (pc := 27) hx hb dX4_ifRead_27 rfl (lv_at hl 1 rfl) ?_
      refine lv_iconst (pc := 28) (v := 4) hx hb dX4_ifRead_28 (by decide) ?_
      refine lv_icmp_ge (pc := 29) (tgt := 42) hx hb dX4_ifRead_29 (by decide) (fun c_3 => ?_) (fun c_3 => ?_)
      · skip
        have c_3 : 4 ≤ 5 := (nI_leI (a := 4) (b := 5) (by omega) (by omega)).mp c_3
        refine lv_iload_n (pc := 42) hx hb dX4_ifRead_42 rfl (lv_at hl 1 rfl) ?_
        refine lv_iconst (pc := 43) (v := 4) hx hb dX4_ifRead_43 (by decide) ?_
        refine lv_icmp_ne (pc := 44) (tgt := 51) hx hb dX4_ifRead_44 (by decide) (fun c_4 => ?_) (fun c_4 => ?_)
        · skip
          have c_4 : ¬ (5 = 4) := fun h9 => c_4 ((nI_eq (a := 5) (b := 4) (by omega) (by omega)).mpr h9)
          refine lv_aload_n (pc := 51) hx hb dX4_ifRead_51 rfl (lv_at hl 0 rfl) ?_
          refine va_get (pc := 52) (D := D) (ci := 4) (v := .ref (md 1)) (C := RX4) (T := TX4) (N := 10) hx hb hts hi_X4_ifRead_5_X4 hown hK hP 0 rfl rfl 0 (by decide) (hts _ hw_X4_ifRead_5_1) (fun _ h9 => h9) rfl dX4_ifRead_52 ?_
          refine lv_bipush (pc := 55) (v := 6) hx hb dX4_ifRead_55 (by decide) ?_
          refine b_iald (pc := 57) hx hb hK hP 1 0 rfl rfl 6 rfl (by omega) (by decide) dX4_ifRead_57 ?_
          refine lv_istore_n (pc := 58) (lv' := [(2, .int (a 6)), (0, .ref (md 0)), (1, .int (nI 5))]) hx hb dX4_ifRead_58 rfl hl (by decide) rfl (fun ls hl => ?_)
          refine lv_aload_n (pc := 59) hx hb dX4_ifRead_59 rfl (lv_at hl 1 rfl) ?_
          refine b_cV (pc := 60) (w1 := [((md 0), .inr (4, [.ref (md 1), .ref (md 2), .ref (md 3), .int (nI hn), .ref (md 4), .ref (md 5), .ref (md 6), .int (nI tl), .int (nI ((m_ftl tx tl (tl + 1) 0 nu).2.1)), .int ((m_ftl tx tl (tl + 1) 0 nu).2.2)])), ((md 1), .inl (cI, 86, .inl a)), ((md 2), .inl (cI, 86, .inl (va_cpy a kp 0 0 86))), ((md 3), .inl (cI, 516, .inl hs)), ((md 4), .inl (cI, 172, .inl sl)), ((md 5), .inl (cI, 2, .inl iv)), ((md 6), .inl (cI, 60, .inl tx))]) (va_runV (As := []) (rest := []) ⟨hx, hb, hml, hown, hts⟩ (c_X4_keeps l D cI cC cZ cG H.size md a kp hs hn sl iv tx tl ((m_ftl tx tl (tl + 1) 0 nu).2.1) ((m_ftl tx tl (tl + 1) 0 nu).2.2)) (cwV 0 hts gX4_ifRead_X4_keeps rfl rfl rfl hy_X4_keeps ⟨Nat.le_of_ble_eq_true rfl, Nat.le_of_ble_eq_true rfl⟩) (b_pWV (wc := [((md 0), .inr (4, [.ref (md 1), .ref (md 2), .ref (md 3), .int (nI hn), .ref (md 4), .ref (md 5), .ref (md 6), .int (nI tl), .int (nI ((m_ftl tx tl (tl + 1) 0 nu).2.1)), .int ((m_ftl tx tl (tl + 1) 0 nu).2.2)])), ((md 1), .inl (cI, 86, .inl a)), ((md 2), .inl (cI, 86, .inl kp)), ((md 3), .inl (cI, 516, .inl hs)), ((md 4), .inl (cI, 172, .inl sl)), ((md 5), .inl (cI, 2, .inl iv)), ((md 6), .inl (cI, 60, .inl tx))]) hK hP hD b_Xok_0 [0, 1, 2, 3, 4, 5, 6] rfl (by decide) rfl trivial (ci := 4) (q0 := 0) rfl rfl) rfl rfl hl.1 rfl (lv_room (Nat.le_of_ble_eq_true rfl)) dX4_ifRead_60 ⟨Nat.zero_le _, Nat.zero_le _⟩) hP hD hS hA [0, 1, 2, 3, 4, 5, 6] rfl rfl (fun H locs hP hD hS => ?_)
          have hP : va_P D vwCl [((md 0), .inr (4, [.ref (md 1), .ref (md 2), .ref (md 3), .int (nI hn), .ref (md 4), .ref (md 5), .ref (md 6), .int (nI tl), .int (nI ((m_ftl tx tl (tl + 1) 0 nu).2.1)), .int ((m_ftl tx tl (tl + 1) 0 nu).2.2)])), ((md 1), .inl (cI, 86, .inl a)), ((md 2), .inl (cI, 86, .inl (va_cpy a kp 0 0 86))), ((md 3), .inl (cI, 516, .inl hs)), ((md 4), .inl (cI, 172, .inl sl)), ((md 5), .inl (cI, 2, .inl iv)), ((md 6), .inl (cI, 60, .inl tx))] H := hP
          have hD : va_D A [((md 0), .inr (4, [.ref (md 1), .ref (md 2), .ref (md 3), .int (nI hn), .ref (md 4), .ref (md 5), .ref (md 6), .int (nI tl), .int (nI ((m_ftl tx tl (tl + 1) 0 nu).2.1)), .int ((m_ftl tx tl (tl + 1) 0 nu).2.2)])), ((md 1), .inl (cI, 86, .inl a)), ((md 2), .inl (cI, 86, .inl (va_cpy a kp 0 0 86))), ((md 3), .inl (cI, 516, .inl hs)), ((md 4), .inl (cI, 172, .inl sl)), ((md 5), .inl (cI, 2, .inl iv)), ((md 6), .inl (cI, 60, .inl tx))] := hD
          refine lv_aload_n (pc := 63) hx hb dX4_ifRead_63 rfl (lv_at hl 1 rfl) ?_
          refine b_cW (pc := 64) (w1 := [((md 0), .inr (4, [.ref (md 1), .ref (md 2), .ref (md 3), .int (nI hn), .ref (md 4), .ref (md 5), .ref (md 6), .int (nI tl), .int (nI ((m_rd tx tl (tl + 1) 0 ((m_ftl tx tl (tl + 1) 0 nu).2.2) a 0).2.2.1)), .int ((m_rd tx tl (tl + 1) 0 ((m_ftl tx tl (tl + 1) 0 nu).2.2) a 0).2.2.2)])), ((md 1), .inl (cI, 86, .inl ((m_rd tx tl (tl + 1) 0 ((m_ftl tx tl (tl + 1) 0 nu).2.2) a 0).1))), ((md 2), .inl (cI, 86, .inl (va_cpy a kp 0 0 86))), ((md 3), .inl (cI, 516, .inl hs)), ((md 4), .inl (cI, 172, .inl sl)), ((md 5), .inl (cI, 2, .inl iv)), ((md 6), .inl (cI, 60, .inl tx))]) (va_runV (As := []) (rest := []) ⟨hx, hb, hml, hown, hts⟩ (c_X4_reads l D cI cC cZ cG H.size md a (va_cpy a kp 0 0 86) hs hn sl iv tx tl ((m_ftl tx tl (tl + 1) 0 nu).2.1) ((m_ftl tx tl (tl + 1) 0 nu).2.2) (by first | omega | assumption) ((m_ftl_nu (tl + 1) 0 _ nu).trans ht)) (cwV 0 hts gX4_ifRead_X4_reads rfl rfl rfl hy_X4_reads ⟨Nat.le_of_ble_eq_true rfl, Nat.le_of_ble_eq_true rfl⟩) (b_pWV (wc := [((md 0), .inr (4, [.ref (md 1), .ref (md 2), .ref (md 3), .int (nI hn), .ref (md 4), .ref (md 5), .ref (md 6), .int (nI tl), .int (nI ((m_ftl tx tl (tl + 1) 0 nu).2.1)), .int ((m_ftl tx tl (tl + 1) 0 nu).2.2)])), ((md 1), .inl (cI, 86, .inl a)), ((md 2), .inl (cI, 86, .inl (va_cpy a kp 0 0 86))), ((md 3), .inl (cI, 516, .inl hs)), ((md 4), .inl (cI, 172, .inl sl)), ((md 5), .inl (cI, 2, .inl iv)), ((md 6), .inl (cI, 60, .inl tx))]) hK hP hD b_Xok_0 [0, 1, 2, 3, 4, 5, 6] rfl (by decide) rfl trivial (ci := 4) (q0 := 0) rfl rfl) rfl rfl hl.1 rfl (lv_room (Nat.le_of_ble_eq_true rfl)) dX4_ifRead_64 ⟨Nat.zero_le _, Nat.zero_le _⟩) hP hD hS hA [0, 1, 2, 3, 4, 5, 6] rfl rfl (fun H locs hP hD hS => ?_)
          have hP : va_P D vwCl [((md 0), .inr (4, [.ref (md 1), .ref (md 2), .ref (md 3), .int (nI hn), .ref (md 4), .ref (md 5), .ref (md 6), .int (nI tl), .int (nI ((m_rd tx tl (tl + 1) 0 ((m_ftl tx tl (tl + 1) 0 nu).2.2) a 0).2.2.1)), .int ((m_rd tx tl (tl + 1) 0 ((m_ftl tx tl (tl + 1) 0 nu).2.2) a 0).2.2.2)])), ((md 1), .inl (cI, 86, .inl ((m_rd tx tl (tl + 1) 0 ((m_ftl tx tl (tl + 1) 0 nu).2.2) a 0).1))), ((md 2), .inl (cI, 86, .inl (va_cpy a kp 0 0 86))), ((md 3), .inl (cI, 516, .inl hs)), ((md 4), .inl (cI, 172, .inl sl)), ((md 5), .inl (cI, 2, .inl iv)), ((md 6), .inl (cI, 60, .inl tx))] H := hP
          have hD : va_D A [((md 0), .inr (4, [.ref (md 1), .ref (md 2), .ref (md 3), .int (nI hn), .ref (md 4), .ref (md 5), .ref (md 6), .int (nI tl), .int (nI ((m_rd tx tl (tl + 1) 0 ((m_ftl tx tl (tl + 1) 0 nu).2.2) a 0).2.2.1)), .int ((m_rd tx tl (tl + 1) 0 ((m_ftl tx tl (tl + 1) 0 nu).2.2) a 0).2.2.2)])), ((md 1), .inl (cI, 86, .inl ((m_rd tx tl (tl + 1) 0 ((m_ftl tx tl (tl + 1) 0 nu).2.2) a 0).1))), ((md 2), .inl (cI, 86, .inl (va_cpy a kp 0 0 86))), ((md 3), .inl (cI, 516, .inl hs)), ((md 4), .inl (cI, 172, .inl sl)), ((md 5), .inl (cI, 2, .inl iv)), ((md 6), .inl (cI, 60, .inl tx))] := hD
          obtain ⟨f_5, ef_5⟩ : ∃ z9 : Nat → Int32, z9 = (m_rd tx tl (tl + 1) 0 ((m_ftl tx tl (tl + 1) 0 nu).2.2) a 0).1 := ⟨_, rfl⟩
          have hP : va_P D vwCl [((md 0), .inr (4, [.ref (md 1), .ref (md 2), .ref (md 3), .int (nI hn), .ref (md 4), .ref (md 5), .ref (md 6), .int (nI tl), .int (nI ((m_rd tx tl (tl + 1) 0 ((m_ftl tx tl (tl + 1) 0 nu).2.2) a 0).2.2.1)), .int ((m_rd tx tl (tl + 1) 0 ((m_ftl tx tl (tl + 1) 0 nu).2.2) a 0).2.2.2)])), ((md 1), .inl (cI, 86, .inl f_5)), ((md 2), .inl (cI, 86, .inl (va_cpy a kp 0 0 86))), ((md 3), .inl (cI, 516, .inl hs)), ((md 4), .inl (cI, 172, .inl sl)), ((md 5), .inl (cI, 2, .inl iv)), ((md 6), .inl (cI, 60, .inl tx))] H := by rw [ef_5]; exact hP
          have hD : va_D A [((md 0), .inr (4, [.ref (md 1), .ref (md 2), .ref (md 3), .int (nI hn), .ref (md 4), .ref (md 5), .ref (md 6), .int (nI tl), .int (nI ((m_rd tx tl (tl + 1) 0 ((m_ftl tx tl (tl + 1) 0 nu).2.2) a 0).2.2.1)), .int ((m_rd tx tl (tl + 1) 0 ((m_ftl tx tl (tl + 1) 0 nu).2.2) a 0).2.2.2)])), ((md 1), .inl (cI, 86, .inl f_5)), ((md 2), .inl (cI, 86, .inl (va_cpy a kp 0 0 86))), ((md 3), .inl (cI, 516, .inl hs)), ((md 4), .inl (cI, 172, .inl sl)), ((md 5), .inl (cI, 2, .inl iv)), ((md 6), .inl (cI, 60, .inl tx))] := by rw [ef_5]; exact hD
          refine lv_istore_n (pc := 67) (lv' := [(3, .int ((m_rd tx tl (tl + 1) 0 ((m_ftl tx tl (tl + 1) 0 nu).2.2) a 0).2.1)), (2, .int (a 6)), (0, .ref (md 0)), (1, .int (nI 5))]) hx hb dX4_ifRead_67 rfl hl (by decide) rfl (fun ls hl => ?_)
          refine lv_iload_n (pc := 68) hx hb dX4_ifRead_68 rfl (lv_at hl 3 rfl) ?_
          refine lv_iconst (pc := 69) (v := 4) hx hb dX4_ifRead_69 (by decide) ?_
          refine lv_icmp_ge (pc := 70) (tgt := 83) hx hb dX4_ifRead_70 (by decide) (fun c_6 => ?_) (fun c_6 => ?_)
          · skip
            have c_6 : 4 ≤ 5 := (nI_leI (a := 4) (b := 5) (by omega) (by omega)).mp c_6
            refine lv_iload_n (pc := 83) hx hb dX4_ifRead_83 rfl (lv_at hl 3 rfl) ?_
            refine lv_iconst (pc := 84) (v := 4) hx hb dX4_ifRead_84 (by decide) ?_
            refine lv_icmp_ne (pc := 85) (tgt := 97) hx hb dX4_ifRead_85 (by decide) (fun c_7 => ?_) (fun c_7 => ?_)
            · skip
              have c_7 : ¬ (5 = 4) := fun h9 => c_7 ((nI_eq (a := 5) (b := 4) (by omega) (by omega)).mpr h9)
              refine lv_aload_n (pc := 97) hx hb dX4_ifRead_97 rfl (lv_at hl 2 rfl) ?_
              refine va_get (pc := 98) (D := D) (ci := 4) (v := .ref (md 1)) (C := RX4) (T := TX4) (N := 10) hx hb hts hi_X4_ifRead_5_X4 hown hK hP 0 rfl rfl 0 (by decide) (hts _ hw_X4_ifRead_5_1) (fun _ h9 => h9) rfl dX4_ifRead_98 ?_
              refine lv_bipush (pc := 101) (v := 6) hx hb dX4_ifRead_101 (by decide) ?_
              refine b_iald (pc := 103) hx hb hK hP 1 0 rfl rfl 6 rfl (by omega) (by decide) dX4_ifRead_103 ?_
              refine lv_istore (pc := 104) (lv' := [(4, .int (f_5 6)), (3, .int ((m_rd tx tl (tl + 1) 0 ((m_ftl tx tl (tl + 1) 0 nu).2.2) a 0).2.1)), (2, .int (a 6)), (0, .ref (md 0)), (1, .int (nI 5))]) hx hb dX4_ifRead_104 hl (by decide) rfl (fun ls hl => ?_)
              refine lv_aload_n (pc := 106) hx hb dX4_ifRead_106 rfl (lv_at hl 3 rfl) ?_
              refine b_cV (pc := 107) (w1 := [((md 0), .inr (4, [.ref (md 1), .ref (md 2), .ref (md 3), .int (nI hn), .ref (md 4), .ref (md 5), .ref (md 6), .int (nI tl), .int (nI ((m_rd tx tl (tl + 1) 0 ((m_ftl tx tl (tl + 1) 0 nu).2.2) a 0).2.2.1)), .int ((m_rd tx tl (tl + 1) 0 ((m_ftl tx tl (tl + 1) 0 nu).2.2) a 0).2.2.2)])), ((md 1), .inl (cI, 86, .inl (va_cpy (va_cpy a kp 0 0 86) f_5 0 0 86))), ((md 2), .inl (cI, 86, .inl (va_cpy a kp 0 0 86))), ((md 3), .inl (cI, 516, .inl hs)), ((md 4), .inl (cI, 172, .inl sl)), ((md 5), .inl (cI, 2, .inl iv)), ((md 6), .inl (cI, 60, .inl tx))]) (va_runV (As := []) (rest := []) ⟨hx, hb, hml, hown, hts⟩ (c_X4_comesBack l D cI cC cZ cG H.size md f_5 (va_cpy a kp 0 0 86) hs hn sl iv tx tl ((m_rd tx tl (tl + 1) 0 ((m_ftl tx tl (tl + 1) 0 nu).2.2) a 0).2.2.1) ((m_rd tx tl (tl + 1) 0 ((m_ftl tx tl (tl + 1) 0 nu).2.2) a 0).2.2.2)) (cwV 0 hts gX4_ifRead_X4_comesBack rfl rfl rfl hy_X4_comesBack ⟨Nat.le_of_ble_eq_true rfl, Nat.le_of_ble_eq_true rfl⟩) (b_pWV (wc := [((md 0), .inr (4, [.ref (md 1), .ref (md 2), .ref (md 3), .int (nI hn), .ref (md 4), .ref (md 5), .ref (md 6), .int (nI tl), .int (nI ((m_rd tx tl (tl + 1) 0 ((m_ftl tx tl (tl + 1) 0 nu).2.2) a 0).2.2.1)), .int ((m_rd tx tl (tl + 1) 0 ((m_ftl tx tl (tl + 1) 0 nu).2.2) a 0).2.2.2)])), ((md 1), .inl (cI, 86, .inl f_5)), ((md 2), .inl (cI, 86, .inl (va_cpy a kp 0 0 86))), ((md 3), .inl (cI, 516, .inl hs)), ((md 4), .inl (cI, 172, .inl sl)), ((md 5), .inl (cI, 2, .inl iv)), ((md 6), .inl (cI, 60, .inl tx))]) hK hP hD b_Xok_0 [0, 1, 2, 3, 4, 5, 6] rfl (by decide) rfl trivial (ci := 4) (q0 := 0) rfl rfl) rfl rfl hl.1 rfl (lv_room (Nat.le_of_ble_eq_true rfl)) dX4_ifRead_107 ⟨Nat.zero_le _, Nat.zero_le _⟩) hP hD hS hA [0, 1, 2, 3, 4, 5, 6] rfl rfl (fun H locs hP hD hS => ?_)
              have hP : va_P D vwCl [((md 0), .inr (4, [.ref (md 1), .ref (md 2), .ref (md 3), .int (nI hn), .ref (md 4), .ref (md 5), .ref (md 6), .int (nI tl), .int (nI ((m_rd tx tl (tl + 1) 0 ((m_ftl tx tl (tl + 1) 0 nu).2.2) a 0).2.2.1)), .int ((m_rd tx tl (tl + 1) 0 ((m_ftl tx tl (tl + 1) 0 nu).2.2) a 0).2.2.2)])), ((md 1), .inl (cI, 86, .inl (va_cpy (va_cpy a kp 0 0 86) f_5 0 0 86))), ((md 2), .inl (cI, 86, .inl (va_cpy a kp 0 0 86))), ((md 3), .inl (cI, 516, .inl hs)), ((md 4), .inl (cI, 172, .inl sl)), ((md 5), .inl (cI, 2, .inl iv)), ((md 6), .inl (cI, 60, .inl tx))] H := hP
              have hD : va_D A [((md 0), .inr (4, [.ref (md 1), .ref (md 2), .ref (md 3), .int (nI hn), .ref (md 4), .ref (md 5), .ref (md 6), .int (nI tl), .int (nI ((m_rd tx tl (tl + 1) 0 ((m_ftl tx tl (tl + 1) 0 nu).2.2) a 0).2.2.1)), .int ((m_rd tx tl (tl + 1) 0 ((m_ftl tx tl (tl + 1) 0 nu).2.2) a 0).2.2.2)])), ((md 1), .inl (cI, 86, .inl (va_cpy (va_cpy a kp 0 0 86) f_5 0 0 86))), ((md 2), .inl (cI, 86, .inl (va_cpy a kp 0 0 86))), ((md 3), .inl (cI, 516, .inl hs)), ((md 4), .inl (cI, 172, .inl sl)), ((md 5), .inl (cI, 2, .inl iv)), ((md 6), .inl (cI, 60, .inl tx))] := hD
              refine lv_iload (pc := 110) hx hb dX4_ifRead_110 (lv_at hl 0 rfl) ?_
              refine lv_iload_n (pc := 112) hx hb dX4_ifRead_112 rfl (lv_at hl 2 rfl) ?_
              refine lv_isub (pc := 113) hx hb dX4_ifRead_113 ?_
              subst ef_5
              subst hQ
              exact b_retW hx hb hr hlocks hS (rfl) (hP) dX4_ifRead_114
            · skip
              have c_7 : 5 = 4 := (nI_eq (a := 5) (b := 4) (by omega) (by omega)).mp c_7
              exact absurd c_7 (by decide)
          · skip
            have c_6 : ¬ (4 ≤ 5) := fun h9 => c_6 ((nI_leI (a := 4) (b := 5) (by omega) (by omega)).mpr h9)
            exact absurd c_6 (by decide)
        · skip
          have c_4 : 5 = 4 := (nI_eq (a := 5) (b := 4) (by omega) (by omega)).mp c_4
          exact absurd c_4 (by decide)
      · skip
        have c_3 : ¬ (4 ≤ 5) := fun h9 => c_3 ((nI_leI (a := 4) (b := 5) (by omega) (by omega)).mpr h9)
        exact absurd c_3 (by decide)
    · skip
      have c_2 : ¬ (m_in ((nI 5).toInt64) 0 5) := b_i_0.mp c_2
      exact absurd (m_inN (lo := 0) (hi := 5) (by decide) (by decide) (by omega) (by omega) (by omega) (by omega)) c_2
  · skip
    have c_1 : ¬ (((m_ftl tx tl (tl + 1) 0 nu).1) = (-6)) := c_1
    exact absurd ht c_1
set_option maxHeartbeats 4000000 in
set_option maxRecDepth 100000 in
theorem c_X4_eventsTo_ng (l : Launch) (D : va_G) (cI cC cZ cG : ClassId) (md : Nat → Nat) (a : Nat → Int32) (kp : Nat → Int32) (hs : Nat → Int32) (hn : Nat) (sl : Nat → Int32) (iv : Nat → Int32) (tx : Nat → Int32) (tl : Nat) (sp : Nat) (nu : Int32) (x : Int32) (y : Int32) (hbad : p_ng x) : Met l yX4_eventsTo wsX4_eventsTo ({ frames := 2, cells := 0, slots := 0, locals := 45 } : Room) (b_R D (b_T cI cC cZ cG) [((md 0), .inr (4, [.ref (md 1), .ref (md 2), .ref (md 3), .int (nI hn), .ref (md 4), .ref (md 5), .ref (md 6), .int (nI tl), .int (nI sp), .int nu])), ((md 1), .inl (cI, 86, .inl a)), ((md 2), .inl (cI, 86, .inl kp)), ((md 3), .inl (cI, 516, .inl hs)), ((md 4), .inl (cI, 172, .inl sl)), ((md 5), .inl (cI, 2, .inl iv)), ((md 6), .inl (cI, 60, .inl tx))] [.ref (md 0), .int x, .int y]) (vp_Si (fun r => r = -1)) 0 0 (fun _ => False) := by
  refine b_enterR (cc := cX4_eventsTo) (maxL := 5) (ret := (some .int)) (by decide) rfl (Nat.le_of_ble_eq_true rfl) ?_
  intro p e s m below meth c ls hx hb hr hml hown hts hlocks hP hK hl Q hQ
  have hown : s.vm.findClass RX4 = some m.cls := hown
  have hl : lv_has ls 5 [(0, .ref (md 0)), (1, .int x), (2, .int y)] := hl
  refine lv_iload_n (pc := 0) hx hb dX4_eventsTo_0 rfl (lv_at hl 1 rfl) ?_
  refine b_cR (pc := 1) (va_runS (As := [.int x]) (rest := []) ⟨hx, hb, hml, hown, hts⟩ (c_X4_isGate l D cI cC cZ cG x) (va_cwS 1 hts gX4_eventsTo_X4_isGate rfl rfl rfl hyS_X4_isGate ⟨Nat.le_of_ble_eq_true rfl, Nat.le_of_ble_eq_true rfl⟩) (b_pRS (wc := []) hK hP [] rfl) rfl rfl hl.1 rfl (lv_room (Nat.le_of_ble_eq_true rfl)) dX4_eventsTo_1 ⟨Nat.zero_le _, Nat.zero_le _⟩) ?_
  refine lv_if_ne (pc := 4) (tgt := 9) hx hb dX4_eventsTo_4 (by decide) (fun c_1 => ?_) (fun c_1 => ?_)
  · skip
    have c_1 : m_in x.toInt64 0 5 := Classical.not_not.mp (fun h9 => c_1 (b_i_0.mpr h9))
    exact absurd c_1 (m_ng hbad)
  · skip
    have c_1 : ¬ (m_in x.toInt64 0 5) := b_i_0.mp c_1
    refine lv_iconst (pc := 7) (v := (-1)) hx hb dX4_eventsTo_7 (by decide) ?_
    subst hQ
    exact b_retR hx hb hr hlocks (rfl) dX4_eventsTo_8
theorem hw_X4_eventsTo_bw_0 : (.constantLong RX4 88 (2) : Cond) ∈ wsX4_eventsTo := by decide +kernel
set_option maxHeartbeats 4000000 in
set_option maxRecDepth 100000 in
theorem c_X4_eventsTo_bw (l : Launch) (D : va_G) (cI cC cZ cG : ClassId) (md : Nat → Nat) (a : Nat → Int32) (kp : Nat → Int32) (hs : Nat → Int32) (hn : Nat) (sl : Nat → Int32) (iv : Nat → Int32) (tx : Nat → Int32) (tl : Nat) (sp : Nat) (nu : Int32) (g : Nat) (y : Int32) (hg : g < 6) (hbad : y < 0 ∨ ¬ y < 3) : Met l yX4_eventsTo wsX4_eventsTo ({ frames := 2, cells := 0, slots := 0, locals := 45 } : Room) (b_R D (b_T cI cC cZ cG) [((md 0), .inr (4, [.ref (md 1), .ref (md 2), .ref (md 3), .int (nI hn), .ref (md 4), .ref (md 5), .ref (md 6), .int (nI tl), .int (nI sp), .int nu])), ((md 1), .inl (cI, 86, .inl a)), ((md 2), .inl (cI, 86, .inl kp)), ((md 3), .inl (cI, 516, .inl hs)), ((md 4), .inl (cI, 172, .inl sl)), ((md 5), .inl (cI, 2, .inl iv)), ((md 6), .inl (cI, 60, .inl tx))] [.ref (md 0), .int (nI g), .int y]) (vp_Si (fun r => r = -2)) 0 0 (fun _ => False) := by
  refine b_enterR (cc := cX4_eventsTo) (maxL := 5) (ret := (some .int)) (by decide) rfl (Nat.le_of_ble_eq_true rfl) ?_
  intro p e s m below meth c ls hx hb hr hml hown hts hlocks hP hK hl Q hQ
  have hown : s.vm.findClass RX4 = some m.cls := hown
  have hl : lv_has ls 5 [(0, .ref (md 0)), (1, .int (nI g)), (2, .int y)] := hl
  refine lv_iload_n (pc := 0) hx hb dX4_eventsTo_0 rfl (lv_at hl 1 rfl) ?_
  refine b_cR (pc := 1) (va_runS (As := [.int (nI g)]) (rest := []) ⟨hx, hb, hml, hown, hts⟩ (c_X4_isGate l D cI cC cZ cG (nI g)) (va_cwS 1 hts gX4_eventsTo_X4_isGate rfl rfl rfl hyS_X4_isGate ⟨Nat.le_of_ble_eq_true rfl, Nat.le_of_ble_eq_true rfl⟩) (b_pRS (wc := []) hK hP [] rfl) rfl rfl hl.1 rfl (lv_room (Nat.le_of_ble_eq_true rfl)) dX4_eventsTo_1 ⟨Nat.zero_le _, Nat.zero_le _⟩) ?_
  refine lv_if_ne (pc := 4) (tgt := 9) hx hb dX4_eventsTo_4 (by decide) (fun c_1 => ?_) (fun c_1 => ?_)
  · skip
    have c_1 : m_in (nI g).toInt64 0 5 := Classical.not_not.mp (fun h9 => c_1 (b_i_0.mpr h9))
    refine lv_iload_n (pc := 9) hx hb dX4_eventsTo_9 rfl (lv_at hl 2 rfl) ?_
    refine lv_i2l (pc := 10) hx hb dX4_eventsTo_10 rfl ?_
    refine lv_lconst (pc := 11) (v := 0) hx hb dX4_eventsTo_11 (by decide) ?_
    refine lv_ldc2 (pc := 12) hx hb hown (hts _ hw_X4_eventsTo_bw_0) dX4_eventsTo_12 ?_
    refine b_cR (pc := 15) (va_runS (As := [.long y.toInt64, .long 0, .long 2]) (rest := []) ⟨hx, hb, hml, hown, hts⟩ (c_X4_in l D cI cC cZ cG y.toInt64 0 2) (va_cwS 3 hts gX4_eventsTo_X4_in rfl rfl rfl hyS_X4_in ⟨Nat.le_of_ble_eq_true rfl, Nat.le_of_ble_eq_true rfl⟩) (b_pRS (wc := []) hK hP [] rfl) rfl rfl hl.1 rfl (lv_room (Nat.le_of_ble_eq_true rfl)) dX4_eventsTo_15 ⟨Nat.zero_le _, Nat.zero_le _⟩) ?_
    refine lv_if_ne (pc := 18) (tgt := 24) hx hb dX4_eventsTo_18 (by decide) (fun c_2 => ?_) (fun c_2 => ?_)
    · skip
      have c_2 : m_in y.toInt64 0 2 := Classical.not_not.mp (fun h9 => c_2 (b_i_0.mpr h9))
      exact absurd c_2 (m_out (lo := 0) (hi := 2) (hj := 3) (by decide) (by decide) (by decide) hbad)
    · skip
      have c_2 : ¬ (m_in y.toInt64 0 2) := b_i_0.mp c_2
      refine lv_bipush (pc := 21) (v := (-2)) hx hb dX4_eventsTo_21 (by decide) ?_
      subst hQ
      exact b_retR hx hb hr hlocks (rfl) dX4_eventsTo_23
  · skip
    have c_1 : ¬ (m_in (nI g).toInt64 0 5) := b_i_0.mp c_1
    exact absurd (m_gk hg) c_1
theorem hw_X4_eventsTo_np_0 : (.constantLong RX4 88 (2) : Cond) ∈ wsX4_eventsTo := by decide +kernel
set_option maxHeartbeats 4000000 in
set_option maxRecDepth 100000 in
theorem c_X4_eventsTo_np (l : Launch) (D : va_G) (cI cC cZ cG : ClassId) (md : Nat → Nat) (a : Nat → Int32) (kp : Nat → Int32) (hs : Nat → Int32) (hn : Nat) (sl : Nat → Int32) (iv : Nat → Int32) (tx : Nat → Int32) (tl : Nat) (sp : Nat) (nu : Int32) (g : Nat) (w1 : Nat) (hg : g < 6) (hw : w1 < 3) (hbad : a (8 + 13 * g + 1) = (-6) ∨ a (8 + 13 * g + 3) = 0) : Met l yX4_eventsTo wsX4_eventsTo ({ frames := 2, cells := 0, slots := 0, locals := 45 } : Room) (b_R D (b_T cI cC cZ cG) [((md 0), .inr (4, [.ref (md 1), .ref (md 2), .ref (md 3), .int (nI hn), .ref (md 4), .ref (md 5), .ref (md 6), .int (nI tl), .int (nI sp), .int nu])), ((md 1), .inl (cI, 86, .inl a)), ((md 2), .inl (cI, 86, .inl kp)), ((md 3), .inl (cI, 516, .inl hs)), ((md 4), .inl (cI, 172, .inl sl)), ((md 5), .inl (cI, 2, .inl iv)), ((md 6), .inl (cI, 60, .inl tx))] [.ref (md 0), .int (nI g), .int (nI w1)]) (vp_Si (fun r => r = -5)) 0 0 (fun _ => False) := by
  refine b_enterR (cc := cX4_eventsTo) (maxL := 5) (ret := (some .int)) (by decide) rfl (Nat.le_of_ble_eq_true rfl) ?_
  intro p e s m below meth c ls hx hb hr hml hown hts hlocks hP hK hl Q hQ
  have hown : s.vm.findClass RX4 = some m.cls := hown
  have hl : lv_has ls 5 [(0, .ref (md 0)), (1, .int (nI g)), (2, .int (nI w1))] := hl
  refine lv_iload_n (pc := 0) hx hb dX4_eventsTo_0 rfl (lv_at hl 1 rfl) ?_
  refine b_cR (pc := 1) (va_runS (As := [.int (nI g)]) (rest := []) ⟨hx, hb, hml, hown, hts⟩ (c_X4_isGate l D cI cC cZ cG (nI g)) (va_cwS 1 hts gX4_eventsTo_X4_isGate rfl rfl rfl hyS_X4_isGate ⟨Nat.le_of_ble_eq_true rfl, Nat.le_of_ble_eq_true rfl⟩) (b_pRS (wc := []) hK hP [] rfl) rfl rfl hl.1 rfl (lv_room (Nat.le_of_ble_eq_true rfl)) dX4_eventsTo_1 ⟨Nat.zero_le _, Nat.zero_le _⟩) ?_
  refine lv_if_ne (pc := 4) (tgt := 9) hx hb dX4_eventsTo_4 (by decide) (fun c_1 => ?_) (fun c_1 => ?_)
  · skip
    have c_1 : m_in (nI g).toInt64 0 5 := Classical.not_not.mp (fun h9 => c_1 (b_i_0.mpr h9))
    refine lv_iload_n (pc := 9) hx hb dX4_eventsTo_9 rfl (lv_at hl 2 rfl) ?_
    refine lv_i2l (pc := 10) hx hb dX4_eventsTo_10 rfl ?_
    refine lv_lconst (pc := 11) (v := 0) hx hb dX4_eventsTo_11 (by decide) ?_
    refine lv_ldc2 (pc := 12) hx hb hown (hts _ hw_X4_eventsTo_np_0) dX4_eventsTo_12 ?_
    refine b_cR (pc := 15) (va_runS (As := [.long ((nI w1).toInt64), .long 0, .long 2]) (rest := []) ⟨hx, hb, hml, hown, hts⟩ (c_X4_in l D cI cC cZ cG ((nI w1).toInt64) 0 2) (va_cwS 3 hts gX4_eventsTo_X4_in rfl rfl rfl hyS_X4_in ⟨Nat.le_of_ble_eq_true rfl, Nat.le_of_ble_eq_true rfl⟩) (b_pRS (wc := []) hK hP [] rfl) rfl rfl hl.1 rfl (lv_room (Nat.le_of_ble_eq_true rfl)) dX4_eventsTo_15 ⟨Nat.zero_le _, Nat.zero_le _⟩) ?_
    refine lv_if_ne (pc := 18) (tgt := 24) hx hb dX4_eventsTo_18 (by decide) (fun c_2 => ?_) (fun c_2 => ?_)
    · skip
      have c_2 : m_in ((nI w1).toInt64) 0 2 := Classical.not_not.mp (fun h9 => c_2 (b_i_0.mpr h9))
      refine lv_aload_n (pc := 24) hx hb dX4_eventsTo_24 rfl (lv_at hl 0 rfl) ?_
      refine lv_iload_n (pc := 25) hx hb dX4_eventsTo_25 rfl (lv_at hl 1 rfl) ?_
      refine b_cR (pc := 26) (va_runV (As := [.int (nI g)]) (rest := []) ⟨hx, hb, hml, hown, hts⟩ (c_X4_isUnderWay l D cI cC cZ cG md a kp hs hn sl iv tx tl sp nu g (by first | omega | assumption)) (cwV 1 hts gX4_eventsTo_X4_isUnderWay rfl rfl rfl hy_X4_isUnderWay ⟨Nat.le_of_ble_eq_true rfl, Nat.le_of_ble_eq_true rfl⟩) (b_pRV (wc := [((md 0), .inr (4, [.ref (md 1), .ref (md 2), .ref (md 3), .int (nI hn), .ref (md 4), .ref (md 5), .ref (md 6), .int (nI tl), .int (nI sp), .int nu])), ((md 1), .inl (cI, 86, .inl a)), ((md 2), .inl (cI, 86, .inl kp)), ((md 3), .inl (cI, 516, .inl hs)), ((md 4), .inl (cI, 172, .inl sl)), ((md 5), .inl (cI, 2, .inl iv)), ((md 6), .inl (cI, 60, .inl tx))]) hK hP [0, 1, 2, 3, 4, 5, 6] rfl (ci := 4) (q0 := 0) rfl rfl) rfl rfl hl.1 rfl (lv_room (Nat.le_of_ble_eq_true rfl)) dX4_eventsTo_26 ⟨Nat.zero_le _, Nat.zero_le _⟩) ?_
      refine lv_if_eq (pc := 29) (tgt := 41) hx hb dX4_eventsTo_29 (by decide) (fun c_3 => ?_) (fun c_3 => ?_)
      · skip
        have c_3 : ¬ (¬ a (8 + 13 * g + 1) = (-6)) := b_i_0.mp c_3
        refine lv_bipush (pc := 41) (v := (-5)) hx hb dX4_eventsTo_41 (by decide) ?_
        subst hQ
        exact b_retR hx hb hr hlocks (rfl) dX4_eventsTo_43
      · skip
        have c_3 : ¬ a (8 + 13 * g + 1) = (-6) := Classical.not_not.mp (fun h9 => c_3 (b_i_0.mpr h9))
        refine lv_aload_n (pc := 32) hx hb dX4_eventsTo_32 rfl (lv_at hl 0 rfl) ?_
        refine lv_iload_n (pc := 33) hx hb dX4_eventsTo_33 rfl (lv_at hl 1 rfl) ?_
        refine lv_iconst (pc := 34) (v := 3) hx hb dX4_eventsTo_34 (by decide) ?_
        refine b_cR (pc := 35) (va_runV (As := [.int (nI g), .int 3]) (rest := []) ⟨hx, hb, hml, hown, hts⟩ (c_X4_get l D cI cC cZ cG md a kp hs hn sl iv tx tl sp nu g 3 (by first | omega | assumption) (by first | omega | assumption)) (cwV 2 hts gX4_eventsTo_X4_get rfl rfl rfl hy_X4_get ⟨Nat.le_of_ble_eq_true rfl, Nat.le_of_ble_eq_true rfl⟩) (b_pRV (wc := [((md 0), .inr (4, [.ref (md 1), .ref (md 2), .ref (md 3), .int (nI hn), .ref (md 4), .ref (md 5), .ref (md 6), .int (nI tl), .int (nI sp), .int nu])), ((md 1), .inl (cI, 86, .inl a)), ((md 2), .inl (cI, 86, .inl kp)), ((md 3), .inl (cI, 516, .inl hs)), ((md 4), .inl (cI, 172, .inl sl)), ((md 5), .inl (cI, 2, .inl iv)), ((md 6), .inl (cI, 60, .inl tx))]) hK hP [0, 1, 2, 3, 4, 5, 6] rfl (ci := 4) (q0 := 0) rfl rfl) rfl rfl hl.1 rfl (lv_room (Nat.le_of_ble_eq_true rfl)) dX4_eventsTo_35 ⟨Nat.zero_le _, Nat.zero_le _⟩) ?_
        refine lv_if_ne (pc := 38) (tgt := 44) hx hb dX4_eventsTo_38 (by decide) (fun c_4 => ?_) (fun c_4 => ?_)
        · skip
          have c_4 : ¬ ((a (8 + 13 * g + 3)) = 0) := c_4
          exact hbad.elim (fun q => absurd q c_3) (fun q => absurd q c_4)
        · skip
          have c_4 : (a (8 + 13 * g + 3)) = 0 := c_4
          refine lv_bipush (pc := 41) (v := (-5)) hx hb dX4_eventsTo_41 (by decide) ?_
          subst hQ
          exact b_retR hx hb hr hlocks (rfl) dX4_eventsTo_43
    · skip
      have c_2 : ¬ (m_in ((nI w1).toInt64) 0 2) := b_i_0.mp c_2
      exact absurd (m_inN (lo := 0) (hi := 2) (by decide) (by decide) (by omega) (by omega) (by omega) (by omega)) c_2
  · skip
    have c_1 : ¬ (m_in (nI g).toInt64 0 5) := b_i_0.mp c_1
    exact absurd (m_gk hg) c_1
theorem hw_X4_eventsTo_0_0 : (.constantLong RX4 88 (2) : Cond) ∈ wsX4_eventsTo := by decide +kernel
set_option maxHeartbeats 4000000 in
set_option maxRecDepth 100000 in
theorem c_X4_eventsTo_0 (l : Launch) (D : va_G) (cI cC cZ cG : ClassId) (md : Nat → Nat) (a : Nat → Int32) (kp : Nat → Int32) (hs : Nat → Int32) (hn : Nat) (sl : Nat → Int32) (iv : Nat → Int32) (tx : Nat → Int32) (tl : Nat) (sp : Nat) (nu : Int32) (g : Nat) (hg : g < 6) (h1 : ¬ a (8 + 13 * g + 1) = (-6)) (h2 : ¬ a (8 + 13 * g + 3) = 0) : Met l yX4_eventsTo wsX4_eventsTo ({ frames := 2, cells := 0, slots := 0, locals := 45 } : Room) (b_R D (b_T cI cC cZ cG) [((md 0), .inr (4, [.ref (md 1), .ref (md 2), .ref (md 3), .int (nI hn), .ref (md 4), .ref (md 5), .ref (md 6), .int (nI tl), .int (nI sp), .int nu])), ((md 1), .inl (cI, 86, .inl a)), ((md 2), .inl (cI, 86, .inl kp)), ((md 3), .inl (cI, 516, .inl hs)), ((md 4), .inl (cI, 172, .inl sl)), ((md 5), .inl (cI, 2, .inl iv)), ((md 6), .inl (cI, 60, .inl tx))] [.ref (md 0), .int (nI g), .int (nI 0)]) (vp_Si (fun r => r = m_evto a g 0)) 0 0 (fun _ => False) := by
  refine b_enterR (cc := cX4_eventsTo) (maxL := 5) (ret := (some .int)) (by decide) rfl (Nat.le_of_ble_eq_true rfl) ?_
  intro p e s m below meth c ls hx hb hr hml hown hts hlocks hP hK hl Q hQ
  have hown : s.vm.findClass RX4 = some m.cls := hown
  have hl : lv_has ls 5 [(0, .ref (md 0)), (1, .int (nI g)), (2, .int (nI 0))] := hl
  refine lv_iload_n (pc := 0) hx hb dX4_eventsTo_0 rfl (lv_at hl 1 rfl) ?_
  refine b_cR (pc := 1) (va_runS (As := [.int (nI g)]) (rest := []) ⟨hx, hb, hml, hown, hts⟩ (c_X4_isGate l D cI cC cZ cG (nI g)) (va_cwS 1 hts gX4_eventsTo_X4_isGate rfl rfl rfl hyS_X4_isGate ⟨Nat.le_of_ble_eq_true rfl, Nat.le_of_ble_eq_true rfl⟩) (b_pRS (wc := []) hK hP [] rfl) rfl rfl hl.1 rfl (lv_room (Nat.le_of_ble_eq_true rfl)) dX4_eventsTo_1 ⟨Nat.zero_le _, Nat.zero_le _⟩) ?_
  refine lv_if_ne (pc := 4) (tgt := 9) hx hb dX4_eventsTo_4 (by decide) (fun c_1 => ?_) (fun c_1 => ?_)
  · skip
    have c_1 : m_in (nI g).toInt64 0 5 := Classical.not_not.mp (fun h9 => c_1 (b_i_0.mpr h9))
    refine lv_iload_n (pc := 9) hx hb dX4_eventsTo_9 rfl (lv_at hl 2 rfl) ?_
    refine lv_i2l (pc := 10) hx hb dX4_eventsTo_10 rfl ?_
    refine lv_lconst (pc := 11) (v := 0) hx hb dX4_eventsTo_11 (by decide) ?_
    refine lv_ldc2 (pc := 12) hx hb hown (hts _ hw_X4_eventsTo_0_0) dX4_eventsTo_12 ?_
    refine b_cR (pc := 15) (va_runS (As := [.long ((nI 0).toInt64), .long 0, .long 2]) (rest := []) ⟨hx, hb, hml, hown, hts⟩ (c_X4_in l D cI cC cZ cG ((nI 0).toInt64) 0 2) (va_cwS 3 hts gX4_eventsTo_X4_in rfl rfl rfl hyS_X4_in ⟨Nat.le_of_ble_eq_true rfl, Nat.le_of_ble_eq_true rfl⟩) (b_pRS (wc := []) hK hP [] rfl) rfl rfl hl.1 rfl (lv_room (Nat.le_of_ble_eq_true rfl)) dX4_eventsTo_15 ⟨Nat.zero_le _, Nat.zero_le _⟩) ?_
    refine lv_if_ne (pc := 18) (tgt := 24) hx hb dX4_eventsTo_18 (by decide) (fun c_2 => ?_) (fun c_2 => ?_)
    · skip
      have c_2 : m_in ((nI 0).toInt64) 0 2 := Classical.not_not.mp (fun h9 => c_2 (b_i_0.mpr h9))
      refine lv_aload_n (pc := 24) hx hb dX4_eventsTo_24 rfl (lv_at hl 0 rfl) ?_
      refine lv_iload_n (pc := 25) hx hb dX4_eventsTo_25 rfl (lv_at hl 1 rfl) ?_
      refine b_cR (pc := 26) (va_runV (As := [.int (nI g)]) (rest := []) ⟨hx, hb, hml, hown, hts⟩ (c_X4_isUnderWay l D cI cC cZ cG md a kp hs hn sl iv tx tl sp nu g (by first | omega | assumption)) (cwV 1 hts gX4_eventsTo_X4_isUnderWay rfl rfl rfl hy_X4_isUnderWay ⟨Nat.le_of_ble_eq_true rfl, Nat.le_of_ble_eq_true rfl⟩) (b_pRV (wc := [((md 0), .inr (4, [.ref (md 1), .ref (md 2), .ref (md 3), .int (nI hn), .ref (md 4), .ref (md 5), .ref (md 6), .int (nI tl), .int (nI sp), .int nu])), ((md 1), .inl (cI, 86, .inl a)), ((md 2), .inl (cI, 86, .inl kp)), ((md 3), .inl (cI, 516, .inl hs)), ((md 4), .inl (cI, 172, .inl sl)), ((md 5), .inl (cI, 2, .inl iv)), ((md 6), .inl (cI, 60, .inl tx))]) hK hP [0, 1, 2, 3, 4, 5, 6] rfl (ci := 4) (q0 := 0) rfl rfl) rfl rfl hl.1 rfl (lv_room (Nat.le_of_ble_eq_true rfl)) dX4_eventsTo_26 ⟨Nat.zero_le _, Nat.zero_le _⟩) ?_
      refine lv_if_eq (pc := 29) (tgt := 41) hx hb dX4_eventsTo_29 (by decide) (fun c_3 => ?_) (fun c_3 => ?_)
      · skip
        have c_3 : ¬ (¬ a (8 + 13 * g + 1) = (-6)) := b_i_0.mp c_3
        exact absurd h1 c_3
      · skip
        have c_3 : ¬ a (8 + 13 * g + 1) = (-6) := Classical.not_not.mp (fun h9 => c_3 (b_i_0.mpr h9))
        refine lv_aload_n (pc := 32) hx hb dX4_eventsTo_32 rfl (lv_at hl 0 rfl) ?_
        refine lv_iload_n (pc := 33) hx hb dX4_eventsTo_33 rfl (lv_at hl 1 rfl) ?_
        refine lv_iconst (pc := 34) (v := 3) hx hb dX4_eventsTo_34 (by decide) ?_
        refine b_cR (pc := 35) (va_runV (As := [.int (nI g), .int 3]) (rest := []) ⟨hx, hb, hml, hown, hts⟩ (c_X4_get l D cI cC cZ cG md a kp hs hn sl iv tx tl sp nu g 3 (by first | omega | assumption) (by first | omega | assumption)) (cwV 2 hts gX4_eventsTo_X4_get rfl rfl rfl hy_X4_get ⟨Nat.le_of_ble_eq_true rfl, Nat.le_of_ble_eq_true rfl⟩) (b_pRV (wc := [((md 0), .inr (4, [.ref (md 1), .ref (md 2), .ref (md 3), .int (nI hn), .ref (md 4), .ref (md 5), .ref (md 6), .int (nI tl), .int (nI sp), .int nu])), ((md 1), .inl (cI, 86, .inl a)), ((md 2), .inl (cI, 86, .inl kp)), ((md 3), .inl (cI, 516, .inl hs)), ((md 4), .inl (cI, 172, .inl sl)), ((md 5), .inl (cI, 2, .inl iv)), ((md 6), .inl (cI, 60, .inl tx))]) hK hP [0, 1, 2, 3, 4, 5, 6] rfl (ci := 4) (q0 := 0) rfl rfl) rfl rfl hl.1 rfl (lv_room (Nat.le_of_ble_eq_true rfl)) dX4_eventsTo_35 ⟨Nat.zero_le _, Nat.zero_le _⟩) ?_
        refine lv_if_ne (pc := 38) (tgt := 44) hx hb dX4_eventsTo_38 (by decide) (fun c_4 => ?_) (fun c_4 => ?_)
        · skip
          have c_4 : ¬ ((a (8 + 13 * g + 3)) = 0) := c_4
          refine lv_aload_n (pc := 44) hx hb dX4_eventsTo_44 rfl (lv_at hl 0 rfl) ?_
          refine lv_iload_n (pc := 45) hx hb dX4_eventsTo_45 rfl (lv_at hl 1 rfl) ?_
          refine lv_iconst (pc := 46) (v := 2) hx hb dX4_eventsTo_46 (by decide) ?_
          refine b_cR (pc := 47) (va_runV (As := [.int (nI g), .int 2]) (rest := []) ⟨hx, hb, hml, hown, hts⟩ (c_X4_get l D cI cC cZ cG md a kp hs hn sl iv tx tl sp nu g 2 (by first | omega | assumption) (by first | omega | assumption)) (cwV 2 hts gX4_eventsTo_X4_get rfl rfl rfl hy_X4_get ⟨Nat.le_of_ble_eq_true rfl, Nat.le_of_ble_eq_true rfl⟩) (b_pRV (wc := [((md 0), .inr (4, [.ref (md 1), .ref (md 2), .ref (md 3), .int (nI hn), .ref (md 4), .ref (md 5), .ref (md 6), .int (nI tl), .int (nI sp), .int nu])), ((md 1), .inl (cI, 86, .inl a)), ((md 2), .inl (cI, 86, .inl kp)), ((md 3), .inl (cI, 516, .inl hs)), ((md 4), .inl (cI, 172, .inl sl)), ((md 5), .inl (cI, 2, .inl iv)), ((md 6), .inl (cI, 60, .inl tx))]) hK hP [0, 1, 2, 3, 4, 5, 6] rfl (ci := 4) (q0 := 0) rfl rfl) rfl rfl hl.1 rfl (lv_room (Nat.le_of_ble_eq_true rfl)) dX4_eventsTo_47 ⟨Nat.zero_le _, Nat.zero_le _⟩) ?_
          refine lv_istore_n (pc := 50) (lv' := [(3, .int (a (8 + 13 * g + 2))), (0, .ref (md 0)), (1, .int (nI g)), (2, .int (nI 0))]) hx hb dX4_eventsTo_50 rfl hl (by decide) rfl (fun ls hl => ?_)
          refine lv_iload_n (pc := 51) hx hb dX4_eventsTo_51 rfl (lv_at hl 3 rfl) ?_
          refine lv_iconst (pc := 52) (v := 2) hx hb dX4_eventsTo_52 (by decide) ?_
          refine lv_icmp_ne (pc := 53) (tgt := 67) hx hb dX4_eventsTo_53 (by decide) (fun c_5 => ?_) (fun c_5 => ?_)
          · skip
            have c_5 : ¬ (0 = 2) := fun h9 => c_5 ((nI_eq (a := 0) (b := 2) (by omega) (by omega)).mpr h9)
            refine lv_iload_n (pc := 67) hx hb dX4_eventsTo_67 rfl (lv_at hl 3 rfl) ?_
            refine lv_if_ne (pc := 68) (tgt := 77) hx hb dX4_eventsTo_68 (by decide) (fun c_6 => ?_) (fun c_6 => ?_)
            · skip
              have c_6 : ¬ (0 = 0) := fun h9 => c_6 ((nI_eq (a := 0) (b := 0) (by omega) (by omega)).mpr h9)
              exact absurd c_6 (by decide)
            · skip
              have c_6 : 0 = 0 := (nI_eq (a := 0) (b := 0) (by omega) (by omega)).mp c_6
              refine lv_iconst (pc := 71) (v := 4) hx hb dX4_eventsTo_71 (by decide) ?_
              refine lv_iload_n (pc := 72) hx hb dX4_eventsTo_72 rfl (lv_at hl 0 rfl) ?_
              refine lv_isub (pc := 73) hx hb dX4_eventsTo_73 ?_
              refine lv_goto (pc := 74) (tgt := 80) hx hb dX4_eventsTo_74 (by decide) ?_
              refine lv_istore (pc := 80) (lv' := [(4, .int (4 - (a (8 + 13 * g + 2)))), (3, .int (a (8 + 13 * g + 2))), (0, .ref (md 0)), (1, .int (nI g)), (2, .int (nI 0))]) hx hb dX4_eventsTo_80 hl (by decide) rfl (fun ls hl => ?_)
              refine lv_iload (pc := 82) hx hb dX4_eventsTo_82 (lv_at hl 0 rfl) ?_
              refine lv_iconst (pc := 84) (v := 4) hx hb dX4_eventsTo_84 (by decide) ?_
              refine lv_icmp_ge (pc := 85) (tgt := 93) hx hb dX4_eventsTo_85 (by decide) (fun c_7 => ?_) (fun c_7 => ?_)
              · skip
                have c_7 : 4 ≤ (4 - (a (8 + 13 * g + 2))) := c_7
                refine lv_bipush (pc := 93) (v := (-6)) hx hb dX4_eventsTo_93 (by decide) ?_
                subst hQ
                exact b_retR hx hb hr hlocks (by first | rfl | simp only [m_evto, (eq_false (by decide) : ((0 : Nat) = 2) = False), (eq_true rfl : ((0 : Nat) = 0) = True), if_true, if_false, if_pos c_7]) dX4_eventsTo_95
              · skip
                have c_7 : ¬ (4 ≤ (4 - (a (8 + 13 * g + 2)))) := c_7
                refine lv_iload (pc := 88) hx hb dX4_eventsTo_88 (lv_at hl 0 rfl) ?_
                refine lv_goto (pc := 90) (tgt := 95) hx hb dX4_eventsTo_90 (by decide) ?_
                subst hQ
                exact b_retR hx hb hr hlocks (by first | rfl | simp only [m_evto, (eq_false (by decide) : ((0 : Nat) = 2) = False), (eq_true rfl : ((0 : Nat) = 0) = True), if_true, if_false, if_neg c_7]) dX4_eventsTo_95
          · skip
            have c_5 : 0 = 2 := (nI_eq (a := 0) (b := 2) (by omega) (by omega)).mp c_5
            exact absurd c_5 (by decide)
        · skip
          have c_4 : (a (8 + 13 * g + 3)) = 0 := c_4
          exact absurd c_4 h2
    · skip
      have c_2 : ¬ (m_in ((nI 0).toInt64) 0 2) := b_i_0.mp c_2
      exact absurd (m_inN (lo := 0) (hi := 2) (by decide) (by decide) (by omega) (by omega) (by omega) (by omega)) c_2
  · skip
    have c_1 : ¬ (m_in (nI g).toInt64 0 5) := b_i_0.mp c_1
    exact absurd (m_gk hg) c_1
theorem hw_X4_eventsTo_1_0 : (.constantLong RX4 88 (2) : Cond) ∈ wsX4_eventsTo := by decide +kernel
set_option maxHeartbeats 4000000 in
set_option maxRecDepth 100000 in
theorem c_X4_eventsTo_1 (l : Launch) (D : va_G) (cI cC cZ cG : ClassId) (md : Nat → Nat) (a : Nat → Int32) (kp : Nat → Int32) (hs : Nat → Int32) (hn : Nat) (sl : Nat → Int32) (iv : Nat → Int32) (tx : Nat → Int32) (tl : Nat) (sp : Nat) (nu : Int32) (g : Nat) (hg : g < 6) (h1 : ¬ a (8 + 13 * g + 1) = (-6)) (h2 : ¬ a (8 + 13 * g + 3) = 0) : Met l yX4_eventsTo wsX4_eventsTo ({ frames := 2, cells := 0, slots := 0, locals := 45 } : Room) (b_R D (b_T cI cC cZ cG) [((md 0), .inr (4, [.ref (md 1), .ref (md 2), .ref (md 3), .int (nI hn), .ref (md 4), .ref (md 5), .ref (md 6), .int (nI tl), .int (nI sp), .int nu])), ((md 1), .inl (cI, 86, .inl a)), ((md 2), .inl (cI, 86, .inl kp)), ((md 3), .inl (cI, 516, .inl hs)), ((md 4), .inl (cI, 172, .inl sl)), ((md 5), .inl (cI, 2, .inl iv)), ((md 6), .inl (cI, 60, .inl tx))] [.ref (md 0), .int (nI g), .int (nI 1)]) (vp_Si (fun r => r = m_evto a g 1)) 0 0 (fun _ => False) := by
  refine b_enterR (cc := cX4_eventsTo) (maxL := 5) (ret := (some .int)) (by decide) rfl (Nat.le_of_ble_eq_true rfl) ?_
  intro p e s m below meth c ls hx hb hr hml hown hts hlocks hP hK hl Q hQ
  have hown : s.vm.findClass RX4 = some m.cls := hown
  have hl : lv_has ls 5 [(0, .ref (md 0)), (1, .int (nI g)), (2, .int (nI 1))] := hl
  refine lv_iload_n (pc := 0) hx hb dX4_eventsTo_0 rfl (lv_at hl 1 rfl) ?_
  refine b_cR (pc := 1) (va_runS (As := [.int (nI g)]) (rest := []) ⟨hx, hb, hml, hown, hts⟩ (c_X4_isGate l D cI cC cZ cG (nI g)) (va_cwS 1 hts gX4_eventsTo_X4_isGate rfl rfl rfl hyS_X4_isGate ⟨Nat.le_of_ble_eq_true rfl, Nat.le_of_ble_eq_true rfl⟩) (b_pRS (wc := []) hK hP [] rfl) rfl rfl hl.1 rfl (lv_room (Nat.le_of_ble_eq_true rfl)) dX4_eventsTo_1 ⟨Nat.zero_le _, Nat.zero_le _⟩) ?_
  refine lv_if_ne (pc := 4) (tgt := 9) hx hb dX4_eventsTo_4 (by decide) (fun c_1 => ?_) (fun c_1 => ?_)
  · skip
    have c_1 : m_in (nI g).toInt64 0 5 := Classical.not_not.mp (fun h9 => c_1 (b_i_0.mpr h9))
    refine lv_iload_n (pc := 9) hx hb dX4_eventsTo_9 rfl (lv_at hl 2 rfl) ?_
    refine lv_i2l (pc := 10) hx hb dX4_eventsTo_10 rfl ?_
    refine lv_lconst (pc := 11) (v := 0) hx hb dX4_eventsTo_11 (by decide) ?_
    refine lv_ldc2 (pc := 12) hx hb hown (hts _ hw_X4_eventsTo_1_0) dX4_eventsTo_12 ?_
    refine b_cR (pc := 15) (va_runS (As := [.long ((nI 1).toInt64), .long 0, .long 2]) (rest := []) ⟨hx, hb, hml, hown, hts⟩ (c_X4_in l D cI cC cZ cG ((nI 1).toInt64) 0 2) (va_cwS 3 hts gX4_eventsTo_X4_in rfl rfl rfl hyS_X4_in ⟨Nat.le_of_ble_eq_true rfl, Nat.le_of_ble_eq_true rfl⟩) (b_pRS (wc := []) hK hP [] rfl) rfl rfl hl.1 rfl (lv_room (Nat.le_of_ble_eq_true rfl)) dX4_eventsTo_15 ⟨Nat.zero_le _, Nat.zero_le _⟩) ?_
    refine lv_if_ne (pc := 18) (tgt := 24) hx hb dX4_eventsTo_18 (by decide) (fun c_2 => ?_) (fun c_2 => ?_)
    · skip
      have c_2 : m_in ((nI 1).toInt64) 0 2 := Classical.not_not.mp (fun h9 => c_2 (b_i_0.mpr h9))
      refine lv_aload_n (pc := 24) hx hb dX4_eventsTo_24 rfl (lv_at hl 0 rfl) ?_
      refine lv_iload_n (pc := 25) hx hb dX4_eventsTo_25 rfl (lv_at hl 1 rfl) ?_
      refine b_cR (pc := 26) (va_runV (As := [.int (nI g)]) (rest := []) ⟨hx, hb, hml, hown, hts⟩ (c_X4_isUnderWay l D cI cC cZ cG md a kp hs hn sl iv tx tl sp nu g (by first | omega | assumption)) (cwV 1 hts gX4_eventsTo_X4_isUnderWay rfl rfl rfl hy_X4_isUnderWay ⟨Nat.le_of_ble_eq_true rfl, Nat.le_of_ble_eq_true rfl⟩) (b_pRV (wc := [((md 0), .inr (4, [.ref (md 1), .ref (md 2), .ref (md 3), .int (nI hn), .ref (md 4), .ref (md 5), .ref (md 6), .int (nI tl), .int (nI sp), .int nu])), ((md 1), .inl (cI, 86, .inl a)), ((md 2), .inl (cI, 86, .inl kp)), ((md 3), .inl (cI, 516, .inl hs)), ((md 4), .inl (cI, 172, .inl sl)), ((md 5), .inl (cI, 2, .inl iv)), ((md 6), .inl (cI, 60, .inl tx))]) hK hP [0, 1, 2, 3, 4, 5, 6] rfl (ci := 4) (q0 := 0) rfl rfl) rfl rfl hl.1 rfl (lv_room (Nat.le_of_ble_eq_true rfl)) dX4_eventsTo_26 ⟨Nat.zero_le _, Nat.zero_le _⟩) ?_
      refine lv_if_eq (pc := 29) (tgt := 41) hx hb dX4_eventsTo_29 (by decide) (fun c_3 => ?_) (fun c_3 => ?_)
      · skip
        have c_3 : ¬ (¬ a (8 + 13 * g + 1) = (-6)) := b_i_0.mp c_3
        exact absurd h1 c_3
      · skip
        have c_3 : ¬ a (8 + 13 * g + 1) = (-6) := Classical.not_not.mp (fun h9 => c_3 (b_i_0.mpr h9))
        refine lv_aload_n (pc := 32) hx hb dX4_eventsTo_32 rfl (lv_at hl 0 rfl) ?_
        refine lv_iload_n (pc := 33) hx hb dX4_eventsTo_33 rfl (lv_at hl 1 rfl) ?_
        refine lv_iconst (pc := 34) (v := 3) hx hb dX4_eventsTo_34 (by decide) ?_
        refine b_cR (pc := 35) (va_runV (As := [.int (nI g), .int 3]) (rest := []) ⟨hx, hb, hml, hown, hts⟩ (c_X4_get l D cI cC cZ cG md a kp hs hn sl iv tx tl sp nu g 3 (by first | omega | assumption) (by first | omega | assumption)) (cwV 2 hts gX4_eventsTo_X4_get rfl rfl rfl hy_X4_get ⟨Nat.le_of_ble_eq_true rfl, Nat.le_of_ble_eq_true rfl⟩) (b_pRV (wc := [((md 0), .inr (4, [.ref (md 1), .ref (md 2), .ref (md 3), .int (nI hn), .ref (md 4), .ref (md 5), .ref (md 6), .int (nI tl), .int (nI sp), .int nu])), ((md 1), .inl (cI, 86, .inl a)), ((md 2), .inl (cI, 86, .inl kp)), ((md 3), .inl (cI, 516, .inl hs)), ((md 4), .inl (cI, 172, .inl sl)), ((md 5), .inl (cI, 2, .inl iv)), ((md 6), .inl (cI, 60, .inl tx))]) hK hP [0, 1, 2, 3, 4, 5, 6] rfl (ci := 4) (q0 := 0) rfl rfl) rfl rfl hl.1 rfl (lv_room (Nat.le_of_ble_eq_true rfl)) dX4_eventsTo_35 ⟨Nat.zero_le _, Nat.zero_le _⟩) ?_
        refine lv_if_ne (pc := 38) (tgt := 44) hx hb dX4_eventsTo_38 (by decide) (fun c_4 => ?_) (fun c_4 => ?_)
        · skip
          have c_4 : ¬ ((a (8 + 13 * g + 3)) = 0) := c_4
          refine lv_aload_n (pc := 44) hx hb dX4_eventsTo_44 rfl (lv_at hl 0 rfl) ?_
          refine lv_iload_n (pc := 45) hx hb dX4_eventsTo_45 rfl (lv_at hl 1 rfl) ?_
          refine lv_iconst (pc := 46) (v := 2) hx hb dX4_eventsTo_46 (by decide) ?_
          refine b_cR (pc := 47) (va_runV (As := [.int (nI g), .int 2]) (rest := []) ⟨hx, hb, hml, hown, hts⟩ (c_X4_get l D cI cC cZ cG md a kp hs hn sl iv tx tl sp nu g 2 (by first | omega | assumption) (by first | omega | assumption)) (cwV 2 hts gX4_eventsTo_X4_get rfl rfl rfl hy_X4_get ⟨Nat.le_of_ble_eq_true rfl, Nat.le_of_ble_eq_true rfl⟩) (b_pRV (wc := [((md 0), .inr (4, [.ref (md 1), .ref (md 2), .ref (md 3), .int (nI hn), .ref (md 4), .ref (md 5), .ref (md 6), .int (nI tl), .int (nI sp), .int nu])), ((md 1), .inl (cI, 86, .inl a)), ((md 2), .inl (cI, 86, .inl kp)), ((md 3), .inl (cI, 516, .inl hs)), ((md 4), .inl (cI, 172, .inl sl)), ((md 5), .inl (cI, 2, .inl iv)), ((md 6), .inl (cI, 60, .inl tx))]) hK hP [0, 1, 2, 3, 4, 5, 6] rfl (ci := 4) (q0 := 0) rfl rfl) rfl rfl hl.1 rfl (lv_room (Nat.le_of_ble_eq_true rfl)) dX4_eventsTo_47 ⟨Nat.zero_le _, Nat.zero_le _⟩) ?_
          refine lv_istore_n (pc := 50) (lv' := [(3, .int (a (8 + 13 * g + 2))), (0, .ref (md 0)), (1, .int (nI g)), (2, .int (nI 1))]) hx hb dX4_eventsTo_50 rfl hl (by decide) rfl (fun ls hl => ?_)
          refine lv_iload_n (pc := 51) hx hb dX4_eventsTo_51 rfl (lv_at hl 3 rfl) ?_
          refine lv_iconst (pc := 52) (v := 2) hx hb dX4_eventsTo_52 (by decide) ?_
          refine lv_icmp_ne (pc := 53) (tgt := 67) hx hb dX4_eventsTo_53 (by decide) (fun c_5 => ?_) (fun c_5 => ?_)
          · skip
            have c_5 : ¬ (1 = 2) := fun h9 => c_5 ((nI_eq (a := 1) (b := 2) (by omega) (by omega)).mpr h9)
            refine lv_iload_n (pc := 67) hx hb dX4_eventsTo_67 rfl (lv_at hl 3 rfl) ?_
            refine lv_if_ne (pc := 68) (tgt := 77) hx hb dX4_eventsTo_68 (by decide) (fun c_6 => ?_) (fun c_6 => ?_)
            · skip
              have c_6 : ¬ (1 = 0) := fun h9 => c_6 ((nI_eq (a := 1) (b := 0) (by omega) (by omega)).mpr h9)
              refine lv_iconst (pc := 77) (v := 4) hx hb dX4_eventsTo_77 (by decide) ?_
              refine lv_iload_n (pc := 78) hx hb dX4_eventsTo_78 rfl (lv_at hl 0 rfl) ?_
              refine lv_iadd (pc := 79) hx hb dX4_eventsTo_79 ?_
              refine lv_istore (pc := 80) (lv' := [(4, .int (4 + (a (8 + 13 * g + 2)))), (3, .int (a (8 + 13 * g + 2))), (0, .ref (md 0)), (1, .int (nI g)), (2, .int (nI 1))]) hx hb dX4_eventsTo_80 hl (by decide) rfl (fun ls hl => ?_)
              refine lv_iload (pc := 82) hx hb dX4_eventsTo_82 (lv_at hl 0 rfl) ?_
              refine lv_iconst (pc := 84) (v := 4) hx hb dX4_eventsTo_84 (by decide) ?_
              refine lv_icmp_ge (pc := 85) (tgt := 93) hx hb dX4_eventsTo_85 (by decide) (fun c_7 => ?_) (fun c_7 => ?_)
              · skip
                have c_7 : 4 ≤ (4 + (a (8 + 13 * g + 2))) := c_7
                refine lv_bipush (pc := 93) (v := (-6)) hx hb dX4_eventsTo_93 (by decide) ?_
                subst hQ
                exact b_retR hx hb hr hlocks (by first | rfl | simp only [m_evto, (eq_false (by decide) : ((1 : Nat) = 2) = False), (eq_false (by decide) : ((1 : Nat) = 0) = False), if_true, if_false, if_pos c_7]) dX4_eventsTo_95
              · skip
                have c_7 : ¬ (4 ≤ (4 + (a (8 + 13 * g + 2)))) := c_7
                refine lv_iload (pc := 88) hx hb dX4_eventsTo_88 (lv_at hl 0 rfl) ?_
                refine lv_goto (pc := 90) (tgt := 95) hx hb dX4_eventsTo_90 (by decide) ?_
                subst hQ
                exact b_retR hx hb hr hlocks (by first | rfl | simp only [m_evto, (eq_false (by decide) : ((1 : Nat) = 2) = False), (eq_false (by decide) : ((1 : Nat) = 0) = False), if_true, if_false, if_neg c_7]) dX4_eventsTo_95
            · skip
              have c_6 : 1 = 0 := (nI_eq (a := 1) (b := 0) (by omega) (by omega)).mp c_6
              exact absurd c_6 (by decide)
          · skip
            have c_5 : 1 = 2 := (nI_eq (a := 1) (b := 2) (by omega) (by omega)).mp c_5
            exact absurd c_5 (by decide)
        · skip
          have c_4 : (a (8 + 13 * g + 3)) = 0 := c_4
          exact absurd c_4 h2
    · skip
      have c_2 : ¬ (m_in ((nI 1).toInt64) 0 2) := b_i_0.mp c_2
      exact absurd (m_inN (lo := 0) (hi := 2) (by decide) (by decide) (by omega) (by omega) (by omega) (by omega)) c_2
  · skip
    have c_1 : ¬ (m_in (nI g).toInt64 0 5) := b_i_0.mp c_1
    exact absurd (m_gk hg) c_1
theorem hw_X4_eventsTo_2_0 : (.constantLong RX4 88 (2) : Cond) ∈ wsX4_eventsTo := by decide +kernel
set_option maxHeartbeats 4000000 in
set_option maxRecDepth 100000 in
theorem c_X4_eventsTo_2 (l : Launch) (D : va_G) (cI cC cZ cG : ClassId) (md : Nat → Nat) (a : Nat → Int32) (kp : Nat → Int32) (hs : Nat → Int32) (hn : Nat) (sl : Nat → Int32) (iv : Nat → Int32) (tx : Nat → Int32) (tl : Nat) (sp : Nat) (nu : Int32) (g : Nat) (hg : g < 6) (h1 : ¬ a (8 + 13 * g + 1) = (-6)) (h2 : ¬ a (8 + 13 * g + 3) = 0) : Met l yX4_eventsTo wsX4_eventsTo ({ frames := 2, cells := 0, slots := 0, locals := 45 } : Room) (b_R D (b_T cI cC cZ cG) [((md 0), .inr (4, [.ref (md 1), .ref (md 2), .ref (md 3), .int (nI hn), .ref (md 4), .ref (md 5), .ref (md 6), .int (nI tl), .int (nI sp), .int nu])), ((md 1), .inl (cI, 86, .inl a)), ((md 2), .inl (cI, 86, .inl kp)), ((md 3), .inl (cI, 516, .inl hs)), ((md 4), .inl (cI, 172, .inl sl)), ((md 5), .inl (cI, 2, .inl iv)), ((md 6), .inl (cI, 60, .inl tx))] [.ref (md 0), .int (nI g), .int (nI 2)]) (vp_Si (fun r => r = m_evto a g 2)) 0 0 (fun _ => False) := by
  refine b_enterR (cc := cX4_eventsTo) (maxL := 5) (ret := (some .int)) (by decide) rfl (Nat.le_of_ble_eq_true rfl) ?_
  intro p e s m below meth c ls hx hb hr hml hown hts hlocks hP hK hl Q hQ
  have hown : s.vm.findClass RX4 = some m.cls := hown
  have hl : lv_has ls 5 [(0, .ref (md 0)), (1, .int (nI g)), (2, .int (nI 2))] := hl
  refine lv_iload_n (pc := 0) hx hb dX4_eventsTo_0 rfl (lv_at hl 1 rfl) ?_
  refine b_cR (pc := 1) (va_runS (As := [.int (nI g)]) (rest := []) ⟨hx, hb, hml, hown, hts⟩ (c_X4_isGate l D cI cC cZ cG (nI g)) (va_cwS 1 hts gX4_eventsTo_X4_isGate rfl rfl rfl hyS_X4_isGate ⟨Nat.le_of_ble_eq_true rfl, Nat.le_of_ble_eq_true rfl⟩) (b_pRS (wc := []) hK hP [] rfl) rfl rfl hl.1 rfl (lv_room (Nat.le_of_ble_eq_true rfl)) dX4_eventsTo_1 ⟨Nat.zero_le _, Nat.zero_le _⟩) ?_
  refine lv_if_ne (pc := 4) (tgt := 9) hx hb dX4_eventsTo_4 (by decide) (fun c_1 => ?_) (fun c_1 => ?_)
  · skip
    have c_1 : m_in (nI g).toInt64 0 5 := Classical.not_not.mp (fun h9 => c_1 (b_i_0.mpr h9))
    refine lv_iload_n (pc := 9) hx hb dX4_eventsTo_9 rfl (lv_at hl 2 rfl) ?_
    refine lv_i2l (pc := 10) hx hb dX4_eventsTo_10 rfl ?_
    refine lv_lconst (pc := 11) (v := 0) hx hb dX4_eventsTo_11 (by decide) ?_
    refine lv_ldc2 (pc := 12) hx hb hown (hts _ hw_X4_eventsTo_2_0) dX4_eventsTo_12 ?_
    refine b_cR (pc := 15) (va_runS (As := [.long ((nI 2).toInt64), .long 0, .long 2]) (rest := []) ⟨hx, hb, hml, hown, hts⟩ (c_X4_in l D cI cC cZ cG ((nI 2).toInt64) 0 2) (va_cwS 3 hts gX4_eventsTo_X4_in rfl rfl rfl hyS_X4_in ⟨Nat.le_of_ble_eq_true rfl, Nat.le_of_ble_eq_true rfl⟩) (b_pRS (wc := []) hK hP [] rfl) rfl rfl hl.1 rfl (lv_room (Nat.le_of_ble_eq_true rfl)) dX4_eventsTo_15 ⟨Nat.zero_le _, Nat.zero_le _⟩) ?_
    refine lv_if_ne (pc := 18) (tgt := 24) hx hb dX4_eventsTo_18 (by decide) (fun c_2 => ?_) (fun c_2 => ?_)
    · skip
      have c_2 : m_in ((nI 2).toInt64) 0 2 := Classical.not_not.mp (fun h9 => c_2 (b_i_0.mpr h9))
      refine lv_aload_n (pc := 24) hx hb dX4_eventsTo_24 rfl (lv_at hl 0 rfl) ?_
      refine lv_iload_n (pc := 25) hx hb dX4_eventsTo_25 rfl (lv_at hl 1 rfl) ?_
      refine b_cR (pc := 26) (va_runV (As := [.int (nI g)]) (rest := []) ⟨hx, hb, hml, hown, hts⟩ (c_X4_isUnderWay l D cI cC cZ cG md a kp hs hn sl iv tx tl sp nu g (by first | omega | assumption)) (cwV 1 hts gX4_eventsTo_X4_isUnderWay rfl rfl rfl hy_X4_isUnderWay ⟨Nat.le_of_ble_eq_true rfl, Nat.le_of_ble_eq_true rfl⟩) (b_pRV (wc := [((md 0), .inr (4, [.ref (md 1), .ref (md 2), .ref (md 3), .int (nI hn), .ref (md 4), .ref (md 5), .ref (md 6), .int (nI tl), .int (nI sp), .int nu])), ((md 1), .inl (cI, 86, .inl a)), ((md 2), .inl (cI, 86, .inl kp)), ((md 3), .inl (cI, 516, .inl hs)), ((md 4), .inl (cI, 172, .inl sl)), ((md 5), .inl (cI, 2, .inl iv)), ((md 6), .inl (cI, 60, .inl tx))]) hK hP [0, 1, 2, 3, 4, 5, 6] rfl (ci := 4) (q0 := 0) rfl rfl) rfl rfl hl.1 rfl (lv_room (Nat.le_of_ble_eq_true rfl)) dX4_eventsTo_26 ⟨Nat.zero_le _, Nat.zero_le _⟩) ?_
      refine lv_if_eq (pc := 29) (tgt := 41) hx hb dX4_eventsTo_29 (by decide) (fun c_3 => ?_) (fun c_3 => ?_)
      · skip
        have c_3 : ¬ (¬ a (8 + 13 * g + 1) = (-6)) := b_i_0.mp c_3
        exact absurd h1 c_3
      · skip
        have c_3 : ¬ a (8 + 13 * g + 1) = (-6) := Classical.not_not.mp (fun h9 => c_3 (b_i_0.mpr h9))
        refine lv_aload_n (pc := 32) hx hb dX4_eventsTo_32 rfl (lv_at hl 0 rfl) ?_
        refine lv_iload_n (pc := 33) hx hb dX4_eventsTo_33 rfl (lv_at hl 1 rfl) ?_
        refine lv_iconst (pc := 34) (v := 3) hx hb dX4_eventsTo_34 (by decide) ?_
        refine b_cR (pc := 35) (va_runV (As := [.int (nI g), .int 3]) (rest := []) ⟨hx, hb, hml, hown, hts⟩ (c_X4_get l D cI cC cZ cG md a kp hs hn sl iv tx tl sp nu g 3 (by first | omega | assumption) (by first | omega | assumption)) (cwV 2 hts gX4_eventsTo_X4_get rfl rfl rfl hy_X4_get ⟨Nat.le_of_ble_eq_true rfl, Nat.le_of_ble_eq_true rfl⟩) (b_pRV (wc := [((md 0), .inr (4, [.ref (md 1), .ref (md 2), .ref (md 3), .int (nI hn), .ref (md 4), .ref (md 5), .ref (md 6), .int (nI tl), .int (nI sp), .int nu])), ((md 1), .inl (cI, 86, .inl a)), ((md 2), .inl (cI, 86, .inl kp)), ((md 3), .inl (cI, 516, .inl hs)), ((md 4), .inl (cI, 172, .inl sl)), ((md 5), .inl (cI, 2, .inl iv)), ((md 6), .inl (cI, 60, .inl tx))]) hK hP [0, 1, 2, 3, 4, 5, 6] rfl (ci := 4) (q0 := 0) rfl rfl) rfl rfl hl.1 rfl (lv_room (Nat.le_of_ble_eq_true rfl)) dX4_eventsTo_35 ⟨Nat.zero_le _, Nat.zero_le _⟩) ?_
        refine lv_if_ne (pc := 38) (tgt := 44) hx hb dX4_eventsTo_38 (by decide) (fun c_4 => ?_) (fun c_4 => ?_)
        · skip
          have c_4 : ¬ ((a (8 + 13 * g + 3)) = 0) := c_4
          refine lv_aload_n (pc := 44) hx hb dX4_eventsTo_44 rfl (lv_at hl 0 rfl) ?_
          refine lv_iload_n (pc := 45) hx hb dX4_eventsTo_45 rfl (lv_at hl 1 rfl) ?_
          refine lv_iconst (pc := 46) (v := 2) hx hb dX4_eventsTo_46 (by decide) ?_
          refine b_cR (pc := 47) (va_runV (As := [.int (nI g), .int 2]) (rest := []) ⟨hx, hb, hml, hown, hts⟩ (c_X4_get l D cI cC cZ cG md a kp hs hn sl iv tx tl sp nu g 2 (by first | omega | assumption) (by first | omega | assumption)) (cwV 2 hts gX4_eventsTo_X4_get rfl rfl rfl hy_X4_get ⟨Nat.le_of_ble_eq_true rfl, Nat.le_of_ble_eq_true rfl⟩) (b_pRV (wc := [((md 0), .inr (4, [.ref (md 1), .ref (md 2), .ref (md 3), .int (nI hn), .ref (md 4), .ref (md 5), .ref (md 6), .int (nI tl), .int (nI sp), .int nu])), ((md 1), .inl (cI, 86, .inl a)), ((md 2), .inl (cI, 86, .inl kp)), ((md 3), .inl (cI, 516, .inl hs)), ((md 4), .inl (cI, 172, .inl sl)), ((md 5), .inl (cI, 2, .inl iv)), ((md 6), .inl (cI, 60, .inl tx))]) hK hP [0, 1, 2, 3, 4, 5, 6] rfl (ci := 4) (q0 := 0) rfl rfl) rfl rfl hl.1 rfl (lv_room (Nat.le_of_ble_eq_true rfl)) dX4_eventsTo_47 ⟨Nat.zero_le _, Nat.zero_le _⟩) ?_
          refine lv_istore_n (pc := 50) (lv' := [(3, .int (a (8 + 13 * g + 2))), (0, .ref (md 0)), (1, .int (nI g)), (2, .int (nI 2))]) hx hb dX4_eventsTo_50 rfl hl (by decide) rfl (fun ls hl => ?_)
          refine lv_iload_n (pc := 51) hx hb dX4_eventsTo_51 rfl (lv_at hl 3 rfl) ?_
          refine lv_iconst (pc := 52) (v := 2) hx hb dX4_eventsTo_52 (by decide) ?_
          refine lv_icmp_ne (pc := 53) (tgt := 67) hx hb dX4_eventsTo_53 (by decide) (fun c_5 => ?_) (fun c_5 => ?_)
          · skip
            have c_5 : ¬ (2 = 2) := fun h9 => c_5 ((nI_eq (a := 2) (b := 2) (by omega) (by omega)).mpr h9)
            exact absurd c_5 (by decide)
          · skip
            have c_5 : 2 = 2 := (nI_eq (a := 2) (b := 2) (by omega) (by omega)).mp c_5
            refine lv_iload_n (pc := 56) hx hb dX4_eventsTo_56 rfl (lv_at hl 0 rfl) ?_
            refine lv_if_ge (pc := 57) (tgt := 65) hx hb dX4_eventsTo_57 (by decide) (fun c_6 => ?_) (fun c_6 => ?_)
            · skip
              have c_6 : 0 ≤ (a (8 + 13 * g + 2)) := c_6
              refine lv_iload_n (pc := 65) hx hb dX4_eventsTo_65 rfl (lv_at hl 0 rfl) ?_
              subst hQ
              exact b_retR hx hb hr hlocks (by first | rfl | simp only [m_evto, (eq_true rfl : ((2 : Nat) = 2) = True), if_true, if_false, if_pos c_6]) dX4_eventsTo_66
            · skip
              have c_6 : ¬ (0 ≤ (a (8 + 13 * g + 2))) := c_6
              refine lv_iload_n (pc := 60) hx hb dX4_eventsTo_60 rfl (lv_at hl 0 rfl) ?_
              refine lv_ineg (pc := 61) hx hb dX4_eventsTo_61 ?_
              refine lv_goto (pc := 62) (tgt := 66) hx hb dX4_eventsTo_62 (by decide) ?_
              subst hQ
              exact b_retR hx hb hr hlocks (by first | rfl | simp only [m_evto, (eq_true rfl : ((2 : Nat) = 2) = True), if_true, if_false, if_neg c_6]) dX4_eventsTo_66
        · skip
          have c_4 : (a (8 + 13 * g + 3)) = 0 := c_4
          exact absurd c_4 h2
    · skip
      have c_2 : ¬ (m_in ((nI 2).toInt64) 0 2) := b_i_0.mp c_2
      exact absurd (m_inN (lo := 0) (hi := 2) (by decide) (by decide) (by omega) (by omega) (by omega) (by omega)) c_2
  · skip
    have c_1 : ¬ (m_in (nI g).toInt64 0 5) := b_i_0.mp c_1
    exact absurd (m_gk hg) c_1
theorem hw_X4_untilBlocked_0 : (.fieldLink RX4 7 "BeamTurnstilesModel" "all" "[I" : Cond) ∈ wsX4_untilBlocked := by decide +kernel
theorem hi_X4_untilBlocked_X4 : ∀ w ∈ wsX40, w ∈ wsX4_untilBlocked := by decide +kernel
set_option maxHeartbeats 4000000 in
set_option maxRecDepth 100000 in
theorem c_X4_untilBlocked (l : Launch) (D : va_G) (cI cC cZ cG : ClassId) (md : Nat → Nat) (a : Nat → Int32) (kp : Nat → Int32) (hs : Nat → Int32) (hn : Nat) (sl : Nat → Int32) (iv : Nat → Int32) (tx : Nat → Int32) (tl : Nat) (sp : Nat) (nu : Int32) : Met l yX4_untilBlocked wsX4_untilBlocked ({ frames := 2, cells := 0, slots := 0, locals := 43 } : Room) (b_R D (b_T cI cC cZ cG) [((md 0), .inr (4, [.ref (md 1), .ref (md 2), .ref (md 3), .int (nI hn), .ref (md 4), .ref (md 5), .ref (md 6), .int (nI tl), .int (nI sp), .int nu])), ((md 1), .inl (cI, 86, .inl a)), ((md 2), .inl (cI, 86, .inl kp)), ((md 3), .inl (cI, 516, .inl hs)), ((md 4), .inl (cI, 172, .inl sl)), ((md 5), .inl (cI, 2, .inl iv)), ((md 6), .inl (cI, 60, .inl tx))] [.ref (md 0)]) (vp_Si (fun r => r = m_ub a 6)) 0 0 (fun _ => False) := by
  refine b_enterR (cc := cX4_untilBlocked) (maxL := 5) (ret := (some .int)) (by decide) rfl (Nat.le_of_ble_eq_true rfl) ?_
  intro p e s m below meth c ls hx hb hr hml hown hts hlocks hP hK hl Q hQ
  have hown : s.vm.findClass RX4 = some m.cls := hown
  have hl : lv_has ls 5 [(0, .ref (md 0))] := hl
  refine lv_bipush (pc := 0) (v := (-6)) hx hb dX4_untilBlocked_0 (by decide) ?_
  refine lv_istore_n (pc := 2) (lv' := [(1, .int (-6)), (0, .ref (md 0))]) hx hb dX4_untilBlocked_2 rfl hl (by decide) rfl (fun ls hl => ?_)
  refine lv_iconst (pc := 3) (v := 0) hx hb dX4_untilBlocked_3 (by decide) ?_
  refine lv_istore_n (pc := 4) (lv' := [(2, .int 0), (1, .int (-6)), (0, .ref (md 0))]) hx hb dX4_untilBlocked_4 rfl hl (by decide) rfl (fun ls hl => ?_)
  have loop_5 : ∀ (fu : Nat) (i : Nat) (mk : Int32), (i ≤ 6) → (mk = m_ub a i) → 6 - i < fu → ∀ (ls : Array Slot), lv_has ls 5 [(2, .int (nI i)), (1, .int mk), (0, .ref (md 0))] → W p l e ({ frames := 2, cells := 0, slots := 0, locals := 43 } : Room) s m ([.ref (md 0)] : List Value).toArray below meth c s.heap [] 0 0 Q (F0 m 5 ls []) := by
    intro fu
    induction fu with
    | zero => intro i mk hi hm hfu ls hl; exact absurd hfu (Nat.not_lt_zero _)
    | succ fu ih_5 =>
      intro i mk hi hm hfu ls hl
      refine lv_iload_n (pc := 5) hx hb dX4_untilBlocked_5 rfl (lv_at hl 0 rfl) ?_
      refine lv_bipush (pc := 6) (v := 6) hx hb dX4_untilBlocked_6 (by decide) ?_
      refine lv_icmp_ge (pc := 8) (tgt := 79) hx hb dX4_untilBlocked_8 (by decide) (fun c_1 => ?_) (fun c_1 => ?_)
      · skip
        have c_1 : 6 ≤ i := (nI_leI (a := 6) (b := i) (by omega) (by omega)).mp c_1
        refine lv_iload_n (pc := 79) hx hb dX4_untilBlocked_79 rfl (lv_at hl 1 rfl) ?_
        subst hQ
        exact b_retR hx hb hr hlocks (by have e9 : i = 6 := (by omega); rw [hm, e9]) dX4_untilBlocked_80
      · skip
        have c_1 : ¬ (6 ≤ i) := fun h9 => c_1 ((nI_leI (a := 6) (b := i) (by omega) (by omega)).mpr h9)
        refine lv_aload_n (pc := 11) hx hb dX4_untilBlocked_11 rfl (lv_at hl 2 rfl) ?_
        refine va_get (pc := 12) (D := D) (ci := 4) (v := .ref (md 1)) (C := RX4) (T := TX4) (N := 10) hx hb hts hi_X4_untilBlocked_X4 hown hK hP 0 rfl rfl 0 (by decide) (hts _ hw_X4_untilBlocked_0) (fun _ h9 => h9) rfl dX4_untilBlocked_12 ?_
        refine lv_iconst (pc := 15) (v := 0) hx hb dX4_untilBlocked_15 (by decide) ?_
        refine b_iald (pc := 16) hx hb hK hP 1 0 rfl rfl 0 rfl (by omega) (by decide) dX4_untilBlocked_16 ?_
        refine lv_aload_n (pc := 17) hx hb dX4_untilBlocked_17 rfl (lv_at hl 2 rfl) ?_
        refine va_get (pc := 18) (D := D) (ci := 4) (v := .ref (md 1)) (C := RX4) (T := TX4) (N := 10) hx hb hts hi_X4_untilBlocked_X4 hown hK hP 0 rfl rfl 0 (by decide) (hts _ hw_X4_untilBlocked_0) (fun _ h9 => h9) rfl dX4_untilBlocked_18 ?_
        refine lv_iconst (pc := 21) (v := 3) hx hb dX4_untilBlocked_21 (by decide) ?_
        refine b_iald (pc := 22) hx hb hK hP 1 0 rfl rfl 3 rfl (by omega) (by decide) dX4_untilBlocked_22 ?_
        refine lv_aload_n (pc := 23) hx hb dX4_untilBlocked_23 rfl (lv_at hl 2 rfl) ?_
        refine lv_iload_n (pc := 24) hx hb dX4_untilBlocked_24 rfl (lv_at hl 0 rfl) ?_
        refine lv_iconst (pc := 25) (v := 1) hx hb dX4_untilBlocked_25 (by decide) ?_
        refine b_cR (pc := 26) (va_runV (As := [.int (nI i), .int 1]) (rest := [.int (a 3), .int (a 0)]) ⟨hx, hb, hml, hown, hts⟩ (c_X4_get l D cI cC cZ cG md a kp hs hn sl iv tx tl sp nu i 1 (by first | omega | assumption) (by first | omega | assumption)) (cwV 2 hts gX4_untilBlocked_X4_get rfl rfl rfl hy_X4_get ⟨Nat.le_of_ble_eq_true rfl, Nat.le_of_ble_eq_true rfl⟩) (b_pRV (wc := [((md 0), .inr (4, [.ref (md 1), .ref (md 2), .ref (md 3), .int (nI hn), .ref (md 4), .ref (md 5), .ref (md 6), .int (nI tl), .int (nI sp), .int nu])), ((md 1), .inl (cI, 86, .inl a)), ((md 2), .inl (cI, 86, .inl kp)), ((md 3), .inl (cI, 516, .inl hs)), ((md 4), .inl (cI, 172, .inl sl)), ((md 5), .inl (cI, 2, .inl iv)), ((md 6), .inl (cI, 60, .inl tx))]) hK hP [0, 1, 2, 3, 4, 5, 6] rfl (ci := 4) (q0 := 0) rfl rfl) rfl rfl hl.1 rfl (lv_room (Nat.le_of_ble_eq_true rfl)) dX4_untilBlocked_26 ⟨Nat.zero_le _, Nat.zero_le _⟩) ?_
        refine lv_isub (pc := 29) hx hb dX4_untilBlocked_29 ?_
        refine lv_isub (pc := 30) hx hb dX4_untilBlocked_30 ?_
        refine lv_istore_n (pc := 31) (lv' := [(3, .int ((a 0) - ((a 3) - (a (8 + 13 * i + 1))))), (2, .int (nI i)), (1, .int mk), (0, .ref (md 0))]) hx hb dX4_untilBlocked_31 rfl hl (by decide) rfl (fun ls hl => ?_)
        refine lv_aload_n (pc := 32) hx hb dX4_untilBlocked_32 rfl (lv_at hl 3 rfl) ?_
        refine lv_iload_n (pc := 33) hx hb dX4_untilBlocked_33 rfl (lv_at hl 1 rfl) ?_
        refine b_cR (pc := 34) (va_runV (As := [.int (nI i)]) (rest := []) ⟨hx, hb, hml, hown, hts⟩ (c_X4_isUnderWay l D cI cC cZ cG md a kp hs hn sl iv tx tl sp nu i (by first | omega | assumption)) (cwV 1 hts gX4_untilBlocked_X4_isUnderWay rfl rfl rfl hy_X4_isUnderWay ⟨Nat.le_of_ble_eq_true rfl, Nat.le_of_ble_eq_true rfl⟩) (b_pRV (wc := [((md 0), .inr (4, [.ref (md 1), .ref (md 2), .ref (md 3), .int (nI hn), .ref (md 4), .ref (md 5), .ref (md 6), .int (nI tl), .int (nI sp), .int nu])), ((md 1), .inl (cI, 86, .inl a)), ((md 2), .inl (cI, 86, .inl kp)), ((md 3), .inl (cI, 516, .inl hs)), ((md 4), .inl (cI, 172, .inl sl)), ((md 5), .inl (cI, 2, .inl iv)), ((md 6), .inl (cI, 60, .inl tx))]) hK hP [0, 1, 2, 3, 4, 5, 6] rfl (ci := 4) (q0 := 0) rfl rfl) rfl rfl hl.1 rfl (lv_room (Nat.le_of_ble_eq_true rfl)) dX4_untilBlocked_34 ⟨Nat.zero_le _, Nat.zero_le _⟩) ?_
        refine lv_if_eq (pc := 37) (tgt := 59) hx hb dX4_untilBlocked_37 (by decide) (fun c_2 => ?_) (fun c_2 => ?_)
        · skip
          have c_2 : ¬ (¬ a (8 + 13 * i + 1) = (-6)) := b_i_0.mp c_2
          refine lv_iconst (pc := 59) (v := 0) hx hb dX4_untilBlocked_59 (by decide) ?_
          refine lv_istore (pc := 60) (lv' := [(4, .int 0), (3, .int ((a 0) - ((a 3) - (a (8 + 13 * i + 1))))), (2, .int (nI i)), (1, .int mk), (0, .ref (md 0))]) hx hb dX4_untilBlocked_60 hl (by decide) rfl (fun ls hl => ?_)
          refine lv_iload (pc := 62) hx hb dX4_untilBlocked_62 (lv_at hl 0 rfl) ?_
          refine lv_if_eq (pc := 64) (tgt := 71) hx hb dX4_untilBlocked_64 (by decide) (fun c_3 => ?_) (fun c_3 => ?_)
          · skip
            refine lv_iload_n (pc := 71) hx hb dX4_untilBlocked_71 rfl (lv_at hl 3 rfl) ?_
            refine lv_istore_n (pc := 72) (lv' := [(1, .int mk), (4, .int 0), (3, .int ((a 0) - ((a 3) - (a (8 + 13 * i + 1))))), (2, .int (nI i)), (0, .ref (md 0))]) hx hb dX4_untilBlocked_72 rfl hl (by decide) rfl (fun ls hl => ?_)
            refine lv_iinc (pc := 73) (v := nI (i + 1)) (lv' := [(2, .int (nI (i + 1))), (1, .int mk), (4, .int 0), (3, .int ((a 0) - ((a 3) - (a (8 + 13 * i + 1))))), (0, .ref (md 0))]) hx hb dX4_untilBlocked_73 hl (k := 3) rfl (nI_add i 1) (by decide) rfl (fun ls hl => ?_)
            refine lv_goto (pc := 76) (tgt := 5) hx hb dX4_untilBlocked_76 (by decide) ?_
            exact ih_5 (i + 1) mk (by omega) (by simp only [m_ub, hm, if_neg c_2]) (by omega) ls (lv_sub hl [0, 1, 4] rfl)
          · skip
            exact absurd c_3 (by decide)
        · skip
          have c_2 : ¬ a (8 + 13 * i + 1) = (-6) := Classical.not_not.mp (fun h9 => c_2 (b_i_0.mpr h9))
          refine lv_iload_n (pc := 40) hx hb dX4_untilBlocked_40 rfl (lv_at hl 0 rfl) ?_
          refine lv_if_le (pc := 41) (tgt := 59) hx hb dX4_untilBlocked_41 (by decide) (fun c_4 => ?_) (fun c_4 => ?_)
          · skip
            have c_4 : ((a 0) - ((a 3) - (a (8 + 13 * i + 1)))) ≤ 0 := c_4
            refine lv_iconst (pc := 59) (v := 0) hx hb dX4_untilBlocked_59 (by decide) ?_
            refine lv_istore (pc := 60) (lv' := [(4, .int 0), (3, .int ((a 0) - ((a 3) - (a (8 + 13 * i + 1))))), (2, .int (nI i)), (1, .int mk), (0, .ref (md 0))]) hx hb dX4_untilBlocked_60 hl (by decide) rfl (fun ls hl => ?_)
            refine lv_iload (pc := 62) hx hb dX4_untilBlocked_62 (lv_at hl 0 rfl) ?_
            refine lv_if_eq (pc := 64) (tgt := 71) hx hb dX4_untilBlocked_64 (by decide) (fun c_5 => ?_) (fun c_5 => ?_)
            · skip
              refine lv_iload_n (pc := 71) hx hb dX4_untilBlocked_71 rfl (lv_at hl 3 rfl) ?_
              refine lv_istore_n (pc := 72) (lv' := [(1, .int mk), (4, .int 0), (3, .int ((a 0) - ((a 3) - (a (8 + 13 * i + 1))))), (2, .int (nI i)), (0, .ref (md 0))]) hx hb dX4_untilBlocked_72 rfl hl (by decide) rfl (fun ls hl => ?_)
              refine lv_iinc (pc := 73) (v := nI (i + 1)) (lv' := [(2, .int (nI (i + 1))), (1, .int mk), (4, .int 0), (3, .int ((a 0) - ((a 3) - (a (8 + 13 * i + 1))))), (0, .ref (md 0))]) hx hb dX4_untilBlocked_73 hl (k := 3) rfl (nI_add i 1) (by decide) rfl (fun ls hl => ?_)
              refine lv_goto (pc := 76) (tgt := 5) hx hb dX4_untilBlocked_76 (by decide) ?_
              exact ih_5 (i + 1) mk (by omega) (by simp only [m_ub, hm, if_pos c_2, if_pos c_4]) (by omega) ls (lv_sub hl [0, 1, 4] rfl)
            · skip
              exact absurd c_5 (by decide)
          · skip
            have c_4 : ¬ (((a 0) - ((a 3) - (a (8 + 13 * i + 1)))) ≤ 0) := c_4
            refine lv_iload_n (pc := 44) hx hb dX4_untilBlocked_44 rfl (lv_at hl 2 rfl) ?_
            refine lv_bipush (pc := 45) (v := (-6)) hx hb dX4_untilBlocked_45 (by decide) ?_
            refine lv_icmp_eq (pc := 47) (tgt := 55) hx hb dX4_untilBlocked_47 (by decide) (fun c_6 => ?_) (fun c_6 => ?_)
            · skip
              have c_6 : mk = (-6) := c_6
              refine lv_iconst (pc := 55) (v := 1) hx hb dX4_untilBlocked_55 (by decide) ?_
              refine lv_goto (pc := 56) (tgt := 60) hx hb dX4_untilBlocked_56 (by decide) ?_
              refine lv_istore (pc := 60) (lv' := [(4, .int 1), (3, .int ((a 0) - ((a 3) - (a (8 + 13 * i + 1))))), (2, .int (nI i)), (1, .int mk), (0, .ref (md 0))]) hx hb dX4_untilBlocked_60 hl (by decide) rfl (fun ls hl => ?_)
              refine lv_iload (pc := 62) hx hb dX4_untilBlocked_62 (lv_at hl 0 rfl) ?_
              refine lv_if_eq (pc := 64) (tgt := 71) hx hb dX4_untilBlocked_64 (by decide) (fun c_7 => ?_) (fun c_7 => ?_)
              · skip
                exact absurd c_7 (by decide)
              · skip
                refine lv_iload_n (pc := 67) hx hb dX4_untilBlocked_67 rfl (lv_at hl 1 rfl) ?_
                refine lv_goto (pc := 68) (tgt := 72) hx hb dX4_untilBlocked_68 (by decide) ?_
                refine lv_istore_n (pc := 72) (lv' := [(1, .int ((a 0) - ((a 3) - (a (8 + 13 * i + 1))))), (4, .int 1), (3, .int ((a 0) - ((a 3) - (a (8 + 13 * i + 1))))), (2, .int (nI i)), (0, .ref (md 0))]) hx hb dX4_untilBlocked_72 rfl hl (by decide) rfl (fun ls hl => ?_)
                refine lv_iinc (pc := 73) (v := nI (i + 1)) (lv' := [(2, .int (nI (i + 1))), (1, .int ((a 0) - ((a 3) - (a (8 + 13 * i + 1))))), (4, .int 1), (3, .int ((a 0) - ((a 3) - (a (8 + 13 * i + 1))))), (0, .ref (md 0))]) hx hb dX4_untilBlocked_73 hl (k := 3) rfl (nI_add i 1) (by decide) rfl (fun ls hl => ?_)
                refine lv_goto (pc := 76) (tgt := 5) hx hb dX4_untilBlocked_76 (by decide) ?_
                exact ih_5 (i + 1) ((a 0) - ((a 3) - (a (8 + 13 * i + 1)))) (by omega) (by simp only [m_ub, hm, if_pos c_2, if_neg c_4, if_pos (hm ▸ c_6)]) (by omega) ls (lv_sub hl [0, 1, 4] rfl)
            · skip
              have c_6 : ¬ (mk = (-6)) := c_6
              refine lv_iload_n (pc := 50) hx hb dX4_untilBlocked_50 rfl (lv_at hl 0 rfl) ?_
              refine lv_iload_n (pc := 51) hx hb dX4_untilBlocked_51 rfl (lv_at hl 2 rfl) ?_
              refine lv_icmp_ge (pc := 52) (tgt := 59) hx hb dX4_untilBlocked_52 (by decide) (fun c_8 => ?_) (fun c_8 => ?_)
              · skip
                have c_8 : mk ≤ ((a 0) - ((a 3) - (a (8 + 13 * i + 1)))) := c_8
                refine lv_iconst (pc := 59) (v := 0) hx hb dX4_untilBlocked_59 (by decide) ?_
                refine lv_istore (pc := 60) (lv' := [(4, .int 0), (3, .int ((a 0) - ((a 3) - (a (8 + 13 * i + 1))))), (2, .int (nI i)), (1, .int mk), (0, .ref (md 0))]) hx hb dX4_untilBlocked_60 hl (by decide) rfl (fun ls hl => ?_)
                refine lv_iload (pc := 62) hx hb dX4_untilBlocked_62 (lv_at hl 0 rfl) ?_
                refine lv_if_eq (pc := 64) (tgt := 71) hx hb dX4_untilBlocked_64 (by decide) (fun c_9 => ?_) (fun c_9 => ?_)
                · skip
                  refine lv_iload_n (pc := 71) hx hb dX4_untilBlocked_71 rfl (lv_at hl 3 rfl) ?_
                  refine lv_istore_n (pc := 72) (lv' := [(1, .int mk), (4, .int 0), (3, .int ((a 0) - ((a 3) - (a (8 + 13 * i + 1))))), (2, .int (nI i)), (0, .ref (md 0))]) hx hb dX4_untilBlocked_72 rfl hl (by decide) rfl (fun ls hl => ?_)
                  refine lv_iinc (pc := 73) (v := nI (i + 1)) (lv' := [(2, .int (nI (i + 1))), (1, .int mk), (4, .int 0), (3, .int ((a 0) - ((a 3) - (a (8 + 13 * i + 1))))), (0, .ref (md 0))]) hx hb dX4_untilBlocked_73 hl (k := 3) rfl (nI_add i 1) (by decide) rfl (fun ls hl => ?_)
                  refine lv_goto (pc := 76) (tgt := 5) hx hb dX4_untilBlocked_76 (by decide) ?_
                  exact ih_5 (i + 1) mk (by omega) (by simp only [m_ub, hm, if_pos c_2, if_neg c_4, if_neg (hm ▸ c_6), if_pos (hm ▸ c_8)]) (by omega) ls (lv_sub hl [0, 1, 4] rfl)
                · skip
                  exact absurd c_9 (by decide)
              · skip
                have c_8 : ¬ (mk ≤ ((a 0) - ((a 3) - (a (8 + 13 * i + 1))))) := c_8
                refine lv_iconst (pc := 55) (v := 1) hx hb dX4_untilBlocked_55 (by decide) ?_
                refine lv_goto (pc := 56) (tgt := 60) hx hb dX4_untilBlocked_56 (by decide) ?_
                refine lv_istore (pc := 60) (lv' := [(4, .int 1), (3, .int ((a 0) - ((a 3) - (a (8 + 13 * i + 1))))), (2, .int (nI i)), (1, .int mk), (0, .ref (md 0))]) hx hb dX4_untilBlocked_60 hl (by decide) rfl (fun ls hl => ?_)
                refine lv_iload (pc := 62) hx hb dX4_untilBlocked_62 (lv_at hl 0 rfl) ?_
                refine lv_if_eq (pc := 64) (tgt := 71) hx hb dX4_untilBlocked_64 (by decide) (fun c_10 => ?_) (fun c_10 => ?_)
                · skip
                  exact absurd c_10 (by decide)
                · skip
                  refine lv_iload_n (pc := 67) hx hb dX4_untilBlocked_67 rfl (lv_at hl 1 rfl) ?_
                  refine lv_goto (pc := 68) (tgt := 72) hx hb dX4_untilBlocked_68 (by decide) ?_
                  refine lv_istore_n (pc := 72) (lv' := [(1, .int ((a 0) - ((a 3) - (a (8 + 13 * i + 1))))), (4, .int 1), (3, .int ((a 0) - ((a 3) - (a (8 + 13 * i + 1))))), (2, .int (nI i)), (0, .ref (md 0))]) hx hb dX4_untilBlocked_72 rfl hl (by decide) rfl (fun ls hl => ?_)
                  refine lv_iinc (pc := 73) (v := nI (i + 1)) (lv' := [(2, .int (nI (i + 1))), (1, .int ((a 0) - ((a 3) - (a (8 + 13 * i + 1))))), (4, .int 1), (3, .int ((a 0) - ((a 3) - (a (8 + 13 * i + 1))))), (0, .ref (md 0))]) hx hb dX4_untilBlocked_73 hl (k := 3) rfl (nI_add i 1) (by decide) rfl (fun ls hl => ?_)
                  refine lv_goto (pc := 76) (tgt := 5) hx hb dX4_untilBlocked_76 (by decide) ?_
                  exact ih_5 (i + 1) ((a 0) - ((a 3) - (a (8 + 13 * i + 1)))) (by omega) (by simp only [m_ub, hm, if_pos c_2, if_neg c_4, if_neg (hm ▸ c_6), if_neg (hm ▸ c_8)]) (by omega) ls (lv_sub hl [0, 1, 4] rfl)
  exact loop_5 7 0 (-6) (Nat.zero_le _) rfl (by omega) ls (lv_sub hl [0, 1, 2] rfl)
