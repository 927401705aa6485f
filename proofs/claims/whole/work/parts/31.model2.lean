/-! the reference's public methods, its text -/
abbrev m_has (tx : Nat → Int32) (tl sp : Nat) (lo hi : Int32) : Prop := sp < tl ∧ m_in (tx sp).toInt64 lo.toInt64 hi.toInt64
def m_bm (tx : Nat → Int32) (tl sp : Nat) : Int32 := if m_has tx tl sp 111 111 then 0 else if m_has tx tl sp 105 105 then 1 else if m_has tx tl sp 98 98 then 2 else -6
def m_bs (tx : Nat → Int32) (tl sp : Nat) : Nat := if m_has tx tl sp 111 111 then sp + 1 else if m_has tx tl sp 105 105 then sp + 1 else if m_has tx tl sp 98 98 then sp + 1 else sp
def m_run (tx : Nat → Int32) (tl : Nat) : Nat → Nat → Nat
  | 0, sp => sp
  | k + 1, sp => if m_has tx tl sp 111 111 then m_run tx tl k (sp + 1) else if m_has tx tl sp 105 105 then m_run tx tl k (sp + 1) else if m_has tx tl sp 98 98 then m_run tx tl k (sp + 1) else sp
theorem m_run_s {tx : Nat → Int32} {tl sp : Nat} (h : sp ≤ tl) : m_run tx tl (tl - sp) sp = if m_has tx tl sp 111 111 then m_run tx tl (tl - (sp + 1)) (sp + 1) else if m_has tx tl sp 105 105 then m_run tx tl (tl - (sp + 1)) (sp + 1) else if m_has tx tl sp 98 98 then m_run tx tl (tl - (sp + 1)) (sp + 1) else sp := by
  rcases Nat.lt_or_ge sp tl with c | c
  · obtain ⟨k, hk⟩ : ∃ k, tl - sp = k + 1 := ⟨tl - sp - 1, by omega⟩
    rw [hk, show tl - (sp + 1) = k by omega]
    rfl
  · have e : sp = tl := by omega
    subst e
    have no : ∀ x y : Int32, ¬ m_has tx sp sp x y := fun x y q => absurd q.1 (Nat.lt_irrefl _)
    rw [Nat.sub_self, if_neg (no _ _), if_neg (no _ _), if_neg (no _ _)]
    rfl
def m_re (tx : Nat → Int32) (tl sp : Nat) (nu : Int32) : Bool × Nat × Int32 :=
  if m_has tx tl sp 46 46 then
    (if m_has tx tl (sp + 1) 49 57 then
      (if m_has tx tl (sp + 1 + 1) 48 57 then (true, sp + 1 + 1 + 1, 10 * (tx (sp + 1) - 48) + tx (sp + 1 + 1) - 48) else (true, sp + 1 + 1, tx (sp + 1) - 48))
     else (false, sp + 1, nu))
  else if m_has tx tl sp 48 53 then
    (if m_bm tx tl (sp + 1) = (-6) then (false, m_bs tx tl (sp + 1), nu) else (true, m_run tx tl (tl - m_bs tx tl (sp + 1)) (m_bs tx tl (sp + 1)), nu))
  else (false, sp, nu)
theorem m_bs_le {tx : Nat → Int32} {tl sp : Nat} (h : sp ≤ tl) : sp ≤ m_bs tx tl sp ∧ m_bs tx tl sp ≤ tl := by
  unfold m_bs
  split
  · rename_i q; have := q.1; omega
  · split
    · rename_i q; have := q.1; omega
    · split
      · rename_i q; have := q.1; omega
      · omega
theorem m_run_le {tx : Nat → Int32} {tl : Nat} : ∀ (k sp : Nat), sp ≤ tl → sp ≤ m_run tx tl k sp ∧ m_run tx tl k sp ≤ tl
  | 0, sp, h => ⟨Nat.le_refl _, h⟩
  | k + 1, sp, h => by
    unfold m_run
    split
    · rename_i q; have h1 := q.1; have := m_run_le (tx := tx) (tl := tl) k (sp + 1) (by omega); omega
    · split
      · rename_i q; have h1 := q.1; have := m_run_le (tx := tx) (tl := tl) k (sp + 1) (by omega); omega
      · split
        · rename_i q; have h1 := q.1; have := m_run_le (tx := tx) (tl := tl) k (sp + 1) (by omega); omega
        · exact ⟨Nat.le_refl _, h⟩
theorem m_re_le {tx : Nat → Int32} {tl sp : Nat} {nu : Int32} (h : sp ≤ tl) : sp ≤ (m_re tx tl sp nu).2.1 ∧ (m_re tx tl sp nu).2.1 ≤ tl := by
  unfold m_re
  split
  · rename_i q
    have h1 := q.1
    split
    · rename_i q2
      have h2 := q2.1
      split
      · rename_i q3
        have h3 := q3.1
        exact ⟨by show sp ≤ sp + 1 + 1 + 1; omega, by show sp + 1 + 1 + 1 ≤ tl; omega⟩
      · exact ⟨by show sp ≤ sp + 1 + 1; omega, by show sp + 1 + 1 ≤ tl; omega⟩
    · exact ⟨by show sp ≤ sp + 1; omega, by show sp + 1 ≤ tl; omega⟩
  · split
    · rename_i q
      have h1 := q.1
      have h2 := m_bs_le (tx := tx) (tl := tl) (sp := sp + 1) (by omega)
      split
      · exact ⟨by show sp ≤ m_bs tx tl (sp + 1); omega, by show m_bs tx tl (sp + 1) ≤ tl; omega⟩
      · have h3 := m_run_le (tx := tx) (tl := tl) (tl - m_bs tx tl (sp + 1)) (m_bs tx tl (sp + 1)) h2.2
        exact ⟨by show sp ≤ m_run tx tl _ _; omega, by show m_run tx tl _ _ ≤ tl; omega⟩
    · exact ⟨Nat.le_refl _, h⟩
def m_ftl (tx : Nat → Int32) (tl : Nat) : Nat → Nat → Int32 → Int32 × Nat × Int32
  | 0, sp, nu => (nI sp, sp, nu)
  | k + 1, sp, nu => if (m_re tx tl sp nu).1 = true then (if m_has tx tl (m_re tx tl sp nu).2.1 59 59 then m_ftl tx tl k ((m_re tx tl sp nu).2.1 + 1) (m_re tx tl sp nu).2.2 else (if (m_re tx tl sp nu).2.1 = tl then (-6) else nI (m_re tx tl sp nu).2.1, (m_re tx tl sp nu).2.1, (m_re tx tl sp nu).2.2)) else (nI (m_re tx tl sp nu).2.1, (m_re tx tl sp nu).2.1, (m_re tx tl sp nu).2.2)
def m_ch : Nat → Int64 → Nat → Int32
  | 0, l, n => if l = 0 then nI n else 0
  | k + 1, l, n => if m_in (l &&& 255) 33 126 then m_ch k (l.toUInt64 >>> ((8 : Int32).toInt64.toUInt64 &&& Int64.toUInt64 63)).toInt64 (n + 1) else if l = 0 then nI n else 0
theorem m_ch_s {l : Int64} {n : Nat} (h : n < 8) : m_ch (8 - n) l n = if m_in (l &&& 255) 33 126 then m_ch (8 - (n + 1)) (l.toUInt64 >>> ((8 : Int32).toInt64.toUInt64 &&& Int64.toUInt64 63)).toInt64 (n + 1) else if l = 0 then nI n else 0 := by
  obtain ⟨k, hk⟩ : ∃ k, 8 - n = k + 1 := ⟨8 - n - 1, by omega⟩
  rw [hk, show 8 - (n + 1) = k by omega]
  rfl
def m_pa (x : Int64) (k tl : Nat) (tx : Nat → Int32) : Nat → (Nat → Int32)
  | 0 => tx
  | i + 1 => upd (m_pa x k tl tx i) (tl + i) (p_code x (k - 1 - i))
def m_gate (a : Nat → Int32) (g w : Nat) : Int32 :=
  if w = 0 then a (8 + 13 * g + 0) else if w = 1 then a (8 + 13 * g + 1) else
  if w = 2 then m_pl a g else
  if w = 3 then (if ¬ a (8 + 13 * g + 1) = (-6) then a (8 + 13 * g + 3) else -6) else
  if w = 4 then b_i (m_blk a g) else a (8 + 13 * g + (4 + w - 5))
def m_mean (a : Nat → Int32) (g : Nat) : Int32 := if m_thr a g = 0 then -6 else a (8 + 13 * g + 10) / m_thr a g
def m_bus (a : Nat → Int32) : Nat → Int32 × Int32
  | 0 => (-6, 0)
  | k + 1 => if m_thr a k ≤ (m_bus a k).2 then m_bus a k else (nI k, m_thr a k)
abbrev m_left (a : Nat → Int32) (g : Nat) : Int32 := a 0 - (a 3 - a (8 + 13 * g + 1))
def m_ub (a : Nat → Int32) : Nat → Int32
  | 0 => -6
  | k + 1 => if ¬ a (8 + 13 * k + 1) = (-6) then (if m_left a k ≤ 0 then m_ub a k else if m_ub a k = (-6) then m_left a k else if m_ub a k ≤ m_left a k then m_ub a k else m_left a k) else m_ub a k
def m_evto (a : Nat → Int32) (g w : Nat) : Int32 :=
  if w = 2 then (if 0 ≤ a (8 + 13 * g + 2) then a (8 + 13 * g + 2) else -a (8 + 13 * g + 2)) else
  if w = 0 then (if 4 ≤ 4 - a (8 + 13 * g + 2) then -6 else 4 - a (8 + 13 * g + 2)) else
  (if 4 ≤ 4 + a (8 + 13 * g + 2) then -6 else 4 + a (8 + 13 * g + 2))
theorem m_lt1 {x : Int32} (h : x < 1 ∨ ¬ x ≤ 999) : ¬ m_in x.toInt64 1 999 := m_outE (lo := 1) (hi := 999) (by decide) (by decide) h
theorem m_rt_em (tx : Nat → Int32) (tl sp : Nat) : (¬ m_has tx tl sp 49 57) ∨ (m_has tx tl sp 49 57 ∧ ¬ m_has tx tl (sp + 1) 48 57) ∨ (m_has tx tl sp 49 57 ∧ m_has tx tl (sp + 1) 48 57) := by
  rcases Classical.em (m_has tx tl sp 49 57) with h | h
  · rcases Classical.em (m_has tx tl (sp + 1) 48 57) with q | q
    · exact Or.inr (Or.inr ⟨h, q⟩)
    · exact Or.inr (Or.inl ⟨h, q⟩)
  · exact Or.inl h

theorem hw_X4_isHere_0 : (.fieldLink RX4 147 "BeamTurnstilesModel" "spot" "I" : Cond) ∈ wsX4_isHere := by decide +kernel
theorem hi_X4_isHere_X4 : ∀ w ∈ wsX40, w ∈ wsX4_isHere := by decide +kernel
theorem hw_X4_isHere_2 : (.fieldLink RX4 119 "BeamTurnstilesModel" "textLong" "I" : Cond) ∈ wsX4_isHere := by decide +kernel
theorem hw_X4_isHere_3 : (.fieldLink RX4 25 "BeamTurnstilesModel" "text" "[I" : Cond) ∈ wsX4_isHere := by decide +kernel
set_option maxHeartbeats 4000000 in
set_option maxRecDepth 100000 in
theorem c_X4_isHere (l : Launch) (D : va_G) (cI cC cZ cG : ClassId) (md : Nat → Nat) (a : Nat → Int32) (kp : Nat → Int32) (hs : Nat → Int32) (hn : Nat) (sl : Nat → Int32) (iv : Nat → Int32) (tx : Nat → Int32) (tl : Nat) (sp : Nat) (nu : Int32) (x : Int32) (y : Int32) (htl : tl ≤ 60) (hsp : sp ≤ tl) : Met l yX4_isHere wsX4_isHere ({ frames := 1, cells := 0, slots := 0, locals := 25 } : Room) (b_R D (b_T cI cC cZ cG) [((md 0), .inr (4, [.ref (md 1), .ref (md 2), .ref (md 3), .int (nI hn), .ref (md 4), .ref (md 5), .ref (md 6), .int (nI tl), .int (nI sp), .int nu])), ((md 1), .inl (cI, 86, .inl a)), ((md 2), .inl (cI, 86, .inl kp)), ((md 3), .inl (cI, 516, .inl hs)), ((md 4), .inl (cI, 172, .inl sl)), ((md 5), .inl (cI, 2, .inl iv)), ((md 6), .inl (cI, 60, .inl tx))] [.ref (md 0), .int x, .int y]) (vp_Si (fun r => r = b_i (m_has tx tl sp x y))) 0 0 (fun _ => False) := by
  refine b_enterR (cc := cX4_isHere) (maxL := 3) (ret := (some .boolean)) (by decide) rfl (Nat.le_of_ble_eq_true rfl) ?_
  intro p e s m below meth c ls hx hb hr hml hown hts hlocks hP hK hl Q hQ
  have hown : s.vm.findClass RX4 = some m.cls := hown
  have hl : lv_has ls 3 [(0, .ref (md 0)), (1, .int x), (2, .int y)] := hl
  refine lv_aload_n (pc := 0) hx hb dX4_isHere_0 rfl (lv_at hl 0 rfl) ?_
  refine va_get (pc := 1) (D := D) (ci := 4) (v := .int (nI sp)) (C := RX4) (T := TX4) (N := 10) hx hb hts hi_X4_isHere_X4 hown hK hP 0 rfl rfl 8 (by decide) (hts _ hw_X4_isHere_0) (fun _ h9 => h9) rfl dX4_isHere_1 ?_
  refine lv_aload_n (pc := 4) hx hb dX4_isHere_4 rfl (lv_at hl 0 rfl) ?_
  refine va_get (pc := 5) (D := D) (ci := 4) (v := .int (nI tl)) (C := RX4) (T := TX4) (N := 10) hx hb hts hi_X4_isHere_X4 hown hK hP 0 rfl rfl 7 (by decide) (hts _ hw_X4_isHere_2) (fun _ h9 => h9) rfl dX4_isHere_5 ?_
  refine lv_icmp_ge (pc := 8) (tgt := 35) hx hb dX4_isHere_8 (by decide) (fun c_1 => ?_) (fun c_1 => ?_)
  · skip
    have c_1 : tl ≤ sp := (nI_leI (a := tl) (b := sp) (by omega) (by omega)).mp c_1
    refine lv_iconst (pc := 35) (v := 0) hx hb dX4_isHere_35 (by decide) ?_
    subst hQ
    exact b_retRZ hx hb hr hlocks rfl ((b_i_f (fun h9 => absurd h9.1 (by omega))).symm) dX4_isHere_36
  · skip
    have c_1 : ¬ (tl ≤ sp) := fun h9 => c_1 ((nI_leI (a := tl) (b := sp) (by omega) (by omega)).mpr h9)
    refine lv_aload_n (pc := 11) hx hb dX4_isHere_11 rfl (lv_at hl 0 rfl) ?_
    refine va_get (pc := 12) (D := D) (ci := 4) (v := .ref (md 6)) (C := RX4) (T := TX4) (N := 10) hx hb hts hi_X4_isHere_X4 hown hK hP 0 rfl rfl 6 (by decide) (hts _ hw_X4_isHere_3) (fun _ h9 => h9) rfl dX4_isHere_12 ?_
    refine lv_aload_n (pc := 15) hx hb dX4_isHere_15 rfl (lv_at hl 0 rfl) ?_
    refine va_get (pc := 16) (D := D) (ci := 4) (v := .int (nI sp)) (C := RX4) (T := TX4) (N := 10) hx hb hts hi_X4_isHere_X4 hown hK hP 0 rfl rfl 8 (by decide) (hts _ hw_X4_isHere_0) (fun _ h9 => h9) rfl dX4_isHere_16 ?_
    refine b_iald (pc := 19) hx hb hK hP 6 0 rfl rfl sp rfl (by omega) (by decide) dX4_isHere_19 ?_
    refine lv_i2l (pc := 20) hx hb dX4_isHere_20 rfl ?_
    refine lv_iload_n (pc := 21) hx hb dX4_isHere_21 rfl (lv_at hl 1 rfl) ?_
    refine lv_i2l (pc := 22) hx hb dX4_isHere_22 rfl ?_
    refine lv_iload_n (pc := 23) hx hb dX4_isHere_23 rfl (lv_at hl 2 rfl) ?_
    refine lv_i2l (pc := 24) hx hb dX4_isHere_24 rfl ?_
    refine b_cR (pc := 25) (va_runS (As := [.long ((tx sp).toInt64), .long x.toInt64, .long y.toInt64]) (rest := []) ⟨hx, hb, hml, hown, hts⟩ (c_X4_in l D cI cC cZ cG ((tx sp).toInt64) x.toInt64 y.toInt64) (va_cwS 3 hts gX4_isHere_X4_in rfl rfl rfl hyS_X4_in ⟨Nat.le_of_ble_eq_true rfl, Nat.le_of_ble_eq_true rfl⟩) (b_pRS (wc := []) hK hP [] rfl) rfl rfl hl.1 rfl (lv_room (Nat.le_of_ble_eq_true rfl)) dX4_isHere_25 ⟨Nat.zero_le _, Nat.zero_le _⟩) ?_
    refine lv_if_eq (pc := 28) (tgt := 35) hx hb dX4_isHere_28 (by decide) (fun c_2 => ?_) (fun c_2 => ?_)
    · skip
      have c_2 : ¬ (m_in ((tx sp).toInt64) x.toInt64 y.toInt64) := b_i_0.mp c_2
      refine lv_iconst (pc := 35) (v := 0) hx hb dX4_isHere_35 (by decide) ?_
      subst hQ
      exact b_retRZ hx hb hr hlocks rfl ((b_i_f (fun h9 => c_2 h9.2)).symm) dX4_isHere_36
    · skip
      have c_2 : m_in ((tx sp).toInt64) x.toInt64 y.toInt64 := Classical.not_not.mp (fun h9 => c_2 (b_i_0.mpr h9))
      refine lv_iconst (pc := 31) (v := 1) hx hb dX4_isHere_31 (by decide) ?_
      refine lv_goto (pc := 32) (tgt := 36) hx hb dX4_isHere_32 (by decide) ?_
      subst hQ
      exact b_retRZ hx hb hr hlocks rfl ((b_i_t ⟨by omega, c_2⟩).symm) dX4_isHere_36
theorem hw_X4_takesOne_y_0 : (.fieldLink RX4 147 "BeamTurnstilesModel" "spot" "I" : Cond) ∈ wsX4_takesOne := by decide +kernel
theorem hi_X4_takesOne_y_X4 : ∀ w ∈ wsX40, w ∈ wsX4_takesOne := by decide +kernel
set_option maxHeartbeats 4000000 in
set_option maxRecDepth 100000 in
theorem c_X4_takesOne_y (l : Launch) (D : va_G) (cI cC cZ cG : ClassId) (sz : Nat) (md : Nat → Nat) (a : Nat → Int32) (kp : Nat → Int32) (hs : Nat → Int32) (hn : Nat) (sl : Nat → Int32) (iv : Nat → Int32) (tx : Nat → Int32) (tl : Nat) (sp : Nat) (nu : Int32) (x : Int32) (htl : tl ≤ 60) (hsp : sp ≤ tl) (hq : m_has tx tl sp x x) : Met l yX4_takesOne wsX4_takesOne ({ frames := 2, cells := 0, slots := 0, locals := 47 } : Room) (b_W D (b_T cI cC cZ cG) b_X0 [((md 0), .inr (4, [.ref (md 1), .ref (md 2), .ref (md 3), .int (nI hn), .ref (md 4), .ref (md 5), .ref (md 6), .int (nI tl), .int (nI sp), .int nu])), ((md 1), .inl (cI, 86, .inl a)), ((md 2), .inl (cI, 86, .inl kp)), ((md 3), .inl (cI, 516, .inl hs)), ((md 4), .inl (cI, 172, .inl sl)), ((md 5), .inl (cI, 2, .inl iv)), ((md 6), .inl (cI, 60, .inl tx))] sz [.ref (md 0), .int x]) (b_Qi D 1 [((md 0), .inr (4, [.ref (md 1), .ref (md 2), .ref (md 3), .int (nI hn), .ref (md 4), .ref (md 5), .ref (md 6), .int (nI tl), .int (nI (sp + 1)), .int nu])), ((md 1), .inl (cI, 86, .inl a)), ((md 2), .inl (cI, 86, .inl kp)), ((md 3), .inl (cI, 516, .inl hs)), ((md 4), .inl (cI, 172, .inl sl)), ((md 5), .inl (cI, 2, .inl iv)), ((md 6), .inl (cI, 60, .inl tx))] (va_A [((md 0), .inr (4, [.ref (md 1), .ref (md 2), .ref (md 3), .int (nI hn), .ref (md 4), .ref (md 5), .ref (md 6), .int (nI tl), .int (nI sp), .int nu])), ((md 1), .inl (cI, 86, .inl a)), ((md 2), .inl (cI, 86, .inl kp)), ((md 3), .inl (cI, 516, .inl hs)), ((md 4), .inl (cI, 172, .inl sl)), ((md 5), .inl (cI, 2, .inl iv)), ((md 6), .inl (cI, 60, .inl tx))] sz)) 0 0 (va_A [((md 0), .inr (4, [.ref (md 1), .ref (md 2), .ref (md 3), .int (nI hn), .ref (md 4), .ref (md 5), .ref (md 6), .int (nI tl), .int (nI sp), .int nu])), ((md 1), .inl (cI, 86, .inl a)), ((md 2), .inl (cI, 86, .inl kp)), ((md 3), .inl (cI, 516, .inl hs)), ((md 4), .inl (cI, 172, .inl sl)), ((md 5), .inl (cI, 2, .inl iv)), ((md 6), .inl (cI, 60, .inl tx))] sz) := by
  refine b_enterW (Qc := fun A => b_Qi D 1 [((md 0), .inr (4, [.ref (md 1), .ref (md 2), .ref (md 3), .int (nI hn), .ref (md 4), .ref (md 5), .ref (md 6), .int (nI tl), .int (nI (sp + 1)), .int nu])), ((md 1), .inl (cI, 86, .inl a)), ((md 2), .inl (cI, 86, .inl kp)), ((md 3), .inl (cI, 516, .inl hs)), ((md 4), .inl (cI, 172, .inl sl)), ((md 5), .inl (cI, 2, .inl iv)), ((md 6), .inl (cI, 60, .inl tx))] A) (cc := cX4_takesOne) (maxL := 3) (ret := (some .boolean)) (by decide) rfl (Nat.le_of_ble_eq_true rfl) ?_
  intro p e s m below meth c ls A hx hb hr hml hown hts hlocks hname hP hK hD hA hS hX hl Q hQ
  have hown : s.vm.findClass RX4 = some m.cls := hown
  have hl : lv_has ls 3 [(0, .ref (md 0)), (1, .int x)] := hl
  refine lv_aload_n (pc := 0) hx hb dX4_takesOne_0 rfl (lv_at hl 0 rfl) ?_
  refine lv_iload_n (pc := 1) hx hb dX4_takesOne_1 rfl (lv_at hl 1 rfl) ?_
  refine lv_iload_n (pc := 2) hx hb dX4_takesOne_2 rfl (lv_at hl 1 rfl) ?_
  refine b_cR (pc := 3) (va_runV (As := [.int x, .int x]) (rest := []) ⟨hx, hb, hml, hown, hts⟩ (c_X4_isHere l D cI cC cZ cG md a kp hs hn sl iv tx tl sp nu x x (by first | omega | assumption) (by first | omega | assumption)) (cwV 2 hts gX4_takesOne_X4_isHere rfl rfl rfl hy_X4_isHere ⟨Nat.le_of_ble_eq_true rfl, Nat.le_of_ble_eq_true rfl⟩) (b_pRV (wc := [((md 0), .inr (4, [.ref (md 1), .ref (md 2), .ref (md 3), .int (nI hn), .ref (md 4), .ref (md 5), .ref (md 6), .int (nI tl), .int (nI sp), .int nu])), ((md 1), .inl (cI, 86, .inl a)), ((md 2), .inl (cI, 86, .inl kp)), ((md 3), .inl (cI, 516, .inl hs)), ((md 4), .inl (cI, 172, .inl sl)), ((md 5), .inl (cI, 2, .inl iv)), ((md 6), .inl (cI, 60, .inl tx))]) hK hP [0, 1, 2, 3, 4, 5, 6] rfl (ci := 4) (q0 := 0) rfl rfl) rfl rfl hl.1 rfl (lv_room (Nat.le_of_ble_eq_true rfl)) dX4_takesOne_3 ⟨Nat.zero_le _, Nat.zero_le _⟩) ?_
  refine lv_istore_n (pc := 6) (lv' := [(2, .int (b_i (m_has tx tl sp x x))), (0, .ref (md 0)), (1, .int x)]) hx hb dX4_takesOne_6 rfl hl (by decide) rfl (fun ls hl => ?_)
  refine lv_aload_n (pc := 7) hx hb dX4_takesOne_7 rfl (lv_at hl 1 rfl) ?_
  refine lv_dup (pc := 8) hx hb dX4_takesOne_8 rfl ?_
  refine va_get (pc := 9) (D := D) (ci := 4) (v := .int (nI sp)) (C := RX4) (T := TX4) (N := 10) hx hb hts hi_X4_takesOne_y_X4 hown hK hP 0 rfl rfl 8 (by decide) (hts _ hw_X4_takesOne_y_0) (fun _ h9 => h9) rfl dX4_takesOne_9 ?_
  refine lv_iload_n (pc := 12) hx hb dX4_takesOne_12 rfl (lv_at hl 0 rfl) ?_
  refine lv_if_eq (pc := 13) (tgt := 20) hx hb dX4_takesOne_13 (by decide) (fun c_1 => ?_) (fun c_1 => ?_)
  · skip
    have c_1 : ¬ (m_has tx tl sp x x) := b_i_0.mp c_1
    exact absurd hq c_1
  · skip
    have c_1 : m_has tx tl sp x x := Classical.not_not.mp (fun h9 => c_1 (b_i_0.mpr h9))
    refine lv_iconst (pc := 16) (v := 1) hx hb dX4_takesOne_16 (by decide) ?_
    refine lv_goto (pc := 17) (tgt := 21) hx hb dX4_takesOne_17 (by decide) ?_
    refine lv_iadd (pc := 21) hx hb dX4_takesOne_21 ?_
    refine b_re (nI_add sp 1) ?_
    refine va_put (pc := 22) (D := D) (ci := 4) (v := .int (nI (sp + 1))) (ty := .int) (C := RX4) (T := TX4) (N := 10) hx hb hts hi_X4_takesOne_y_X4 tyX4 tyX4_ok nmX4 hown hK hP hD hS 0 rfl rfl 8 (by decide) (hts _ hw_X4_takesOne_y_0) (fun _ h9 => h9) rfl (by decide +kernel) rfl rfl (Nat.le_of_ble_eq_true rfl) dX4_takesOne_22 (fun H locs hP hD hS => ?_)
    have hP : va_P D vwCl [((md 0), .inr (4, [.ref (md 1), .ref (md 2), .ref (md 3), .int (nI hn), .ref (md 4), .ref (md 5), .ref (md 6), .int (nI tl), .int (nI (sp + 1)), .int nu])), ((md 1), .inl (cI, 86, .inl a)), ((md 2), .inl (cI, 86, .inl kp)), ((md 3), .inl (cI, 516, .inl hs)), ((md 4), .inl (cI, 172, .inl sl)), ((md 5), .inl (cI, 2, .inl iv)), ((md 6), .inl (cI, 60, .inl tx))] H := hP
    have hD : va_D A [((md 0), .inr (4, [.ref (md 1), .ref (md 2), .ref (md 3), .int (nI hn), .ref (md 4), .ref (md 5), .ref (md 6), .int (nI tl), .int (nI (sp + 1)), .int nu])), ((md 1), .inl (cI, 86, .inl a)), ((md 2), .inl (cI, 86, .inl kp)), ((md 3), .inl (cI, 516, .inl hs)), ((md 4), .inl (cI, 172, .inl sl)), ((md 5), .inl (cI, 2, .inl iv)), ((md 6), .inl (cI, 60, .inl tx))] := hD
    refine lv_iload_n (pc := 25) hx hb dX4_takesOne_25 rfl (lv_at hl 0 rfl) ?_
    subst hQ
    exact b_retWZ hx hb hr hlocks b_i_nar hS (b_i_t hq) (hP) dX4_takesOne_26
theorem hw_X4_takesOne_n_0 : (.fieldLink RX4 147 "BeamTurnstilesModel" "spot" "I" : Cond) ∈ wsX4_takesOne := by decide +kernel
theorem hi_X4_takesOne_n_X4 : ∀ w ∈ wsX40, w ∈ wsX4_takesOne := by decide +kernel
set_option maxHeartbeats 4000000 in
set_option maxRecDepth 100000 in
theorem c_X4_takesOne_n (l : Launch) (D : va_G) (cI cC cZ cG : ClassId) (sz : Nat) (md : Nat → Nat) (a : Nat → Int32) (kp : Nat → Int32) (hs : Nat → Int32) (hn : Nat) (sl : Nat → Int32) (iv : Nat → Int32) (tx : Nat → Int32) (tl : Nat) (sp : Nat) (nu : Int32) (x : Int32) (htl : tl ≤ 60) (hsp : sp ≤ tl) (hq : ¬ m_has tx tl sp x x) : Met l yX4_takesOne wsX4_takesOne ({ frames := 2, cells := 0, slots := 0, locals := 47 } : Room) (b_W D (b_T cI cC cZ cG) b_X0 [((md 0), .inr (4, [.ref (md 1), .ref (md 2), .ref (md 3), .int (nI hn), .ref (md 4), .ref (md 5), .ref (md 6), .int (nI tl), .int (nI sp), .int nu])), ((md 1), .inl (cI, 86, .inl a)), ((md 2), .inl (cI, 86, .inl kp)), ((md 3), .inl (cI, 516, .inl hs)), ((md 4), .inl (cI, 172, .inl sl)), ((md 5), .inl (cI, 2, .inl iv)), ((md 6), .inl (cI, 60, .inl tx))] sz [.ref (md 0), .int x]) (b_Qi D 0 [((md 0), .inr (4, [.ref (md 1), .ref (md 2), .ref (md 3), .int (nI hn), .ref (md 4), .ref (md 5), .ref (md 6), .int (nI tl), .int (nI sp), .int nu])), ((md 1), .inl (cI, 86, .inl a)), ((md 2), .inl (cI, 86, .inl kp)), ((md 3), .inl (cI, 516, .inl hs)), ((md 4), .inl (cI, 172, .inl sl)), ((md 5), .inl (cI, 2, .inl iv)), ((md 6), .inl (cI, 60, .inl tx))] (va_A [((md 0), .inr (4, [.ref (md 1), .ref (md 2), .ref (md 3), .int (nI hn), .ref (md 4), .ref (md 5), .ref (md 6), .int (nI tl), .int (nI sp), .int nu])), ((md 1), .inl (cI, 86, .inl a)), ((md 2), .inl (cI, 86, .inl kp)), ((md 3), .inl (cI, 516, .inl hs)), ((md 4), .inl (cI, 172, .inl sl)), ((md 5), .inl (cI, 2, .inl iv)), ((md 6), .inl (cI, 60, .inl tx))] sz)) 0 0 (va_A [((md 0), .inr (4, [.ref (md 1), .ref (md 2), .ref (md 3), .int (nI hn), .ref (md 4), .ref (md 5), .ref (md 6), .int (nI tl), .int (nI sp), .int nu])), ((md 1), .inl (cI, 86, .inl a)), ((md 2), .inl (cI, 86, .inl kp)), ((md 3), .inl (cI, 516, .inl hs)), ((md 4), .inl (cI, 172, .inl sl)), ((md 5), .inl (cI, 2, .inl iv)), ((md 6), .inl (cI, 60, .inl tx))] sz) := by
  refine b_enterW (Qc := fun A => b_Qi D 0 [((md 0), .inr (4, [.ref (md 1), .ref (md 2), .ref (md 3), .int (nI hn), .ref (md 4), .ref (md 5), .ref (md 6), .int (nI tl), .int (nI sp), .int nu])), ((md 1), .inl (cI, 86, .inl a)), ((md 2), .inl (cI, 86, .inl kp)), ((md 3), .inl (cI, 516, .inl hs)), ((md 4), .inl (cI, 172, .inl sl)), ((md 5), .inl (cI, 2, .inl iv)), ((md 6), .inl (cI, 60, .inl tx))] A) (cc := cX4_takesOne) (maxL := 3) (ret := (some .boolean)) (by decide) rfl (Nat.le_of_ble_eq_true rfl) ?_
  intro p e s m below meth c ls A hx hb hr hml hown hts hlocks hname hP hK hD hA hS hX hl Q hQ
  have hown : s.vm.findClass RX4 = some m.cls := hown
  have hl : lv_has ls 3 [(0, .ref (md 0)), (1, .int x)] := hl
  refine lv_aload_n (pc := 0) hx hb dX4_takesOne_0 rfl (lv_at hl 0 rfl) ?_
  refine lv_iload_n (pc := 1) hx hb dX4_takesOne_1 rfl (lv_at hl 1 rfl) ?_
  refine lv_iload_n (pc := 2) hx hb dX4_takesOne_2 rfl (lv_at hl 1 rfl) ?_
  refine b_cR (pc := 3) (va_runV (As := [.int x, .int x]) (rest := []) ⟨hx, hb, hml, hown, hts⟩ (c_X4_isHere l D cI cC cZ cG md a kp hs hn sl iv tx tl sp nu x x (by first | omega | assumption) (by first | omega | assumption)) (cwV 2 hts gX4_takesOne_X4_isHere rfl rfl rfl hy_X4_isHere ⟨Nat.le_of_ble_eq_true rfl, Nat.le_of_ble_eq_true rfl⟩) (b_pRV (wc := [((md 0), .inr (4, [.ref (md 1), .ref (md 2), .ref (md 3), .int (nI hn), .ref (md 4), .ref (md 5), .ref (md 6), .int (nI tl), .int (nI sp), .int nu])), ((md 1), .inl (cI, 86, .inl a)), ((md 2), .inl (cI, 86, .inl kp)), ((md 3), .inl (cI, 516, .inl hs)), ((md 4), .inl (cI, 172, .inl sl)), ((md 5), .inl (cI, 2, .inl iv)), ((md 6), .inl (cI, 60, .inl tx))]) hK hP [0, 1, 2, 3, 4, 5, 6] rfl (ci := 4) (q0 := 0) rfl rfl) rfl rfl hl.1 rfl (lv_room (Nat.le_of_ble_eq_true rfl)) dX4_takesOne_3 ⟨Nat.zero_le _, Nat.zero_le _⟩) ?_
  refine lv_istore_n (pc := 6) (lv' := [(2, .int (b_i (m_has tx tl sp x x))), (0, .ref (md 0)), (1, .int x)]) hx hb dX4_takesOne_6 rfl hl (by decide) rfl (fun ls hl => ?_)
  refine lv_aload_n (pc := 7) hx hb dX4_takesOne_7 rfl (lv_at hl 1 rfl) ?_
  refine lv_dup (pc := 8) hx hb dX4_takesOne_8 rfl ?_
  refine va_get (pc := 9) (D := D) (ci := 4) (v := .int (nI sp)) (C := RX4) (T := TX4) (N := 10) hx hb hts hi_X4_takesOne_n_X4 hown hK hP 0 rfl rfl 8 (by decide) (hts _ hw_X4_takesOne_n_0) (fun _ h9 => h9) rfl dX4_takesOne_9 ?_
  refine lv_iload_n (pc := 12) hx hb dX4_takesOne_12 rfl (lv_at hl 0 rfl) ?_
  refine lv_if_eq (pc := 13) (tgt := 20) hx hb dX4_takesOne_13 (by decide) (fun c_1 => ?_) (fun c_1 => ?_)
  · skip
    have c_1 : ¬ (m_has tx tl sp x x) := b_i_0.mp c_1
    refine lv_iconst (pc := 20) (v := 0) hx hb dX4_takesOne_20 (by decide) ?_
    refine lv_iadd (pc := 21) hx hb dX4_takesOne_21 ?_
    refine b_re (nI_add sp 0) ?_
    refine va_put (pc := 22) (D := D) (ci := 4) (v := .int (nI (sp + 0))) (ty := .int) (C := RX4) (T := TX4) (N := 10) hx hb hts hi_X4_takesOne_n_X4 tyX4 tyX4_ok nmX4 hown hK hP hD hS 0 rfl rfl 8 (by decide) (hts _ hw_X4_takesOne_n_0) (fun _ h9 => h9) rfl (by decide +kernel) rfl rfl (Nat.le_of_ble_eq_true rfl) dX4_takesOne_22 (fun H locs hP hD hS => ?_)
    have hP : va_P D vwCl [((md 0), .inr (4, [.ref (md 1), .ref (md 2), .ref (md 3), .int (nI hn), .ref (md 4), .ref (md 5), .ref (md 6), .int (nI tl), .int (nI (sp + 0)), .int nu])), ((md 1), .inl (cI, 86, .inl a)), ((md 2), .inl (cI, 86, .inl kp)), ((md 3), .inl (cI, 516, .inl hs)), ((md 4), .inl (cI, 172, .inl sl)), ((md 5), .inl (cI, 2, .inl iv)), ((md 6), .inl (cI, 60, .inl tx))] H := hP
    have hD : va_D A [((md 0), .inr (4, [.ref (md 1), .ref (md 2), .ref (md 3), .int (nI hn), .ref (md 4), .ref (md 5), .ref (md 6), .int (nI tl), .int (nI (sp + 0)), .int nu])), ((md 1), .inl (cI, 86, .inl a)), ((md 2), .inl (cI, 86, .inl kp)), ((md 3), .inl (cI, 516, .inl hs)), ((md 4), .inl (cI, 172, .inl sl)), ((md 5), .inl (cI, 2, .inl iv)), ((md 6), .inl (cI, 60, .inl tx))] := hD
    refine lv_iload_n (pc := 25) hx hb dX4_takesOne_25 rfl (lv_at hl 0 rfl) ?_
    subst hQ
    exact b_retWZ hx hb hr hlocks b_i_nar hS (b_i_f hq) (hP) dX4_takesOne_26
  · skip
    have c_1 : m_has tx tl sp x x := Classical.not_not.mp (fun h9 => c_1 (b_i_0.mpr h9))
    exact absurd c_1 hq
set_option maxHeartbeats 4000000 in
set_option maxRecDepth 100000 in
theorem c_X4_beam (l : Launch) (D : va_G) (cI cC cZ cG : ClassId) (sz : Nat) (md : Nat → Nat) (a : Nat → Int32) (kp : Nat → Int32) (hs : Nat → Int32) (hn : Nat) (sl : Nat → Int32) (iv : Nat → Int32) (tx : Nat → Int32) (tl : Nat) (sp : Nat) (nu : Int32) (htl : tl ≤ 60) (hsp : sp ≤ tl) : Met l yX4_beam wsX4_beam ({ frames := 3, cells := 0, slots := 0, locals := 69 } : Room) (b_W D (b_T cI cC cZ cG) b_X0 [((md 0), .inr (4, [.ref (md 1), .ref (md 2), .ref (md 3), .int (nI hn), .ref (md 4), .ref (md 5), .ref (md 6), .int (nI tl), .int (nI sp), .int nu])), ((md 1), .inl (cI, 86, .inl a)), ((md 2), .inl (cI, 86, .inl kp)), ((md 3), .inl (cI, 516, .inl hs)), ((md 4), .inl (cI, 172, .inl sl)), ((md 5), .inl (cI, 2, .inl iv)), ((md 6), .inl (cI, 60, .inl tx))] sz [.ref (md 0)]) (b_Qi D (m_bm tx tl sp) [((md 0), .inr (4, [.ref (md 1), .ref (md 2), .ref (md 3), .int (nI hn), .ref (md 4), .ref (md 5), .ref (md 6), .int (nI tl), .int (nI (m_bs tx tl sp)), .int nu])), ((md 1), .inl (cI, 86, .inl a)), ((md 2), .inl (cI, 86, .inl kp)), ((md 3), .inl (cI, 516, .inl hs)), ((md 4), .inl (cI, 172, .inl sl)), ((md 5), .inl (cI, 2, .inl iv)), ((md 6), .inl (cI, 60, .inl tx))] (va_A [((md 0), .inr (4, [.ref (md 1), .ref (md 2), .ref (md 3), .int (nI hn), .ref (md 4), .ref (md 5), .ref (md 6), .int (nI tl), .int (nI sp), .int nu])), ((md 1), .inl (cI, 86, .inl a)), ((md 2), .inl (cI, 86, .inl kp)), ((md 3), .inl (cI, 516, .inl hs)), ((md 4), .inl (cI, 172, .inl sl)), ((md 5), .inl (cI, 2, .inl iv)), ((md 6), .inl (cI, 60, .inl tx))] sz)) 0 0 (va_A [((md 0), .inr (4, [.ref (md 1), .ref (md 2), .ref (md 3), .int (nI hn), .ref (md 4), .ref (md 5), .ref (md 6), .int (nI tl), .int (nI sp), .int nu])), ((md 1), .inl (cI, 86, .inl a)), ((md 2), .inl (cI, 86, .inl kp)), ((md 3), .inl (cI, 516, .inl hs)), ((md 4), .inl (cI, 172, .inl sl)), ((md 5), .inl (cI, 2, .inl iv)), ((md 6), .inl (cI, 60, .inl tx))] sz) := by
  refine b_enterW (Qc := fun A => b_Qi D (m_bm tx tl sp) [((md 0), .inr (4, [.ref (md 1), .ref (md 2), .ref (md 3), .int (nI hn), .ref (md 4), .ref (md 5), .ref (md 6), .int (nI tl), .int (nI (m_bs tx tl sp)), .int nu])), ((md 1), .inl (cI, 86, .inl a)), ((md 2), .inl (cI, 86, .inl kp)), ((md 3), .inl (cI, 516, .inl hs)), ((md 4), .inl (cI, 172, .inl sl)), ((md 5), .inl (cI, 2, .inl iv)), ((md 6), .inl (cI, 60, .inl tx))] A) (cc := cX4_beam) (maxL := 1) (ret := (some .int)) (by decide) rfl (Nat.le_of_ble_eq_true rfl) ?_
  intro p e s m below meth c ls A hx hb hr hml hown hts hlocks hname hP hK hD hA hS hX hl Q hQ
  have hown : s.vm.findClass RX4 = some m.cls := hown
  have hl : lv_has ls 1 [(0, .ref (md 0))] := hl
  refine lv_aload_n (pc := 0) hx hb dX4_beam_0 rfl (lv_at hl 0 rfl) ?_
  refine lv_bipush (pc := 1) (v := 111) hx hb dX4_beam_1 (by decide) ?_
  rcases Classical.em (m_has tx tl sp 111 111) with hq_1 | hq_2
  · skip
    refine b_cW (pc := 3) (w1 := [((md 0), .inr (4, [.ref (md 1), .ref (md 2), .ref (md 3), .int (nI hn), .ref (md 4), .ref (md 5), .ref (md 6), .int (nI tl), .int (nI (sp + 1)), .int nu])), ((md 1), .inl (cI, 86, .inl a)), ((md 2), .inl (cI, 86, .inl kp)), ((md 3), .inl (cI, 516, .inl hs)), ((md 4), .inl (cI, 172, .inl sl)), ((md 5), .inl (cI, 2, .inl iv)), ((md 6), .inl (cI, 60, .inl tx))]) (va_runV (As := [.int 111]) (rest := []) ⟨hx, hb, hml, hown, hts⟩ (c_X4_takesOne_y l D cI cC cZ cG s.heap.size md a kp hs hn sl iv tx tl sp nu 111 (by first | omega | assumption) (by first | omega | assumption) hq_1) (cwV 1 hts gX4_beam_X4_takesOne rfl rfl rfl hy_X4_takesOne ⟨Nat.le_of_ble_eq_true rfl, Nat.le_of_ble_eq_true rfl⟩) (b_pWV (wc := [((md 0), .inr (4, [.ref (md 1), .ref (md 2), .ref (md 3), .int (nI hn), .ref (md 4), .ref (md 5), .ref (md 6), .int (nI tl), .int (nI sp), .int nu])), ((md 1), .inl (cI, 86, .inl a)), ((md 2), .inl (cI, 86, .inl kp)), ((md 3), .inl (cI, 516, .inl hs)), ((md 4), .inl (cI, 172, .inl sl)), ((md 5), .inl (cI, 2, .inl iv)), ((md 6), .inl (cI, 60, .inl tx))]) hK hP hD b_Xok_0 [0, 1, 2, 3, 4, 5, 6] rfl (by decide) rfl trivial (ci := 4) (q0 := 0) rfl rfl) rfl rfl hl.1 rfl (lv_room (Nat.le_of_ble_eq_true rfl)) dX4_beam_3 ⟨Nat.zero_le _, Nat.zero_le _⟩) hP hD hS hA [0, 1, 2, 3, 4, 5, 6] rfl rfl (fun H locs hP hD hS => ?_)
    have hP : va_P D vwCl [((md 0), .inr (4, [.ref (md 1), .ref (md 2), .ref (md 3), .int (nI hn), .ref (md 4), .ref (md 5), .ref (md 6), .int (nI tl), .int (nI (sp + 1)), .int nu])), ((md 1), .inl (cI, 86, .inl a)), ((md 2), .inl (cI, 86, .inl kp)), ((md 3), .inl (cI, 516, .inl hs)), ((md 4), .inl (cI, 172, .inl sl)), ((md 5), .inl (cI, 2, .inl iv)), ((md 6), .inl (cI, 60, .inl tx))] H := hP
    have hD : va_D A [((md 0), .inr (4, [.ref (md 1), .ref (md 2), .ref (md 3), .int (nI hn), .ref (md 4), .ref (md 5), .ref (md 6), .int (nI tl), .int (nI (sp + 1)), .int nu])), ((md 1), .inl (cI, 86, .inl a)), ((md 2), .inl (cI, 86, .inl kp)), ((md 3), .inl (cI, 516, .inl hs)), ((md 4), .inl (cI, 172, .inl sl)), ((md 5), .inl (cI, 2, .inl iv)), ((md 6), .inl (cI, 60, .inl tx))] := hD
    refine lv_if_eq (pc := 6) (tgt := 13) hx hb dX4_beam_6 (by decide) (fun c_3 => ?_) (fun c_3 => ?_)
    · skip
      exact absurd c_3 (by decide)
    · skip
      refine lv_iconst (pc := 9) (v := 0) hx hb dX4_beam_9 (by decide) ?_
      refine lv_goto (pc := 10) (tgt := 41) hx hb dX4_beam_10 (by decide) ?_
      subst hQ
      exact b_retW hx hb hr hlocks hS (by simp only [m_bm, m_bs, if_pos hq_1]) (by refine b_eqP ?_ hP; simp only [m_bm, m_bs, if_pos hq_1]) dX4_beam_41
  · skip
    refine b_cW (pc := 3) (w1 := [((md 0), .inr (4, [.ref (md 1), .ref (md 2), .ref (md 3), .int (nI hn), .ref (md 4), .ref (md 5), .ref (md 6), .int (nI tl), .int (nI sp), .int nu])), ((md 1), .inl (cI, 86, .inl a)), ((md 2), .inl (cI, 86, .inl kp)), ((md 3), .inl (cI, 516, .inl hs)), ((md 4), .inl (cI, 172, .inl sl)), ((md 5), .inl (cI, 2, .inl iv)), ((md 6), .inl (cI, 60, .inl tx))]) (va_runV (As := [.int 111]) (rest := []) ⟨hx, hb, hml, hown, hts⟩ (c_X4_takesOne_n l D cI cC cZ cG s.heap.size md a kp hs hn sl iv tx tl sp nu 111 (by first | omega | assumption) (by first | omega | assumption) hq_2) (cwV 1 hts gX4_beam_X4_takesOne rfl rfl rfl hy_X4_takesOne ⟨Nat.le_of_ble_eq_true rfl, Nat.le_of_ble_eq_true rfl⟩) (b_pWV (wc := [((md 0), .inr (4, [.ref (md 1), .ref (md 2), .ref (md 3), .int (nI hn), .ref (md 4), .ref (md 5), .ref (md 6), .int (nI tl), .int (nI sp), .int nu])), ((md 1), .inl (cI, 86, .inl a)), ((md 2), .inl (cI, 86, .inl kp)), ((md 3), .inl (cI, 516, .inl hs)), ((md 4), .inl (cI, 172, .inl sl)), ((md 5), .inl (cI, 2, .inl iv)), ((md 6), .inl (cI, 60, .inl tx))]) hK hP hD b_Xok_0 [0, 1, 2, 3, 4, 5, 6] rfl (by decide) rfl trivial (ci := 4) (q0 := 0) rfl rfl) rfl rfl hl.1 rfl (lv_room (Nat.le_of_ble_eq_true rfl)) dX4_beam_3 ⟨Nat.zero_le _, Nat.zero_le _⟩) hP hD hS hA [0, 1, 2, 3, 4, 5, 6] rfl rfl (fun H locs hP hD hS => ?_)
    have hP : va_P D vwCl [((md 0), .inr (4, [.ref (md 1), .ref (md 2), .ref (md 3), .int (nI hn), .ref (md 4), .ref (md 5), .ref (md 6), .int (nI tl), .int (nI sp), .int nu])), ((md 1), .inl (cI, 86, .inl a)), ((md 2), .inl (cI, 86, .inl kp)), ((md 3), .inl (cI, 516, .inl hs)), ((md 4), .inl (cI, 172, .inl sl)), ((md 5), .inl (cI, 2, .inl iv)), ((md 6), .inl (cI, 60, .inl tx))] H := hP
    have hD : va_D A [((md 0), .inr (4, [.ref (md 1), .ref (md 2), .ref (md 3), .int (nI hn), .ref (md 4), .ref (md 5), .ref (md 6), .int (nI tl), .int (nI sp), .int nu])), ((md 1), .inl (cI, 86, .inl a)), ((md 2), .inl (cI, 86, .inl kp)), ((md 3), .inl (cI, 516, .inl hs)), ((md 4), .inl (cI, 172, .inl sl)), ((md 5), .inl (cI, 2, .inl iv)), ((md 6), .inl (cI, 60, .inl tx))] := hD
    refine lv_if_eq (pc := 6) (tgt := 13) hx hb dX4_beam_6 (by decide) (fun c_4 => ?_) (fun c_4 => ?_)
    · skip
      refine lv_aload_n (pc := 13) hx hb dX4_beam_13 rfl (lv_at hl 0 rfl) ?_
      refine lv_bipush (pc := 14) (v := 105) hx hb dX4_beam_14 (by decide) ?_
      rcases Classical.em (m_has tx tl sp 105 105) with hq_5 | hq_6
      · skip
        refine b_cW (pc := 16) (w1 := [((md 0), .inr (4, [.ref (md 1), .ref (md 2), .ref (md 3), .int (nI hn), .ref (md 4), .ref (md 5), .ref (md 6), .int (nI tl), .int (nI (sp + 1)), .int nu])), ((md 1), .inl (cI, 86, .inl a)), ((md 2), .inl (cI, 86, .inl kp)), ((md 3), .inl (cI, 516, .inl hs)), ((md 4), .inl (cI, 172, .inl sl)), ((md 5), .inl (cI, 2, .inl iv)), ((md 6), .inl (cI, 60, .inl tx))]) (va_runV (As := [.int 105]) (rest := []) ⟨hx, hb, hml, hown, hts⟩ (c_X4_takesOne_y l D cI cC cZ cG H.size md a kp hs hn sl iv tx tl sp nu 105 (by first | omega | assumption) (by first | omega | assumption) hq_5) (cwV 1 hts gX4_beam_X4_takesOne rfl rfl rfl hy_X4_takesOne ⟨Nat.le_of_ble_eq_true rfl, Nat.le_of_ble_eq_true rfl⟩) (b_pWV (wc := [((md 0), .inr (4, [.ref (md 1), .ref (md 2), .ref (md 3), .int (nI hn), .ref (md 4), .ref (md 5), .ref (md 6), .int (nI tl), .int (nI sp), .int nu])), ((md 1), .inl (cI, 86, .inl a)), ((md 2), .inl (cI, 86, .inl kp)), ((md 3), .inl (cI, 516, .inl hs)), ((md 4), .inl (cI, 172, .inl sl)), ((md 5), .inl (cI, 2, .inl iv)), ((md 6), .inl (cI, 60, .inl tx))]) hK hP hD b_Xok_0 [0, 1, 2, 3, 4, 5, 6] rfl (by decide) rfl trivial (ci := 4) (q0 := 0) rfl rfl) rfl rfl hl.1 rfl (lv_room (Nat.le_of_ble_eq_true rfl)) dX4_beam_16 ⟨Nat.zero_le _, Nat.zero_le _⟩) hP hD hS hA [0, 1, 2, 3, 4, 5, 6] rfl rfl (fun H locs hP hD hS => ?_)
        have hP : va_P D vwCl [((md 0), .inr (4, [.ref (md 1), .ref (md 2), .ref (md 3), .int (nI hn), .ref (md 4), .ref (md 5), .ref (md 6), .int (nI tl), .int (nI (sp + 1)), .int nu])), ((md 1), .inl (cI, 86, .inl a)), ((md 2), .inl (cI, 86, .inl kp)), ((md 3), .inl (cI, 516, .inl hs)), ((md 4), .inl (cI, 172, .inl sl)), ((md 5), .inl (cI, 2, .inl iv)), ((md 6), .inl (cI, 60, .inl tx))] H := hP
        have hD : va_D A [((md 0), .inr (4, [.ref (md 1), .ref (md 2), .ref (md 3), .int (nI hn), .ref (md 4), .ref (md 5), .ref (md 6), .int (nI tl), .int (nI (sp + 1)), .int nu])), ((md 1), .inl (cI, 86, .inl a)), ((md 2), .inl (cI, 86, .inl kp)), ((md 3), .inl (cI, 516, .inl hs)), ((md 4), .inl (cI, 172, .inl sl)), ((md 5), .inl (cI, 2, .inl iv)), ((md 6), .inl (cI, 60, .inl tx))] := hD
        refine lv_if_eq (pc := 19) (tgt := 26) hx hb dX4_beam_19 (by decide) (fun c_7 => ?_) (fun c_7 => ?_)
        · skip
          exact absurd c_7 (by decide)
        · skip
          refine lv_iconst (pc := 22) (v := 1) hx hb dX4_beam_22 (by decide) ?_
          refine lv_goto (pc := 23) (tgt := 41) hx hb dX4_beam_23 (by decide) ?_
          subst hQ
          exact b_retW hx hb hr hlocks hS (by simp only [m_bm, m_bs, if_neg hq_2, if_pos hq_5]) (by refine b_eqP ?_ hP; simp only [m_bm, m_bs, if_neg hq_2, if_pos hq_5]) dX4_beam_41
      · skip
        refine b_cW (pc := 16) (w1 := [((md 0), .inr (4, [.ref (md 1), .ref (md 2), .ref (md 3), .int (nI hn), .ref (md 4), .ref (md 5), .ref (md 6), .int (nI tl), .int (nI sp), .int nu])), ((md 1), .inl (cI, 86, .inl a)), ((md 2), .inl (cI, 86, .inl kp)), ((md 3), .inl (cI, 516, .inl hs)), ((md 4), .inl (cI, 172, .inl sl)), ((md 5), .inl (cI, 2, .inl iv)), ((md 6), .inl (cI, 60, .inl tx))]) (va_runV (As := [.int 105]) (rest := []) ⟨hx, hb, hml, hown, hts⟩ (c_X4_takesOne_n l D cI cC cZ cG H.size md a kp hs hn sl iv tx tl sp nu 105 (by first | omega | assumption) (by first | omega | assumption) hq_6) (cwV 1 hts gX4_beam_X4_takesOne rfl rfl rfl hy_X4_takesOne ⟨Nat.le_of_ble_eq_true rfl, Nat.le_of_ble_eq_true rfl⟩) (b_pWV (wc := [((md 0), .inr (4, [.ref (md 1), .ref (md 2), .ref (md 3), .int (nI hn), .ref (md 4), .ref (md 5), .ref (md 6), .int (nI tl), .int (nI sp), .int nu])), ((md 1), .inl (cI, 86, .inl a)), ((md 2), .inl (cI, 86, .inl kp)), ((md 3), .inl (cI, 516, .inl hs)), ((md 4), .inl (cI, 172, .inl sl)), ((md 5), .inl (cI, 2, .inl iv)), ((md 6), .inl (cI, 60, .inl tx))]) hK hP hD b_Xok_0 [0, 1, 2, 3, 4, 5, 6] rfl (by decide) rfl trivial (ci := 4) (q0 := 0) rfl rfl) rfl rfl hl.1 rfl (lv_room (Nat.le_of_ble_eq_true rfl)) dX4_beam_16 ⟨Nat.zero_le _, Nat.zero_le _⟩) hP hD hS hA [0, 1, 2, 3, 4, 5, 6] rfl rfl (fun H locs hP hD hS => ?_)
        have hP : va_P D vwCl [((md 0), .inr (4, [.ref (md 1), .ref (md 2), .ref (md 3), .int (nI hn), .ref (md 4), .ref (md 5), .ref (md 6), .int (nI tl), .int (nI sp), .int nu])), ((md 1), .inl (cI, 86, .inl a)), ((md 2), .inl (cI, 86, .inl kp)), ((md 3), .inl (cI, 516, .inl hs)), ((md 4), .inl (cI, 172, .inl sl)), ((md 5), .inl (cI, 2, .inl iv)), ((md 6), .inl (cI, 60, .inl tx))] H := hP
        have hD : va_D A [((md 0), .inr (4, [.ref (md 1), .ref (md 2), .ref (md 3), .int (nI hn), .ref (md 4), .ref (md 5), .ref (md 6), .int (nI tl), .int (nI sp), .int nu])), ((md 1), .inl (cI, 86, .inl a)), ((md 2), .inl (cI, 86, .inl kp)), ((md 3), .inl (cI, 516, .inl hs)), ((md 4), .inl (cI, 172, .inl sl)), ((md 5), .inl (cI, 2, .inl iv)), ((md 6), .inl (cI, 60, .inl tx))] := hD
        refine lv_if_eq (pc := 19) (tgt := 26) hx hb dX4_beam_19 (by decide) (fun c_8 => ?_) (fun c_8 => ?_)
        · skip
          refine lv_aload_n (pc := 26) hx hb dX4_beam_26 rfl (lv_at hl 0 rfl) ?_
          refine lv_bipush (pc := 27) (v := 98) hx hb dX4_beam_27 (by decide) ?_
          rcases Classical.em (m_has tx tl sp 98 98) with hq_9 | hq_10
          · skip
            refine b_cW (pc := 29) (w1 := [((md 0), .inr (4, [.ref (md 1), .ref (md 2), .ref (md 3), .int (nI hn), .ref (md 4), .ref (md 5), .ref (md 6), .int (nI tl), .int (nI (sp + 1)), .int nu])), ((md 1), .inl (cI, 86, .inl a)), ((md 2), .inl (cI, 86, .inl kp)), ((md 3), .inl (cI, 516, .inl hs)), ((md 4), .inl (cI, 172, .inl sl)), ((md 5), .inl (cI, 2, .inl iv)), ((md 6), .inl (cI, 60, .inl tx))]) (va_runV (As := [.int 98]) (rest := []) ⟨hx, hb, hml, hown, hts⟩ (c_X4_takesOne_y l D cI cC cZ cG H.size md a kp hs hn sl iv tx tl sp nu 98 (by first | omega | assumption) (by first | omega | assumption) hq_9) (cwV 1 hts gX4_beam_X4_takesOne rfl rfl rfl hy_X4_takesOne ⟨Nat.le_of_ble_eq_true rfl, Nat.le_of_ble_eq_true rfl⟩) (b_pWV (wc := [((md 0), .inr (4, [.ref (md 1), .ref (md 2), .ref (md 3), .int (nI hn), .ref (md 4), .ref (md 5), .ref (md 6), .int (nI tl), .int (nI sp), .int nu])), ((md 1), .inl (cI, 86, .inl a)), ((md 2), .inl (cI, 86, .inl kp)), ((md 3), .inl (cI, 516, .inl hs)), ((md 4), .inl (cI, 172, .inl sl)), ((md 5), .inl (cI, 2, .inl iv)), ((md 6), .inl (cI, 60, .inl tx))]) hK hP hD b_Xok_0 [0, 1, 2, 3, 4, 5, 6] rfl (by decide) rfl trivial (ci := 4) (q0 := 0) rfl rfl) rfl rfl hl.1 rfl (lv_room (Nat.le_of_ble_eq_true rfl)) dX4_beam_29 ⟨Nat.zero_le _, Nat.zero_le _⟩) hP hD hS hA [0, 1, 2, 3, 4, 5, 6] rfl rfl (fun H locs hP hD hS => ?_)
            have hP : va_P D vwCl [((md 0), .inr (4, [.ref (md 1), .ref (md 2), .ref (md 3), .int (nI hn), .ref (md 4), .ref (md 5), .ref (md 6), .int (nI tl), .int (nI (sp + 1)), .int nu])), ((md 1), .inl (cI, 86, .inl a)), ((md 2), .inl (cI, 86, .inl kp)), ((md 3), .inl (cI, 516, .inl hs)), ((md 4), .inl (cI, 172, .inl sl)), ((md 5), .inl (cI, 2, .inl iv)), ((md 6), .inl (cI, 60, .inl tx))] H := hP
            have hD : va_D A [((md 0), .inr (4, [.ref (md 1), .ref (md 2), .ref (md 3), .int (nI hn), .ref (md 4), .ref (md 5), .ref (md 6), .int (nI tl), .int (nI (sp + 1)), .int nu])), ((md 1), .inl (cI, 86, .inl a)), ((md 2), .inl (cI, 86, .inl kp)), ((md 3), .inl (cI, 516, .inl hs)), ((md 4), .inl (cI, 172, .inl sl)), ((md 5), .inl (cI, 2, .inl iv)), ((md 6), .inl (cI, 60, .inl tx))] := hD
            refine lv_if_eq (pc := 32) (tgt := 39) hx hb dX4_beam_32 (by decide) (fun c_11 => ?_) (fun c_11 => ?_)
            · skip
              exact absurd c_11 (by decide)
            · skip
              refine lv_iconst (pc := 35) (v := 2) hx hb dX4_beam_35 (by decide) ?_
              refine lv_goto (pc := 36) (tgt := 41) hx hb dX4_beam_36 (by decide) ?_
              subst hQ
              exact b_retW hx hb hr hlocks hS (by simp only [m_bm, m_bs, if_neg hq_2, if_neg hq_6, if_pos hq_9]) (by refine b_eqP ?_ hP; simp only [m_bm, m_bs, if_neg hq_2, if_neg hq_6, if_pos hq_9]) dX4_beam_41
          · skip
            refine b_cW (pc := 29) (w1 := [((md 0), .inr (4, [.ref (md 1), .ref (md 2), .ref (md 3), .int (nI hn), .ref (md 4), .ref (md 5), .ref (md 6), .int (nI tl), .int (nI sp), .int nu])), ((md 1), .inl (cI, 86, .inl a)), ((md 2), .inl (cI, 86, .inl kp)), ((md 3), .inl (cI, 516, .inl hs)), ((md 4), .inl (cI, 172, .inl sl)), ((md 5), .inl (cI, 2, .inl iv)), ((md 6), .inl (cI, 60, .inl tx))]) (va_runV (As := [.int 98]) (rest := []) ⟨hx, hb, hml, hown, hts⟩ (c_X4_takesOne_n l D cI cC cZ cG H.size md a kp hs hn sl iv tx tl sp nu 98 (by first | omega | assumption) (by first | omega | assumption) hq_10) (cwV 1 hts gX4_beam_X4_takesOne rfl rfl rfl hy_X4_takesOne ⟨Nat.le_of_ble_eq_true rfl, Nat.le_of_ble_eq_true rfl⟩) (b_pWV (wc := [((md 0), .inr (4, [.ref (md 1), .ref (md 2), .ref (md 3), .int (nI hn), .ref (md 4), .ref (md 5), .ref (md 6), .int (nI tl), .int (nI sp), .int nu])), ((md 1), .inl (cI, 86, .inl a)), ((md 2), .inl (cI, 86, .inl kp)), ((md 3), .inl (cI, 516, .inl hs)), ((md 4), .inl (cI, 172, .inl sl)), ((md 5), .inl (cI, 2, .inl iv)), ((md 6), .inl (cI, 60, .inl tx))]) hK hP hD b_Xok_0 [0, 1, 2, 3, 4, 5, 6] rfl (by decide) rfl trivial (ci := 4) (q0 := 0) rfl rfl) rfl rfl hl.1 rfl (lv_room (Nat.le_of_ble_eq_true rfl)) dX4_beam_29 ⟨Nat.zero_le _, Nat.zero_le _⟩) hP hD hS hA [0, 1, 2, 3, 4, 5, 6] rfl rfl (fun H locs hP hD hS => ?_)
            have hP : va_P D vwCl [((md 0), .inr (4, [.ref (md 1), .ref (md 2), .ref (md 3), .int (nI hn), .ref (md 4), .ref (md 5), .ref (md 6), .int (nI tl), .int (nI sp), .int nu])), ((md 1), .inl (cI, 86, .inl a)), ((md 2), .inl (cI, 86, .inl kp)), ((md 3), .inl (cI, 516, .inl hs)), ((md 4), .inl (cI, 172, .inl sl)), ((md 5), .inl (cI, 2, .inl iv)), ((md 6), .inl (cI, 60, .inl tx))] H := hP
            have hD : va_D A [((md 0), .inr (4, [.ref (md 1), .ref (md 2), .ref (md 3), .int (nI hn), .ref (md 4), .ref (md 5), .ref (md 6), .int (nI tl), .int (nI sp), .int nu])), ((md 1), .inl (cI, 86, .inl a)), ((md 2), .inl (cI, 86, .inl kp)), ((md 3), .inl (cI, 516, .inl hs)), ((md 4), .inl (cI, 172, .inl sl)), ((md 5), .inl (cI, 2, .inl iv)), ((md 6), .inl (cI, 60, .inl tx))] := hD
            refine lv_if_eq (pc := 32) (tgt := 39) hx hb dX4_beam_32 (by decide) (fun c_12 => ?_) (fun c_12 => ?_)
            · skip
              refine lv_bipush (pc := 39) (v := (-6)) hx hb dX4_beam_39 (by decide) ?_
              subst hQ
              exact b_retW hx hb hr hlocks hS (by simp only [m_bm, m_bs, if_neg hq_2, if_neg hq_6, if_neg hq_10]) (by refine b_eqP ?_ hP; simp only [m_bm, m_bs, if_neg hq_2, if_neg hq_6, if_neg hq_10]) dX4_beam_41
            · skip
              exact absurd c_12 (by decide)
        · skip
          exact absurd c_8 (by decide)
    · skip
      exact absurd c_4 (by decide)
set_option maxHeartbeats 4000000 in
set_option maxRecDepth 100000 in
theorem c_X4_readsTicks_n (l : Launch) (D : va_G) (cI cC cZ cG : ClassId) (sz : Nat) (md : Nat → Nat) (a : Nat → Int32) (kp : Nat → Int32) (hs : Nat → Int32) (hn : Nat) (sl : Nat → Int32) (iv : Nat → Int32) (tx : Nat → Int32) (tl : Nat) (sp : Nat) (nu : Int32) (htl : tl ≤ 60) (hsp : sp ≤ tl) (hq : ¬ m_has tx tl sp 49 57) : Met l yX4_readsTicks wsX4_readsTicks ({ frames := 2, cells := 0, slots := 0, locals := 47 } : Room) (b_W D (b_T cI cC cZ cG) b_X0 [((md 0), .inr (4, [.ref (md 1), .ref (md 2), .ref (md 3), .int (nI hn), .ref (md 4), .ref (md 5), .ref (md 6), .int (nI tl), .int (nI sp), .int nu])), ((md 1), .inl (cI, 86, .inl a)), ((md 2), .inl (cI, 86, .inl kp)), ((md 3), .inl (cI, 516, .inl hs)), ((md 4), .inl (cI, 172, .inl sl)), ((md 5), .inl (cI, 2, .inl iv)), ((md 6), .inl (cI, 60, .inl tx))] sz [.ref (md 0)]) (b_Qi D 0 [((md 0), .inr (4, [.ref (md 1), .ref (md 2), .ref (md 3), .int (nI hn), .ref (md 4), .ref (md 5), .ref (md 6), .int (nI tl), .int (nI sp), .int nu])), ((md 1), .inl (cI, 86, .inl a)), ((md 2), .inl (cI, 86, .inl kp)), ((md 3), .inl (cI, 516, .inl hs)), ((md 4), .inl (cI, 172, .inl sl)), ((md 5), .inl (cI, 2, .inl iv)), ((md 6), .inl (cI, 60, .inl tx))] (va_A [((md 0), .inr (4, [.ref (md 1), .ref (md 2), .ref (md 3), .int (nI hn), .ref (md 4), .ref (md 5), .ref (md 6), .int (nI tl), .int (nI sp), .int nu])), ((md 1), .inl (cI, 86, .inl a)), ((md 2), .inl (cI, 86, .inl kp)), ((md 3), .inl (cI, 516, .inl hs)), ((md 4), .inl (cI, 172, .inl sl)), ((md 5), .inl (cI, 2, .inl iv)), ((md 6), .inl (cI, 60, .inl tx))] sz)) 0 0 (va_A [((md 0), .inr (4, [.ref (md 1), .ref (md 2), .ref (md 3), .int (nI hn), .ref (md 4), .ref (md 5), .ref (md 6), .int (nI tl), .int (nI sp), .int nu])), ((md 1), .inl (cI, 86, .inl a)), ((md 2), .inl (cI, 86, .inl kp)), ((md 3), .inl (cI, 516, .inl hs)), ((md 4), .inl (cI, 172, .inl sl)), ((md 5), .inl (cI, 2, .inl iv)), ((md 6), .inl (cI, 60, .inl tx))] sz) := by
  refine b_enterW (Qc := fun A => b_Qi D 0 [((md 0), .inr (4, [.ref (md 1), .ref (md 2), .ref (md 3), .int (nI hn), .ref (md 4), .ref (md 5), .ref (md 6), .int (nI tl), .int (nI sp), .int nu])), ((md 1), .inl (cI, 86, .inl a)), ((md 2), .inl (cI, 86, .inl kp)), ((md 3), .inl (cI, 516, .inl hs)), ((md 4), .inl (cI, 172, .inl sl)), ((md 5), .inl (cI, 2, .inl iv)), ((md 6), .inl (cI, 60, .inl tx))] A) (cc := cX4_readsTicks) (maxL := 1) (ret := (some .boolean)) (by decide) rfl (Nat.le_of_ble_eq_true rfl) ?_
  intro p e s m below meth c ls A hx hb hr hml hown hts hlocks hname hP hK hD hA hS hX hl Q hQ
  have hown : s.vm.findClass RX4 = some m.cls := hown
  have hl : lv_has ls 1 [(0, .ref (md 0))] := hl
  refine lv_aload_n (pc := 0) hx hb dX4_readsTicks_0 rfl (lv_at hl 0 rfl) ?_
  refine lv_bipush (pc := 1) (v := 49) hx hb dX4_readsTicks_1 (by decide) ?_
  refine lv_bipush (pc := 3) (v := 57) hx hb dX4_readsTicks_3 (by decide) ?_
  refine b_cR (pc := 5) (va_runV (As := [.int 49, .int 57]) (rest := []) ⟨hx, hb, hml, hown, hts⟩ (c_X4_isHere l D cI cC cZ cG md a kp hs hn sl iv tx tl sp nu 49 57 (by first | omega | assumption) (by first | omega | assumption)) (cwV 2 hts gX4_readsTicks_X4_isHere rfl rfl rfl hy_X4_isHere ⟨Nat.le_of_ble_eq_true rfl, Nat.le_of_ble_eq_true rfl⟩) (b_pRV (wc := [((md 0), .inr (4, [.ref (md 1), .ref (md 2), .ref (md 3), .int (nI hn), .ref (md 4), .ref (md 5), .ref (md 6), .int (nI tl), .int (nI sp), .int nu])), ((md 1), .inl (cI, 86, .inl a)), ((md 2), .inl (cI, 86, .inl kp)), ((md 3), .inl (cI, 516, .inl hs)), ((md 4), .inl (cI, 172, .inl sl)), ((md 5), .inl (cI, 2, .inl iv)), ((md 6), .inl (cI, 60, .inl tx))]) hK hP [0, 1, 2, 3, 4, 5, 6] rfl (ci := 4) (q0 := 0) rfl rfl) rfl rfl hl.1 rfl (lv_room (Nat.le_of_ble_eq_true rfl)) dX4_readsTicks_5 ⟨Nat.zero_le _, Nat.zero_le _⟩) ?_
  refine lv_if_ne (pc := 8) (tgt := 13) hx hb dX4_readsTicks_8 (by decide) (fun c_1 => ?_) (fun c_1 => ?_)
  · skip
    have c_1 : m_has tx tl sp 49 57 := Classical.not_not.mp (fun h9 => c_1 (b_i_0.mpr h9))
    exact absurd c_1 hq
  · skip
    have c_1 : ¬ (m_has tx tl sp 49 57) := b_i_0.mp c_1
    refine lv_iconst (pc := 11) (v := 0) hx hb dX4_readsTicks_11 (by decide) ?_
    subst hQ
    exact b_retWZ hx hb hr hlocks rfl hS (rfl) (hP) dX4_readsTicks_12
theorem hw_X4_readsTicks_1_0 : (.fieldLink RX4 25 "BeamTurnstilesModel" "text" "[I" : Cond) ∈ wsX4_readsTicks := by decide +kernel
theorem hi_X4_readsTicks_1_X4 : ∀ w ∈ wsX40, w ∈ wsX4_readsTicks := by decide +kernel
theorem hw_X4_readsTicks_1_2 : (.fieldLink RX4 147 "BeamTurnstilesModel" "spot" "I" : Cond) ∈ wsX4_readsTicks := by decide +kernel
theorem hw_X4_readsTicks_1_3 : (.fieldLink RX4 156 "BeamTurnstilesModel" "number" "I" : Cond) ∈ wsX4_readsTicks := by decide +kernel
set_option maxHeartbeats 4000000 in
set_option maxRecDepth 100000 in
theorem c_X4_readsTicks_1 (l : Launch) (D : va_G) (cI cC cZ cG : ClassId) (sz : Nat) (md : Nat → Nat) (a : Nat → Int32) (kp : Nat → Int32) (hs : Nat → Int32) (hn : Nat) (sl : Nat → Int32) (iv : Nat → Int32) (tx : Nat → Int32) (tl : Nat) (sp : Nat) (nu : Int32) (htl : tl ≤ 60) (hsp : sp ≤ tl) (hq : m_has tx tl sp 49 57) (hq2 : ¬ m_has tx tl (sp + 1) 48 57) : Met l yX4_readsTicks wsX4_readsTicks ({ frames := 2, cells := 0, slots := 0, locals := 47 } : Room) (b_W D (b_T cI cC cZ cG) b_X0 [((md 0), .inr (4, [.ref (md 1), .ref (md 2), .ref (md 3), .int (nI hn), .ref (md 4), .ref (md 5), .ref (md 6), .int (nI tl), .int (nI sp), .int nu])), ((md 1), .inl (cI, 86, .inl a)), ((md 2), .inl (cI, 86, .inl kp)), ((md 3), .inl (cI, 516, .inl hs)), ((md 4), .inl (cI, 172, .inl sl)), ((md 5), .inl (cI, 2, .inl iv)), ((md 6), .inl (cI, 60, .inl tx))] sz [.ref (md 0)]) (b_Qi D 1 [((md 0), .inr (4, [.ref (md 1), .ref (md 2), .ref (md 3), .int (nI hn), .ref (md 4), .ref (md 5), .ref (md 6), .int (nI tl), .int (nI (sp + 1)), .int (tx sp - 48)])), ((md 1), .inl (cI, 86, .inl a)), ((md 2), .inl (cI, 86, .inl kp)), ((md 3), .inl (cI, 516, .inl hs)), ((md 4), .inl (cI, 172, .inl sl)), ((md 5), .inl (cI, 2, .inl iv)), ((md 6), .inl (cI, 60, .inl tx))] (va_A [((md 0), .inr (4, [.ref (md 1), .ref (md 2), .ref (md 3), .int (nI hn), .ref (md 4), .ref (md 5), .ref (md 6), .int (nI tl), .int (nI sp), .int nu])), ((md 1), .inl (cI, 86, .inl a)), ((md 2), .inl (cI, 86, .inl kp)), ((md 3), .inl (cI, 516, .inl hs)), ((md 4), .inl (cI, 172, .inl sl)), ((md 5), .inl (cI, 2, .inl iv)), ((md 6), .inl (cI, 60, .inl tx))] sz)) 0 0 (va_A [((md 0), .inr (4, [.ref (md 1), .ref (md 2), .ref (md 3), .int (nI hn), .ref (md 4), .ref (md 5), .ref (md 6), .int (nI tl), .int (nI sp), .int nu])), ((md 1), .inl (cI, 86, .inl a)), ((md 2), .inl (cI, 86, .inl kp)), ((md 3), .inl (cI, 516, .inl hs)), ((md 4), .inl (cI, 172, .inl sl)), ((md 5), .inl (cI, 2, .inl iv)), ((md 6), .inl (cI, 60, .inl tx))] sz) := by
  refine b_enterW (Qc := fun A => b_Qi D 1 [((md 0), .inr (4, [.ref (md 1), .ref (md 2), .ref (md 3), .int (nI hn), .ref (md 4), .ref (md 5), .ref (md 6), .int (nI tl), .int (nI (sp + 1)), .int (tx sp - 48)])), ((md 1), .inl (cI, 86, .inl a)), ((md 2), .inl (cI, 86, .inl kp)), ((md 3), .inl (cI, 516, .inl hs)), ((md 4), .inl (cI, 172, .inl sl)), ((md 5), .inl (cI, 2, .inl iv)), ((md 6), .inl (cI, 60, .inl tx))] A) (cc := cX4_readsTicks) (maxL := 1) (ret := (some .boolean)) (by decide) rfl (Nat.le_of_ble_eq_true rfl) ?_
  intro p e s m below meth c ls A hx hb hr hml hown hts hlocks hname hP hK hD hA hS hX hl Q hQ
  have hown : s.vm.findClass RX4 = some m.cls := hown
  have hl : lv_has ls 1 [(0, .ref (md 0))] := hl
  have hqa := hq.1
  refine lv_aload_n (pc := 0) hx hb dX4_readsTicks_0 rfl (lv_at hl 0 rfl) ?_
  refine lv_bipush (pc := 1) (v := 49) hx hb dX4_readsTicks_1 (by decide) ?_
  refine lv_bipush (pc := 3) (v := 57) hx hb dX4_readsTicks_3 (by decide) ?_
  refine b_cR (pc := 5) (va_runV (As := [.int 49, .int 57]) (rest := []) ⟨hx, hb, hml, hown, hts⟩ (c_X4_isHere l D cI cC cZ cG md a kp hs hn sl iv tx tl sp nu 49 57 (by first | omega | assumption) (by first | omega | assumption)) (cwV 2 hts gX4_readsTicks_X4_isHere rfl rfl rfl hy_X4_isHere ⟨Nat.le_of_ble_eq_true rfl, Nat.le_of_ble_eq_true rfl⟩) (b_pRV (wc := [((md 0), .inr (4, [.ref (md 1), .ref (md 2), .ref (md 3), .int (nI hn), .ref (md 4), .ref (md 5), .ref (md 6), .int (nI tl), .int (nI sp), .int nu])), ((md 1), .inl (cI, 86, .inl a)), ((md 2), .inl (cI, 86, .inl kp)), ((md 3), .inl (cI, 516, .inl hs)), ((md 4), .inl (cI, 172, .inl sl)), ((md 5), .inl (cI, 2, .inl iv)), ((md 6), .inl (cI, 60, .inl tx))]) hK hP [0, 1, 2, 3, 4, 5, 6] rfl (ci := 4) (q0 := 0) rfl rfl) rfl rfl hl.1 rfl (lv_room (Nat.le_of_ble_eq_true rfl)) dX4_readsTicks_5 ⟨Nat.zero_le _, Nat.zero_le _⟩) ?_
  refine lv_if_ne (pc := 8) (tgt := 13) hx hb dX4_readsTicks_8 (by decide) (fun c_1 => ?_) (fun c_1 => ?_)
  · skip
    have c_1 : m_has tx tl sp 49 57 := Classical.not_not.mp (fun h9 => c_1 (b_i_0.mpr h9))
    refine lv_aload_n (pc := 13) hx hb dX4_readsTicks_13 rfl (lv_at hl 0 rfl) ?_
    refine lv_aload_n (pc := 14) hx hb dX4_readsTicks_14 rfl (lv_at hl 0 rfl) ?_
    refine va_get (pc := 15) (D := D) (ci := 4) (v := .ref (md 6)) (C := RX4) (T := TX4) (N := 10) hx hb hts hi_X4_readsTicks_1_X4 hown hK hP 0 rfl rfl 6 (by decide) (hts _ hw_X4_readsTicks_1_0) (fun _ h9 => h9) rfl dX4_readsTicks_15 ?_
    refine lv_aload_n (pc := 18) hx hb dX4_readsTicks_18 rfl (lv_at hl 0 rfl) ?_
    refine va_get (pc := 19) (D := D) (ci := 4) (v := .int (nI sp)) (C := RX4) (T := TX4) (N := 10) hx hb hts hi_X4_readsTicks_1_X4 hown hK hP 0 rfl rfl 8 (by decide) (hts _ hw_X4_readsTicks_1_2) (fun _ h9 => h9) rfl dX4_readsTicks_19 ?_
    refine b_iald (pc := 22) hx hb hK hP 6 0 rfl rfl sp rfl (by omega) (by decide) dX4_readsTicks_22 ?_
    refine lv_bipush (pc := 23) (v := 48) hx hb dX4_readsTicks_23 (by decide) ?_
    refine lv_isub (pc := 25) hx hb dX4_readsTicks_25 ?_
    refine va_put (pc := 26) (D := D) (ci := 4) (v := .int ((tx sp) - 48)) (ty := .int) (C := RX4) (T := TX4) (N := 10) hx hb hts hi_X4_readsTicks_1_X4 tyX4 tyX4_ok nmX4 hown hK hP hD hS 0 rfl rfl 9 (by decide) (hts _ hw_X4_readsTicks_1_3) (fun _ h9 => h9) rfl (by decide +kernel) rfl rfl (Nat.le_of_ble_eq_true rfl) dX4_readsTicks_26 (fun H locs hP hD hS => ?_)
    have hP : va_P D vwCl [((md 0), .inr (4, [.ref (md 1), .ref (md 2), .ref (md 3), .int (nI hn), .ref (md 4), .ref (md 5), .ref (md 6), .int (nI tl), .int (nI sp), .int ((tx sp) - 48)])), ((md 1), .inl (cI, 86, .inl a)), ((md 2), .inl (cI, 86, .inl kp)), ((md 3), .inl (cI, 516, .inl hs)), ((md 4), .inl (cI, 172, .inl sl)), ((md 5), .inl (cI, 2, .inl iv)), ((md 6), .inl (cI, 60, .inl tx))] H := hP
    have hD : va_D A [((md 0), .inr (4, [.ref (md 1), .ref (md 2), .ref (md 3), .int (nI hn), .ref (md 4), .ref (md 5), .ref (md 6), .int (nI tl), .int (nI sp), .int ((tx sp) - 48)])), ((md 1), .inl (cI, 86, .inl a)), ((md 2), .inl (cI, 86, .inl kp)), ((md 3), .inl (cI, 516, .inl hs)), ((md 4), .inl (cI, 172, .inl sl)), ((md 5), .inl (cI, 2, .inl iv)), ((md 6), .inl (cI, 60, .inl tx))] := hD
    refine lv_aload_n (pc := 29) hx hb dX4_readsTicks_29 rfl (lv_at hl 0 rfl) ?_
    refine lv_dup (pc := 30) hx hb dX4_readsTicks_30 rfl ?_
    refine va_get (pc := 31) (D := D) (ci := 4) (v := .int (nI sp)) (C := RX4) (T := TX4) (N := 10) hx hb hts hi_X4_readsTicks_1_X4 hown hK hP 0 rfl rfl 8 (by decide) (hts _ hw_X4_readsTicks_1_2) (fun _ h9 => h9) rfl dX4_readsTicks_31 ?_
    refine lv_iconst (pc := 34) (v := 1) hx hb dX4_readsTicks_34 (by decide) ?_
    refine lv_iadd (pc := 35) hx hb dX4_readsTicks_35 ?_
    refine b_re (nI_add sp 1) ?_
    refine va_put (pc := 36) (D := D) (ci := 4) (v := .int (nI (sp + 1))) (ty := .int) (C := RX4) (T := TX4) (N := 10) hx hb hts hi_X4_readsTicks_1_X4 tyX4 tyX4_ok nmX4 hown hK hP hD hS 0 rfl rfl 8 (by decide) (hts _ hw_X4_readsTicks_1_2) (fun _ h9 => h9) rfl (by decide +kernel) rfl rfl (Nat.le_of_ble_eq_true rfl) dX4_readsTicks_36 (fun H locs hP hD hS => ?_)
    have hP : va_P D vwCl [((md 0), .inr (4, [.ref (md 1), .ref (md 2), .ref (md 3), .int (nI hn), .ref (md 4), .ref (md 5), .ref (md 6), .int (nI tl), .int (nI (sp + 1)), .int ((tx sp) - 48)])), ((md 1), .inl (cI, 86, .inl a)), ((md 2), .inl (cI, 86, .inl kp)), ((md 3), .inl (cI, 516, .inl hs)), ((md 4), .inl (cI, 172, .inl sl)), ((md 5), .inl (cI, 2, .inl iv)), ((md 6), .inl (cI, 60, .inl tx))] H := hP
    have hD : va_D A [((md 0), .inr (4, [.ref (md 1), .ref (md 2), .ref (md 3), .int (nI hn), .ref (md 4), .ref (md 5), .ref (md 6), .int (nI tl), .int (nI (sp + 1)), .int ((tx sp) - 48)])), ((md 1), .inl (cI, 86, .inl a)), ((md 2), .inl (cI, 86, .inl kp)), ((md 3), .inl (cI, 516, .inl hs)), ((md 4), .inl (cI, 172, .inl sl)), ((md 5), .inl (cI, 2, .inl iv)), ((md 6), .inl (cI, 60, .inl tx))] := hD
    refine lv_aload_n (pc := 39) hx hb dX4_readsTicks_39 rfl (lv_at hl 0 rfl) ?_
    refine lv_bipush (pc := 40) (v := 48) hx hb dX4_readsTicks_40 (by decide) ?_
    refine lv_bipush (pc := 42) (v := 57) hx hb dX4_readsTicks_42 (by decide) ?_
    refine b_cR (pc := 44) (va_runV (As := [.int 48, .int 57]) (rest := []) ⟨hx, hb, hml, hown, hts⟩ (c_X4_isHere l D cI cC cZ cG md a kp hs hn sl iv tx tl (sp + 1) ((tx sp) - 48) 48 57 (by first | omega | assumption) (by first | omega | assumption)) (cwV 2 hts gX4_readsTicks_X4_isHere rfl rfl rfl hy_X4_isHere ⟨Nat.le_of_ble_eq_true rfl, Nat.le_of_ble_eq_true rfl⟩) (b_pRV (wc := [((md 0), .inr (4, [.ref (md 1), .ref (md 2), .ref (md 3), .int (nI hn), .ref (md 4), .ref (md 5), .ref (md 6), .int (nI tl), .int (nI (sp + 1)), .int ((tx sp) - 48)])), ((md 1), .inl (cI, 86, .inl a)), ((md 2), .inl (cI, 86, .inl kp)), ((md 3), .inl (cI, 516, .inl hs)), ((md 4), .inl (cI, 172, .inl sl)), ((md 5), .inl (cI, 2, .inl iv)), ((md 6), .inl (cI, 60, .inl tx))]) hK hP [0, 1, 2, 3, 4, 5, 6] rfl (ci := 4) (q0 := 0) rfl rfl) rfl rfl hl.1 rfl (lv_room (Nat.le_of_ble_eq_true rfl)) dX4_readsTicks_44 ⟨Nat.zero_le _, Nat.zero_le _⟩) ?_
    refine lv_if_eq (pc := 47) (tgt := 84) hx hb dX4_readsTicks_47 (by decide) (fun c_2 => ?_) (fun c_2 => ?_)
    · skip
      have c_2 : ¬ (m_has tx tl (sp + 1) 48 57) := b_i_0.mp c_2
      refine lv_iconst (pc := 84) (v := 1) hx hb dX4_readsTicks_84 (by decide) ?_
      subst hQ
      exact b_retWZ hx hb hr hlocks rfl hS (rfl) (hP) dX4_readsTicks_85
    · skip
      have c_2 : m_has tx tl (sp + 1) 48 57 := Classical.not_not.mp (fun h9 => c_2 (b_i_0.mpr h9))
      exact absurd c_2 hq2
  · skip
    have c_1 : ¬ (m_has tx tl sp 49 57) := b_i_0.mp c_1
    exact absurd hq c_1
theorem hw_X4_readsTicks_2_0 : (.fieldLink RX4 25 "BeamTurnstilesModel" "text" "[I" : Cond) ∈ wsX4_readsTicks := by decide +kernel
theorem hi_X4_readsTicks_2_X4 : ∀ w ∈ wsX40, w ∈ wsX4_readsTicks := by decide +kernel
theorem hw_X4_readsTicks_2_2 : (.fieldLink RX4 147 "BeamTurnstilesModel" "spot" "I" : Cond) ∈ wsX4_readsTicks := by decide +kernel
theorem hw_X4_readsTicks_2_3 : (.fieldLink RX4 156 "BeamTurnstilesModel" "number" "I" : Cond) ∈ wsX4_readsTicks := by decide +kernel
set_option maxHeartbeats 4000000 in
set_option maxRecDepth 100000 in
theorem c_X4_readsTicks_2 (l : Launch) (D : va_G) (cI cC cZ cG : ClassId) (sz : Nat) (md : Nat → Nat) (a : Nat → Int32) (kp : Nat → Int32) (hs : Nat → Int32) (hn : Nat) (sl : Nat → Int32) (iv : Nat → Int32) (tx : Nat → Int32) (tl : Nat) (sp : Nat) (nu : Int32) (htl : tl ≤ 60) (hsp : sp ≤ tl) (hq : m_has tx tl sp 49 57) (hq2 : m_has tx tl (sp + 1) 48 57) : Met l yX4_readsTicks wsX4_readsTicks ({ frames := 2, cells := 0, slots := 0, locals := 47 } : Room) (b_W D (b_T cI cC cZ cG) b_X0 [((md 0), .inr (4, [.ref (md 1), .ref (md 2), .ref (md 3), .int (nI hn), .ref (md 4), .ref (md 5), .ref (md 6), .int (nI tl), .int (nI sp), .int nu])), ((md 1), .inl (cI, 86, .inl a)), ((md 2), .inl (cI, 86, .inl kp)), ((md 3), .inl (cI, 516, .inl hs)), ((md 4), .inl (cI, 172, .inl sl)), ((md 5), .inl (cI, 2, .inl iv)), ((md 6), .inl (cI, 60, .inl tx))] sz [.ref (md 0)]) (b_Qi D 1 [((md 0), .inr (4, [.ref (md 1), .ref (md 2), .ref (md 3), .int (nI hn), .ref (md 4), .ref (md 5), .ref (md 6), .int (nI tl), .int (nI (sp + 1 + 1)), .int (10 * (tx sp - 48) + tx (sp + 1) - 48)])), ((md 1), .inl (cI, 86, .inl a)), ((md 2), .inl (cI, 86, .inl kp)), ((md 3), .inl (cI, 516, .inl hs)), ((md 4), .inl (cI, 172, .inl sl)), ((md 5), .inl (cI, 2, .inl iv)), ((md 6), .inl (cI, 60, .inl tx))] (va_A [((md 0), .inr (4, [.ref (md 1), .ref (md 2), .ref (md 3), .int (nI hn), .ref (md 4), .ref (md 5), .ref (md 6), .int (nI tl), .int (nI sp), .int nu])), ((md 1), .inl (cI, 86, .inl a)), ((md 2), .inl (cI, 86, .inl kp)), ((md 3), .inl (cI, 516, .inl hs)), ((md 4), .inl (cI, 172, .inl sl)), ((md 5), .inl (cI, 2, .inl iv)), ((md 6), .inl (cI, 60, .inl tx))] sz)) 0 0 (va_A [((md 0), .inr (4, [.ref (md 1), .ref (md 2), .ref (md 3), .int (nI hn), .ref (md 4), .ref (md 5), .ref (md 6), .int (nI tl), .int (nI sp), .int nu])), ((md 1), .inl (cI, 86, .inl a)), ((md 2), .inl (cI, 86, .inl kp)), ((md 3), .inl (cI, 516, .inl hs)), ((md 4), .inl (cI, 172, .inl sl)), ((md 5), .inl (cI, 2, .inl iv)), ((md 6), .inl (cI, 60, .inl tx))] sz) := by
  refine b_enterW (Qc := fun A => b_Qi D 1 [((md 0), .inr (4, [.ref (md 1), .ref (md 2), .ref (md 3), .int (nI hn), .ref (md 4), .ref (md 5), .ref (md 6), .int (nI tl), .int (nI (sp + 1 + 1)), .int (10 * (tx sp - 48) + tx (sp + 1) - 48)])), ((md 1), .inl (cI, 86, .inl a)), ((md 2), .inl (cI, 86, .inl kp)), ((md 3), .inl (cI, 516, .inl hs)), ((md 4), .inl (cI, 172, .inl sl)), ((md 5), .inl (cI, 2, .inl iv)), ((md 6), .inl (cI, 60, .inl tx))] A) (cc := cX4_readsTicks) (maxL := 1) (ret := (some .boolean)) (by decide) rfl (Nat.le_of_ble_eq_true rfl) ?_
  intro p e s m below meth c ls A hx hb hr hml hown hts hlocks hname hP hK hD hA hS hX hl Q hQ
  have hown : s.vm.findClass RX4 = some m.cls := hown
  have hl : lv_has ls 1 [(0, .ref (md 0))] := hl
  have hqa := hq.1
  have hqb := hq2.1
  refine lv_aload_n (pc := 0) hx hb dX4_readsTicks_0 rfl (lv_at hl 0 rfl) ?_
  refine lv_bipush (pc := 1) (v := 49) hx hb dX4_readsTicks_1 (by decide) ?_
  refine lv_bipush (pc := 3) (v := 57) hx hb dX4_readsTicks_3 (by decide) ?_
  refine b_cR (pc := 5) (va_runV (As := [.int 49, .int 57]) (rest := []) ⟨hx, hb, hml, hown, hts⟩ (c_X4_isHere l D cI cC cZ cG md a kp hs hn sl iv tx tl sp nu 49 57 (by first | omega | assumption) (by first | omega | assumption)) (cwV 2 hts gX4_readsTicks_X4_isHere rfl rfl rfl hy_X4_isHere ⟨Nat.le_of_ble_eq_true rfl, Nat.le_of_ble_eq_true rfl⟩) (b_pRV (wc := [((md 0), .inr (4, [.ref (md 1), .ref (md 2), .ref (md 3), .int (nI hn), .ref (md 4), .ref (md 5), .ref (md 6), .int (nI tl), .int (nI sp), .int nu])), ((md 1), .inl (cI, 86, .inl a)), ((md 2), .inl (cI, 86, .inl kp)), ((md 3), .inl (cI, 516, .inl hs)), ((md 4), .inl (cI, 172, .inl sl)), ((md 5), .inl (cI, 2, .inl iv)), ((md 6), .inl (cI, 60, .inl tx))]) hK hP [0, 1, 2, 3, 4, 5, 6] rfl (ci := 4) (q0 := 0) rfl rfl) rfl rfl hl.1 rfl (lv_room (Nat.le_of_ble_eq_true rfl)) dX4_readsTicks_5 ⟨Nat.zero_le _, Nat.zero_le _⟩) ?_
  refine lv_if_ne (pc := 8) (tgt := 13) hx hb dX4_readsTicks_8 (by decide) (fun c_1 => ?_) (fun c_1 => ?_)
  · skip
    have c_1 : m_has tx tl sp 49 57 := Classical.not_not.mp (fun h9 => c_1 (b_i_0.mpr h9))
    refine lv_aload_n (pc := 13) hx hb dX4_readsTicks_13 rfl (lv_at hl 0 rfl) ?_
    refine lv_aload_n (pc := 14) hx hb dX4_readsTicks_14 rfl (lv_at hl 0 rfl) ?_
    refine va_get (pc := 15) (D := D) (ci := 4) (v := .ref (md 6)) (C := RX4) (T := TX4) (N := 10) hx hb hts hi_X4_readsTicks_2_X4 hown hK hP 0 rfl rfl 6 (by decide) (hts _ hw_X4_readsTicks_2_0) (fun _ h9 => h9) rfl dX4_readsTicks_15 ?_
    refine lv_aload_n (pc := 18) hx hb dX4_readsTicks_18 rfl (lv_at hl 0 rfl) ?_
    refine va_get (pc := 19) (D := D) (ci := 4) (v := .int (nI sp)) (C := RX4) (T := TX4) (N := 10) hx hb hts hi_X4_readsTicks_2_X4 hown hK hP 0 rfl rfl 8 (by decide) (hts _ hw_X4_readsTicks_2_2) (fun _ h9 => h9) rfl dX4_readsTicks_19 ?_
    refine b_iald (pc := 22) hx hb hK hP 6 0 rfl rfl sp rfl (by omega) (by decide) dX4_readsTicks_22 ?_
    refine lv_bipush (pc := 23) (v := 48) hx hb dX4_readsTicks_23 (by decide) ?_
    refine lv_isub (pc := 25) hx hb dX4_readsTicks_25 ?_
    refine va_put (pc := 26) (D := D) (ci := 4) (v := .int ((tx sp) - 48)) (ty := .int) (C := RX4) (T := TX4) (N := 10) hx hb hts hi_X4_readsTicks_2_X4 tyX4 tyX4_ok nmX4 hown hK hP hD hS 0 rfl rfl 9 (by decide) (hts _ hw_X4_readsTicks_2_3) (fun _ h9 => h9) rfl (by decide +kernel) rfl rfl (Nat.le_of_ble_eq_true rfl) dX4_readsTicks_26 (fun H locs hP hD hS => ?_)
    have hP : va_P D vwCl [((md 0), .inr (4, [.ref (md 1), .ref (md 2), .ref (md 3), .int (nI hn), .ref (md 4), .ref (md 5), .ref (md 6), .int (nI tl), .int (nI sp), .int ((tx sp) - 48)])), ((md 1), .inl (cI, 86, .inl a)), ((md 2), .inl (cI, 86, .inl kp)), ((md 3), .inl (cI, 516, .inl hs)), ((md 4), .inl (cI, 172, .inl sl)), ((md 5), .inl (cI, 2, .inl iv)), ((md 6), .inl (cI, 60, .inl tx))] H := hP
    have hD : va_D A [((md 0), .inr (4, [.ref (md 1), .ref (md 2), .ref (md 3), .int (nI hn), .ref (md 4), .ref (md 5), .ref (md 6), .int (nI tl), .int (nI sp), .int ((tx sp) - 48)])), ((md 1), .inl (cI, 86, .inl a)), ((md 2), .inl (cI, 86, .inl kp)), ((md 3), .inl (cI, 516, .inl hs)), ((md 4), .inl (cI, 172, .inl sl)), ((md 5), .inl (cI, 2, .inl iv)), ((md 6), .inl (cI, 60, .inl tx))] := hD
    refine lv_aload_n (pc := 29) hx hb dX4_readsTicks_29 rfl (lv_at hl 0 rfl) ?_
    refine lv_dup (pc := 30) hx hb dX4_readsTicks_30 rfl ?_
    refine va_get (pc := 31) (D := D) (ci := 4) (v := .int (nI sp)) (C := RX4) (T := TX4) (N := 10) hx hb hts hi_X4_readsTicks_2_X4 hown hK hP 0 rfl rfl 8 (by decide) (hts _ hw_X4_readsTicks_2_2) (fun _ h9 => h9) rfl dX4_readsTicks_31 ?_
    refine lv_iconst (pc := 34) (v := 1) hx hb dX4_readsTicks_34 (by decide) ?_
    refine lv_iadd (pc := 35) hx hb dX4_readsTicks_35 ?_
    refine b_re (nI_add sp 1) ?_
    refine va_put (pc := 36) (D := D) (ci := 4) (v := .int (nI (sp + 1))) (ty := .int) (C := RX4) (T := TX4) (N := 10) hx hb hts hi_X4_readsTicks_2_X4 tyX4 tyX4_ok nmX4 hown hK hP hD hS 0 rfl rfl 8 (by decide) (hts _ hw_X4_readsTicks_2_2) (fun _ h9 => h9) rfl (by decide +kernel) rfl rfl (Nat.le_of_ble_eq_true rfl) dX4_readsTicks_36 (fun H locs hP hD hS => ?_)
    have hP : va_P D vwCl [((md 0), .inr (4, [.ref (md 1), .ref (md 2), .ref (md 3), .int (nI hn), .ref (md 4), .ref (md 5), .ref (md 6), .int (nI tl), .int (nI (sp + 1)), .int ((tx sp) - 48)])), ((md 1), .inl (cI, 86, .inl a)), ((md 2), .inl (cI, 86, .inl kp)), ((md 3), .inl (cI, 516, .inl hs)), ((md 4), .inl (cI, 172, .inl sl)), ((md 5), .inl (cI, 2, .inl iv)), ((md 6), .inl (cI, 60, .inl tx))] H := hP
    have hD : va_D A [((md 0), .inr (4, [.ref (md 1), .ref (md 2), .ref (md 3), .int (nI hn), .ref (md 4), .ref (md 5), .ref (md 6), .int (nI tl), .int (nI (sp + 1)), .int ((tx sp) - 48)])), ((md 1), .inl (cI, 86, .inl a)), ((md 2), .inl (cI, 86, .inl kp)), ((md 3), .inl (cI, 516, .inl hs)), ((md 4), .inl (cI, 172, .inl sl)), ((md 5), .inl (cI, 2, .inl iv)), ((md 6), .inl (cI, 60, .inl tx))] := hD
    refine lv_aload_n (pc := 39) hx hb dX4_readsTicks_39 rfl (lv_at hl 0 rfl) ?_
    refine lv_bipush (pc := 40) (v := 48) hx hb dX4_readsTicks_40 (by decide) ?_
    refine lv_bipush (pc := 42) (v := 57) hx hb dX4_readsTicks_42 (by decide) ?_
    refine b_cR (pc := 44) (va_runV (As := [.int 48, .int 57]) (rest := []) ⟨hx, hb, hml, hown, hts⟩ (c_X4_isHere l D cI cC cZ cG md a kp hs hn sl iv tx tl (sp + 1) ((tx sp) - 48) 48 57 (by first | omega | assumption) (by first | omega | assumption)) (cwV 2 hts gX4_readsTicks_X4_isHere rfl rfl rfl hy_X4_isHere ⟨Nat.le_of_ble_eq_true rfl, Nat.le_of_ble_eq_true rfl⟩) (b_pRV (wc := [((md 0), .inr (4, [.ref (md 1), .ref (md 2), .ref (md 3), .int (nI hn), .ref (md 4), .ref (md 5), .ref (md 6), .int (nI tl), .int (nI (sp + 1)), .int ((tx sp) - 48)])), ((md 1), .inl (cI, 86, .inl a)), ((md 2), .inl (cI, 86, .inl kp)), ((md 3), .inl (cI, 516, .inl hs)), ((md 4), .inl (cI, 172, .inl sl)), ((md 5), .inl (cI, 2, .inl iv)), ((md 6), .inl (cI, 60, .inl tx))]) hK hP [0, 1, 2, 3, 4, 5, 6] rfl (ci := 4) (q0 := 0) rfl rfl) rfl rfl hl.1 rfl (lv_room (Nat.le_of_ble_eq_true rfl)) dX4_readsTicks_44 ⟨Nat.zero_le _, Nat.zero_le _⟩) ?_
    refine lv_if_eq (pc := 47) (tgt := 84) hx hb dX4_readsTicks_47 (by decide) (fun c_2 => ?_) (fun c_2 => ?_)
    · skip
      have c_2 : ¬ (m_has tx tl (sp + 1) 48 57) := b_i_0.mp c_2
      exact absurd hq2 c_2
    · skip
      have c_2 : m_has tx tl (sp + 1) 48 57 := Classical.not_not.mp (fun h9 => c_2 (b_i_0.mpr h9))
      refine lv_aload_n (pc := 50) hx hb dX4_readsTicks_50 rfl (lv_at hl 0 rfl) ?_
      refine lv_bipush (pc := 51) (v := 10) hx hb dX4_readsTicks_51 (by decide) ?_
      refine lv_aload_n (pc := 53) hx hb dX4_readsTicks_53 rfl (lv_at hl 0 rfl) ?_
      refine va_get (pc := 54) (D := D) (ci := 4) (v := .int ((tx sp) - 48)) (C := RX4) (T := TX4) (N := 10) hx hb hts hi_X4_readsTicks_2_X4 hown hK hP 0 rfl rfl 9 (by decide) (hts _ hw_X4_readsTicks_2_3) (fun _ h9 => h9) rfl dX4_readsTicks_54 ?_
      refine lv_imul (pc := 57) hx hb dX4_readsTicks_57 ?_
      refine lv_aload_n (pc := 58) hx hb dX4_readsTicks_58 rfl (lv_at hl 0 rfl) ?_
      refine va_get (pc := 59) (D := D) (ci := 4) (v := .ref (md 6)) (C := RX4) (T := TX4) (N := 10) hx hb hts hi_X4_readsTicks_2_X4 hown hK hP 0 rfl rfl 6 (by decide) (hts _ hw_X4_readsTicks_2_0) (fun _ h9 => h9) rfl dX4_readsTicks_59 ?_
      refine lv_aload_n (pc := 62) hx hb dX4_readsTicks_62 rfl (lv_at hl 0 rfl) ?_
      refine va_get (pc := 63) (D := D) (ci := 4) (v := .int (nI (sp + 1))) (C := RX4) (T := TX4) (N := 10) hx hb hts hi_X4_readsTicks_2_X4 hown hK hP 0 rfl rfl 8 (by decide) (hts _ hw_X4_readsTicks_2_2) (fun _ h9 => h9) rfl dX4_readsTicks_63 ?_
      refine b_iald (pc := 66) hx hb hK hP 6 0 rfl rfl (sp + 1) rfl (by omega) (by decide) dX4_readsTicks_66 ?_
      refine lv_iadd (pc := 67) hx hb dX4_readsTicks_67 ?_
      refine lv_bipush (pc := 68) (v := 48) hx hb dX4_readsTicks_68 (by decide) ?_
      refine lv_isub (pc := 70) hx hb dX4_readsTicks_70 ?_
      refine va_put (pc := 71) (D := D) (ci := 4) (v := .int (((10 * ((tx sp) - 48)) + (tx (sp + 1))) - 48)) (ty := .int) (C := RX4) (T := TX4) (N := 10) hx hb hts hi_X4_readsTicks_2_X4 tyX4 tyX4_ok nmX4 hown hK hP hD hS 0 rfl rfl 9 (by decide) (hts _ hw_X4_readsTicks_2_3) (fun _ h9 => h9) rfl (by decide +kernel) rfl rfl (Nat.le_of_ble_eq_true rfl) dX4_readsTicks_71 (fun H locs hP hD hS => ?_)
      have hP : va_P D vwCl [((md 0), .inr (4, [.ref (md 1), .ref (md 2), .ref (md 3), .int (nI hn), .ref (md 4), .ref (md 5), .ref (md 6), .int (nI tl), .int (nI (sp + 1)), .int (((10 * ((tx sp) - 48)) + (tx (sp + 1))) - 48)])), ((md 1), .inl (cI, 86, .inl a)), ((md 2), .inl (cI, 86, .inl kp)), ((md 3), .inl (cI, 516, .inl hs)), ((md 4), .inl (cI, 172, .inl sl)), ((md 5), .inl (cI, 2, .inl iv)), ((md 6), .inl (cI, 60, .inl tx))] H := hP
      have hD : va_D A [((md 0), .inr (4, [.ref (md 1), .ref (md 2), .ref (md 3), .int (nI hn), .ref (md 4), .ref (md 5), .ref (md 6), .int (nI tl), .int (nI (sp + 1)), .int (((10 * ((tx sp) - 48)) + (tx (sp + 1))) - 48)])), ((md 1), .inl (cI, 86, .inl a)), ((md 2), .inl (cI, 86, .inl kp)), ((md 3), .inl (cI, 516, .inl hs)), ((md 4), .inl (cI, 172, .inl sl)), ((md 5), .inl (cI, 2, .inl iv)), ((md 6), .inl (cI, 60, .inl tx))] := hD
      refine lv_aload_n (pc := 74) hx hb dX4_readsTicks_74 rfl (lv_at hl 0 rfl) ?_
      refine lv_dup (pc := 75) hx hb dX4_readsTicks_75 rfl ?_
      refine va_get (pc := 76) (D := D) (ci := 4) (v := .int (nI (sp + 1))) (C := RX4) (T := TX4) (N := 10) hx hb hts hi_X4_readsTicks_2_X4 hown hK hP 0 rfl rfl 8 (by decide) (hts _ hw_X4_readsTicks_2_2) (fun _ h9 => h9) rfl dX4_readsTicks_76 ?_
      refine lv_iconst (pc := 79) (v := 1) hx hb dX4_readsTicks_79 (by decide) ?_
      refine lv_iadd (pc := 80) hx hb dX4_readsTicks_80 ?_
      refine b_re (nI_add (sp + 1) 1) ?_
      refine va_put (pc := 81) (D := D) (ci := 4) (v := .int (nI (sp + 1 + 1))) (ty := .int) (C := RX4) (T := TX4) (N := 10) hx hb hts hi_X4_readsTicks_2_X4 tyX4 tyX4_ok nmX4 hown hK hP hD hS 0 rfl rfl 8 (by decide) (hts _ hw_X4_readsTicks_2_2) (fun _ h9 => h9) rfl (by decide +kernel) rfl rfl (Nat.le_of_ble_eq_true rfl) dX4_readsTicks_81 (fun H locs hP hD hS => ?_)
      have hP : va_P D vwCl [((md 0), .inr (4, [.ref (md 1), .ref (md 2), .ref (md 3), .int (nI hn), .ref (md 4), .ref (md 5), .ref (md 6), .int (nI tl), .int (nI (sp + 1 + 1)), .int (((10 * ((tx sp) - 48)) + (tx (sp + 1))) - 48)])), ((md 1), .inl (cI, 86, .inl a)), ((md 2), .inl (cI, 86, .inl kp)), ((md 3), .inl (cI, 516, .inl hs)), ((md 4), .inl (cI, 172, .inl sl)), ((md 5), .inl (cI, 2, .inl iv)), ((md 6), .inl (cI, 60, .inl tx))] H := hP
      have hD : va_D A [((md 0), .inr (4, [.ref (md 1), .ref (md 2), .ref (md 3), .int (nI hn), .ref (md 4), .ref (md 5), .ref (md 6), .int (nI tl), .int (nI (sp + 1 + 1)), .int (((10 * ((tx sp) - 48)) + (tx (sp + 1))) - 48)])), ((md 1), .inl (cI, 86, .inl a)), ((md 2), .inl (cI, 86, .inl kp)), ((md 3), .inl (cI, 516, .inl hs)), ((md 4), .inl (cI, 172, .inl sl)), ((md 5), .inl (cI, 2, .inl iv)), ((md 6), .inl (cI, 60, .inl tx))] := hD
      refine lv_iconst (pc := 84) (v := 1) hx hb dX4_readsTicks_84 (by decide) ?_
      subst hQ
      exact b_retWZ hx hb hr hlocks rfl hS (rfl) (hP) dX4_readsTicks_85
  · skip
    have c_1 : ¬ (m_has tx tl sp 49 57) := b_i_0.mp c_1
    exact absurd hq c_1
theorem hw_X4_readsEvent_0 : (.fieldLink RX4 147 "BeamTurnstilesModel" "spot" "I" : Cond) ∈ wsX4_readsEvent := by decide +kernel
theorem hi_X4_readsEvent_X4 : ∀ w ∈ wsX40, w ∈ wsX4_readsEvent := by decide +kernel
set_option maxHeartbeats 4000000 in
set_option maxRecDepth 100000 in
theorem c_X4_readsEvent (l : Launch) (D : va_G) (cI cC cZ cG : ClassId) (sz : Nat) (md : Nat → Nat) (a : Nat → Int32) (kp : Nat → Int32) (hs : Nat → Int32) (hn : Nat) (sl : Nat → Int32) (iv : Nat → Int32) (tx : Nat → Int32) (tl : Nat) (sp : Nat) (nu : Int32) (htl : tl ≤ 60) (hsp : sp ≤ tl) : Met l yX4_readsEvent wsX4_readsEvent ({ frames := 4, cells := 0, slots := 0, locals := 89 } : Room) (b_W D (b_T cI cC cZ cG) b_X0 [((md 0), .inr (4, [.ref (md 1), .ref (md 2), .ref (md 3), .int (nI hn), .ref (md 4), .ref (md 5), .ref (md 6), .int (nI tl), .int (nI sp), .int nu])), ((md 1), .inl (cI, 86, .inl a)), ((md 2), .inl (cI, 86, .inl kp)), ((md 3), .inl (cI, 516, .inl hs)), ((md 4), .inl (cI, 172, .inl sl)), ((md 5), .inl (cI, 2, .inl iv)), ((md 6), .inl (cI, 60, .inl tx))] sz [.ref (md 0)]) (b_Qi D (b_i ((m_re tx tl sp nu).1 = true)) [((md 0), .inr (4, [.ref (md 1), .ref (md 2), .ref (md 3), .int (nI hn), .ref (md 4), .ref (md 5), .ref (md 6), .int (nI tl), .int (nI ((m_re tx tl sp nu).2.1)), .int ((m_re tx tl sp nu).2.2)])), ((md 1), .inl (cI, 86, .inl a)), ((md 2), .inl (cI, 86, .inl kp)), ((md 3), .inl (cI, 516, .inl hs)), ((md 4), .inl (cI, 172, .inl sl)), ((md 5), .inl (cI, 2, .inl iv)), ((md 6), .inl (cI, 60, .inl tx))] (va_A [((md 0), .inr (4, [.ref (md 1), .ref (md 2), .ref (md 3), .int (nI hn), .ref (md 4), .ref (md 5), .ref (md 6), .int (nI tl), .int (nI sp), .int nu])), ((md 1), .inl (cI, 86, .inl a)), ((md 2), .inl (cI, 86, .inl kp)), ((md 3), .inl (cI, 516, .inl hs)), ((md 4), .inl (cI, 172, .inl sl)), ((md 5), .inl (cI, 2, .inl iv)), ((md 6), .inl (cI, 60, .inl tx))] sz)) 0 0 (va_A [((md 0), .inr (4, [.ref (md 1), .ref (md 2), .ref (md 3), .int (nI hn), .ref (md 4), .ref (md 5), .ref (md 6), .int (nI tl), .int (nI sp), .int nu])), ((md 1), .inl (cI, 86, .inl a)), ((md 2), .inl (cI, 86, .inl kp)), ((md 3), .inl (cI, 516, .inl hs)), ((md 4), .inl (cI, 172, .inl sl)), ((md 5), .inl (cI, 2, .inl iv)), ((md 6), .inl (cI, 60, .inl tx))] sz) := by
  refine b_enterW (Qc := fun A => b_Qi D (b_i ((m_re tx tl sp nu).1 = true)) [((md 0), .inr (4, [.ref (md 1), .ref (md 2), .ref (md 3), .int (nI hn), .ref (md 4), .ref (md 5), .ref (md 6), .int (nI tl), .int (nI ((m_re tx tl sp nu).2.1)), .int ((m_re tx tl sp nu).2.2)])), ((md 1), .inl (cI, 86, .inl a)), ((md 2), .inl (cI, 86, .inl kp)), ((md 3), .inl (cI, 516, .inl hs)), ((md 4), .inl (cI, 172, .inl sl)), ((md 5), .inl (cI, 2, .inl iv)), ((md 6), .inl (cI, 60, .inl tx))] A) (cc := cX4_readsEvent) (maxL := 1) (ret := (some .boolean)) (by decide) rfl (Nat.le_of_ble_eq_true rfl) ?_
  intro p e s m below meth c ls A hx hb hr hml hown hts hlocks hname hP hK hD hA hS hX hl Q hQ
  have hown : s.vm.findClass RX4 = some m.cls := hown
  have hl : lv_has ls 1 [(0, .ref (md 0))] := hl
  refine lv_aload_n (pc := 0) hx hb dX4_readsEvent_0 rfl (lv_at hl 0 rfl) ?_
  refine lv_bipush (pc := 1) (v := 46) hx hb dX4_readsEvent_1 (by decide) ?_
  rcases Classical.em (m_has tx tl sp 46 46) with hq_1 | hq_2
  · skip
    refine b_cW (pc := 3) (w1 := [((md 0), .inr (4, [.ref (md 1), .ref (md 2), .ref (md 3), .int (nI hn), .ref (md 4), .ref (md 5), .ref (md 6), .int (nI tl), .int (nI (sp + 1)), .int nu])), ((md 1), .inl (cI, 86, .inl a)), ((md 2), .inl (cI, 86, .inl kp)), ((md 3), .inl (cI, 516, .inl hs)), ((md 4), .inl (cI, 172, .inl sl)), ((md 5), .inl (cI, 2, .inl iv)), ((md 6), .inl (cI, 60, .inl tx))]) (va_runV (As := [.int 46]) (rest := []) ⟨hx, hb, hml, hown, hts⟩ (c_X4_takesOne_y l D cI cC cZ cG s.heap.size md a kp hs hn sl iv tx tl sp nu 46 (by first | omega | assumption) (by first | omega | assumption) hq_1) (cwV 1 hts gX4_readsEvent_X4_takesOne rfl rfl rfl hy_X4_takesOne ⟨Nat.le_of_ble_eq_true rfl, Nat.le_of_ble_eq_true rfl⟩) (b_pWV (wc := [((md 0), .inr (4, [.ref (md 1), .ref (md 2), .ref (md 3), .int (nI hn), .ref (md 4), .ref (md 5), .ref (md 6), .int (nI tl), .int (nI sp), .int nu])), ((md 1), .inl (cI, 86, .inl a)), ((md 2), .inl (cI, 86, .inl kp)), ((md 3), .inl (cI, 516, .inl hs)), ((md 4), .inl (cI, 172, .inl sl)), ((md 5), .inl (cI, 2, .inl iv)), ((md 6), .inl (cI, 60, .inl tx))]) hK hP hD b_Xok_0 [0, 1, 2, 3, 4, 5, 6] rfl (by decide) rfl trivial (ci := 4) (q0 := 0) rfl rfl) rfl rfl hl.1 rfl (lv_room (Nat.le_of_ble_eq_true rfl)) dX4_readsEvent_3 ⟨Nat.zero_le _, Nat.zero_le _⟩) hP hD hS hA [0, 1, 2, 3, 4, 5, 6] rfl rfl (fun H locs hP hD hS => ?_)
    have hP : va_P D vwCl [((md 0), .inr (4, [.ref (md 1), .ref (md 2), .ref (md 3), .int (nI hn), .ref (md 4), .ref (md 5), .ref (md 6), .int (nI tl), .int (nI (sp + 1)), .int nu])), ((md 1), .inl (cI, 86, .inl a)), ((md 2), .inl (cI, 86, .inl kp)), ((md 3), .inl (cI, 516, .inl hs)), ((md 4), .inl (cI, 172, .inl sl)), ((md 5), .inl (cI, 2, .inl iv)), ((md 6), .inl (cI, 60, .inl tx))] H := hP
    have hD : va_D A [((md 0), .inr (4, [.ref (md 1), .ref (md 2), .ref (md 3), .int (nI hn), .ref (md 4), .ref (md 5), .ref (md 6), .int (nI tl), .int (nI (sp + 1)), .int nu])), ((md 1), .inl (cI, 86, .inl a)), ((md 2), .inl (cI, 86, .inl kp)), ((md 3), .inl (cI, 516, .inl hs)), ((md 4), .inl (cI, 172, .inl sl)), ((md 5), .inl (cI, 2, .inl iv)), ((md 6), .inl (cI, 60, .inl tx))] := hD
    refine lv_if_eq (pc := 6) (tgt := 14) hx hb dX4_readsEvent_6 (by decide) (fun c_3 => ?_) (fun c_3 => ?_)
    · skip
      exact absurd c_3 (by decide)
    · skip
      refine lv_aload_n (pc := 9) hx hb dX4_readsEvent_9 rfl (lv_at hl 0 rfl) ?_
      rcases m_rt_em tx tl (sp + 1) with hq_4 | hq_5 | hq_6
      · skip
        refine b_cW (pc := 10) (w1 := [((md 0), .inr (4, [.ref (md 1), .ref (md 2), .ref (md 3), .int (nI hn), .ref (md 4), .ref (md 5), .ref (md 6), .int (nI tl), .int (nI (sp + 1)), .int nu])), ((md 1), .inl (cI, 86, .inl a)), ((md 2), .inl (cI, 86, .inl kp)), ((md 3), .inl (cI, 516, .inl hs)), ((md 4), .inl (cI, 172, .inl sl)), ((md 5), .inl (cI, 2, .inl iv)), ((md 6), .inl (cI, 60, .inl tx))]) (va_runV (As := []) (rest := []) ⟨hx, hb, hml, hown, hts⟩ (c_X4_readsTicks_n l D cI cC cZ cG H.size md a kp hs hn sl iv tx tl (sp + 1) nu (by first | omega | assumption) (by first | omega | assumption) hq_4) (cwV 0 hts gX4_readsEvent_X4_readsTicks rfl rfl rfl hy_X4_readsTicks ⟨Nat.le_of_ble_eq_true rfl, Nat.le_of_ble_eq_true rfl⟩) (b_pWV (wc := [((md 0), .inr (4, [.ref (md 1), .ref (md 2), .ref (md 3), .int (nI hn), .ref (md 4), .ref (md 5), .ref (md 6), .int (nI tl), .int (nI (sp + 1)), .int nu])), ((md 1), .inl (cI, 86, .inl a)), ((md 2), .inl (cI, 86, .inl kp)), ((md 3), .inl (cI, 516, .inl hs)), ((md 4), .inl (cI, 172, .inl sl)), ((md 5), .inl (cI, 2, .inl iv)), ((md 6), .inl (cI, 60, .inl tx))]) hK hP hD b_Xok_0 [0, 1, 2, 3, 4, 5, 6] rfl (by decide) rfl trivial (ci := 4) (q0 := 0) rfl rfl) rfl rfl hl.1 rfl (lv_room (Nat.le_of_ble_eq_true rfl)) dX4_readsEvent_10 ⟨Nat.zero_le _, Nat.zero_le _⟩) hP hD hS hA [0, 1, 2, 3, 4, 5, 6] rfl rfl (fun H locs hP hD hS => ?_)
        have hP : va_P D vwCl [((md 0), .inr (4, [.ref (md 1), .ref (md 2), .ref (md 3), .int (nI hn), .ref (md 4), .ref (md 5), .ref (md 6), .int (nI tl), .int (nI (sp + 1)), .int nu])), ((md 1), .inl (cI, 86, .inl a)), ((md 2), .inl (cI, 86, .inl kp)), ((md 3), .inl (cI, 516, .inl hs)), ((md 4), .inl (cI, 172, .inl sl)), ((md 5), .inl (cI, 2, .inl iv)), ((md 6), .inl (cI, 60, .inl tx))] H := hP
        have hD : va_D A [((md 0), .inr (4, [.ref (md 1), .ref (md 2), .ref (md 3), .int (nI hn), .ref (md 4), .ref (md 5), .ref (md 6), .int (nI tl), .int (nI (sp + 1)), .int nu])), ((md 1), .inl (cI, 86, .inl a)), ((md 2), .inl (cI, 86, .inl kp)), ((md 3), .inl (cI, 516, .inl hs)), ((md 4), .inl (cI, 172, .inl sl)), ((md 5), .inl (cI, 2, .inl iv)), ((md 6), .inl (cI, 60, .inl tx))] := hD
        subst hQ
        exact b_retWZ hx hb hr hlocks rfl hS (by have e7 : m_re tx tl sp nu = (false, sp + 1, nu) := (by simp only [m_re, if_pos hq_1, if_neg hq_4]); rw [e7]; exact (b_i_f Bool.false_ne_true).symm) (by have e7 : m_re tx tl sp nu = (false, sp + 1, nu) := (by simp only [m_re, if_pos hq_1, if_neg hq_4]); rw [e7]; exact hP) dX4_readsEvent_13
      · skip
        refine b_cW (pc := 10) (w1 := [((md 0), .inr (4, [.ref (md 1), .ref (md 2), .ref (md 3), .int (nI hn), .ref (md 4), .ref (md 5), .ref (md 6), .int (nI tl), .int (nI ((sp + 1) + 1)), .int (tx (sp + 1) - 48)])), ((md 1), .inl (cI, 86, .inl a)), ((md 2), .inl (cI, 86, .inl kp)), ((md 3), .inl (cI, 516, .inl hs)), ((md 4), .inl (cI, 172, .inl sl)), ((md 5), .inl (cI, 2, .inl iv)), ((md 6), .inl (cI, 60, .inl tx))]) (va_runV (As := []) (rest := []) ⟨hx, hb, hml, hown, hts⟩ (c_X4_readsTicks_1 l D cI cC cZ cG H.size md a kp hs hn sl iv tx tl (sp + 1) nu (by omega) (by omega) hq_5.1 hq_5.2) (cwV 0 hts gX4_readsEvent_X4_readsTicks rfl rfl rfl hy_X4_readsTicks ⟨Nat.le_of_ble_eq_true rfl, Nat.le_of_ble_eq_true rfl⟩) (b_pWV (wc := [((md 0), .inr (4, [.ref (md 1), .ref (md 2), .ref (md 3), .int (nI hn), .ref (md 4), .ref (md 5), .ref (md 6), .int (nI tl), .int (nI (sp + 1)), .int nu])), ((md 1), .inl (cI, 86, .inl a)), ((md 2), .inl (cI, 86, .inl kp)), ((md 3), .inl (cI, 516, .inl hs)), ((md 4), .inl (cI, 172, .inl sl)), ((md 5), .inl (cI, 2, .inl iv)), ((md 6), .inl (cI, 60, .inl tx))]) hK hP hD b_Xok_0 [0, 1, 2, 3, 4, 5, 6] rfl (by decide) rfl trivial (ci := 4) (q0 := 0) rfl rfl) rfl rfl hl.1 rfl (lv_room (Nat.le_of_ble_eq_true rfl)) dX4_readsEvent_10 ⟨Nat.zero_le _, Nat.zero_le _⟩) hP hD hS hA [0, 1, 2, 3, 4, 5, 6] rfl rfl (fun H locs hP hD hS => ?_)
        have hP : va_P D vwCl [((md 0), .inr (4, [.ref (md 1), .ref (md 2), .ref (md 3), .int (nI hn), .ref (md 4), .ref (md 5), .ref (md 6), .int (nI tl), .int (nI ((sp + 1) + 1)), .int (tx (sp + 1) - 48)])), ((md 1), .inl (cI, 86, .inl a)), ((md 2), .inl (cI, 86, .inl kp)), ((md 3), .inl (cI, 516, .inl hs)), ((md 4), .inl (cI, 172, .inl sl)), ((md 5), .inl (cI, 2, .inl iv)), ((md 6), .inl (cI, 60, .inl tx))] H := hP
        have hD : va_D A [((md 0), .inr (4, [.ref (md 1), .ref (md 2), .ref (md 3), .int (nI hn), .ref (md 4), .ref (md 5), .ref (md 6), .int (nI tl), .int (nI ((sp + 1) + 1)), .int (tx (sp + 1) - 48)])), ((md 1), .inl (cI, 86, .inl a)), ((md 2), .inl (cI, 86, .inl kp)), ((md 3), .inl (cI, 516, .inl hs)), ((md 4), .inl (cI, 172, .inl sl)), ((md 5), .inl (cI, 2, .inl iv)), ((md 6), .inl (cI, 60, .inl tx))] := hD
        subst hQ
        exact b_retWZ hx hb hr hlocks rfl hS (by have e7 : m_re tx tl sp nu = (true, (sp + 1) + 1, tx (sp + 1) - 48) := (by simp only [m_re, if_pos hq_1, if_pos hq_5.1, if_neg hq_5.2]); rw [e7]; exact (b_i_t rfl).symm) (by have e7 : m_re tx tl sp nu = (true, (sp + 1) + 1, tx (sp + 1) - 48) := (by simp only [m_re, if_pos hq_1, if_pos hq_5.1, if_neg hq_5.2]); rw [e7]; exact hP) dX4_readsEvent_13
      · skip
        refine b_cW (pc := 10) (w1 := [((md 0), .inr (4, [.ref (md 1), .ref (md 2), .ref (md 3), .int (nI hn), .ref (md 4), .ref (md 5), .ref (md 6), .int (nI tl), .int (nI ((sp + 1) + 1 + 1)), .int (10 * (tx (sp + 1) - 48) + tx ((sp + 1) + 1) - 48)])), ((md 1), .inl (cI, 86, .inl a)), ((md 2), .inl (cI, 86, .inl kp)), ((md 3), .inl (cI, 516, .inl hs)), ((md 4), .inl (cI, 172, .inl sl)), ((md 5), .inl (cI, 2, .inl iv)), ((md 6), .inl (cI, 60, .inl tx))]) (va_runV (As := []) (rest := []) ⟨hx, hb, hml, hown, hts⟩ (c_X4_readsTicks_2 l D cI cC cZ cG H.size md a kp hs hn sl iv tx tl (sp + 1) nu (by omega) (by omega) hq_6.1 hq_6.2) (cwV 0 hts gX4_readsEvent_X4_readsTicks rfl rfl rfl hy_X4_readsTicks ⟨Nat.le_of_ble_eq_true rfl, Nat.le_of_ble_eq_true rfl⟩) (b_pWV (wc := [((md 0), .inr (4, [.ref (md 1), .ref (md 2), .ref (md 3), .int (nI hn), .ref (md 4), .ref (md 5), .ref (md 6), .int (nI tl), .int (nI (sp + 1)), .int nu])), ((md 1), .inl (cI, 86, .inl a)), ((md 2), .inl (cI, 86, .inl kp)), ((md 3), .inl (cI, 516, .inl hs)), ((md 4), .inl (cI, 172, .inl sl)), ((md 5), .inl (cI, 2, .inl iv)), ((md 6), .inl (cI, 60, .inl tx))]) hK hP hD b_Xok_0 [0, 1, 2, 3, 4, 5, 6] rfl (by decide) rfl trivial (ci := 4) (q0 := 0) rfl rfl) rfl rfl hl.1 rfl (lv_room (Nat.le_of_ble_eq_true rfl)) dX4_readsEvent_10 ⟨Nat.zero_le _, Nat.zero_le _⟩) hP hD hS hA [0, 1, 2, 3, 4, 5, 6] rfl rfl (fun H locs hP hD hS => ?_)
        have hP : va_P D vwCl [((md 0), .inr (4, [.ref (md 1), .ref (md 2), .ref (md 3), .int (nI hn), .ref (md 4), .ref (md 5), .ref (md 6), .int (nI tl), .int (nI ((sp + 1) + 1 + 1)), .int (10 * (tx (sp + 1) - 48) + tx ((sp + 1) + 1) - 48)])), ((md 1), .inl (cI, 86, .inl a)), ((md 2), .inl (cI, 86, .inl kp)), ((md 3), .inl (cI, 516, .inl hs)), ((md 4), .inl (cI, 172, .inl sl)), ((md 5), .inl (cI, 2, .inl iv)), ((md 6), .inl (cI, 60, .inl tx))] H := hP
        have hD : va_D A [((md 0), .inr (4, [.ref (md 1), .ref (md 2), .ref (md 3), .int (nI hn), .ref (md 4), .ref (md 5), .ref (md 6), .int (nI tl), .int (nI ((sp + 1) + 1 + 1)), .int (10 * (tx (sp + 1) - 48) + tx ((sp + 1) + 1) - 48)])), ((md 1), .inl (cI, 86, .inl a)), ((md 2), .inl (cI, 86, .inl kp)), ((md 3), .inl (cI, 516, .inl hs)), ((md 4), .inl (cI, 172, .inl sl)), ((md 5), .inl (cI, 2, .inl iv)), ((md 6), .inl (cI, 60, .inl tx))] := hD
        subst hQ
        exact b_retWZ hx hb hr hlocks rfl hS (by have e7 : m_re tx tl sp nu = (true, (sp + 1) + 1 + 1, 10 * (tx (sp + 1) - 48) + tx ((sp + 1) + 1) - 48) := (by simp only [m_re, if_pos hq_1, if_pos hq_6.1, if_pos hq_6.2]); rw [e7]; exact (b_i_t rfl).symm) (by have e7 : m_re tx tl sp nu = (true, (sp + 1) + 1 + 1, 10 * (tx (sp + 1) - 48) + tx ((sp + 1) + 1) - 48) := (by simp only [m_re, if_pos hq_1, if_pos hq_6.1, if_pos hq_6.2]); rw [e7]; exact hP) dX4_readsEvent_13
  · skip
    refine b_cW (pc := 3) (w1 := [((md 0), .inr (4, [.ref (md 1), .ref (md 2), .ref (md 3), .int (nI hn), .ref (md 4), .ref (md 5), .ref (md 6), .int (nI tl), .int (nI sp), .int nu])), ((md 1), .inl (cI, 86, .inl a)), ((md 2), .inl (cI, 86, .inl kp)), ((md 3), .inl (cI, 516, .inl hs)), ((md 4), .inl (cI, 172, .inl sl)), ((md 5), .inl (cI, 2, .inl iv)), ((md 6), .inl (cI, 60, .inl tx))]) (va_runV (As := [.int 46]) (rest := []) ⟨hx, hb, hml, hown, hts⟩ (c_X4_takesOne_n l D cI cC cZ cG s.heap.size md a kp hs hn sl iv tx tl sp nu 46 (by first | omega | assumption) (by first | omega | assumption) hq_2) (cwV 1 hts gX4_readsEvent_X4_takesOne rfl rfl rfl hy_X4_takesOne ⟨Nat.le_of_ble_eq_true rfl, Nat.le_of_ble_eq_true rfl⟩) (b_pWV (wc := [((md 0), .inr (4, [.ref (md 1), .ref (md 2), .ref (md 3), .int (nI hn), .ref (md 4), .ref (md 5), .ref (md 6), .int (nI tl), .int (nI sp), .int nu])), ((md 1), .inl (cI, 86, .inl a)), ((md 2), .inl (cI, 86, .inl kp)), ((md 3), .inl (cI, 516, .inl hs)), ((md 4), .inl (cI, 172, .inl sl)), ((md 5), .inl (cI, 2, .inl iv)), ((md 6), .inl (cI, 60, .inl tx))]) hK hP hD b_Xok_0 [0, 1, 2, 3, 4, 5, 6] rfl (by decide) rfl trivial (ci := 4) (q0 := 0) rfl rfl) rfl rfl hl.1 rfl (lv_room (Nat.le_of_ble_eq_true rfl)) dX4_readsEvent_3 ⟨Nat.zero_le _, Nat.zero_le _⟩) hP hD hS hA [0, 1, 2, 3, 4, 5, 6] rfl rfl (fun H locs hP hD hS => ?_)
    have hP : va_P D vwCl [((md 0), .inr (4, [.ref (md 1), .ref (md 2), .ref (md 3), .int (nI hn), .ref (md 4), .ref (md 5), .ref (md 6), .int (nI tl), .int (nI sp), .int nu])), ((md 1), .inl (cI, 86, .inl a)), ((md 2), .inl (cI, 86, .inl kp)), ((md 3), .inl (cI, 516, .inl hs)), ((md 4), .inl (cI, 172, .inl sl)), ((md 5), .inl (cI, 2, .inl iv)), ((md 6), .inl (cI, 60, .inl tx))] H := hP
    have hD : va_D A [((md 0), .inr (4, [.ref (md 1), .ref (md 2), .ref (md 3), .int (nI hn), .ref (md 4), .ref (md 5), .ref (md 6), .int (nI tl), .int (nI sp), .int nu])), ((md 1), .inl (cI, 86, .inl a)), ((md 2), .inl (cI, 86, .inl kp)), ((md 3), .inl (cI, 516, .inl hs)), ((md 4), .inl (cI, 172, .inl sl)), ((md 5), .inl (cI, 2, .inl iv)), ((md 6), .inl (cI, 60, .inl tx))] := hD
    refine lv_if_eq (pc := 6) (tgt := 14) hx hb dX4_readsEvent_6 (by decide) (fun c_7 => ?_) (fun c_7 => ?_)
    · skip
      refine lv_aload_n (pc := 14) hx hb dX4_readsEvent_14 rfl (lv_at hl 0 rfl) ?_
      refine lv_bipush (pc := 15) (v := 48) hx hb dX4_readsEvent_15 (by decide) ?_
      refine lv_bipush (pc := 17) (v := 53) hx hb dX4_readsEvent_17 (by decide) ?_
      refine b_cR (pc := 19) (va_runV (As := [.int 48, .int 53]) (rest := []) ⟨hx, hb, hml, hown, hts⟩ (c_X4_isHere l D cI cC cZ cG md a kp hs hn sl iv tx tl sp nu 48 53 (by first | omega | assumption) (by first | omega | assumption)) (cwV 2 hts gX4_readsEvent_X4_isHere rfl rfl rfl hy_X4_isHere ⟨Nat.le_of_ble_eq_true rfl, Nat.le_of_ble_eq_true rfl⟩) (b_pRV (wc := [((md 0), .inr (4, [.ref (md 1), .ref (md 2), .ref (md 3), .int (nI hn), .ref (md 4), .ref (md 5), .ref (md 6), .int (nI tl), .int (nI sp), .int nu])), ((md 1), .inl (cI, 86, .inl a)), ((md 2), .inl (cI, 86, .inl kp)), ((md 3), .inl (cI, 516, .inl hs)), ((md 4), .inl (cI, 172, .inl sl)), ((md 5), .inl (cI, 2, .inl iv)), ((md 6), .inl (cI, 60, .inl tx))]) hK hP [0, 1, 2, 3, 4, 5, 6] rfl (ci := 4) (q0 := 0) rfl rfl) rfl rfl hl.1 rfl (lv_room (Nat.le_of_ble_eq_true rfl)) dX4_readsEvent_19 ⟨Nat.zero_le _, Nat.zero_le _⟩) ?_
      refine lv_if_ne (pc := 22) (tgt := 27) hx hb dX4_readsEvent_22 (by decide) (fun c_8 => ?_) (fun c_8 => ?_)
      · skip
        have c_8 : m_has tx tl sp 48 53 := Classical.not_not.mp (fun h9 => c_8 (b_i_0.mpr h9))
        have hlt := c_8.1
        refine lv_aload_n (pc := 27) hx hb dX4_readsEvent_27 rfl (lv_at hl 0 rfl) ?_
        refine lv_dup (pc := 28) hx hb dX4_readsEvent_28 rfl ?_
        refine va_get (pc := 29) (D := D) (ci := 4) (v := .int (nI sp)) (C := RX4) (T := TX4) (N := 10) hx hb hts hi_X4_readsEvent_X4 hown hK hP 0 rfl rfl 8 (by decide) (hts _ hw_X4_readsEvent_0) (fun _ h9 => h9) rfl dX4_readsEvent_29 ?_
        refine lv_iconst (pc := 32) (v := 1) hx hb dX4_readsEvent_32 (by decide) ?_
        refine lv_iadd (pc := 33) hx hb dX4_readsEvent_33 ?_
        refine b_re (nI_add sp 1) ?_
        refine va_put (pc := 34) (D := D) (ci := 4) (v := .int (nI (sp + 1))) (ty := .int) (C := RX4) (T := TX4) (N := 10) hx hb hts hi_X4_readsEvent_X4 tyX4 tyX4_ok nmX4 hown hK hP hD hS 0 rfl rfl 8 (by decide) (hts _ hw_X4_readsEvent_0) (fun _ h9 => h9) rfl (by decide +kernel) rfl rfl (Nat.le_of_ble_eq_true rfl) dX4_readsEvent_34 (fun H locs hP hD hS => ?_)
        have hP : va_P D vwCl [((md 0), .inr (4, [.ref (md 1), .ref (md 2), .ref (md 3), .int (nI hn), .ref (md 4), .ref (md 5), .ref (md 6), .int (nI tl), .int (nI (sp + 1)), .int nu])), ((md 1), .inl (cI, 86, .inl a)), ((md 2), .inl (cI, 86, .inl kp)), ((md 3), .inl (cI, 516, .inl hs)), ((md 4), .inl (cI, 172, .inl sl)), ((md 5), .inl (cI, 2, .inl iv)), ((md 6), .inl (cI, 60, .inl tx))] H := hP
        have hD : va_D A [((md 0), .inr (4, [.ref (md 1), .ref (md 2), .ref (md 3), .int (nI hn), .ref (md 4), .ref (md 5), .ref (md 6), .int (nI tl), .int (nI (sp + 1)), .int nu])), ((md 1), .inl (cI, 86, .inl a)), ((md 2), .inl (cI, 86, .inl kp)), ((md 3), .inl (cI, 516, .inl hs)), ((md 4), .inl (cI, 172, .inl sl)), ((md 5), .inl (cI, 2, .inl iv)), ((md 6), .inl (cI, 60, .inl tx))] := hD
        refine lv_aload_n (pc := 37) hx hb dX4_readsEvent_37 rfl (lv_at hl 0 rfl) ?_
        refine b_cW (pc := 38) (w1 := [((md 0), .inr (4, [.ref (md 1), .ref (md 2), .ref (md 3), .int (nI hn), .ref (md 4), .ref (md 5), .ref (md 6), .int (nI tl), .int (nI (m_bs tx tl (sp + 1))), .int nu])), ((md 1), .inl (cI, 86, .inl a)), ((md 2), .inl (cI, 86, .inl kp)), ((md 3), .inl (cI, 516, .inl hs)), ((md 4), .inl (cI, 172, .inl sl)), ((md 5), .inl (cI, 2, .inl iv)), ((md 6), .inl (cI, 60, .inl tx))]) (va_runV (As := []) (rest := []) ⟨hx, hb, hml, hown, hts⟩ (c_X4_beam l D cI cC cZ cG H.size md a kp hs hn sl iv tx tl (sp + 1) nu (by first | omega | assumption) (by first | omega | assumption)) (cwV 0 hts gX4_readsEvent_X4_beam rfl rfl rfl hy_X4_beam ⟨Nat.le_of_ble_eq_true rfl, Nat.le_of_ble_eq_true rfl⟩) (b_pWV (wc := [((md 0), .inr (4, [.ref (md 1), .ref (md 2), .ref (md 3), .int (nI hn), .ref (md 4), .ref (md 5), .ref (md 6), .int (nI tl), .int (nI (sp + 1)), .int nu])), ((md 1), .inl (cI, 86, .inl a)), ((md 2), .inl (cI, 86, .inl kp)), ((md 3), .inl (cI, 516, .inl hs)), ((md 4), .inl (cI, 172, .inl sl)), ((md 5), .inl (cI, 2, .inl iv)), ((md 6), .inl (cI, 60, .inl tx))]) hK hP hD b_Xok_0 [0, 1, 2, 3, 4, 5, 6] rfl (by decide) rfl trivial (ci := 4) (q0 := 0) rfl rfl) rfl rfl hl.1 rfl (lv_room (Nat.le_of_ble_eq_true rfl)) dX4_readsEvent_38 ⟨Nat.zero_le _, Nat.zero_le _⟩) hP hD hS hA [0, 1, 2, 3, 4, 5, 6] rfl rfl (fun H locs hP hD hS => ?_)
        have hP : va_P D vwCl [((md 0), .inr (4, [.ref (md 1), .ref (md 2), .ref (md 3), .int (nI hn), .ref (md 4), .ref (md 5), .ref (md 6), .int (nI tl), .int (nI (m_bs tx tl (sp + 1))), .int nu])), ((md 1), .inl (cI, 86, .inl a)), ((md 2), .inl (cI, 86, .inl kp)), ((md 3), .inl (cI, 516, .inl hs)), ((md 4), .inl (cI, 172, .inl sl)), ((md 5), .inl (cI, 2, .inl iv)), ((md 6), .inl (cI, 60, .inl tx))] H := hP
        have hD : va_D A [((md 0), .inr (4, [.ref (md 1), .ref (md 2), .ref (md 3), .int (nI hn), .ref (md 4), .ref (md 5), .ref (md 6), .int (nI tl), .int (nI (m_bs tx tl (sp + 1))), .int nu])), ((md 1), .inl (cI, 86, .inl a)), ((md 2), .inl (cI, 86, .inl kp)), ((md 3), .inl (cI, 516, .inl hs)), ((md 4), .inl (cI, 172, .inl sl)), ((md 5), .inl (cI, 2, .inl iv)), ((md 6), .inl (cI, 60, .inl tx))] := hD
        refine lv_bipush (pc := 41) (v := (-6)) hx hb dX4_readsEvent_41 (by decide) ?_
        refine lv_icmp_ne (pc := 43) (tgt := 48) hx hb dX4_readsEvent_43 (by decide) (fun c_9 => ?_) (fun c_9 => ?_)
        · skip
          have c_9 : ¬ ((m_bm tx tl (sp + 1)) = (-6)) := c_9
          have loop_48 : ∀ (fu : Nat) (s1 : Nat), (s1 ≤ tl) → (m_run tx tl (tl - s1) s1 = m_run tx tl (tl - m_bs tx tl (sp + 1)) (m_bs tx tl (sp + 1))) → tl - s1 < fu → ∀ (H : Heap) (locs : List Loc), va_P D vwCl [((md 0), .inr (4, [.ref (md 1), .ref (md 2), .ref (md 3), .int (nI hn), .ref (md 4), .ref (md 5), .ref (md 6), .int (nI tl), .int (nI s1), .int nu])), ((md 1), .inl (cI, 86, .inl a)), ((md 2), .inl (cI, 86, .inl kp)), ((md 3), .inl (cI, 516, .inl hs)), ((md 4), .inl (cI, 172, .inl sl)), ((md 5), .inl (cI, 2, .inl iv)), ((md 6), .inl (cI, 60, .inl tx))] H → va_D A [((md 0), .inr (4, [.ref (md 1), .ref (md 2), .ref (md 3), .int (nI hn), .ref (md 4), .ref (md 5), .ref (md 6), .int (nI tl), .int (nI s1), .int nu])), ((md 1), .inl (cI, 86, .inl a)), ((md 2), .inl (cI, 86, .inl kp)), ((md 3), .inl (cI, 516, .inl hs)), ((md 4), .inl (cI, 172, .inl sl)), ((md 5), .inl (cI, 2, .inl iv)), ((md 6), .inl (cI, 60, .inl tx))] → va_S A s.heap H locs → ∀ (ls : Array Slot), lv_has ls 1 [(0, .ref (md 0))] → W p l e ({ frames := 4, cells := 0, slots := 0, locals := 89 } : Room) s m ([.ref (md 0)] : List Value).toArray below meth c H locs 0 0 Q (F0 m 48 ls []) := by
            intro fu
            induction fu with
            | zero => intro s1 hs1 hv hfu H locs hP hD hS ls hl; exact absurd hfu (Nat.not_lt_zero _)
            | succ fu ih_48 =>
              intro s1 hs1 hv hfu H locs hP hD hS ls hl
              refine lv_aload_n (pc := 48) hx hb dX4_readsEvent_48 rfl (lv_at hl 0 rfl) ?_
              refine lv_bipush (pc := 49) (v := 111) hx hb dX4_readsEvent_49 (by decide) ?_
              refine lv_bipush (pc := 51) (v := 111) hx hb dX4_readsEvent_51 (by decide) ?_
              refine b_cR (pc := 53) (va_runV (As := [.int 111, .int 111]) (rest := []) ⟨hx, hb, hml, hown, hts⟩ (c_X4_isHere l D cI cC cZ cG md a kp hs hn sl iv tx tl s1 nu 111 111 (by first | omega | assumption) (by first | omega | assumption)) (cwV 2 hts gX4_readsEvent_X4_isHere rfl rfl rfl hy_X4_isHere ⟨Nat.le_of_ble_eq_true rfl, Nat.le_of_ble_eq_true rfl⟩) (b_pRV (wc := [((md 0), .inr (4, [.ref (md 1), .ref (md 2), .ref (md 3), .int (nI hn), .ref (md 4), .ref (md 5), .ref (md 6), .int (nI tl), .int (nI s1), .int nu])), ((md 1), .inl (cI, 86, .inl a)), ((md 2), .inl (cI, 86, .inl kp)), ((md 3), .inl (cI, 516, .inl hs)), ((md 4), .inl (cI, 172, .inl sl)), ((md 5), .inl (cI, 2, .inl iv)), ((md 6), .inl (cI, 60, .inl tx))]) hK hP [0, 1, 2, 3, 4, 5, 6] rfl (ci := 4) (q0 := 0) rfl rfl) rfl rfl hl.1 rfl (lv_room (Nat.le_of_ble_eq_true rfl)) dX4_readsEvent_53 ⟨Nat.zero_le _, Nat.zero_le _⟩) ?_
              refine lv_if_ne (pc := 56) (tgt := 81) hx hb dX4_readsEvent_56 (by decide) (fun c_10 => ?_) (fun c_10 => ?_)
              · skip
                have c_10 : m_has tx tl s1 111 111 := Classical.not_not.mp (fun h9 => c_10 (b_i_0.mpr h9))
                have hlt1 := c_10.1
                refine lv_aload_n (pc := 81) hx hb dX4_readsEvent_81 rfl (lv_at hl 0 rfl) ?_
                refine lv_dup (pc := 82) hx hb dX4_readsEvent_82 rfl ?_
                refine va_get (pc := 83) (D := D) (ci := 4) (v := .int (nI s1)) (C := RX4) (T := TX4) (N := 10) hx hb hts hi_X4_readsEvent_X4 hown hK hP 0 rfl rfl 8 (by decide) (hts _ hw_X4_readsEvent_0) (fun _ h9 => h9) rfl dX4_readsEvent_83 ?_
                refine lv_iconst (pc := 86) (v := 1) hx hb dX4_readsEvent_86 (by decide) ?_
                refine lv_iadd (pc := 87) hx hb dX4_readsEvent_87 ?_
                refine b_re (nI_add s1 1) ?_
                refine va_put (pc := 88) (D := D) (ci := 4) (v := .int (nI (s1 + 1))) (ty := .int) (C := RX4) (T := TX4) (N := 10) hx hb hts hi_X4_readsEvent_X4 tyX4 tyX4_ok nmX4 hown hK hP hD hS 0 rfl rfl 8 (by decide) (hts _ hw_X4_readsEvent_0) (fun _ h9 => h9) rfl (by decide +kernel) rfl rfl (Nat.le_of_ble_eq_true rfl) dX4_readsEvent_88 (fun H locs hP hD hS => ?_)
                have hP : va_P D vwCl [((md 0), .inr (4, [.ref (md 1), .ref (md 2), .ref (md 3), .int (nI hn), .ref (md 4), .ref (md 5), .ref (md 6), .int (nI tl), .int (nI (s1 + 1)), .int nu])), ((md 1), .inl (cI, 86, .inl a)), ((md 2), .inl (cI, 86, .inl kp)), ((md 3), .inl (cI, 516, .inl hs)), ((md 4), .inl (cI, 172, .inl sl)), ((md 5), .inl (cI, 2, .inl iv)), ((md 6), .inl (cI, 60, .inl tx))] H := hP
                have hD : va_D A [((md 0), .inr (4, [.ref (md 1), .ref (md 2), .ref (md 3), .int (nI hn), .ref (md 4), .ref (md 5), .ref (md 6), .int (nI tl), .int (nI (s1 + 1)), .int nu])), ((md 1), .inl (cI, 86, .inl a)), ((md 2), .inl (cI, 86, .inl kp)), ((md 3), .inl (cI, 516, .inl hs)), ((md 4), .inl (cI, 172, .inl sl)), ((md 5), .inl (cI, 2, .inl iv)), ((md 6), .inl (cI, 60, .inl tx))] := hD
                refine lv_goto (pc := 91) (tgt := 48) hx hb dX4_readsEvent_91 (by decide) ?_
                exact ih_48 (s1 + 1) (by omega) (by rw [← hv, m_run_s hs1, if_pos c_10]) (by omega) _ _ (hP.sub [0, 1, 2, 3, 4, 5, 6] rfl) (hD.sub [0, 1, 2, 3, 4, 5, 6] (by decide) rfl) hS ls (lv_sub hl [0] rfl)
              · skip
                have c_10 : ¬ (m_has tx tl s1 111 111) := b_i_0.mp c_10
                refine lv_aload_n (pc := 59) hx hb dX4_readsEvent_59 rfl (lv_at hl 0 rfl) ?_
                refine lv_bipush (pc := 60) (v := 105) hx hb dX4_readsEvent_60 (by decide) ?_
                refine lv_bipush (pc := 62) (v := 105) hx hb dX4_readsEvent_62 (by decide) ?_
                refine b_cR (pc := 64) (va_runV (As := [.int 105, .int 105]) (rest := []) ⟨hx, hb, hml, hown, hts⟩ (c_X4_isHere l D cI cC cZ cG md a kp hs hn sl iv tx tl s1 nu 105 105 (by first | omega | assumption) (by first | omega | assumption)) (cwV 2 hts gX4_readsEvent_X4_isHere rfl rfl rfl hy_X4_isHere ⟨Nat.le_of_ble_eq_true rfl, Nat.le_of_ble_eq_true rfl⟩) (b_pRV (wc := [((md 0), .inr (4, [.ref (md 1), .ref (md 2), .ref (md 3), .int (nI hn), .ref (md 4), .ref (md 5), .ref (md 6), .int (nI tl), .int (nI s1), .int nu])), ((md 1), .inl (cI, 86, .inl a)), ((md 2), .inl (cI, 86, .inl kp)), ((md 3), .inl (cI, 516, .inl hs)), ((md 4), .inl (cI, 172, .inl sl)), ((md 5), .inl (cI, 2, .inl iv)), ((md 6), .inl (cI, 60, .inl tx))]) hK hP [0, 1, 2, 3, 4, 5, 6] rfl (ci := 4) (q0 := 0) rfl rfl) rfl rfl hl.1 rfl (lv_room (Nat.le_of_ble_eq_true rfl)) dX4_readsEvent_64 ⟨Nat.zero_le _, Nat.zero_le _⟩) ?_
                refine lv_if_ne (pc := 67) (tgt := 81) hx hb dX4_readsEvent_67 (by decide) (fun c_11 => ?_) (fun c_11 => ?_)
                · skip
                  have c_11 : m_has tx tl s1 105 105 := Classical.not_not.mp (fun h9 => c_11 (b_i_0.mpr h9))
                  have hlt1 := c_11.1
                  refine lv_aload_n (pc := 81) hx hb dX4_readsEvent_81 rfl (lv_at hl 0 rfl) ?_
                  refine lv_dup (pc := 82) hx hb dX4_readsEvent_82 rfl ?_
                  refine va_get (pc := 83) (D := D) (ci := 4) (v := .int (nI s1)) (C := RX4) (T := TX4) (N := 10) hx hb hts hi_X4_readsEvent_X4 hown hK hP 0 rfl rfl 8 (by decide) (hts _ hw_X4_readsEvent_0) (fun _ h9 => h9) rfl dX4_readsEvent_83 ?_
                  refine lv_iconst (pc := 86) (v := 1) hx hb dX4_readsEvent_86 (by decide) ?_
                  refine lv_iadd (pc := 87) hx hb dX4_readsEvent_87 ?_
                  refine b_re (nI_add s1 1) ?_
                  refine va_put (pc := 88) (D := D) (ci := 4) (v := .int (nI (s1 + 1))) (ty := .int) (C := RX4) (T := TX4) (N := 10) hx hb hts hi_X4_readsEvent_X4 tyX4 tyX4_ok nmX4 hown hK hP hD hS 0 rfl rfl 8 (by decide) (hts _ hw_X4_readsEvent_0) (fun _ h9 => h9) rfl (by decide +kernel) rfl rfl (Nat.le_of_ble_eq_true rfl) dX4_readsEvent_88 (fun H locs hP hD hS => ?_)
                  have hP : va_P D vwCl [((md 0), .inr (4, [.ref (md 1), .ref (md 2), .ref (md 3), .int (nI hn), .ref (md 4), .ref (md 5), .ref (md 6), .int (nI tl), .int (nI (s1 + 1)), .int nu])), ((md 1), .inl (cI, 86, .inl a)), ((md 2), .inl (cI, 86, .inl kp)), ((md 3), .inl (cI, 516, .inl hs)), ((md 4), .inl (cI, 172, .inl sl)), ((md 5), .inl (cI, 2, .inl iv)), ((md 6), .inl (cI, 60, .inl tx))] H := hP
                  have hD : va_D A [((md 0), .inr (4, [.ref (md 1), .ref (md 2), .ref (md 3), .int (nI hn), .ref (md 4), .ref (md 5), .ref (md 6), .int (nI tl), .int (nI (s1 + 1)), .int nu])), ((md 1), .inl (cI, 86, .inl a)), ((md 2), .inl (cI, 86, .inl kp)), ((md 3), .inl (cI, 516, .inl hs)), ((md 4), .inl (cI, 172, .inl sl)), ((md 5), .inl (cI, 2, .inl iv)), ((md 6), .inl (cI, 60, .inl tx))] := hD
                  refine lv_goto (pc := 91) (tgt := 48) hx hb dX4_readsEvent_91 (by decide) ?_
                  exact ih_48 (s1 + 1) (by omega) (by rw [← hv, m_run_s hs1, if_neg c_10, if_pos c_11]) (by omega) _ _ (hP.sub [0, 1, 2, 3, 4, 5, 6] rfl) (hD.sub [0, 1, 2, 3, 4, 5, 6] (by decide) rfl) hS ls (lv_sub hl [0] rfl)
                · skip
                  have c_11 : ¬ (m_has tx tl s1 105 105) := b_i_0.mp c_11
                  refine lv_aload_n (pc := 70) hx hb dX4_readsEvent_70 rfl (lv_at hl 0 rfl) ?_
                  refine lv_bipush (pc := 71) (v := 98) hx hb dX4_readsEvent_71 (by decide) ?_
                  refine lv_bipush (pc := 73) (v := 98) hx hb dX4_readsEvent_73 (by decide) ?_
                  refine b_cR (pc := 75) (va_runV (As := [.int 98, .int 98]) (rest := []) ⟨hx, hb, hml, hown, hts⟩ (c_X4_isHere l D cI cC cZ cG md a kp hs hn sl iv tx tl s1 nu 98 98 (by first | omega | assumption) (by first | omega | assumption)) (cwV 2 hts gX4_readsEvent_X4_isHere rfl rfl rfl hy_X4_isHere ⟨Nat.le_of_ble_eq_true rfl, Nat.le_of_ble_eq_true rfl⟩) (b_pRV (wc := [((md 0), .inr (4, [.ref (md 1), .ref (md 2), .ref (md 3), .int (nI hn), .ref (md 4), .ref (md 5), .ref (md 6), .int (nI tl), .int (nI s1), .int nu])), ((md 1), .inl (cI, 86, .inl a)), ((md 2), .inl (cI, 86, .inl kp)), ((md 3), .inl (cI, 516, .inl hs)), ((md 4), .inl (cI, 172, .inl sl)), ((md 5), .inl (cI, 2, .inl iv)), ((md 6), .inl (cI, 60, .inl tx))]) hK hP [0, 1, 2, 3, 4, 5, 6] rfl (ci := 4) (q0 := 0) rfl rfl) rfl rfl hl.1 rfl (lv_room (Nat.le_of_ble_eq_true rfl)) dX4_readsEvent_75 ⟨Nat.zero_le _, Nat.zero_le _⟩) ?_
                  refine lv_if_eq (pc := 78) (tgt := 94) hx hb dX4_readsEvent_78 (by decide) (fun c_12 => ?_) (fun c_12 => ?_)
                  · skip
                    have c_12 : ¬ (m_has tx tl s1 98 98) := b_i_0.mp c_12
                    refine lv_iconst (pc := 94) (v := 1) hx hb dX4_readsEvent_94 (by decide) ?_
                    subst hQ
                    exact b_retWZ hx hb hr hlocks rfl hS (by have e7 : m_re tx tl sp nu = (true, s1, nu) := (by simp only [m_re, if_pos c_8, if_neg c_9, if_neg hq_2]; rw [← hv, m_run_s hs1, if_neg c_10, if_neg c_11, if_neg c_12]); rw [e7]; exact (b_i_t rfl).symm) (by have e7 : m_re tx tl sp nu = (true, s1, nu) := (by simp only [m_re, if_pos c_8, if_neg c_9, if_neg hq_2]; rw [← hv, m_run_s hs1, if_neg c_10, if_neg c_11, if_neg c_12]); rw [e7]; exact hP) dX4_readsEvent_95
                  · skip
                    have c_12 : m_has tx tl s1 98 98 := Classical.not_not.mp (fun h9 => c_12 (b_i_0.mpr h9))
                    have hlt1 := c_12.1
                    refine lv_aload_n (pc := 81) hx hb dX4_readsEvent_81 rfl (lv_at hl 0 rfl) ?_
                    refine lv_dup (pc := 82) hx hb dX4_readsEvent_82 rfl ?_
                    refine va_get (pc := 83) (D := D) (ci := 4) (v := .int (nI s1)) (C := RX4) (T := TX4) (N := 10) hx hb hts hi_X4_readsEvent_X4 hown hK hP 0 rfl rfl 8 (by decide) (hts _ hw_X4_readsEvent_0) (fun _ h9 => h9) rfl dX4_readsEvent_83 ?_
                    refine lv_iconst (pc := 86) (v := 1) hx hb dX4_readsEvent_86 (by decide) ?_
                    refine lv_iadd (pc := 87) hx hb dX4_readsEvent_87 ?_
                    refine b_re (nI_add s1 1) ?_
                    refine va_put (pc := 88) (D := D) (ci := 4) (v := .int (nI (s1 + 1))) (ty := .int) (C := RX4) (T := TX4) (N := 10) hx hb hts hi_X4_readsEvent_X4 tyX4 tyX4_ok nmX4 hown hK hP hD hS 0 rfl rfl 8 (by decide) (hts _ hw_X4_readsEvent_0) (fun _ h9 => h9) rfl (by decide +kernel) rfl rfl (Nat.le_of_ble_eq_true rfl) dX4_readsEvent_88 (fun H locs hP hD hS => ?_)
                    have hP : va_P D vwCl [((md 0), .inr (4, [.ref (md 1), .ref (md 2), .ref (md 3), .int (nI hn), .ref (md 4), .ref (md 5), .ref (md 6), .int (nI tl), .int (nI (s1 + 1)), .int nu])), ((md 1), .inl (cI, 86, .inl a)), ((md 2), .inl (cI, 86, .inl kp)), ((md 3), .inl (cI, 516, .inl hs)), ((md 4), .inl (cI, 172, .inl sl)), ((md 5), .inl (cI, 2, .inl iv)), ((md 6), .inl (cI, 60, .inl tx))] H := hP
                    have hD : va_D A [((md 0), .inr (4, [.ref (md 1), .ref (md 2), .ref (md 3), .int (nI hn), .ref (md 4), .ref (md 5), .ref (md 6), .int (nI tl), .int (nI (s1 + 1)), .int nu])), ((md 1), .inl (cI, 86, .inl a)), ((md 2), .inl (cI, 86, .inl kp)), ((md 3), .inl (cI, 516, .inl hs)), ((md 4), .inl (cI, 172, .inl sl)), ((md 5), .inl (cI, 2, .inl iv)), ((md 6), .inl (cI, 60, .inl tx))] := hD
                    refine lv_goto (pc := 91) (tgt := 48) hx hb dX4_readsEvent_91 (by decide) ?_
                    exact ih_48 (s1 + 1) (by omega) (by rw [← hv, m_run_s hs1, if_neg c_10, if_neg c_11, if_pos c_12]) (by omega) _ _ (hP.sub [0, 1, 2, 3, 4, 5, 6] rfl) (hD.sub [0, 1, 2, 3, 4, 5, 6] (by decide) rfl) hS ls (lv_sub hl [0] rfl)
          exact loop_48 (tl + 1) (m_bs tx tl (sp + 1)) ((m_bs_le (by omega)).2) rfl (by omega) _ _ (hP.sub [0, 1, 2, 3, 4, 5, 6] rfl) (hD.sub [0, 1, 2, 3, 4, 5, 6] (by decide) rfl) hS ls (lv_sub hl [0] rfl)
        · skip
          have c_9 : (m_bm tx tl (sp + 1)) = (-6) := c_9
          refine lv_iconst (pc := 46) (v := 0) hx hb dX4_readsEvent_46 (by decide) ?_
          subst hQ
          exact b_retWZ hx hb hr hlocks rfl hS (by have e7 : m_re tx tl sp nu = (false, m_bs tx tl (sp + 1), nu) := (by simp only [m_re, if_pos c_8, if_pos c_9, if_neg hq_2]); rw [e7]; exact (b_i_f Bool.false_ne_true).symm) (by have e7 : m_re tx tl sp nu = (false, m_bs tx tl (sp + 1), nu) := (by simp only [m_re, if_pos c_8, if_pos c_9, if_neg hq_2]); rw [e7]; exact hP) dX4_readsEvent_47
      · skip
        have c_8 : ¬ (m_has tx tl sp 48 53) := b_i_0.mp c_8
        refine lv_iconst (pc := 25) (v := 0) hx hb dX4_readsEvent_25 (by decide) ?_
        subst hQ
        exact b_retWZ hx hb hr hlocks rfl hS (by have e7 : m_re tx tl sp nu = (false, sp, nu) := (by simp only [m_re, if_neg c_8, if_neg hq_2]); rw [e7]; exact (b_i_f Bool.false_ne_true).symm) (by have e7 : m_re tx tl sp nu = (false, sp, nu) := (by simp only [m_re, if_neg c_8, if_neg hq_2]); rw [e7]; exact hP) dX4_readsEvent_26
    · skip
      exact absurd c_7 (by decide)
theorem hw_X4_fault_0 : (.fieldLink RX4 147 "BeamTurnstilesModel" "spot" "I" : Cond) ∈ wsX4_fault := by decide +kernel
theorem hi_X4_fault_X4 : ∀ w ∈ wsX40, w ∈ wsX4_fault := by decide +kernel
theorem hw_X4_fault_2 : (.fieldLink RX4 119 "BeamTurnstilesModel" "textLong" "I" : Cond) ∈ wsX4_fault := by decide +kernel
set_option maxHeartbeats 4000000 in
set_option maxRecDepth 100000 in
theorem c_X4_fault (l : Launch) (D : va_G) (cI cC cZ cG : ClassId) (sz : Nat) (md : Nat → Nat) (a : Nat → Int32) (kp : Nat → Int32) (hs : Nat → Int32) (hn : Nat) (sl : Nat → Int32) (iv : Nat → Int32) (tx : Nat → Int32) (tl : Nat) (sp : Nat) (nu : Int32) (htl : tl ≤ 60) : Met l yX4_fault wsX4_fault ({ frames := 5, cells := 0, slots := 0, locals := 109 } : Room) (b_W D (b_T cI cC cZ cG) b_X0 [((md 0), .inr (4, [.ref (md 1), .ref (md 2), .ref (md 3), .int (nI hn), .ref (md 4), .ref (md 5), .ref (md 6), .int (nI tl), .int (nI sp), .int nu])), ((md 1), .inl (cI, 86, .inl a)), ((md 2), .inl (cI, 86, .inl kp)), ((md 3), .inl (cI, 516, .inl hs)), ((md 4), .inl (cI, 172, .inl sl)), ((md 5), .inl (cI, 2, .inl iv)), ((md 6), .inl (cI, 60, .inl tx))] sz [.ref (md 0)]) (b_Qi D ((m_ftl tx tl (tl + 1) 0 nu).1) [((md 0), .inr (4, [.ref (md 1), .ref (md 2), .ref (md 3), .int (nI hn), .ref (md 4), .ref (md 5), .ref (md 6), .int (nI tl), .int (nI ((m_ftl tx tl (tl + 1) 0 nu).2.1)), .int ((m_ftl tx tl (tl + 1) 0 nu).2.2)])), ((md 1), .inl (cI, 86, .inl a)), ((md 2), .inl (cI, 86, .inl kp)), ((md 3), .inl (cI, 516, .inl hs)), ((md 4), .inl (cI, 172, .inl sl)), ((md 5), .inl (cI, 2, .inl iv)), ((md 6), .inl (cI, 60, .inl tx))] (va_A [((md 0), .inr (4, [.ref (md 1), .ref (md 2), .ref (md 3), .int (nI hn), .ref (md 4), .ref (md 5), .ref (md 6), .int (nI tl), .int (nI sp), .int nu])), ((md 1), .inl (cI, 86, .inl a)), ((md 2), .inl (cI, 86, .inl kp)), ((md 3), .inl (cI, 516, .inl hs)), ((md 4), .inl (cI, 172, .inl sl)), ((md 5), .inl (cI, 2, .inl iv)), ((md 6), .inl (cI, 60, .inl tx))] sz)) 0 0 (va_A [((md 0), .inr (4, [.ref (md 1), .ref (md 2), .ref (md 3), .int (nI hn), .ref (md 4), .ref (md 5), .ref (md 6), .int (nI tl), .int (nI sp), .int nu])), ((md 1), .inl (cI, 86, .inl a)), ((md 2), .inl (cI, 86, .inl kp)), ((md 3), .inl (cI, 516, .inl hs)), ((md 4), .inl (cI, 172, .inl sl)), ((md 5), .inl (cI, 2, .inl iv)), ((md 6), .inl (cI, 60, .inl tx))] sz) := by
  refine b_enterW (Qc := fun A => b_Qi D ((m_ftl tx tl (tl + 1) 0 nu).1) [((md 0), .inr (4, [.ref (md 1), .ref (md 2), .ref (md 3), .int (nI hn), .ref (md 4), .ref (md 5), .ref (md 6), .int (nI tl), .int (nI ((m_ftl tx tl (tl + 1) 0 nu).2.1)), .int ((m_ftl tx tl (tl + 1) 0 nu).2.2)])), ((md 1), .inl (cI, 86, .inl a)), ((md 2), .inl (cI, 86, .inl kp)), ((md 3), .inl (cI, 516, .inl hs)), ((md 4), .inl (cI, 172, .inl sl)), ((md 5), .inl (cI, 2, .inl iv)), ((md 6), .inl (cI, 60, .inl tx))] A) (cc := cX4_fault) (maxL := 2) (ret := (some .int)) (by decide) rfl (Nat.le_of_ble_eq_true rfl) ?_
  intro p e s m below meth c ls A hx hb hr hml hown hts hlocks hname hP hK hD hA hS hX hl Q hQ
  have hown : s.vm.findClass RX4 = some m.cls := hown
  have hl : lv_has ls 2 [(0, .ref (md 0))] := hl
  refine lv_aload_n (pc := 0) hx hb dX4_fault_0 rfl (lv_at hl 0 rfl) ?_
  refine lv_iconst (pc := 1) (v := 0) hx hb dX4_fault_1 (by decide) ?_
  refine va_put (pc := 2) (D := D) (ci := 4) (v := .int 0) (ty := .int) (C := RX4) (T := TX4) (N := 10) hx hb hts hi_X4_fault_X4 tyX4 tyX4_ok nmX4 hown hK hP hD hS 0 rfl rfl 8 (by decide) (hts _ hw_X4_fault_0) (fun _ h9 => h9) rfl (by decide +kernel) rfl rfl (Nat.le_of_ble_eq_true rfl) dX4_fault_2 (fun H locs hP hD hS => ?_)
  have hP : va_P D vwCl [((md 0), .inr (4, [.ref (md 1), .ref (md 2), .ref (md 3), .int (nI hn), .ref (md 4), .ref (md 5), .ref (md 6), .int (nI tl), .int 0, .int nu])), ((md 1), .inl (cI, 86, .inl a)), ((md 2), .inl (cI, 86, .inl kp)), ((md 3), .inl (cI, 516, .inl hs)), ((md 4), .inl (cI, 172, .inl sl)), ((md 5), .inl (cI, 2, .inl iv)), ((md 6), .inl (cI, 60, .inl tx))] H := hP
  have hD : va_D A [((md 0), .inr (4, [.ref (md 1), .ref (md 2), .ref (md 3), .int (nI hn), .ref (md 4), .ref (md 5), .ref (md 6), .int (nI tl), .int 0, .int nu])), ((md 1), .inl (cI, 86, .inl a)), ((md 2), .inl (cI, 86, .inl kp)), ((md 3), .inl (cI, 516, .inl hs)), ((md 4), .inl (cI, 172, .inl sl)), ((md 5), .inl (cI, 2, .inl iv)), ((md 6), .inl (cI, 60, .inl tx))] := hD
  refine lv_iconst (pc := 5) (v := 1) hx hb dX4_fault_5 (by decide) ?_
  refine lv_istore_n (pc := 6) (lv' := [(1, .int 1), (0, .ref (md 0))]) hx hb dX4_fault_6 rfl hl (by decide) rfl (fun ls hl => ?_)
  have loop_7 : ∀ (fu : Nat) (s1 : Nat) (n1 : Int32) (k1 : Nat), (s1 ≤ tl) → (tl + 1 - s1 ≤ k1) → (m_ftl tx tl k1 s1 n1 = m_ftl tx tl (tl + 1) 0 nu) → tl + 1 - s1 < fu → ∀ (H : Heap) (locs : List Loc), va_P D vwCl [((md 0), .inr (4, [.ref (md 1), .ref (md 2), .ref (md 3), .int (nI hn), .ref (md 4), .ref (md 5), .ref (md 6), .int (nI tl), .int (nI s1), .int n1])), ((md 1), .inl (cI, 86, .inl a)), ((md 2), .inl (cI, 86, .inl kp)), ((md 3), .inl (cI, 516, .inl hs)), ((md 4), .inl (cI, 172, .inl sl)), ((md 5), .inl (cI, 2, .inl iv)), ((md 6), .inl (cI, 60, .inl tx))] H → va_D A [((md 0), .inr (4, [.ref (md 1), .ref (md 2), .ref (md 3), .int (nI hn), .ref (md 4), .ref (md 5), .ref (md 6), .int (nI tl), .int (nI s1), .int n1])), ((md 1), .inl (cI, 86, .inl a)), ((md 2), .inl (cI, 86, .inl kp)), ((md 3), .inl (cI, 516, .inl hs)), ((md 4), .inl (cI, 172, .inl sl)), ((md 5), .inl (cI, 2, .inl iv)), ((md 6), .inl (cI, 60, .inl tx))] → va_S A s.heap H locs → ∀ (ls : Array Slot), lv_has ls 2 [(1, .int 1), (0, .ref (md 0))] → W p l e ({ frames := 5, cells := 0, slots := 0, locals := 109 } : Room) s m ([.ref (md 0)] : List Value).toArray below meth c H locs 0 0 Q (F0 m 7 ls []) := by
    intro fu
    induction fu with
    | zero => intro s1 n1 k1 hs1 hk hv hfu H locs hP hD hS ls hl; exact absurd hfu (Nat.not_lt_zero _)
    | succ fu ih_7 =>
      intro s1 n1 k1 hs1 hk hv hfu H locs hP hD hS ls hl
      refine lv_iload_n (pc := 7) hx hb dX4_fault_7 rfl (lv_at hl 0 rfl) ?_
      refine lv_if_eq (pc := 8) (tgt := 33) hx hb dX4_fault_8 (by decide) (fun c_1 => ?_) (fun c_1 => ?_)
      · skip
        exact absurd c_1 (by decide)
      · skip
        obtain ⟨k2, ek⟩ : ∃ z9, k1 = z9 + 1 := ⟨k1 - 1, by omega⟩
        rw [ek] at hv
        have hle := m_re_le (tx := tx) (nu := n1) hs1
        refine lv_aload_n (pc := 11) hx hb dX4_fault_11 rfl (lv_at hl 1 rfl) ?_
        refine b_cW (pc := 12) (w1 := [((md 0), .inr (4, [.ref (md 1), .ref (md 2), .ref (md 3), .int (nI hn), .ref (md 4), .ref (md 5), .ref (md 6), .int (nI tl), .int (nI ((m_re tx tl s1 n1).2.1)), .int ((m_re tx tl s1 n1).2.2)])), ((md 1), .inl (cI, 86, .inl a)), ((md 2), .inl (cI, 86, .inl kp)), ((md 3), .inl (cI, 516, .inl hs)), ((md 4), .inl (cI, 172, .inl sl)), ((md 5), .inl (cI, 2, .inl iv)), ((md 6), .inl (cI, 60, .inl tx))]) (va_runV (As := []) (rest := []) ⟨hx, hb, hml, hown, hts⟩ (c_X4_readsEvent l D cI cC cZ cG H.size md a kp hs hn sl iv tx tl s1 n1 (by first | omega | assumption) (by first | omega | assumption)) (cwV 0 hts gX4_fault_X4_readsEvent rfl rfl rfl hy_X4_readsEvent ⟨Nat.le_of_ble_eq_true rfl, Nat.le_of_ble_eq_true rfl⟩) (b_pWV (wc := [((md 0), .inr (4, [.ref (md 1), .ref (md 2), .ref (md 3), .int (nI hn), .ref (md 4), .ref (md 5), .ref (md 6), .int (nI tl), .int (nI s1), .int n1])), ((md 1), .inl (cI, 86, .inl a)), ((md 2), .inl (cI, 86, .inl kp)), ((md 3), .inl (cI, 516, .inl hs)), ((md 4), .inl (cI, 172, .inl sl)), ((md 5), .inl (cI, 2, .inl iv)), ((md 6), .inl (cI, 60, .inl tx))]) hK hP hD b_Xok_0 [0, 1, 2, 3, 4, 5, 6] rfl (by decide) rfl trivial (ci := 4) (q0 := 0) rfl rfl) rfl rfl hl.1 rfl (lv_room (Nat.le_of_ble_eq_true rfl)) dX4_fault_12 ⟨Nat.zero_le _, Nat.zero_le _⟩) hP hD hS hA [0, 1, 2, 3, 4, 5, 6] rfl rfl (fun H locs hP hD hS => ?_)
        have hP : va_P D vwCl [((md 0), .inr (4, [.ref (md 1), .ref (md 2), .ref (md 3), .int (nI hn), .ref (md 4), .ref (md 5), .ref (md 6), .int (nI tl), .int (nI ((m_re tx tl s1 n1).2.1)), .int ((m_re tx tl s1 n1).2.2)])), ((md 1), .inl (cI, 86, .inl a)), ((md 2), .inl (cI, 86, .inl kp)), ((md 3), .inl (cI, 516, .inl hs)), ((md 4), .inl (cI, 172, .inl sl)), ((md 5), .inl (cI, 2, .inl iv)), ((md 6), .inl (cI, 60, .inl tx))] H := hP
        have hD : va_D A [((md 0), .inr (4, [.ref (md 1), .ref (md 2), .ref (md 3), .int (nI hn), .ref (md 4), .ref (md 5), .ref (md 6), .int (nI tl), .int (nI ((m_re tx tl s1 n1).2.1)), .int ((m_re tx tl s1 n1).2.2)])), ((md 1), .inl (cI, 86, .inl a)), ((md 2), .inl (cI, 86, .inl kp)), ((md 3), .inl (cI, 516, .inl hs)), ((md 4), .inl (cI, 172, .inl sl)), ((md 5), .inl (cI, 2, .inl iv)), ((md 6), .inl (cI, 60, .inl tx))] := hD
        refine lv_if_ne (pc := 15) (tgt := 23) hx hb dX4_fault_15 (by decide) (fun c_2 => ?_) (fun c_2 => ?_)
        · skip
          have c_2 : (m_re tx tl s1 n1).1 = true := Classical.not_not.mp (fun h9 => c_2 (b_i_0.mpr h9))
          refine lv_aload_n (pc := 23) hx hb dX4_fault_23 rfl (lv_at hl 1 rfl) ?_
          refine lv_bipush (pc := 24) (v := 59) hx hb dX4_fault_24 (by decide) ?_
          rcases Classical.em (m_has tx tl ((m_re tx tl s1 n1).2.1) 59 59) with hq_3 | hq_4
          · skip
            refine b_cW (pc := 26) (w1 := [((md 0), .inr (4, [.ref (md 1), .ref (md 2), .ref (md 3), .int (nI hn), .ref (md 4), .ref (md 5), .ref (md 6), .int (nI tl), .int (nI (((m_re tx tl s1 n1).2.1) + 1)), .int ((m_re tx tl s1 n1).2.2)])), ((md 1), .inl (cI, 86, .inl a)), ((md 2), .inl (cI, 86, .inl kp)), ((md 3), .inl (cI, 516, .inl hs)), ((md 4), .inl (cI, 172, .inl sl)), ((md 5), .inl (cI, 2, .inl iv)), ((md 6), .inl (cI, 60, .inl tx))]) (va_runV (As := [.int 59]) (rest := []) ⟨hx, hb, hml, hown, hts⟩ (c_X4_takesOne_y l D cI cC cZ cG H.size md a kp hs hn sl iv tx tl ((m_re tx tl s1 n1).2.1) ((m_re tx tl s1 n1).2.2) 59 (by first | omega | assumption) (by first | omega | assumption) hq_3) (cwV 1 hts gX4_fault_X4_takesOne rfl rfl rfl hy_X4_takesOne ⟨Nat.le_of_ble_eq_true rfl, Nat.le_of_ble_eq_true rfl⟩) (b_pWV (wc := [((md 0), .inr (4, [.ref (md 1), .ref (md 2), .ref (md 3), .int (nI hn), .ref (md 4), .ref (md 5), .ref (md 6), .int (nI tl), .int (nI ((m_re tx tl s1 n1).2.1)), .int ((m_re tx tl s1 n1).2.2)])), ((md 1), .inl (cI, 86, .inl a)), ((md 2), .inl (cI, 86, .inl kp)), ((md 3), .inl (cI, 516, .inl hs)), ((md 4), .inl (cI, 172, .inl sl)), ((md 5), .inl (cI, 2, .inl iv)), ((md 6), .inl (cI, 60, .inl tx))]) hK hP hD b_Xok_0 [0, 1, 2, 3, 4, 5, 6] rfl (by decide) rfl trivial (ci := 4) (q0 := 0) rfl rfl) rfl rfl hl.1 rfl (lv_room (Nat.le_of_ble_eq_true rfl)) dX4_fault_26 ⟨Nat.zero_le _, Nat.zero_le _⟩) hP hD hS hA [0, 1, 2, 3, 4, 5, 6] rfl rfl (fun H locs hP hD hS => ?_)
            have hP : va_P D vwCl [((md 0), .inr (4, [.ref (md 1), .ref (md 2), .ref (md 3), .int (nI hn), .ref (md 4), .ref (md 5), .ref (md 6), .int (nI tl), .int (nI (((m_re tx tl s1 n1).2.1) + 1)), .int ((m_re tx tl s1 n1).2.2)])), ((md 1), .inl (cI, 86, .inl a)), ((md 2), .inl (cI, 86, .inl kp)), ((md 3), .inl (cI, 516, .inl hs)), ((md 4), .inl (cI, 172, .inl sl)), ((md 5), .inl (cI, 2, .inl iv)), ((md 6), .inl (cI, 60, .inl tx))] H := hP
            have hD : va_D A [((md 0), .inr (4, [.ref (md 1), .ref (md 2), .ref (md 3), .int (nI hn), .ref (md 4), .ref (md 5), .ref (md 6), .int (nI tl), .int (nI (((m_re tx tl s1 n1).2.1) + 1)), .int ((m_re tx tl s1 n1).2.2)])), ((md 1), .inl (cI, 86, .inl a)), ((md 2), .inl (cI, 86, .inl kp)), ((md 3), .inl (cI, 516, .inl hs)), ((md 4), .inl (cI, 172, .inl sl)), ((md 5), .inl (cI, 2, .inl iv)), ((md 6), .inl (cI, 60, .inl tx))] := hD
            refine lv_istore_n (pc := 29) (lv' := [(1, .int 1), (0, .ref (md 0))]) hx hb dX4_fault_29 rfl hl (by decide) rfl (fun ls hl => ?_)
            refine lv_goto (pc := 30) (tgt := 7) hx hb dX4_fault_30 (by decide) ?_
            have hlt := hq_3.1
            exact ih_7 ((m_re tx tl s1 n1).2.1 + 1) ((m_re tx tl s1 n1).2.2) k2 (by omega) (by omega) (by rw [← hv, m_ftl, if_pos c_2, if_pos hq_3]) (by omega) _ _ (hP.sub [0, 1, 2, 3, 4, 5, 6] rfl) (hD.sub [0, 1, 2, 3, 4, 5, 6] (by decide) rfl) hS ls (lv_sub hl [0, 1] rfl)
          · skip
            refine b_cW (pc := 26) (w1 := [((md 0), .inr (4, [.ref (md 1), .ref (md 2), .ref (md 3), .int (nI hn), .ref (md 4), .ref (md 5), .ref (md 6), .int (nI tl), .int (nI ((m_re tx tl s1 n1).2.1)), .int ((m_re tx tl s1 n1).2.2)])), ((md 1), .inl (cI, 86, .inl a)), ((md 2), .inl (cI, 86, .inl kp)), ((md 3), .inl (cI, 516, .inl hs)), ((md 4), .inl (cI, 172, .inl sl)), ((md 5), .inl (cI, 2, .inl iv)), ((md 6), .inl (cI, 60, .inl tx))]) (va_runV (As := [.int 59]) (rest := []) ⟨hx, hb, hml, hown, hts⟩ (c_X4_takesOne_n l D cI cC cZ cG H.size md a kp hs hn sl iv tx tl ((m_re tx tl s1 n1).2.1) ((m_re tx tl s1 n1).2.2) 59 (by first | omega | assumption) (by first | omega | assumption) hq_4) (cwV 1 hts gX4_fault_X4_takesOne rfl rfl rfl hy_X4_takesOne ⟨Nat.le_of_ble_eq_true rfl, Nat.le_of_ble_eq_true rfl⟩) (b_pWV (wc := [((md 0), .inr (4, [.ref (md 1), .ref (md 2), .ref (md 3), .int (nI hn), .ref (md 4), .ref (md 5), .ref (md 6), .int (nI tl), .int (nI ((m_re tx tl s1 n1).2.1)), .int ((m_re tx tl s1 n1).2.2)])), ((md 1), .inl (cI, 86, .inl a)), ((md 2), .inl (cI, 86, .inl kp)), ((md 3), .inl (cI, 516, .inl hs)), ((md 4), .inl (cI, 172, .inl sl)), ((md 5), .inl (cI, 2, .inl iv)), ((md 6), .inl (cI, 60, .inl tx))]) hK hP hD b_Xok_0 [0, 1, 2, 3, 4, 5, 6] rfl (by decide) rfl trivial (ci := 4) (q0 := 0) rfl rfl) rfl rfl hl.1 rfl (lv_room (Nat.le_of_ble_eq_true rfl)) dX4_fault_26 ⟨Nat.zero_le _, Nat.zero_le _⟩) hP hD hS hA [0, 1, 2, 3, 4, 5, 6] rfl rfl (fun H locs hP hD hS => ?_)
            have hP : va_P D vwCl [((md 0), .inr (4, [.ref (md 1), .ref (md 2), .ref (md 3), .int (nI hn), .ref (md 4), .ref (md 5), .ref (md 6), .int (nI tl), .int (nI ((m_re tx tl s1 n1).2.1)), .int ((m_re tx tl s1 n1).2.2)])), ((md 1), .inl (cI, 86, .inl a)), ((md 2), .inl (cI, 86, .inl kp)), ((md 3), .inl (cI, 516, .inl hs)), ((md 4), .inl (cI, 172, .inl sl)), ((md 5), .inl (cI, 2, .inl iv)), ((md 6), .inl (cI, 60, .inl tx))] H := hP
            have hD : va_D A [((md 0), .inr (4, [.ref (md 1), .ref (md 2), .ref (md 3), .int (nI hn), .ref (md 4), .ref (md 5), .ref (md 6), .int (nI tl), .int (nI ((m_re tx tl s1 n1).2.1)), .int ((m_re tx tl s1 n1).2.2)])), ((md 1), .inl (cI, 86, .inl a)), ((md 2), .inl (cI, 86, .inl kp)), ((md 3), .inl (cI, 516, .inl hs)), ((md 4), .inl (cI, 172, .inl sl)), ((md 5), .inl (cI, 2, .inl iv)), ((md 6), .inl (cI, 60, .inl tx))] := hD
            refine lv_istore_n (pc := 29) (lv' := [(1, .int 0), (0, .ref (md 0))]) hx hb dX4_fault_29 rfl hl (by decide) rfl (fun ls hl => ?_)
            refine lv_goto (pc := 30) (tgt := 7) hx hb dX4_fault_30 (by decide) ?_
            refine lv_iload_n (pc := 7) hx hb dX4_fault_7 rfl (lv_at hl 0 rfl) ?_
            refine lv_if_eq (pc := 8) (tgt := 33) hx hb dX4_fault_8 (by decide) (fun c_5 => ?_) (fun c_5 => ?_)
            · skip
              refine lv_aload_n (pc := 33) hx hb dX4_fault_33 rfl (lv_at hl 1 rfl) ?_
              refine va_get (pc := 34) (D := D) (ci := 4) (v := .int (nI ((m_re tx tl s1 n1).2.1))) (C := RX4) (T := TX4) (N := 10) hx hb hts hi_X4_fault_X4 hown hK hP 0 rfl rfl 8 (by decide) (hts _ hw_X4_fault_0) (fun _ h9 => h9) rfl dX4_fault_34 ?_
              refine lv_aload_n (pc := 37) hx hb dX4_fault_37 rfl (lv_at hl 1 rfl) ?_
              refine va_get (pc := 38) (D := D) (ci := 4) (v := .int (nI tl)) (C := RX4) (T := TX4) (N := 10) hx hb hts hi_X4_fault_X4 hown hK hP 0 rfl rfl 7 (by decide) (hts _ hw_X4_fault_2) (fun _ h9 => h9) rfl dX4_fault_38 ?_
              refine lv_icmp_ne (pc := 41) (tgt := 49) hx hb dX4_fault_41 (by decide) (fun c_6 => ?_) (fun c_6 => ?_)
              · skip
                have c_6 : ¬ ((m_re tx tl s1 n1).2.1 = tl) := fun h9 => c_6 ((nI_eq (a := (m_re tx tl s1 n1).2.1) (b := tl) (by omega) (by omega)).mpr h9)
                refine lv_aload_n (pc := 49) hx hb dX4_fault_49 rfl (lv_at hl 1 rfl) ?_
                refine va_get (pc := 50) (D := D) (ci := 4) (v := .int (nI ((m_re tx tl s1 n1).2.1))) (C := RX4) (T := TX4) (N := 10) hx hb hts hi_X4_fault_X4 hown hK hP 0 rfl rfl 8 (by decide) (hts _ hw_X4_fault_0) (fun _ h9 => h9) rfl dX4_fault_50 ?_
                subst hQ
                exact b_retW hx hb hr hlocks hS (by have e7 : m_ftl tx tl (tl + 1) 0 nu = (nI ((m_re tx tl s1 n1).2.1), (m_re tx tl s1 n1).2.1, (m_re tx tl s1 n1).2.2) := (by rw [← hv, m_ftl, if_pos c_2, if_neg hq_4, if_neg c_6]); rw [e7]) (by have e7 : m_ftl tx tl (tl + 1) 0 nu = (nI ((m_re tx tl s1 n1).2.1), (m_re tx tl s1 n1).2.1, (m_re tx tl s1 n1).2.2) := (by rw [← hv, m_ftl, if_pos c_2, if_neg hq_4, if_neg c_6]); rw [e7]; exact hP) dX4_fault_53
              · skip
                have c_6 : (m_re tx tl s1 n1).2.1 = tl := (nI_eq (a := (m_re tx tl s1 n1).2.1) (b := tl) (by omega) (by omega)).mp c_6
                refine lv_bipush (pc := 44) (v := (-6)) hx hb dX4_fault_44 (by decide) ?_
                refine lv_goto (pc := 46) (tgt := 53) hx hb dX4_fault_46 (by decide) ?_
                subst hQ
                exact b_retW hx hb hr hlocks hS (by have e7 : m_ftl tx tl (tl + 1) 0 nu = ((-6), (m_re tx tl s1 n1).2.1, (m_re tx tl s1 n1).2.2) := (by rw [← hv, m_ftl, if_pos c_2, if_neg hq_4, if_pos c_6]); rw [e7]) (by have e7 : m_ftl tx tl (tl + 1) 0 nu = ((-6), (m_re tx tl s1 n1).2.1, (m_re tx tl s1 n1).2.2) := (by rw [← hv, m_ftl, if_pos c_2, if_neg hq_4, if_pos c_6]); rw [e7]; exact hP) dX4_fault_53
            · skip
              exact absurd c_5 (by decide)
        · skip
          have c_2 : ¬ ((m_re tx tl s1 n1).1 = true) := b_i_0.mp c_2
          refine lv_aload_n (pc := 18) hx hb dX4_fault_18 rfl (lv_at hl 1 rfl) ?_
          refine va_get (pc := 19) (D := D) (ci := 4) (v := .int (nI ((m_re tx tl s1 n1).2.1))) (C := RX4) (T := TX4) (N := 10) hx hb hts hi_X4_fault_X4 hown hK hP 0 rfl rfl 8 (by decide) (hts _ hw_X4_fault_0) (fun _ h9 => h9) rfl dX4_fault_19 ?_
          subst hQ
          exact b_retW hx hb hr hlocks hS (by have e7 : m_ftl tx tl (tl + 1) 0 nu = (nI ((m_re tx tl s1 n1).2.1), (m_re tx tl s1 n1).2.1, (m_re tx tl s1 n1).2.2) := (by rw [← hv, m_ftl, if_neg c_2]); rw [e7]) (by have e7 : m_ftl tx tl (tl + 1) 0 nu = (nI ((m_re tx tl s1 n1).2.1), (m_re tx tl s1 n1).2.1, (m_re tx tl s1 n1).2.2) := (by rw [← hv, m_ftl, if_neg c_2]); rw [e7]; exact hP) dX4_fault_22
  exact loop_7 (tl + 2) 0 nu (tl + 1) (Nat.zero_le _) (by omega) rfl (by omega) _ _ (hP.sub [0, 1, 2, 3, 4, 5, 6] rfl) (hD.sub [0, 1, 2, 3, 4, 5, 6] (by decide) rfl) hS ls (lv_sub hl [0, 1] rfl)
