def h_nx (k : Nat) : Nat := if k + 1 < 6 then k + 1 else 0
def h_sz (k : Nat) : Nat := if k + 1 ≤ 6 then k + 1 else 6
def h_pv (k : Nat) : Nat := if 0 < k then k - 1 else 5
theorem b_min6 {k : Nat} (h : k ≤ 6) : (if (6 : Int32) < nI (k + 1) then 6 else nI (k + 1)) = nI (h_sz k) := by
  unfold h_sz
  by_cases c : k + 1 ≤ 6
  · rw [if_pos c, if_neg (fun z : (6 : Int32) < nI (k + 1) => absurd ((nI_ltI (a := 6) (b := k + 1) (by omega) (by omega)).mp z) (by omega))]
  · rw [if_neg c, if_pos (show (6 : Int32) < nI (k + 1) from (nI_ltI (a := 6) (b := k + 1) (by omega) (by omega)).mpr (by omega))]
    rfl

theorem hw_X3_copyRow_0 : (.methodLink RX3 155 arraycopyName : Cond) ∈ wsX3_copyRow := by decide +kernel
theorem hw_X3_copyRow_1 : (.native arraycopyName : Cond) ∈ wsX3_copyRow := by decide +kernel
theorem hw_X3_copyRow_2 : (.static arraycopyName : Cond) ∈ wsX3_copyRow := by decide +kernel
theorem hw_X3_copyRow_3 : (.initialized "java/lang/System" : Cond) ∈ wsX3_copyRow := by decide +kernel
set_option maxHeartbeats 4000000 in
set_option maxRecDepth 100000 in
/-- copyRow -/
theorem c_X3_copyRow (l : Launch) (D : va_G) (cI cC cZ cG : ClassId) (tb lo hi : Nat) (sz : Nat) (r1 : Nat) (r2 : Nat) (f1 : Nat → Int32) (f2 : Nat → Int32) : Met l yX3_copyRow wsX3_copyRow ({ frames := 1, cells := 0, slots := 0, locals := 30 } : Room) (b_W D (b_T cI cC cZ cG) (b_X tb lo hi) [(r1, .inl (cI, 86, .inl f1)), (r2, .inl (cI, 86, .inl f2))] sz [.ref r1, .ref r2]) (b_Qv D [(r1, .inl (cI, 86, .inl f1)), (r2, .inl (cI, 86, .inl (va_cpy f1 f2 0 0 86)))] (va_A [(r1, .inl (cI, 86, .inl f1)), (r2, .inl (cI, 86, .inl f2))] sz)) 0 0 (va_A [(r1, .inl (cI, 86, .inl f1)), (r2, .inl (cI, 86, .inl f2))] sz) := by
  refine b_enterW (Qc := fun A => b_Qv D [(r1, .inl (cI, 86, .inl f1)), (r2, .inl (cI, 86, .inl (va_cpy f1 f2 0 0 86)))] A) (cc := cX3_copyRow) (maxL := 2) (ret := none) (by decide) rfl (Nat.le_of_ble_eq_true rfl) ?_
  intro p e s m below meth c ls A hx hb hr hml hown hts hlocks hname hP hK hD hA hS hX hl Q hQ
  have hown : s.vm.findClass RX3 = some m.cls := hown
  have hl : lv_has ls 2 [(0, .ref r1), (1, .ref r2)] := hl
  refine lv_aload_n (pc := 0) hx hb dX3_copyRow_0 rfl (lv_at hl 0 rfl) ?_
  refine lv_iconst (pc := 1) (v := 0) hx hb dX3_copyRow_1 (by decide) ?_
  refine lv_aload_n (pc := 2) hx hb dX3_copyRow_2 rfl (lv_at hl 1 rfl) ?_
  refine lv_iconst (pc := 3) (v := 0) hx hb dX3_copyRow_3 (by decide) ?_
  refine lv_bipush (pc := 4) (v := 86) hx hb dX3_copyRow_4 (by decide) ?_
  refine va_copyi (pc := 6) hx hb (by rw [hml]; exact hl.1.symm) hown (hts _ hw_X3_copyRow_0) (hts _ hw_X3_copyRow_1) (hts _ hw_X3_copyRow_2) (hts _ hw_X3_copyRow_3) hK hP hD hS 0 1 0 0 rfl rfl rfl rfl rfl (by decide) (by decide) (by decide) (by decide) (by decide) (fun _ _ => rfl) (Nat.le_of_ble_eq_true rfl) (Nat.le_of_ble_eq_true rfl) dX3_copyRow_6 (fun H locs hP hD hS => ?_)
  rw [show (0 : Int32).toNatClampNeg = 0 from by decide, show (86 : Int32).toNatClampNeg = 86 from by decide] at hP hD
  obtain ⟨f_1, ef_1⟩ : ∃ z : Nat → Int32, z = va_cpy f1 f2 0 0 86 := ⟨_, rfl⟩
  have hP : va_P D vwCl [(r1, .inl (cI, 86, .inl f1)), (r2, .inl (cI, 86, .inl f_1))] H := by rw [ef_1]; exact hP
  have hD : va_D A [(r1, .inl (cI, 86, .inl f1)), (r2, .inl (cI, 86, .inl f_1))] := by rw [ef_1]; exact hD
  subst ef_1
  subst hQ
  exact b_retV hx hb hr hlocks hS (by first | exact hP | (refine (b_eqP ?_ hP); simp only [])) dX3_copyRow_9
theorem hw_X1_keep_0_0 : (.fieldLink RX1 13 "BeamTurnstiles$History" "rows" "[[I" : Cond) ∈ wsX1_keep := by decide +kernel
theorem hi_X1_keep_0_X1 : ∀ w ∈ wsX10, w ∈ wsX1_keep := by decide +kernel
theorem hw_X1_keep_0_2 : (.fieldLink RX1 16 "BeamTurnstiles$History" "next" "I" : Cond) ∈ wsX1_keep := by decide +kernel
theorem hw_X1_keep_0_3 : (.initialized RX3 : Cond) ∈ wsX1_keep := by decide +kernel
theorem hw_X1_keep_0_4 : (.static yX3_copyRow : Cond) ∈ wsX1_keep := by decide +kernel
theorem hw_X1_keep_0_5 : (.fieldLink RX1 20 "BeamTurnstiles$History" "size" "I" : Cond) ∈ wsX1_keep := by decide +kernel
theorem hw_X1_keep_0_6 : (.methodLink RX1 29 Lib.Math.min.name : Cond) ∈ wsX1_keep := by decide +kernel
theorem hw_X1_keep_0_7 : (.static Lib.Math.min.name : Cond) ∈ wsX1_keep := by decide +kernel
theorem hw_X1_keep_0_8 : (.initialized "java/lang/Math" : Cond) ∈ wsX1_keep := by decide +kernel
theorem hw_X1_keep_0_9 : (.code Lib.Math.min.name Lib.Math.min.code 2 (some .int) : Cond) ∈ wsX1_keep := by decide +kernel
set_option maxHeartbeats 4000000 in
set_option maxRecDepth 100000 in
theorem c_X1_keep_0 (l : Launch) (D : va_G) (cI cC cZ cG : ClassId) (tb lo hi : Nat) (sz : Nat) (q : Nat) (G : Nat) (y0 : Nat) (y1 : Nat) (y2 : Nat) (y3 : Nat) (y4 : Nat) (y5 : Nat) (sn : Nat) (R : Nat → Nat → Int32) (r : Nat) (f : Nat → Int32) (hsn : sn ≤ 6) : Met l yX1_keep wsX1_keep ({ frames := 2, cells := 0, slots := 0, locals := 51 } : Room) (b_W D (b_T cI cC cZ cG) (b_X tb lo hi) [(q, .inr (1, [.ref G, .int (nI 0), .int (nI sn)])), (G, .inl (cG, 6, .inr (.inr (.inr (.inr (fun i => ([y0, y1, y2, y3, y4, y5] : List Nat)[i]?)))))), (y0, .inl (cI, 86, .inl (R 0))), (y1, .inl (cI, 86, .inl (R 1))), (y2, .inl (cI, 86, .inl (R 2))), (y3, .inl (cI, 86, .inl (R 3))), (y4, .inl (cI, 86, .inl (R 4))), (y5, .inl (cI, 86, .inl (R 5))), (r, .inl (cI, 86, .inl f))] sz [.ref q, .ref r]) (b_Qv D [(q, .inr (1, [.ref G, .int (nI (h_nx 0)), .int (nI (h_sz sn))])), (G, .inl (cG, 6, .inr (.inr (.inr (.inr (fun i => ([y0, y1, y2, y3, y4, y5] : List Nat)[i]?)))))), (y0, .inl (cI, 86, .inl (va_up R 0 (va_cpy f (R 0) 0 0 86) 0))), (y1, .inl (cI, 86, .inl (va_up R 0 (va_cpy f (R 0) 0 0 86) 1))), (y2, .inl (cI, 86, .inl (va_up R 0 (va_cpy f (R 0) 0 0 86) 2))), (y3, .inl (cI, 86, .inl (va_up R 0 (va_cpy f (R 0) 0 0 86) 3))), (y4, .inl (cI, 86, .inl (va_up R 0 (va_cpy f (R 0) 0 0 86) 4))), (y5, .inl (cI, 86, .inl (va_up R 0 (va_cpy f (R 0) 0 0 86) 5))), (r, .inl (cI, 86, .inl f))] (va_A [(q, .inr (1, [.ref G, .int (nI 0), .int (nI sn)])), (G, .inl (cG, 6, .inr (.inr (.inr (.inr (fun i => ([y0, y1, y2, y3, y4, y5] : List Nat)[i]?)))))), (y0, .inl (cI, 86, .inl (R 0))), (y1, .inl (cI, 86, .inl (R 1))), (y2, .inl (cI, 86, .inl (R 2))), (y3, .inl (cI, 86, .inl (R 3))), (y4, .inl (cI, 86, .inl (R 4))), (y5, .inl (cI, 86, .inl (R 5))), (r, .inl (cI, 86, .inl f))] sz)) 0 0 (va_A [(q, .inr (1, [.ref G, .int (nI 0), .int (nI sn)])), (G, .inl (cG, 6, .inr (.inr (.inr (.inr (fun i => ([y0, y1, y2, y3, y4, y5] : List Nat)[i]?)))))), (y0, .inl (cI, 86, .inl (R 0))), (y1, .inl (cI, 86, .inl (R 1))), (y2, .inl (cI, 86, .inl (R 2))), (y3, .inl (cI, 86, .inl (R 3))), (y4, .inl (cI, 86, .inl (R 4))), (y5, .inl (cI, 86, .inl (R 5))), (r, .inl (cI, 86, .inl f))] sz) := by
  refine b_enterW (Qc := fun A => b_Qv D [(q, .inr (1, [.ref G, .int (nI (h_nx 0)), .int (nI (h_sz sn))])), (G, .inl (cG, 6, .inr (.inr (.inr (.inr (fun i => ([y0, y1, y2, y3, y4, y5] : List Nat)[i]?)))))), (y0, .inl (cI, 86, .inl (va_up R 0 (va_cpy f (R 0) 0 0 86) 0))), (y1, .inl (cI, 86, .inl (va_up R 0 (va_cpy f (R 0) 0 0 86) 1))), (y2, .inl (cI, 86, .inl (va_up R 0 (va_cpy f (R 0) 0 0 86) 2))), (y3, .inl (cI, 86, .inl (va_up R 0 (va_cpy f (R 0) 0 0 86) 3))), (y4, .inl (cI, 86, .inl (va_up R 0 (va_cpy f (R 0) 0 0 86) 4))), (y5, .inl (cI, 86, .inl (va_up R 0 (va_cpy f (R 0) 0 0 86) 5))), (r, .inl (cI, 86, .inl f))] A) (cc := cX1_keep) (maxL := 2) (ret := none) (by decide) rfl (Nat.le_of_ble_eq_true rfl) ?_
  intro p e s m below meth c ls A hx hb hr hml hown hts hlocks hname hP hK hD hA hS hX hl Q hQ
  have hown : s.vm.findClass RX1 = some m.cls := hown
  have hl : lv_has ls 2 [(0, .ref q), (1, .ref r)] := hl
  refine lv_aload_n (pc := 0) hx hb dX1_keep_0 rfl (lv_at hl 1 rfl) ?_
  refine lv_aload_n (pc := 1) hx hb dX1_keep_1 rfl (lv_at hl 0 rfl) ?_
  refine va_get (pc := 2) (D := D) (ci := 1) (v := .ref G) (C := RX1) (T := TX1) (N := 3) hx hb hts hi_X1_keep_0_X1 hown hK hP 0 rfl rfl 0 (by decide) (hts _ hw_X1_keep_0_0) (fun _ h9 => h9) rfl dX1_keep_2 ?_
  refine lv_aload_n (pc := 5) hx hb dX1_keep_5 rfl (lv_at hl 0 rfl) ?_
  refine va_get (pc := 6) (D := D) (ci := 1) (v := .int (nI 0)) (C := RX1) (T := TX1) (N := 3) hx hb hts hi_X1_keep_0_X1 hown hK hP 0 rfl rfl 1 (by decide) (hts _ hw_X1_keep_0_2) (fun _ h9 => h9) rfl dX1_keep_6 ?_
  refine b_gald (pc := 9) (r := y0) hx hb hK hP 1 3 rfl rfl 0 rfl (by decide) (by decide) rfl dX1_keep_9 ?_
  refine b_cV (pc := 10) (w1 := [(r, .inl (cI, 86, .inl f)), (y0, .inl (cI, 86, .inl (va_cpy f (R 0) 0 0 86)))]) (va_runSN (As := [.ref r, .ref y0]) (rest := []) ⟨hx, hb, hml, hown, hts⟩ (c_X3_copyRow l D cI cC cZ cG tb lo hi s.heap.size r y0 f (R 0)) ⟨va_cnB 2 hts gX1_keep_X3_copyRow_n23 rfl rfl rfl hX.2.2.2.1 (hts _ hw_X1_keep_0_3) hyS_X3_copyRow ⟨Nat.le_of_ble_eq_true rfl, Nat.le_of_ble_eq_true rfl⟩, (hts _ hw_X1_keep_0_4), trivial⟩ (b_pWS (wc := [(r, .inl (cI, 86, .inl f)), (y0, .inl (cI, 86, .inl (R 0)))]) hK hP hD (b_Xok_X tb lo hi) [8, 2] rfl (by decide) rfl (b_Xc hX hD hS hA [8, 2] rfl)) rfl rfl hl.1 rfl (lv_room (Nat.le_of_ble_eq_true rfl)) dX1_keep_10 ⟨Nat.zero_le _, Nat.zero_le _⟩) hP hD hS hA [8, 2] rfl rfl (fun H locs hP hD hS => ?_)
  have hP : va_P D vwCl [(q, .inr (1, [.ref G, .int (nI 0), .int (nI sn)])), (G, .inl (cG, 6, .inr (.inr (.inr (.inr (fun i => ([y0, y1, y2, y3, y4, y5] : List Nat)[i]?)))))), (y0, .inl (cI, 86, .inl (va_cpy f (R 0) 0 0 86))), (y1, .inl (cI, 86, .inl (R 1))), (y2, .inl (cI, 86, .inl (R 2))), (y3, .inl (cI, 86, .inl (R 3))), (y4, .inl (cI, 86, .inl (R 4))), (y5, .inl (cI, 86, .inl (R 5))), (r, .inl (cI, 86, .inl f))] H := hP
  have hD : va_D A [(q, .inr (1, [.ref G, .int (nI 0), .int (nI sn)])), (G, .inl (cG, 6, .inr (.inr (.inr (.inr (fun i => ([y0, y1, y2, y3, y4, y5] : List Nat)[i]?)))))), (y0, .inl (cI, 86, .inl (va_cpy f (R 0) 0 0 86))), (y1, .inl (cI, 86, .inl (R 1))), (y2, .inl (cI, 86, .inl (R 2))), (y3, .inl (cI, 86, .inl (R 3))), (y4, .inl (cI, 86, .inl (R 4))), (y5, .inl (cI, 86, .inl (R 5))), (r, .inl (cI, 86, .inl f))] := hD
  refine lv_aload_n (pc := 13) hx hb dX1_keep_13 rfl (lv_at hl 0 rfl) ?_
  refine lv_aload_n (pc := 14) hx hb dX1_keep_14 rfl (lv_at hl 0 rfl) ?_
  refine va_get (pc := 15) (D := D) (ci := 1) (v := .int (nI 0)) (C := RX1) (T := TX1) (N := 3) hx hb hts hi_X1_keep_0_X1 hown hK hP 0 rfl rfl 1 (by decide) (hts _ hw_X1_keep_0_2) (fun _ h9 => h9) rfl dX1_keep_15 ?_
  refine lv_iconst (pc := 18) (v := 1) hx hb dX1_keep_18 (by decide) ?_
  refine lv_iadd (pc := 19) hx hb dX1_keep_19 ?_
  refine b_re (nI_add 0 1) ?_
  refine lv_bipush (pc := 20) (v := 6) hx hb dX1_keep_20 (by decide) ?_
  refine lv_icmp_ge (pc := 22) (tgt := 34) hx hb dX1_keep_22 (by decide) (fun c_1 => ?_) (fun c_1 => ?_)
  · skip
    have c_1 : 6 ≤ 0 + 1 := (nI_leI (a := 6) (b := 0 + 1) (by omega) (by omega)).mp c_1
    exact absurd c_1 (by decide)
  · skip
    have c_1 : ¬ (6 ≤ 0 + 1) := fun h9 => c_1 ((nI_leI (a := 6) (b := 0 + 1) (by omega) (by omega)).mpr h9)
    refine lv_aload_n (pc := 25) hx hb dX1_keep_25 rfl (lv_at hl 0 rfl) ?_
    refine va_get (pc := 26) (D := D) (ci := 1) (v := .int (nI 0)) (C := RX1) (T := TX1) (N := 3) hx hb hts hi_X1_keep_0_X1 hown hK hP 0 rfl rfl 1 (by decide) (hts _ hw_X1_keep_0_2) (fun _ h9 => h9) rfl dX1_keep_26 ?_
    refine lv_iconst (pc := 29) (v := 1) hx hb dX1_keep_29 (by decide) ?_
    refine lv_iadd (pc := 30) hx hb dX1_keep_30 ?_
    refine b_re (nI_add 0 1) ?_
    refine lv_goto (pc := 31) (tgt := 35) hx hb dX1_keep_31 (by decide) ?_
    refine va_put (pc := 35) (D := D) (ci := 1) (v := .int (nI (0 + 1))) (ty := .int) (C := RX1) (T := TX1) (N := 3) hx hb hts hi_X1_keep_0_X1 tyX1 tyX1_ok nmX1 hown hK hP hD hS 0 rfl rfl 1 (by decide) (hts _ hw_X1_keep_0_2) (fun _ h9 => h9) rfl (by decide +kernel) rfl rfl (Nat.le_of_ble_eq_true rfl) dX1_keep_35 (fun H locs hP hD hS => ?_)
    have hP : va_P D vwCl [(q, .inr (1, [.ref G, .int (nI (0 + 1)), .int (nI sn)])), (G, .inl (cG, 6, .inr (.inr (.inr (.inr (fun i => ([y0, y1, y2, y3, y4, y5] : List Nat)[i]?)))))), (y0, .inl (cI, 86, .inl (va_cpy f (R 0) 0 0 86))), (y1, .inl (cI, 86, .inl (R 1))), (y2, .inl (cI, 86, .inl (R 2))), (y3, .inl (cI, 86, .inl (R 3))), (y4, .inl (cI, 86, .inl (R 4))), (y5, .inl (cI, 86, .inl (R 5))), (r, .inl (cI, 86, .inl f))] H := hP
    have hD : va_D A [(q, .inr (1, [.ref G, .int (nI (0 + 1)), .int (nI sn)])), (G, .inl (cG, 6, .inr (.inr (.inr (.inr (fun i => ([y0, y1, y2, y3, y4, y5] : List Nat)[i]?)))))), (y0, .inl (cI, 86, .inl (va_cpy f (R 0) 0 0 86))), (y1, .inl (cI, 86, .inl (R 1))), (y2, .inl (cI, 86, .inl (R 2))), (y3, .inl (cI, 86, .inl (R 3))), (y4, .inl (cI, 86, .inl (R 4))), (y5, .inl (cI, 86, .inl (R 5))), (r, .inl (cI, 86, .inl f))] := hD
    refine lv_aload_n (pc := 38) hx hb dX1_keep_38 rfl (lv_at hl 0 rfl) ?_
    refine lv_aload_n (pc := 39) hx hb dX1_keep_39 rfl (lv_at hl 0 rfl) ?_
    refine va_get (pc := 40) (D := D) (ci := 1) (v := .int (nI sn)) (C := RX1) (T := TX1) (N := 3) hx hb hts hi_X1_keep_0_X1 hown hK hP 0 rfl rfl 2 (by decide) (hts _ hw_X1_keep_0_5) (fun _ h9 => h9) rfl dX1_keep_40 ?_
    refine lv_iconst (pc := 43) (v := 1) hx hb dX1_keep_43 (by decide) ?_
    refine lv_iadd (pc := 44) hx hb dX1_keep_44 ?_
    refine b_re (nI_add sn 1) ?_
    refine lv_bipush (pc := 45) (v := 6) hx hb dX1_keep_45 (by decide) ?_
    refine va_mmin (pc := 47) hx hb (by rw [hml]; exact hl.1.symm) hown (hts _ hw_X1_keep_0_6) (hts _ hw_X1_keep_0_7) (hts _ hw_X1_keep_0_8) (hts _ hw_X1_keep_0_9) (Nat.le_of_ble_eq_true rfl) (Nat.le_of_ble_eq_true rfl) (Nat.zero_le _) (Nat.zero_le _) dX1_keep_47 ?_
    refine b_re (b_min6 hsn) ?_
    refine va_put (pc := 50) (D := D) (ci := 1) (v := .int (nI (h_sz sn))) (ty := .int) (C := RX1) (T := TX1) (N := 3) hx hb hts hi_X1_keep_0_X1 tyX1 tyX1_ok nmX1 hown hK hP hD hS 0 rfl rfl 2 (by decide) (hts _ hw_X1_keep_0_5) (fun _ h9 => h9) rfl (by decide +kernel) rfl rfl (Nat.le_of_ble_eq_true rfl) dX1_keep_50 (fun H locs hP hD hS => ?_)
    have hP : va_P D vwCl [(q, .inr (1, [.ref G, .int (nI (0 + 1)), .int (nI (h_sz sn))])), (G, .inl (cG, 6, .inr (.inr (.inr (.inr (fun i => ([y0, y1, y2, y3, y4, y5] : List Nat)[i]?)))))), (y0, .inl (cI, 86, .inl (va_cpy f (R 0) 0 0 86))), (y1, .inl (cI, 86, .inl (R 1))), (y2, .inl (cI, 86, .inl (R 2))), (y3, .inl (cI, 86, .inl (R 3))), (y4, .inl (cI, 86, .inl (R 4))), (y5, .inl (cI, 86, .inl (R 5))), (r, .inl (cI, 86, .inl f))] H := hP
    have hD : va_D A [(q, .inr (1, [.ref G, .int (nI (0 + 1)), .int (nI (h_sz sn))])), (G, .inl (cG, 6, .inr (.inr (.inr (.inr (fun i => ([y0, y1, y2, y3, y4, y5] : List Nat)[i]?)))))), (y0, .inl (cI, 86, .inl (va_cpy f (R 0) 0 0 86))), (y1, .inl (cI, 86, .inl (R 1))), (y2, .inl (cI, 86, .inl (R 2))), (y3, .inl (cI, 86, .inl (R 3))), (y4, .inl (cI, 86, .inl (R 4))), (y5, .inl (cI, 86, .inl (R 5))), (r, .inl (cI, 86, .inl f))] := hD
    subst hQ
    exact b_retV hx hb hr hlocks hS (hP) dX1_keep_53
theorem hw_X1_keep_1_0 : (.fieldLink RX1 13 "BeamTurnstiles$History" "rows" "[[I" : Cond) ∈ wsX1_keep := by decide +kernel
theorem hi_X1_keep_1_X1 : ∀ w ∈ wsX10, w ∈ wsX1_keep := by decide +kernel
theorem hw_X1_keep_1_2 : (.fieldLink RX1 16 "BeamTurnstiles$History" "next" "I" : Cond) ∈ wsX1_keep := by decide +kernel
theorem hw_X1_keep_1_3 : (.initialized RX3 : Cond) ∈ wsX1_keep := by decide +kernel
theorem hw_X1_keep_1_4 : (.static yX3_copyRow : Cond) ∈ wsX1_keep := by decide +kernel
theorem hw_X1_keep_1_5 : (.fieldLink RX1 20 "BeamTurnstiles$History" "size" "I" : Cond) ∈ wsX1_keep := by decide +kernel
theorem hw_X1_keep_1_6 : (.methodLink RX1 29 Lib.Math.min.name : Cond) ∈ wsX1_keep := by decide +kernel
theorem hw_X1_keep_1_7 : (.static Lib.Math.min.name : Cond) ∈ wsX1_keep := by decide +kernel
theorem hw_X1_keep_1_8 : (.initialized "java/lang/Math" : Cond) ∈ wsX1_keep := by decide +kernel
theorem hw_X1_keep_1_9 : (.code Lib.Math.min.name Lib.Math.min.code 2 (some .int) : Cond) ∈ wsX1_keep := by decide +kernel
set_option maxHeartbeats 4000000 in
set_option maxRecDepth 100000 in
theorem c_X1_keep_1 (l : Launch) (D : va_G) (cI cC cZ cG : ClassId) (tb lo hi : Nat) (sz : Nat) (q : Nat) (G : Nat) (y0 : Nat) (y1 : Nat) (y2 : Nat) (y3 : Nat) (y4 : Nat) (y5 : Nat) (sn : Nat) (R : Nat → Nat → Int32) (r : Nat) (f : Nat → Int32) (hsn : sn ≤ 6) : Met l yX1_keep wsX1_keep ({ frames := 2, cells := 0, slots := 0, locals := 51 } : Room) (b_W D (b_T cI cC cZ cG) (b_X tb lo hi) [(q, .inr (1, [.ref G, .int (nI 1), .int (nI sn)])), (G, .inl (cG, 6, .inr (.inr (.inr (.inr (fun i => ([y0, y1, y2, y3, y4, y5] : List Nat)[i]?)))))), (y0, .inl (cI, 86, .inl (R 0))), (y1, .inl (cI, 86, .inl (R 1))), (y2, .inl (cI, 86, .inl (R 2))), (y3, .inl (cI, 86, .inl (R 3))), (y4, .inl (cI, 86, .inl (R 4))), (y5, .inl (cI, 86, .inl (R 5))), (r, .inl (cI, 86, .inl f))] sz [.ref q, .ref r]) (b_Qv D [(q, .inr (1, [.ref G, .int (nI (h_nx 1)), .int (nI (h_sz sn))])), (G, .inl (cG, 6, .inr (.inr (.inr (.inr (fun i => ([y0, y1, y2, y3, y4, y5] : List Nat)[i]?)))))), (y0, .inl (cI, 86, .inl (va_up R 1 (va_cpy f (R 1) 0 0 86) 0))), (y1, .inl (cI, 86, .inl (va_up R 1 (va_cpy f (R 1) 0 0 86) 1))), (y2, .inl (cI, 86, .inl (va_up R 1 (va_cpy f (R 1) 0 0 86) 2))), (y3, .inl (cI, 86, .inl (va_up R 1 (va_cpy f (R 1) 0 0 86) 3))), (y4, .inl (cI, 86, .inl (va_up R 1 (va_cpy f (R 1) 0 0 86) 4))), (y5, .inl (cI, 86, .inl (va_up R 1 (va_cpy f (R 1) 0 0 86) 5))), (r, .inl (cI, 86, .inl f))] (va_A [(q, .inr (1, [.ref G, .int (nI 1), .int (nI sn)])), (G, .inl (cG, 6, .inr (.inr (.inr (.inr (fun i => ([y0, y1, y2, y3, y4, y5] : List Nat)[i]?)))))), (y0, .inl (cI, 86, .inl (R 0))), (y1, .inl (cI, 86, .inl (R 1))), (y2, .inl (cI, 86, .inl (R 2))), (y3, .inl (cI, 86, .inl (R 3))), (y4, .inl (cI, 86, .inl (R 4))), (y5, .inl (cI, 86, .inl (R 5))), (r, .inl (cI, 86, .inl f))] sz)) 0 0 (va_A [(q, .inr (1, [.ref G, .int (nI 1), .int (nI sn)])), (G, .inl (cG, 6, .inr (.inr (.inr (.inr (fun i => ([y0, y1, y2, y3, y4, y5] : List Nat)[i]?)))))), (y0, .inl (cI, 86, .inl (R 0))), (y1, .inl (cI, 86, .inl (R 1))), (y2, .inl (cI, 86, .inl (R 2))), (y3, .inl (cI, 86, .inl (R 3))), (y4, .inl (cI, 86, .inl (R 4))), (y5, .inl (cI, 86, .inl (R 5))), (r, .inl (cI, 86, .inl f))] sz) := by
  refine b_enterW (Qc := fun A => b_Qv D [(q, .inr (1, [.ref G, .int (nI (h_nx 1)), .int (nI (h_sz sn))])), (G, .inl (cG, 6, .inr (.inr (.inr (.inr (fun i => ([y0, y1, y2, y3, y4, y5] : List Nat)[i]?)))))), (y0, .inl (cI, 86, .inl (va_up R 1 (va_cpy f (R 1) 0 0 86) 0))), (y1, .inl (cI, 86, .inl (va_up R 1 (va_cpy f (R 1) 0 0 86) 1))), (y2, .inl (cI, 86, .inl (va_up R 1 (va_cpy f (R 1) 0 0 86) 2))), (y3, .inl (cI, 86, .inl (va_up R 1 (va_cpy f (R 1) 0 0 86) 3))), (y4, .inl (cI, 86, .inl (va_up R 1 (va_cpy f (R 1) 0 0 86) 4))), (y5, .inl (cI, 86, .inl (va_up R 1 (va_cpy f (R 1) 0 0 86) 5))), (r, .inl (cI, 86, .inl f))] A) (cc := cX1_keep) (maxL := 2) (ret := none) (by decide) rfl (Nat.le_of_ble_eq_true rfl) ?_
  intro p e s m below meth c ls A hx hb hr hml hown hts hlocks hname hP hK hD hA hS hX hl Q hQ
  have hown : s.vm.findClass RX1 = some m.cls := hown
  have hl : lv_has ls 2 [(0, .ref q), (1, .ref r)] := hl
  refine lv_aload_n (pc := 0) hx hb dX1_keep_0 rfl (lv_at hl 1 rfl) ?_
  refine lv_aload_n (pc := 1) hx hb dX1_keep_1 rfl (lv_at hl 0 rfl) ?_
  refine va_get (pc := 2) (D := D) (ci := 1) (v := .ref G) (C := RX1) (T := TX1) (N := 3) hx hb hts hi_X1_keep_1_X1 hown hK hP 0 rfl rfl 0 (by decide) (hts _ hw_X1_keep_1_0) (fun _ h9 => h9) rfl dX1_keep_2 ?_
  refine lv_aload_n (pc := 5) hx hb dX1_keep_5 rfl (lv_at hl 0 rfl) ?_
  refine va_get (pc := 6) (D := D) (ci := 1) (v := .int (nI 1)) (C := RX1) (T := TX1) (N := 3) hx hb hts hi_X1_keep_1_X1 hown hK hP 0 rfl rfl 1 (by decide) (hts _ hw_X1_keep_1_2) (fun _ h9 => h9) rfl dX1_keep_6 ?_
  refine b_gald (pc := 9) (r := y1) hx hb hK hP 1 3 rfl rfl 1 rfl (by decide) (by decide) rfl dX1_keep_9 ?_
  refine b_cV (pc := 10) (w1 := [(r, .inl (cI, 86, .inl f)), (y1, .inl (cI, 86, .inl (va_cpy f (R 1) 0 0 86)))]) (va_runSN (As := [.ref r, .ref y1]) (rest := []) ⟨hx, hb, hml, hown, hts⟩ (c_X3_copyRow l D cI cC cZ cG tb lo hi s.heap.size r y1 f (R 1)) ⟨va_cnB 2 hts gX1_keep_X3_copyRow_n23 rfl rfl rfl hX.2.2.2.1 (hts _ hw_X1_keep_1_3) hyS_X3_copyRow ⟨Nat.le_of_ble_eq_true rfl, Nat.le_of_ble_eq_true rfl⟩, (hts _ hw_X1_keep_1_4), trivial⟩ (b_pWS (wc := [(r, .inl (cI, 86, .inl f)), (y1, .inl (cI, 86, .inl (R 1)))]) hK hP hD (b_Xok_X tb lo hi) [8, 3] rfl (by decide) rfl (b_Xc hX hD hS hA [8, 3] rfl)) rfl rfl hl.1 rfl (lv_room (Nat.le_of_ble_eq_true rfl)) dX1_keep_10 ⟨Nat.zero_le _, Nat.zero_le _⟩) hP hD hS hA [8, 3] rfl rfl (fun H locs hP hD hS => ?_)
  have hP : va_P D vwCl [(q, .inr (1, [.ref G, .int (nI 1), .int (nI sn)])), (G, .inl (cG, 6, .inr (.inr (.inr (.inr (fun i => ([y0, y1, y2, y3, y4, y5] : List Nat)[i]?)))))), (y0, .inl (cI, 86, .inl (R 0))), (y1, .inl (cI, 86, .inl (va_cpy f (R 1) 0 0 86))), (y2, .inl (cI, 86, .inl (R 2))), (y3, .inl (cI, 86, .inl (R 3))), (y4, .inl (cI, 86, .inl (R 4))), (y5, .inl (cI, 86, .inl (R 5))), (r, .inl (cI, 86, .inl f))] H := hP
  have hD : va_D A [(q, .inr (1, [.ref G, .int (nI 1), .int (nI sn)])), (G, .inl (cG, 6, .inr (.inr (.inr (.inr (fun i => ([y0, y1, y2, y3, y4, y5] : List Nat)[i]?)))))), (y0, .inl (cI, 86, .inl (R 0))), (y1, .inl (cI, 86, .inl (va_cpy f (R 1) 0 0 86))), (y2, .inl (cI, 86, .inl (R 2))), (y3, .inl (cI, 86, .inl (R 3))), (y4, .inl (cI, 86, .inl (R 4))), (y5, .inl (cI, 86, .inl (R 5))), (r, .inl (cI, 86, .inl f))] := hD
  refine lv_aload_n (pc := 13) hx hb dX1_keep_13 rfl (lv_at hl 0 rfl) ?_
  refine lv_aload_n (pc := 14) hx hb dX1_keep_14 rfl (lv_at hl 0 rfl) ?_
  refine va_get (pc := 15) (D := D) (ci := 1) (v := .int (nI 1)) (C := RX1) (T := TX1) (N := 3) hx hb hts hi_X1_keep_1_X1 hown hK hP 0 rfl rfl 1 (by decide) (hts _ hw_X1_keep_1_2) (fun _ h9 => h9) rfl dX1_keep_15 ?_
  refine lv_iconst (pc := 18) (v := 1) hx hb dX1_keep_18 (by decide) ?_
  refine lv_iadd (pc := 19) hx hb dX1_keep_19 ?_
  refine b_re (nI_add 1 1) ?_
  refine lv_bipush (pc := 20) (v := 6) hx hb dX1_keep_20 (by decide) ?_
  refine lv_icmp_ge (pc := 22) (tgt := 34) hx hb dX1_keep_22 (by decide) (fun c_1 => ?_) (fun c_1 => ?_)
  · skip
    have c_1 : 6 ≤ 1 + 1 := (nI_leI (a := 6) (b := 1 + 1) (by omega) (by omega)).mp c_1
    exact absurd c_1 (by decide)
  · skip
    have c_1 : ¬ (6 ≤ 1 + 1) := fun h9 => c_1 ((nI_leI (a := 6) (b := 1 + 1) (by omega) (by omega)).mpr h9)
    refine lv_aload_n (pc := 25) hx hb dX1_keep_25 rfl (lv_at hl 0 rfl) ?_
    refine va_get (pc := 26) (D := D) (ci := 1) (v := .int (nI 1)) (C := RX1) (T := TX1) (N := 3) hx hb hts hi_X1_keep_1_X1 hown hK hP 0 rfl rfl 1 (by decide) (hts _ hw_X1_keep_1_2) (fun _ h9 => h9) rfl dX1_keep_26 ?_
    refine lv_iconst (pc := 29) (v := 1) hx hb dX1_keep_29 (by decide) ?_
    refine lv_iadd (pc := 30) hx hb dX1_keep_30 ?_
    refine b_re (nI_add 1 1) ?_
    refine lv_goto (pc := 31) (tgt := 35) hx hb dX1_keep_31 (by decide) ?_
    refine va_put (pc := 35) (D := D) (ci := 1) (v := .int (nI (1 + 1))) (ty := .int) (C := RX1) (T := TX1) (N := 3) hx hb hts hi_X1_keep_1_X1 tyX1 tyX1_ok nmX1 hown hK hP hD hS 0 rfl rfl 1 (by decide) (hts _ hw_X1_keep_1_2) (fun _ h9 => h9) rfl (by decide +kernel) rfl rfl (Nat.le_of_ble_eq_true rfl) dX1_keep_35 (fun H locs hP hD hS => ?_)
    have hP : va_P D vwCl [(q, .inr (1, [.ref G, .int (nI (1 + 1)), .int (nI sn)])), (G, .inl (cG, 6, .inr (.inr (.inr (.inr (fun i => ([y0, y1, y2, y3, y4, y5] : List Nat)[i]?)))))), (y0, .inl (cI, 86, .inl (R 0))), (y1, .inl (cI, 86, .inl (va_cpy f (R 1) 0 0 86))), (y2, .inl (cI, 86, .inl (R 2))), (y3, .inl (cI, 86, .inl (R 3))), (y4, .inl (cI, 86, .inl (R 4))), (y5, .inl (cI, 86, .inl (R 5))), (r, .inl (cI, 86, .inl f))] H := hP
    have hD : va_D A [(q, .inr (1, [.ref G, .int (nI (1 + 1)), .int (nI sn)])), (G, .inl (cG, 6, .inr (.inr (.inr (.inr (fun i => ([y0, y1, y2, y3, y4, y5] : List Nat)[i]?)))))), (y0, .inl (cI, 86, .inl (R 0))), (y1, .inl (cI, 86, .inl (va_cpy f (R 1) 0 0 86))), (y2, .inl (cI, 86, .inl (R 2))), (y3, .inl (cI, 86, .inl (R 3))), (y4, .inl (cI, 86, .inl (R 4))), (y5, .inl (cI, 86, .inl (R 5))), (r, .inl (cI, 86, .inl f))] := hD
    refine lv_aload_n (pc := 38) hx hb dX1_keep_38 rfl (lv_at hl 0 rfl) ?_
    refine lv_aload_n (pc := 39) hx hb dX1_keep_39 rfl (lv_at hl 0 rfl) ?_
    refine va_get (pc := 40) (D := D) (ci := 1) (v := .int (nI sn)) (C := RX1) (T := TX1) (N := 3) hx hb hts hi_X1_keep_1_X1 hown hK hP 0 rfl rfl 2 (by decide) (hts _ hw_X1_keep_1_5) (fun _ h9 => h9) rfl dX1_keep_40 ?_
    refine lv_iconst (pc := 43) (v := 1) hx hb dX1_keep_43 (by decide) ?_
    refine lv_iadd (pc := 44) hx hb dX1_keep_44 ?_
    refine b_re (nI_add sn 1) ?_
    refine lv_bipush (pc := 45) (v := 6) hx hb dX1_keep_45 (by decide) ?_
    refine va_mmin (pc := 47) hx hb (by rw [hml]; exact hl.1.symm) hown (hts _ hw_X1_keep_1_6) (hts _ hw_X1_keep_1_7) (hts _ hw_X1_keep_1_8) (hts _ hw_X1_keep_1_9) (Nat.le_of_ble_eq_true rfl) (Nat.le_of_ble_eq_true rfl) (Nat.zero_le _) (Nat.zero_le _) dX1_keep_47 ?_
    refine b_re (b_min6 hsn) ?_
    refine va_put (pc := 50) (D := D) (ci := 1) (v := .int (nI (h_sz sn))) (ty := .int) (C := RX1) (T := TX1) (N := 3) hx hb hts hi_X1_keep_1_X1 tyX1 tyX1_ok nmX1 hown hK hP hD hS 0 rfl rfl 2 (by decide) (hts _ hw_X1_keep_1_5) (fun _ h9 => h9) rfl (by decide +kernel) rfl rfl (Nat.le_of_ble_eq_true rfl) dX1_keep_50 (fun H locs hP hD hS => ?_)
    have hP : va_P D vwCl [(q, .inr (1, [.ref G, .int (nI (1 + 1)), .int (nI (h_sz sn))])), (G, .inl (cG, 6, .inr (.inr (.inr (.inr (fun i => ([y0, y1, y2, y3, y4, y5] : List Nat)[i]?)))))), (y0, .inl (cI, 86, .inl (R 0))), (y1, .inl (cI, 86, .inl (va_cpy f (R 1) 0 0 86))), (y2, .inl (cI, 86, .inl (R 2))), (y3, .inl (cI, 86, .inl (R 3))), (y4, .inl (cI, 86, .inl (R 4))), (y5, .inl (cI, 86, .inl (R 5))), (r, .inl (cI, 86, .inl f))] H := hP
    have hD : va_D A [(q, .inr (1, [.ref G, .int (nI (1 + 1)), .int (nI (h_sz sn))])), (G, .inl (cG, 6, .inr (.inr (.inr (.inr (fun i => ([y0, y1, y2, y3, y4, y5] : List Nat)[i]?)))))), (y0, .inl (cI, 86, .inl (R 0))), (y1, .inl (cI, 86, .inl (va_cpy f (R 1) 0 0 86))), (y2, .inl (cI, 86, .inl (R 2))), (y3, .inl (cI, 86, .inl (R 3))), (y4, .inl (cI, 86, .inl (R 4))), (y5, .inl (cI, 86, .inl (R 5))), (r, .inl (cI, 86, .inl f))] := hD
    subst hQ
    exact b_retV hx hb hr hlocks hS (hP) dX1_keep_53
theorem hw_X1_keep_2_0 : (.fieldLink RX1 13 "BeamTurnstiles$History" "rows" "[[I" : Cond) ∈ wsX1_keep := by decide +kernel
theorem hi_X1_keep_2_X1 : ∀ w ∈ wsX10, w ∈ wsX1_keep := by decide +kernel
theorem hw_X1_keep_2_2 : (.fieldLink RX1 16 "BeamTurnstiles$History" "next" "I" : Cond) ∈ wsX1_keep := by decide +kernel
theorem hw_X1_keep_2_3 : (.initialized RX3 : Cond) ∈ wsX1_keep := by decide +kernel
theorem hw_X1_keep_2_4 : (.static yX3_copyRow : Cond) ∈ wsX1_keep := by decide +kernel
theorem hw_X1_keep_2_5 : (.fieldLink RX1 20 "BeamTurnstiles$History" "size" "I" : Cond) ∈ wsX1_keep := by decide +kernel
theorem hw_X1_keep_2_6 : (.methodLink RX1 29 Lib.Math.min.name : Cond) ∈ wsX1_keep := by decide +kernel
theorem hw_X1_keep_2_7 : (.static Lib.Math.min.name : Cond) ∈ wsX1_keep := by decide +kernel
theorem hw_X1_keep_2_8 : (.initialized "java/lang/Math" : Cond) ∈ wsX1_keep := by decide +kernel
theorem hw_X1_keep_2_9 : (.code Lib.Math.min.name Lib.Math.min.code 2 (some .int) : Cond) ∈ wsX1_keep := by decide +kernel
set_option maxHeartbeats 4000000 in
set_option maxRecDepth 100000 in
theorem c_X1_keep_2 (l : Launch) (D : va_G) (cI cC cZ cG : ClassId) (tb lo hi : Nat) (sz : Nat) (q : Nat) (G : Nat) (y0 : Nat) (y1 : Nat) (y2 : Nat) (y3 : Nat) (y4 : Nat) (y5 : Nat) (sn : Nat) (R : Nat → Nat → Int32) (r : Nat) (f : Nat → Int32) (hsn : sn ≤ 6) : Met l yX1_keep wsX1_keep ({ frames := 2, cells := 0, slots := 0, locals := 51 } : Room) (b_W D (b_T cI cC cZ cG) (b_X tb lo hi) [(q, .inr (1, [.ref G, .int (nI 2), .int (nI sn)])), (G, .inl (cG, 6, .inr (.inr (.inr (.inr (fun i => ([y0, y1, y2, y3, y4, y5] : List Nat)[i]?)))))), (y0, .inl (cI, 86, .inl (R 0))), (y1, .inl (cI, 86, .inl (R 1))), (y2, .inl (cI, 86, .inl (R 2))), (y3, .inl (cI, 86, .inl (R 3))), (y4, .inl (cI, 86, .inl (R 4))), (y5, .inl (cI, 86, .inl (R 5))), (r, .inl (cI, 86, .inl f))] sz [.ref q, .ref r]) (b_Qv D [(q, .inr (1, [.ref G, .int (nI (h_nx 2)), .int (nI (h_sz sn))])), (G, .inl (cG, 6, .inr (.inr (.inr (.inr (fun i => ([y0, y1, y2, y3, y4, y5] : List Nat)[i]?)))))), (y0, .inl (cI, 86, .inl (va_up R 2 (va_cpy f (R 2) 0 0 86) 0))), (y1, .inl (cI, 86, .inl (va_up R 2 (va_cpy f (R 2) 0 0 86) 1))), (y2, .inl (cI, 86, .inl (va_up R 2 (va_cpy f (R 2) 0 0 86) 2))), (y3, .inl (cI, 86, .inl (va_up R 2 (va_cpy f (R 2) 0 0 86) 3))), (y4, .inl (cI, 86, .inl (va_up R 2 (va_cpy f (R 2) 0 0 86) 4))), (y5, .inl (cI, 86, .inl (va_up R 2 (va_cpy f (R 2) 0 0 86) 5))), (r, .inl (cI, 86, .inl f))] (va_A [(q, .inr (1, [.ref G, .int (nI 2), .int (nI sn)])), (G, .inl (cG, 6, .inr (.inr (.inr (.inr (fun i => ([y0, y1, y2, y3, y4, y5] : List Nat)[i]?)))))), (y0, .inl (cI, 86, .inl (R 0))), (y1, .inl (cI, 86, .inl (R 1))), (y2, .inl (cI, 86, .inl (R 2))), (y3, .inl (cI, 86, .inl (R 3))), (y4, .inl (cI, 86, .inl (R 4))), (y5, .inl (cI, 86, .inl (R 5))), (r, .inl (cI, 86, .inl f))] sz)) 0 0 (va_A [(q, .inr (1, [.ref G, .int (nI 2), .int (nI sn)])), (G, .inl (cG, 6, .inr (.inr (.inr (.inr (fun i => ([y0, y1, y2, y3, y4, y5] : List Nat)[i]?)))))), (y0, .inl (cI, 86, .inl (R 0))), (y1, .inl (cI, 86, .inl (R 1))), (y2, .inl (cI, 86, .inl (R 2))), (y3, .inl (cI, 86, .inl (R 3))), (y4, .inl (cI, 86, .inl (R 4))), (y5, .inl (cI, 86, .inl (R 5))), (r, .inl (cI, 86, .inl f))] sz) := by
  refine b_enterW (Qc := fun A => b_Qv D [(q, .inr (1, [.ref G, .int (nI (h_nx 2)), .int (nI (h_sz sn))])), (G, .inl (cG, 6, .inr (.inr (.inr (.inr (fun i => ([y0, y1, y2, y3, y4, y5] : List Nat)[i]?)))))), (y0, .inl (cI, 86, .inl (va_up R 2 (va_cpy f (R 2) 0 0 86) 0))), (y1, .inl (cI, 86, .inl (va_up R 2 (va_cpy f (R 2) 0 0 86) 1))), (y2, .inl (cI, 86, .inl (va_up R 2 (va_cpy f (R 2) 0 0 86) 2))), (y3, .inl (cI, 86, .inl (va_up R 2 (va_cpy f (R 2) 0 0 86) 3))), (y4, .inl (cI, 86, .inl (va_up R 2 (va_cpy f (R 2) 0 0 86) 4))), (y5, .inl (cI, 86, .inl (va_up R 2 (va_cpy f (R 2) 0 0 86) 5))), (r, .inl (cI, 86, .inl f))] A) (cc := cX1_keep) (maxL := 2) (ret := none) (by decide) rfl (Nat.le_of_ble_eq_true rfl) ?_
  intro p e s m below meth c ls A hx hb hr hml hown hts hlocks hname hP hK hD hA hS hX hl Q hQ
  have hown : s.vm.findClass RX1 = some m.cls := hown
  have hl : lv_has ls 2 [(0, .ref q), (1, .ref r)] := hl
  refine lv_aload_n (pc := 0) hx hb dX1_keep_0 rfl (lv_at hl 1 rfl) ?_
  refine lv_aload_n (pc := 1) hx hb dX1_keep_1 rfl (lv_at hl 0 rfl) ?_
  refine va_get (pc := 2) (D := D) (ci := 1) (v := .ref G) (C := RX1) (T := TX1) (N := 3) hx hb hts hi_X1_keep_2_X1 hown hK hP 0 rfl rfl 0 (by decide) (hts _ hw_X1_keep_2_0) (fun _ h9 => h9) rfl dX1_keep_2 ?_
  refine lv_aload_n (pc := 5) hx hb dX1_keep_5 rfl (lv_at hl 0 rfl) ?_
  refine va_get (pc := 6) (D := D) (ci := 1) (v := .int (nI 2)) (C := RX1) (T := TX1) (N := 3) hx hb hts hi_X1_keep_2_X1 hown hK hP 0 rfl rfl 1 (by decide) (hts _ hw_X1_keep_2_2) (fun _ h9 => h9) rfl dX1_keep_6 ?_
  refine b_gald (pc := 9) (r := y2) hx hb hK hP 1 3 rfl rfl 2 rfl (by decide) (by decide) rfl dX1_keep_9 ?_
  refine b_cV (pc := 10) (w1 := [(r, .inl (cI, 86, .inl f)), (y2, .inl (cI, 86, .inl (va_cpy f (R 2) 0 0 86)))]) (va_runSN (As := [.ref r, .ref y2]) (rest := []) ⟨hx, hb, hml, hown, hts⟩ (c_X3_copyRow l D cI cC cZ cG tb lo hi s.heap.size r y2 f (R 2)) ⟨va_cnB 2 hts gX1_keep_X3_copyRow_n23 rfl rfl rfl hX.2.2.2.1 (hts _ hw_X1_keep_2_3) hyS_X3_copyRow ⟨Nat.le_of_ble_eq_true rfl, Nat.le_of_ble_eq_true rfl⟩, (hts _ hw_X1_keep_2_4), trivial⟩ (b_pWS (wc := [(r, .inl (cI, 86, .inl f)), (y2, .inl (cI, 86, .inl (R 2)))]) hK hP hD (b_Xok_X tb lo hi) [8, 4] rfl (by decide) rfl (b_Xc hX hD hS hA [8, 4] rfl)) rfl rfl hl.1 rfl (lv_room (Nat.le_of_ble_eq_true rfl)) dX1_keep_10 ⟨Nat.zero_le _, Nat.zero_le _⟩) hP hD hS hA [8, 4] rfl rfl (fun H locs hP hD hS => ?_)
  have hP : va_P D vwCl [(q, .inr (1, [.ref G, .int (nI 2), .int (nI sn)])), (G, .inl (cG, 6, .inr (.inr (.inr (.inr (fun i => ([y0, y1, y2, y3, y4, y5] : List Nat)[i]?)))))), (y0, .inl (cI, 86, .inl (R 0))), (y1, .inl (cI, 86, .inl (R 1))), (y2, .inl (cI, 86, .inl (va_cpy f (R 2) 0 0 86))), (y3, .inl (cI, 86, .inl (R 3))), (y4, .inl (cI, 86, .inl (R 4))), (y5, .inl (cI, 86, .inl (R 5))), (r, .inl (cI, 86, .inl f))] H := hP
  have hD : va_D A [(q, .inr (1, [.ref G, .int (nI 2), .int (nI sn)])), (G, .inl (cG, 6, .inr (.inr (.inr (.inr (fun i => ([y0, y1, y2, y3, y4, y5] : List Nat)[i]?)))))), (y0, .inl (cI, 86, .inl (R 0))), (y1, .inl (cI, 86, .inl (R 1))), (y2, .inl (cI, 86, .inl (va_cpy f (R 2) 0 0 86))), (y3, .inl (cI, 86, .inl (R 3))), (y4, .inl (cI, 86, .inl (R 4))), (y5, .inl (cI, 86, .inl (R 5))), (r, .inl (cI, 86, .inl f))] := hD
  refine lv_aload_n (pc := 13) hx hb dX1_keep_13 rfl (lv_at hl 0 rfl) ?_
  refine lv_aload_n (pc := 14) hx hb dX1_keep_14 rfl (lv_at hl 0 rfl) ?_
  refine va_get (pc := 15) (D := D) (ci := 1) (v := .int (nI 2)) (C := RX1) (T := TX1) (N := 3) hx hb hts hi_X1_keep_2_X1 hown hK hP 0 rfl rfl 1 (by decide) (hts _ hw_X1_keep_2_2) (fun _ h9 => h9) rfl dX1_keep_15 ?_
  refine lv_iconst (pc := 18) (v := 1) hx hb dX1_keep_18 (by decide) ?_
  refine lv_iadd (pc := 19) hx hb dX1_keep_19 ?_
  refine b_re (nI_add 2 1) ?_
  refine lv_bipush (pc := 20) (v := 6) hx hb dX1_keep_20 (by decide) ?_
  refine lv_icmp_ge (pc := 22) (tgt := 34) hx hb dX1_keep_22 (by decide) (fun c_1 => ?_) (fun c_1 => ?_)
  · skip
    have c_1 : 6 ≤ 2 + 1 := (nI_leI (a := 6) (b := 2 + 1) (by omega) (by omega)).mp c_1
    exact absurd c_1 (by decide)
  · skip
    have c_1 : ¬ (6 ≤ 2 + 1) := fun h9 => c_1 ((nI_leI (a := 6) (b := 2 + 1) (by omega) (by omega)).mpr h9)
    refine lv_aload_n (pc := 25) hx hb dX1_keep_25 rfl (lv_at hl 0 rfl) ?_
    refine va_get (pc := 26) (D := D) (ci := 1) (v := .int (nI 2)) (C := RX1) (T := TX1) (N := 3) hx hb hts hi_X1_keep_2_X1 hown hK hP 0 rfl rfl 1 (by decide) (hts _ hw_X1_keep_2_2) (fun _ h9 => h9) rfl dX1_keep_26 ?_
    refine lv_iconst (pc := 29) (v := 1) hx hb dX1_keep_29 (by decide) ?_
    refine lv_iadd (pc := 30) hx hb dX1_keep_30 ?_
    refine b_re (nI_add 2 1) ?_
    refine lv_goto (pc := 31) (tgt := 35) hx hb dX1_keep_31 (by decide) ?_
    refine va_put (pc := 35) (D := D) (ci := 1) (v := .int (nI (2 + 1))) (ty := .int) (C := RX1) (T := TX1) (N := 3) hx hb hts hi_X1_keep_2_X1 tyX1 tyX1_ok nmX1 hown hK hP hD hS 0 rfl rfl 1 (by decide) (hts _ hw_X1_keep_2_2) (fun _ h9 => h9) rfl (by decide +kernel) rfl rfl (Nat.le_of_ble_eq_true rfl) dX1_keep_35 (fun H locs hP hD hS => ?_)
    have hP : va_P D vwCl [(q, .inr (1, [.ref G, .int (nI (2 + 1)), .int (nI sn)])), (G, .inl (cG, 6, .inr (.inr (.inr (.inr (fun i => ([y0, y1, y2, y3, y4, y5] : List Nat)[i]?)))))), (y0, .inl (cI, 86, .inl (R 0))), (y1, .inl (cI, 86, .inl (R 1))), (y2, .inl (cI, 86, .inl (va_cpy f (R 2) 0 0 86))), (y3, .inl (cI, 86, .inl (R 3))), (y4, .inl (cI, 86, .inl (R 4))), (y5, .inl (cI, 86, .inl (R 5))), (r, .inl (cI, 86, .inl f))] H := hP
    have hD : va_D A [(q, .inr (1, [.ref G, .int (nI (2 + 1)), .int (nI sn)])), (G, .inl (cG, 6, .inr (.inr (.inr (.inr (fun i => ([y0, y1, y2, y3, y4, y5] : List Nat)[i]?)))))), (y0, .inl (cI, 86, .inl (R 0))), (y1, .inl (cI, 86, .inl (R 1))), (y2, .inl (cI, 86, .inl (va_cpy f (R 2) 0 0 86))), (y3, .inl (cI, 86, .inl (R 3))), (y4, .inl (cI, 86, .inl (R 4))), (y5, .inl (cI, 86, .inl (R 5))), (r, .inl (cI, 86, .inl f))] := hD
    refine lv_aload_n (pc := 38) hx hb dX1_keep_38 rfl (lv_at hl 0 rfl) ?_
    refine lv_aload_n (pc := 39) hx hb dX1_keep_39 rfl (lv_at hl 0 rfl) ?_
    refine va_get (pc := 40) (D := D) (ci := 1) (v := .int (nI sn)) (C := RX1) (T := TX1) (N := 3) hx hb hts hi_X1_keep_2_X1 hown hK hP 0 rfl rfl 2 (by decide) (hts _ hw_X1_keep_2_5) (fun _ h9 => h9) rfl dX1_keep_40 ?_
    refine lv_iconst (pc := 43) (v := 1) hx hb dX1_keep_43 (by decide) ?_
    refine lv_iadd (pc := 44) hx hb dX1_keep_44 ?_
    refine b_re (nI_add sn 1) ?_
    refine lv_bipush (pc := 45) (v := 6) hx hb dX1_keep_45 (by decide) ?_
    refine va_mmin (pc := 47) hx hb (by rw [hml]; exact hl.1.symm) hown (hts _ hw_X1_keep_2_6) (hts _ hw_X1_keep_2_7) (hts _ hw_X1_keep_2_8) (hts _ hw_X1_keep_2_9) (Nat.le_of_ble_eq_true rfl) (Nat.le_of_ble_eq_true rfl) (Nat.zero_le _) (Nat.zero_le _) dX1_keep_47 ?_
    refine b_re (b_min6 hsn) ?_
    refine va_put (pc := 50) (D := D) (ci := 1) (v := .int (nI (h_sz sn))) (ty := .int) (C := RX1) (T := TX1) (N := 3) hx hb hts hi_X1_keep_2_X1 tyX1 tyX1_ok nmX1 hown hK hP hD hS 0 rfl rfl 2 (by decide) (hts _ hw_X1_keep_2_5) (fun _ h9 => h9) rfl (by decide +kernel) rfl rfl (Nat.le_of_ble_eq_true rfl) dX1_keep_50 (fun H locs hP hD hS => ?_)
    have hP : va_P D vwCl [(q, .inr (1, [.ref G, .int (nI (2 + 1)), .int (nI (h_sz sn))])), (G, .inl (cG, 6, .inr (.inr (.inr (.inr (fun i => ([y0, y1, y2, y3, y4, y5] : List Nat)[i]?)))))), (y0, .inl (cI, 86, .inl (R 0))), (y1, .inl (cI, 86, .inl (R 1))), (y2, .inl (cI, 86, .inl (va_cpy f (R 2) 0 0 86))), (y3, .inl (cI, 86, .inl (R 3))), (y4, .inl (cI, 86, .inl (R 4))), (y5, .inl (cI, 86, .inl (R 5))), (r, .inl (cI, 86, .inl f))] H := hP
    have hD : va_D A [(q, .inr (1, [.ref G, .int (nI (2 + 1)), .int (nI (h_sz sn))])), (G, .inl (cG, 6, .inr (.inr (.inr (.inr (fun i => ([y0, y1, y2, y3, y4, y5] : List Nat)[i]?)))))), (y0, .inl (cI, 86, .inl (R 0))), (y1, .inl (cI, 86, .inl (R 1))), (y2, .inl (cI, 86, .inl (va_cpy f (R 2) 0 0 86))), (y3, .inl (cI, 86, .inl (R 3))), (y4, .inl (cI, 86, .inl (R 4))), (y5, .inl (cI, 86, .inl (R 5))), (r, .inl (cI, 86, .inl f))] := hD
    subst hQ
    exact b_retV hx hb hr hlocks hS (hP) dX1_keep_53
theorem hw_X1_keep_3_0 : (.fieldLink RX1 13 "BeamTurnstiles$History" "rows" "[[I" : Cond) ∈ wsX1_keep := by decide +kernel
theorem hi_X1_keep_3_X1 : ∀ w ∈ wsX10, w ∈ wsX1_keep := by decide +kernel
theorem hw_X1_keep_3_2 : (.fieldLink RX1 16 "BeamTurnstiles$History" "next" "I" : Cond) ∈ wsX1_keep := by decide +kernel
theorem hw_X1_keep_3_3 : (.initialized RX3 : Cond) ∈ wsX1_keep := by decide +kernel
theorem hw_X1_keep_3_4 : (.static yX3_copyRow : Cond) ∈ wsX1_keep := by decide +kernel
theorem hw_X1_keep_3_5 : (.fieldLink RX1 20 "BeamTurnstiles$History" "size" "I" : Cond) ∈ wsX1_keep := by decide +kernel
theorem hw_X1_keep_3_6 : (.methodLink RX1 29 Lib.Math.min.name : Cond) ∈ wsX1_keep := by decide +kernel
theorem hw_X1_keep_3_7 : (.static Lib.Math.min.name : Cond) ∈ wsX1_keep := by decide +kernel
theorem hw_X1_keep_3_8 : (.initialized "java/lang/Math" : Cond) ∈ wsX1_keep := by decide +kernel
theorem hw_X1_keep_3_9 : (.code Lib.Math.min.name Lib.Math.min.code 2 (some .int) : Cond) ∈ wsX1_keep := by decide +kernel
set_option maxHeartbeats 4000000 in
set_option maxRecDepth 100000 in
theorem c_X1_keep_3 (l : Launch) (D : va_G) (cI cC cZ cG : ClassId) (tb lo hi : Nat) (sz : Nat) (q : Nat) (G : Nat) (y0 : Nat) (y1 : Nat) (y2 : Nat) (y3 : Nat) (y4 : Nat) (y5 : Nat) (sn : Nat) (R : Nat → Nat → Int32) (r : Nat) (f : Nat → Int32) (hsn : sn ≤ 6) : Met l yX1_keep wsX1_keep ({ frames := 2, cells := 0, slots := 0, locals := 51 } : Room) (b_W D (b_T cI cC cZ cG) (b_X tb lo hi) [(q, .inr (1, [.ref G, .int (nI 3), .int (nI sn)])), (G, .inl (cG, 6, .inr (.inr (.inr (.inr (fun i => ([y0, y1, y2, y3, y4, y5] : List Nat)[i]?)))))), (y0, .inl (cI, 86, .inl (R 0))), (y1, .inl (cI, 86, .inl (R 1))), (y2, .inl (cI, 86, .inl (R 2))), (y3, .inl (cI, 86, .inl (R 3))), (y4, .inl (cI, 86, .inl (R 4))), (y5, .inl (cI, 86, .inl (R 5))), (r, .inl (cI, 86, .inl f))] sz [.ref q, .ref r]) (b_Qv D [(q, .inr (1, [.ref G, .int (nI (h_nx 3)), .int (nI (h_sz sn))])), (G, .inl (cG, 6, .inr (.inr (.inr (.inr (fun i => ([y0, y1, y2, y3, y4, y5] : List Nat)[i]?)))))), (y0, .inl (cI, 86, .inl (va_up R 3 (va_cpy f (R 3) 0 0 86) 0))), (y1, .inl (cI, 86, .inl (va_up R 3 (va_cpy f (R 3) 0 0 86) 1))), (y2, .inl (cI, 86, .inl (va_up R 3 (va_cpy f (R 3) 0 0 86) 2))), (y3, .inl (cI, 86, .inl (va_up R 3 (va_cpy f (R 3) 0 0 86) 3))), (y4, .inl (cI, 86, .inl (va_up R 3 (va_cpy f (R 3) 0 0 86) 4))), (y5, .inl (cI, 86, .inl (va_up R 3 (va_cpy f (R 3) 0 0 86) 5))), (r, .inl (cI, 86, .inl f))] (va_A [(q, .inr (1, [.ref G, .int (nI 3), .int (nI sn)])), (G, .inl (cG, 6, .inr (.inr (.inr (.inr (fun i => ([y0, y1, y2, y3, y4, y5] : List Nat)[i]?)))))), (y0, .inl (cI, 86, .inl (R 0))), (y1, .inl (cI, 86, .inl (R 1))), (y2, .inl (cI, 86, .inl (R 2))), (y3, .inl (cI, 86, .inl (R 3))), (y4, .inl (cI, 86, .inl (R 4))), (y5, .inl (cI, 86, .inl (R 5))), (r, .inl (cI, 86, .inl f))] sz)) 0 0 (va_A [(q, .inr (1, [.ref G, .int (nI 3), .int (nI sn)])), (G, .inl (cG, 6, .inr (.inr (.inr (.inr (fun i => ([y0, y1, y2, y3, y4, y5] : List Nat)[i]?)))))), (y0, .inl (cI, 86, .inl (R 0))), (y1, .inl (cI, 86, .inl (R 1))), (y2, .inl (cI, 86, .inl (R 2))), (y3, .inl (cI, 86, .inl (R 3))), (y4, .inl (cI, 86, .inl (R 4))), (y5, .inl (cI, 86, .inl (R 5))), (r, .inl (cI, 86, .inl f))] sz) := by
  refine b_enterW (Qc := fun A => b_Qv D [(q, .inr (1, [.ref G, .int (nI (h_nx 3)), .int (nI (h_sz sn))])), (G, .inl (cG, 6, .inr (.inr (.inr (.inr (fun i => ([y0, y1, y2, y3, y4, y5] : List Nat)[i]?)))))), (y0, .inl (cI, 86, .inl (va_up R 3 (va_cpy f (R 3) 0 0 86) 0))), (y1, .inl (cI, 86, .inl (va_up R 3 (va_cpy f (R 3) 0 0 86) 1))), (y2, .inl (cI, 86, .inl (va_up R 3 (va_cpy f (R 3) 0 0 86) 2))), (y3, .inl (cI, 86, .inl (va_up R 3 (va_cpy f (R 3) 0 0 86) 3))), (y4, .inl (cI, 86, .inl (va_up R 3 (va_cpy f (R 3) 0 0 86) 4))), (y5, .inl (cI, 86, .inl (va_up R 3 (va_cpy f (R 3) 0 0 86) 5))), (r, .inl (cI, 86, .inl f))] A) (cc := cX1_keep) (maxL := 2) (ret := none) (by decide) rfl (Nat.le_of_ble_eq_true rfl) ?_
  intro p e s m below meth c ls A hx hb hr hml hown hts hlocks hname hP hK hD hA hS hX hl Q hQ
  have hown : s.vm.findClass RX1 = some m.cls := hown
  have hl : lv_has ls 2 [(0, .ref q), (1, .ref r)] := hl
  refine lv_aload_n (pc := 0) hx hb dX1_keep_0 rfl (lv_at hl 1 rfl) ?_
  refine lv_aload_n (pc := 1) hx hb dX1_keep_1 rfl (lv_at hl 0 rfl) ?_
  refine va_get (pc := 2) (D := D) (ci := 1) (v := .ref G) (C := RX1) (T := TX1) (N := 3) hx hb hts hi_X1_keep_3_X1 hown hK hP 0 rfl rfl 0 (by decide) (hts _ hw_X1_keep_3_0) (fun _ h9 => h9) rfl dX1_keep_2 ?_
  refine lv_aload_n (pc := 5) hx hb dX1_keep_5 rfl (lv_at hl 0 rfl) ?_
  refine va_get (pc := 6) (D := D) (ci := 1) (v := .int (nI 3)) (C := RX1) (T := TX1) (N := 3) hx hb hts hi_X1_keep_3_X1 hown hK hP 0 rfl rfl 1 (by decide) (hts _ hw_X1_keep_3_2) (fun _ h9 => h9) rfl dX1_keep_6 ?_
  refine b_gald (pc := 9) (r := y3) hx hb hK hP 1 3 rfl rfl 3 rfl (by decide) (by decide) rfl dX1_keep_9 ?_
  refine b_cV (pc := 10) (w1 := [(r, .inl (cI, 86, .inl f)), (y3, .inl (cI, 86, .inl (va_cpy f (R 3) 0 0 86)))]) (va_runSN (As := [.ref r, .ref y3]) (rest := []) ⟨hx, hb, hml, hown, hts⟩ (c_X3_copyRow l D cI cC cZ cG tb lo hi s.heap.size r y3 f (R 3)) ⟨va_cnB 2 hts gX1_keep_X3_copyRow_n23 rfl rfl rfl hX.2.2.2.1 (hts _ hw_X1_keep_3_3) hyS_X3_copyRow ⟨Nat.le_of_ble_eq_true rfl, Nat.le_of_ble_eq_true rfl⟩, (hts _ hw_X1_keep_3_4), trivial⟩ (b_pWS (wc := [(r, .inl (cI, 86, .inl f)), (y3, .inl (cI, 86, .inl (R 3)))]) hK hP hD (b_Xok_X tb lo hi) [8, 5] rfl (by decide) rfl (b_Xc hX hD hS hA [8, 5] rfl)) rfl rfl hl.1 rfl (lv_room (Nat.le_of_ble_eq_true rfl)) dX1_keep_10 ⟨Nat.zero_le _, Nat.zero_le _⟩) hP hD hS hA [8, 5] rfl rfl (fun H locs hP hD hS => ?_)
  have hP : va_P D vwCl [(q, .inr (1, [.ref G, .int (nI 3), .int (nI sn)])), (G, .inl (cG, 6, .inr (.inr (.inr (.inr (fun i => ([y0, y1, y2, y3, y4, y5] : List Nat)[i]?)))))), (y0, .inl (cI, 86, .inl (R 0))), (y1, .inl (cI, 86, .inl (R 1))), (y2, .inl (cI, 86, .inl (R 2))), (y3, .inl (cI, 86, .inl (va_cpy f (R 3) 0 0 86))), (y4, .inl (cI, 86, .inl (R 4))), (y5, .inl (cI, 86, .inl (R 5))), (r, .inl (cI, 86, .inl f))] H := hP
  have hD : va_D A [(q, .inr (1, [.ref G, .int (nI 3), .int (nI sn)])), (G, .inl (cG, 6, .inr (.inr (.inr (.inr (fun i => ([y0, y1, y2, y3, y4, y5] : List Nat)[i]?)))))), (y0, .inl (cI, 86, .inl (R 0))), (y1, .inl (cI, 86, .inl (R 1))), (y2, .inl (cI, 86, .inl (R 2))), (y3, .inl (cI, 86, .inl (va_cpy f (R 3) 0 0 86))), (y4, .inl (cI, 86, .inl (R 4))), (y5, .inl (cI, 86, .inl (R 5))), (r, .inl (cI, 86, .inl f))] := hD
  refine lv_aload_n (pc := 13) hx hb dX1_keep_13 rfl (lv_at hl 0 rfl) ?_
  refine lv_aload_n (pc := 14) hx hb dX1_keep_14 rfl (lv_at hl 0 rfl) ?_
  refine va_get (pc := 15) (D := D) (ci := 1) (v := .int (nI 3)) (C := RX1) (T := TX1) (N := 3) hx hb hts hi_X1_keep_3_X1 hown hK hP 0 rfl rfl 1 (by decide) (hts _ hw_X1_keep_3_2) (fun _ h9 => h9) rfl dX1_keep_15 ?_
  refine lv_iconst (pc := 18) (v := 1) hx hb dX1_keep_18 (by decide) ?_
  refine lv_iadd (pc := 19) hx hb dX1_keep_19 ?_
  refine b_re (nI_add 3 1) ?_
  refine lv_bipush (pc := 20) (v := 6) hx hb dX1_keep_20 (by decide) ?_
  refine lv_icmp_ge (pc := 22) (tgt := 34) hx hb dX1_keep_22 (by decide) (fun c_1 => ?_) (fun c_1 => ?_)
  · skip
    have c_1 : 6 ≤ 3 + 1 := (nI_leI (a := 6) (b := 3 + 1) (by omega) (by omega)).mp c_1
    exact absurd c_1 (by decide)
  · skip
    have c_1 : ¬ (6 ≤ 3 + 1) := fun h9 => c_1 ((nI_leI (a := 6) (b := 3 + 1) (by omega) (by omega)).mpr h9)
    refine lv_aload_n (pc := 25) hx hb dX1_keep_25 rfl (lv_at hl 0 rfl) ?_
    refine va_get (pc := 26) (D := D) (ci := 1) (v := .int (nI 3)) (C := RX1) (T := TX1) (N := 3) hx hb hts hi_X1_keep_3_X1 hown hK hP 0 rfl rfl 1 (by decide) (hts _ hw_X1_keep_3_2) (fun _ h9 => h9) rfl dX1_keep_26 ?_
    refine lv_iconst (pc := 29) (v := 1) hx hb dX1_keep_29 (by decide) ?_
    refine lv_iadd (pc := 30) hx hb dX1_keep_30 ?_
    refine b_re (nI_add 3 1) ?_
    refine lv_goto (pc := 31) (tgt := 35) hx hb dX1_keep_31 (by decide) ?_
    refine va_put (pc := 35) (D := D) (ci := 1) (v := .int (nI (3 + 1))) (ty := .int) (C := RX1) (T := TX1) (N := 3) hx hb hts hi_X1_keep_3_X1 tyX1 tyX1_ok nmX1 hown hK hP hD hS 0 rfl rfl 1 (by decide) (hts _ hw_X1_keep_3_2) (fun _ h9 => h9) rfl (by decide +kernel) rfl rfl (Nat.le_of_ble_eq_true rfl) dX1_keep_35 (fun H locs hP hD hS => ?_)
    have hP : va_P D vwCl [(q, .inr (1, [.ref G, .int (nI (3 + 1)), .int (nI sn)])), (G, .inl (cG, 6, .inr (.inr (.inr (.inr (fun i => ([y0, y1, y2, y3, y4, y5] : List Nat)[i]?)))))), (y0, .inl (cI, 86, .inl (R 0))), (y1, .inl (cI, 86, .inl (R 1))), (y2, .inl (cI, 86, .inl (R 2))), (y3, .inl (cI, 86, .inl (va_cpy f (R 3) 0 0 86))), (y4, .inl (cI, 86, .inl (R 4))), (y5, .inl (cI, 86, .inl (R 5))), (r, .inl (cI, 86, .inl f))] H := hP
    have hD : va_D A [(q, .inr (1, [.ref G, .int (nI (3 + 1)), .int (nI sn)])), (G, .inl (cG, 6, .inr (.inr (.inr (.inr (fun i => ([y0, y1, y2, y3, y4, y5] : List Nat)[i]?)))))), (y0, .inl (cI, 86, .inl (R 0))), (y1, .inl (cI, 86, .inl (R 1))), (y2, .inl (cI, 86, .inl (R 2))), (y3, .inl (cI, 86, .inl (va_cpy f (R 3) 0 0 86))), (y4, .inl (cI, 86, .inl (R 4))), (y5, .inl (cI, 86, .inl (R 5))), (r, .inl (cI, 86, .inl f))] := hD
    refine lv_aload_n (pc := 38) hx hb dX1_keep_38 rfl (lv_at hl 0 rfl) ?_
    refine lv_aload_n (pc := 39) hx hb dX1_keep_39 rfl (lv_at hl 0 rfl) ?_
    refine va_get (pc := 40) (D := D) (ci := 1) (v := .int (nI sn)) (C := RX1) (T := TX1) (N := 3) hx hb hts hi_X1_keep_3_X1 hown hK hP 0 rfl rfl 2 (by decide) (hts _ hw_X1_keep_3_5) (fun _ h9 => h9) rfl dX1_keep_40 ?_
    refine lv_iconst (pc := 43) (v := 1) hx hb dX1_keep_43 (by decide) ?_
    refine lv_iadd (pc := 44) hx hb dX1_keep_44 ?_
    refine b_re (nI_add sn 1) ?_
    refine lv_bipush (pc := 45) (v := 6) hx hb dX1_keep_45 (by decide) ?_
    refine va_mmin (pc := 47) hx hb (by rw [hml]; exact hl.1.symm) hown (hts _ hw_X1_keep_3_6) (hts _ hw_X1_keep_3_7) (hts _ hw_X1_keep_3_8) (hts _ hw_X1_keep_3_9) (Nat.le_of_ble_eq_true rfl) (Nat.le_of_ble_eq_true rfl) (Nat.zero_le _) (Nat.zero_le _) dX1_keep_47 ?_
    refine b_re (b_min6 hsn) ?_
    refine va_put (pc := 50) (D := D) (ci := 1) (v := .int (nI (h_sz sn))) (ty := .int) (C := RX1) (T := TX1) (N := 3) hx hb hts hi_X1_keep_3_X1 tyX1 tyX1_ok nmX1 hown hK hP hD hS 0 rfl rfl 2 (by decide) (hts _ hw_X1_keep_3_5) (fun _ h9 => h9) rfl (by decide +kernel) rfl rfl (Nat.le_of_ble_eq_true rfl) dX1_keep_50 (fun H locs hP hD hS => ?_)
    have hP : va_P D vwCl [(q, .inr (1, [.ref G, .int (nI (3 + 1)), .int (nI (h_sz sn))])), (G, .inl (cG, 6, .inr (.inr (.inr (.inr (fun i => ([y0, y1, y2, y3, y4, y5] : List Nat)[i]?)))))), (y0, .inl (cI, 86, .inl (R 0))), (y1, .inl (cI, 86, .inl (R 1))), (y2, .inl (cI, 86, .inl (R 2))), (y3, .inl (cI, 86, .inl (va_cpy f (R 3) 0 0 86))), (y4, .inl (cI, 86, .inl (R 4))), (y5, .inl (cI, 86, .inl (R 5))), (r, .inl (cI, 86, .inl f))] H := hP
    have hD : va_D A [(q, .inr (1, [.ref G, .int (nI (3 + 1)), .int (nI (h_sz sn))])), (G, .inl (cG, 6, .inr (.inr (.inr (.inr (fun i => ([y0, y1, y2, y3, y4, y5] : List Nat)[i]?)))))), (y0, .inl (cI, 86, .inl (R 0))), (y1, .inl (cI, 86, .inl (R 1))), (y2, .inl (cI, 86, .inl (R 2))), (y3, .inl (cI, 86, .inl (va_cpy f (R 3) 0 0 86))), (y4, .inl (cI, 86, .inl (R 4))), (y5, .inl (cI, 86, .inl (R 5))), (r, .inl (cI, 86, .inl f))] := hD
    subst hQ
    exact b_retV hx hb hr hlocks hS (hP) dX1_keep_53
theorem hw_X1_keep_4_0 : (.fieldLink RX1 13 "BeamTurnstiles$History" "rows" "[[I" : Cond) ∈ wsX1_keep := by decide +kernel
theorem hi_X1_keep_4_X1 : ∀ w ∈ wsX10, w ∈ wsX1_keep := by decide +kernel
theorem hw_X1_keep_4_2 : (.fieldLink RX1 16 "BeamTurnstiles$History" "next" "I" : Cond) ∈ wsX1_keep := by decide +kernel
theorem hw_X1_keep_4_3 : (.initialized RX3 : Cond) ∈ wsX1_keep := by decide +kernel
theorem hw_X1_keep_4_4 : (.static yX3_copyRow : Cond) ∈ wsX1_keep := by decide +kernel
theorem hw_X1_keep_4_5 : (.fieldLink RX1 20 "BeamTurnstiles$History" "size" "I" : Cond) ∈ wsX1_keep := by decide +kernel
theorem hw_X1_keep_4_6 : (.methodLink RX1 29 Lib.Math.min.name : Cond) ∈ wsX1_keep := by decide +kernel
theorem hw_X1_keep_4_7 : (.static Lib.Math.min.name : Cond) ∈ wsX1_keep := by decide +kernel
theorem hw_X1_keep_4_8 : (.initialized "java/lang/Math" : Cond) ∈ wsX1_keep := by decide +kernel
theorem hw_X1_keep_4_9 : (.code Lib.Math.min.name Lib.Math.min.code 2 (some .int) : Cond) ∈ wsX1_keep := by decide +kernel
set_option maxHeartbeats 4000000 in
set_option maxRecDepth 100000 in
theorem c_X1_keep_4 (l : Launch) (D : va_G) (cI cC cZ cG : ClassId) (tb lo hi : Nat) (sz : Nat) (q : Nat) (G : Nat) (y0 : Nat) (y1 : Nat) (y2 : Nat) (y3 : Nat) (y4 : Nat) (y5 : Nat) (sn : Nat) (R : Nat → Nat → Int32) (r : Nat) (f : Nat → Int32) (hsn : sn ≤ 6) : Met l yX1_keep wsX1_keep ({ frames := 2, cells := 0, slots := 0, locals := 51 } : Room) (b_W D (b_T cI cC cZ cG) (b_X tb lo hi) [(q, .inr (1, [.ref G, .int (nI 4), .int (nI sn)])), (G, .inl (cG, 6, .inr (.inr (.inr (.inr (fun i => ([y0, y1, y2, y3, y4, y5] : List Nat)[i]?)))))), (y0, .inl (cI, 86, .inl (R 0))), (y1, .inl (cI, 86, .inl (R 1))), (y2, .inl (cI, 86, .inl (R 2))), (y3, .inl (cI, 86, .inl (R 3))), (y4, .inl (cI, 86, .inl (R 4))), (y5, .inl (cI, 86, .inl (R 5))), (r, .inl (cI, 86, .inl f))] sz [.ref q, .ref r]) (b_Qv D [(q, .inr (1, [.ref G, .int (nI (h_nx 4)), .int (nI (h_sz sn))])), (G, .inl (cG, 6, .inr (.inr (.inr (.inr (fun i => ([y0, y1, y2, y3, y4, y5] : List Nat)[i]?)))))), (y0, .inl (cI, 86, .inl (va_up R 4 (va_cpy f (R 4) 0 0 86) 0))), (y1, .inl (cI, 86, .inl (va_up R 4 (va_cpy f (R 4) 0 0 86) 1))), (y2, .inl (cI, 86, .inl (va_up R 4 (va_cpy f (R 4) 0 0 86) 2))), (y3, .inl (cI, 86, .inl (va_up R 4 (va_cpy f (R 4) 0 0 86) 3))), (y4, .inl (cI, 86, .inl (va_up R 4 (va_cpy f (R 4) 0 0 86) 4))), (y5, .inl (cI, 86, .inl (va_up R 4 (va_cpy f (R 4) 0 0 86) 5))), (r, .inl (cI, 86, .inl f))] (va_A [(q, .inr (1, [.ref G, .int (nI 4), .int (nI sn)])), (G, .inl (cG, 6, .inr (.inr (.inr (.inr (fun i => ([y0, y1, y2, y3, y4, y5] : List Nat)[i]?)))))), (y0, .inl (cI, 86, .inl (R 0))), (y1, .inl (cI, 86, .inl (R 1))), (y2, .inl (cI, 86, .inl (R 2))), (y3, .inl (cI, 86, .inl (R 3))), (y4, .inl (cI, 86, .inl (R 4))), (y5, .inl (cI, 86, .inl (R 5))), (r, .inl (cI, 86, .inl f))] sz)) 0 0 (va_A [(q, .inr (1, [.ref G, .int (nI 4), .int (nI sn)])), (G, .inl (cG, 6, .inr (.inr (.inr (.inr (fun i => ([y0, y1, y2, y3, y4, y5] : List Nat)[i]?)))))), (y0, .inl (cI, 86, .inl (R 0))), (y1, .inl (cI, 86, .inl (R 1))), (y2, .inl (cI, 86, .inl (R 2))), (y3, .inl (cI, 86, .inl (R 3))), (y4, .inl (cI, 86, .inl (R 4))), (y5, .inl (cI, 86, .inl (R 5))), (r, .inl (cI, 86, .inl f))] sz) := by
  refine b_enterW (Qc := fun A => b_Qv D [(q, .inr (1, [.ref G, .int (nI (h_nx 4)), .int (nI (h_sz sn))])), (G, .inl (cG, 6, .inr (.inr (.inr (.inr (fun i => ([y0, y1, y2, y3, y4, y5] : List Nat)[i]?)))))), (y0, .inl (cI, 86, .inl (va_up R 4 (va_cpy f (R 4) 0 0 86) 0))), (y1, .inl (cI, 86, .inl (va_up R 4 (va_cpy f (R 4) 0 0 86) 1))), (y2, .inl (cI, 86, .inl (va_up R 4 (va_cpy f (R 4) 0 0 86) 2))), (y3, .inl (cI, 86, .inl (va_up R 4 (va_cpy f (R 4) 0 0 86) 3))), (y4, .inl (cI, 86, .inl (va_up R 4 (va_cpy f (R 4) 0 0 86) 4))), (y5, .inl (cI, 86, .inl (va_up R 4 (va_cpy f (R 4) 0 0 86) 5))), (r, .inl (cI, 86, .inl f))] A) (cc := cX1_keep) (maxL := 2) (ret := none) (by decide) rfl (Nat.le_of_ble_eq_true rfl) ?_
  intro p e s m below meth c ls A hx hb hr hml hown hts hlocks hname hP hK hD hA hS hX hl Q hQ
  have hown : s.vm.findClass RX1 = some m.cls := hown
  have hl : lv_has ls 2 [(0, .ref q), (1, .ref r)] := hl
  refine lv_aload_n (pc := 0) hx hb dX1_keep_0 rfl (lv_at hl 1 rfl) ?_
  refine lv_aload_n (pc := 1) hx hb dX1_keep_1 rfl (lv_at hl 0 rfl) ?_
  refine va_get (pc := 2) (D := D) (ci := 1) (v := .ref G) (C := RX1) (T := TX1) (N := 3) hx hb hts hi_X1_keep_4_X1 hown hK hP 0 rfl rfl 0 (by decide) (hts _ hw_X1_keep_4_0) (fun _ h9 => h9) rfl dX1_keep_2 ?_
  refine lv_aload_n (pc := 5) hx hb dX1_keep_5 rfl (lv_at hl 0 rfl) ?_
  refine va_get (pc := 6) (D := D) (ci := 1) (v := .int (nI 4)) (C := RX1) (T := TX1) (N := 3) hx hb hts hi_X1_keep_4_X1 hown hK hP 0 rfl rfl 1 (by decide) (hts _ hw_X1_keep_4_2) (fun _ h9 => h9) rfl dX1_keep_6 ?_
  refine b_gald (pc := 9) (r := y4) hx hb hK hP 1 3 rfl rfl 4 rfl (by decide) (by decide) rfl dX1_keep_9 ?_
  refine b_cV (pc := 10) (w1 := [(r, .inl (cI, 86, .inl f)), (y4, .inl (cI, 86, .inl (va_cpy f (R 4) 0 0 86)))]) (va_runSN (As := [.ref r, .ref y4]) (rest := []) ⟨hx, hb, hml, hown, hts⟩ (c_X3_copyRow l D cI cC cZ cG tb lo hi s.heap.size r y4 f (R 4)) ⟨va_cnB 2 hts gX1_keep_X3_copyRow_n23 rfl rfl rfl hX.2.2.2.1 (hts _ hw_X1_keep_4_3) hyS_X3_copyRow ⟨Nat.le_of_ble_eq_true rfl, Nat.le_of_ble_eq_true rfl⟩, (hts _ hw_X1_keep_4_4), trivial⟩ (b_pWS (wc := [(r, .inl (cI, 86, .inl f)), (y4, .inl (cI, 86, .inl (R 4)))]) hK hP hD (b_Xok_X tb lo hi) [8, 6] rfl (by decide) rfl (b_Xc hX hD hS hA [8, 6] rfl)) rfl rfl hl.1 rfl (lv_room (Nat.le_of_ble_eq_true rfl)) dX1_keep_10 ⟨Nat.zero_le _, Nat.zero_le _⟩) hP hD hS hA [8, 6] rfl rfl (fun H locs hP hD hS => ?_)
  have hP : va_P D vwCl [(q, .inr (1, [.ref G, .int (nI 4), .int (nI sn)])), (G, .inl (cG, 6, .inr (.inr (.inr (.inr (fun i => ([y0, y1, y2, y3, y4, y5] : List Nat)[i]?)))))), (y0, .inl (cI, 86, .inl (R 0))), (y1, .inl (cI, 86, .inl (R 1))), (y2, .inl (cI, 86, .inl (R 2))), (y3, .inl (cI, 86, .inl (R 3))), (y4, .inl (cI, 86, .inl (va_cpy f (R 4) 0 0 86))), (y5, .inl (cI, 86, .inl (R 5))), (r, .inl (cI, 86, .inl f))] H := hP
  have hD : va_D A [(q, .inr (1, [.ref G, .int (nI 4), .int (nI sn)])), (G, .inl (cG, 6, .inr (.inr (.inr (.inr (fun i => ([y0, y1, y2, y3, y4, y5] : List Nat)[i]?)))))), (y0, .inl (cI, 86, .inl (R 0))), (y1, .inl (cI, 86, .inl (R 1))), (y2, .inl (cI, 86, .inl (R 2))), (y3, .inl (cI, 86, .inl (R 3))), (y4, .inl (cI, 86, .inl (va_cpy f (R 4) 0 0 86))), (y5, .inl (cI, 86, .inl (R 5))), (r, .inl (cI, 86, .inl f))] := hD
  refine lv_aload_n (pc := 13) hx hb dX1_keep_13 rfl (lv_at hl 0 rfl) ?_
  refine lv_aload_n (pc := 14) hx hb dX1_keep_14 rfl (lv_at hl 0 rfl) ?_
  refine va_get (pc := 15) (D := D) (ci := 1) (v := .int (nI 4)) (C := RX1) (T := TX1) (N := 3) hx hb hts hi_X1_keep_4_X1 hown hK hP 0 rfl rfl 1 (by decide) (hts _ hw_X1_keep_4_2) (fun _ h9 => h9) rfl dX1_keep_15 ?_
  refine lv_iconst (pc := 18) (v := 1) hx hb dX1_keep_18 (by decide) ?_
  refine lv_iadd (pc := 19) hx hb dX1_keep_19 ?_
  refine b_re (nI_add 4 1) ?_
  refine lv_bipush (pc := 20) (v := 6) hx hb dX1_keep_20 (by decide) ?_
  refine lv_icmp_ge (pc := 22) (tgt := 34) hx hb dX1_keep_22 (by decide) (fun c_1 => ?_) (fun c_1 => ?_)
  · skip
    have c_1 : 6 ≤ 4 + 1 := (nI_leI (a := 6) (b := 4 + 1) (by omega) (by omega)).mp c_1
    exact absurd c_1 (by decide)
  · skip
    have c_1 : ¬ (6 ≤ 4 + 1) := fun h9 => c_1 ((nI_leI (a := 6) (b := 4 + 1) (by omega) (by omega)).mpr h9)
    refine lv_aload_n (pc := 25) hx hb dX1_keep_25 rfl (lv_at hl 0 rfl) ?_
    refine va_get (pc := 26) (D := D) (ci := 1) (v := .int (nI 4)) (C := RX1) (T := TX1) (N := 3) hx hb hts hi_X1_keep_4_X1 hown hK hP 0 rfl rfl 1 (by decide) (hts _ hw_X1_keep_4_2) (fun _ h9 => h9) rfl dX1_keep_26 ?_
    refine lv_iconst (pc := 29) (v := 1) hx hb dX1_keep_29 (by decide) ?_
    refine lv_iadd (pc := 30) hx hb dX1_keep_30 ?_
    refine b_re (nI_add 4 1) ?_
    refine lv_goto (pc := 31) (tgt := 35) hx hb dX1_keep_31 (by decide) ?_
    refine va_put (pc := 35) (D := D) (ci := 1) (v := .int (nI (4 + 1))) (ty := .int) (C := RX1) (T := TX1) (N := 3) hx hb hts hi_X1_keep_4_X1 tyX1 tyX1_ok nmX1 hown hK hP hD hS 0 rfl rfl 1 (by decide) (hts _ hw_X1_keep_4_2) (fun _ h9 => h9) rfl (by decide +kernel) rfl rfl (Nat.le_of_ble_eq_true rfl) dX1_keep_35 (fun H locs hP hD hS => ?_)
    have hP : va_P D vwCl [(q, .inr (1, [.ref G, .int (nI (4 + 1)), .int (nI sn)])), (G, .inl (cG, 6, .inr (.inr (.inr (.inr (fun i => ([y0, y1, y2, y3, y4, y5] : List Nat)[i]?)))))), (y0, .inl (cI, 86, .inl (R 0))), (y1, .inl (cI, 86, .inl (R 1))), (y2, .inl (cI, 86, .inl (R 2))), (y3, .inl (cI, 86, .inl (R 3))), (y4, .inl (cI, 86, .inl (va_cpy f (R 4) 0 0 86))), (y5, .inl (cI, 86, .inl (R 5))), (r, .inl (cI, 86, .inl f))] H := hP
    have hD : va_D A [(q, .inr (1, [.ref G, .int (nI (4 + 1)), .int (nI sn)])), (G, .inl (cG, 6, .inr (.inr (.inr (.inr (fun i => ([y0, y1, y2, y3, y4, y5] : List Nat)[i]?)))))), (y0, .inl (cI, 86, .inl (R 0))), (y1, .inl (cI, 86, .inl (R 1))), (y2, .inl (cI, 86, .inl (R 2))), (y3, .inl (cI, 86, .inl (R 3))), (y4, .inl (cI, 86, .inl (va_cpy f (R 4) 0 0 86))), (y5, .inl (cI, 86, .inl (R 5))), (r, .inl (cI, 86, .inl f))] := hD
    refine lv_aload_n (pc := 38) hx hb dX1_keep_38 rfl (lv_at hl 0 rfl) ?_
    refine lv_aload_n (pc := 39) hx hb dX1_keep_39 rfl (lv_at hl 0 rfl) ?_
    refine va_get (pc := 40) (D := D) (ci := 1) (v := .int (nI sn)) (C := RX1) (T := TX1) (N := 3) hx hb hts hi_X1_keep_4_X1 hown hK hP 0 rfl rfl 2 (by decide) (hts _ hw_X1_keep_4_5) (fun _ h9 => h9) rfl dX1_keep_40 ?_
    refine lv_iconst (pc := 43) (v := 1) hx hb dX1_keep_43 (by decide) ?_
    refine lv_iadd (pc := 44) hx hb dX1_keep_44 ?_
    refine b_re (nI_add sn 1) ?_
    refine lv_bipush (pc := 45) (v := 6) hx hb dX1_keep_45 (by decide) ?_
    refine va_mmin (pc := 47) hx hb (by rw [hml]; exact hl.1.symm) hown (hts _ hw_X1_keep_4_6) (hts _ hw_X1_keep_4_7) (hts _ hw_X1_keep_4_8) (hts _ hw_X1_keep_4_9) (Nat.le_of_ble_eq_true rfl) (Nat.le_of_ble_eq_true rfl) (Nat.zero_le _) (Nat.zero_le _) dX1_keep_47 ?_
    refine b_re (b_min6 hsn) ?_
    refine va_put (pc := 50) (D := D) (ci := 1) (v := .int (nI (h_sz sn))) (ty := .int) (C := RX1) (T := TX1) (N := 3) hx hb hts hi_X1_keep_4_X1 tyX1 tyX1_ok nmX1 hown hK hP hD hS 0 rfl rfl 2 (by decide) (hts _ hw_X1_keep_4_5) (fun _ h9 => h9) rfl (by decide +kernel) rfl rfl (Nat.le_of_ble_eq_true rfl) dX1_keep_50 (fun H locs hP hD hS => ?_)
    have hP : va_P D vwCl [(q, .inr (1, [.ref G, .int (nI (4 + 1)), .int (nI (h_sz sn))])), (G, .inl (cG, 6, .inr (.inr (.inr (.inr (fun i => ([y0, y1, y2, y3, y4, y5] : List Nat)[i]?)))))), (y0, .inl (cI, 86, .inl (R 0))), (y1, .inl (cI, 86, .inl (R 1))), (y2, .inl (cI, 86, .inl (R 2))), (y3, .inl (cI, 86, .inl (R 3))), (y4, .inl (cI, 86, .inl (va_cpy f (R 4) 0 0 86))), (y5, .inl (cI, 86, .inl (R 5))), (r, .inl (cI, 86, .inl f))] H := hP
    have hD : va_D A [(q, .inr (1, [.ref G, .int (nI (4 + 1)), .int (nI (h_sz sn))])), (G, .inl (cG, 6, .inr (.inr (.inr (.inr (fun i => ([y0, y1, y2, y3, y4, y5] : List Nat)[i]?)))))), (y0, .inl (cI, 86, .inl (R 0))), (y1, .inl (cI, 86, .inl (R 1))), (y2, .inl (cI, 86, .inl (R 2))), (y3, .inl (cI, 86, .inl (R 3))), (y4, .inl (cI, 86, .inl (va_cpy f (R 4) 0 0 86))), (y5, .inl (cI, 86, .inl (R 5))), (r, .inl (cI, 86, .inl f))] := hD
    subst hQ
    exact b_retV hx hb hr hlocks hS (hP) dX1_keep_53
theorem hw_X1_keep_5_0 : (.fieldLink RX1 13 "BeamTurnstiles$History" "rows" "[[I" : Cond) ∈ wsX1_keep := by decide +kernel
theorem hi_X1_keep_5_X1 : ∀ w ∈ wsX10, w ∈ wsX1_keep := by decide +kernel
theorem hw_X1_keep_5_2 : (.fieldLink RX1 16 "BeamTurnstiles$History" "next" "I" : Cond) ∈ wsX1_keep := by decide +kernel
theorem hw_X1_keep_5_3 : (.initialized RX3 : Cond) ∈ wsX1_keep := by decide +kernel
theorem hw_X1_keep_5_4 : (.static yX3_copyRow : Cond) ∈ wsX1_keep := by decide +kernel
theorem hw_X1_keep_5_5 : (.fieldLink RX1 20 "BeamTurnstiles$History" "size" "I" : Cond) ∈ wsX1_keep := by decide +kernel
theorem hw_X1_keep_5_6 : (.methodLink RX1 29 Lib.Math.min.name : Cond) ∈ wsX1_keep := by decide +kernel
theorem hw_X1_keep_5_7 : (.static Lib.Math.min.name : Cond) ∈ wsX1_keep := by decide +kernel
theorem hw_X1_keep_5_8 : (.initialized "java/lang/Math" : Cond) ∈ wsX1_keep := by decide +kernel
theorem hw_X1_keep_5_9 : (.code Lib.Math.min.name Lib.Math.min.code 2 (some .int) : Cond) ∈ wsX1_keep := by decide +kernel
set_option maxHeartbeats 4000000 in
set_option maxRecDepth 100000 in
theorem c_X1_keep_5 (l : Launch) (D : va_G) (cI cC cZ cG : ClassId) (tb lo hi : Nat) (sz : Nat) (q : Nat) (G : Nat) (y0 : Nat) (y1 : Nat) (y2 : Nat) (y3 : Nat) (y4 : Nat) (y5 : Nat) (sn : Nat) (R : Nat → Nat → Int32) (r : Nat) (f : Nat → Int32) (hsn : sn ≤ 6) : Met l yX1_keep wsX1_keep ({ frames := 2, cells := 0, slots := 0, locals := 51 } : Room) (b_W D (b_T cI cC cZ cG) (b_X tb lo hi) [(q, .inr (1, [.ref G, .int (nI 5), .int (nI sn)])), (G, .inl (cG, 6, .inr (.inr (.inr (.inr (fun i => ([y0, y1, y2, y3, y4, y5] : List Nat)[i]?)))))), (y0, .inl (cI, 86, .inl (R 0))), (y1, .inl (cI, 86, .inl (R 1))), (y2, .inl (cI, 86, .inl (R 2))), (y3, .inl (cI, 86, .inl (R 3))), (y4, .inl (cI, 86, .inl (R 4))), (y5, .inl (cI, 86, .inl (R 5))), (r, .inl (cI, 86, .inl f))] sz [.ref q, .ref r]) (b_Qv D [(q, .inr (1, [.ref G, .int (nI (h_nx 5)), .int (nI (h_sz sn))])), (G, .inl (cG, 6, .inr (.inr (.inr (.inr (fun i => ([y0, y1, y2, y3, y4, y5] : List Nat)[i]?)))))), (y0, .inl (cI, 86, .inl (va_up R 5 (va_cpy f (R 5) 0 0 86) 0))), (y1, .inl (cI, 86, .inl (va_up R 5 (va_cpy f (R 5) 0 0 86) 1))), (y2, .inl (cI, 86, .inl (va_up R 5 (va_cpy f (R 5) 0 0 86) 2))), (y3, .inl (cI, 86, .inl (va_up R 5 (va_cpy f (R 5) 0 0 86) 3))), (y4, .inl (cI, 86, .inl (va_up R 5 (va_cpy f (R 5) 0 0 86) 4))), (y5, .inl (cI, 86, .inl (va_up R 5 (va_cpy f (R 5) 0 0 86) 5))), (r, .inl (cI, 86, .inl f))] (va_A [(q, .inr (1, [.ref G, .int (nI 5), .int (nI sn)])), (G, .inl (cG, 6, .inr (.inr (.inr (.inr (fun i => ([y0, y1, y2, y3, y4, y5] : List Nat)[i]?)))))), (y0, .inl (cI, 86, .inl (R 0))), (y1, .inl (cI, 86, .inl (R 1))), (y2, .inl (cI, 86, .inl (R 2))), (y3, .inl (cI, 86, .inl (R 3))), (y4, .inl (cI, 86, .inl (R 4))), (y5, .inl (cI, 86, .inl (R 5))), (r, .inl (cI, 86, .inl f))] sz)) 0 0 (va_A [(q, .inr (1, [.ref G, .int (nI 5), .int (nI sn)])), (G, .inl (cG, 6, .inr (.inr (.inr (.inr (fun i => ([y0, y1, y2, y3, y4, y5] : List Nat)[i]?)))))), (y0, .inl (cI, 86, .inl (R 0))), (y1, .inl (cI, 86, .inl (R 1))), (y2, .inl (cI, 86, .inl (R 2))), (y3, .inl (cI, 86, .inl (R 3))), (y4, .inl (cI, 86, .inl (R 4))), (y5, .inl (cI, 86, .inl (R 5))), (r, .inl (cI, 86, .inl f))] sz) := by
  refine b_enterW (Qc := fun A => b_Qv D [(q, .inr (1, [.ref G, .int (nI (h_nx 5)), .int (nI (h_sz sn))])), (G, .inl (cG, 6, .inr (.inr (.inr (.inr (fun i => ([y0, y1, y2, y3, y4, y5] : List Nat)[i]?)))))), (y0, .inl (cI, 86, .inl (va_up R 5 (va_cpy f (R 5) 0 0 86) 0))), (y1, .inl (cI, 86, .inl (va_up R 5 (va_cpy f (R 5) 0 0 86) 1))), (y2, .inl (cI, 86, .inl (va_up R 5 (va_cpy f (R 5) 0 0 86) 2))), (y3, .inl (cI, 86, .inl (va_up R 5 (va_cpy f (R 5) 0 0 86) 3))), (y4, .inl (cI, 86, .inl (va_up R 5 (va_cpy f (R 5) 0 0 86) 4))), (y5, .inl (cI, 86, .inl (va_up R 5 (va_cpy f (R 5) 0 0 86) 5))), (r, .inl (cI, 86, .inl f))] A) (cc := cX1_keep) (maxL := 2) (ret := none) (by decide) rfl (Nat.le_of_ble_eq_true rfl) ?_
  intro p e s m below meth c ls A hx hb hr hml hown hts hlocks hname hP hK hD hA hS hX hl Q hQ
  have hown : s.vm.findClass RX1 = some m.cls := hown
  have hl : lv_has ls 2 [(0, .ref q), (1, .ref r)] := hl
  refine lv_aload_n (pc := 0) hx hb dX1_keep_0 rfl (lv_at hl 1 rfl) ?_
  refine lv_aload_n (pc := 1) hx hb dX1_keep_1 rfl (lv_at hl 0 rfl) ?_
  refine va_get (pc := 2) (D := D) (ci := 1) (v := .ref G) (C := RX1) (T := TX1) (N := 3) hx hb hts hi_X1_keep_5_X1 hown hK hP 0 rfl rfl 0 (by decide) (hts _ hw_X1_keep_5_0) (fun _ h9 => h9) rfl dX1_keep_2 ?_
  refine lv_aload_n (pc := 5) hx hb dX1_keep_5 rfl (lv_at hl 0 rfl) ?_
  refine va_get (pc := 6) (D := D) (ci := 1) (v := .int (nI 5)) (C := RX1) (T := TX1) (N := 3) hx hb hts hi_X1_keep_5_X1 hown hK hP 0 rfl rfl 1 (by decide) (hts _ hw_X1_keep_5_2) (fun _ h9 => h9) rfl dX1_keep_6 ?_
  refine b_gald (pc := 9) (r := y5) hx hb hK hP 1 3 rfl rfl 5 rfl (by decide) (by decide) rfl dX1_keep_9 ?_
  refine b_cV (pc := 10) (w1 := [(r, .inl (cI, 86, .inl f)), (y5, .inl (cI, 86, .inl (va_cpy f (R 5) 0 0 86)))]) (va_runSN (As := [.ref r, .ref y5]) (rest := []) ⟨hx, hb, hml, hown, hts⟩ (c_X3_copyRow l D cI cC cZ cG tb lo hi s.heap.size r y5 f (R 5)) ⟨va_cnB 2 hts gX1_keep_X3_copyRow_n23 rfl rfl rfl hX.2.2.2.1 (hts _ hw_X1_keep_5_3) hyS_X3_copyRow ⟨Nat.le_of_ble_eq_true rfl, Nat.le_of_ble_eq_true rfl⟩, (hts _ hw_X1_keep_5_4), trivial⟩ (b_pWS (wc := [(r, .inl (cI, 86, .inl f)), (y5, .inl (cI, 86, .inl (R 5)))]) hK hP hD (b_Xok_X tb lo hi) [8, 7] rfl (by decide) rfl (b_Xc hX hD hS hA [8, 7] rfl)) rfl rfl hl.1 rfl (lv_room (Nat.le_of_ble_eq_true rfl)) dX1_keep_10 ⟨Nat.zero_le _, Nat.zero_le _⟩) hP hD hS hA [8, 7] rfl rfl (fun H locs hP hD hS => ?_)
  have hP : va_P D vwCl [(q, .inr (1, [.ref G, .int (nI 5), .int (nI sn)])), (G, .inl (cG, 6, .inr (.inr (.inr (.inr (fun i => ([y0, y1, y2, y3, y4, y5] : List Nat)[i]?)))))), (y0, .inl (cI, 86, .inl (R 0))), (y1, .inl (cI, 86, .inl (R 1))), (y2, .inl (cI, 86, .inl (R 2))), (y3, .inl (cI, 86, .inl (R 3))), (y4, .inl (cI, 86, .inl (R 4))), (y5, .inl (cI, 86, .inl (va_cpy f (R 5) 0 0 86))), (r, .inl (cI, 86, .inl f))] H := hP
  have hD : va_D A [(q, .inr (1, [.ref G, .int (nI 5), .int (nI sn)])), (G, .inl (cG, 6, .inr (.inr (.inr (.inr (fun i => ([y0, y1, y2, y3, y4, y5] : List Nat)[i]?)))))), (y0, .inl (cI, 86, .inl (R 0))), (y1, .inl (cI, 86, .inl (R 1))), (y2, .inl (cI, 86, .inl (R 2))), (y3, .inl (cI, 86, .inl (R 3))), (y4, .inl (cI, 86, .inl (R 4))), (y5, .inl (cI, 86, .inl (va_cpy f (R 5) 0 0 86))), (r, .inl (cI, 86, .inl f))] := hD
  refine lv_aload_n (pc := 13) hx hb dX1_keep_13 rfl (lv_at hl 0 rfl) ?_
  refine lv_aload_n (pc := 14) hx hb dX1_keep_14 rfl (lv_at hl 0 rfl) ?_
  refine va_get (pc := 15) (D := D) (ci := 1) (v := .int (nI 5)) (C := RX1) (T := TX1) (N := 3) hx hb hts hi_X1_keep_5_X1 hown hK hP 0 rfl rfl 1 (by decide) (hts _ hw_X1_keep_5_2) (fun _ h9 => h9) rfl dX1_keep_15 ?_
  refine lv_iconst (pc := 18) (v := 1) hx hb dX1_keep_18 (by decide) ?_
  refine lv_iadd (pc := 19) hx hb dX1_keep_19 ?_
  refine b_re (nI_add 5 1) ?_
  refine lv_bipush (pc := 20) (v := 6) hx hb dX1_keep_20 (by decide) ?_
  refine lv_icmp_ge (pc := 22) (tgt := 34) hx hb dX1_keep_22 (by decide) (fun c_1 => ?_) (fun c_1 => ?_)
  · skip
    have c_1 : 6 ≤ 5 + 1 := (nI_leI (a := 6) (b := 5 + 1) (by omega) (by omega)).mp c_1
    refine lv_iconst (pc := 34) (v := 0) hx hb dX1_keep_34 (by decide) ?_
    refine va_put (pc := 35) (D := D) (ci := 1) (v := .int 0) (ty := .int) (C := RX1) (T := TX1) (N := 3) hx hb hts hi_X1_keep_5_X1 tyX1 tyX1_ok nmX1 hown hK hP hD hS 0 rfl rfl 1 (by decide) (hts _ hw_X1_keep_5_2) (fun _ h9 => h9) rfl (by decide +kernel) rfl rfl (Nat.le_of_ble_eq_true rfl) dX1_keep_35 (fun H locs hP hD hS => ?_)
    have hP : va_P D vwCl [(q, .inr (1, [.ref G, .int 0, .int (nI sn)])), (G, .inl (cG, 6, .inr (.inr (.inr (.inr (fun i => ([y0, y1, y2, y3, y4, y5] : List Nat)[i]?)))))), (y0, .inl (cI, 86, .inl (R 0))), (y1, .inl (cI, 86, .inl (R 1))), (y2, .inl (cI, 86, .inl (R 2))), (y3, .inl (cI, 86, .inl (R 3))), (y4, .inl (cI, 86, .inl (R 4))), (y5, .inl (cI, 86, .inl (va_cpy f (R 5) 0 0 86))), (r, .inl (cI, 86, .inl f))] H := hP
    have hD : va_D A [(q, .inr (1, [.ref G, .int 0, .int (nI sn)])), (G, .inl (cG, 6, .inr (.inr (.inr (.inr (fun i => ([y0, y1, y2, y3, y4, y5] : List Nat)[i]?)))))), (y0, .inl (cI, 86, .inl (R 0))), (y1, .inl (cI, 86, .inl (R 1))), (y2, .inl (cI, 86, .inl (R 2))), (y3, .inl (cI, 86, .inl (R 3))), (y4, .inl (cI, 86, .inl (R 4))), (y5, .inl (cI, 86, .inl (va_cpy f (R 5) 0 0 86))), (r, .inl (cI, 86, .inl f))] := hD
    refine lv_aload_n (pc := 38) hx hb dX1_keep_38 rfl (lv_at hl 0 rfl) ?_
    refine lv_aload_n (pc := 39) hx hb dX1_keep_39 rfl (lv_at hl 0 rfl) ?_
    refine va_get (pc := 40) (D := D) (ci := 1) (v := .int (nI sn)) (C := RX1) (T := TX1) (N := 3) hx hb hts hi_X1_keep_5_X1 hown hK hP 0 rfl rfl 2 (by decide) (hts _ hw_X1_keep_5_5) (fun _ h9 => h9) rfl dX1_keep_40 ?_
    refine lv_iconst (pc := 43) (v := 1) hx hb dX1_keep_43 (by decide) ?_
    refine lv_iadd (pc := 44) hx hb dX1_keep_44 ?_
    refine b_re (nI_add sn 1) ?_
    refine lv_bipush (pc := 45) (v := 6) hx hb dX1_keep_45 (by decide) ?_
    refine va_mmin (pc := 47) hx hb (by rw [hml]; exact hl.1.symm) hown (hts _ hw_X1_keep_5_6) (hts _ hw_X1_keep_5_7) (hts _ hw_X1_keep_5_8) (hts _ hw_X1_keep_5_9) (Nat.le_of_ble_eq_true rfl) (Nat.le_of_ble_eq_true rfl) (Nat.zero_le _) (Nat.zero_le _) dX1_keep_47 ?_
    refine b_re (b_min6 hsn) ?_
    refine va_put (pc := 50) (D := D) (ci := 1) (v := .int (nI (h_sz sn))) (ty := .int) (C := RX1) (T := TX1) (N := 3) hx hb hts hi_X1_keep_5_X1 tyX1 tyX1_ok nmX1 hown hK hP hD hS 0 rfl rfl 2 (by decide) (hts _ hw_X1_keep_5_5) (fun _ h9 => h9) rfl (by decide +kernel) rfl rfl (Nat.le_of_ble_eq_true rfl) dX1_keep_50 (fun H locs hP hD hS => ?_)
    have hP : va_P D vwCl [(q, .inr (1, [.ref G, .int 0, .int (nI (h_sz sn))])), (G, .inl (cG, 6, .inr (.inr (.inr (.inr (fun i => ([y0, y1, y2, y3, y4, y5] : List Nat)[i]?)))))), (y0, .inl (cI, 86, .inl (R 0))), (y1, .inl (cI, 86, .inl (R 1))), (y2, .inl (cI, 86, .inl (R 2))), (y3, .inl (cI, 86, .inl (R 3))), (y4, .inl (cI, 86, .inl (R 4))), (y5, .inl (cI, 86, .inl (va_cpy f (R 5) 0 0 86))), (r, .inl (cI, 86, .inl f))] H := hP
    have hD : va_D A [(q, .inr (1, [.ref G, .int 0, .int (nI (h_sz sn))])), (G, .inl (cG, 6, .inr (.inr (.inr (.inr (fun i => ([y0, y1, y2, y3, y4, y5] : List Nat)[i]?)))))), (y0, .inl (cI, 86, .inl (R 0))), (y1, .inl (cI, 86, .inl (R 1))), (y2, .inl (cI, 86, .inl (R 2))), (y3, .inl (cI, 86, .inl (R 3))), (y4, .inl (cI, 86, .inl (R 4))), (y5, .inl (cI, 86, .inl (va_cpy f (R 5) 0 0 86))), (r, .inl (cI, 86, .inl f))] := hD
    subst hQ
    exact b_retV hx hb hr hlocks hS (hP) dX1_keep_53
  · skip
    have c_1 : ¬ (6 ≤ 5 + 1) := fun h9 => c_1 ((nI_leI (a := 6) (b := 5 + 1) (by omega) (by omega)).mpr h9)
    exact absurd c_1 (by decide)
set_option maxHeartbeats 4000000 in
set_option maxRecDepth 100000 in
theorem c_X1_keep (l : Launch) (D : va_G) (cI cC cZ cG : ClassId) (tb lo hi : Nat) (sz : Nat) (q : Nat) (G : Nat) (y0 : Nat) (y1 : Nat) (y2 : Nat) (y3 : Nat) (y4 : Nat) (y5 : Nat) (nx : Nat) (sn : Nat) (R : Nat → Nat → Int32) (r : Nat) (f : Nat → Int32) (hnx : nx < 6) (hsn : sn ≤ 6) : Met l yX1_keep wsX1_keep ({ frames := 2, cells := 0, slots := 0, locals := 51 } : Room) (b_W D (b_T cI cC cZ cG) (b_X tb lo hi) [(q, .inr (1, [.ref G, .int (nI nx), .int (nI sn)])), (G, .inl (cG, 6, .inr (.inr (.inr (.inr (fun i => ([y0, y1, y2, y3, y4, y5] : List Nat)[i]?)))))), (y0, .inl (cI, 86, .inl (R 0))), (y1, .inl (cI, 86, .inl (R 1))), (y2, .inl (cI, 86, .inl (R 2))), (y3, .inl (cI, 86, .inl (R 3))), (y4, .inl (cI, 86, .inl (R 4))), (y5, .inl (cI, 86, .inl (R 5))), (r, .inl (cI, 86, .inl f))] sz [.ref q, .ref r]) (b_Qv D [(q, .inr (1, [.ref G, .int (nI (h_nx nx)), .int (nI (h_sz sn))])), (G, .inl (cG, 6, .inr (.inr (.inr (.inr (fun i => ([y0, y1, y2, y3, y4, y5] : List Nat)[i]?)))))), (y0, .inl (cI, 86, .inl (va_up R nx (va_cpy f (R nx) 0 0 86) 0))), (y1, .inl (cI, 86, .inl (va_up R nx (va_cpy f (R nx) 0 0 86) 1))), (y2, .inl (cI, 86, .inl (va_up R nx (va_cpy f (R nx) 0 0 86) 2))), (y3, .inl (cI, 86, .inl (va_up R nx (va_cpy f (R nx) 0 0 86) 3))), (y4, .inl (cI, 86, .inl (va_up R nx (va_cpy f (R nx) 0 0 86) 4))), (y5, .inl (cI, 86, .inl (va_up R nx (va_cpy f (R nx) 0 0 86) 5))), (r, .inl (cI, 86, .inl f))] (va_A [(q, .inr (1, [.ref G, .int (nI nx), .int (nI sn)])), (G, .inl (cG, 6, .inr (.inr (.inr (.inr (fun i => ([y0, y1, y2, y3, y4, y5] : List Nat)[i]?)))))), (y0, .inl (cI, 86, .inl (R 0))), (y1, .inl (cI, 86, .inl (R 1))), (y2, .inl (cI, 86, .inl (R 2))), (y3, .inl (cI, 86, .inl (R 3))), (y4, .inl (cI, 86, .inl (R 4))), (y5, .inl (cI, 86, .inl (R 5))), (r, .inl (cI, 86, .inl f))] sz)) 0 0 (va_A [(q, .inr (1, [.ref G, .int (nI nx), .int (nI sn)])), (G, .inl (cG, 6, .inr (.inr (.inr (.inr (fun i => ([y0, y1, y2, y3, y4, y5] : List Nat)[i]?)))))), (y0, .inl (cI, 86, .inl (R 0))), (y1, .inl (cI, 86, .inl (R 1))), (y2, .inl (cI, 86, .inl (R 2))), (y3, .inl (cI, 86, .inl (R 3))), (y4, .inl (cI, 86, .inl (R 4))), (y5, .inl (cI, 86, .inl (R 5))), (r, .inl (cI, 86, .inl f))] sz) := by
  match nx, hnx with
  | 0, _ => exact c_X1_keep_0 l D cI cC cZ cG tb lo hi sz q G y0 y1 y2 y3 y4 y5 sn R r f hsn
  | 1, _ => exact c_X1_keep_1 l D cI cC cZ cG tb lo hi sz q G y0 y1 y2 y3 y4 y5 sn R r f hsn
  | 2, _ => exact c_X1_keep_2 l D cI cC cZ cG tb lo hi sz q G y0 y1 y2 y3 y4 y5 sn R r f hsn
  | 3, _ => exact c_X1_keep_3 l D cI cC cZ cG tb lo hi sz q G y0 y1 y2 y3 y4 y5 sn R r f hsn
  | 4, _ => exact c_X1_keep_4 l D cI cC cZ cG tb lo hi sz q G y0 y1 y2 y3 y4 y5 sn R r f hsn
  | 5, _ => exact c_X1_keep_5 l D cI cC cZ cG tb lo hi sz q G y0 y1 y2 y3 y4 y5 sn R r f hsn
  | k + 6, h9 => exact absurd h9 (by omega)