/-! the law's small methods -/
theorem hyS_L_cell : yL_cell.cls ≠ "java/lang/invoke/MethodHandle" ∧ yL_cell.cls ≠ "java/lang/invoke/VarHandle" ∧ (parseMethodDescriptor yL_cell.desc).map (fun d => d.parameters.length) = some 2 := by decide +kernel
theorem hyS_L_up : yL_up.cls ≠ "java/lang/invoke/MethodHandle" ∧ yL_up.cls ≠ "java/lang/invoke/VarHandle" ∧ (parseMethodDescriptor yL_up.desc).map (fun d => d.parameters.length) = some 2 := by decide +kernel
theorem hyS_L_number : yL_number.cls ≠ "java/lang/invoke/MethodHandle" ∧ yL_number.cls ≠ "java/lang/invoke/VarHandle" ∧ (parseMethodDescriptor yL_number.desc).map (fun d => d.parameters.length) = some 2 := by decide +kernel
theorem hyS_L_through : yL_through.cls ≠ "java/lang/invoke/MethodHandle" ∧ yL_through.cls ≠ "java/lang/invoke/VarHandle" ∧ (parseMethodDescriptor yL_through.desc).map (fun d => d.parameters.length) = some 2 := by decide +kernel
theorem hyS_L_ended : yL_ended.cls ≠ "java/lang/invoke/MethodHandle" ∧ yL_ended.cls ≠ "java/lang/invoke/VarHandle" ∧ (parseMethodDescriptor yL_ended.desc).map (fun d => d.parameters.length) = some 1 := by decide +kernel
theorem hyS_L_isStep : yL_isStep.cls ≠ "java/lang/invoke/MethodHandle" ∧ yL_isStep.cls ≠ "java/lang/invoke/VarHandle" ∧ (parseMethodDescriptor yL_isStep.desc).map (fun d => d.parameters.length) = some 4 := by decide +kernel
theorem hyS_L_isEvent : yL_isEvent.cls ≠ "java/lang/invoke/MethodHandle" ∧ yL_isEvent.cls ≠ "java/lang/invoke/VarHandle" ∧ (parseMethodDescriptor yL_isEvent.desc).map (fun d => d.parameters.length) = some 3 := by decide +kernel
theorem hyS_L_areAlike : yL_areAlike.cls ≠ "java/lang/invoke/MethodHandle" ∧ yL_areAlike.cls ≠ "java/lang/invoke/VarHandle" ∧ (parseMethodDescriptor yL_areAlike.desc).map (fun d => d.parameters.length) = some 2 := by decide +kernel
theorem hyS_L_isWell : yL_isWell.cls ≠ "java/lang/invoke/MethodHandle" ∧ yL_isWell.cls ≠ "java/lang/invoke/VarHandle" ∧ (parseMethodDescriptor yL_isWell.desc).map (fun d => d.parameters.length) = some 1 := by decide +kernel
theorem hw_c_L_up_0 : (.constant RL 8 (2147483647) : Cond) ∈ wsL_up := by decide +kernel
set_option maxHeartbeats 4000000 in
set_option maxRecDepth 100000 in
theorem c_L_up (l : Launch) (D : va_G) (cI cC cZ cG : ClassId) (v : Int32) (n : Nat) (hn0 : 0 < n) (hn : n < 2 ^ 31) : Met l yL_up wsL_up ({ frames := 0, cells := 0, slots := 0, locals := 0 } : Room) (b_R D (b_T cI cC cZ cG) [] [.int v, .int (nI n)]) (vp_Si (fun r => r = nI (u_up v n))) 0 0 (fun _ => False) := by
  refine b_enterR (cc := cL_up) (maxL := 2) (ret := (some .int)) (by decide) rfl (Nat.le_of_ble_eq_true rfl) ?_
  intro p e s m below meth c ls hx hb hr hml hown hts hlocks hP hK hl Q hQ
  have hown : s.vm.findClass RL = some m.cls := hown
  have hl : lv_has ls 2 [(0, .int v), (1, .int (nI n))] := hl
  refine lv_iload_n (pc := 0) hx hb dL_up_0 rfl (lv_at hl 0 rfl) ?_
  refine lv_ldc (pc := 1) hx hb hown (hts _ hw_c_L_up_0) dL_up_1 ?_
  refine lv_iand (pc := 3) hx hb dL_up_3 ?_
  refine lv_iload_n (pc := 4) hx hb dL_up_4 rfl (lv_at hl 1 rfl) ?_
  refine lv_irem (pc := 5) hx hb dL_up_5 (nI_ne0 hn0 hn) ?_
  subst hQ
  exact b_retR hx hb hr hlocks (up_eq v hn0 hn) dL_up_6
set_option maxHeartbeats 4000000 in
set_option maxRecDepth 100000 in
theorem c_L_through (l : Launch) (D : va_G) (cI cC cZ cG : ClassId) (ad : Nat → Nat) (σ : HS) (ok : sOk σ) (g : Nat) (hg : g < 6) : Met l yL_through wsL_through ({ frames := 5, cells := 0, slots := 0, locals := 106 } : Room) (b_R D (b_T cI cC cZ cG) (hc cI cC cZ cG ad σ) [.ref (ad 0), .int (nI g)]) (vp_Si (fun r => r = h_thr σ.1 g)) 0 0 (fun _ => False) := by
  refine b_enterR (cc := cL_through) (maxL := 2) (ret := (some .int)) (by decide) rfl (Nat.le_of_ble_eq_true rfl) ?_
  intro p e s m below meth c ls hx hb hr hml hown hts hlocks hP hK hl Q hQ
  have hown : s.vm.findClass RL = some m.cls := hown
  have hl : lv_has ls 2 [(0, .ref (ad 0)), (1, .int (nI g))] := hl
  refine lv_aload_n (pc := 0) hx hb dL_through_0 rfl (lv_at hl 0 rfl) ?_
  refine lv_iload_n (pc := 1) hx hb dL_through_1 rfl (lv_at hl 1 rfl) ?_
  refine lv_iconst (pc := 2) (v := 5) hx hb dL_through_2 (by decide) ?_
  refine b_cR (pc := 3) (va_runV (As := [.int (nI g), .int 5]) (rest := []) ⟨hx, hb, hml, hown, hts⟩ (k_gate l D cI cC cZ cG ad σ ok g 5 (by omega) (by omega)) (cwV 2 hts gL_through_X3_gate rfl rfl rfl hy_X3_gate ⟨Nat.le_of_ble_eq_true rfl, Nat.le_of_ble_eq_true rfl⟩) (b_pRc hK hP (hc_0 _ _ _ _ _ _)) rfl rfl hl.1 rfl (lv_room (Nat.le_of_ble_eq_true rfl)) dL_through_3 ⟨Nat.zero_le _, Nat.zero_le _⟩) ?_
  refine lv_aload_n (pc := 6) hx hb dL_through_6 rfl (lv_at hl 0 rfl) ?_
  refine lv_iload_n (pc := 7) hx hb dL_through_7 rfl (lv_at hl 1 rfl) ?_
  refine lv_bipush (pc := 8) (v := 6) hx hb dL_through_8 (by decide) ?_
  refine b_cR (pc := 10) (va_runV (As := [.int (nI g), .int 6]) (rest := [.int (h_tell σ.1 g 5)]) ⟨hx, hb, hml, hown, hts⟩ (k_gate l D cI cC cZ cG ad σ ok g 6 (by omega) (by omega)) (cwV 2 hts gL_through_X3_gate rfl rfl rfl hy_X3_gate ⟨Nat.le_of_ble_eq_true rfl, Nat.le_of_ble_eq_true rfl⟩) (b_pRc hK hP (hc_0 _ _ _ _ _ _)) rfl rfl hl.1 rfl (lv_room (Nat.le_of_ble_eq_true rfl)) dL_through_10 ⟨Nat.zero_le _, Nat.zero_le _⟩) ?_
  refine lv_iadd (pc := 13) hx hb dL_through_13 ?_
  subst hQ
  exact b_retR hx hb hr hlocks (rfl) dL_through_14
set_option maxHeartbeats 4000000 in
set_option maxRecDepth 100000 in
theorem c_L_ended (l : Launch) (D : va_G) (cI cC cZ cG : ClassId) (ad : Nat → Nat) (σ : HS) (ok : sOk σ) : Met l yL_ended wsL_ended ({ frames := 3, cells := 0, slots := 0, locals := 64 } : Room) (b_R D (b_T cI cC cZ cG) (hc cI cC cZ cG ad σ) [.ref (ad 0)]) (vp_Si (fun r => r = n_end σ.1)) 0 0 (fun _ => False) := by
  refine b_enterR (cc := cL_ended) (maxL := 1) (ret := (some .int)) (by decide) rfl (Nat.le_of_ble_eq_true rfl) ?_
  intro p e s m below meth c ls hx hb hr hml hown hts hlocks hP hK hl Q hQ
  have hown : s.vm.findClass RL = some m.cls := hown
  have hl : lv_has ls 1 [(0, .ref (ad 0))] := hl
  refine lv_aload_n (pc := 0) hx hb dL_ended_0 rfl (lv_at hl 0 rfl) ?_
  refine lv_bipush (pc := 1) (v := 8) hx hb dL_ended_1 (by decide) ?_
  refine b_cR (pc := 3) (va_runV (As := [.int 8]) (rest := []) ⟨hx, hb, hml, hown, hts⟩ (k_count_mid l D cI cC cZ cG ad σ ok 8 (by omega)) (cwV 1 hts gL_ended_X3_count rfl rfl rfl hy_X3_count ⟨Nat.le_of_ble_eq_true rfl, Nat.le_of_ble_eq_true rfl⟩) (b_pRc hK hP (hc_0 _ _ _ _ _ _)) rfl rfl hl.1 rfl (lv_room (Nat.le_of_ble_eq_true rfl)) dL_ended_3 ⟨Nat.zero_le _, Nat.zero_le _⟩) ?_
  refine b_re (show _ = h_sum σ.1 5 6 from rfl) ?_
  refine lv_aload_n (pc := 6) hx hb dL_ended_6 rfl (lv_at hl 0 rfl) ?_
  refine lv_bipush (pc := 7) (v := 9) hx hb dL_ended_7 (by decide) ?_
  refine b_cR (pc := 9) (va_runV (As := [.int 9]) (rest := [.int (h_sum σ.1 5 6)]) ⟨hx, hb, hml, hown, hts⟩ (k_count_mid l D cI cC cZ cG ad σ ok 9 (by omega)) (cwV 1 hts gL_ended_X3_count rfl rfl rfl hy_X3_count ⟨Nat.le_of_ble_eq_true rfl, Nat.le_of_ble_eq_true rfl⟩) (b_pRc hK hP (hc_0 _ _ _ _ _ _)) rfl rfl hl.1 rfl (lv_room (Nat.le_of_ble_eq_true rfl)) dL_ended_9 ⟨Nat.zero_le _, Nat.zero_le _⟩) ?_
  refine b_re (show _ = h_sum σ.1 6 6 from rfl) ?_
  refine lv_iadd (pc := 12) hx hb dL_ended_12 ?_
  refine lv_aload_n (pc := 13) hx hb dL_ended_13 rfl (lv_at hl 0 rfl) ?_
  refine lv_bipush (pc := 14) (v := 10) hx hb dL_ended_14 (by decide) ?_
  refine b_cR (pc := 16) (va_runV (As := [.int 10]) (rest := [.int ((h_sum σ.1 5 6) + (h_sum σ.1 6 6))]) ⟨hx, hb, hml, hown, hts⟩ (k_count_mid l D cI cC cZ cG ad σ ok 10 (by omega)) (cwV 1 hts gL_ended_X3_count rfl rfl rfl hy_X3_count ⟨Nat.le_of_ble_eq_true rfl, Nat.le_of_ble_eq_true rfl⟩) (b_pRc hK hP (hc_0 _ _ _ _ _ _)) rfl rfl hl.1 rfl (lv_room (Nat.le_of_ble_eq_true rfl)) dL_ended_16 ⟨Nat.zero_le _, Nat.zero_le _⟩) ?_
  refine b_re (show _ = h_sum σ.1 7 6 from rfl) ?_
  refine lv_iadd (pc := 19) hx hb dL_ended_19 ?_
  refine lv_aload_n (pc := 20) hx hb dL_ended_20 rfl (lv_at hl 0 rfl) ?_
  refine lv_bipush (pc := 21) (v := 11) hx hb dL_ended_21 (by decide) ?_
  refine b_cR (pc := 23) (va_runV (As := [.int 11]) (rest := [.int (((h_sum σ.1 5 6) + (h_sum σ.1 6 6)) + (h_sum σ.1 7 6))]) ⟨hx, hb, hml, hown, hts⟩ (k_count_mid l D cI cC cZ cG ad σ ok 11 (by omega)) (cwV 1 hts gL_ended_X3_count rfl rfl rfl hy_X3_count ⟨Nat.le_of_ble_eq_true rfl, Nat.le_of_ble_eq_true rfl⟩) (b_pRc hK hP (hc_0 _ _ _ _ _ _)) rfl rfl hl.1 rfl (lv_room (Nat.le_of_ble_eq_true rfl)) dL_ended_23 ⟨Nat.zero_le _, Nat.zero_le _⟩) ?_
  refine b_re (show _ = h_sum σ.1 8 6 from rfl) ?_
  refine lv_iadd (pc := 26) hx hb dL_ended_26 ?_
  subst hQ
  exact b_retR hx hb hr hlocks (rfl) dL_ended_27
def sPut (σ : HS) (c : Nat) : HS := sText σ (sN σ + 1) (upd (sT σ) (sN σ) (p_code (nI c).toInt64 0))
def sNum (σ : HS) (v : Nat) : HS := if v < 10 then sPut σ (48 + v % 10) else sPut (sPut σ (48 + v / 10)) (48 + v % 10)
set_option maxHeartbeats 4000000 in
set_option maxRecDepth 100000 in
theorem c_L_number (l : Launch) (D : va_G) (cI cC cZ cG : ClassId) (tb lo hi sz : Nat) (ad : Nat → Nat) (σ : HS) (ok : sOk σ) (v : Nat) (hn2 : sN σ + 2 ≤ 60) (hv : v < 100) : Met l yL_number wsL_number ({ frames := 2, cells := 0, slots := 0, locals := 48 } : Room) (b_W D (b_T cI cC cZ cG) (b_X tb lo hi) (hc cI cC cZ cG ad σ) sz [.ref (ad 0), .int (nI v)]) (b_Qi D 1 (hc cI cC cZ cG ad (sNum σ v)) (va_A (hc cI cC cZ cG ad σ) sz)) 0 0 (va_A (hc cI cC cZ cG ad σ) sz) := by
  refine b_enterW (Qc := fun A => b_Qi D 1 (hc cI cC cZ cG ad (sNum σ v)) A) (cc := cL_number) (maxL := 2) (ret := (some .boolean)) (by decide) rfl (Nat.le_of_ble_eq_true rfl) ?_
  intro p e s m below meth c ls A hx hb hr hml hown hts hlocks hname hP hK hD hA hS hX hl Q hQ
  have hown : s.vm.findClass RL = some m.cls := hown
  have hl : lv_has ls 2 [(0, .ref (ad 0)), (1, .int (nI v))] := hl
  refine lv_iload_n (pc := 0) hx hb dL_number_0 rfl (lv_at hl 1 rfl) ?_
  refine lv_bipush (pc := 1) (v := 10) hx hb dL_number_1 (by decide) ?_
  refine lv_icmp_lt (pc := 3) (tgt := 21) hx hb dL_number_3 (by decide) (fun c_1 => ?_) (fun c_1 => ?_)
  · skip
    have c_1 : v < 10 := (nI_ltI (a := v) (b := 10) (by omega) (by omega)).mp c_1
    refine lv_aload_n (pc := 21) hx hb dL_number_21 rfl (lv_at hl 0 rfl) ?_
    refine lv_bipush (pc := 22) (v := 48) hx hb dL_number_22 (by decide) ?_
    refine lv_iload_n (pc := 24) hx hb dL_number_24 rfl (lv_at hl 1 rfl) ?_
    refine lv_bipush (pc := 25) (v := 10) hx hb dL_number_25 (by decide) ?_
    refine lv_irem (pc := 27) hx hb dL_number_27 (nI_ne0 (n := 10) (by omega) (by omega)) ?_
    refine b_re (nI_rem (a := v) (n := 10) (by omega) (by omega) (by omega)) ?_
    refine lv_iadd (pc := 28) hx hb dL_number_28 ?_
    refine b_re (nI_add 48 (v % 10)) ?_
    refine lv_i2l (pc := 29) hx hb dL_number_29 rfl ?_
    refine b_cW0 (pc := 30) (w1 := hc cI cC cZ cG ad (sText σ (sN σ + 1) (upd (sT σ) (sN σ) (p_code (nI (48 + v % 10)).toInt64 0)))) (va_runV (As := [.long ((nI (48 + v % 10)).toInt64)]) (rest := []) ⟨hx, hb, hml, hown, hts⟩ (k_put0 l D cI cC cZ cG tb lo hi s.heap.size ad σ ok (nI (48 + v % 10)).toInt64 (ch_num (48 + v % 10) (by omega) (by omega)).1 (show sN σ + 1 ≤ 60 by omega)) (cwV 1 hts gL_number_X3_put rfl rfl rfl hy_X3_put ⟨Nat.le_of_ble_eq_true rfl, Nat.le_of_ble_eq_true rfl⟩) (b_pWc hK hP hD (b_Xok_X tb lo hi) (b_Xc0 hX hD hS hA) (hc_0 _ _ _ _ _ _)) rfl rfl hl.1 rfl (lv_room (Nat.le_of_ble_eq_true rfl)) dL_number_30 ⟨Nat.zero_le _, Nat.zero_le _⟩) hP hD hS hA (hc_ad _ _ _ _ _ _ _) (fun H locs hP hD hS => ?_)
    refine b_re (show _ = nI (sN σ + 1) from rfl) ?_
    refine lv_if_le (pc := 33) (tgt := 40) hx hb dL_number_33 (by decide) (fun c_2 => ?_) (fun c_2 => ?_)
    · skip
      have c_2 : sN σ + 1 ≤ 0 := (nI_leI (a := sN σ + 1) (b := 0) (by omega) (by omega)).mp c_2
      exact absurd c_2 (by omega)
    · skip
      have c_2 : ¬ (sN σ + 1 ≤ 0) := fun h9 => c_2 ((nI_leI (a := sN σ + 1) (b := 0) (by omega) (by omega)).mpr h9)
      refine lv_iconst (pc := 36) (v := 1) hx hb dL_number_36 (by decide) ?_
      refine lv_goto (pc := 37) (tgt := 41) hx hb dL_number_37 (by decide) ?_
      subst hQ
      exact b_retWZ hx hb hr hlocks rfl hS rfl (by unfold sNum; first | (rw [if_pos (by assumption)]; exact hP) | (rw [if_neg (by assumption)]; exact hP)) dL_number_41
  · skip
    have c_1 : ¬ (v < 10) := fun h9 => c_1 ((nI_ltI (a := v) (b := 10) (by omega) (by omega)).mpr h9)
    refine lv_aload_n (pc := 6) hx hb dL_number_6 rfl (lv_at hl 0 rfl) ?_
    refine lv_bipush (pc := 7) (v := 48) hx hb dL_number_7 (by decide) ?_
    refine lv_iload_n (pc := 9) hx hb dL_number_9 rfl (lv_at hl 1 rfl) ?_
    refine lv_bipush (pc := 10) (v := 10) hx hb dL_number_10 (by decide) ?_
    refine lv_idiv (pc := 12) hx hb dL_number_12 (nI_ne0 (n := 10) (by omega) (by omega)) ?_
    refine b_re (pk_div (a := v) (d := 10) (by omega) (by omega) (by omega)) ?_
    refine lv_iadd (pc := 13) hx hb dL_number_13 ?_
    refine b_re (nI_add 48 (v / 10)) ?_
    refine lv_i2l (pc := 14) hx hb dL_number_14 rfl ?_
    refine b_cW0 (pc := 15) (w1 := hc cI cC cZ cG ad (sText σ (sN σ + 1) (upd (sT σ) (sN σ) (p_code (nI (48 + v / 10)).toInt64 0)))) (va_runV (As := [.long ((nI (48 + v / 10)).toInt64)]) (rest := []) ⟨hx, hb, hml, hown, hts⟩ (k_put0 l D cI cC cZ cG tb lo hi s.heap.size ad σ ok (nI (48 + v / 10)).toInt64 (ch_num (48 + v / 10) (by omega) (by omega)).1 (show sN σ + 1 ≤ 60 by omega)) (cwV 1 hts gL_number_X3_put rfl rfl rfl hy_X3_put ⟨Nat.le_of_ble_eq_true rfl, Nat.le_of_ble_eq_true rfl⟩) (b_pWc hK hP hD (b_Xok_X tb lo hi) (b_Xc0 hX hD hS hA) (hc_0 _ _ _ _ _ _)) rfl rfl hl.1 rfl (lv_room (Nat.le_of_ble_eq_true rfl)) dL_number_15 ⟨Nat.zero_le _, Nat.zero_le _⟩) hP hD hS hA (hc_ad _ _ _ _ _ _ _) (fun H locs hP hD hS => ?_)
    refine b_re (show _ = nI (sN σ + 1) from rfl) ?_
    refine lv_if_le (pc := 18) (tgt := 40) hx hb dL_number_18 (by decide) (fun c_3 => ?_) (fun c_3 => ?_)
    · skip
      have c_3 : sN σ + 1 ≤ 0 := (nI_leI (a := sN σ + 1) (b := 0) (by omega) (by omega)).mp c_3
      exact absurd c_3 (by omega)
    · skip
      have c_3 : ¬ (sN σ + 1 ≤ 0) := fun h9 => c_3 ((nI_leI (a := sN σ + 1) (b := 0) (by omega) (by omega)).mpr h9)
      refine lv_aload_n (pc := 21) hx hb dL_number_21 rfl (lv_at hl 0 rfl) ?_
      refine lv_bipush (pc := 22) (v := 48) hx hb dL_number_22 (by decide) ?_
      refine lv_iload_n (pc := 24) hx hb dL_number_24 rfl (lv_at hl 1 rfl) ?_
      refine lv_bipush (pc := 25) (v := 10) hx hb dL_number_25 (by decide) ?_
      refine lv_irem (pc := 27) hx hb dL_number_27 (nI_ne0 (n := 10) (by omega) (by omega)) ?_
      refine b_re (nI_rem (a := v) (n := 10) (by omega) (by omega) (by omega)) ?_
      refine lv_iadd (pc := 28) hx hb dL_number_28 ?_
      refine b_re (nI_add 48 (v % 10)) ?_
      refine lv_i2l (pc := 29) hx hb dL_number_29 rfl ?_
      refine b_cW0 (pc := 30) (w1 := hc cI cC cZ cG ad (sText σ (sN σ + 1 + 1) (upd (upd (sT σ) (sN σ) (p_code (nI (48 + v / 10)).toInt64 0)) (sN σ + 1) (p_code (nI (48 + v % 10)).toInt64 0)))) (va_runV (As := [.long ((nI (48 + v % 10)).toInt64)]) (rest := []) ⟨hx, hb, hml, hown, hts⟩ (k_put0 l D cI cC cZ cG tb lo hi H.size ad (sText σ (sN σ + 1) (upd (sT σ) (sN σ) (p_code (nI (48 + v / 10)).toInt64 0))) (sOk.text ok _ (by first | omega | (show sN σ + _ ≤ 60; omega))) (nI (48 + v % 10)).toInt64 (ch_num (48 + v % 10) (by omega) (by omega)).1 (show sN σ + 1 + 1 ≤ 60 by omega)) (cwV 1 hts gL_number_X3_put rfl rfl rfl hy_X3_put ⟨Nat.le_of_ble_eq_true rfl, Nat.le_of_ble_eq_true rfl⟩) (b_pWc hK hP hD (b_Xok_X tb lo hi) (b_Xc0 hX hD hS hA) (hc_0 _ _ _ _ _ _)) rfl rfl hl.1 rfl (lv_room (Nat.le_of_ble_eq_true rfl)) dL_number_30 ⟨Nat.zero_le _, Nat.zero_le _⟩) hP hD hS hA (hc_ad _ _ _ _ _ _ _) (fun H locs hP hD hS => ?_)
      refine b_re (show _ = nI (sN σ + 1 + 1) from rfl) ?_
      refine lv_if_le (pc := 33) (tgt := 40) hx hb dL_number_33 (by decide) (fun c_4 => ?_) (fun c_4 => ?_)
      · skip
        have c_4 : sN σ + 1 + 1 ≤ 0 := (nI_leI (a := sN σ + 1 + 1) (b := 0) (by omega) (by omega)).mp c_4
        exact absurd c_4 (by omega)
      · skip
        have c_4 : ¬ (sN σ + 1 + 1 ≤ 0) := fun h9 => c_4 ((nI_leI (a := sN σ + 1 + 1) (b := 0) (by omega) (by omega)).mpr h9)
        refine lv_iconst (pc := 36) (v := 1) hx hb dL_number_36 (by decide) ?_
        refine lv_goto (pc := 37) (tgt := 41) hx hb dL_number_37 (by decide) ?_
        subst hQ
        exact b_retWZ hx hb hr hlocks rfl hS rfl (by unfold sNum; first | (rw [if_pos (by assumption)]; exact hP) | (rw [if_neg (by assumption)]; exact hP)) dL_number_41
