abbrev p_n3 (x : Int32) : Prop := x < 0 ∨ ¬ x < 3
abbrev p_nk (k : Nat) (x : Int32) : Prop := x < 0 ∨ ¬ x < nI k
theorem p_ng_no {g : Nat} (h : g < 6) : ¬ p_ng (nI g) := fun q => q.elim (fun z => nI_pos (by omega) z) (fun z => z ((nI_ltI (a := g) (b := 6) (by omega) (by omega)).mpr h))
theorem p_ns_no {g : Nat} (h : g < 2) : ¬ (nI g < 0 ∨ ¬ nI g < 2) := fun q => q.elim (fun z => nI_pos (by omega) z) (fun z => z ((nI_ltI (a := g) (b := 2) (by omega) (by omega)).mpr h))
theorem b_m1 (x : Int32) : x - 1 = x + (-1) := Int32.sub_eq_add_neg x 1
theorem p_code_nar (x : Int64) (i : Nat) : vp_nar .char ((p_code x i).toUInt32 % 65536).toInt32 = p_code x i := by
  have h : p_code x i = (p_rest x i).toInt32 &&& 255 := by
    show ((p_rest x i) &&& 255).toInt32 = _
    rw [Int64.toInt32_and]
    rfl
  rw [h, sc_c2]
  show (match narrow .char (.int ((p_rest x i).toInt32 &&& 255)) with | .int y => y | _ => 0) = _
  rw [sc_nar]
def p_ap (x : Int64) : Nat → Nat → (Nat → Int32) → (Nat → Int32)
  | 0, _, tx => tx
  | m + 1, n, tx => p_ap x m (n + 1) (upd tx n (p_code x m))
def b_bc (x : Int32) : Int32 :=
  let a := x - ((x.toUInt32 >>> ((1 : Int32).toUInt32 &&& Int32.toUInt32 31)).toInt32 &&& 1431655765)
  let b := (a &&& 858993459) + ((a.toUInt32 >>> ((2 : Int32).toUInt32 &&& Int32.toUInt32 31)).toInt32 &&& 858993459)
  let c := (b + (b.toUInt32 >>> ((4 : Int32).toUInt32 &&& Int32.toUInt32 31)).toInt32) &&& 252645135
  let d := c + (c.toUInt32 >>> ((8 : Int32).toUInt32 &&& Int32.toUInt32 31)).toInt32
  let e := d + (d.toUInt32 >>> ((16 : Int32).toUInt32 &&& Int32.toUInt32 31)).toInt32
  e &&& 63

theorem p_ap_pos {m : Nat} (h : ¬ (nI m + (-1)) < 0) : ∃ z, m = z + 1 := by
  rcases m with _ | z
  · exact absurd (by decide) h
  · exact ⟨z, rfl⟩
theorem p_ap_zero {m : Nat} (hm : m ≤ 8) (h : (nI m + (-1)) < 0) : m = 0 := by
  rcases m with _ | z
  · rfl
  · rw [pk_m1] at h
    exact absurd h (nI_pos (by omega))
theorem hw_X2_append_0 : (.fieldLink RX2 15 "BeamTurnstiles$Pad" "length" "I" : Cond) ∈ wsX2_append := by decide +kernel
theorem hi_X2_append_X2 : ∀ w ∈ wsX20, w ∈ wsX2_append := by decide +kernel
theorem hw_X2_append_2 : (.fieldLink RX2 11 "BeamTurnstiles$Pad" "text" "[C" : Cond) ∈ wsX2_append := by decide +kernel
theorem hw_X2_append_3 : (.constantLong RX2 19 (255) : Cond) ∈ wsX2_append := by decide +kernel
set_option maxHeartbeats 4000000 in
set_option maxRecDepth 100000 in
theorem c_X2_append (l : Launch) (D : va_G) (cI cC cZ cG : ClassId) (tb lo hi : Nat) (sz : Nat) (d : Nat) (t : Nat) (n : Nat) (tx : Nat → Int32) (x : Int64) (k : Nat) (hk : n + k ≤ 60) (hk8 : k ≤ 8) : Met l yX2_append wsX2_append ({ frames := 0, cells := 0, slots := 0, locals := 0 } : Room) (b_W D (b_T cI cC cZ cG) (b_X tb lo hi) [(d, .inr (2, [.ref t, .int (nI n)])), (t, .inl (cC, 60, .inl tx))] sz [.ref d, .long x, .int (nI k)]) (b_Qv D [(d, .inr (2, [.ref t, .int (nI (n + k))])), (t, .inl (cC, 60, .inl (p_ap x k n tx)))] (va_A [(d, .inr (2, [.ref t, .int (nI n)])), (t, .inl (cC, 60, .inl tx))] sz)) 0 0 (va_A [(d, .inr (2, [.ref t, .int (nI n)])), (t, .inl (cC, 60, .inl tx))] sz) := by
  refine b_enterW (Qc := fun A => b_Qv D [(d, .inr (2, [.ref t, .int (nI (n + k))])), (t, .inl (cC, 60, .inl (p_ap x k n tx)))] A) (cc := cX2_append) (maxL := 5) (ret := none) (by decide) rfl (Nat.le_of_ble_eq_true rfl) ?_
  intro p e s m below meth c ls A hx hb hr hml hown hts hlocks hname hP hK hD hA hS hX hl Q hQ
  have hown : s.vm.findClass RX2 = some m.cls := hown
  have hl : lv_has ls 5 [(0, .ref d), (1, .long x), (3, .int (nI k))] := hl
  refine lv_iload_n (pc := 0) hx hb dX2_append_0 rfl (lv_at hl 2 rfl) ?_
  refine lv_iconst (pc := 1) (v := 1) hx hb dX2_append_1 (by decide) ?_
  refine lv_isub (pc := 2) hx hb dX2_append_2 ?_
  refine b_re (b_m1 _) ?_
  refine lv_istore (pc := 3) (lv' := [(4, .int (nI k + (-1))), (0, .ref d), (1, .long x), (3, .int (nI k))]) hx hb dX2_append_3 hl (by decide) rfl (fun ls hl => ?_)
  have loop_5 : ∀ (fu : Nat) (m1 : Nat) (n1 : Nat) (t1 : Nat → Int32), (n1 + m1 = n + k ∧ m1 ≤ 8) → (p_ap x m1 n1 t1 = p_ap x k n tx) → m1 < fu → ∀ (H : Heap) (locs : List Loc), va_P D vwCl [(d, .inr (2, [.ref t, .int (nI n1)])), (t, .inl (cC, 60, .inl t1))] H → va_D A [(d, .inr (2, [.ref t, .int (nI n1)])), (t, .inl (cC, 60, .inl t1))] → va_S A s.heap H locs → ∀ (ls : Array Slot), lv_has ls 5 [(4, .int (nI m1 + (-1))), (0, .ref d), (1, .long x), (3, .int (nI k))] → W p l e ({ frames := 0, cells := 0, slots := 0, locals := 0 } : Room) s m ([.ref d, .long x, .int (nI k)] : List Value).toArray below meth c H locs 0 0 Q (F0 m 5 ls []) := by
    intro fu
    induction fu with
    | zero => intro m1 n1 t1 h1 hv hn H locs hP hD hS ls hl; exact absurd hn (Nat.not_lt_zero _)
    | succ fu ih_5 =>
      intro m1 n1 t1 h1 hv hn H locs hP hD hS ls hl
      refine lv_iload (pc := 5) hx hb dX2_append_5 (lv_at hl 0 rfl) ?_
      refine lv_if_lt (pc := 7) (tgt := 57) hx hb dX2_append_7 (by decide) (fun c_1 => ?_) (fun c_1 => ?_)
      · skip
        have c_1 : (nI m1 + (-1)) < 0 := c_1
        subst hQ
        exact b_retV hx hb hr hlocks hS (by have e9 := p_ap_zero (by omega) c_1; subst e9; have e8 : n1 = n + k := (by omega); subst e8; have e7 : t1 = p_ap x k n tx := hv; rw [← e7]; exact hP) dX2_append_57
      · skip
        have c_1 : ¬ ((nI m1 + (-1)) < 0) := c_1
        obtain ⟨m2, em⟩ : ∃ z, m1 = z + 1 := p_ap_pos c_1
        have hl : lv_has ls 5 [(4, .int (nI m2)), (0, .ref d), (1, .long x), (3, .int (nI k))] := by rw [em, pk_m1] at hl; exact hl
        refine lv_aload_n (pc := 10) hx hb dX2_append_10 rfl (lv_at hl 1 rfl) ?_
        refine va_get (pc := 11) (D := D) (ci := 2) (v := .int (nI n1)) (C := RX2) (T := TX2) (N := 2) hx hb hts hi_X2_append_X2 hown hK hP 0 rfl rfl 1 (by decide) (hts _ hw_X2_append_0) (fun _ h9 => h9) rfl dX2_append_11 ?_
        refine lv_bipush (pc := 14) (v := 60) hx hb dX2_append_14 (by decide) ?_
        refine lv_icmp_ge (pc := 16) (tgt := 57) hx hb dX2_append_16 (by decide) (fun c_2 => ?_) (fun c_2 => ?_)
        · skip
          have c_2 : 60 ≤ n1 := (nI_leI (a := 60) (b := n1) (by omega) (by omega)).mp c_2
          exact absurd c_2 (by omega)
        · skip
          have c_2 : ¬ (60 ≤ n1) := fun h9 => c_2 ((nI_leI (a := 60) (b := n1) (by omega) (by omega)).mpr h9)
          refine lv_aload_n (pc := 19) hx hb dX2_append_19 rfl (lv_at hl 1 rfl) ?_
          refine va_get (pc := 20) (D := D) (ci := 2) (v := .ref t) (C := RX2) (T := TX2) (N := 2) hx hb hts hi_X2_append_X2 hown hK hP 0 rfl rfl 0 (by decide) (hts _ hw_X2_append_2) (fun _ h9 => h9) rfl dX2_append_20 ?_
          refine lv_aload_n (pc := 23) hx hb dX2_append_23 rfl (lv_at hl 1 rfl) ?_
          refine va_get (pc := 24) (D := D) (ci := 2) (v := .int (nI n1)) (C := RX2) (T := TX2) (N := 2) hx hb hts hi_X2_append_X2 hown hK hP 0 rfl rfl 1 (by decide) (hts _ hw_X2_append_0) (fun _ h9 => h9) rfl dX2_append_24 ?_
          refine lv_lload_n (pc := 27) hx hb dX2_append_27 rfl (lv_at hl 2 rfl) ?_
          refine lv_bipush (pc := 28) (v := 8) hx hb dX2_append_28 (by decide) ?_
          refine lv_iload (pc := 30) hx hb dX2_append_30 (lv_at hl 0 rfl) ?_
          refine lv_imul (pc := 32) hx hb dX2_append_32 ?_
          refine b_re (pk_mul 8 m2) ?_
          refine lv_lushr (pc := 33) hx hb dX2_append_33 rfl ?_
          refine lv_ldc2 (pc := 34) hx hb hown (hts _ hw_X2_append_3) dX2_append_34 ?_
          refine lv_land (pc := 37) hx hb dX2_append_37 ?_
          refine lv_l2i (pc := 38) hx hb dX2_append_38 rfl ?_
          refine lv_i2c (pc := 39) hx hb dX2_append_39 rfl ?_
          refine b_cast (pc := 40) (z := p_code x m2) hx hb hK hP hD hS 1 1 rfl rfl n1 rfl (by omega) (by decide) (p_code_nar x m2) dX2_append_40 (fun H locs hP hD hS => ?_)
          obtain ⟨f_3, ef_3⟩ : ∃ z : Nat → Int32, z = upd t1 n1 (p_code x m2) := ⟨_, rfl⟩
          have hP : va_P D vwCl [(d, .inr (2, [.ref t, .int (nI n1)])), (t, .inl (cC, 60, .inl f_3))] H := by rw [ef_3]; exact hP
          have hD : va_D A [(d, .inr (2, [.ref t, .int (nI n1)])), (t, .inl (cC, 60, .inl f_3))] := by rw [ef_3]; exact hD
          refine lv_aload_n (pc := 41) hx hb dX2_append_41 rfl (lv_at hl 1 rfl) ?_
          refine lv_dup (pc := 42) hx hb dX2_append_42 rfl ?_
          refine va_get (pc := 43) (D := D) (ci := 2) (v := .int (nI n1)) (C := RX2) (T := TX2) (N := 2) hx hb hts hi_X2_append_X2 hown hK hP 0 rfl rfl 1 (by decide) (hts _ hw_X2_append_0) (fun _ h9 => h9) rfl dX2_append_43 ?_
          refine lv_iconst (pc := 46) (v := 1) hx hb dX2_append_46 (by decide) ?_
          refine lv_iadd (pc := 47) hx hb dX2_append_47 ?_
          refine b_re (nI_add n1 1) ?_
          refine va_put (pc := 48) (D := D) (ci := 2) (v := .int (nI (n1 + 1))) (ty := .int) (C := RX2) (T := TX2) (N := 2) hx hb hts hi_X2_append_X2 tyX2 tyX2_ok nmX2 hown hK hP hD hS 0 rfl rfl 1 (by decide) (hts _ hw_X2_append_0) (fun _ h9 => h9) rfl (by decide +kernel) rfl rfl (Nat.le_of_ble_eq_true rfl) dX2_append_48 (fun H locs hP hD hS => ?_)
          have hP : va_P D vwCl [(d, .inr (2, [.ref t, .int (nI (n1 + 1))])), (t, .inl (cC, 60, .inl f_3))] H := hP
          have hD : va_D A [(d, .inr (2, [.ref t, .int (nI (n1 + 1))])), (t, .inl (cC, 60, .inl f_3))] := hD
          refine lv_iinc (pc := 51) (v := (nI m2) + (-1)) (lv' := [(4, .int ((nI m2) + (-1))), (0, .ref d), (1, .long x), (3, .int (nI k))]) hx hb dX2_append_51 hl (k := 0) rfl rfl (by decide) rfl (fun ls hl => ?_)
          refine lv_goto (pc := 54) (tgt := 5) hx hb dX2_append_54 (by decide) ?_
          subst ef_3
          exact ih_5 m2 (n1 + 1) (upd t1 n1 (p_code x m2)) (by omega) (by rw [← hv, em]; rfl) (by omega) _ _ (hP.sub [0, 1] rfl) (hD.sub [0, 1] (by decide) rfl) hS ls (lv_sub hl [0, 1, 2, 3] rfl)
  exact loop_5 (k + 1) k n tx (⟨rfl, hk8⟩) rfl (by omega) _ _ (hP.sub [0, 1] rfl) (hD.sub [0, 1] (by decide) rfl) hS ls (lv_sub hl [0, 1, 2, 3] rfl)
theorem hw_J6_bitCount_0f7a4_0 : (.constant RJ6 265 (1431655765) : Cond) ∈ wsJ6_bitCount_0f7a4 := by decide +kernel
theorem hw_J6_bitCount_0f7a4_1 : (.constant RJ6 266 (858993459) : Cond) ∈ wsJ6_bitCount_0f7a4 := by decide +kernel
theorem hw_J6_bitCount_0f7a4_2 : (.constant RJ6 267 (252645135) : Cond) ∈ wsJ6_bitCount_0f7a4 := by decide +kernel
set_option maxHeartbeats 4000000 in
set_option maxRecDepth 100000 in
theorem c_J6_bitCount_0f7a4 (l : Launch) (D : va_G) (cI cC cZ cG : ClassId) (x : Int32) : Met l yJ6_bitCount_0f7a4 wsJ6_bitCount_0f7a4 ({ frames := 0, cells := 0, slots := 0, locals := 0 } : Room) (b_R D (b_T cI cC cZ cG) [] [.int x]) (vp_Si (fun r => r = b_bc x)) 0 0 (fun _ => False) := by
  refine b_enterR (cc := cJ6_bitCount_0f7a4) (maxL := 1) (ret := (some .int)) (by decide) rfl (Nat.le_of_ble_eq_true rfl) ?_
  intro p e s m below meth c ls hx hb hr hml hown hts hlocks hP hK hl Q hQ
  have hown : s.vm.findClass RJ6 = some m.cls := hown
  have hl : lv_has ls 1 [(0, .int x)] := hl
  refine lv_iload_n (pc := 0) hx hb dJ6_bitCount_0f7a4_0 rfl (lv_at hl 0 rfl) ?_
  refine lv_iload_n (pc := 1) hx hb dJ6_bitCount_0f7a4_1 rfl (lv_at hl 0 rfl) ?_
  refine lv_iconst (pc := 2) (v := 1) hx hb dJ6_bitCount_0f7a4_2 (by decide) ?_
  refine lv_iushr (pc := 3) hx hb dJ6_bitCount_0f7a4_3 rfl ?_
  refine lv_ldcw (pc := 4) hx hb hown (hts _ hw_J6_bitCount_0f7a4_0) dJ6_bitCount_0f7a4_4 ?_
  refine lv_iand (pc := 7) hx hb dJ6_bitCount_0f7a4_7 ?_
  refine lv_isub (pc := 8) hx hb dJ6_bitCount_0f7a4_8 ?_
  refine lv_istore_n (pc := 9) (lv' := [(0, .int (x - (((x.toUInt32 >>> ((1 : Int32).toUInt32 &&& Int32.toUInt32 31)).toInt32) &&& 1431655765)))]) hx hb dJ6_bitCount_0f7a4_9 rfl hl (by decide) rfl (fun ls hl => ?_)
  refine lv_iload_n (pc := 10) hx hb dJ6_bitCount_0f7a4_10 rfl (lv_at hl 0 rfl) ?_
  refine lv_ldcw (pc := 11) hx hb hown (hts _ hw_J6_bitCount_0f7a4_1) dJ6_bitCount_0f7a4_11 ?_
  refine lv_iand (pc := 14) hx hb dJ6_bitCount_0f7a4_14 ?_
  refine lv_iload_n (pc := 15) hx hb dJ6_bitCount_0f7a4_15 rfl (lv_at hl 0 rfl) ?_
  refine lv_iconst (pc := 16) (v := 2) hx hb dJ6_bitCount_0f7a4_16 (by decide) ?_
  refine lv_iushr (pc := 17) hx hb dJ6_bitCount_0f7a4_17 rfl ?_
  refine lv_ldcw (pc := 18) hx hb hown (hts _ hw_J6_bitCount_0f7a4_1) dJ6_bitCount_0f7a4_18 ?_
  refine lv_iand (pc := 21) hx hb dJ6_bitCount_0f7a4_21 ?_
  refine lv_iadd (pc := 22) hx hb dJ6_bitCount_0f7a4_22 ?_
  refine lv_istore_n (pc := 23) (lv' := [(0, .int (((x - (((x.toUInt32 >>> ((1 : Int32).toUInt32 &&& Int32.toUInt32 31)).toInt32) &&& 1431655765)) &&& 858993459) + ((((x - (((x.toUInt32 >>> ((1 : Int32).toUInt32 &&& Int32.toUInt32 31)).toInt32) &&& 1431655765)).toUInt32 >>> ((2 : Int32).toUInt32 &&& Int32.toUInt32 31)).toInt32) &&& 858993459)))]) hx hb dJ6_bitCount_0f7a4_23 rfl hl (by decide) rfl (fun ls hl => ?_)
  refine lv_iload_n (pc := 24) hx hb dJ6_bitCount_0f7a4_24 rfl (lv_at hl 0 rfl) ?_
  refine lv_iload_n (pc := 25) hx hb dJ6_bitCount_0f7a4_25 rfl (lv_at hl 0 rfl) ?_
  refine lv_iconst (pc := 26) (v := 4) hx hb dJ6_bitCount_0f7a4_26 (by decide) ?_
  refine lv_iushr (pc := 27) hx hb dJ6_bitCount_0f7a4_27 rfl ?_
  refine lv_iadd (pc := 28) hx hb dJ6_bitCount_0f7a4_28 ?_
  refine lv_ldcw (pc := 29) hx hb hown (hts _ hw_J6_bitCount_0f7a4_2) dJ6_bitCount_0f7a4_29 ?_
  refine lv_iand (pc := 32) hx hb dJ6_bitCount_0f7a4_32 ?_
  refine lv_istore_n (pc := 33) (lv' := [(0, .int (((((x - (((x.toUInt32 >>> ((1 : Int32).toUInt32 &&& Int32.toUInt32 31)).toInt32) &&& 1431655765)) &&& 858993459) + ((((x - (((x.toUInt32 >>> ((1 : Int32).toUInt32 &&& Int32.toUInt32 31)).toInt32) &&& 1431655765)).toUInt32 >>> ((2 : Int32).toUInt32 &&& Int32.toUInt32 31)).toInt32) &&& 858993459)) + (((((x - (((x.toUInt32 >>> ((1 : Int32).toUInt32 &&& Int32.toUInt32 31)).toInt32) &&& 1431655765)) &&& 858993459) + ((((x - (((x.toUInt32 >>> ((1 : Int32).toUInt32 &&& Int32.toUInt32 31)).toInt32) &&& 1431655765)).toUInt32 >>> ((2 : Int32).toUInt32 &&& Int32.toUInt32 31)).toInt32) &&& 858993459)).toUInt32 >>> ((4 : Int32).toUInt32 &&& Int32.toUInt32 31)).toInt32)) &&& 252645135))]) hx hb dJ6_bitCount_0f7a4_33 rfl hl (by decide) rfl (fun ls hl => ?_)
  refine lv_iload_n (pc := 34) hx hb dJ6_bitCount_0f7a4_34 rfl (lv_at hl 0 rfl) ?_
  refine lv_iload_n (pc := 35) hx hb dJ6_bitCount_0f7a4_35 rfl (lv_at hl 0 rfl) ?_
  refine lv_bipush (pc := 36) (v := 8) hx hb dJ6_bitCount_0f7a4_36 (by decide) ?_
  refine lv_iushr (pc := 38) hx hb dJ6_bitCount_0f7a4_38 rfl ?_
  refine lv_iadd (pc := 39) hx hb dJ6_bitCount_0f7a4_39 ?_
  refine lv_istore_n (pc := 40) (lv' := [(0, .int ((((((x - (((x.toUInt32 >>> ((1 : Int32).toUInt32 &&& Int32.toUInt32 31)).toInt32) &&& 1431655765)) &&& 858993459) + ((((x - (((x.toUInt32 >>> ((1 : Int32).toUInt32 &&& Int32.toUInt32 31)).toInt32) &&& 1431655765)).toUInt32 >>> ((2 : Int32).toUInt32 &&& Int32.toUInt32 31)).toInt32) &&& 858993459)) + (((((x - (((x.toUInt32 >>> ((1 : Int32).toUInt32 &&& Int32.toUInt32 31)).toInt32) &&& 1431655765)) &&& 858993459) + ((((x - (((x.toUInt32 >>> ((1 : Int32).toUInt32 &&& Int32.toUInt32 31)).toInt32) &&& 1431655765)).toUInt32 >>> ((2 : Int32).toUInt32 &&& Int32.toUInt32 31)).toInt32) &&& 858993459)).toUInt32 >>> ((4 : Int32).toUInt32 &&& Int32.toUInt32 31)).toInt32)) &&& 252645135) + (((((((x - (((x.toUInt32 >>> ((1 : Int32).toUInt32 &&& Int32.toUInt32 31)).toInt32) &&& 1431655765)) &&& 858993459) + ((((x - (((x.toUInt32 >>> ((1 : Int32).toUInt32 &&& Int32.toUInt32 31)).toInt32) &&& 1431655765)).toUInt32 >>> ((2 : Int32).toUInt32 &&& Int32.toUInt32 31)).toInt32) &&& 858993459)) + (((((x - (((x.toUInt32 >>> ((1 : Int32).toUInt32 &&& Int32.toUInt32 31)).toInt32) &&& 1431655765)) &&& 858993459) + ((((x - (((x.toUInt32 >>> ((1 : Int32).toUInt32 &&& Int32.toUInt32 31)).toInt32) &&& 1431655765)).toUInt32 >>> ((2 : Int32).toUInt32 &&& Int32.toUInt32 31)).toInt32) &&& 858993459)).toUInt32 >>> ((4 : Int32).toUInt32 &&& Int32.toUInt32 31)).toInt32)) &&& 252645135).toUInt32 >>> ((8 : Int32).toUInt32 &&& Int32.toUInt32 31)).toInt32)))]) hx hb dJ6_bitCount_0f7a4_40 rfl hl (by decide) rfl (fun ls hl => ?_)
  refine lv_iload_n (pc := 41) hx hb dJ6_bitCount_0f7a4_41 rfl (lv_at hl 0 rfl) ?_
  refine lv_iload_n (pc := 42) hx hb dJ6_bitCount_0f7a4_42 rfl (lv_at hl 0 rfl) ?_
  refine lv_bipush (pc := 43) (v := 16) hx hb dJ6_bitCount_0f7a4_43 (by decide) ?_
  refine lv_iushr (pc := 45) hx hb dJ6_bitCount_0f7a4_45 rfl ?_
  refine lv_iadd (pc := 46) hx hb dJ6_bitCount_0f7a4_46 ?_
  refine lv_istore_n (pc := 47) (lv' := [(0, .int (((((((x - (((x.toUInt32 >>> ((1 : Int32).toUInt32 &&& Int32.toUInt32 31)).toInt32) &&& 1431655765)) &&& 858993459) + ((((x - (((x.toUInt32 >>> ((1 : Int32).toUInt32 &&& Int32.toUInt32 31)).toInt32) &&& 1431655765)).toUInt32 >>> ((2 : Int32).toUInt32 &&& Int32.toUInt32 31)).toInt32) &&& 858993459)) + (((((x - (((x.toUInt32 >>> ((1 : Int32).toUInt32 &&& Int32.toUInt32 31)).toInt32) &&& 1431655765)) &&& 858993459) + ((((x - (((x.toUInt32 >>> ((1 : Int32).toUInt32 &&& Int32.toUInt32 31)).toInt32) &&& 1431655765)).toUInt32 >>> ((2 : Int32).toUInt32 &&& Int32.toUInt32 31)).toInt32) &&& 858993459)).toUInt32 >>> ((4 : Int32).toUInt32 &&& Int32.toUInt32 31)).toInt32)) &&& 252645135) + (((((((x - (((x.toUInt32 >>> ((1 : Int32).toUInt32 &&& Int32.toUInt32 31)).toInt32) &&& 1431655765)) &&& 858993459) + ((((x - (((x.toUInt32 >>> ((1 : Int32).toUInt32 &&& Int32.toUInt32 31)).toInt32) &&& 1431655765)).toUInt32 >>> ((2 : Int32).toUInt32 &&& Int32.toUInt32 31)).toInt32) &&& 858993459)) + (((((x - (((x.toUInt32 >>> ((1 : Int32).toUInt32 &&& Int32.toUInt32 31)).toInt32) &&& 1431655765)) &&& 858993459) + ((((x - (((x.toUInt32 >>> ((1 : Int32).toUInt32 &&& Int32.toUInt32 31)).toInt32) &&& 1431655765)).toUInt32 >>> ((2 : Int32).toUInt32 &&& Int32.toUInt32 31)).toInt32) &&& 858993459)).toUInt32 >>> ((4 : Int32).toUInt32 &&& Int32.toUInt32 31)).toInt32)) &&& 252645135).toUInt32 >>> ((8 : Int32).toUInt32 &&& Int32.toUInt32 31)).toInt32)) + ((((((((x - (((x.toUInt32 >>> ((1 : Int32).toUInt32 &&& Int32.toUInt32 31)).toInt32) &&& 1431655765)) &&& 858993459) + ((((x - (((x.toUInt32 >>> ((1 : Int32).toUInt32 &&& Int32.toUInt32 31)).toInt32) &&& 1431655765)).toUInt32 >>> ((2 : Int32).toUInt32 &&& Int32.toUInt32 31)).toInt32) &&& 858993459)) + (((((x - (((x.toUInt32 >>> ((1 : Int32).toUInt32 &&& Int32.toUInt32 31)).toInt32) &&& 1431655765)) &&& 858993459) + ((((x - (((x.toUInt32 >>> ((1 : Int32).toUInt32 &&& Int32.toUInt32 31)).toInt32) &&& 1431655765)).toUInt32 >>> ((2 : Int32).toUInt32 &&& Int32.toUInt32 31)).toInt32) &&& 858993459)).toUInt32 >>> ((4 : Int32).toUInt32 &&& Int32.toUInt32 31)).toInt32)) &&& 252645135) + (((((((x - (((x.toUInt32 >>> ((1 : Int32).toUInt32 &&& Int32.toUInt32 31)).toInt32) &&& 1431655765)) &&& 858993459) + ((((x - (((x.toUInt32 >>> ((1 : Int32).toUInt32 &&& Int32.toUInt32 31)).toInt32) &&& 1431655765)).toUInt32 >>> ((2 : Int32).toUInt32 &&& Int32.toUInt32 31)).toInt32) &&& 858993459)) + (((((x - (((x.toUInt32 >>> ((1 : Int32).toUInt32 &&& Int32.toUInt32 31)).toInt32) &&& 1431655765)) &&& 858993459) + ((((x - (((x.toUInt32 >>> ((1 : Int32).toUInt32 &&& Int32.toUInt32 31)).toInt32) &&& 1431655765)).toUInt32 >>> ((2 : Int32).toUInt32 &&& Int32.toUInt32 31)).toInt32) &&& 858993459)).toUInt32 >>> ((4 : Int32).toUInt32 &&& Int32.toUInt32 31)).toInt32)) &&& 252645135).toUInt32 >>> ((8 : Int32).toUInt32 &&& Int32.toUInt32 31)).toInt32)).toUInt32 >>> ((16 : Int32).toUInt32 &&& Int32.toUInt32 31)).toInt32)))]) hx hb dJ6_bitCount_0f7a4_47 rfl hl (by decide) rfl (fun ls hl => ?_)
  refine lv_iload_n (pc := 48) hx hb dJ6_bitCount_0f7a4_48 rfl (lv_at hl 0 rfl) ?_
  refine lv_bipush (pc := 49) (v := 63) hx hb dJ6_bitCount_0f7a4_49 (by decide) ?_
  refine lv_iand (pc := 51) hx hb dJ6_bitCount_0f7a4_51 ?_
  subst hQ
  exact b_retR hx hb hr hlocks (rfl) dJ6_bitCount_0f7a4_52
