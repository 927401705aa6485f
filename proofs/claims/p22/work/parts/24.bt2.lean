theorem b_pos_ne {x : Int32} (h : 0 < x) : ¬ x = 0 := fun q => absurd (q ▸ h) (by decide)
theorem b_60 {n k : Nat} (h : n ≤ 60) (hk : k ≤ 8) : (60 : Int32) < nI n + nI k ↔ 60 < n + k := by
  rw [nI_add]
  exact nI_ltI (a := 60) (b := n + k) (by omega) (by omega)
abbrev h_thr (f : Nat → Int32) (g : Nat) : Int32 := f (8 + g * 13 + 5) + f (8 + g * 13 + 6)
def h_mean (f : Nat → Int32) (g : Nat) : Int32 := if 0 < h_thr f g then h_tell f g 11 / h_thr f g else -6
def h_bus (f : Nat → Int32) : Nat → Int32 × Int32
  | 0 => (-6, 0)
  | k + 1 => if h_thr f k ≤ (h_bus f k).2 then h_bus f k else (nI k, h_thr f k)
abbrev h_left (f : Nat → Int32) (g : Nat) : Int32 := f 0 - (f 3 - f (8 + g * 13 + 1))
def h_ub (f : Nat → Int32) : Nat → Int32
  | 0 => -6
  | k + 1 => if ¬ f (8 + k * 13 + 0) = 0 then (if h_blk f k then h_ub f k else if h_ub f k = (-6) then h_left f k else if h_ub f k ≤ h_left f k then h_ub f k else h_left f k) else h_ub f k
abbrev h_abs (x : Int32) : Int32 := if 0 ≤ x then x else 0 - x
def h_evto (f : Nat → Int32) (g w : Nat) : Int32 :=
  if w = 2 then h_abs (f (8 + g * 13 + 2)) else
  if w = 0 then (if f (8 + g * 13 + 2) ≤ 0 then -6 else 4 - h_abs (f (8 + g * 13 + 2))) else
  (if f (8 + g * 13 + 2) ≤ 0 then 4 - h_abs (f (8 + g * 13 + 2)) else -6)

set_option maxHeartbeats 4000000 in
set_option maxRecDepth 100000 in
theorem c_X3_set_bad (l : Launch) (D : va_G) (cI cC cZ cG : ClassId) (ad : Nat → Nat) (f : Nat → Int32) (f2 : Nat → Int32) (tx : Nat → Int32) (n : Nat) (nx : Nat) (sn : Nat) (R : Nat → Nat → Int32) (SL : Nat → Nat → Int32) (sv : Nat → Int32) (x : Int32) (y : Int32) (hn60 : n ≤ 60) (hnx : nx < 6) (hsn : sn ≤ 6) (hbad : p_n3 x) : Met l yX3_set wsX3_set ({ frames := 0, cells := 0, slots := 0, locals := 0 } : Room) (b_R D (b_T cI cC cZ cG) [((ad 0), .inr (3, [.ref (ad 1), .ref (ad 3), .ref (ad 5), .ref (ad 7), .ref (ad 15), .ref (ad 18)])), ((ad 1), .inr (0, [.ref (ad 2)])), ((ad 2), .inl (cI, 86, .inl f)), ((ad 3), .inr (0, [.ref (ad 4)])), ((ad 4), .inl (cI, 86, .inl f2)), ((ad 5), .inr (2, [.ref (ad 6), .int (nI n)])), ((ad 6), .inl (cC, 60, .inl tx)), ((ad 7), .inr (1, [.ref (ad 8), .int (nI nx), .int (nI sn)])), ((ad 8), .inl (cG, 6, .inr (.inr (.inr (.inr (fun i => ([(ad 9), (ad 10), (ad 11), (ad 12), (ad 13), (ad 14)] : List Nat)[i]?)))))), ((ad 9), .inl (cI, 86, .inl (R 0))), ((ad 10), .inl (cI, 86, .inl (R 1))), ((ad 11), .inl (cI, 86, .inl (R 2))), ((ad 12), .inl (cI, 86, .inl (R 3))), ((ad 13), .inl (cI, 86, .inl (R 4))), ((ad 14), .inl (cI, 86, .inl (R 5))), ((ad 15), .inl (cG, 2, .inr (.inr (.inr (.inr (fun i => ([(ad 16), (ad 17)] : List Nat)[i]?)))))), ((ad 16), .inl (cI, 86, .inl (SL 0))), ((ad 17), .inl (cI, 86, .inl (SL 1))), ((ad 18), .inl (cZ, 2, .inl sv))] [.ref (ad 0), .int x, .int y]) (vp_Si (fun r => r = -2)) 0 0 (fun _ => False) := by
  refine b_enterR (cc := cX3_set) (maxL := 4) (ret := (some .int)) (by decide) rfl (Nat.le_of_ble_eq_true rfl) ?_
  intro p e s m below meth c ls hx hb hr hml hown hts hlocks hP hK hl Q hQ
  have hown : s.vm.findClass RX3 = some m.cls := hown
  have hl : lv_has ls 4 [(0, .ref (ad 0)), (1, .int x), (2, .int y)] := hl
  refine lv_iload_n (pc := 0) hx hb dX3_set_0 rfl (lv_at hl 1 rfl) ?_
  refine lv_if_lt (pc := 1) (tgt := 9) hx hb dX3_set_1 (by decide) (fun c_1 => ?_) (fun c_1 => ?_)
  · skip
    have c_1 : x < 0 := c_1
    refine lv_bipush (pc := 9) (v := (-2)) hx hb dX3_set_9 (by decide) ?_
    subst hQ
    exact b_retR hx hb hr hlocks (rfl) dX3_set_11
  · skip
    have c_1 : ¬ (x < 0) := c_1
    refine lv_iload_n (pc := 4) hx hb dX3_set_4 rfl (lv_at hl 1 rfl) ?_
    refine lv_iconst (pc := 5) (v := 3) hx hb dX3_set_5 (by decide) ?_
    refine lv_icmp_lt (pc := 6) (tgt := 12) hx hb dX3_set_6 (by decide) (fun c_2 => ?_) (fun c_2 => ?_)
    · skip
      have c_2 : x < 3 := c_2
      exact hbad.elim (fun q => absurd q c_1) (fun q => absurd c_2 q)
    · skip
      have c_2 : ¬ (x < 3) := c_2
      refine lv_bipush (pc := 9) (v := (-2)) hx hb dX3_set_9 (by decide) ?_
      subst hQ
      exact b_retR hx hb hr hlocks (rfl) dX3_set_11
theorem hw_X3_set_rng_0 : (.fieldLink RX3 42 "BeamTurnstiles" "LOWEST" "[I" : Cond) ∈ wsX3_set := by decide +kernel
theorem hw_X3_set_rng_1 : (.fieldLink RX3 46 "BeamTurnstiles" "HIGHEST" "[I" : Cond) ∈ wsX3_set := by decide +kernel
set_option maxHeartbeats 4000000 in
set_option maxRecDepth 100000 in
theorem c_X3_set_rng (l : Launch) (D : va_G) (cI cC cZ cG : ClassId) (tb lo hi : Nat) (sz : Nat) (ad : Nat → Nat) (f : Nat → Int32) (f2 : Nat → Int32) (tx : Nat → Int32) (n : Nat) (nx : Nat) (sn : Nat) (R : Nat → Nat → Int32) (SL : Nat → Nat → Int32) (sv : Nat → Int32) (s1 : Nat) (y : Int32) (hn60 : n ≤ 60) (hnx : nx < 6) (hsn : sn ≤ 6) (hs : s1 < 3) (hbad : y < b_lo s1 ∨ ¬ y ≤ b_hi s1) : Met l yX3_set wsX3_set ({ frames := 0, cells := 0, slots := 0, locals := 0 } : Room) (b_W D (b_T cI cC cZ cG) (b_X tb lo hi) [((ad 0), .inr (3, [.ref (ad 1), .ref (ad 3), .ref (ad 5), .ref (ad 7), .ref (ad 15), .ref (ad 18)])), ((ad 1), .inr (0, [.ref (ad 2)])), ((ad 2), .inl (cI, 86, .inl f)), ((ad 3), .inr (0, [.ref (ad 4)])), ((ad 4), .inl (cI, 86, .inl f2)), ((ad 5), .inr (2, [.ref (ad 6), .int (nI n)])), ((ad 6), .inl (cC, 60, .inl tx)), ((ad 7), .inr (1, [.ref (ad 8), .int (nI nx), .int (nI sn)])), ((ad 8), .inl (cG, 6, .inr (.inr (.inr (.inr (fun i => ([(ad 9), (ad 10), (ad 11), (ad 12), (ad 13), (ad 14)] : List Nat)[i]?)))))), ((ad 9), .inl (cI, 86, .inl (R 0))), ((ad 10), .inl (cI, 86, .inl (R 1))), ((ad 11), .inl (cI, 86, .inl (R 2))), ((ad 12), .inl (cI, 86, .inl (R 3))), ((ad 13), .inl (cI, 86, .inl (R 4))), ((ad 14), .inl (cI, 86, .inl (R 5))), ((ad 15), .inl (cG, 2, .inr (.inr (.inr (.inr (fun i => ([(ad 16), (ad 17)] : List Nat)[i]?)))))), ((ad 16), .inl (cI, 86, .inl (SL 0))), ((ad 17), .inl (cI, 86, .inl (SL 1))), ((ad 18), .inl (cZ, 2, .inl sv))] sz [.ref (ad 0), .int (nI s1), .int y]) (b_Qi D (-2) [((ad 0), .inr (3, [.ref (ad 1), .ref (ad 3), .ref (ad 5), .ref (ad 7), .ref (ad 15), .ref (ad 18)])), ((ad 1), .inr (0, [.ref (ad 2)])), ((ad 2), .inl (cI, 86, .inl f)), ((ad 3), .inr (0, [.ref (ad 4)])), ((ad 4), .inl (cI, 86, .inl f2)), ((ad 5), .inr (2, [.ref (ad 6), .int (nI n)])), ((ad 6), .inl (cC, 60, .inl tx)), ((ad 7), .inr (1, [.ref (ad 8), .int (nI nx), .int (nI sn)])), ((ad 8), .inl (cG, 6, .inr (.inr (.inr (.inr (fun i => ([(ad 9), (ad 10), (ad 11), (ad 12), (ad 13), (ad 14)] : List Nat)[i]?)))))), ((ad 9), .inl (cI, 86, .inl (R 0))), ((ad 10), .inl (cI, 86, .inl (R 1))), ((ad 11), .inl (cI, 86, .inl (R 2))), ((ad 12), .inl (cI, 86, .inl (R 3))), ((ad 13), .inl (cI, 86, .inl (R 4))), ((ad 14), .inl (cI, 86, .inl (R 5))), ((ad 15), .inl (cG, 2, .inr (.inr (.inr (.inr (fun i => ([(ad 16), (ad 17)] : List Nat)[i]?)))))), ((ad 16), .inl (cI, 86, .inl (SL 0))), ((ad 17), .inl (cI, 86, .inl (SL 1))), ((ad 18), .inl (cZ, 2, .inl sv))] (va_A [((ad 0), .inr (3, [.ref (ad 1), .ref (ad 3), .ref (ad 5), .ref (ad 7), .ref (ad 15), .ref (ad 18)])), ((ad 1), .inr (0, [.ref (ad 2)])), ((ad 2), .inl (cI, 86, .inl f)), ((ad 3), .inr (0, [.ref (ad 4)])), ((ad 4), .inl (cI, 86, .inl f2)), ((ad 5), .inr (2, [.ref (ad 6), .int (nI n)])), ((ad 6), .inl (cC, 60, .inl tx)), ((ad 7), .inr (1, [.ref (ad 8), .int (nI nx), .int (nI sn)])), ((ad 8), .inl (cG, 6, .inr (.inr (.inr (.inr (fun i => ([(ad 9), (ad 10), (ad 11), (ad 12), (ad 13), (ad 14)] : List Nat)[i]?)))))), ((ad 9), .inl (cI, 86, .inl (R 0))), ((ad 10), .inl (cI, 86, .inl (R 1))), ((ad 11), .inl (cI, 86, .inl (R 2))), ((ad 12), .inl (cI, 86, .inl (R 3))), ((ad 13), .inl (cI, 86, .inl (R 4))), ((ad 14), .inl (cI, 86, .inl (R 5))), ((ad 15), .inl (cG, 2, .inr (.inr (.inr (.inr (fun i => ([(ad 16), (ad 17)] : List Nat)[i]?)))))), ((ad 16), .inl (cI, 86, .inl (SL 0))), ((ad 17), .inl (cI, 86, .inl (SL 1))), ((ad 18), .inl (cZ, 2, .inl sv))] sz)) 0 0 (va_A [((ad 0), .inr (3, [.ref (ad 1), .ref (ad 3), .ref (ad 5), .ref (ad 7), .ref (ad 15), .ref (ad 18)])), ((ad 1), .inr (0, [.ref (ad 2)])), ((ad 2), .inl (cI, 86, .inl f)), ((ad 3), .inr (0, [.ref (ad 4)])), ((ad 4), .inl (cI, 86, .inl f2)), ((ad 5), .inr (2, [.ref (ad 6), .int (nI n)])), ((ad 6), .inl (cC, 60, .inl tx)), ((ad 7), .inr (1, [.ref (ad 8), .int (nI nx), .int (nI sn)])), ((ad 8), .inl (cG, 6, .inr (.inr (.inr (.inr (fun i => ([(ad 9), (ad 10), (ad 11), (ad 12), (ad 13), (ad 14)] : List Nat)[i]?)))))), ((ad 9), .inl (cI, 86, .inl (R 0))), ((ad 10), .inl (cI, 86, .inl (R 1))), ((ad 11), .inl (cI, 86, .inl (R 2))), ((ad 12), .inl (cI, 86, .inl (R 3))), ((ad 13), .inl (cI, 86, .inl (R 4))), ((ad 14), .inl (cI, 86, .inl (R 5))), ((ad 15), .inl (cG, 2, .inr (.inr (.inr (.inr (fun i => ([(ad 16), (ad 17)] : List Nat)[i]?)))))), ((ad 16), .inl (cI, 86, .inl (SL 0))), ((ad 17), .inl (cI, 86, .inl (SL 1))), ((ad 18), .inl (cZ, 2, .inl sv))] sz) := by
  refine b_enterW (Qc := fun A => b_Qi D (-2) [((ad 0), .inr (3, [.ref (ad 1), .ref (ad 3), .ref (ad 5), .ref (ad 7), .ref (ad 15), .ref (ad 18)])), ((ad 1), .inr (0, [.ref (ad 2)])), ((ad 2), .inl (cI, 86, .inl f)), ((ad 3), .inr (0, [.ref (ad 4)])), ((ad 4), .inl (cI, 86, .inl f2)), ((ad 5), .inr (2, [.ref (ad 6), .int (nI n)])), ((ad 6), .inl (cC, 60, .inl tx)), ((ad 7), .inr (1, [.ref (ad 8), .int (nI nx), .int (nI sn)])), ((ad 8), .inl (cG, 6, .inr (.inr (.inr (.inr (fun i => ([(ad 9), (ad 10), (ad 11), (ad 12), (ad 13), (ad 14)] : List Nat)[i]?)))))), ((ad 9), .inl (cI, 86, .inl (R 0))), ((ad 10), .inl (cI, 86, .inl (R 1))), ((ad 11), .inl (cI, 86, .inl (R 2))), ((ad 12), .inl (cI, 86, .inl (R 3))), ((ad 13), .inl (cI, 86, .inl (R 4))), ((ad 14), .inl (cI, 86, .inl (R 5))), ((ad 15), .inl (cG, 2, .inr (.inr (.inr (.inr (fun i => ([(ad 16), (ad 17)] : List Nat)[i]?)))))), ((ad 16), .inl (cI, 86, .inl (SL 0))), ((ad 17), .inl (cI, 86, .inl (SL 1))), ((ad 18), .inl (cZ, 2, .inl sv))] A) (cc := cX3_set) (maxL := 4) (ret := (some .int)) (by decide) rfl (Nat.le_of_ble_eq_true rfl) ?_
  intro p e s m below meth c ls A hx hb hr hml hown hts hlocks hname hP hK hD hA hS hX hl Q hQ
  have hown : s.vm.findClass RX3 = some m.cls := hown
  have hl : lv_has ls 4 [(0, .ref (ad 0)), (1, .int (nI s1)), (2, .int y)] := hl
  refine lv_iload_n (pc := 0) hx hb dX3_set_0 rfl (lv_at hl 1 rfl) ?_
  refine lv_if_lt (pc := 1) (tgt := 9) hx hb dX3_set_1 (by decide) (fun c_1 => ?_) (fun c_1 => ?_)
  · skip
    have c_1 : s1 < 0 := (nI_ltI (a := s1) (b := 0) (by omega) (by omega)).mp c_1
    exfalso; omega
  · skip
    have c_1 : ¬ (s1 < 0) := fun h9 => c_1 ((nI_ltI (a := s1) (b := 0) (by omega) (by omega)).mpr h9)
    refine lv_iload_n (pc := 4) hx hb dX3_set_4 rfl (lv_at hl 1 rfl) ?_
    refine lv_iconst (pc := 5) (v := 3) hx hb dX3_set_5 (by decide) ?_
    refine lv_icmp_lt (pc := 6) (tgt := 12) hx hb dX3_set_6 (by decide) (fun c_2 => ?_) (fun c_2 => ?_)
    · skip
      have c_2 : s1 < 3 := (nI_ltI (a := s1) (b := 3) (by omega) (by omega)).mp c_2
      refine lv_iload_n (pc := 12) hx hb dX3_set_12 rfl (lv_at hl 2 rfl) ?_
      refine va_gets (pc := 13) hx hb hX.2.1.1 hS hown (hts _ hw_X3_set_rng_0) (fun _ h9 => h9) dX3_set_13 ?_
      refine lv_iload_n (pc := 16) hx hb dX3_set_16 rfl (lv_at hl 1 rfl) ?_
      refine va_ti (pc := 17) (v := .int (b_lo s1)) hx hb hX.2.1.2 hS (vp_in_nI (n := s1) (by omega) (by decide)) (by rw [nI_clamp (by omega)]) dX3_set_17 ?_
      refine lv_icmp_lt (pc := 18) (tgt := 30) hx hb dX3_set_18 (by decide) (fun c_3 => ?_) (fun c_3 => ?_)
      · skip
        have c_3 : y < (b_lo s1) := c_3
        refine lv_bipush (pc := 30) (v := (-2)) hx hb dX3_set_30 (by decide) ?_
        subst hQ
        exact b_retW hx hb hr hlocks hS (rfl) (hP) dX3_set_32
      · skip
        have c_3 : ¬ (y < (b_lo s1)) := c_3
        refine lv_iload_n (pc := 21) hx hb dX3_set_21 rfl (lv_at hl 2 rfl) ?_
        refine va_gets (pc := 22) hx hb hX.2.2.1.1 hS hown (hts _ hw_X3_set_rng_1) (fun _ h9 => h9) dX3_set_22 ?_
        refine lv_iload_n (pc := 25) hx hb dX3_set_25 rfl (lv_at hl 1 rfl) ?_
        refine va_ti (pc := 26) (v := .int (b_hi s1)) hx hb hX.2.2.1.2 hS (vp_in_nI (n := s1) (by omega) (by decide)) (by rw [nI_clamp (by omega)]) dX3_set_26 ?_
        refine lv_icmp_le (pc := 27) (tgt := 33) hx hb dX3_set_27 (by decide) (fun c_4 => ?_) (fun c_4 => ?_)
        · skip
          have c_4 : y ≤ (b_hi s1) := c_4
          exact hbad.elim (fun q => absurd q c_3) (fun q => absurd c_4 q)
        · skip
          have c_4 : ¬ (y ≤ (b_hi s1)) := c_4
          refine lv_bipush (pc := 30) (v := (-2)) hx hb dX3_set_30 (by decide) ?_
          subst hQ
          exact b_retW hx hb hr hlocks hS (rfl) (hP) dX3_set_32
    · skip
      have c_2 : ¬ (s1 < 3) := fun h9 => c_2 ((nI_ltI (a := s1) (b := 3) (by omega) (by omega)).mpr h9)
      exfalso; omega
theorem hw_X3_set_ok_0 : (.fieldLink RX3 42 "BeamTurnstiles" "LOWEST" "[I" : Cond) ∈ wsX3_set := by decide +kernel
theorem hw_X3_set_ok_1 : (.fieldLink RX3 46 "BeamTurnstiles" "HIGHEST" "[I" : Cond) ∈ wsX3_set := by decide +kernel
theorem hw_X3_set_ok_2 : (.fieldLink RX3 29 "BeamTurnstiles" "history" "LBeamTurnstiles$History;" : Cond) ∈ wsX3_set := by decide +kernel
theorem hi_X3_set_ok_X3 : ∀ w ∈ wsX30, w ∈ wsX3_set := by decide +kernel
theorem hw_X3_set_ok_4 : (.fieldLink RX3 10 "BeamTurnstiles" "hall" "LBeamTurnstiles$Hall;" : Cond) ∈ wsX3_set := by decide +kernel
theorem hw_X3_set_ok_5 : (.fieldLink RX3 49 "BeamTurnstiles$Hall" "row" "[I" : Cond) ∈ wsX3_set := by decide +kernel
theorem hi_X3_set_ok_X0 : ∀ w ∈ wsX00, w ∈ wsX3_set := by decide +kernel
set_option maxHeartbeats 4000000 in
set_option maxRecDepth 100000 in
theorem c_X3_set_ok (l : Launch) (D : va_G) (cI cC cZ cG : ClassId) (tb lo hi : Nat) (sz : Nat) (ad : Nat → Nat) (f : Nat → Int32) (f2 : Nat → Int32) (tx : Nat → Int32) (n : Nat) (nx : Nat) (sn : Nat) (R : Nat → Nat → Int32) (SL : Nat → Nat → Int32) (sv : Nat → Int32) (s1 : Nat) (y : Int32) (hn60 : n ≤ 60) (hnx : nx < 6) (hsn : sn ≤ 6) (hs : s1 < 3) (h1 : ¬ y < b_lo s1) (h2 : y ≤ b_hi s1) : Met l yX3_set wsX3_set ({ frames := 3, cells := 0, slots := 0, locals := 72 } : Room) (b_W D (b_T cI cC cZ cG) (b_X tb lo hi) [((ad 0), .inr (3, [.ref (ad 1), .ref (ad 3), .ref (ad 5), .ref (ad 7), .ref (ad 15), .ref (ad 18)])), ((ad 1), .inr (0, [.ref (ad 2)])), ((ad 2), .inl (cI, 86, .inl f)), ((ad 3), .inr (0, [.ref (ad 4)])), ((ad 4), .inl (cI, 86, .inl f2)), ((ad 5), .inr (2, [.ref (ad 6), .int (nI n)])), ((ad 6), .inl (cC, 60, .inl tx)), ((ad 7), .inr (1, [.ref (ad 8), .int (nI nx), .int (nI sn)])), ((ad 8), .inl (cG, 6, .inr (.inr (.inr (.inr (fun i => ([(ad 9), (ad 10), (ad 11), (ad 12), (ad 13), (ad 14)] : List Nat)[i]?)))))), ((ad 9), .inl (cI, 86, .inl (R 0))), ((ad 10), .inl (cI, 86, .inl (R 1))), ((ad 11), .inl (cI, 86, .inl (R 2))), ((ad 12), .inl (cI, 86, .inl (R 3))), ((ad 13), .inl (cI, 86, .inl (R 4))), ((ad 14), .inl (cI, 86, .inl (R 5))), ((ad 15), .inl (cG, 2, .inr (.inr (.inr (.inr (fun i => ([(ad 16), (ad 17)] : List Nat)[i]?)))))), ((ad 16), .inl (cI, 86, .inl (SL 0))), ((ad 17), .inl (cI, 86, .inl (SL 1))), ((ad 18), .inl (cZ, 2, .inl sv))] sz [.ref (ad 0), .int (nI s1), .int y]) (b_Qi D (f s1) [((ad 0), .inr (3, [.ref (ad 1), .ref (ad 3), .ref (ad 5), .ref (ad 7), .ref (ad 15), .ref (ad 18)])), ((ad 1), .inr (0, [.ref (ad 2)])), ((ad 2), .inl (cI, 86, .inl (upd f s1 y))), ((ad 3), .inr (0, [.ref (ad 4)])), ((ad 4), .inl (cI, 86, .inl f2)), ((ad 5), .inr (2, [.ref (ad 6), .int (nI n)])), ((ad 6), .inl (cC, 60, .inl tx)), ((ad 7), .inr (1, [.ref (ad 8), .int (nI (h_nx nx)), .int (nI (h_sz sn))])), ((ad 8), .inl (cG, 6, .inr (.inr (.inr (.inr (fun i => ([(ad 9), (ad 10), (ad 11), (ad 12), (ad 13), (ad 14)] : List Nat)[i]?)))))), ((ad 9), .inl (cI, 86, .inl (va_up R nx (va_cpy f (R nx) 0 0 86) 0))), ((ad 10), .inl (cI, 86, .inl (va_up R nx (va_cpy f (R nx) 0 0 86) 1))), ((ad 11), .inl (cI, 86, .inl (va_up R nx (va_cpy f (R nx) 0 0 86) 2))), ((ad 12), .inl (cI, 86, .inl (va_up R nx (va_cpy f (R nx) 0 0 86) 3))), ((ad 13), .inl (cI, 86, .inl (va_up R nx (va_cpy f (R nx) 0 0 86) 4))), ((ad 14), .inl (cI, 86, .inl (va_up R nx (va_cpy f (R nx) 0 0 86) 5))), ((ad 15), .inl (cG, 2, .inr (.inr (.inr (.inr (fun i => ([(ad 16), (ad 17)] : List Nat)[i]?)))))), ((ad 16), .inl (cI, 86, .inl (SL 0))), ((ad 17), .inl (cI, 86, .inl (SL 1))), ((ad 18), .inl (cZ, 2, .inl sv))] (va_A [((ad 0), .inr (3, [.ref (ad 1), .ref (ad 3), .ref (ad 5), .ref (ad 7), .ref (ad 15), .ref (ad 18)])), ((ad 1), .inr (0, [.ref (ad 2)])), ((ad 2), .inl (cI, 86, .inl f)), ((ad 3), .inr (0, [.ref (ad 4)])), ((ad 4), .inl (cI, 86, .inl f2)), ((ad 5), .inr (2, [.ref (ad 6), .int (nI n)])), ((ad 6), .inl (cC, 60, .inl tx)), ((ad 7), .inr (1, [.ref (ad 8), .int (nI nx), .int (nI sn)])), ((ad 8), .inl (cG, 6, .inr (.inr (.inr (.inr (fun i => ([(ad 9), (ad 10), (ad 11), (ad 12), (ad 13), (ad 14)] : List Nat)[i]?)))))), ((ad 9), .inl (cI, 86, .inl (R 0))), ((ad 10), .inl (cI, 86, .inl (R 1))), ((ad 11), .inl (cI, 86, .inl (R 2))), ((ad 12), .inl (cI, 86, .inl (R 3))), ((ad 13), .inl (cI, 86, .inl (R 4))), ((ad 14), .inl (cI, 86, .inl (R 5))), ((ad 15), .inl (cG, 2, .inr (.inr (.inr (.inr (fun i => ([(ad 16), (ad 17)] : List Nat)[i]?)))))), ((ad 16), .inl (cI, 86, .inl (SL 0))), ((ad 17), .inl (cI, 86, .inl (SL 1))), ((ad 18), .inl (cZ, 2, .inl sv))] sz)) 0 0 (va_A [((ad 0), .inr (3, [.ref (ad 1), .ref (ad 3), .ref (ad 5), .ref (ad 7), .ref (ad 15), .ref (ad 18)])), ((ad 1), .inr (0, [.ref (ad 2)])), ((ad 2), .inl (cI, 86, .inl f)), ((ad 3), .inr (0, [.ref (ad 4)])), ((ad 4), .inl (cI, 86, .inl f2)), ((ad 5), .inr (2, [.ref (ad 6), .int (nI n)])), ((ad 6), .inl (cC, 60, .inl tx)), ((ad 7), .inr (1, [.ref (ad 8), .int (nI nx), .int (nI sn)])), ((ad 8), .inl (cG, 6, .inr (.inr (.inr (.inr (fun i => ([(ad 9), (ad 10), (ad 11), (ad 12), (ad 13), (ad 14)] : List Nat)[i]?)))))), ((ad 9), .inl (cI, 86, .inl (R 0))), ((ad 10), .inl (cI, 86, .inl (R 1))), ((ad 11), .inl (cI, 86, .inl (R 2))), ((ad 12), .inl (cI, 86, .inl (R 3))), ((ad 13), .inl (cI, 86, .inl (R 4))), ((ad 14), .inl (cI, 86, .inl (R 5))), ((ad 15), .inl (cG, 2, .inr (.inr (.inr (.inr (fun i => ([(ad 16), (ad 17)] : List Nat)[i]?)))))), ((ad 16), .inl (cI, 86, .inl (SL 0))), ((ad 17), .inl (cI, 86, .inl (SL 1))), ((ad 18), .inl (cZ, 2, .inl sv))] sz) := by
  refine b_enterW (Qc := fun A => b_Qi D (f s1) [((ad 0), .inr (3, [.ref (ad 1), .ref (ad 3), .ref (ad 5), .ref (ad 7), .ref (ad 15), .ref (ad 18)])), ((ad 1), .inr (0, [.ref (ad 2)])), ((ad 2), .inl (cI, 86, .inl (upd f s1 y))), ((ad 3), .inr (0, [.ref (ad 4)])), ((ad 4), .inl (cI, 86, .inl f2)), ((ad 5), .inr (2, [.ref (ad 6), .int (nI n)])), ((ad 6), .inl (cC, 60, .inl tx)), ((ad 7), .inr (1, [.ref (ad 8), .int (nI (h_nx nx)), .int (nI (h_sz sn))])), ((ad 8), .inl (cG, 6, .inr (.inr (.inr (.inr (fun i => ([(ad 9), (ad 10), (ad 11), (ad 12), (ad 13), (ad 14)] : List Nat)[i]?)))))), ((ad 9), .inl (cI, 86, .inl (va_up R nx (va_cpy f (R nx) 0 0 86) 0))), ((ad 10), .inl (cI, 86, .inl (va_up R nx (va_cpy f (R nx) 0 0 86) 1))), ((ad 11), .inl (cI, 86, .inl (va_up R nx (va_cpy f (R nx) 0 0 86) 2))), ((ad 12), .inl (cI, 86, .inl (va_up R nx (va_cpy f (R nx) 0 0 86) 3))), ((ad 13), .inl (cI, 86, .inl (va_up R nx (va_cpy f (R nx) 0 0 86) 4))), ((ad 14), .inl (cI, 86, .inl (va_up R nx (va_cpy f (R nx) 0 0 86) 5))), ((ad 15), .inl (cG, 2, .inr (.inr (.inr (.inr (fun i => ([(ad 16), (ad 17)] : List Nat)[i]?)))))), ((ad 16), .inl (cI, 86, .inl (SL 0))), ((ad 17), .inl (cI, 86, .inl (SL 1))), ((ad 18), .inl (cZ, 2, .inl sv))] A) (cc := cX3_set) (maxL := 4) (ret := (some .int)) (by decide) rfl (Nat.le_of_ble_eq_true rfl) ?_
  intro p e s m below meth c ls A hx hb hr hml hown hts hlocks hname hP hK hD hA hS hX hl Q hQ
  have hown : s.vm.findClass RX3 = some m.cls := hown
  have hl : lv_has ls 4 [(0, .ref (ad 0)), (1, .int (nI s1)), (2, .int y)] := hl
  refine lv_iload_n (pc := 0) hx hb dX3_set_0 rfl (lv_at hl 1 rfl) ?_
  refine lv_if_lt (pc := 1) (tgt := 9) hx hb dX3_set_1 (by decide) (fun c_1 => ?_) (fun c_1 => ?_)
  · skip
    have c_1 : s1 < 0 := (nI_ltI (a := s1) (b := 0) (by omega) (by omega)).mp c_1
    exfalso; omega
  · skip
    have c_1 : ¬ (s1 < 0) := fun h9 => c_1 ((nI_ltI (a := s1) (b := 0) (by omega) (by omega)).mpr h9)
    refine lv_iload_n (pc := 4) hx hb dX3_set_4 rfl (lv_at hl 1 rfl) ?_
    refine lv_iconst (pc := 5) (v := 3) hx hb dX3_set_5 (by decide) ?_
    refine lv_icmp_lt (pc := 6) (tgt := 12) hx hb dX3_set_6 (by decide) (fun c_2 => ?_) (fun c_2 => ?_)
    · skip
      have c_2 : s1 < 3 := (nI_ltI (a := s1) (b := 3) (by omega) (by omega)).mp c_2
      refine lv_iload_n (pc := 12) hx hb dX3_set_12 rfl (lv_at hl 2 rfl) ?_
      refine va_gets (pc := 13) hx hb hX.2.1.1 hS hown (hts _ hw_X3_set_ok_0) (fun _ h9 => h9) dX3_set_13 ?_
      refine lv_iload_n (pc := 16) hx hb dX3_set_16 rfl (lv_at hl 1 rfl) ?_
      refine va_ti (pc := 17) (v := .int (b_lo s1)) hx hb hX.2.1.2 hS (vp_in_nI (n := s1) (by omega) (by decide)) (by rw [nI_clamp (by omega)]) dX3_set_17 ?_
      refine lv_icmp_lt (pc := 18) (tgt := 30) hx hb dX3_set_18 (by decide) (fun c_3 => ?_) (fun c_3 => ?_)
      · skip
        have c_3 : y < (b_lo s1) := c_3
        exact absurd c_3 h1
      · skip
        have c_3 : ¬ (y < (b_lo s1)) := c_3
        refine lv_iload_n (pc := 21) hx hb dX3_set_21 rfl (lv_at hl 2 rfl) ?_
        refine va_gets (pc := 22) hx hb hX.2.2.1.1 hS hown (hts _ hw_X3_set_ok_1) (fun _ h9 => h9) dX3_set_22 ?_
        refine lv_iload_n (pc := 25) hx hb dX3_set_25 rfl (lv_at hl 1 rfl) ?_
        refine va_ti (pc := 26) (v := .int (b_hi s1)) hx hb hX.2.2.1.2 hS (vp_in_nI (n := s1) (by omega) (by decide)) (by rw [nI_clamp (by omega)]) dX3_set_26 ?_
        refine lv_icmp_le (pc := 27) (tgt := 33) hx hb dX3_set_27 (by decide) (fun c_4 => ?_) (fun c_4 => ?_)
        · skip
          have c_4 : y ≤ (b_hi s1) := c_4
          refine lv_aload_n (pc := 33) hx hb dX3_set_33 rfl (lv_at hl 0 rfl) ?_
          refine va_get (pc := 34) (D := D) (ci := 3) (v := .ref (ad 7)) (C := RX3) (T := TX3) (N := 6) hx hb hts hi_X3_set_ok_X3 hown hK hP 0 rfl rfl 3 (by decide) (hts _ hw_X3_set_ok_2) (fun _ h9 => h9) rfl dX3_set_34 ?_
          refine lv_aload_n (pc := 37) hx hb dX3_set_37 rfl (lv_at hl 0 rfl) ?_
          refine va_get (pc := 38) (D := D) (ci := 3) (v := .ref (ad 1)) (C := RX3) (T := TX3) (N := 6) hx hb hts hi_X3_set_ok_X3 hown hK hP 0 rfl rfl 0 (by decide) (hts _ hw_X3_set_ok_4) (fun _ h9 => h9) rfl dX3_set_38 ?_
          refine va_get (pc := 41) (D := D) (ci := 0) (v := .ref (ad 2)) (C := RX0) (T := TX0) (N := 1) hx hb hts hi_X3_set_ok_X0 hown hK hP 1 rfl rfl 0 (by decide) (hts _ hw_X3_set_ok_5) (fun _ h9 => h9) rfl dX3_set_41 ?_
          refine b_cV (pc := 44) (w1 := [((ad 7), .inr (1, [.ref (ad 8), .int (nI (h_nx nx)), .int (nI (h_sz sn))])), ((ad 8), .inl (cG, 6, .inr (.inr (.inr (.inr (fun i => ([(ad 9), (ad 10), (ad 11), (ad 12), (ad 13), (ad 14)] : List Nat)[i]?)))))), ((ad 9), .inl (cI, 86, .inl (va_up R nx (va_cpy f (R nx) 0 0 86) 0))), ((ad 10), .inl (cI, 86, .inl (va_up R nx (va_cpy f (R nx) 0 0 86) 1))), ((ad 11), .inl (cI, 86, .inl (va_up R nx (va_cpy f (R nx) 0 0 86) 2))), ((ad 12), .inl (cI, 86, .inl (va_up R nx (va_cpy f (R nx) 0 0 86) 3))), ((ad 13), .inl (cI, 86, .inl (va_up R nx (va_cpy f (R nx) 0 0 86) 4))), ((ad 14), .inl (cI, 86, .inl (va_up R nx (va_cpy f (R nx) 0 0 86) 5))), ((ad 2), .inl (cI, 86, .inl f))]) (va_runV (As := [.ref (ad 2)]) (rest := []) ⟨hx, hb, hml, hown, hts⟩ (c_X1_keep l D cI cC cZ cG tb lo hi s.heap.size (ad 7) (ad 8) (ad 9) (ad 10) (ad 11) (ad 12) (ad 13) (ad 14) nx sn R (ad 2) f (by omega) (by omega)) (cwV 1 hts gX3_set_X1_keep rfl rfl rfl hy_X1_keep ⟨Nat.le_of_ble_eq_true rfl, Nat.le_of_ble_eq_true rfl⟩) (b_pWV (wc := [((ad 7), .inr (1, [.ref (ad 8), .int (nI nx), .int (nI sn)])), ((ad 8), .inl (cG, 6, .inr (.inr (.inr (.inr (fun i => ([(ad 9), (ad 10), (ad 11), (ad 12), (ad 13), (ad 14)] : List Nat)[i]?)))))), ((ad 9), .inl (cI, 86, .inl (R 0))), ((ad 10), .inl (cI, 86, .inl (R 1))), ((ad 11), .inl (cI, 86, .inl (R 2))), ((ad 12), .inl (cI, 86, .inl (R 3))), ((ad 13), .inl (cI, 86, .inl (R 4))), ((ad 14), .inl (cI, 86, .inl (R 5))), ((ad 2), .inl (cI, 86, .inl f))]) hK hP hD (b_Xok_X tb lo hi) [7, 8, 9, 10, 11, 12, 13, 14, 2] rfl (by decide) rfl (b_Xc hX hD hS hA [7, 8, 9, 10, 11, 12, 13, 14, 2] rfl) (ci := 1) (q0 := 0) rfl rfl) rfl rfl hl.1 rfl (lv_room (Nat.le_of_ble_eq_true rfl)) dX3_set_44 ⟨Nat.zero_le _, Nat.zero_le _⟩) hP hD hS hA [7, 8, 9, 10, 11, 12, 13, 14, 2] rfl rfl (fun H locs hP hD hS => ?_)
          have hP : va_P D vwCl [((ad 0), .inr (3, [.ref (ad 1), .ref (ad 3), .ref (ad 5), .ref (ad 7), .ref (ad 15), .ref (ad 18)])), ((ad 1), .inr (0, [.ref (ad 2)])), ((ad 2), .inl (cI, 86, .inl f)), ((ad 3), .inr (0, [.ref (ad 4)])), ((ad 4), .inl (cI, 86, .inl f2)), ((ad 5), .inr (2, [.ref (ad 6), .int (nI n)])), ((ad 6), .inl (cC, 60, .inl tx)), ((ad 7), .inr (1, [.ref (ad 8), .int (nI (h_nx nx)), .int (nI (h_sz sn))])), ((ad 8), .inl (cG, 6, .inr (.inr (.inr (.inr (fun i => ([(ad 9), (ad 10), (ad 11), (ad 12), (ad 13), (ad 14)] : List Nat)[i]?)))))), ((ad 9), .inl (cI, 86, .inl (va_up R nx (va_cpy f (R nx) 0 0 86) 0))), ((ad 10), .inl (cI, 86, .inl (va_up R nx (va_cpy f (R nx) 0 0 86) 1))), ((ad 11), .inl (cI, 86, .inl (va_up R nx (va_cpy f (R nx) 0 0 86) 2))), ((ad 12), .inl (cI, 86, .inl (va_up R nx (va_cpy f (R nx) 0 0 86) 3))), ((ad 13), .inl (cI, 86, .inl (va_up R nx (va_cpy f (R nx) 0 0 86) 4))), ((ad 14), .inl (cI, 86, .inl (va_up R nx (va_cpy f (R nx) 0 0 86) 5))), ((ad 15), .inl (cG, 2, .inr (.inr (.inr (.inr (fun i => ([(ad 16), (ad 17)] : List Nat)[i]?)))))), ((ad 16), .inl (cI, 86, .inl (SL 0))), ((ad 17), .inl (cI, 86, .inl (SL 1))), ((ad 18), .inl (cZ, 2, .inl sv))] H := hP
          have hD : va_D A [((ad 0), .inr (3, [.ref (ad 1), .ref (ad 3), .ref (ad 5), .ref (ad 7), .ref (ad 15), .ref (ad 18)])), ((ad 1), .inr (0, [.ref (ad 2)])), ((ad 2), .inl (cI, 86, .inl f)), ((ad 3), .inr (0, [.ref (ad 4)])), ((ad 4), .inl (cI, 86, .inl f2)), ((ad 5), .inr (2, [.ref (ad 6), .int (nI n)])), ((ad 6), .inl (cC, 60, .inl tx)), ((ad 7), .inr (1, [.ref (ad 8), .int (nI (h_nx nx)), .int (nI (h_sz sn))])), ((ad 8), .inl (cG, 6, .inr (.inr (.inr (.inr (fun i => ([(ad 9), (ad 10), (ad 11), (ad 12), (ad 13), (ad 14)] : List Nat)[i]?)))))), ((ad 9), .inl (cI, 86, .inl (va_up R nx (va_cpy f (R nx) 0 0 86) 0))), ((ad 10), .inl (cI, 86, .inl (va_up R nx (va_cpy f (R nx) 0 0 86) 1))), ((ad 11), .inl (cI, 86, .inl (va_up R nx (va_cpy f (R nx) 0 0 86) 2))), ((ad 12), .inl (cI, 86, .inl (va_up R nx (va_cpy f (R nx) 0 0 86) 3))), ((ad 13), .inl (cI, 86, .inl (va_up R nx (va_cpy f (R nx) 0 0 86) 4))), ((ad 14), .inl (cI, 86, .inl (va_up R nx (va_cpy f (R nx) 0 0 86) 5))), ((ad 15), .inl (cG, 2, .inr (.inr (.inr (.inr (fun i => ([(ad 16), (ad 17)] : List Nat)[i]?)))))), ((ad 16), .inl (cI, 86, .inl (SL 0))), ((ad 17), .inl (cI, 86, .inl (SL 1))), ((ad 18), .inl (cZ, 2, .inl sv))] := hD
          refine lv_aload_n (pc := 47) hx hb dX3_set_47 rfl (lv_at hl 0 rfl) ?_
          refine va_get (pc := 48) (D := D) (ci := 3) (v := .ref (ad 1)) (C := RX3) (T := TX3) (N := 6) hx hb hts hi_X3_set_ok_X3 hown hK hP 0 rfl rfl 0 (by decide) (hts _ hw_X3_set_ok_4) (fun _ h9 => h9) rfl dX3_set_48 ?_
          refine va_get (pc := 51) (D := D) (ci := 0) (v := .ref (ad 2)) (C := RX0) (T := TX0) (N := 1) hx hb hts hi_X3_set_ok_X0 hown hK hP 1 rfl rfl 0 (by decide) (hts _ hw_X3_set_ok_5) (fun _ h9 => h9) rfl dX3_set_51 ?_
          refine lv_iload_n (pc := 54) hx hb dX3_set_54 rfl (lv_at hl 1 rfl) ?_
          refine b_iald (pc := 55) hx hb hK hP 2 0 rfl rfl s1 rfl (by omega) (by decide) dX3_set_55 ?_
          refine lv_istore_n (pc := 56) (lv' := [(3, .int (f s1)), (0, .ref (ad 0)), (1, .int (nI s1)), (2, .int y)]) hx hb dX3_set_56 rfl hl (by decide) rfl (fun ls hl => ?_)
          refine lv_aload_n (pc := 57) hx hb dX3_set_57 rfl (lv_at hl 1 rfl) ?_
          refine va_get (pc := 58) (D := D) (ci := 3) (v := .ref (ad 1)) (C := RX3) (T := TX3) (N := 6) hx hb hts hi_X3_set_ok_X3 hown hK hP 0 rfl rfl 0 (by decide) (hts _ hw_X3_set_ok_4) (fun _ h9 => h9) rfl dX3_set_58 ?_
          refine va_get (pc := 61) (D := D) (ci := 0) (v := .ref (ad 2)) (C := RX0) (T := TX0) (N := 1) hx hb hts hi_X3_set_ok_X0 hown hK hP 1 rfl rfl 0 (by decide) (hts _ hw_X3_set_ok_5) (fun _ h9 => h9) rfl dX3_set_61 ?_
          refine lv_iload_n (pc := 64) hx hb dX3_set_64 rfl (lv_at hl 2 rfl) ?_
          refine lv_iload_n (pc := 65) hx hb dX3_set_65 rfl (lv_at hl 3 rfl) ?_
          refine b_iast (pc := 66) hx hb hK hP hD hS 2 0 rfl rfl s1 rfl (by omega) (by decide) dX3_set_66 (fun H locs hP hD hS => ?_)
          obtain ⟨f_5, ef_5⟩ : ∃ z9 : Nat → Int32, z9 = upd f s1 y := ⟨_, rfl⟩
          have hP : va_P D vwCl [((ad 0), .inr (3, [.ref (ad 1), .ref (ad 3), .ref (ad 5), .ref (ad 7), .ref (ad 15), .ref (ad 18)])), ((ad 1), .inr (0, [.ref (ad 2)])), ((ad 2), .inl (cI, 86, .inl f_5)), ((ad 3), .inr (0, [.ref (ad 4)])), ((ad 4), .inl (cI, 86, .inl f2)), ((ad 5), .inr (2, [.ref (ad 6), .int (nI n)])), ((ad 6), .inl (cC, 60, .inl tx)), ((ad 7), .inr (1, [.ref (ad 8), .int (nI (h_nx nx)), .int (nI (h_sz sn))])), ((ad 8), .inl (cG, 6, .inr (.inr (.inr (.inr (fun i => ([(ad 9), (ad 10), (ad 11), (ad 12), (ad 13), (ad 14)] : List Nat)[i]?)))))), ((ad 9), .inl (cI, 86, .inl (va_up R nx (va_cpy f (R nx) 0 0 86) 0))), ((ad 10), .inl (cI, 86, .inl (va_up R nx (va_cpy f (R nx) 0 0 86) 1))), ((ad 11), .inl (cI, 86, .inl (va_up R nx (va_cpy f (R nx) 0 0 86) 2))), ((ad 12), .inl (cI, 86, .inl (va_up R nx (va_cpy f (R nx) 0 0 86) 3))), ((ad 13), .inl (cI, 86, .inl (va_up R nx (va_cpy f (R nx) 0 0 86) 4))), ((ad 14), .inl (cI, 86, .inl (va_up R nx (va_cpy f (R nx) 0 0 86) 5))), ((ad 15), .inl (cG, 2, .inr (.inr (.inr (.inr (fun i => ([(ad 16), (ad 17)] : List Nat)[i]?)))))), ((ad 16), .inl (cI, 86, .inl (SL 0))), ((ad 17), .inl (cI, 86, .inl (SL 1))), ((ad 18), .inl (cZ, 2, .inl sv))] H := by rw [ef_5]; exact hP
          have hD : va_D A [((ad 0), .inr (3, [.ref (ad 1), .ref (ad 3), .ref (ad 5), .ref (ad 7), .ref (ad 15), .ref (ad 18)])), ((ad 1), .inr (0, [.ref (ad 2)])), ((ad 2), .inl (cI, 86, .inl f_5)), ((ad 3), .inr (0, [.ref (ad 4)])), ((ad 4), .inl (cI, 86, .inl f2)), ((ad 5), .inr (2, [.ref (ad 6), .int (nI n)])), ((ad 6), .inl (cC, 60, .inl tx)), ((ad 7), .inr (1, [.ref (ad 8), .int (nI (h_nx nx)), .int (nI (h_sz sn))])), ((ad 8), .inl (cG, 6, .inr (.inr (.inr (.inr (fun i => ([(ad 9), (ad 10), (ad 11), (ad 12), (ad 13), (ad 14)] : List Nat)[i]?)))))), ((ad 9), .inl (cI, 86, .inl (va_up R nx (va_cpy f (R nx) 0 0 86) 0))), ((ad 10), .inl (cI, 86, .inl (va_up R nx (va_cpy f (R nx) 0 0 86) 1))), ((ad 11), .inl (cI, 86, .inl (va_up R nx (va_cpy f (R nx) 0 0 86) 2))), ((ad 12), .inl (cI, 86, .inl (va_up R nx (va_cpy f (R nx) 0 0 86) 3))), ((ad 13), .inl (cI, 86, .inl (va_up R nx (va_cpy f (R nx) 0 0 86) 4))), ((ad 14), .inl (cI, 86, .inl (va_up R nx (va_cpy f (R nx) 0 0 86) 5))), ((ad 15), .inl (cG, 2, .inr (.inr (.inr (.inr (fun i => ([(ad 16), (ad 17)] : List Nat)[i]?)))))), ((ad 16), .inl (cI, 86, .inl (SL 0))), ((ad 17), .inl (cI, 86, .inl (SL 1))), ((ad 18), .inl (cZ, 2, .inl sv))] := by rw [ef_5]; exact hD
          refine lv_iload_n (pc := 67) hx hb dX3_set_67 rfl (lv_at hl 0 rfl) ?_
          subst ef_5
          subst hQ
          exact b_retW hx hb hr hlocks hS (rfl) (hP) dX3_set_68
        · skip
          have c_4 : ¬ (y ≤ (b_hi s1)) := c_4
          exact absurd h2 c_4
    · skip
      have c_2 : ¬ (s1 < 3) := fun h9 => c_2 ((nI_ltI (a := s1) (b := 3) (by omega) (by omega)).mpr h9)
      exfalso; omega
set_option maxHeartbeats 4000000 in
set_option maxRecDepth 100000 in
theorem c_X3_event_ng (l : Launch) (D : va_G) (cI cC cZ cG : ClassId) (ad : Nat → Nat) (f : Nat → Int32) (f2 : Nat → Int32) (tx : Nat → Int32) (n : Nat) (nx : Nat) (sn : Nat) (R : Nat → Nat → Int32) (SL : Nat → Nat → Int32) (sv : Nat → Int32) (x : Int32) (y : Int32) (hn60 : n ≤ 60) (hnx : nx < 6) (hsn : sn ≤ 6) (hbad : p_ng x) : Met l yX3_event wsX3_event ({ frames := 1, cells := 0, slots := 0, locals := 20 } : Room) (b_R D (b_T cI cC cZ cG) [((ad 0), .inr (3, [.ref (ad 1), .ref (ad 3), .ref (ad 5), .ref (ad 7), .ref (ad 15), .ref (ad 18)])), ((ad 1), .inr (0, [.ref (ad 2)])), ((ad 2), .inl (cI, 86, .inl f)), ((ad 3), .inr (0, [.ref (ad 4)])), ((ad 4), .inl (cI, 86, .inl f2)), ((ad 5), .inr (2, [.ref (ad 6), .int (nI n)])), ((ad 6), .inl (cC, 60, .inl tx)), ((ad 7), .inr (1, [.ref (ad 8), .int (nI nx), .int (nI sn)])), ((ad 8), .inl (cG, 6, .inr (.inr (.inr (.inr (fun i => ([(ad 9), (ad 10), (ad 11), (ad 12), (ad 13), (ad 14)] : List Nat)[i]?)))))), ((ad 9), .inl (cI, 86, .inl (R 0))), ((ad 10), .inl (cI, 86, .inl (R 1))), ((ad 11), .inl (cI, 86, .inl (R 2))), ((ad 12), .inl (cI, 86, .inl (R 3))), ((ad 13), .inl (cI, 86, .inl (R 4))), ((ad 14), .inl (cI, 86, .inl (R 5))), ((ad 15), .inl (cG, 2, .inr (.inr (.inr (.inr (fun i => ([(ad 16), (ad 17)] : List Nat)[i]?)))))), ((ad 16), .inl (cI, 86, .inl (SL 0))), ((ad 17), .inl (cI, 86, .inl (SL 1))), ((ad 18), .inl (cZ, 2, .inl sv))] [.ref (ad 0), .int x, .int y]) (vp_Si (fun r => r = -1)) 0 0 (fun _ => False) := by
  refine b_enterR (cc := cX3_event) (maxL := 3) (ret := (some .int)) (by decide) rfl (Nat.le_of_ble_eq_true rfl) ?_
  intro p e s m below meth c ls hx hb hr hml hown hts hlocks hP hK hl Q hQ
  have hown : s.vm.findClass RX3 = some m.cls := hown
  have hl : lv_has ls 3 [(0, .ref (ad 0)), (1, .int x), (2, .int y)] := hl
  refine lv_iload_n (pc := 0) hx hb dX3_event_0 rfl (lv_at hl 1 rfl) ?_
  refine b_cR (pc := 1) (va_runS (As := [.int x]) (rest := []) ⟨hx, hb, hml, hown, hts⟩ (c_X3_isNoGate l D cI cC cZ cG x) (va_cwS 1 hts gX3_event_X3_isNoGate rfl rfl rfl hyS_X3_isNoGate ⟨Nat.le_of_ble_eq_true rfl, Nat.le_of_ble_eq_true rfl⟩) (b_pRS (wc := []) hK hP [] rfl) rfl rfl hl.1 rfl (lv_room (Nat.le_of_ble_eq_true rfl)) dX3_event_1 ⟨Nat.zero_le _, Nat.zero_le _⟩) ?_
  refine lv_if_eq (pc := 4) (tgt := 9) hx hb dX3_event_4 (by decide) (fun c_1 => ?_) (fun c_1 => ?_)
  · skip
    have c_1 : ¬ (p_ng x) := b_i_0.mp c_1
    exact absurd hbad c_1
  · skip
    have c_1 : p_ng x := Classical.not_not.mp (fun h9 => c_1 (b_i_0.mpr h9))
    refine lv_iconst (pc := 7) (v := (-1)) hx hb dX3_event_7 (by decide) ?_
    subst hQ
    exact b_retR hx hb hr hlocks (rfl) dX3_event_8
set_option maxHeartbeats 4000000 in
set_option maxRecDepth 100000 in
theorem c_X3_event_bb (l : Launch) (D : va_G) (cI cC cZ cG : ClassId) (ad : Nat → Nat) (f : Nat → Int32) (f2 : Nat → Int32) (tx : Nat → Int32) (n : Nat) (nx : Nat) (sn : Nat) (R : Nat → Nat → Int32) (SL : Nat → Nat → Int32) (sv : Nat → Int32) (g : Nat) (y : Int32) (hn60 : n ≤ 60) (hnx : nx < 6) (hsn : sn ≤ 6) (hg : g < 6) (hbad : p_n3 y) : Met l yX3_event wsX3_event ({ frames := 1, cells := 0, slots := 0, locals := 20 } : Room) (b_R D (b_T cI cC cZ cG) [((ad 0), .inr (3, [.ref (ad 1), .ref (ad 3), .ref (ad 5), .ref (ad 7), .ref (ad 15), .ref (ad 18)])), ((ad 1), .inr (0, [.ref (ad 2)])), ((ad 2), .inl (cI, 86, .inl f)), ((ad 3), .inr (0, [.ref (ad 4)])), ((ad 4), .inl (cI, 86, .inl f2)), ((ad 5), .inr (2, [.ref (ad 6), .int (nI n)])), ((ad 6), .inl (cC, 60, .inl tx)), ((ad 7), .inr (1, [.ref (ad 8), .int (nI nx), .int (nI sn)])), ((ad 8), .inl (cG, 6, .inr (.inr (.inr (.inr (fun i => ([(ad 9), (ad 10), (ad 11), (ad 12), (ad 13), (ad 14)] : List Nat)[i]?)))))), ((ad 9), .inl (cI, 86, .inl (R 0))), ((ad 10), .inl (cI, 86, .inl (R 1))), ((ad 11), .inl (cI, 86, .inl (R 2))), ((ad 12), .inl (cI, 86, .inl (R 3))), ((ad 13), .inl (cI, 86, .inl (R 4))), ((ad 14), .inl (cI, 86, .inl (R 5))), ((ad 15), .inl (cG, 2, .inr (.inr (.inr (.inr (fun i => ([(ad 16), (ad 17)] : List Nat)[i]?)))))), ((ad 16), .inl (cI, 86, .inl (SL 0))), ((ad 17), .inl (cI, 86, .inl (SL 1))), ((ad 18), .inl (cZ, 2, .inl sv))] [.ref (ad 0), .int (nI g), .int y]) (vp_Si (fun r => r = -2)) 0 0 (fun _ => False) := by
  refine b_enterR (cc := cX3_event) (maxL := 3) (ret := (some .int)) (by decide) rfl (Nat.le_of_ble_eq_true rfl) ?_
  intro p e s m below meth c ls hx hb hr hml hown hts hlocks hP hK hl Q hQ
  have hown : s.vm.findClass RX3 = some m.cls := hown
  have hl : lv_has ls 3 [(0, .ref (ad 0)), (1, .int (nI g)), (2, .int y)] := hl
  refine lv_iload_n (pc := 0) hx hb dX3_event_0 rfl (lv_at hl 1 rfl) ?_
  refine b_cR (pc := 1) (va_runS (As := [.int (nI g)]) (rest := []) ⟨hx, hb, hml, hown, hts⟩ (c_X3_isNoGate l D cI cC cZ cG (nI g)) (va_cwS 1 hts gX3_event_X3_isNoGate rfl rfl rfl hyS_X3_isNoGate ⟨Nat.le_of_ble_eq_true rfl, Nat.le_of_ble_eq_true rfl⟩) (b_pRS (wc := []) hK hP [] rfl) rfl rfl hl.1 rfl (lv_room (Nat.le_of_ble_eq_true rfl)) dX3_event_1 ⟨Nat.zero_le _, Nat.zero_le _⟩) ?_
  refine lv_if_eq (pc := 4) (tgt := 9) hx hb dX3_event_4 (by decide) (fun c_1 => ?_) (fun c_1 => ?_)
  · skip
    have c_1 : ¬ (p_ng (nI g)) := b_i_0.mp c_1
    refine lv_iload_n (pc := 9) hx hb dX3_event_9 rfl (lv_at hl 2 rfl) ?_
    refine lv_if_lt (pc := 10) (tgt := 18) hx hb dX3_event_10 (by decide) (fun c_2 => ?_) (fun c_2 => ?_)
    · skip
      have c_2 : y < 0 := c_2
      refine lv_bipush (pc := 18) (v := (-2)) hx hb dX3_event_18 (by decide) ?_
      subst hQ
      exact b_retR hx hb hr hlocks (rfl) dX3_event_20
    · skip
      have c_2 : ¬ (y < 0) := c_2
      refine lv_iload_n (pc := 13) hx hb dX3_event_13 rfl (lv_at hl 2 rfl) ?_
      refine lv_iconst (pc := 14) (v := 3) hx hb dX3_event_14 (by decide) ?_
      refine lv_icmp_lt (pc := 15) (tgt := 21) hx hb dX3_event_15 (by decide) (fun c_3 => ?_) (fun c_3 => ?_)
      · skip
        have c_3 : y < 3 := c_3
        exact hbad.elim (fun q => absurd q c_2) (fun q => absurd c_3 q)
      · skip
        have c_3 : ¬ (y < 3) := c_3
        refine lv_bipush (pc := 18) (v := (-2)) hx hb dX3_event_18 (by decide) ?_
        subst hQ
        exact b_retR hx hb hr hlocks (rfl) dX3_event_20
  · skip
    have c_1 : p_ng (nI g) := Classical.not_not.mp (fun h9 => c_1 (b_i_0.mpr h9))
    exact absurd c_1 (p_ng_no hg)
theorem hw_X3_event_ok_0 : (.fieldLink RX3 29 "BeamTurnstiles" "history" "LBeamTurnstiles$History;" : Cond) ∈ wsX3_event := by decide +kernel
theorem hi_X3_event_ok_X3 : ∀ w ∈ wsX30, w ∈ wsX3_event := by decide +kernel
theorem hw_X3_event_ok_2 : (.fieldLink RX3 10 "BeamTurnstiles" "hall" "LBeamTurnstiles$Hall;" : Cond) ∈ wsX3_event := by decide +kernel
theorem hw_X3_event_ok_3 : (.fieldLink RX3 49 "BeamTurnstiles$Hall" "row" "[I" : Cond) ∈ wsX3_event := by decide +kernel
theorem hi_X3_event_ok_X0 : ∀ w ∈ wsX00, w ∈ wsX3_event := by decide +kernel
set_option maxHeartbeats 4000000 in
set_option maxRecDepth 100000 in
theorem c_X3_event_ok (l : Launch) (D : va_G) (cI cC cZ cG : ClassId) (tb lo hi : Nat) (sz : Nat) (ad : Nat → Nat) (f : Nat → Int32) (f2 : Nat → Int32) (tx : Nat → Int32) (n : Nat) (nx : Nat) (sn : Nat) (R : Nat → Nat → Int32) (SL : Nat → Nat → Int32) (sv : Nat → Int32) (g : Nat) (bm : Nat) (hn60 : n ≤ 60) (hnx : nx < 6) (hsn : sn ≤ 6) (hg : g < 6) (hbm : bm < 3) : Met l yX3_event wsX3_event ({ frames := 4, cells := 0, slots := 0, locals := 87 } : Room) (b_W D (b_T cI cC cZ cG) (b_X tb lo hi) [((ad 0), .inr (3, [.ref (ad 1), .ref (ad 3), .ref (ad 5), .ref (ad 7), .ref (ad 15), .ref (ad 18)])), ((ad 1), .inr (0, [.ref (ad 2)])), ((ad 2), .inl (cI, 86, .inl f)), ((ad 3), .inr (0, [.ref (ad 4)])), ((ad 4), .inl (cI, 86, .inl f2)), ((ad 5), .inr (2, [.ref (ad 6), .int (nI n)])), ((ad 6), .inl (cC, 60, .inl tx)), ((ad 7), .inr (1, [.ref (ad 8), .int (nI nx), .int (nI sn)])), ((ad 8), .inl (cG, 6, .inr (.inr (.inr (.inr (fun i => ([(ad 9), (ad 10), (ad 11), (ad 12), (ad 13), (ad 14)] : List Nat)[i]?)))))), ((ad 9), .inl (cI, 86, .inl (R 0))), ((ad 10), .inl (cI, 86, .inl (R 1))), ((ad 11), .inl (cI, 86, .inl (R 2))), ((ad 12), .inl (cI, 86, .inl (R 3))), ((ad 13), .inl (cI, 86, .inl (R 4))), ((ad 14), .inl (cI, 86, .inl (R 5))), ((ad 15), .inl (cG, 2, .inr (.inr (.inr (.inr (fun i => ([(ad 16), (ad 17)] : List Nat)[i]?)))))), ((ad 16), .inl (cI, 86, .inl (SL 0))), ((ad 17), .inl (cI, 86, .inl (SL 1))), ((ad 18), .inl (cZ, 2, .inl sv))] sz [.ref (ad 0), .int (nI g), .int (nI bm)]) (b_Qi D (f (8 + g * 13 + 0) ^^^ b_tb bm) [((ad 0), .inr (3, [.ref (ad 1), .ref (ad 3), .ref (ad 5), .ref (ad 7), .ref (ad 15), .ref (ad 18)])), ((ad 1), .inr (0, [.ref (ad 2)])), ((ad 2), .inl (cI, 86, .inl (h_change f g bm))), ((ad 3), .inr (0, [.ref (ad 4)])), ((ad 4), .inl (cI, 86, .inl f2)), ((ad 5), .inr (2, [.ref (ad 6), .int (nI n)])), ((ad 6), .inl (cC, 60, .inl tx)), ((ad 7), .inr (1, [.ref (ad 8), .int (nI (h_nx nx)), .int (nI (h_sz sn))])), ((ad 8), .inl (cG, 6, .inr (.inr (.inr (.inr (fun i => ([(ad 9), (ad 10), (ad 11), (ad 12), (ad 13), (ad 14)] : List Nat)[i]?)))))), ((ad 9), .inl (cI, 86, .inl (va_up R nx (va_cpy f (R nx) 0 0 86) 0))), ((ad 10), .inl (cI, 86, .inl (va_up R nx (va_cpy f (R nx) 0 0 86) 1))), ((ad 11), .inl (cI, 86, .inl (va_up R nx (va_cpy f (R nx) 0 0 86) 2))), ((ad 12), .inl (cI, 86, .inl (va_up R nx (va_cpy f (R nx) 0 0 86) 3))), ((ad 13), .inl (cI, 86, .inl (va_up R nx (va_cpy f (R nx) 0 0 86) 4))), ((ad 14), .inl (cI, 86, .inl (va_up R nx (va_cpy f (R nx) 0 0 86) 5))), ((ad 15), .inl (cG, 2, .inr (.inr (.inr (.inr (fun i => ([(ad 16), (ad 17)] : List Nat)[i]?)))))), ((ad 16), .inl (cI, 86, .inl (SL 0))), ((ad 17), .inl (cI, 86, .inl (SL 1))), ((ad 18), .inl (cZ, 2, .inl sv))] (va_A [((ad 0), .inr (3, [.ref (ad 1), .ref (ad 3), .ref (ad 5), .ref (ad 7), .ref (ad 15), .ref (ad 18)])), ((ad 1), .inr (0, [.ref (ad 2)])), ((ad 2), .inl (cI, 86, .inl f)), ((ad 3), .inr (0, [.ref (ad 4)])), ((ad 4), .inl (cI, 86, .inl f2)), ((ad 5), .inr (2, [.ref (ad 6), .int (nI n)])), ((ad 6), .inl (cC, 60, .inl tx)), ((ad 7), .inr (1, [.ref (ad 8), .int (nI nx), .int (nI sn)])), ((ad 8), .inl (cG, 6, .inr (.inr (.inr (.inr (fun i => ([(ad 9), (ad 10), (ad 11), (ad 12), (ad 13), (ad 14)] : List Nat)[i]?)))))), ((ad 9), .inl (cI, 86, .inl (R 0))), ((ad 10), .inl (cI, 86, .inl (R 1))), ((ad 11), .inl (cI, 86, .inl (R 2))), ((ad 12), .inl (cI, 86, .inl (R 3))), ((ad 13), .inl (cI, 86, .inl (R 4))), ((ad 14), .inl (cI, 86, .inl (R 5))), ((ad 15), .inl (cG, 2, .inr (.inr (.inr (.inr (fun i => ([(ad 16), (ad 17)] : List Nat)[i]?)))))), ((ad 16), .inl (cI, 86, .inl (SL 0))), ((ad 17), .inl (cI, 86, .inl (SL 1))), ((ad 18), .inl (cZ, 2, .inl sv))] sz)) 0 0 (va_A [((ad 0), .inr (3, [.ref (ad 1), .ref (ad 3), .ref (ad 5), .ref (ad 7), .ref (ad 15), .ref (ad 18)])), ((ad 1), .inr (0, [.ref (ad 2)])), ((ad 2), .inl (cI, 86, .inl f)), ((ad 3), .inr (0, [.ref (ad 4)])), ((ad 4), .inl (cI, 86, .inl f2)), ((ad 5), .inr (2, [.ref (ad 6), .int (nI n)])), ((ad 6), .inl (cC, 60, .inl tx)), ((ad 7), .inr (1, [.ref (ad 8), .int (nI nx), .int (nI sn)])), ((ad 8), .inl (cG, 6, .inr (.inr (.inr (.inr (fun i => ([(ad 9), (ad 10), (ad 11), (ad 12), (ad 13), (ad 14)] : List Nat)[i]?)))))), ((ad 9), .inl (cI, 86, .inl (R 0))), ((ad 10), .inl (cI, 86, .inl (R 1))), ((ad 11), .inl (cI, 86, .inl (R 2))), ((ad 12), .inl (cI, 86, .inl (R 3))), ((ad 13), .inl (cI, 86, .inl (R 4))), ((ad 14), .inl (cI, 86, .inl (R 5))), ((ad 15), .inl (cG, 2, .inr (.inr (.inr (.inr (fun i => ([(ad 16), (ad 17)] : List Nat)[i]?)))))), ((ad 16), .inl (cI, 86, .inl (SL 0))), ((ad 17), .inl (cI, 86, .inl (SL 1))), ((ad 18), .inl (cZ, 2, .inl sv))] sz) := by
  refine b_enterW (Qc := fun A => b_Qi D (f (8 + g * 13 + 0) ^^^ b_tb bm) [((ad 0), .inr (3, [.ref (ad 1), .ref (ad 3), .ref (ad 5), .ref (ad 7), .ref (ad 15), .ref (ad 18)])), ((ad 1), .inr (0, [.ref (ad 2)])), ((ad 2), .inl (cI, 86, .inl (h_change f g bm))), ((ad 3), .inr (0, [.ref (ad 4)])), ((ad 4), .inl (cI, 86, .inl f2)), ((ad 5), .inr (2, [.ref (ad 6), .int (nI n)])), ((ad 6), .inl (cC, 60, .inl tx)), ((ad 7), .inr (1, [.ref (ad 8), .int (nI (h_nx nx)), .int (nI (h_sz sn))])), ((ad 8), .inl (cG, 6, .inr (.inr (.inr (.inr (fun i => ([(ad 9), (ad 10), (ad 11), (ad 12), (ad 13), (ad 14)] : List Nat)[i]?)))))), ((ad 9), .inl (cI, 86, .inl (va_up R nx (va_cpy f (R nx) 0 0 86) 0))), ((ad 10), .inl (cI, 86, .inl (va_up R nx (va_cpy f (R nx) 0 0 86) 1))), ((ad 11), .inl (cI, 86, .inl (va_up R nx (va_cpy f (R nx) 0 0 86) 2))), ((ad 12), .inl (cI, 86, .inl (va_up R nx (va_cpy f (R nx) 0 0 86) 3))), ((ad 13), .inl (cI, 86, .inl (va_up R nx (va_cpy f (R nx) 0 0 86) 4))), ((ad 14), .inl (cI, 86, .inl (va_up R nx (va_cpy f (R nx) 0 0 86) 5))), ((ad 15), .inl (cG, 2, .inr (.inr (.inr (.inr (fun i => ([(ad 16), (ad 17)] : List Nat)[i]?)))))), ((ad 16), .inl (cI, 86, .inl (SL 0))), ((ad 17), .inl (cI, 86, .inl (SL 1))), ((ad 18), .inl (cZ, 2, .inl sv))] A) (cc := cX3_event) (maxL := 3) (ret := (some .int)) (by decide) rfl (Nat.le_of_ble_eq_true rfl) ?_
  intro p e s m below meth c ls A hx hb hr hml hown hts hlocks hname hP hK hD hA hS hX hl Q hQ
  have hown : s.vm.findClass RX3 = some m.cls := hown
  have hl : lv_has ls 3 [(0, .ref (ad 0)), (1, .int (nI g)), (2, .int (nI bm))] := hl
  refine lv_iload_n (pc := 0) hx hb dX3_event_0 rfl (lv_at hl 1 rfl) ?_
  refine b_cR (pc := 1) (va_runS (As := [.int (nI g)]) (rest := []) ⟨hx, hb, hml, hown, hts⟩ (c_X3_isNoGate l D cI cC cZ cG (nI g)) (va_cwS 1 hts gX3_event_X3_isNoGate rfl rfl rfl hyS_X3_isNoGate ⟨Nat.le_of_ble_eq_true rfl, Nat.le_of_ble_eq_true rfl⟩) (b_pRS (wc := []) hK hP [] rfl) rfl rfl hl.1 rfl (lv_room (Nat.le_of_ble_eq_true rfl)) dX3_event_1 ⟨Nat.zero_le _, Nat.zero_le _⟩) ?_
  refine lv_if_eq (pc := 4) (tgt := 9) hx hb dX3_event_4 (by decide) (fun c_1 => ?_) (fun c_1 => ?_)
  · skip
    have c_1 : ¬ (p_ng (nI g)) := b_i_0.mp c_1
    refine lv_iload_n (pc := 9) hx hb dX3_event_9 rfl (lv_at hl 2 rfl) ?_
    refine lv_if_lt (pc := 10) (tgt := 18) hx hb dX3_event_10 (by decide) (fun c_2 => ?_) (fun c_2 => ?_)
    · skip
      have c_2 : bm < 0 := (nI_ltI (a := bm) (b := 0) (by omega) (by omega)).mp c_2
      exfalso; omega
    · skip
      have c_2 : ¬ (bm < 0) := fun h9 => c_2 ((nI_ltI (a := bm) (b := 0) (by omega) (by omega)).mpr h9)
      refine lv_iload_n (pc := 13) hx hb dX3_event_13 rfl (lv_at hl 2 rfl) ?_
      refine lv_iconst (pc := 14) (v := 3) hx hb dX3_event_14 (by decide) ?_
      refine lv_icmp_lt (pc := 15) (tgt := 21) hx hb dX3_event_15 (by decide) (fun c_3 => ?_) (fun c_3 => ?_)
      · skip
        have c_3 : bm < 3 := (nI_ltI (a := bm) (b := 3) (by omega) (by omega)).mp c_3
        refine lv_aload_n (pc := 21) hx hb dX3_event_21 rfl (lv_at hl 0 rfl) ?_
        refine va_get (pc := 22) (D := D) (ci := 3) (v := .ref (ad 7)) (C := RX3) (T := TX3) (N := 6) hx hb hts hi_X3_event_ok_X3 hown hK hP 0 rfl rfl 3 (by decide) (hts _ hw_X3_event_ok_0) (fun _ h9 => h9) rfl dX3_event_22 ?_
        refine lv_aload_n (pc := 25) hx hb dX3_event_25 rfl (lv_at hl 0 rfl) ?_
        refine va_get (pc := 26) (D := D) (ci := 3) (v := .ref (ad 1)) (C := RX3) (T := TX3) (N := 6) hx hb hts hi_X3_event_ok_X3 hown hK hP 0 rfl rfl 0 (by decide) (hts _ hw_X3_event_ok_2) (fun _ h9 => h9) rfl dX3_event_26 ?_
        refine va_get (pc := 29) (D := D) (ci := 0) (v := .ref (ad 2)) (C := RX0) (T := TX0) (N := 1) hx hb hts hi_X3_event_ok_X0 hown hK hP 1 rfl rfl 0 (by decide) (hts _ hw_X3_event_ok_3) (fun _ h9 => h9) rfl dX3_event_29 ?_
        refine b_cV (pc := 32) (w1 := [((ad 7), .inr (1, [.ref (ad 8), .int (nI (h_nx nx)), .int (nI (h_sz sn))])), ((ad 8), .inl (cG, 6, .inr (.inr (.inr (.inr (fun i => ([(ad 9), (ad 10), (ad 11), (ad 12), (ad 13), (ad 14)] : List Nat)[i]?)))))), ((ad 9), .inl (cI, 86, .inl (va_up R nx (va_cpy f (R nx) 0 0 86) 0))), ((ad 10), .inl (cI, 86, .inl (va_up R nx (va_cpy f (R nx) 0 0 86) 1))), ((ad 11), .inl (cI, 86, .inl (va_up R nx (va_cpy f (R nx) 0 0 86) 2))), ((ad 12), .inl (cI, 86, .inl (va_up R nx (va_cpy f (R nx) 0 0 86) 3))), ((ad 13), .inl (cI, 86, .inl (va_up R nx (va_cpy f (R nx) 0 0 86) 4))), ((ad 14), .inl (cI, 86, .inl (va_up R nx (va_cpy f (R nx) 0 0 86) 5))), ((ad 2), .inl (cI, 86, .inl f))]) (va_runV (As := [.ref (ad 2)]) (rest := []) ⟨hx, hb, hml, hown, hts⟩ (c_X1_keep l D cI cC cZ cG tb lo hi s.heap.size (ad 7) (ad 8) (ad 9) (ad 10) (ad 11) (ad 12) (ad 13) (ad 14) nx sn R (ad 2) f (by omega) (by omega)) (cwV 1 hts gX3_event_X1_keep rfl rfl rfl hy_X1_keep ⟨Nat.le_of_ble_eq_true rfl, Nat.le_of_ble_eq_true rfl⟩) (b_pWV (wc := [((ad 7), .inr (1, [.ref (ad 8), .int (nI nx), .int (nI sn)])), ((ad 8), .inl (cG, 6, .inr (.inr (.inr (.inr (fun i => ([(ad 9), (ad 10), (ad 11), (ad 12), (ad 13), (ad 14)] : List Nat)[i]?)))))), ((ad 9), .inl (cI, 86, .inl (R 0))), ((ad 10), .inl (cI, 86, .inl (R 1))), ((ad 11), .inl (cI, 86, .inl (R 2))), ((ad 12), .inl (cI, 86, .inl (R 3))), ((ad 13), .inl (cI, 86, .inl (R 4))), ((ad 14), .inl (cI, 86, .inl (R 5))), ((ad 2), .inl (cI, 86, .inl f))]) hK hP hD (b_Xok_X tb lo hi) [7, 8, 9, 10, 11, 12, 13, 14, 2] rfl (by decide) rfl (b_Xc hX hD hS hA [7, 8, 9, 10, 11, 12, 13, 14, 2] rfl) (ci := 1) (q0 := 0) rfl rfl) rfl rfl hl.1 rfl (lv_room (Nat.le_of_ble_eq_true rfl)) dX3_event_32 ⟨Nat.zero_le _, Nat.zero_le _⟩) hP hD hS hA [7, 8, 9, 10, 11, 12, 13, 14, 2] rfl rfl (fun H locs hP hD hS => ?_)
        have hP : va_P D vwCl [((ad 0), .inr (3, [.ref (ad 1), .ref (ad 3), .ref (ad 5), .ref (ad 7), .ref (ad 15), .ref (ad 18)])), ((ad 1), .inr (0, [.ref (ad 2)])), ((ad 2), .inl (cI, 86, .inl f)), ((ad 3), .inr (0, [.ref (ad 4)])), ((ad 4), .inl (cI, 86, .inl f2)), ((ad 5), .inr (2, [.ref (ad 6), .int (nI n)])), ((ad 6), .inl (cC, 60, .inl tx)), ((ad 7), .inr (1, [.ref (ad 8), .int (nI (h_nx nx)), .int (nI (h_sz sn))])), ((ad 8), .inl (cG, 6, .inr (.inr (.inr (.inr (fun i => ([(ad 9), (ad 10), (ad 11), (ad 12), (ad 13), (ad 14)] : List Nat)[i]?)))))), ((ad 9), .inl (cI, 86, .inl (va_up R nx (va_cpy f (R nx) 0 0 86) 0))), ((ad 10), .inl (cI, 86, .inl (va_up R nx (va_cpy f (R nx) 0 0 86) 1))), ((ad 11), .inl (cI, 86, .inl (va_up R nx (va_cpy f (R nx) 0 0 86) 2))), ((ad 12), .inl (cI, 86, .inl (va_up R nx (va_cpy f (R nx) 0 0 86) 3))), ((ad 13), .inl (cI, 86, .inl (va_up R nx (va_cpy f (R nx) 0 0 86) 4))), ((ad 14), .inl (cI, 86, .inl (va_up R nx (va_cpy f (R nx) 0 0 86) 5))), ((ad 15), .inl (cG, 2, .inr (.inr (.inr (.inr (fun i => ([(ad 16), (ad 17)] : List Nat)[i]?)))))), ((ad 16), .inl (cI, 86, .inl (SL 0))), ((ad 17), .inl (cI, 86, .inl (SL 1))), ((ad 18), .inl (cZ, 2, .inl sv))] H := hP
        have hD : va_D A [((ad 0), .inr (3, [.ref (ad 1), .ref (ad 3), .ref (ad 5), .ref (ad 7), .ref (ad 15), .ref (ad 18)])), ((ad 1), .inr (0, [.ref (ad 2)])), ((ad 2), .inl (cI, 86, .inl f)), ((ad 3), .inr (0, [.ref (ad 4)])), ((ad 4), .inl (cI, 86, .inl f2)), ((ad 5), .inr (2, [.ref (ad 6), .int (nI n)])), ((ad 6), .inl (cC, 60, .inl tx)), ((ad 7), .inr (1, [.ref (ad 8), .int (nI (h_nx nx)), .int (nI (h_sz sn))])), ((ad 8), .inl (cG, 6, .inr (.inr (.inr (.inr (fun i => ([(ad 9), (ad 10), (ad 11), (ad 12), (ad 13), (ad 14)] : List Nat)[i]?)))))), ((ad 9), .inl (cI, 86, .inl (va_up R nx (va_cpy f (R nx) 0 0 86) 0))), ((ad 10), .inl (cI, 86, .inl (va_up R nx (va_cpy f (R nx) 0 0 86) 1))), ((ad 11), .inl (cI, 86, .inl (va_up R nx (va_cpy f (R nx) 0 0 86) 2))), ((ad 12), .inl (cI, 86, .inl (va_up R nx (va_cpy f (R nx) 0 0 86) 3))), ((ad 13), .inl (cI, 86, .inl (va_up R nx (va_cpy f (R nx) 0 0 86) 4))), ((ad 14), .inl (cI, 86, .inl (va_up R nx (va_cpy f (R nx) 0 0 86) 5))), ((ad 15), .inl (cG, 2, .inr (.inr (.inr (.inr (fun i => ([(ad 16), (ad 17)] : List Nat)[i]?)))))), ((ad 16), .inl (cI, 86, .inl (SL 0))), ((ad 17), .inl (cI, 86, .inl (SL 1))), ((ad 18), .inl (cZ, 2, .inl sv))] := hD
        refine lv_aload_n (pc := 35) hx hb dX3_event_35 rfl (lv_at hl 0 rfl) ?_
        refine va_get (pc := 36) (D := D) (ci := 3) (v := .ref (ad 1)) (C := RX3) (T := TX3) (N := 6) hx hb hts hi_X3_event_ok_X3 hown hK hP 0 rfl rfl 0 (by decide) (hts _ hw_X3_event_ok_2) (fun _ h9 => h9) rfl dX3_event_36 ?_
        refine lv_iload_n (pc := 39) hx hb dX3_event_39 rfl (lv_at hl 1 rfl) ?_
        refine lv_iload_n (pc := 40) hx hb dX3_event_40 rfl (lv_at hl 2 rfl) ?_
        refine b_cW (pc := 41) (w1 := [((ad 1), .inr (0, [.ref (ad 2)])), ((ad 2), .inl (cI, 86, .inl (h_change f g bm)))]) (va_runV (As := [.int (nI g), .int (nI bm)]) (rest := []) ⟨hx, hb, hml, hown, hts⟩ (c_X0_change l D cI cC cZ cG tb lo hi H.size (ad 1) (ad 2) f g bm (by omega) (by omega)) (cwV 2 hts gX3_event_X0_change rfl rfl rfl hy_X0_change ⟨Nat.le_of_ble_eq_true rfl, Nat.le_of_ble_eq_true rfl⟩) (b_pWV (wc := [((ad 1), .inr (0, [.ref (ad 2)])), ((ad 2), .inl (cI, 86, .inl f))]) hK hP hD (b_Xok_X tb lo hi) [1, 2] rfl (by decide) rfl (b_Xc hX hD hS hA [1, 2] rfl) (ci := 0) (q0 := 0) rfl rfl) rfl rfl hl.1 rfl (lv_room (Nat.le_of_ble_eq_true rfl)) dX3_event_41 ⟨Nat.zero_le _, Nat.zero_le _⟩) hP hD hS hA [1, 2] rfl rfl (fun H locs hP hD hS => ?_)
        have hP : va_P D vwCl [((ad 0), .inr (3, [.ref (ad 1), .ref (ad 3), .ref (ad 5), .ref (ad 7), .ref (ad 15), .ref (ad 18)])), ((ad 1), .inr (0, [.ref (ad 2)])), ((ad 2), .inl (cI, 86, .inl (h_change f g bm))), ((ad 3), .inr (0, [.ref (ad 4)])), ((ad 4), .inl (cI, 86, .inl f2)), ((ad 5), .inr (2, [.ref (ad 6), .int (nI n)])), ((ad 6), .inl (cC, 60, .inl tx)), ((ad 7), .inr (1, [.ref (ad 8), .int (nI (h_nx nx)), .int (nI (h_sz sn))])), ((ad 8), .inl (cG, 6, .inr (.inr (.inr (.inr (fun i => ([(ad 9), (ad 10), (ad 11), (ad 12), (ad 13), (ad 14)] : List Nat)[i]?)))))), ((ad 9), .inl (cI, 86, .inl (va_up R nx (va_cpy f (R nx) 0 0 86) 0))), ((ad 10), .inl (cI, 86, .inl (va_up R nx (va_cpy f (R nx) 0 0 86) 1))), ((ad 11), .inl (cI, 86, .inl (va_up R nx (va_cpy f (R nx) 0 0 86) 2))), ((ad 12), .inl (cI, 86, .inl (va_up R nx (va_cpy f (R nx) 0 0 86) 3))), ((ad 13), .inl (cI, 86, .inl (va_up R nx (va_cpy f (R nx) 0 0 86) 4))), ((ad 14), .inl (cI, 86, .inl (va_up R nx (va_cpy f (R nx) 0 0 86) 5))), ((ad 15), .inl (cG, 2, .inr (.inr (.inr (.inr (fun i => ([(ad 16), (ad 17)] : List Nat)[i]?)))))), ((ad 16), .inl (cI, 86, .inl (SL 0))), ((ad 17), .inl (cI, 86, .inl (SL 1))), ((ad 18), .inl (cZ, 2, .inl sv))] H := hP
        have hD : va_D A [((ad 0), .inr (3, [.ref (ad 1), .ref (ad 3), .ref (ad 5), .ref (ad 7), .ref (ad 15), .ref (ad 18)])), ((ad 1), .inr (0, [.ref (ad 2)])), ((ad 2), .inl (cI, 86, .inl (h_change f g bm))), ((ad 3), .inr (0, [.ref (ad 4)])), ((ad 4), .inl (cI, 86, .inl f2)), ((ad 5), .inr (2, [.ref (ad 6), .int (nI n)])), ((ad 6), .inl (cC, 60, .inl tx)), ((ad 7), .inr (1, [.ref (ad 8), .int (nI (h_nx nx)), .int (nI (h_sz sn))])), ((ad 8), .inl (cG, 6, .inr (.inr (.inr (.inr (fun i => ([(ad 9), (ad 10), (ad 11), (ad 12), (ad 13), (ad 14)] : List Nat)[i]?)))))), ((ad 9), .inl (cI, 86, .inl (va_up R nx (va_cpy f (R nx) 0 0 86) 0))), ((ad 10), .inl (cI, 86, .inl (va_up R nx (va_cpy f (R nx) 0 0 86) 1))), ((ad 11), .inl (cI, 86, .inl (va_up R nx (va_cpy f (R nx) 0 0 86) 2))), ((ad 12), .inl (cI, 86, .inl (va_up R nx (va_cpy f (R nx) 0 0 86) 3))), ((ad 13), .inl (cI, 86, .inl (va_up R nx (va_cpy f (R nx) 0 0 86) 4))), ((ad 14), .inl (cI, 86, .inl (va_up R nx (va_cpy f (R nx) 0 0 86) 5))), ((ad 15), .inl (cG, 2, .inr (.inr (.inr (.inr (fun i => ([(ad 16), (ad 17)] : List Nat)[i]?)))))), ((ad 16), .inl (cI, 86, .inl (SL 0))), ((ad 17), .inl (cI, 86, .inl (SL 1))), ((ad 18), .inl (cZ, 2, .inl sv))] := hD
        obtain ⟨f_4, ef_4⟩ : ∃ z9 : Nat → Int32, z9 = h_change f g bm := ⟨_, rfl⟩
        have hP : va_P D vwCl [((ad 0), .inr (3, [.ref (ad 1), .ref (ad 3), .ref (ad 5), .ref (ad 7), .ref (ad 15), .ref (ad 18)])), ((ad 1), .inr (0, [.ref (ad 2)])), ((ad 2), .inl (cI, 86, .inl f_4)), ((ad 3), .inr (0, [.ref (ad 4)])), ((ad 4), .inl (cI, 86, .inl f2)), ((ad 5), .inr (2, [.ref (ad 6), .int (nI n)])), ((ad 6), .inl (cC, 60, .inl tx)), ((ad 7), .inr (1, [.ref (ad 8), .int (nI (h_nx nx)), .int (nI (h_sz sn))])), ((ad 8), .inl (cG, 6, .inr (.inr (.inr (.inr (fun i => ([(ad 9), (ad 10), (ad 11), (ad 12), (ad 13), (ad 14)] : List Nat)[i]?)))))), ((ad 9), .inl (cI, 86, .inl (va_up R nx (va_cpy f (R nx) 0 0 86) 0))), ((ad 10), .inl (cI, 86, .inl (va_up R nx (va_cpy f (R nx) 0 0 86) 1))), ((ad 11), .inl (cI, 86, .inl (va_up R nx (va_cpy f (R nx) 0 0 86) 2))), ((ad 12), .inl (cI, 86, .inl (va_up R nx (va_cpy f (R nx) 0 0 86) 3))), ((ad 13), .inl (cI, 86, .inl (va_up R nx (va_cpy f (R nx) 0 0 86) 4))), ((ad 14), .inl (cI, 86, .inl (va_up R nx (va_cpy f (R nx) 0 0 86) 5))), ((ad 15), .inl (cG, 2, .inr (.inr (.inr (.inr (fun i => ([(ad 16), (ad 17)] : List Nat)[i]?)))))), ((ad 16), .inl (cI, 86, .inl (SL 0))), ((ad 17), .inl (cI, 86, .inl (SL 1))), ((ad 18), .inl (cZ, 2, .inl sv))] H := by rw [ef_4]; exact hP
        have hD : va_D A [((ad 0), .inr (3, [.ref (ad 1), .ref (ad 3), .ref (ad 5), .ref (ad 7), .ref (ad 15), .ref (ad 18)])), ((ad 1), .inr (0, [.ref (ad 2)])), ((ad 2), .inl (cI, 86, .inl f_4)), ((ad 3), .inr (0, [.ref (ad 4)])), ((ad 4), .inl (cI, 86, .inl f2)), ((ad 5), .inr (2, [.ref (ad 6), .int (nI n)])), ((ad 6), .inl (cC, 60, .inl tx)), ((ad 7), .inr (1, [.ref (ad 8), .int (nI (h_nx nx)), .int (nI (h_sz sn))])), ((ad 8), .inl (cG, 6, .inr (.inr (.inr (.inr (fun i => ([(ad 9), (ad 10), (ad 11), (ad 12), (ad 13), (ad 14)] : List Nat)[i]?)))))), ((ad 9), .inl (cI, 86, .inl (va_up R nx (va_cpy f (R nx) 0 0 86) 0))), ((ad 10), .inl (cI, 86, .inl (va_up R nx (va_cpy f (R nx) 0 0 86) 1))), ((ad 11), .inl (cI, 86, .inl (va_up R nx (va_cpy f (R nx) 0 0 86) 2))), ((ad 12), .inl (cI, 86, .inl (va_up R nx (va_cpy f (R nx) 0 0 86) 3))), ((ad 13), .inl (cI, 86, .inl (va_up R nx (va_cpy f (R nx) 0 0 86) 4))), ((ad 14), .inl (cI, 86, .inl (va_up R nx (va_cpy f (R nx) 0 0 86) 5))), ((ad 15), .inl (cG, 2, .inr (.inr (.inr (.inr (fun i => ([(ad 16), (ad 17)] : List Nat)[i]?)))))), ((ad 16), .inl (cI, 86, .inl (SL 0))), ((ad 17), .inl (cI, 86, .inl (SL 1))), ((ad 18), .inl (cZ, 2, .inl sv))] := by rw [ef_4]; exact hD
        subst ef_4
        subst hQ
        exact b_retW hx hb hr hlocks hS (rfl) (hP) dX3_event_44
      · skip
        have c_3 : ¬ (bm < 3) := fun h9 => c_3 ((nI_ltI (a := bm) (b := 3) (by omega) (by omega)).mpr h9)
        exfalso; omega
  · skip
    have c_1 : p_ng (nI g) := Classical.not_not.mp (fun h9 => c_1 (b_i_0.mpr h9))
    exact absurd c_1 (p_ng_no hg)
set_option maxHeartbeats 4000000 in
set_option maxRecDepth 100000 in
theorem c_X3_pass_bad (l : Launch) (D : va_G) (cI cC cZ cG : ClassId) (ad : Nat → Nat) (f : Nat → Int32) (f2 : Nat → Int32) (tx : Nat → Int32) (n : Nat) (nx : Nat) (sn : Nat) (R : Nat → Nat → Int32) (SL : Nat → Nat → Int32) (sv : Nat → Int32) (x : Int32) (hn60 : n ≤ 60) (hnx : nx < 6) (hsn : sn ≤ 6) (hbad : x < 1 ∨ ¬ x ≤ 999) : Met l yX3_pass wsX3_pass ({ frames := 0, cells := 0, slots := 0, locals := 0 } : Room) (b_R D (b_T cI cC cZ cG) [((ad 0), .inr (3, [.ref (ad 1), .ref (ad 3), .ref (ad 5), .ref (ad 7), .ref (ad 15), .ref (ad 18)])), ((ad 1), .inr (0, [.ref (ad 2)])), ((ad 2), .inl (cI, 86, .inl f)), ((ad 3), .inr (0, [.ref (ad 4)])), ((ad 4), .inl (cI, 86, .inl f2)), ((ad 5), .inr (2, [.ref (ad 6), .int (nI n)])), ((ad 6), .inl (cC, 60, .inl tx)), ((ad 7), .inr (1, [.ref (ad 8), .int (nI nx), .int (nI sn)])), ((ad 8), .inl (cG, 6, .inr (.inr (.inr (.inr (fun i => ([(ad 9), (ad 10), (ad 11), (ad 12), (ad 13), (ad 14)] : List Nat)[i]?)))))), ((ad 9), .inl (cI, 86, .inl (R 0))), ((ad 10), .inl (cI, 86, .inl (R 1))), ((ad 11), .inl (cI, 86, .inl (R 2))), ((ad 12), .inl (cI, 86, .inl (R 3))), ((ad 13), .inl (cI, 86, .inl (R 4))), ((ad 14), .inl (cI, 86, .inl (R 5))), ((ad 15), .inl (cG, 2, .inr (.inr (.inr (.inr (fun i => ([(ad 16), (ad 17)] : List Nat)[i]?)))))), ((ad 16), .inl (cI, 86, .inl (SL 0))), ((ad 17), .inl (cI, 86, .inl (SL 1))), ((ad 18), .inl (cZ, 2, .inl sv))] [.ref (ad 0), .int x]) (vp_Si (fun r => r = -2)) 0 0 (fun _ => False) := by
  refine b_enterR (cc := cX3_pass) (maxL := 2) (ret := (some .int)) (by decide) rfl (Nat.le_of_ble_eq_true rfl) ?_
  intro p e s m below meth c ls hx hb hr hml hown hts hlocks hP hK hl Q hQ
  have hown : s.vm.findClass RX3 = some m.cls := hown
  have hl : lv_has ls 2 [(0, .ref (ad 0)), (1, .int x)] := hl
  refine lv_iload_n (pc := 0) hx hb dX3_pass_0 rfl (lv_at hl 1 rfl) ?_
  refine lv_iconst (pc := 1) (v := 1) hx hb dX3_pass_1 (by decide) ?_
  refine lv_icmp_lt (pc := 2) (tgt := 12) hx hb dX3_pass_2 (by decide) (fun c_1 => ?_) (fun c_1 => ?_)
  · skip
    have c_1 : x < 1 := c_1
    refine lv_bipush (pc := 12) (v := (-2)) hx hb dX3_pass_12 (by decide) ?_
    subst hQ
    exact b_retR hx hb hr hlocks (rfl) dX3_pass_14
  · skip
    have c_1 : ¬ (x < 1) := c_1
    refine lv_iload_n (pc := 5) hx hb dX3_pass_5 rfl (lv_at hl 1 rfl) ?_
    refine lv_sipush (pc := 6) (v := 999) hx hb dX3_pass_6 (by decide) ?_
    refine lv_icmp_le (pc := 9) (tgt := 15) hx hb dX3_pass_9 (by decide) (fun c_2 => ?_) (fun c_2 => ?_)
    · skip
      have c_2 : x ≤ 999 := c_2
      exact hbad.elim (fun q => absurd q c_1) (fun q => absurd c_2 q)
    · skip
      have c_2 : ¬ (x ≤ 999) := c_2
      refine lv_bipush (pc := 12) (v := (-2)) hx hb dX3_pass_12 (by decide) ?_
      subst hQ
      exact b_retR hx hb hr hlocks (rfl) dX3_pass_14
theorem hw_X3_pass_many_0 : (.fieldLink RX3 10 "BeamTurnstiles" "hall" "LBeamTurnstiles$Hall;" : Cond) ∈ wsX3_pass := by decide +kernel
theorem hi_X3_pass_many_X3 : ∀ w ∈ wsX30, w ∈ wsX3_pass := by decide +kernel
set_option maxHeartbeats 4000000 in
set_option maxRecDepth 100000 in
theorem c_X3_pass_many (l : Launch) (D : va_G) (cI cC cZ cG : ClassId) (ad : Nat → Nat) (f : Nat → Int32) (f2 : Nat → Int32) (tx : Nat → Int32) (n : Nat) (nx : Nat) (sn : Nat) (R : Nat → Nat → Int32) (SL : Nat → Nat → Int32) (sv : Nat → Int32) (x : Int32) (hn60 : n ≤ 60) (hnx : nx < 6) (hsn : sn ≤ 6) (h1 : ¬ x < 1) (h2 : x ≤ 999) (h3 : 99999 < f 3 + x) : Met l yX3_pass wsX3_pass ({ frames := 1, cells := 0, slots := 0, locals := 21 } : Room) (b_R D (b_T cI cC cZ cG) [((ad 0), .inr (3, [.ref (ad 1), .ref (ad 3), .ref (ad 5), .ref (ad 7), .ref (ad 15), .ref (ad 18)])), ((ad 1), .inr (0, [.ref (ad 2)])), ((ad 2), .inl (cI, 86, .inl f)), ((ad 3), .inr (0, [.ref (ad 4)])), ((ad 4), .inl (cI, 86, .inl f2)), ((ad 5), .inr (2, [.ref (ad 6), .int (nI n)])), ((ad 6), .inl (cC, 60, .inl tx)), ((ad 7), .inr (1, [.ref (ad 8), .int (nI nx), .int (nI sn)])), ((ad 8), .inl (cG, 6, .inr (.inr (.inr (.inr (fun i => ([(ad 9), (ad 10), (ad 11), (ad 12), (ad 13), (ad 14)] : List Nat)[i]?)))))), ((ad 9), .inl (cI, 86, .inl (R 0))), ((ad 10), .inl (cI, 86, .inl (R 1))), ((ad 11), .inl (cI, 86, .inl (R 2))), ((ad 12), .inl (cI, 86, .inl (R 3))), ((ad 13), .inl (cI, 86, .inl (R 4))), ((ad 14), .inl (cI, 86, .inl (R 5))), ((ad 15), .inl (cG, 2, .inr (.inr (.inr (.inr (fun i => ([(ad 16), (ad 17)] : List Nat)[i]?)))))), ((ad 16), .inl (cI, 86, .inl (SL 0))), ((ad 17), .inl (cI, 86, .inl (SL 1))), ((ad 18), .inl (cZ, 2, .inl sv))] [.ref (ad 0), .int x]) (vp_Si (fun r => r = -4)) 0 0 (fun _ => False) := by
  refine b_enterR (cc := cX3_pass) (maxL := 2) (ret := (some .int)) (by decide) rfl (Nat.le_of_ble_eq_true rfl) ?_
  intro p e s m below meth c ls hx hb hr hml hown hts hlocks hP hK hl Q hQ
  have hown : s.vm.findClass RX3 = some m.cls := hown
  have hl : lv_has ls 2 [(0, .ref (ad 0)), (1, .int x)] := hl
  refine lv_iload_n (pc := 0) hx hb dX3_pass_0 rfl (lv_at hl 1 rfl) ?_
  refine lv_iconst (pc := 1) (v := 1) hx hb dX3_pass_1 (by decide) ?_
  refine lv_icmp_lt (pc := 2) (tgt := 12) hx hb dX3_pass_2 (by decide) (fun c_1 => ?_) (fun c_1 => ?_)
  · skip
    have c_1 : x < 1 := c_1
    exact absurd c_1 h1
  · skip
    have c_1 : ¬ (x < 1) := c_1
    refine lv_iload_n (pc := 5) hx hb dX3_pass_5 rfl (lv_at hl 1 rfl) ?_
    refine lv_sipush (pc := 6) (v := 999) hx hb dX3_pass_6 (by decide) ?_
    refine lv_icmp_le (pc := 9) (tgt := 15) hx hb dX3_pass_9 (by decide) (fun c_2 => ?_) (fun c_2 => ?_)
    · skip
      have c_2 : x ≤ 999 := c_2
      refine lv_aload_n (pc := 15) hx hb dX3_pass_15 rfl (lv_at hl 0 rfl) ?_
      refine va_get (pc := 16) (D := D) (ci := 3) (v := .ref (ad 1)) (C := RX3) (T := TX3) (N := 6) hx hb hts hi_X3_pass_many_X3 hown hK hP 0 rfl rfl 0 (by decide) (hts _ hw_X3_pass_many_0) (fun _ h9 => h9) rfl dX3_pass_16 ?_
      refine lv_iload_n (pc := 19) hx hb dX3_pass_19 rfl (lv_at hl 1 rfl) ?_
      refine b_cR (pc := 20) (va_runV (As := [.int x]) (rest := []) ⟨hx, hb, hml, hown, hts⟩ (c_X0_hasRoomFor l D cI cC cZ cG (ad 1) (ad 2) f x) (cwV 1 hts gX3_pass_X0_hasRoomFor rfl rfl rfl hy_X0_hasRoomFor ⟨Nat.le_of_ble_eq_true rfl, Nat.le_of_ble_eq_true rfl⟩) (b_pRV (wc := [((ad 1), .inr (0, [.ref (ad 2)])), ((ad 2), .inl (cI, 86, .inl f))]) hK hP [1, 2] rfl (ci := 0) (q0 := 0) rfl rfl) rfl rfl hl.1 rfl (lv_room (Nat.le_of_ble_eq_true rfl)) dX3_pass_20 ⟨Nat.zero_le _, Nat.zero_le _⟩) ?_
      refine lv_if_ne (pc := 23) (tgt := 29) hx hb dX3_pass_23 (by decide) (fun c_3 => ?_) (fun c_3 => ?_)
      · skip
        have c_3 : ¬ 99999 < f 3 + x := Classical.not_not.mp (fun h9 => c_3 (b_i_0.mpr h9))
        exact absurd h3 c_3
      · skip
        have c_3 : ¬ (¬ 99999 < f 3 + x) := b_i_0.mp c_3
        refine lv_bipush (pc := 26) (v := (-4)) hx hb dX3_pass_26 (by decide) ?_
        subst hQ
        exact b_retR hx hb hr hlocks (rfl) dX3_pass_28
    · skip
      have c_2 : ¬ (x ≤ 999) := c_2
      exact absurd h2 c_2
theorem hw_X3_pass_ok_0 : (.fieldLink RX3 10 "BeamTurnstiles" "hall" "LBeamTurnstiles$Hall;" : Cond) ∈ wsX3_pass := by decide +kernel
theorem hi_X3_pass_ok_X3 : ∀ w ∈ wsX30, w ∈ wsX3_pass := by decide +kernel
theorem hw_X3_pass_ok_2 : (.fieldLink RX3 29 "BeamTurnstiles" "history" "LBeamTurnstiles$History;" : Cond) ∈ wsX3_pass := by decide +kernel
theorem hw_X3_pass_ok_3 : (.fieldLink RX3 49 "BeamTurnstiles$Hall" "row" "[I" : Cond) ∈ wsX3_pass := by decide +kernel
theorem hi_X3_pass_ok_X0 : ∀ w ∈ wsX00, w ∈ wsX3_pass := by decide +kernel
set_option maxHeartbeats 4000000 in
set_option maxRecDepth 100000 in
theorem c_X3_pass_ok (l : Launch) (D : va_G) (cI cC cZ cG : ClassId) (tb lo hi : Nat) (sz : Nat) (ad : Nat → Nat) (f : Nat → Int32) (f2 : Nat → Int32) (tx : Nat → Int32) (n : Nat) (nx : Nat) (sn : Nat) (R : Nat → Nat → Int32) (SL : Nat → Nat → Int32) (sv : Nat → Int32) (x : Int32) (hn60 : n ≤ 60) (hnx : nx < 6) (hsn : sn ≤ 6) (h1 : ¬ x < 1) (h2 : x ≤ 999) (h3 : ¬ 99999 < f 3 + x) : Met l yX3_pass wsX3_pass ({ frames := 4, cells := 0, slots := 0, locals := 84 } : Room) (b_W D (b_T cI cC cZ cG) (b_X tb lo hi) [((ad 0), .inr (3, [.ref (ad 1), .ref (ad 3), .ref (ad 5), .ref (ad 7), .ref (ad 15), .ref (ad 18)])), ((ad 1), .inr (0, [.ref (ad 2)])), ((ad 2), .inl (cI, 86, .inl f)), ((ad 3), .inr (0, [.ref (ad 4)])), ((ad 4), .inl (cI, 86, .inl f2)), ((ad 5), .inr (2, [.ref (ad 6), .int (nI n)])), ((ad 6), .inl (cC, 60, .inl tx)), ((ad 7), .inr (1, [.ref (ad 8), .int (nI nx), .int (nI sn)])), ((ad 8), .inl (cG, 6, .inr (.inr (.inr (.inr (fun i => ([(ad 9), (ad 10), (ad 11), (ad 12), (ad 13), (ad 14)] : List Nat)[i]?)))))), ((ad 9), .inl (cI, 86, .inl (R 0))), ((ad 10), .inl (cI, 86, .inl (R 1))), ((ad 11), .inl (cI, 86, .inl (R 2))), ((ad 12), .inl (cI, 86, .inl (R 3))), ((ad 13), .inl (cI, 86, .inl (R 4))), ((ad 14), .inl (cI, 86, .inl (R 5))), ((ad 15), .inl (cG, 2, .inr (.inr (.inr (.inr (fun i => ([(ad 16), (ad 17)] : List Nat)[i]?)))))), ((ad 16), .inl (cI, 86, .inl (SL 0))), ((ad 17), .inl (cI, 86, .inl (SL 1))), ((ad 18), .inl (cZ, 2, .inl sv))] sz [.ref (ad 0), .int x]) (b_Qi D (b_bc (h_bm (h_goBy f x) 6)) [((ad 0), .inr (3, [.ref (ad 1), .ref (ad 3), .ref (ad 5), .ref (ad 7), .ref (ad 15), .ref (ad 18)])), ((ad 1), .inr (0, [.ref (ad 2)])), ((ad 2), .inl (cI, 86, .inl (h_goBy f x))), ((ad 3), .inr (0, [.ref (ad 4)])), ((ad 4), .inl (cI, 86, .inl f2)), ((ad 5), .inr (2, [.ref (ad 6), .int (nI n)])), ((ad 6), .inl (cC, 60, .inl tx)), ((ad 7), .inr (1, [.ref (ad 8), .int (nI (h_nx nx)), .int (nI (h_sz sn))])), ((ad 8), .inl (cG, 6, .inr (.inr (.inr (.inr (fun i => ([(ad 9), (ad 10), (ad 11), (ad 12), (ad 13), (ad 14)] : List Nat)[i]?)))))), ((ad 9), .inl (cI, 86, .inl (va_up R nx (va_cpy f (R nx) 0 0 86) 0))), ((ad 10), .inl (cI, 86, .inl (va_up R nx (va_cpy f (R nx) 0 0 86) 1))), ((ad 11), .inl (cI, 86, .inl (va_up R nx (va_cpy f (R nx) 0 0 86) 2))), ((ad 12), .inl (cI, 86, .inl (va_up R nx (va_cpy f (R nx) 0 0 86) 3))), ((ad 13), .inl (cI, 86, .inl (va_up R nx (va_cpy f (R nx) 0 0 86) 4))), ((ad 14), .inl (cI, 86, .inl (va_up R nx (va_cpy f (R nx) 0 0 86) 5))), ((ad 15), .inl (cG, 2, .inr (.inr (.inr (.inr (fun i => ([(ad 16), (ad 17)] : List Nat)[i]?)))))), ((ad 16), .inl (cI, 86, .inl (SL 0))), ((ad 17), .inl (cI, 86, .inl (SL 1))), ((ad 18), .inl (cZ, 2, .inl sv))] (va_A [((ad 0), .inr (3, [.ref (ad 1), .ref (ad 3), .ref (ad 5), .ref (ad 7), .ref (ad 15), .ref (ad 18)])), ((ad 1), .inr (0, [.ref (ad 2)])), ((ad 2), .inl (cI, 86, .inl f)), ((ad 3), .inr (0, [.ref (ad 4)])), ((ad 4), .inl (cI, 86, .inl f2)), ((ad 5), .inr (2, [.ref (ad 6), .int (nI n)])), ((ad 6), .inl (cC, 60, .inl tx)), ((ad 7), .inr (1, [.ref (ad 8), .int (nI nx), .int (nI sn)])), ((ad 8), .inl (cG, 6, .inr (.inr (.inr (.inr (fun i => ([(ad 9), (ad 10), (ad 11), (ad 12), (ad 13), (ad 14)] : List Nat)[i]?)))))), ((ad 9), .inl (cI, 86, .inl (R 0))), ((ad 10), .inl (cI, 86, .inl (R 1))), ((ad 11), .inl (cI, 86, .inl (R 2))), ((ad 12), .inl (cI, 86, .inl (R 3))), ((ad 13), .inl (cI, 86, .inl (R 4))), ((ad 14), .inl (cI, 86, .inl (R 5))), ((ad 15), .inl (cG, 2, .inr (.inr (.inr (.inr (fun i => ([(ad 16), (ad 17)] : List Nat)[i]?)))))), ((ad 16), .inl (cI, 86, .inl (SL 0))), ((ad 17), .inl (cI, 86, .inl (SL 1))), ((ad 18), .inl (cZ, 2, .inl sv))] sz)) 0 0 (va_A [((ad 0), .inr (3, [.ref (ad 1), .ref (ad 3), .ref (ad 5), .ref (ad 7), .ref (ad 15), .ref (ad 18)])), ((ad 1), .inr (0, [.ref (ad 2)])), ((ad 2), .inl (cI, 86, .inl f)), ((ad 3), .inr (0, [.ref (ad 4)])), ((ad 4), .inl (cI, 86, .inl f2)), ((ad 5), .inr (2, [.ref (ad 6), .int (nI n)])), ((ad 6), .inl (cC, 60, .inl tx)), ((ad 7), .inr (1, [.ref (ad 8), .int (nI nx), .int (nI sn)])), ((ad 8), .inl (cG, 6, .inr (.inr (.inr (.inr (fun i => ([(ad 9), (ad 10), (ad 11), (ad 12), (ad 13), (ad 14)] : List Nat)[i]?)))))), ((ad 9), .inl (cI, 86, .inl (R 0))), ((ad 10), .inl (cI, 86, .inl (R 1))), ((ad 11), .inl (cI, 86, .inl (R 2))), ((ad 12), .inl (cI, 86, .inl (R 3))), ((ad 13), .inl (cI, 86, .inl (R 4))), ((ad 14), .inl (cI, 86, .inl (R 5))), ((ad 15), .inl (cG, 2, .inr (.inr (.inr (.inr (fun i => ([(ad 16), (ad 17)] : List Nat)[i]?)))))), ((ad 16), .inl (cI, 86, .inl (SL 0))), ((ad 17), .inl (cI, 86, .inl (SL 1))), ((ad 18), .inl (cZ, 2, .inl sv))] sz) := by
  refine b_enterW (Qc := fun A => b_Qi D (b_bc (h_bm (h_goBy f x) 6)) [((ad 0), .inr (3, [.ref (ad 1), .ref (ad 3), .ref (ad 5), .ref (ad 7), .ref (ad 15), .ref (ad 18)])), ((ad 1), .inr (0, [.ref (ad 2)])), ((ad 2), .inl (cI, 86, .inl (h_goBy f x))), ((ad 3), .inr (0, [.ref (ad 4)])), ((ad 4), .inl (cI, 86, .inl f2)), ((ad 5), .inr (2, [.ref (ad 6), .int (nI n)])), ((ad 6), .inl (cC, 60, .inl tx)), ((ad 7), .inr (1, [.ref (ad 8), .int (nI (h_nx nx)), .int (nI (h_sz sn))])), ((ad 8), .inl (cG, 6, .inr (.inr (.inr (.inr (fun i => ([(ad 9), (ad 10), (ad 11), (ad 12), (ad 13), (ad 14)] : List Nat)[i]?)))))), ((ad 9), .inl (cI, 86, .inl (va_up R nx (va_cpy f (R nx) 0 0 86) 0))), ((ad 10), .inl (cI, 86, .inl (va_up R nx (va_cpy f (R nx) 0 0 86) 1))), ((ad 11), .inl (cI, 86, .inl (va_up R nx (va_cpy f (R nx) 0 0 86) 2))), ((ad 12), .inl (cI, 86, .inl (va_up R nx (va_cpy f (R nx) 0 0 86) 3))), ((ad 13), .inl (cI, 86, .inl (va_up R nx (va_cpy f (R nx) 0 0 86) 4))), ((ad 14), .inl (cI, 86, .inl (va_up R nx (va_cpy f (R nx) 0 0 86) 5))), ((ad 15), .inl (cG, 2, .inr (.inr (.inr (.inr (fun i => ([(ad 16), (ad 17)] : List Nat)[i]?)))))), ((ad 16), .inl (cI, 86, .inl (SL 0))), ((ad 17), .inl (cI, 86, .inl (SL 1))), ((ad 18), .inl (cZ, 2, .inl sv))] A) (cc := cX3_pass) (maxL := 2) (ret := (some .int)) (by decide) rfl (Nat.le_of_ble_eq_true rfl) ?_
  intro p e s m below meth c ls A hx hb hr hml hown hts hlocks hname hP hK hD hA hS hX hl Q hQ
  have hown : s.vm.findClass RX3 = some m.cls := hown
  have hl : lv_has ls 2 [(0, .ref (ad 0)), (1, .int x)] := hl
  refine lv_iload_n (pc := 0) hx hb dX3_pass_0 rfl (lv_at hl 1 rfl) ?_
  refine lv_iconst (pc := 1) (v := 1) hx hb dX3_pass_1 (by decide) ?_
  refine lv_icmp_lt (pc := 2) (tgt := 12) hx hb dX3_pass_2 (by decide) (fun c_1 => ?_) (fun c_1 => ?_)
  · skip
    have c_1 : x < 1 := c_1
    exact absurd c_1 h1
  · skip
    have c_1 : ¬ (x < 1) := c_1
    refine lv_iload_n (pc := 5) hx hb dX3_pass_5 rfl (lv_at hl 1 rfl) ?_
    refine lv_sipush (pc := 6) (v := 999) hx hb dX3_pass_6 (by decide) ?_
    refine lv_icmp_le (pc := 9) (tgt := 15) hx hb dX3_pass_9 (by decide) (fun c_2 => ?_) (fun c_2 => ?_)
    · skip
      have c_2 : x ≤ 999 := c_2
      refine lv_aload_n (pc := 15) hx hb dX3_pass_15 rfl (lv_at hl 0 rfl) ?_
      refine va_get (pc := 16) (D := D) (ci := 3) (v := .ref (ad 1)) (C := RX3) (T := TX3) (N := 6) hx hb hts hi_X3_pass_ok_X3 hown hK hP 0 rfl rfl 0 (by decide) (hts _ hw_X3_pass_ok_0) (fun _ h9 => h9) rfl dX3_pass_16 ?_
      refine lv_iload_n (pc := 19) hx hb dX3_pass_19 rfl (lv_at hl 1 rfl) ?_
      refine b_cR (pc := 20) (va_runV (As := [.int x]) (rest := []) ⟨hx, hb, hml, hown, hts⟩ (c_X0_hasRoomFor l D cI cC cZ cG (ad 1) (ad 2) f x) (cwV 1 hts gX3_pass_X0_hasRoomFor rfl rfl rfl hy_X0_hasRoomFor ⟨Nat.le_of_ble_eq_true rfl, Nat.le_of_ble_eq_true rfl⟩) (b_pRV (wc := [((ad 1), .inr (0, [.ref (ad 2)])), ((ad 2), .inl (cI, 86, .inl f))]) hK hP [1, 2] rfl (ci := 0) (q0 := 0) rfl rfl) rfl rfl hl.1 rfl (lv_room (Nat.le_of_ble_eq_true rfl)) dX3_pass_20 ⟨Nat.zero_le _, Nat.zero_le _⟩) ?_
      refine lv_if_ne (pc := 23) (tgt := 29) hx hb dX3_pass_23 (by decide) (fun c_3 => ?_) (fun c_3 => ?_)
      · skip
        have c_3 : ¬ 99999 < f 3 + x := Classical.not_not.mp (fun h9 => c_3 (b_i_0.mpr h9))
        refine lv_aload_n (pc := 29) hx hb dX3_pass_29 rfl (lv_at hl 0 rfl) ?_
        refine va_get (pc := 30) (D := D) (ci := 3) (v := .ref (ad 7)) (C := RX3) (T := TX3) (N := 6) hx hb hts hi_X3_pass_ok_X3 hown hK hP 0 rfl rfl 3 (by decide) (hts _ hw_X3_pass_ok_2) (fun _ h9 => h9) rfl dX3_pass_30 ?_
        refine lv_aload_n (pc := 33) hx hb dX3_pass_33 rfl (lv_at hl 0 rfl) ?_
        refine va_get (pc := 34) (D := D) (ci := 3) (v := .ref (ad 1)) (C := RX3) (T := TX3) (N := 6) hx hb hts hi_X3_pass_ok_X3 hown hK hP 0 rfl rfl 0 (by decide) (hts _ hw_X3_pass_ok_0) (fun _ h9 => h9) rfl dX3_pass_34 ?_
        refine va_get (pc := 37) (D := D) (ci := 0) (v := .ref (ad 2)) (C := RX0) (T := TX0) (N := 1) hx hb hts hi_X3_pass_ok_X0 hown hK hP 1 rfl rfl 0 (by decide) (hts _ hw_X3_pass_ok_3) (fun _ h9 => h9) rfl dX3_pass_37 ?_
        refine b_cV (pc := 40) (w1 := [((ad 7), .inr (1, [.ref (ad 8), .int (nI (h_nx nx)), .int (nI (h_sz sn))])), ((ad 8), .inl (cG, 6, .inr (.inr (.inr (.inr (fun i => ([(ad 9), (ad 10), (ad 11), (ad 12), (ad 13), (ad 14)] : List Nat)[i]?)))))), ((ad 9), .inl (cI, 86, .inl (va_up R nx (va_cpy f (R nx) 0 0 86) 0))), ((ad 10), .inl (cI, 86, .inl (va_up R nx (va_cpy f (R nx) 0 0 86) 1))), ((ad 11), .inl (cI, 86, .inl (va_up R nx (va_cpy f (R nx) 0 0 86) 2))), ((ad 12), .inl (cI, 86, .inl (va_up R nx (va_cpy f (R nx) 0 0 86) 3))), ((ad 13), .inl (cI, 86, .inl (va_up R nx (va_cpy f (R nx) 0 0 86) 4))), ((ad 14), .inl (cI, 86, .inl (va_up R nx (va_cpy f (R nx) 0 0 86) 5))), ((ad 2), .inl (cI, 86, .inl f))]) (va_runV (As := [.ref (ad 2)]) (rest := []) ⟨hx, hb, hml, hown, hts⟩ (c_X1_keep l D cI cC cZ cG tb lo hi s.heap.size (ad 7) (ad 8) (ad 9) (ad 10) (ad 11) (ad 12) (ad 13) (ad 14) nx sn R (ad 2) f (by omega) (by omega)) (cwV 1 hts gX3_pass_X1_keep rfl rfl rfl hy_X1_keep ⟨Nat.le_of_ble_eq_true rfl, Nat.le_of_ble_eq_true rfl⟩) (b_pWV (wc := [((ad 7), .inr (1, [.ref (ad 8), .int (nI nx), .int (nI sn)])), ((ad 8), .inl (cG, 6, .inr (.inr (.inr (.inr (fun i => ([(ad 9), (ad 10), (ad 11), (ad 12), (ad 13), (ad 14)] : List Nat)[i]?)))))), ((ad 9), .inl (cI, 86, .inl (R 0))), ((ad 10), .inl (cI, 86, .inl (R 1))), ((ad 11), .inl (cI, 86, .inl (R 2))), ((ad 12), .inl (cI, 86, .inl (R 3))), ((ad 13), .inl (cI, 86, .inl (R 4))), ((ad 14), .inl (cI, 86, .inl (R 5))), ((ad 2), .inl (cI, 86, .inl f))]) hK hP hD (b_Xok_X tb lo hi) [7, 8, 9, 10, 11, 12, 13, 14, 2] rfl (by decide) rfl (b_Xc hX hD hS hA [7, 8, 9, 10, 11, 12, 13, 14, 2] rfl) (ci := 1) (q0 := 0) rfl rfl) rfl rfl hl.1 rfl (lv_room (Nat.le_of_ble_eq_true rfl)) dX3_pass_40 ⟨Nat.zero_le _, Nat.zero_le _⟩) hP hD hS hA [7, 8, 9, 10, 11, 12, 13, 14, 2] rfl rfl (fun H locs hP hD hS => ?_)
        have hP : va_P D vwCl [((ad 0), .inr (3, [.ref (ad 1), .ref (ad 3), .ref (ad 5), .ref (ad 7), .ref (ad 15), .ref (ad 18)])), ((ad 1), .inr (0, [.ref (ad 2)])), ((ad 2), .inl (cI, 86, .inl f)), ((ad 3), .inr (0, [.ref (ad 4)])), ((ad 4), .inl (cI, 86, .inl f2)), ((ad 5), .inr (2, [.ref (ad 6), .int (nI n)])), ((ad 6), .inl (cC, 60, .inl tx)), ((ad 7), .inr (1, [.ref (ad 8), .int (nI (h_nx nx)), .int (nI (h_sz sn))])), ((ad 8), .inl (cG, 6, .inr (.inr (.inr (.inr (fun i => ([(ad 9), (ad 10), (ad 11), (ad 12), (ad 13), (ad 14)] : List Nat)[i]?)))))), ((ad 9), .inl (cI, 86, .inl (va_up R nx (va_cpy f (R nx) 0 0 86) 0))), ((ad 10), .inl (cI, 86, .inl (va_up R nx (va_cpy f (R nx) 0 0 86) 1))), ((ad 11), .inl (cI, 86, .inl (va_up R nx (va_cpy f (R nx) 0 0 86) 2))), ((ad 12), .inl (cI, 86, .inl (va_up R nx (va_cpy f (R nx) 0 0 86) 3))), ((ad 13), .inl (cI, 86, .inl (va_up R nx (va_cpy f (R nx) 0 0 86) 4))), ((ad 14), .inl (cI, 86, .inl (va_up R nx (va_cpy f (R nx) 0 0 86) 5))), ((ad 15), .inl (cG, 2, .inr (.inr (.inr (.inr (fun i => ([(ad 16), (ad 17)] : List Nat)[i]?)))))), ((ad 16), .inl (cI, 86, .inl (SL 0))), ((ad 17), .inl (cI, 86, .inl (SL 1))), ((ad 18), .inl (cZ, 2, .inl sv))] H := hP
        have hD : va_D A [((ad 0), .inr (3, [.ref (ad 1), .ref (ad 3), .ref (ad 5), .ref (ad 7), .ref (ad 15), .ref (ad 18)])), ((ad 1), .inr (0, [.ref (ad 2)])), ((ad 2), .inl (cI, 86, .inl f)), ((ad 3), .inr (0, [.ref (ad 4)])), ((ad 4), .inl (cI, 86, .inl f2)), ((ad 5), .inr (2, [.ref (ad 6), .int (nI n)])), ((ad 6), .inl (cC, 60, .inl tx)), ((ad 7), .inr (1, [.ref (ad 8), .int (nI (h_nx nx)), .int (nI (h_sz sn))])), ((ad 8), .inl (cG, 6, .inr (.inr (.inr (.inr (fun i => ([(ad 9), (ad 10), (ad 11), (ad 12), (ad 13), (ad 14)] : List Nat)[i]?)))))), ((ad 9), .inl (cI, 86, .inl (va_up R nx (va_cpy f (R nx) 0 0 86) 0))), ((ad 10), .inl (cI, 86, .inl (va_up R nx (va_cpy f (R nx) 0 0 86) 1))), ((ad 11), .inl (cI, 86, .inl (va_up R nx (va_cpy f (R nx) 0 0 86) 2))), ((ad 12), .inl (cI, 86, .inl (va_up R nx (va_cpy f (R nx) 0 0 86) 3))), ((ad 13), .inl (cI, 86, .inl (va_up R nx (va_cpy f (R nx) 0 0 86) 4))), ((ad 14), .inl (cI, 86, .inl (va_up R nx (va_cpy f (R nx) 0 0 86) 5))), ((ad 15), .inl (cG, 2, .inr (.inr (.inr (.inr (fun i => ([(ad 16), (ad 17)] : List Nat)[i]?)))))), ((ad 16), .inl (cI, 86, .inl (SL 0))), ((ad 17), .inl (cI, 86, .inl (SL 1))), ((ad 18), .inl (cZ, 2, .inl sv))] := hD
        refine lv_aload_n (pc := 43) hx hb dX3_pass_43 rfl (lv_at hl 0 rfl) ?_
        refine va_get (pc := 44) (D := D) (ci := 3) (v := .ref (ad 1)) (C := RX3) (T := TX3) (N := 6) hx hb hts hi_X3_pass_ok_X3 hown hK hP 0 rfl rfl 0 (by decide) (hts _ hw_X3_pass_ok_0) (fun _ h9 => h9) rfl dX3_pass_44 ?_
        refine lv_iload_n (pc := 47) hx hb dX3_pass_47 rfl (lv_at hl 1 rfl) ?_
        refine b_cV (pc := 48) (w1 := [((ad 1), .inr (0, [.ref (ad 2)])), ((ad 2), .inl (cI, 86, .inl (h_goBy f x)))]) (va_runV (As := [.int x]) (rest := []) ⟨hx, hb, hml, hown, hts⟩ (c_X0_goBy l D cI cC cZ cG tb lo hi H.size (ad 1) (ad 2) f x) (cwV 1 hts gX3_pass_X0_goBy rfl rfl rfl hy_X0_goBy ⟨Nat.le_of_ble_eq_true rfl, Nat.le_of_ble_eq_true rfl⟩) (b_pWV (wc := [((ad 1), .inr (0, [.ref (ad 2)])), ((ad 2), .inl (cI, 86, .inl f))]) hK hP hD (b_Xok_X tb lo hi) [1, 2] rfl (by decide) rfl (b_Xc hX hD hS hA [1, 2] rfl) (ci := 0) (q0 := 0) rfl rfl) rfl rfl hl.1 rfl (lv_room (Nat.le_of_ble_eq_true rfl)) dX3_pass_48 ⟨Nat.zero_le _, Nat.zero_le _⟩) hP hD hS hA [1, 2] rfl rfl (fun H locs hP hD hS => ?_)
        have hP : va_P D vwCl [((ad 0), .inr (3, [.ref (ad 1), .ref (ad 3), .ref (ad 5), .ref (ad 7), .ref (ad 15), .ref (ad 18)])), ((ad 1), .inr (0, [.ref (ad 2)])), ((ad 2), .inl (cI, 86, .inl (h_goBy f x))), ((ad 3), .inr (0, [.ref (ad 4)])), ((ad 4), .inl (cI, 86, .inl f2)), ((ad 5), .inr (2, [.ref (ad 6), .int (nI n)])), ((ad 6), .inl (cC, 60, .inl tx)), ((ad 7), .inr (1, [.ref (ad 8), .int (nI (h_nx nx)), .int (nI (h_sz sn))])), ((ad 8), .inl (cG, 6, .inr (.inr (.inr (.inr (fun i => ([(ad 9), (ad 10), (ad 11), (ad 12), (ad 13), (ad 14)] : List Nat)[i]?)))))), ((ad 9), .inl (cI, 86, .inl (va_up R nx (va_cpy f (R nx) 0 0 86) 0))), ((ad 10), .inl (cI, 86, .inl (va_up R nx (va_cpy f (R nx) 0 0 86) 1))), ((ad 11), .inl (cI, 86, .inl (va_up R nx (va_cpy f (R nx) 0 0 86) 2))), ((ad 12), .inl (cI, 86, .inl (va_up R nx (va_cpy f (R nx) 0 0 86) 3))), ((ad 13), .inl (cI, 86, .inl (va_up R nx (va_cpy f (R nx) 0 0 86) 4))), ((ad 14), .inl (cI, 86, .inl (va_up R nx (va_cpy f (R nx) 0 0 86) 5))), ((ad 15), .inl (cG, 2, .inr (.inr (.inr (.inr (fun i => ([(ad 16), (ad 17)] : List Nat)[i]?)))))), ((ad 16), .inl (cI, 86, .inl (SL 0))), ((ad 17), .inl (cI, 86, .inl (SL 1))), ((ad 18), .inl (cZ, 2, .inl sv))] H := hP
        have hD : va_D A [((ad 0), .inr (3, [.ref (ad 1), .ref (ad 3), .ref (ad 5), .ref (ad 7), .ref (ad 15), .ref (ad 18)])), ((ad 1), .inr (0, [.ref (ad 2)])), ((ad 2), .inl (cI, 86, .inl (h_goBy f x))), ((ad 3), .inr (0, [.ref (ad 4)])), ((ad 4), .inl (cI, 86, .inl f2)), ((ad 5), .inr (2, [.ref (ad 6), .int (nI n)])), ((ad 6), .inl (cC, 60, .inl tx)), ((ad 7), .inr (1, [.ref (ad 8), .int (nI (h_nx nx)), .int (nI (h_sz sn))])), ((ad 8), .inl (cG, 6, .inr (.inr (.inr (.inr (fun i => ([(ad 9), (ad 10), (ad 11), (ad 12), (ad 13), (ad 14)] : List Nat)[i]?)))))), ((ad 9), .inl (cI, 86, .inl (va_up R nx (va_cpy f (R nx) 0 0 86) 0))), ((ad 10), .inl (cI, 86, .inl (va_up R nx (va_cpy f (R nx) 0 0 86) 1))), ((ad 11), .inl (cI, 86, .inl (va_up R nx (va_cpy f (R nx) 0 0 86) 2))), ((ad 12), .inl (cI, 86, .inl (va_up R nx (va_cpy f (R nx) 0 0 86) 3))), ((ad 13), .inl (cI, 86, .inl (va_up R nx (va_cpy f (R nx) 0 0 86) 4))), ((ad 14), .inl (cI, 86, .inl (va_up R nx (va_cpy f (R nx) 0 0 86) 5))), ((ad 15), .inl (cG, 2, .inr (.inr (.inr (.inr (fun i => ([(ad 16), (ad 17)] : List Nat)[i]?)))))), ((ad 16), .inl (cI, 86, .inl (SL 0))), ((ad 17), .inl (cI, 86, .inl (SL 1))), ((ad 18), .inl (cZ, 2, .inl sv))] := hD
        obtain ⟨f_4, ef_4⟩ : ∃ z9 : Nat → Int32, z9 = h_goBy f x := ⟨_, rfl⟩
        have hP : va_P D vwCl [((ad 0), .inr (3, [.ref (ad 1), .ref (ad 3), .ref (ad 5), .ref (ad 7), .ref (ad 15), .ref (ad 18)])), ((ad 1), .inr (0, [.ref (ad 2)])), ((ad 2), .inl (cI, 86, .inl f_4)), ((ad 3), .inr (0, [.ref (ad 4)])), ((ad 4), .inl (cI, 86, .inl f2)), ((ad 5), .inr (2, [.ref (ad 6), .int (nI n)])), ((ad 6), .inl (cC, 60, .inl tx)), ((ad 7), .inr (1, [.ref (ad 8), .int (nI (h_nx nx)), .int (nI (h_sz sn))])), ((ad 8), .inl (cG, 6, .inr (.inr (.inr (.inr (fun i => ([(ad 9), (ad 10), (ad 11), (ad 12), (ad 13), (ad 14)] : List Nat)[i]?)))))), ((ad 9), .inl (cI, 86, .inl (va_up R nx (va_cpy f (R nx) 0 0 86) 0))), ((ad 10), .inl (cI, 86, .inl (va_up R nx (va_cpy f (R nx) 0 0 86) 1))), ((ad 11), .inl (cI, 86, .inl (va_up R nx (va_cpy f (R nx) 0 0 86) 2))), ((ad 12), .inl (cI, 86, .inl (va_up R nx (va_cpy f (R nx) 0 0 86) 3))), ((ad 13), .inl (cI, 86, .inl (va_up R nx (va_cpy f (R nx) 0 0 86) 4))), ((ad 14), .inl (cI, 86, .inl (va_up R nx (va_cpy f (R nx) 0 0 86) 5))), ((ad 15), .inl (cG, 2, .inr (.inr (.inr (.inr (fun i => ([(ad 16), (ad 17)] : List Nat)[i]?)))))), ((ad 16), .inl (cI, 86, .inl (SL 0))), ((ad 17), .inl (cI, 86, .inl (SL 1))), ((ad 18), .inl (cZ, 2, .inl sv))] H := by rw [ef_4]; exact hP
        have hD : va_D A [((ad 0), .inr (3, [.ref (ad 1), .ref (ad 3), .ref (ad 5), .ref (ad 7), .ref (ad 15), .ref (ad 18)])), ((ad 1), .inr (0, [.ref (ad 2)])), ((ad 2), .inl (cI, 86, .inl f_4)), ((ad 3), .inr (0, [.ref (ad 4)])), ((ad 4), .inl (cI, 86, .inl f2)), ((ad 5), .inr (2, [.ref (ad 6), .int (nI n)])), ((ad 6), .inl (cC, 60, .inl tx)), ((ad 7), .inr (1, [.ref (ad 8), .int (nI (h_nx nx)), .int (nI (h_sz sn))])), ((ad 8), .inl (cG, 6, .inr (.inr (.inr (.inr (fun i => ([(ad 9), (ad 10), (ad 11), (ad 12), (ad 13), (ad 14)] : List Nat)[i]?)))))), ((ad 9), .inl (cI, 86, .inl (va_up R nx (va_cpy f (R nx) 0 0 86) 0))), ((ad 10), .inl (cI, 86, .inl (va_up R nx (va_cpy f (R nx) 0 0 86) 1))), ((ad 11), .inl (cI, 86, .inl (va_up R nx (va_cpy f (R nx) 0 0 86) 2))), ((ad 12), .inl (cI, 86, .inl (va_up R nx (va_cpy f (R nx) 0 0 86) 3))), ((ad 13), .inl (cI, 86, .inl (va_up R nx (va_cpy f (R nx) 0 0 86) 4))), ((ad 14), .inl (cI, 86, .inl (va_up R nx (va_cpy f (R nx) 0 0 86) 5))), ((ad 15), .inl (cG, 2, .inr (.inr (.inr (.inr (fun i => ([(ad 16), (ad 17)] : List Nat)[i]?)))))), ((ad 16), .inl (cI, 86, .inl (SL 0))), ((ad 17), .inl (cI, 86, .inl (SL 1))), ((ad 18), .inl (cZ, 2, .inl sv))] := by rw [ef_4]; exact hD
        refine lv_aload_n (pc := 51) hx hb dX3_pass_51 rfl (lv_at hl 0 rfl) ?_
        refine va_get (pc := 52) (D := D) (ci := 3) (v := .ref (ad 1)) (C := RX3) (T := TX3) (N := 6) hx hb hts hi_X3_pass_ok_X3 hown hK hP 0 rfl rfl 0 (by decide) (hts _ hw_X3_pass_ok_0) (fun _ h9 => h9) rfl dX3_pass_52 ?_
        refine b_cR (pc := 55) (va_runV (As := []) (rest := []) ⟨hx, hb, hml, hown, hts⟩ (c_X0_blockedMask l D cI cC cZ cG (ad 1) (ad 2) f_4) (cwV 0 hts gX3_pass_X0_blockedMask rfl rfl rfl hy_X0_blockedMask ⟨Nat.le_of_ble_eq_true rfl, Nat.le_of_ble_eq_true rfl⟩) (b_pRV (wc := [((ad 1), .inr (0, [.ref (ad 2)])), ((ad 2), .inl (cI, 86, .inl f_4))]) hK hP [1, 2] rfl (ci := 0) (q0 := 0) rfl rfl) rfl rfl hl.1 rfl (lv_room (Nat.le_of_ble_eq_true rfl)) dX3_pass_55 ⟨Nat.zero_le _, Nat.zero_le _⟩) ?_
        refine b_cR (pc := 58) (va_runS (As := [.int (h_bm f_4 6)]) (rest := []) ⟨hx, hb, hml, hown, hts⟩ (c_J6_bitCount_0f7a4 l D cI cC cZ cG (h_bm f_4 6)) (va_cwS 1 hts gX3_pass_J6_bitCount_0f7a4 rfl rfl rfl hyS_J6_bitCount_0f7a4 ⟨Nat.le_of_ble_eq_true rfl, Nat.le_of_ble_eq_true rfl⟩) (b_pRS (wc := []) hK hP [] rfl) rfl rfl hl.1 rfl (lv_room (Nat.le_of_ble_eq_true rfl)) dX3_pass_58 ⟨Nat.zero_le _, Nat.zero_le _⟩) ?_
        subst ef_4
        subst hQ
        exact b_retW hx hb hr hlocks hS (rfl) (hP) dX3_pass_61
      · skip
        have c_3 : ¬ (¬ 99999 < f 3 + x) := b_i_0.mp c_3
        exact absurd h3 c_3
    · skip
      have c_2 : ¬ (x ≤ 999) := c_2
      exact absurd h2 c_2
theorem hw_X3_read_bad_0 : (.fieldLink RX3 22 "BeamTurnstiles" "pad" "LBeamTurnstiles$Pad;" : Cond) ∈ wsX3_read := by decide +kernel
theorem hi_X3_read_bad_X3 : ∀ w ∈ wsX30, w ∈ wsX3_read := by decide +kernel
set_option maxHeartbeats 4000000 in
set_option maxRecDepth 100000 in
theorem c_X3_read_bad (l : Launch) (D : va_G) (cI cC cZ cG : ClassId) (ad : Nat → Nat) (f : Nat → Int32) (f2 : Nat → Int32) (tx : Nat → Int32) (n : Nat) (nx : Nat) (sn : Nat) (R : Nat → Nat → Int32) (SL : Nat → Nat → Int32) (sv : Nat → Int32) (hn60 : n ≤ 60) (hnx : nx < 6) (hsn : sn ≤ 6) (hbad : ¬ p_ff tx n n 0 0 = -6) : Met l yX3_read wsX3_read ({ frames := 3, cells := 0, slots := 0, locals := 63 } : Room) (b_R D (b_T cI cC cZ cG) [((ad 0), .inr (3, [.ref (ad 1), .ref (ad 3), .ref (ad 5), .ref (ad 7), .ref (ad 15), .ref (ad 18)])), ((ad 1), .inr (0, [.ref (ad 2)])), ((ad 2), .inl (cI, 86, .inl f)), ((ad 3), .inr (0, [.ref (ad 4)])), ((ad 4), .inl (cI, 86, .inl f2)), ((ad 5), .inr (2, [.ref (ad 6), .int (nI n)])), ((ad 6), .inl (cC, 60, .inl tx)), ((ad 7), .inr (1, [.ref (ad 8), .int (nI nx), .int (nI sn)])), ((ad 8), .inl (cG, 6, .inr (.inr (.inr (.inr (fun i => ([(ad 9), (ad 10), (ad 11), (ad 12), (ad 13), (ad 14)] : List Nat)[i]?)))))), ((ad 9), .inl (cI, 86, .inl (R 0))), ((ad 10), .inl (cI, 86, .inl (R 1))), ((ad 11), .inl (cI, 86, .inl (R 2))), ((ad 12), .inl (cI, 86, .inl (R 3))), ((ad 13), .inl (cI, 86, .inl (R 4))), ((ad 14), .inl (cI, 86, .inl (R 5))), ((ad 15), .inl (cG, 2, .inr (.inr (.inr (.inr (fun i => ([(ad 16), (ad 17)] : List Nat)[i]?)))))), ((ad 16), .inl (cI, 86, .inl (SL 0))), ((ad 17), .inl (cI, 86, .inl (SL 1))), ((ad 18), .inl (cZ, 2, .inl sv))] [.ref (ad 0)]) (vp_Si (fun r => r = -3)) 0 0 (fun _ => False) := by
  refine b_enterR (cc := cX3_read) (maxL := 2) (ret := (some .int)) (by decide) rfl (Nat.le_of_ble_eq_true rfl) ?_
  intro p e s m below meth c ls hx hb hr hml hown hts hlocks hP hK hl Q hQ
  have hown : s.vm.findClass RX3 = some m.cls := hown
  have hl : lv_has ls 2 [(0, .ref (ad 0))] := hl
  refine lv_aload_n (pc := 0) hx hb dX3_read_0 rfl (lv_at hl 0 rfl) ?_
  refine va_get (pc := 1) (D := D) (ci := 3) (v := .ref (ad 5)) (C := RX3) (T := TX3) (N := 6) hx hb hts hi_X3_read_bad_X3 hown hK hP 0 rfl rfl 2 (by decide) (hts _ hw_X3_read_bad_0) (fun _ h9 => h9) rfl dX3_read_1 ?_
  refine b_cR (pc := 4) (va_runV (As := []) (rest := []) ⟨hx, hb, hml, hown, hts⟩ (c_X2_firstFault l D cI cC cZ cG (ad 5) (ad 6) n tx (by omega)) (cwV 0 hts gX3_read_X2_firstFault rfl rfl rfl hy_X2_firstFault ⟨Nat.le_of_ble_eq_true rfl, Nat.le_of_ble_eq_true rfl⟩) (b_pRV (wc := [((ad 5), .inr (2, [.ref (ad 6), .int (nI n)])), ((ad 6), .inl (cC, 60, .inl tx))]) hK hP [5, 6] rfl (ci := 2) (q0 := 0) rfl rfl) rfl rfl hl.1 rfl (lv_room (Nat.le_of_ble_eq_true rfl)) dX3_read_4 ⟨Nat.zero_le _, Nat.zero_le _⟩) ?_
  refine lv_bipush (pc := 7) (v := (-6)) hx hb dX3_read_7 (by decide) ?_
  refine lv_icmp_eq (pc := 9) (tgt := 15) hx hb dX3_read_9 (by decide) (fun c_1 => ?_) (fun c_1 => ?_)
  · skip
    have c_1 : (p_ff tx n n 0 0) = (-6) := c_1
    exact absurd c_1 hbad
  · skip
    have c_1 : ¬ ((p_ff tx n n 0 0) = (-6)) := c_1
    refine lv_bipush (pc := 12) (v := (-3)) hx hb dX3_read_12 (by decide) ?_
    subst hQ
    exact b_retR hx hb hr hlocks (rfl) dX3_read_14
theorem hw_X3_read_ok_0 : (.fieldLink RX3 22 "BeamTurnstiles" "pad" "LBeamTurnstiles$Pad;" : Cond) ∈ wsX3_read := by decide +kernel
theorem hi_X3_read_ok_X3 : ∀ w ∈ wsX30, w ∈ wsX3_read := by decide +kernel
theorem hw_X3_read_ok_2 : (.fieldLink RX3 29 "BeamTurnstiles" "history" "LBeamTurnstiles$History;" : Cond) ∈ wsX3_read := by decide +kernel
theorem hw_X3_read_ok_3 : (.fieldLink RX3 10 "BeamTurnstiles" "hall" "LBeamTurnstiles$Hall;" : Cond) ∈ wsX3_read := by decide +kernel
theorem hw_X3_read_ok_4 : (.fieldLink RX3 49 "BeamTurnstiles$Hall" "row" "[I" : Cond) ∈ wsX3_read := by decide +kernel
theorem hi_X3_read_ok_X0 : ∀ w ∈ wsX00, w ∈ wsX3_read := by decide +kernel
set_option maxHeartbeats 4000000 in
set_option maxRecDepth 100000 in
theorem c_X3_read_ok (l : Launch) (D : va_G) (cI cC cZ cG : ClassId) (tb lo hi : Nat) (sz : Nat) (ad : Nat → Nat) (f : Nat → Int32) (f2 : Nat → Int32) (tx : Nat → Int32) (n : Nat) (nx : Nat) (sn : Nat) (R : Nat → Nat → Int32) (SL : Nat → Nat → Int32) (sv : Nat → Int32) (hn60 : n ≤ 60) (hnx : nx < 6) (hsn : sn ≤ 6) (hbad : p_ff tx n n 0 0 = -6) : Met l yX3_read wsX3_read ({ frames := 6, cells := 0, slots := 0, locals := 139 } : Room) (b_W D (b_T cI cC cZ cG) (b_X tb lo hi) [((ad 0), .inr (3, [.ref (ad 1), .ref (ad 3), .ref (ad 5), .ref (ad 7), .ref (ad 15), .ref (ad 18)])), ((ad 1), .inr (0, [.ref (ad 2)])), ((ad 2), .inl (cI, 86, .inl f)), ((ad 3), .inr (0, [.ref (ad 4)])), ((ad 4), .inl (cI, 86, .inl f2)), ((ad 5), .inr (2, [.ref (ad 6), .int (nI n)])), ((ad 6), .inl (cC, 60, .inl tx)), ((ad 7), .inr (1, [.ref (ad 8), .int (nI nx), .int (nI sn)])), ((ad 8), .inl (cG, 6, .inr (.inr (.inr (.inr (fun i => ([(ad 9), (ad 10), (ad 11), (ad 12), (ad 13), (ad 14)] : List Nat)[i]?)))))), ((ad 9), .inl (cI, 86, .inl (R 0))), ((ad 10), .inl (cI, 86, .inl (R 1))), ((ad 11), .inl (cI, 86, .inl (R 2))), ((ad 12), .inl (cI, 86, .inl (R 3))), ((ad 13), .inl (cI, 86, .inl (R 4))), ((ad 14), .inl (cI, 86, .inl (R 5))), ((ad 15), .inl (cG, 2, .inr (.inr (.inr (.inr (fun i => ([(ad 16), (ad 17)] : List Nat)[i]?)))))), ((ad 16), .inl (cI, 86, .inl (SL 0))), ((ad 17), .inl (cI, 86, .inl (SL 1))), ((ad 18), .inl (cZ, 2, .inl sv))] sz [.ref (ad 0)]) (b_Qi D ((p_hap tx n (n + 1) 0 0 f 0).2) [((ad 0), .inr (3, [.ref (ad 1), .ref (ad 3), .ref (ad 5), .ref (ad 7), .ref (ad 15), .ref (ad 18)])), ((ad 1), .inr (0, [.ref (ad 2)])), ((ad 2), .inl (cI, 86, .inl ((p_hap tx n (n + 1) 0 0 f 0).1))), ((ad 3), .inr (0, [.ref (ad 4)])), ((ad 4), .inl (cI, 86, .inl f2)), ((ad 5), .inr (2, [.ref (ad 6), .int (nI 0)])), ((ad 6), .inl (cC, 60, .inl tx)), ((ad 7), .inr (1, [.ref (ad 8), .int (nI (h_nx nx)), .int (nI (h_sz sn))])), ((ad 8), .inl (cG, 6, .inr (.inr (.inr (.inr (fun i => ([(ad 9), (ad 10), (ad 11), (ad 12), (ad 13), (ad 14)] : List Nat)[i]?)))))), ((ad 9), .inl (cI, 86, .inl (va_up R nx (va_cpy f (R nx) 0 0 86) 0))), ((ad 10), .inl (cI, 86, .inl (va_up R nx (va_cpy f (R nx) 0 0 86) 1))), ((ad 11), .inl (cI, 86, .inl (va_up R nx (va_cpy f (R nx) 0 0 86) 2))), ((ad 12), .inl (cI, 86, .inl (va_up R nx (va_cpy f (R nx) 0 0 86) 3))), ((ad 13), .inl (cI, 86, .inl (va_up R nx (va_cpy f (R nx) 0 0 86) 4))), ((ad 14), .inl (cI, 86, .inl (va_up R nx (va_cpy f (R nx) 0 0 86) 5))), ((ad 15), .inl (cG, 2, .inr (.inr (.inr (.inr (fun i => ([(ad 16), (ad 17)] : List Nat)[i]?)))))), ((ad 16), .inl (cI, 86, .inl (SL 0))), ((ad 17), .inl (cI, 86, .inl (SL 1))), ((ad 18), .inl (cZ, 2, .inl sv))] (va_A [((ad 0), .inr (3, [.ref (ad 1), .ref (ad 3), .ref (ad 5), .ref (ad 7), .ref (ad 15), .ref (ad 18)])), ((ad 1), .inr (0, [.ref (ad 2)])), ((ad 2), .inl (cI, 86, .inl f)), ((ad 3), .inr (0, [.ref (ad 4)])), ((ad 4), .inl (cI, 86, .inl f2)), ((ad 5), .inr (2, [.ref (ad 6), .int (nI n)])), ((ad 6), .inl (cC, 60, .inl tx)), ((ad 7), .inr (1, [.ref (ad 8), .int (nI nx), .int (nI sn)])), ((ad 8), .inl (cG, 6, .inr (.inr (.inr (.inr (fun i => ([(ad 9), (ad 10), (ad 11), (ad 12), (ad 13), (ad 14)] : List Nat)[i]?)))))), ((ad 9), .inl (cI, 86, .inl (R 0))), ((ad 10), .inl (cI, 86, .inl (R 1))), ((ad 11), .inl (cI, 86, .inl (R 2))), ((ad 12), .inl (cI, 86, .inl (R 3))), ((ad 13), .inl (cI, 86, .inl (R 4))), ((ad 14), .inl (cI, 86, .inl (R 5))), ((ad 15), .inl (cG, 2, .inr (.inr (.inr (.inr (fun i => ([(ad 16), (ad 17)] : List Nat)[i]?)))))), ((ad 16), .inl (cI, 86, .inl (SL 0))), ((ad 17), .inl (cI, 86, .inl (SL 1))), ((ad 18), .inl (cZ, 2, .inl sv))] sz)) 0 0 (va_A [((ad 0), .inr (3, [.ref (ad 1), .ref (ad 3), .ref (ad 5), .ref (ad 7), .ref (ad 15), .ref (ad 18)])), ((ad 1), .inr (0, [.ref (ad 2)])), ((ad 2), .inl (cI, 86, .inl f)), ((ad 3), .inr (0, [.ref (ad 4)])), ((ad 4), .inl (cI, 86, .inl f2)), ((ad 5), .inr (2, [.ref (ad 6), .int (nI n)])), ((ad 6), .inl (cC, 60, .inl tx)), ((ad 7), .inr (1, [.ref (ad 8), .int (nI nx), .int (nI sn)])), ((ad 8), .inl (cG, 6, .inr (.inr (.inr (.inr (fun i => ([(ad 9), (ad 10), (ad 11), (ad 12), (ad 13), (ad 14)] : List Nat)[i]?)))))), ((ad 9), .inl (cI, 86, .inl (R 0))), ((ad 10), .inl (cI, 86, .inl (R 1))), ((ad 11), .inl (cI, 86, .inl (R 2))), ((ad 12), .inl (cI, 86, .inl (R 3))), ((ad 13), .inl (cI, 86, .inl (R 4))), ((ad 14), .inl (cI, 86, .inl (R 5))), ((ad 15), .inl (cG, 2, .inr (.inr (.inr (.inr (fun i => ([(ad 16), (ad 17)] : List Nat)[i]?)))))), ((ad 16), .inl (cI, 86, .inl (SL 0))), ((ad 17), .inl (cI, 86, .inl (SL 1))), ((ad 18), .inl (cZ, 2, .inl sv))] sz) := by
  refine b_enterW (Qc := fun A => b_Qi D ((p_hap tx n (n + 1) 0 0 f 0).2) [((ad 0), .inr (3, [.ref (ad 1), .ref (ad 3), .ref (ad 5), .ref (ad 7), .ref (ad 15), .ref (ad 18)])), ((ad 1), .inr (0, [.ref (ad 2)])), ((ad 2), .inl (cI, 86, .inl ((p_hap tx n (n + 1) 0 0 f 0).1))), ((ad 3), .inr (0, [.ref (ad 4)])), ((ad 4), .inl (cI, 86, .inl f2)), ((ad 5), .inr (2, [.ref (ad 6), .int (nI 0)])), ((ad 6), .inl (cC, 60, .inl tx)), ((ad 7), .inr (1, [.ref (ad 8), .int (nI (h_nx nx)), .int (nI (h_sz sn))])), ((ad 8), .inl (cG, 6, .inr (.inr (.inr (.inr (fun i => ([(ad 9), (ad 10), (ad 11), (ad 12), (ad 13), (ad 14)] : List Nat)[i]?)))))), ((ad 9), .inl (cI, 86, .inl (va_up R nx (va_cpy f (R nx) 0 0 86) 0))), ((ad 10), .inl (cI, 86, .inl (va_up R nx (va_cpy f (R nx) 0 0 86) 1))), ((ad 11), .inl (cI, 86, .inl (va_up R nx (va_cpy f (R nx) 0 0 86) 2))), ((ad 12), .inl (cI, 86, .inl (va_up R nx (va_cpy f (R nx) 0 0 86) 3))), ((ad 13), .inl (cI, 86, .inl (va_up R nx (va_cpy f (R nx) 0 0 86) 4))), ((ad 14), .inl (cI, 86, .inl (va_up R nx (va_cpy f (R nx) 0 0 86) 5))), ((ad 15), .inl (cG, 2, .inr (.inr (.inr (.inr (fun i => ([(ad 16), (ad 17)] : List Nat)[i]?)))))), ((ad 16), .inl (cI, 86, .inl (SL 0))), ((ad 17), .inl (cI, 86, .inl (SL 1))), ((ad 18), .inl (cZ, 2, .inl sv))] A) (cc := cX3_read) (maxL := 2) (ret := (some .int)) (by decide) rfl (Nat.le_of_ble_eq_true rfl) ?_
  intro p e s m below meth c ls A hx hb hr hml hown hts hlocks hname hP hK hD hA hS hX hl Q hQ
  have hown : s.vm.findClass RX3 = some m.cls := hown
  have hl : lv_has ls 2 [(0, .ref (ad 0))] := hl
  refine lv_aload_n (pc := 0) hx hb dX3_read_0 rfl (lv_at hl 0 rfl) ?_
  refine va_get (pc := 1) (D := D) (ci := 3) (v := .ref (ad 5)) (C := RX3) (T := TX3) (N := 6) hx hb hts hi_X3_read_ok_X3 hown hK hP 0 rfl rfl 2 (by decide) (hts _ hw_X3_read_ok_0) (fun _ h9 => h9) rfl dX3_read_1 ?_
  refine b_cR (pc := 4) (va_runV (As := []) (rest := []) ⟨hx, hb, hml, hown, hts⟩ (c_X2_firstFault l D cI cC cZ cG (ad 5) (ad 6) n tx (by omega)) (cwV 0 hts gX3_read_X2_firstFault rfl rfl rfl hy_X2_firstFault ⟨Nat.le_of_ble_eq_true rfl, Nat.le_of_ble_eq_true rfl⟩) (b_pRV (wc := [((ad 5), .inr (2, [.ref (ad 6), .int (nI n)])), ((ad 6), .inl (cC, 60, .inl tx))]) hK hP [5, 6] rfl (ci := 2) (q0 := 0) rfl rfl) rfl rfl hl.1 rfl (lv_room (Nat.le_of_ble_eq_true rfl)) dX3_read_4 ⟨Nat.zero_le _, Nat.zero_le _⟩) ?_
  refine lv_bipush (pc := 7) (v := (-6)) hx hb dX3_read_7 (by decide) ?_
  refine lv_icmp_eq (pc := 9) (tgt := 15) hx hb dX3_read_9 (by decide) (fun c_1 => ?_) (fun c_1 => ?_)
  · skip
    have c_1 : (p_ff tx n n 0 0) = (-6) := c_1
    refine lv_aload_n (pc := 15) hx hb dX3_read_15 rfl (lv_at hl 0 rfl) ?_
    refine va_get (pc := 16) (D := D) (ci := 3) (v := .ref (ad 7)) (C := RX3) (T := TX3) (N := 6) hx hb hts hi_X3_read_ok_X3 hown hK hP 0 rfl rfl 3 (by decide) (hts _ hw_X3_read_ok_2) (fun _ h9 => h9) rfl dX3_read_16 ?_
    refine lv_aload_n (pc := 19) hx hb dX3_read_19 rfl (lv_at hl 0 rfl) ?_
    refine va_get (pc := 20) (D := D) (ci := 3) (v := .ref (ad 1)) (C := RX3) (T := TX3) (N := 6) hx hb hts hi_X3_read_ok_X3 hown hK hP 0 rfl rfl 0 (by decide) (hts _ hw_X3_read_ok_3) (fun _ h9 => h9) rfl dX3_read_20 ?_
    refine va_get (pc := 23) (D := D) (ci := 0) (v := .ref (ad 2)) (C := RX0) (T := TX0) (N := 1) hx hb hts hi_X3_read_ok_X0 hown hK hP 1 rfl rfl 0 (by decide) (hts _ hw_X3_read_ok_4) (fun _ h9 => h9) rfl dX3_read_23 ?_
    refine b_cV (pc := 26) (w1 := [((ad 7), .inr (1, [.ref (ad 8), .int (nI (h_nx nx)), .int (nI (h_sz sn))])), ((ad 8), .inl (cG, 6, .inr (.inr (.inr (.inr (fun i => ([(ad 9), (ad 10), (ad 11), (ad 12), (ad 13), (ad 14)] : List Nat)[i]?)))))), ((ad 9), .inl (cI, 86, .inl (va_up R nx (va_cpy f (R nx) 0 0 86) 0))), ((ad 10), .inl (cI, 86, .inl (va_up R nx (va_cpy f (R nx) 0 0 86) 1))), ((ad 11), .inl (cI, 86, .inl (va_up R nx (va_cpy f (R nx) 0 0 86) 2))), ((ad 12), .inl (cI, 86, .inl (va_up R nx (va_cpy f (R nx) 0 0 86) 3))), ((ad 13), .inl (cI, 86, .inl (va_up R nx (va_cpy f (R nx) 0 0 86) 4))), ((ad 14), .inl (cI, 86, .inl (va_up R nx (va_cpy f (R nx) 0 0 86) 5))), ((ad 2), .inl (cI, 86, .inl f))]) (va_runV (As := [.ref (ad 2)]) (rest := []) ⟨hx, hb, hml, hown, hts⟩ (c_X1_keep l D cI cC cZ cG tb lo hi s.heap.size (ad 7) (ad 8) (ad 9) (ad 10) (ad 11) (ad 12) (ad 13) (ad 14) nx sn R (ad 2) f (by omega) (by omega)) (cwV 1 hts gX3_read_X1_keep rfl rfl rfl hy_X1_keep ⟨Nat.le_of_ble_eq_true rfl, Nat.le_of_ble_eq_true rfl⟩) (b_pWV (wc := [((ad 7), .inr (1, [.ref (ad 8), .int (nI nx), .int (nI sn)])), ((ad 8), .inl (cG, 6, .inr (.inr (.inr (.inr (fun i => ([(ad 9), (ad 10), (ad 11), (ad 12), (ad 13), (ad 14)] : List Nat)[i]?)))))), ((ad 9), .inl (cI, 86, .inl (R 0))), ((ad 10), .inl (cI, 86, .inl (R 1))), ((ad 11), .inl (cI, 86, .inl (R 2))), ((ad 12), .inl (cI, 86, .inl (R 3))), ((ad 13), .inl (cI, 86, .inl (R 4))), ((ad 14), .inl (cI, 86, .inl (R 5))), ((ad 2), .inl (cI, 86, .inl f))]) hK hP hD (b_Xok_X tb lo hi) [7, 8, 9, 10, 11, 12, 13, 14, 2] rfl (by decide) rfl (b_Xc hX hD hS hA [7, 8, 9, 10, 11, 12, 13, 14, 2] rfl) (ci := 1) (q0 := 0) rfl rfl) rfl rfl hl.1 rfl (lv_room (Nat.le_of_ble_eq_true rfl)) dX3_read_26 ⟨Nat.zero_le _, Nat.zero_le _⟩) hP hD hS hA [7, 8, 9, 10, 11, 12, 13, 14, 2] rfl rfl (fun H locs hP hD hS => ?_)
    have hP : va_P D vwCl [((ad 0), .inr (3, [.ref (ad 1), .ref (ad 3), .ref (ad 5), .ref (ad 7), .ref (ad 15), .ref (ad 18)])), ((ad 1), .inr (0, [.ref (ad 2)])), ((ad 2), .inl (cI, 86, .inl f)), ((ad 3), .inr (0, [.ref (ad 4)])), ((ad 4), .inl (cI, 86, .inl f2)), ((ad 5), .inr (2, [.ref (ad 6), .int (nI n)])), ((ad 6), .inl (cC, 60, .inl tx)), ((ad 7), .inr (1, [.ref (ad 8), .int (nI (h_nx nx)), .int (nI (h_sz sn))])), ((ad 8), .inl (cG, 6, .inr (.inr (.inr (.inr (fun i => ([(ad 9), (ad 10), (ad 11), (ad 12), (ad 13), (ad 14)] : List Nat)[i]?)))))), ((ad 9), .inl (cI, 86, .inl (va_up R nx (va_cpy f (R nx) 0 0 86) 0))), ((ad 10), .inl (cI, 86, .inl (va_up R nx (va_cpy f (R nx) 0 0 86) 1))), ((ad 11), .inl (cI, 86, .inl (va_up R nx (va_cpy f (R nx) 0 0 86) 2))), ((ad 12), .inl (cI, 86, .inl (va_up R nx (va_cpy f (R nx) 0 0 86) 3))), ((ad 13), .inl (cI, 86, .inl (va_up R nx (va_cpy f (R nx) 0 0 86) 4))), ((ad 14), .inl (cI, 86, .inl (va_up R nx (va_cpy f (R nx) 0 0 86) 5))), ((ad 15), .inl (cG, 2, .inr (.inr (.inr (.inr (fun i => ([(ad 16), (ad 17)] : List Nat)[i]?)))))), ((ad 16), .inl (cI, 86, .inl (SL 0))), ((ad 17), .inl (cI, 86, .inl (SL 1))), ((ad 18), .inl (cZ, 2, .inl sv))] H := hP
    have hD : va_D A [((ad 0), .inr (3, [.ref (ad 1), .ref (ad 3), .ref (ad 5), .ref (ad 7), .ref (ad 15), .ref (ad 18)])), ((ad 1), .inr (0, [.ref (ad 2)])), ((ad 2), .inl (cI, 86, .inl f)), ((ad 3), .inr (0, [.ref (ad 4)])), ((ad 4), .inl (cI, 86, .inl f2)), ((ad 5), .inr (2, [.ref (ad 6), .int (nI n)])), ((ad 6), .inl (cC, 60, .inl tx)), ((ad 7), .inr (1, [.ref (ad 8), .int (nI (h_nx nx)), .int (nI (h_sz sn))])), ((ad 8), .inl (cG, 6, .inr (.inr (.inr (.inr (fun i => ([(ad 9), (ad 10), (ad 11), (ad 12), (ad 13), (ad 14)] : List Nat)[i]?)))))), ((ad 9), .inl (cI, 86, .inl (va_up R nx (va_cpy f (R nx) 0 0 86) 0))), ((ad 10), .inl (cI, 86, .inl (va_up R nx (va_cpy f (R nx) 0 0 86) 1))), ((ad 11), .inl (cI, 86, .inl (va_up R nx (va_cpy f (R nx) 0 0 86) 2))), ((ad 12), .inl (cI, 86, .inl (va_up R nx (va_cpy f (R nx) 0 0 86) 3))), ((ad 13), .inl (cI, 86, .inl (va_up R nx (va_cpy f (R nx) 0 0 86) 4))), ((ad 14), .inl (cI, 86, .inl (va_up R nx (va_cpy f (R nx) 0 0 86) 5))), ((ad 15), .inl (cG, 2, .inr (.inr (.inr (.inr (fun i => ([(ad 16), (ad 17)] : List Nat)[i]?)))))), ((ad 16), .inl (cI, 86, .inl (SL 0))), ((ad 17), .inl (cI, 86, .inl (SL 1))), ((ad 18), .inl (cZ, 2, .inl sv))] := hD
    refine lv_aload_n (pc := 29) hx hb dX3_read_29 rfl (lv_at hl 0 rfl) ?_
    refine va_get (pc := 30) (D := D) (ci := 3) (v := .ref (ad 5)) (C := RX3) (T := TX3) (N := 6) hx hb hts hi_X3_read_ok_X3 hown hK hP 0 rfl rfl 2 (by decide) (hts _ hw_X3_read_ok_0) (fun _ h9 => h9) rfl dX3_read_30 ?_
    refine lv_aload_n (pc := 33) hx hb dX3_read_33 rfl (lv_at hl 0 rfl) ?_
    refine va_get (pc := 34) (D := D) (ci := 3) (v := .ref (ad 1)) (C := RX3) (T := TX3) (N := 6) hx hb hts hi_X3_read_ok_X3 hown hK hP 0 rfl rfl 0 (by decide) (hts _ hw_X3_read_ok_3) (fun _ h9 => h9) rfl dX3_read_34 ?_
    refine b_cW (pc := 37) (w1 := [((ad 5), .inr (2, [.ref (ad 6), .int (nI n)])), ((ad 6), .inl (cC, 60, .inl tx)), ((ad 1), .inr (0, [.ref (ad 2)])), ((ad 2), .inl (cI, 86, .inl ((p_hap tx n (n + 1) 0 0 f 0).1)))]) (va_runV (As := [.ref (ad 1)]) (rest := []) ⟨hx, hb, hml, hown, hts⟩ (c_X2_happenIn l D cI cC cZ cG tb lo hi H.size (ad 5) (ad 6) n tx (ad 1) (ad 2) f (by omega)) (cwV 1 hts gX3_read_X2_happenIn rfl rfl rfl hy_X2_happenIn ⟨Nat.le_of_ble_eq_true rfl, Nat.le_of_ble_eq_true rfl⟩) (b_pWV (wc := [((ad 5), .inr (2, [.ref (ad 6), .int (nI n)])), ((ad 6), .inl (cC, 60, .inl tx)), ((ad 1), .inr (0, [.ref (ad 2)])), ((ad 2), .inl (cI, 86, .inl f))]) hK hP hD (b_Xok_X tb lo hi) [5, 6, 1, 2] rfl (by decide) rfl (b_Xc hX hD hS hA [5, 6, 1, 2] rfl) (ci := 2) (q0 := 0) rfl rfl) rfl rfl hl.1 rfl (lv_room (Nat.le_of_ble_eq_true rfl)) dX3_read_37 ⟨Nat.zero_le _, Nat.zero_le _⟩) hP hD hS hA [5, 6, 1, 2] rfl rfl (fun H locs hP hD hS => ?_)
    have hP : va_P D vwCl [((ad 0), .inr (3, [.ref (ad 1), .ref (ad 3), .ref (ad 5), .ref (ad 7), .ref (ad 15), .ref (ad 18)])), ((ad 1), .inr (0, [.ref (ad 2)])), ((ad 2), .inl (cI, 86, .inl ((p_hap tx n (n + 1) 0 0 f 0).1))), ((ad 3), .inr (0, [.ref (ad 4)])), ((ad 4), .inl (cI, 86, .inl f2)), ((ad 5), .inr (2, [.ref (ad 6), .int (nI n)])), ((ad 6), .inl (cC, 60, .inl tx)), ((ad 7), .inr (1, [.ref (ad 8), .int (nI (h_nx nx)), .int (nI (h_sz sn))])), ((ad 8), .inl (cG, 6, .inr (.inr (.inr (.inr (fun i => ([(ad 9), (ad 10), (ad 11), (ad 12), (ad 13), (ad 14)] : List Nat)[i]?)))))), ((ad 9), .inl (cI, 86, .inl (va_up R nx (va_cpy f (R nx) 0 0 86) 0))), ((ad 10), .inl (cI, 86, .inl (va_up R nx (va_cpy f (R nx) 0 0 86) 1))), ((ad 11), .inl (cI, 86, .inl (va_up R nx (va_cpy f (R nx) 0 0 86) 2))), ((ad 12), .inl (cI, 86, .inl (va_up R nx (va_cpy f (R nx) 0 0 86) 3))), ((ad 13), .inl (cI, 86, .inl (va_up R nx (va_cpy f (R nx) 0 0 86) 4))), ((ad 14), .inl (cI, 86, .inl (va_up R nx (va_cpy f (R nx) 0 0 86) 5))), ((ad 15), .inl (cG, 2, .inr (.inr (.inr (.inr (fun i => ([(ad 16), (ad 17)] : List Nat)[i]?)))))), ((ad 16), .inl (cI, 86, .inl (SL 0))), ((ad 17), .inl (cI, 86, .inl (SL 1))), ((ad 18), .inl (cZ, 2, .inl sv))] H := hP
    have hD : va_D A [((ad 0), .inr (3, [.ref (ad 1), .ref (ad 3), .ref (ad 5), .ref (ad 7), .ref (ad 15), .ref (ad 18)])), ((ad 1), .inr (0, [.ref (ad 2)])), ((ad 2), .inl (cI, 86, .inl ((p_hap tx n (n + 1) 0 0 f 0).1))), ((ad 3), .inr (0, [.ref (ad 4)])), ((ad 4), .inl (cI, 86, .inl f2)), ((ad 5), .inr (2, [.ref (ad 6), .int (nI n)])), ((ad 6), .inl (cC, 60, .inl tx)), ((ad 7), .inr (1, [.ref (ad 8), .int (nI (h_nx nx)), .int (nI (h_sz sn))])), ((ad 8), .inl (cG, 6, .inr (.inr (.inr (.inr (fun i => ([(ad 9), (ad 10), (ad 11), (ad 12), (ad 13), (ad 14)] : List Nat)[i]?)))))), ((ad 9), .inl (cI, 86, .inl (va_up R nx (va_cpy f (R nx) 0 0 86) 0))), ((ad 10), .inl (cI, 86, .inl (va_up R nx (va_cpy f (R nx) 0 0 86) 1))), ((ad 11), .inl (cI, 86, .inl (va_up R nx (va_cpy f (R nx) 0 0 86) 2))), ((ad 12), .inl (cI, 86, .inl (va_up R nx (va_cpy f (R nx) 0 0 86) 3))), ((ad 13), .inl (cI, 86, .inl (va_up R nx (va_cpy f (R nx) 0 0 86) 4))), ((ad 14), .inl (cI, 86, .inl (va_up R nx (va_cpy f (R nx) 0 0 86) 5))), ((ad 15), .inl (cG, 2, .inr (.inr (.inr (.inr (fun i => ([(ad 16), (ad 17)] : List Nat)[i]?)))))), ((ad 16), .inl (cI, 86, .inl (SL 0))), ((ad 17), .inl (cI, 86, .inl (SL 1))), ((ad 18), .inl (cZ, 2, .inl sv))] := hD
    obtain ⟨f_2, ef_2⟩ : ∃ z9 : Nat → Int32, z9 = (p_hap tx n (n + 1) 0 0 f 0).1 := ⟨_, rfl⟩
    have hP : va_P D vwCl [((ad 0), .inr (3, [.ref (ad 1), .ref (ad 3), .ref (ad 5), .ref (ad 7), .ref (ad 15), .ref (ad 18)])), ((ad 1), .inr (0, [.ref (ad 2)])), ((ad 2), .inl (cI, 86, .inl f_2)), ((ad 3), .inr (0, [.ref (ad 4)])), ((ad 4), .inl (cI, 86, .inl f2)), ((ad 5), .inr (2, [.ref (ad 6), .int (nI n)])), ((ad 6), .inl (cC, 60, .inl tx)), ((ad 7), .inr (1, [.ref (ad 8), .int (nI (h_nx nx)), .int (nI (h_sz sn))])), ((ad 8), .inl (cG, 6, .inr (.inr (.inr (.inr (fun i => ([(ad 9), (ad 10), (ad 11), (ad 12), (ad 13), (ad 14)] : List Nat)[i]?)))))), ((ad 9), .inl (cI, 86, .inl (va_up R nx (va_cpy f (R nx) 0 0 86) 0))), ((ad 10), .inl (cI, 86, .inl (va_up R nx (va_cpy f (R nx) 0 0 86) 1))), ((ad 11), .inl (cI, 86, .inl (va_up R nx (va_cpy f (R nx) 0 0 86) 2))), ((ad 12), .inl (cI, 86, .inl (va_up R nx (va_cpy f (R nx) 0 0 86) 3))), ((ad 13), .inl (cI, 86, .inl (va_up R nx (va_cpy f (R nx) 0 0 86) 4))), ((ad 14), .inl (cI, 86, .inl (va_up R nx (va_cpy f (R nx) 0 0 86) 5))), ((ad 15), .inl (cG, 2, .inr (.inr (.inr (.inr (fun i => ([(ad 16), (ad 17)] : List Nat)[i]?)))))), ((ad 16), .inl (cI, 86, .inl (SL 0))), ((ad 17), .inl (cI, 86, .inl (SL 1))), ((ad 18), .inl (cZ, 2, .inl sv))] H := by rw [ef_2]; exact hP
    have hD : va_D A [((ad 0), .inr (3, [.ref (ad 1), .ref (ad 3), .ref (ad 5), .ref (ad 7), .ref (ad 15), .ref (ad 18)])), ((ad 1), .inr (0, [.ref (ad 2)])), ((ad 2), .inl (cI, 86, .inl f_2)), ((ad 3), .inr (0, [.ref (ad 4)])), ((ad 4), .inl (cI, 86, .inl f2)), ((ad 5), .inr (2, [.ref (ad 6), .int (nI n)])), ((ad 6), .inl (cC, 60, .inl tx)), ((ad 7), .inr (1, [.ref (ad 8), .int (nI (h_nx nx)), .int (nI (h_sz sn))])), ((ad 8), .inl (cG, 6, .inr (.inr (.inr (.inr (fun i => ([(ad 9), (ad 10), (ad 11), (ad 12), (ad 13), (ad 14)] : List Nat)[i]?)))))), ((ad 9), .inl (cI, 86, .inl (va_up R nx (va_cpy f (R nx) 0 0 86) 0))), ((ad 10), .inl (cI, 86, .inl (va_up R nx (va_cpy f (R nx) 0 0 86) 1))), ((ad 11), .inl (cI, 86, .inl (va_up R nx (va_cpy f (R nx) 0 0 86) 2))), ((ad 12), .inl (cI, 86, .inl (va_up R nx (va_cpy f (R nx) 0 0 86) 3))), ((ad 13), .inl (cI, 86, .inl (va_up R nx (va_cpy f (R nx) 0 0 86) 4))), ((ad 14), .inl (cI, 86, .inl (va_up R nx (va_cpy f (R nx) 0 0 86) 5))), ((ad 15), .inl (cG, 2, .inr (.inr (.inr (.inr (fun i => ([(ad 16), (ad 17)] : List Nat)[i]?)))))), ((ad 16), .inl (cI, 86, .inl (SL 0))), ((ad 17), .inl (cI, 86, .inl (SL 1))), ((ad 18), .inl (cZ, 2, .inl sv))] := by rw [ef_2]; exact hD
    refine lv_istore_n (pc := 40) (lv' := [(1, .int ((p_hap tx n (n + 1) 0 0 f 0).2)), (0, .ref (ad 0))]) hx hb dX3_read_40 rfl hl (by decide) rfl (fun ls hl => ?_)
    refine lv_aload_n (pc := 41) hx hb dX3_read_41 rfl (lv_at hl 1 rfl) ?_
    refine va_get (pc := 42) (D := D) (ci := 3) (v := .ref (ad 5)) (C := RX3) (T := TX3) (N := 6) hx hb hts hi_X3_read_ok_X3 hown hK hP 0 rfl rfl 2 (by decide) (hts _ hw_X3_read_ok_0) (fun _ h9 => h9) rfl dX3_read_42 ?_
    refine b_cV (pc := 45) (w1 := [((ad 5), .inr (2, [.ref (ad 6), .int (nI 0)])), ((ad 6), .inl (cC, 60, .inl tx))]) (va_runV (As := []) (rest := []) ⟨hx, hb, hml, hown, hts⟩ (c_X2_empty l D cI cC cZ cG tb lo hi H.size (ad 5) (ad 6) n tx) (cwV 0 hts gX3_read_X2_empty rfl rfl rfl hy_X2_empty ⟨Nat.le_of_ble_eq_true rfl, Nat.le_of_ble_eq_true rfl⟩) (b_pWV (wc := [((ad 5), .inr (2, [.ref (ad 6), .int (nI n)])), ((ad 6), .inl (cC, 60, .inl tx))]) hK hP hD (b_Xok_X tb lo hi) [5, 6] rfl (by decide) rfl (b_Xc hX hD hS hA [5, 6] rfl) (ci := 2) (q0 := 0) rfl rfl) rfl rfl hl.1 rfl (lv_room (Nat.le_of_ble_eq_true rfl)) dX3_read_45 ⟨Nat.zero_le _, Nat.zero_le _⟩) hP hD hS hA [5, 6] rfl rfl (fun H locs hP hD hS => ?_)
    have hP : va_P D vwCl [((ad 0), .inr (3, [.ref (ad 1), .ref (ad 3), .ref (ad 5), .ref (ad 7), .ref (ad 15), .ref (ad 18)])), ((ad 1), .inr (0, [.ref (ad 2)])), ((ad 2), .inl (cI, 86, .inl f_2)), ((ad 3), .inr (0, [.ref (ad 4)])), ((ad 4), .inl (cI, 86, .inl f2)), ((ad 5), .inr (2, [.ref (ad 6), .int (nI 0)])), ((ad 6), .inl (cC, 60, .inl tx)), ((ad 7), .inr (1, [.ref (ad 8), .int (nI (h_nx nx)), .int (nI (h_sz sn))])), ((ad 8), .inl (cG, 6, .inr (.inr (.inr (.inr (fun i => ([(ad 9), (ad 10), (ad 11), (ad 12), (ad 13), (ad 14)] : List Nat)[i]?)))))), ((ad 9), .inl (cI, 86, .inl (va_up R nx (va_cpy f (R nx) 0 0 86) 0))), ((ad 10), .inl (cI, 86, .inl (va_up R nx (va_cpy f (R nx) 0 0 86) 1))), ((ad 11), .inl (cI, 86, .inl (va_up R nx (va_cpy f (R nx) 0 0 86) 2))), ((ad 12), .inl (cI, 86, .inl (va_up R nx (va_cpy f (R nx) 0 0 86) 3))), ((ad 13), .inl (cI, 86, .inl (va_up R nx (va_cpy f (R nx) 0 0 86) 4))), ((ad 14), .inl (cI, 86, .inl (va_up R nx (va_cpy f (R nx) 0 0 86) 5))), ((ad 15), .inl (cG, 2, .inr (.inr (.inr (.inr (fun i => ([(ad 16), (ad 17)] : List Nat)[i]?)))))), ((ad 16), .inl (cI, 86, .inl (SL 0))), ((ad 17), .inl (cI, 86, .inl (SL 1))), ((ad 18), .inl (cZ, 2, .inl sv))] H := hP
    have hD : va_D A [((ad 0), .inr (3, [.ref (ad 1), .ref (ad 3), .ref (ad 5), .ref (ad 7), .ref (ad 15), .ref (ad 18)])), ((ad 1), .inr (0, [.ref (ad 2)])), ((ad 2), .inl (cI, 86, .inl f_2)), ((ad 3), .inr (0, [.ref (ad 4)])), ((ad 4), .inl (cI, 86, .inl f2)), ((ad 5), .inr (2, [.ref (ad 6), .int (nI 0)])), ((ad 6), .inl (cC, 60, .inl tx)), ((ad 7), .inr (1, [.ref (ad 8), .int (nI (h_nx nx)), .int (nI (h_sz sn))])), ((ad 8), .inl (cG, 6, .inr (.inr (.inr (.inr (fun i => ([(ad 9), (ad 10), (ad 11), (ad 12), (ad 13), (ad 14)] : List Nat)[i]?)))))), ((ad 9), .inl (cI, 86, .inl (va_up R nx (va_cpy f (R nx) 0 0 86) 0))), ((ad 10), .inl (cI, 86, .inl (va_up R nx (va_cpy f (R nx) 0 0 86) 1))), ((ad 11), .inl (cI, 86, .inl (va_up R nx (va_cpy f (R nx) 0 0 86) 2))), ((ad 12), .inl (cI, 86, .inl (va_up R nx (va_cpy f (R nx) 0 0 86) 3))), ((ad 13), .inl (cI, 86, .inl (va_up R nx (va_cpy f (R nx) 0 0 86) 4))), ((ad 14), .inl (cI, 86, .inl (va_up R nx (va_cpy f (R nx) 0 0 86) 5))), ((ad 15), .inl (cG, 2, .inr (.inr (.inr (.inr (fun i => ([(ad 16), (ad 17)] : List Nat)[i]?)))))), ((ad 16), .inl (cI, 86, .inl (SL 0))), ((ad 17), .inl (cI, 86, .inl (SL 1))), ((ad 18), .inl (cZ, 2, .inl sv))] := hD
    refine lv_iload_n (pc := 48) hx hb dX3_read_48 rfl (lv_at hl 0 rfl) ?_
    subst ef_2
    subst hQ
    exact b_retW hx hb hr hlocks hS (rfl) (hP) dX3_read_49
  · skip
    have c_1 : ¬ ((p_ff tx n n 0 0) = (-6)) := c_1
    exact absurd hbad c_1
set_option maxHeartbeats 4000000 in
set_option maxRecDepth 100000 in
theorem c_X3_correct_bad (l : Launch) (D : va_G) (cI cC cZ cG : ClassId) (ad : Nat → Nat) (f : Nat → Int32) (f2 : Nat → Int32) (tx : Nat → Int32) (n : Nat) (nx : Nat) (sn : Nat) (R : Nat → Nat → Int32) (SL : Nat → Nat → Int32) (sv : Nat → Int32) (x : Int32) (hn60 : n ≤ 60) (hnx : nx < 6) (hsn : sn ≤ 6) (hbad : x < 0 ∨ ¬ x ≤ 999) : Met l yX3_correct wsX3_correct ({ frames := 0, cells := 0, slots := 0, locals := 0 } : Room) (b_R D (b_T cI cC cZ cG) [((ad 0), .inr (3, [.ref (ad 1), .ref (ad 3), .ref (ad 5), .ref (ad 7), .ref (ad 15), .ref (ad 18)])), ((ad 1), .inr (0, [.ref (ad 2)])), ((ad 2), .inl (cI, 86, .inl f)), ((ad 3), .inr (0, [.ref (ad 4)])), ((ad 4), .inl (cI, 86, .inl f2)), ((ad 5), .inr (2, [.ref (ad 6), .int (nI n)])), ((ad 6), .inl (cC, 60, .inl tx)), ((ad 7), .inr (1, [.ref (ad 8), .int (nI nx), .int (nI sn)])), ((ad 8), .inl (cG, 6, .inr (.inr (.inr (.inr (fun i => ([(ad 9), (ad 10), (ad 11), (ad 12), (ad 13), (ad 14)] : List Nat)[i]?)))))), ((ad 9), .inl (cI, 86, .inl (R 0))), ((ad 10), .inl (cI, 86, .inl (R 1))), ((ad 11), .inl (cI, 86, .inl (R 2))), ((ad 12), .inl (cI, 86, .inl (R 3))), ((ad 13), .inl (cI, 86, .inl (R 4))), ((ad 14), .inl (cI, 86, .inl (R 5))), ((ad 15), .inl (cG, 2, .inr (.inr (.inr (.inr (fun i => ([(ad 16), (ad 17)] : List Nat)[i]?)))))), ((ad 16), .inl (cI, 86, .inl (SL 0))), ((ad 17), .inl (cI, 86, .inl (SL 1))), ((ad 18), .inl (cZ, 2, .inl sv))] [.ref (ad 0), .int x]) (vp_Si (fun r => r = -2)) 0 0 (fun _ => False) := by
  refine b_enterR (cc := cX3_correct) (maxL := 3) (ret := (some .int)) (by decide) rfl (Nat.le_of_ble_eq_true rfl) ?_
  intro p e s m below meth c ls hx hb hr hml hown hts hlocks hP hK hl Q hQ
  have hown : s.vm.findClass RX3 = some m.cls := hown
  have hl : lv_has ls 3 [(0, .ref (ad 0)), (1, .int x)] := hl
  refine lv_iload_n (pc := 0) hx hb dX3_correct_0 rfl (lv_at hl 1 rfl) ?_
  refine lv_if_lt (pc := 1) (tgt := 11) hx hb dX3_correct_1 (by decide) (fun c_1 => ?_) (fun c_1 => ?_)
  · skip
    have c_1 : x < 0 := c_1
    refine lv_bipush (pc := 11) (v := (-2)) hx hb dX3_correct_11 (by decide) ?_
    subst hQ
    exact b_retR hx hb hr hlocks (rfl) dX3_correct_13
  · skip
    have c_1 : ¬ (x < 0) := c_1
    refine lv_iload_n (pc := 4) hx hb dX3_correct_4 rfl (lv_at hl 1 rfl) ?_
    refine lv_sipush (pc := 5) (v := 999) hx hb dX3_correct_5 (by decide) ?_
    refine lv_icmp_le (pc := 8) (tgt := 14) hx hb dX3_correct_8 (by decide) (fun c_2 => ?_) (fun c_2 => ?_)
    · skip
      have c_2 : x ≤ 999 := c_2
      exact hbad.elim (fun q => absurd q c_1) (fun q => absurd c_2 q)
    · skip
      have c_2 : ¬ (x ≤ 999) := c_2
      refine lv_bipush (pc := 11) (v := (-2)) hx hb dX3_correct_11 (by decide) ?_
      subst hQ
      exact b_retR hx hb hr hlocks (rfl) dX3_correct_13
theorem hw_X3_correct_ok_0 : (.fieldLink RX3 29 "BeamTurnstiles" "history" "LBeamTurnstiles$History;" : Cond) ∈ wsX3_correct := by decide +kernel
theorem hi_X3_correct_ok_X3 : ∀ w ∈ wsX30, w ∈ wsX3_correct := by decide +kernel
theorem hw_X3_correct_ok_2 : (.fieldLink RX3 10 "BeamTurnstiles" "hall" "LBeamTurnstiles$Hall;" : Cond) ∈ wsX3_correct := by decide +kernel
theorem hw_X3_correct_ok_3 : (.fieldLink RX3 49 "BeamTurnstiles$Hall" "row" "[I" : Cond) ∈ wsX3_correct := by decide +kernel
theorem hi_X3_correct_ok_X0 : ∀ w ∈ wsX00, w ∈ wsX3_correct := by decide +kernel
set_option maxHeartbeats 4000000 in
set_option maxRecDepth 100000 in
theorem c_X3_correct_ok (l : Launch) (D : va_G) (cI cC cZ cG : ClassId) (tb lo hi : Nat) (sz : Nat) (ad : Nat → Nat) (f : Nat → Int32) (f2 : Nat → Int32) (tx : Nat → Int32) (n : Nat) (nx : Nat) (sn : Nat) (R : Nat → Nat → Int32) (SL : Nat → Nat → Int32) (sv : Nat → Int32) (x : Int32) (hn60 : n ≤ 60) (hnx : nx < 6) (hsn : sn ≤ 6) (h1 : ¬ x < 0) (h2 : x ≤ 999) : Met l yX3_correct wsX3_correct ({ frames := 3, cells := 0, slots := 0, locals := 72 } : Room) (b_W D (b_T cI cC cZ cG) (b_X tb lo hi) [((ad 0), .inr (3, [.ref (ad 1), .ref (ad 3), .ref (ad 5), .ref (ad 7), .ref (ad 15), .ref (ad 18)])), ((ad 1), .inr (0, [.ref (ad 2)])), ((ad 2), .inl (cI, 86, .inl f)), ((ad 3), .inr (0, [.ref (ad 4)])), ((ad 4), .inl (cI, 86, .inl f2)), ((ad 5), .inr (2, [.ref (ad 6), .int (nI n)])), ((ad 6), .inl (cC, 60, .inl tx)), ((ad 7), .inr (1, [.ref (ad 8), .int (nI nx), .int (nI sn)])), ((ad 8), .inl (cG, 6, .inr (.inr (.inr (.inr (fun i => ([(ad 9), (ad 10), (ad 11), (ad 12), (ad 13), (ad 14)] : List Nat)[i]?)))))), ((ad 9), .inl (cI, 86, .inl (R 0))), ((ad 10), .inl (cI, 86, .inl (R 1))), ((ad 11), .inl (cI, 86, .inl (R 2))), ((ad 12), .inl (cI, 86, .inl (R 3))), ((ad 13), .inl (cI, 86, .inl (R 4))), ((ad 14), .inl (cI, 86, .inl (R 5))), ((ad 15), .inl (cG, 2, .inr (.inr (.inr (.inr (fun i => ([(ad 16), (ad 17)] : List Nat)[i]?)))))), ((ad 16), .inl (cI, 86, .inl (SL 0))), ((ad 17), .inl (cI, 86, .inl (SL 1))), ((ad 18), .inl (cZ, 2, .inl sv))] sz [.ref (ad 0), .int x]) (b_Qi D (f 4) [((ad 0), .inr (3, [.ref (ad 1), .ref (ad 3), .ref (ad 5), .ref (ad 7), .ref (ad 15), .ref (ad 18)])), ((ad 1), .inr (0, [.ref (ad 2)])), ((ad 2), .inl (cI, 86, .inl (h_become f x))), ((ad 3), .inr (0, [.ref (ad 4)])), ((ad 4), .inl (cI, 86, .inl f2)), ((ad 5), .inr (2, [.ref (ad 6), .int (nI n)])), ((ad 6), .inl (cC, 60, .inl tx)), ((ad 7), .inr (1, [.ref (ad 8), .int (nI (h_nx nx)), .int (nI (h_sz sn))])), ((ad 8), .inl (cG, 6, .inr (.inr (.inr (.inr (fun i => ([(ad 9), (ad 10), (ad 11), (ad 12), (ad 13), (ad 14)] : List Nat)[i]?)))))), ((ad 9), .inl (cI, 86, .inl (va_up R nx (va_cpy f (R nx) 0 0 86) 0))), ((ad 10), .inl (cI, 86, .inl (va_up R nx (va_cpy f (R nx) 0 0 86) 1))), ((ad 11), .inl (cI, 86, .inl (va_up R nx (va_cpy f (R nx) 0 0 86) 2))), ((ad 12), .inl (cI, 86, .inl (va_up R nx (va_cpy f (R nx) 0 0 86) 3))), ((ad 13), .inl (cI, 86, .inl (va_up R nx (va_cpy f (R nx) 0 0 86) 4))), ((ad 14), .inl (cI, 86, .inl (va_up R nx (va_cpy f (R nx) 0 0 86) 5))), ((ad 15), .inl (cG, 2, .inr (.inr (.inr (.inr (fun i => ([(ad 16), (ad 17)] : List Nat)[i]?)))))), ((ad 16), .inl (cI, 86, .inl (SL 0))), ((ad 17), .inl (cI, 86, .inl (SL 1))), ((ad 18), .inl (cZ, 2, .inl sv))] (va_A [((ad 0), .inr (3, [.ref (ad 1), .ref (ad 3), .ref (ad 5), .ref (ad 7), .ref (ad 15), .ref (ad 18)])), ((ad 1), .inr (0, [.ref (ad 2)])), ((ad 2), .inl (cI, 86, .inl f)), ((ad 3), .inr (0, [.ref (ad 4)])), ((ad 4), .inl (cI, 86, .inl f2)), ((ad 5), .inr (2, [.ref (ad 6), .int (nI n)])), ((ad 6), .inl (cC, 60, .inl tx)), ((ad 7), .inr (1, [.ref (ad 8), .int (nI nx), .int (nI sn)])), ((ad 8), .inl (cG, 6, .inr (.inr (.inr (.inr (fun i => ([(ad 9), (ad 10), (ad 11), (ad 12), (ad 13), (ad 14)] : List Nat)[i]?)))))), ((ad 9), .inl (cI, 86, .inl (R 0))), ((ad 10), .inl (cI, 86, .inl (R 1))), ((ad 11), .inl (cI, 86, .inl (R 2))), ((ad 12), .inl (cI, 86, .inl (R 3))), ((ad 13), .inl (cI, 86, .inl (R 4))), ((ad 14), .inl (cI, 86, .inl (R 5))), ((ad 15), .inl (cG, 2, .inr (.inr (.inr (.inr (fun i => ([(ad 16), (ad 17)] : List Nat)[i]?)))))), ((ad 16), .inl (cI, 86, .inl (SL 0))), ((ad 17), .inl (cI, 86, .inl (SL 1))), ((ad 18), .inl (cZ, 2, .inl sv))] sz)) 0 0 (va_A [((ad 0), .inr (3, [.ref (ad 1), .ref (ad 3), .ref (ad 5), .ref (ad 7), .ref (ad 15), .ref (ad 18)])), ((ad 1), .inr (0, [.ref (ad 2)])), ((ad 2), .inl (cI, 86, .inl f)), ((ad 3), .inr (0, [.ref (ad 4)])), ((ad 4), .inl (cI, 86, .inl f2)), ((ad 5), .inr (2, [.ref (ad 6), .int (nI n)])), ((ad 6), .inl (cC, 60, .inl tx)), ((ad 7), .inr (1, [.ref (ad 8), .int (nI nx), .int (nI sn)])), ((ad 8), .inl (cG, 6, .inr (.inr (.inr (.inr (fun i => ([(ad 9), (ad 10), (ad 11), (ad 12), (ad 13), (ad 14)] : List Nat)[i]?)))))), ((ad 9), .inl (cI, 86, .inl (R 0))), ((ad 10), .inl (cI, 86, .inl (R 1))), ((ad 11), .inl (cI, 86, .inl (R 2))), ((ad 12), .inl (cI, 86, .inl (R 3))), ((ad 13), .inl (cI, 86, .inl (R 4))), ((ad 14), .inl (cI, 86, .inl (R 5))), ((ad 15), .inl (cG, 2, .inr (.inr (.inr (.inr (fun i => ([(ad 16), (ad 17)] : List Nat)[i]?)))))), ((ad 16), .inl (cI, 86, .inl (SL 0))), ((ad 17), .inl (cI, 86, .inl (SL 1))), ((ad 18), .inl (cZ, 2, .inl sv))] sz) := by
  refine b_enterW (Qc := fun A => b_Qi D (f 4) [((ad 0), .inr (3, [.ref (ad 1), .ref (ad 3), .ref (ad 5), .ref (ad 7), .ref (ad 15), .ref (ad 18)])), ((ad 1), .inr (0, [.ref (ad 2)])), ((ad 2), .inl (cI, 86, .inl (h_become f x))), ((ad 3), .inr (0, [.ref (ad 4)])), ((ad 4), .inl (cI, 86, .inl f2)), ((ad 5), .inr (2, [.ref (ad 6), .int (nI n)])), ((ad 6), .inl (cC, 60, .inl tx)), ((ad 7), .inr (1, [.ref (ad 8), .int (nI (h_nx nx)), .int (nI (h_sz sn))])), ((ad 8), .inl (cG, 6, .inr (.inr (.inr (.inr (fun i => ([(ad 9), (ad 10), (ad 11), (ad 12), (ad 13), (ad 14)] : List Nat)[i]?)))))), ((ad 9), .inl (cI, 86, .inl (va_up R nx (va_cpy f (R nx) 0 0 86) 0))), ((ad 10), .inl (cI, 86, .inl (va_up R nx (va_cpy f (R nx) 0 0 86) 1))), ((ad 11), .inl (cI, 86, .inl (va_up R nx (va_cpy f (R nx) 0 0 86) 2))), ((ad 12), .inl (cI, 86, .inl (va_up R nx (va_cpy f (R nx) 0 0 86) 3))), ((ad 13), .inl (cI, 86, .inl (va_up R nx (va_cpy f (R nx) 0 0 86) 4))), ((ad 14), .inl (cI, 86, .inl (va_up R nx (va_cpy f (R nx) 0 0 86) 5))), ((ad 15), .inl (cG, 2, .inr (.inr (.inr (.inr (fun i => ([(ad 16), (ad 17)] : List Nat)[i]?)))))), ((ad 16), .inl (cI, 86, .inl (SL 0))), ((ad 17), .inl (cI, 86, .inl (SL 1))), ((ad 18), .inl (cZ, 2, .inl sv))] A) (cc := cX3_correct) (maxL := 3) (ret := (some .int)) (by decide) rfl (Nat.le_of_ble_eq_true rfl) ?_
  intro p e s m below meth c ls A hx hb hr hml hown hts hlocks hname hP hK hD hA hS hX hl Q hQ
  have hown : s.vm.findClass RX3 = some m.cls := hown
  have hl : lv_has ls 3 [(0, .ref (ad 0)), (1, .int x)] := hl
  refine lv_iload_n (pc := 0) hx hb dX3_correct_0 rfl (lv_at hl 1 rfl) ?_
  refine lv_if_lt (pc := 1) (tgt := 11) hx hb dX3_correct_1 (by decide) (fun c_1 => ?_) (fun c_1 => ?_)
  · skip
    have c_1 : x < 0 := c_1
    exact absurd c_1 h1
  · skip
    have c_1 : ¬ (x < 0) := c_1
    refine lv_iload_n (pc := 4) hx hb dX3_correct_4 rfl (lv_at hl 1 rfl) ?_
    refine lv_sipush (pc := 5) (v := 999) hx hb dX3_correct_5 (by decide) ?_
    refine lv_icmp_le (pc := 8) (tgt := 14) hx hb dX3_correct_8 (by decide) (fun c_2 => ?_) (fun c_2 => ?_)
    · skip
      have c_2 : x ≤ 999 := c_2
      refine lv_aload_n (pc := 14) hx hb dX3_correct_14 rfl (lv_at hl 0 rfl) ?_
      refine va_get (pc := 15) (D := D) (ci := 3) (v := .ref (ad 7)) (C := RX3) (T := TX3) (N := 6) hx hb hts hi_X3_correct_ok_X3 hown hK hP 0 rfl rfl 3 (by decide) (hts _ hw_X3_correct_ok_0) (fun _ h9 => h9) rfl dX3_correct_15 ?_
      refine lv_aload_n (pc := 18) hx hb dX3_correct_18 rfl (lv_at hl 0 rfl) ?_
      refine va_get (pc := 19) (D := D) (ci := 3) (v := .ref (ad 1)) (C := RX3) (T := TX3) (N := 6) hx hb hts hi_X3_correct_ok_X3 hown hK hP 0 rfl rfl 0 (by decide) (hts _ hw_X3_correct_ok_2) (fun _ h9 => h9) rfl dX3_correct_19 ?_
      refine va_get (pc := 22) (D := D) (ci := 0) (v := .ref (ad 2)) (C := RX0) (T := TX0) (N := 1) hx hb hts hi_X3_correct_ok_X0 hown hK hP 1 rfl rfl 0 (by decide) (hts _ hw_X3_correct_ok_3) (fun _ h9 => h9) rfl dX3_correct_22 ?_
      refine b_cV (pc := 25) (w1 := [((ad 7), .inr (1, [.ref (ad 8), .int (nI (h_nx nx)), .int (nI (h_sz sn))])), ((ad 8), .inl (cG, 6, .inr (.inr (.inr (.inr (fun i => ([(ad 9), (ad 10), (ad 11), (ad 12), (ad 13), (ad 14)] : List Nat)[i]?)))))), ((ad 9), .inl (cI, 86, .inl (va_up R nx (va_cpy f (R nx) 0 0 86) 0))), ((ad 10), .inl (cI, 86, .inl (va_up R nx (va_cpy f (R nx) 0 0 86) 1))), ((ad 11), .inl (cI, 86, .inl (va_up R nx (va_cpy f (R nx) 0 0 86) 2))), ((ad 12), .inl (cI, 86, .inl (va_up R nx (va_cpy f (R nx) 0 0 86) 3))), ((ad 13), .inl (cI, 86, .inl (va_up R nx (va_cpy f (R nx) 0 0 86) 4))), ((ad 14), .inl (cI, 86, .inl (va_up R nx (va_cpy f (R nx) 0 0 86) 5))), ((ad 2), .inl (cI, 86, .inl f))]) (va_runV (As := [.ref (ad 2)]) (rest := []) ⟨hx, hb, hml, hown, hts⟩ (c_X1_keep l D cI cC cZ cG tb lo hi s.heap.size (ad 7) (ad 8) (ad 9) (ad 10) (ad 11) (ad 12) (ad 13) (ad 14) nx sn R (ad 2) f (by omega) (by omega)) (cwV 1 hts gX3_correct_X1_keep rfl rfl rfl hy_X1_keep ⟨Nat.le_of_ble_eq_true rfl, Nat.le_of_ble_eq_true rfl⟩) (b_pWV (wc := [((ad 7), .inr (1, [.ref (ad 8), .int (nI nx), .int (nI sn)])), ((ad 8), .inl (cG, 6, .inr (.inr (.inr (.inr (fun i => ([(ad 9), (ad 10), (ad 11), (ad 12), (ad 13), (ad 14)] : List Nat)[i]?)))))), ((ad 9), .inl (cI, 86, .inl (R 0))), ((ad 10), .inl (cI, 86, .inl (R 1))), ((ad 11), .inl (cI, 86, .inl (R 2))), ((ad 12), .inl (cI, 86, .inl (R 3))), ((ad 13), .inl (cI, 86, .inl (R 4))), ((ad 14), .inl (cI, 86, .inl (R 5))), ((ad 2), .inl (cI, 86, .inl f))]) hK hP hD (b_Xok_X tb lo hi) [7, 8, 9, 10, 11, 12, 13, 14, 2] rfl (by decide) rfl (b_Xc hX hD hS hA [7, 8, 9, 10, 11, 12, 13, 14, 2] rfl) (ci := 1) (q0 := 0) rfl rfl) rfl rfl hl.1 rfl (lv_room (Nat.le_of_ble_eq_true rfl)) dX3_correct_25 ⟨Nat.zero_le _, Nat.zero_le _⟩) hP hD hS hA [7, 8, 9, 10, 11, 12, 13, 14, 2] rfl rfl (fun H locs hP hD hS => ?_)
      have hP : va_P D vwCl [((ad 0), .inr (3, [.ref (ad 1), .ref (ad 3), .ref (ad 5), .ref (ad 7), .ref (ad 15), .ref (ad 18)])), ((ad 1), .inr (0, [.ref (ad 2)])), ((ad 2), .inl (cI, 86, .inl f)), ((ad 3), .inr (0, [.ref (ad 4)])), ((ad 4), .inl (cI, 86, .inl f2)), ((ad 5), .inr (2, [.ref (ad 6), .int (nI n)])), ((ad 6), .inl (cC, 60, .inl tx)), ((ad 7), .inr (1, [.ref (ad 8), .int (nI (h_nx nx)), .int (nI (h_sz sn))])), ((ad 8), .inl (cG, 6, .inr (.inr (.inr (.inr (fun i => ([(ad 9), (ad 10), (ad 11), (ad 12), (ad 13), (ad 14)] : List Nat)[i]?)))))), ((ad 9), .inl (cI, 86, .inl (va_up R nx (va_cpy f (R nx) 0 0 86) 0))), ((ad 10), .inl (cI, 86, .inl (va_up R nx (va_cpy f (R nx) 0 0 86) 1))), ((ad 11), .inl (cI, 86, .inl (va_up R nx (va_cpy f (R nx) 0 0 86) 2))), ((ad 12), .inl (cI, 86, .inl (va_up R nx (va_cpy f (R nx) 0 0 86) 3))), ((ad 13), .inl (cI, 86, .inl (va_up R nx (va_cpy f (R nx) 0 0 86) 4))), ((ad 14), .inl (cI, 86, .inl (va_up R nx (va_cpy f (R nx) 0 0 86) 5))), ((ad 15), .inl (cG, 2, .inr (.inr (.inr (.inr (fun i => ([(ad 16), (ad 17)] : List Nat)[i]?)))))), ((ad 16), .inl (cI, 86, .inl (SL 0))), ((ad 17), .inl (cI, 86, .inl (SL 1))), ((ad 18), .inl (cZ, 2, .inl sv))] H := hP
      have hD : va_D A [((ad 0), .inr (3, [.ref (ad 1), .ref (ad 3), .ref (ad 5), .ref (ad 7), .ref (ad 15), .ref (ad 18)])), ((ad 1), .inr (0, [.ref (ad 2)])), ((ad 2), .inl (cI, 86, .inl f)), ((ad 3), .inr (0, [.ref (ad 4)])), ((ad 4), .inl (cI, 86, .inl f2)), ((ad 5), .inr (2, [.ref (ad 6), .int (nI n)])), ((ad 6), .inl (cC, 60, .inl tx)), ((ad 7), .inr (1, [.ref (ad 8), .int (nI (h_nx nx)), .int (nI (h_sz sn))])), ((ad 8), .inl (cG, 6, .inr (.inr (.inr (.inr (fun i => ([(ad 9), (ad 10), (ad 11), (ad 12), (ad 13), (ad 14)] : List Nat)[i]?)))))), ((ad 9), .inl (cI, 86, .inl (va_up R nx (va_cpy f (R nx) 0 0 86) 0))), ((ad 10), .inl (cI, 86, .inl (va_up R nx (va_cpy f (R nx) 0 0 86) 1))), ((ad 11), .inl (cI, 86, .inl (va_up R nx (va_cpy f (R nx) 0 0 86) 2))), ((ad 12), .inl (cI, 86, .inl (va_up R nx (va_cpy f (R nx) 0 0 86) 3))), ((ad 13), .inl (cI, 86, .inl (va_up R nx (va_cpy f (R nx) 0 0 86) 4))), ((ad 14), .inl (cI, 86, .inl (va_up R nx (va_cpy f (R nx) 0 0 86) 5))), ((ad 15), .inl (cG, 2, .inr (.inr (.inr (.inr (fun i => ([(ad 16), (ad 17)] : List Nat)[i]?)))))), ((ad 16), .inl (cI, 86, .inl (SL 0))), ((ad 17), .inl (cI, 86, .inl (SL 1))), ((ad 18), .inl (cZ, 2, .inl sv))] := hD
      refine lv_aload_n (pc := 28) hx hb dX3_correct_28 rfl (lv_at hl 0 rfl) ?_
      refine va_get (pc := 29) (D := D) (ci := 3) (v := .ref (ad 1)) (C := RX3) (T := TX3) (N := 6) hx hb hts hi_X3_correct_ok_X3 hown hK hP 0 rfl rfl 0 (by decide) (hts _ hw_X3_correct_ok_2) (fun _ h9 => h9) rfl dX3_correct_29 ?_
      refine va_get (pc := 32) (D := D) (ci := 0) (v := .ref (ad 2)) (C := RX0) (T := TX0) (N := 1) hx hb hts hi_X3_correct_ok_X0 hown hK hP 1 rfl rfl 0 (by decide) (hts _ hw_X3_correct_ok_3) (fun _ h9 => h9) rfl dX3_correct_32 ?_
      refine lv_iconst (pc := 35) (v := 4) hx hb dX3_correct_35 (by decide) ?_
      refine b_iald (pc := 36) hx hb hK hP 2 0 rfl rfl 4 rfl (by omega) (by decide) dX3_correct_36 ?_
      refine lv_istore_n (pc := 37) (lv' := [(2, .int (f 4)), (0, .ref (ad 0)), (1, .int x)]) hx hb dX3_correct_37 rfl hl (by decide) rfl (fun ls hl => ?_)
      refine lv_aload_n (pc := 38) hx hb dX3_correct_38 rfl (lv_at hl 1 rfl) ?_
      refine va_get (pc := 39) (D := D) (ci := 3) (v := .ref (ad 1)) (C := RX3) (T := TX3) (N := 6) hx hb hts hi_X3_correct_ok_X3 hown hK hP 0 rfl rfl 0 (by decide) (hts _ hw_X3_correct_ok_2) (fun _ h9 => h9) rfl dX3_correct_39 ?_
      refine lv_iload_n (pc := 42) hx hb dX3_correct_42 rfl (lv_at hl 2 rfl) ?_
      refine b_cV (pc := 43) (w1 := [((ad 1), .inr (0, [.ref (ad 2)])), ((ad 2), .inl (cI, 86, .inl (h_become f x)))]) (va_runV (As := [.int x]) (rest := []) ⟨hx, hb, hml, hown, hts⟩ (c_X0_becomeInside l D cI cC cZ cG tb lo hi H.size (ad 1) (ad 2) f x) (cwV 1 hts gX3_correct_X0_becomeInside rfl rfl rfl hy_X0_becomeInside ⟨Nat.le_of_ble_eq_true rfl, Nat.le_of_ble_eq_true rfl⟩) (b_pWV (wc := [((ad 1), .inr (0, [.ref (ad 2)])), ((ad 2), .inl (cI, 86, .inl f))]) hK hP hD (b_Xok_X tb lo hi) [1, 2] rfl (by decide) rfl (b_Xc hX hD hS hA [1, 2] rfl) (ci := 0) (q0 := 0) rfl rfl) rfl rfl hl.1 rfl (lv_room (Nat.le_of_ble_eq_true rfl)) dX3_correct_43 ⟨Nat.zero_le _, Nat.zero_le _⟩) hP hD hS hA [1, 2] rfl rfl (fun H locs hP hD hS => ?_)
      have hP : va_P D vwCl [((ad 0), .inr (3, [.ref (ad 1), .ref (ad 3), .ref (ad 5), .ref (ad 7), .ref (ad 15), .ref (ad 18)])), ((ad 1), .inr (0, [.ref (ad 2)])), ((ad 2), .inl (cI, 86, .inl (h_become f x))), ((ad 3), .inr (0, [.ref (ad 4)])), ((ad 4), .inl (cI, 86, .inl f2)), ((ad 5), .inr (2, [.ref (ad 6), .int (nI n)])), ((ad 6), .inl (cC, 60, .inl tx)), ((ad 7), .inr (1, [.ref (ad 8), .int (nI (h_nx nx)), .int (nI (h_sz sn))])), ((ad 8), .inl (cG, 6, .inr (.inr (.inr (.inr (fun i => ([(ad 9), (ad 10), (ad 11), (ad 12), (ad 13), (ad 14)] : List Nat)[i]?)))))), ((ad 9), .inl (cI, 86, .inl (va_up R nx (va_cpy f (R nx) 0 0 86) 0))), ((ad 10), .inl (cI, 86, .inl (va_up R nx (va_cpy f (R nx) 0 0 86) 1))), ((ad 11), .inl (cI, 86, .inl (va_up R nx (va_cpy f (R nx) 0 0 86) 2))), ((ad 12), .inl (cI, 86, .inl (va_up R nx (va_cpy f (R nx) 0 0 86) 3))), ((ad 13), .inl (cI, 86, .inl (va_up R nx (va_cpy f (R nx) 0 0 86) 4))), ((ad 14), .inl (cI, 86, .inl (va_up R nx (va_cpy f (R nx) 0 0 86) 5))), ((ad 15), .inl (cG, 2, .inr (.inr (.inr (.inr (fun i => ([(ad 16), (ad 17)] : List Nat)[i]?)))))), ((ad 16), .inl (cI, 86, .inl (SL 0))), ((ad 17), .inl (cI, 86, .inl (SL 1))), ((ad 18), .inl (cZ, 2, .inl sv))] H := hP
      have hD : va_D A [((ad 0), .inr (3, [.ref (ad 1), .ref (ad 3), .ref (ad 5), .ref (ad 7), .ref (ad 15), .ref (ad 18)])), ((ad 1), .inr (0, [.ref (ad 2)])), ((ad 2), .inl (cI, 86, .inl (h_become f x))), ((ad 3), .inr (0, [.ref (ad 4)])), ((ad 4), .inl (cI, 86, .inl f2)), ((ad 5), .inr (2, [.ref (ad 6), .int (nI n)])), ((ad 6), .inl (cC, 60, .inl tx)), ((ad 7), .inr (1, [.ref (ad 8), .int (nI (h_nx nx)), .int (nI (h_sz sn))])), ((ad 8), .inl (cG, 6, .inr (.inr (.inr (.inr (fun i => ([(ad 9), (ad 10), (ad 11), (ad 12), (ad 13), (ad 14)] : List Nat)[i]?)))))), ((ad 9), .inl (cI, 86, .inl (va_up R nx (va_cpy f (R nx) 0 0 86) 0))), ((ad 10), .inl (cI, 86, .inl (va_up R nx (va_cpy f (R nx) 0 0 86) 1))), ((ad 11), .inl (cI, 86, .inl (va_up R nx (va_cpy f (R nx) 0 0 86) 2))), ((ad 12), .inl (cI, 86, .inl (va_up R nx (va_cpy f (R nx) 0 0 86) 3))), ((ad 13), .inl (cI, 86, .inl (va_up R nx (va_cpy f (R nx) 0 0 86) 4))), ((ad 14), .inl (cI, 86, .inl (va_up R nx (va_cpy f (R nx) 0 0 86) 5))), ((ad 15), .inl (cG, 2, .inr (.inr (.inr (.inr (fun i => ([(ad 16), (ad 17)] : List Nat)[i]?)))))), ((ad 16), .inl (cI, 86, .inl (SL 0))), ((ad 17), .inl (cI, 86, .inl (SL 1))), ((ad 18), .inl (cZ, 2, .inl sv))] := hD
      obtain ⟨f_3, ef_3⟩ : ∃ z9 : Nat → Int32, z9 = h_become f x := ⟨_, rfl⟩
      have hP : va_P D vwCl [((ad 0), .inr (3, [.ref (ad 1), .ref (ad 3), .ref (ad 5), .ref (ad 7), .ref (ad 15), .ref (ad 18)])), ((ad 1), .inr (0, [.ref (ad 2)])), ((ad 2), .inl (cI, 86, .inl f_3)), ((ad 3), .inr (0, [.ref (ad 4)])), ((ad 4), .inl (cI, 86, .inl f2)), ((ad 5), .inr (2, [.ref (ad 6), .int (nI n)])), ((ad 6), .inl (cC, 60, .inl tx)), ((ad 7), .inr (1, [.ref (ad 8), .int (nI (h_nx nx)), .int (nI (h_sz sn))])), ((ad 8), .inl (cG, 6, .inr (.inr (.inr (.inr (fun i => ([(ad 9), (ad 10), (ad 11), (ad 12), (ad 13), (ad 14)] : List Nat)[i]?)))))), ((ad 9), .inl (cI, 86, .inl (va_up R nx (va_cpy f (R nx) 0 0 86) 0))), ((ad 10), .inl (cI, 86, .inl (va_up R nx (va_cpy f (R nx) 0 0 86) 1))), ((ad 11), .inl (cI, 86, .inl (va_up R nx (va_cpy f (R nx) 0 0 86) 2))), ((ad 12), .inl (cI, 86, .inl (va_up R nx (va_cpy f (R nx) 0 0 86) 3))), ((ad 13), .inl (cI, 86, .inl (va_up R nx (va_cpy f (R nx) 0 0 86) 4))), ((ad 14), .inl (cI, 86, .inl (va_up R nx (va_cpy f (R nx) 0 0 86) 5))), ((ad 15), .inl (cG, 2, .inr (.inr (.inr (.inr (fun i => ([(ad 16), (ad 17)] : List Nat)[i]?)))))), ((ad 16), .inl (cI, 86, .inl (SL 0))), ((ad 17), .inl (cI, 86, .inl (SL 1))), ((ad 18), .inl (cZ, 2, .inl sv))] H := by rw [ef_3]; exact hP
      have hD : va_D A [((ad 0), .inr (3, [.ref (ad 1), .ref (ad 3), .ref (ad 5), .ref (ad 7), .ref (ad 15), .ref (ad 18)])), ((ad 1), .inr (0, [.ref (ad 2)])), ((ad 2), .inl (cI, 86, .inl f_3)), ((ad 3), .inr (0, [.ref (ad 4)])), ((ad 4), .inl (cI, 86, .inl f2)), ((ad 5), .inr (2, [.ref (ad 6), .int (nI n)])), ((ad 6), .inl (cC, 60, .inl tx)), ((ad 7), .inr (1, [.ref (ad 8), .int (nI (h_nx nx)), .int (nI (h_sz sn))])), ((ad 8), .inl (cG, 6, .inr (.inr (.inr (.inr (fun i => ([(ad 9), (ad 10), (ad 11), (ad 12), (ad 13), (ad 14)] : List Nat)[i]?)))))), ((ad 9), .inl (cI, 86, .inl (va_up R nx (va_cpy f (R nx) 0 0 86) 0))), ((ad 10), .inl (cI, 86, .inl (va_up R nx (va_cpy f (R nx) 0 0 86) 1))), ((ad 11), .inl (cI, 86, .inl (va_up R nx (va_cpy f (R nx) 0 0 86) 2))), ((ad 12), .inl (cI, 86, .inl (va_up R nx (va_cpy f (R nx) 0 0 86) 3))), ((ad 13), .inl (cI, 86, .inl (va_up R nx (va_cpy f (R nx) 0 0 86) 4))), ((ad 14), .inl (cI, 86, .inl (va_up R nx (va_cpy f (R nx) 0 0 86) 5))), ((ad 15), .inl (cG, 2, .inr (.inr (.inr (.inr (fun i => ([(ad 16), (ad 17)] : List Nat)[i]?)))))), ((ad 16), .inl (cI, 86, .inl (SL 0))), ((ad 17), .inl (cI, 86, .inl (SL 1))), ((ad 18), .inl (cZ, 2, .inl sv))] := by rw [ef_3]; exact hD
      refine lv_iload_n (pc := 46) hx hb dX3_correct_46 rfl (lv_at hl 0 rfl) ?_
      subst ef_3
      subst hQ
      exact b_retW hx hb hr hlocks hS (rfl) (hP) dX3_correct_47
    · skip
      have c_2 : ¬ (x ≤ 999) := c_2
      exact absurd h2 c_2
set_option maxHeartbeats 4000000 in
set_option maxRecDepth 100000 in
theorem c_X3_clear_ng (l : Launch) (D : va_G) (cI cC cZ cG : ClassId) (ad : Nat → Nat) (f : Nat → Int32) (f2 : Nat → Int32) (tx : Nat → Int32) (n : Nat) (nx : Nat) (sn : Nat) (R : Nat → Nat → Int32) (SL : Nat → Nat → Int32) (sv : Nat → Int32) (x : Int32) (hn60 : n ≤ 60) (hnx : nx < 6) (hsn : sn ≤ 6) (hbad : p_ng x) : Met l yX3_clear wsX3_clear ({ frames := 1, cells := 0, slots := 0, locals := 20 } : Room) (b_R D (b_T cI cC cZ cG) [((ad 0), .inr (3, [.ref (ad 1), .ref (ad 3), .ref (ad 5), .ref (ad 7), .ref (ad 15), .ref (ad 18)])), ((ad 1), .inr (0, [.ref (ad 2)])), ((ad 2), .inl (cI, 86, .inl f)), ((ad 3), .inr (0, [.ref (ad 4)])), ((ad 4), .inl (cI, 86, .inl f2)), ((ad 5), .inr (2, [.ref (ad 6), .int (nI n)])), ((ad 6), .inl (cC, 60, .inl tx)), ((ad 7), .inr (1, [.ref (ad 8), .int (nI nx), .int (nI sn)])), ((ad 8), .inl (cG, 6, .inr (.inr (.inr (.inr (fun i => ([(ad 9), (ad 10), (ad 11), (ad 12), (ad 13), (ad 14)] : List Nat)[i]?)))))), ((ad 9), .inl (cI, 86, .inl (R 0))), ((ad 10), .inl (cI, 86, .inl (R 1))), ((ad 11), .inl (cI, 86, .inl (R 2))), ((ad 12), .inl (cI, 86, .inl (R 3))), ((ad 13), .inl (cI, 86, .inl (R 4))), ((ad 14), .inl (cI, 86, .inl (R 5))), ((ad 15), .inl (cG, 2, .inr (.inr (.inr (.inr (fun i => ([(ad 16), (ad 17)] : List Nat)[i]?)))))), ((ad 16), .inl (cI, 86, .inl (SL 0))), ((ad 17), .inl (cI, 86, .inl (SL 1))), ((ad 18), .inl (cZ, 2, .inl sv))] [.ref (ad 0), .int x]) (vp_Si (fun r => r = -1)) 0 0 (fun _ => False) := by
  refine b_enterR (cc := cX3_clear) (maxL := 2) (ret := (some .int)) (by decide) rfl (Nat.le_of_ble_eq_true rfl) ?_
  intro p e s m below meth c ls hx hb hr hml hown hts hlocks hP hK hl Q hQ
  have hown : s.vm.findClass RX3 = some m.cls := hown
  have hl : lv_has ls 2 [(0, .ref (ad 0)), (1, .int x)] := hl
  refine lv_iload_n (pc := 0) hx hb dX3_clear_0 rfl (lv_at hl 1 rfl) ?_
  refine b_cR (pc := 1) (va_runS (As := [.int x]) (rest := []) ⟨hx, hb, hml, hown, hts⟩ (c_X3_isNoGate l D cI cC cZ cG x) (va_cwS 1 hts gX3_clear_X3_isNoGate rfl rfl rfl hyS_X3_isNoGate ⟨Nat.le_of_ble_eq_true rfl, Nat.le_of_ble_eq_true rfl⟩) (b_pRS (wc := []) hK hP [] rfl) rfl rfl hl.1 rfl (lv_room (Nat.le_of_ble_eq_true rfl)) dX3_clear_1 ⟨Nat.zero_le _, Nat.zero_le _⟩) ?_
  refine lv_if_eq (pc := 4) (tgt := 9) hx hb dX3_clear_4 (by decide) (fun c_1 => ?_) (fun c_1 => ?_)
  · skip
    have c_1 : ¬ (p_ng x) := b_i_0.mp c_1
    exact absurd hbad c_1
  · skip
    have c_1 : p_ng x := Classical.not_not.mp (fun h9 => c_1 (b_i_0.mpr h9))
    refine lv_iconst (pc := 7) (v := (-1)) hx hb dX3_clear_7 (by decide) ?_
    subst hQ
    exact b_retR hx hb hr hlocks (rfl) dX3_clear_8
theorem hw_X3_clear_np_0 : (.fieldLink RX3 10 "BeamTurnstiles" "hall" "LBeamTurnstiles$Hall;" : Cond) ∈ wsX3_clear := by decide +kernel
theorem hi_X3_clear_np_X3 : ∀ w ∈ wsX30, w ∈ wsX3_clear := by decide +kernel
set_option maxHeartbeats 4000000 in
set_option maxRecDepth 100000 in
theorem c_X3_clear_np (l : Launch) (D : va_G) (cI cC cZ cG : ClassId) (ad : Nat → Nat) (f : Nat → Int32) (f2 : Nat → Int32) (tx : Nat → Int32) (n : Nat) (nx : Nat) (sn : Nat) (R : Nat → Nat → Int32) (SL : Nat → Nat → Int32) (sv : Nat → Int32) (g : Nat) (hn60 : n ≤ 60) (hnx : nx < 6) (hsn : sn ≤ 6) (hg : g < 6) (hbad : f (8 + g * 13 + 0) = 0) : Met l yX3_clear wsX3_clear ({ frames := 2, cells := 0, slots := 0, locals := 41 } : Room) (b_R D (b_T cI cC cZ cG) [((ad 0), .inr (3, [.ref (ad 1), .ref (ad 3), .ref (ad 5), .ref (ad 7), .ref (ad 15), .ref (ad 18)])), ((ad 1), .inr (0, [.ref (ad 2)])), ((ad 2), .inl (cI, 86, .inl f)), ((ad 3), .inr (0, [.ref (ad 4)])), ((ad 4), .inl (cI, 86, .inl f2)), ((ad 5), .inr (2, [.ref (ad 6), .int (nI n)])), ((ad 6), .inl (cC, 60, .inl tx)), ((ad 7), .inr (1, [.ref (ad 8), .int (nI nx), .int (nI sn)])), ((ad 8), .inl (cG, 6, .inr (.inr (.inr (.inr (fun i => ([(ad 9), (ad 10), (ad 11), (ad 12), (ad 13), (ad 14)] : List Nat)[i]?)))))), ((ad 9), .inl (cI, 86, .inl (R 0))), ((ad 10), .inl (cI, 86, .inl (R 1))), ((ad 11), .inl (cI, 86, .inl (R 2))), ((ad 12), .inl (cI, 86, .inl (R 3))), ((ad 13), .inl (cI, 86, .inl (R 4))), ((ad 14), .inl (cI, 86, .inl (R 5))), ((ad 15), .inl (cG, 2, .inr (.inr (.inr (.inr (fun i => ([(ad 16), (ad 17)] : List Nat)[i]?)))))), ((ad 16), .inl (cI, 86, .inl (SL 0))), ((ad 17), .inl (cI, 86, .inl (SL 1))), ((ad 18), .inl (cZ, 2, .inl sv))] [.ref (ad 0), .int (nI g)]) (vp_Si (fun r => r = -5)) 0 0 (fun _ => False) := by
  refine b_enterR (cc := cX3_clear) (maxL := 2) (ret := (some .int)) (by decide) rfl (Nat.le_of_ble_eq_true rfl) ?_
  intro p e s m below meth c ls hx hb hr hml hown hts hlocks hP hK hl Q hQ
  have hown : s.vm.findClass RX3 = some m.cls := hown
  have hl : lv_has ls 2 [(0, .ref (ad 0)), (1, .int (nI g))] := hl
  refine lv_iload_n (pc := 0) hx hb dX3_clear_0 rfl (lv_at hl 1 rfl) ?_
  refine b_cR (pc := 1) (va_runS (As := [.int (nI g)]) (rest := []) ⟨hx, hb, hml, hown, hts⟩ (c_X3_isNoGate l D cI cC cZ cG (nI g)) (va_cwS 1 hts gX3_clear_X3_isNoGate rfl rfl rfl hyS_X3_isNoGate ⟨Nat.le_of_ble_eq_true rfl, Nat.le_of_ble_eq_true rfl⟩) (b_pRS (wc := []) hK hP [] rfl) rfl rfl hl.1 rfl (lv_room (Nat.le_of_ble_eq_true rfl)) dX3_clear_1 ⟨Nat.zero_le _, Nat.zero_le _⟩) ?_
  refine lv_if_eq (pc := 4) (tgt := 9) hx hb dX3_clear_4 (by decide) (fun c_1 => ?_) (fun c_1 => ?_)
  · skip
    have c_1 : ¬ (p_ng (nI g)) := b_i_0.mp c_1
    refine lv_aload_n (pc := 9) hx hb dX3_clear_9 rfl (lv_at hl 0 rfl) ?_
    refine va_get (pc := 10) (D := D) (ci := 3) (v := .ref (ad 1)) (C := RX3) (T := TX3) (N := 6) hx hb hts hi_X3_clear_np_X3 hown hK hP 0 rfl rfl 0 (by decide) (hts _ hw_X3_clear_np_0) (fun _ h9 => h9) rfl dX3_clear_10 ?_
    refine lv_iload_n (pc := 13) hx hb dX3_clear_13 rfl (lv_at hl 1 rfl) ?_
    refine b_cR (pc := 14) (va_runV (As := [.int (nI g)]) (rest := []) ⟨hx, hb, hml, hown, hts⟩ (c_X0_isUnderWay l D cI cC cZ cG (ad 1) (ad 2) f g (by omega)) (cwV 1 hts gX3_clear_X0_isUnderWay rfl rfl rfl hy_X0_isUnderWay ⟨Nat.le_of_ble_eq_true rfl, Nat.le_of_ble_eq_true rfl⟩) (b_pRV (wc := [((ad 1), .inr (0, [.ref (ad 2)])), ((ad 2), .inl (cI, 86, .inl f))]) hK hP [1, 2] rfl (ci := 0) (q0 := 0) rfl rfl) rfl rfl hl.1 rfl (lv_room (Nat.le_of_ble_eq_true rfl)) dX3_clear_14 ⟨Nat.zero_le _, Nat.zero_le _⟩) ?_
    refine lv_if_ne (pc := 17) (tgt := 23) hx hb dX3_clear_17 (by decide) (fun c_2 => ?_) (fun c_2 => ?_)
    · skip
      have c_2 : ¬ f (8 + g * 13 + 0) = 0 := Classical.not_not.mp (fun h9 => c_2 (b_i_0.mpr h9))
      exact absurd hbad c_2
    · skip
      have c_2 : ¬ (¬ f (8 + g * 13 + 0) = 0) := b_i_0.mp c_2
      refine lv_bipush (pc := 20) (v := (-5)) hx hb dX3_clear_20 (by decide) ?_
      subst hQ
      exact b_retR hx hb hr hlocks (rfl) dX3_clear_22
  · skip
    have c_1 : p_ng (nI g) := Classical.not_not.mp (fun h9 => c_1 (b_i_0.mpr h9))
    exact absurd c_1 (p_ng_no hg)
theorem hw_X3_clear_ok_0 : (.fieldLink RX3 10 "BeamTurnstiles" "hall" "LBeamTurnstiles$Hall;" : Cond) ∈ wsX3_clear := by decide +kernel
theorem hi_X3_clear_ok_X3 : ∀ w ∈ wsX30, w ∈ wsX3_clear := by decide +kernel
theorem hw_X3_clear_ok_2 : (.fieldLink RX3 29 "BeamTurnstiles" "history" "LBeamTurnstiles$History;" : Cond) ∈ wsX3_clear := by decide +kernel
theorem hw_X3_clear_ok_3 : (.fieldLink RX3 49 "BeamTurnstiles$Hall" "row" "[I" : Cond) ∈ wsX3_clear := by decide +kernel
theorem hi_X3_clear_ok_X0 : ∀ w ∈ wsX00, w ∈ wsX3_clear := by decide +kernel
set_option maxHeartbeats 4000000 in
set_option maxRecDepth 100000 in
theorem c_X3_clear_ok (l : Launch) (D : va_G) (cI cC cZ cG : ClassId) (tb lo hi : Nat) (sz : Nat) (ad : Nat → Nat) (f : Nat → Int32) (f2 : Nat → Int32) (tx : Nat → Int32) (n : Nat) (nx : Nat) (sn : Nat) (R : Nat → Nat → Int32) (SL : Nat → Nat → Int32) (sv : Nat → Int32) (g : Nat) (hn60 : n ≤ 60) (hnx : nx < 6) (hsn : sn ≤ 6) (hg : g < 6) (hbad : ¬ f (8 + g * 13 + 0) = 0) : Met l yX3_clear wsX3_clear ({ frames := 4, cells := 0, slots := 0, locals := 85 } : Room) (b_W D (b_T cI cC cZ cG) (b_X tb lo hi) [((ad 0), .inr (3, [.ref (ad 1), .ref (ad 3), .ref (ad 5), .ref (ad 7), .ref (ad 15), .ref (ad 18)])), ((ad 1), .inr (0, [.ref (ad 2)])), ((ad 2), .inl (cI, 86, .inl f)), ((ad 3), .inr (0, [.ref (ad 4)])), ((ad 4), .inl (cI, 86, .inl f2)), ((ad 5), .inr (2, [.ref (ad 6), .int (nI n)])), ((ad 6), .inl (cC, 60, .inl tx)), ((ad 7), .inr (1, [.ref (ad 8), .int (nI nx), .int (nI sn)])), ((ad 8), .inl (cG, 6, .inr (.inr (.inr (.inr (fun i => ([(ad 9), (ad 10), (ad 11), (ad 12), (ad 13), (ad 14)] : List Nat)[i]?)))))), ((ad 9), .inl (cI, 86, .inl (R 0))), ((ad 10), .inl (cI, 86, .inl (R 1))), ((ad 11), .inl (cI, 86, .inl (R 2))), ((ad 12), .inl (cI, 86, .inl (R 3))), ((ad 13), .inl (cI, 86, .inl (R 4))), ((ad 14), .inl (cI, 86, .inl (R 5))), ((ad 15), .inl (cG, 2, .inr (.inr (.inr (.inr (fun i => ([(ad 16), (ad 17)] : List Nat)[i]?)))))), ((ad 16), .inl (cI, 86, .inl (SL 0))), ((ad 17), .inl (cI, 86, .inl (SL 1))), ((ad 18), .inl (cZ, 2, .inl sv))] sz [.ref (ad 0), .int (nI g)]) (b_Qi D (f (8 + g * 13 + 0)) [((ad 0), .inr (3, [.ref (ad 1), .ref (ad 3), .ref (ad 5), .ref (ad 7), .ref (ad 15), .ref (ad 18)])), ((ad 1), .inr (0, [.ref (ad 2)])), ((ad 2), .inl (cI, 86, .inl (h_free f g))), ((ad 3), .inr (0, [.ref (ad 4)])), ((ad 4), .inl (cI, 86, .inl f2)), ((ad 5), .inr (2, [.ref (ad 6), .int (nI n)])), ((ad 6), .inl (cC, 60, .inl tx)), ((ad 7), .inr (1, [.ref (ad 8), .int (nI (h_nx nx)), .int (nI (h_sz sn))])), ((ad 8), .inl (cG, 6, .inr (.inr (.inr (.inr (fun i => ([(ad 9), (ad 10), (ad 11), (ad 12), (ad 13), (ad 14)] : List Nat)[i]?)))))), ((ad 9), .inl (cI, 86, .inl (va_up R nx (va_cpy f (R nx) 0 0 86) 0))), ((ad 10), .inl (cI, 86, .inl (va_up R nx (va_cpy f (R nx) 0 0 86) 1))), ((ad 11), .inl (cI, 86, .inl (va_up R nx (va_cpy f (R nx) 0 0 86) 2))), ((ad 12), .inl (cI, 86, .inl (va_up R nx (va_cpy f (R nx) 0 0 86) 3))), ((ad 13), .inl (cI, 86, .inl (va_up R nx (va_cpy f (R nx) 0 0 86) 4))), ((ad 14), .inl (cI, 86, .inl (va_up R nx (va_cpy f (R nx) 0 0 86) 5))), ((ad 15), .inl (cG, 2, .inr (.inr (.inr (.inr (fun i => ([(ad 16), (ad 17)] : List Nat)[i]?)))))), ((ad 16), .inl (cI, 86, .inl (SL 0))), ((ad 17), .inl (cI, 86, .inl (SL 1))), ((ad 18), .inl (cZ, 2, .inl sv))] (va_A [((ad 0), .inr (3, [.ref (ad 1), .ref (ad 3), .ref (ad 5), .ref (ad 7), .ref (ad 15), .ref (ad 18)])), ((ad 1), .inr (0, [.ref (ad 2)])), ((ad 2), .inl (cI, 86, .inl f)), ((ad 3), .inr (0, [.ref (ad 4)])), ((ad 4), .inl (cI, 86, .inl f2)), ((ad 5), .inr (2, [.ref (ad 6), .int (nI n)])), ((ad 6), .inl (cC, 60, .inl tx)), ((ad 7), .inr (1, [.ref (ad 8), .int (nI nx), .int (nI sn)])), ((ad 8), .inl (cG, 6, .inr (.inr (.inr (.inr (fun i => ([(ad 9), (ad 10), (ad 11), (ad 12), (ad 13), (ad 14)] : List Nat)[i]?)))))), ((ad 9), .inl (cI, 86, .inl (R 0))), ((ad 10), .inl (cI, 86, .inl (R 1))), ((ad 11), .inl (cI, 86, .inl (R 2))), ((ad 12), .inl (cI, 86, .inl (R 3))), ((ad 13), .inl (cI, 86, .inl (R 4))), ((ad 14), .inl (cI, 86, .inl (R 5))), ((ad 15), .inl (cG, 2, .inr (.inr (.inr (.inr (fun i => ([(ad 16), (ad 17)] : List Nat)[i]?)))))), ((ad 16), .inl (cI, 86, .inl (SL 0))), ((ad 17), .inl (cI, 86, .inl (SL 1))), ((ad 18), .inl (cZ, 2, .inl sv))] sz)) 0 0 (va_A [((ad 0), .inr (3, [.ref (ad 1), .ref (ad 3), .ref (ad 5), .ref (ad 7), .ref (ad 15), .ref (ad 18)])), ((ad 1), .inr (0, [.ref (ad 2)])), ((ad 2), .inl (cI, 86, .inl f)), ((ad 3), .inr (0, [.ref (ad 4)])), ((ad 4), .inl (cI, 86, .inl f2)), ((ad 5), .inr (2, [.ref (ad 6), .int (nI n)])), ((ad 6), .inl (cC, 60, .inl tx)), ((ad 7), .inr (1, [.ref (ad 8), .int (nI nx), .int (nI sn)])), ((ad 8), .inl (cG, 6, .inr (.inr (.inr (.inr (fun i => ([(ad 9), (ad 10), (ad 11), (ad 12), (ad 13), (ad 14)] : List Nat)[i]?)))))), ((ad 9), .inl (cI, 86, .inl (R 0))), ((ad 10), .inl (cI, 86, .inl (R 1))), ((ad 11), .inl (cI, 86, .inl (R 2))), ((ad 12), .inl (cI, 86, .inl (R 3))), ((ad 13), .inl (cI, 86, .inl (R 4))), ((ad 14), .inl (cI, 86, .inl (R 5))), ((ad 15), .inl (cG, 2, .inr (.inr (.inr (.inr (fun i => ([(ad 16), (ad 17)] : List Nat)[i]?)))))), ((ad 16), .inl (cI, 86, .inl (SL 0))), ((ad 17), .inl (cI, 86, .inl (SL 1))), ((ad 18), .inl (cZ, 2, .inl sv))] sz) := by
  refine b_enterW (Qc := fun A => b_Qi D (f (8 + g * 13 + 0)) [((ad 0), .inr (3, [.ref (ad 1), .ref (ad 3), .ref (ad 5), .ref (ad 7), .ref (ad 15), .ref (ad 18)])), ((ad 1), .inr (0, [.ref (ad 2)])), ((ad 2), .inl (cI, 86, .inl (h_free f g))), ((ad 3), .inr (0, [.ref (ad 4)])), ((ad 4), .inl (cI, 86, .inl f2)), ((ad 5), .inr (2, [.ref (ad 6), .int (nI n)])), ((ad 6), .inl (cC, 60, .inl tx)), ((ad 7), .inr (1, [.ref (ad 8), .int (nI (h_nx nx)), .int (nI (h_sz sn))])), ((ad 8), .inl (cG, 6, .inr (.inr (.inr (.inr (fun i => ([(ad 9), (ad 10), (ad 11), (ad 12), (ad 13), (ad 14)] : List Nat)[i]?)))))), ((ad 9), .inl (cI, 86, .inl (va_up R nx (va_cpy f (R nx) 0 0 86) 0))), ((ad 10), .inl (cI, 86, .inl (va_up R nx (va_cpy f (R nx) 0 0 86) 1))), ((ad 11), .inl (cI, 86, .inl (va_up R nx (va_cpy f (R nx) 0 0 86) 2))), ((ad 12), .inl (cI, 86, .inl (va_up R nx (va_cpy f (R nx) 0 0 86) 3))), ((ad 13), .inl (cI, 86, .inl (va_up R nx (va_cpy f (R nx) 0 0 86) 4))), ((ad 14), .inl (cI, 86, .inl (va_up R nx (va_cpy f (R nx) 0 0 86) 5))), ((ad 15), .inl (cG, 2, .inr (.inr (.inr (.inr (fun i => ([(ad 16), (ad 17)] : List Nat)[i]?)))))), ((ad 16), .inl (cI, 86, .inl (SL 0))), ((ad 17), .inl (cI, 86, .inl (SL 1))), ((ad 18), .inl (cZ, 2, .inl sv))] A) (cc := cX3_clear) (maxL := 2) (ret := (some .int)) (by decide) rfl (Nat.le_of_ble_eq_true rfl) ?_
  intro p e s m below meth c ls A hx hb hr hml hown hts hlocks hname hP hK hD hA hS hX hl Q hQ
  have hown : s.vm.findClass RX3 = some m.cls := hown
  have hl : lv_has ls 2 [(0, .ref (ad 0)), (1, .int (nI g))] := hl
  refine lv_iload_n (pc := 0) hx hb dX3_clear_0 rfl (lv_at hl 1 rfl) ?_
  refine b_cR (pc := 1) (va_runS (As := [.int (nI g)]) (rest := []) ⟨hx, hb, hml, hown, hts⟩ (c_X3_isNoGate l D cI cC cZ cG (nI g)) (va_cwS 1 hts gX3_clear_X3_isNoGate rfl rfl rfl hyS_X3_isNoGate ⟨Nat.le_of_ble_eq_true rfl, Nat.le_of_ble_eq_true rfl⟩) (b_pRS (wc := []) hK hP [] rfl) rfl rfl hl.1 rfl (lv_room (Nat.le_of_ble_eq_true rfl)) dX3_clear_1 ⟨Nat.zero_le _, Nat.zero_le _⟩) ?_
  refine lv_if_eq (pc := 4) (tgt := 9) hx hb dX3_clear_4 (by decide) (fun c_1 => ?_) (fun c_1 => ?_)
  · skip
    have c_1 : ¬ (p_ng (nI g)) := b_i_0.mp c_1
    refine lv_aload_n (pc := 9) hx hb dX3_clear_9 rfl (lv_at hl 0 rfl) ?_
    refine va_get (pc := 10) (D := D) (ci := 3) (v := .ref (ad 1)) (C := RX3) (T := TX3) (N := 6) hx hb hts hi_X3_clear_ok_X3 hown hK hP 0 rfl rfl 0 (by decide) (hts _ hw_X3_clear_ok_0) (fun _ h9 => h9) rfl dX3_clear_10 ?_
    refine lv_iload_n (pc := 13) hx hb dX3_clear_13 rfl (lv_at hl 1 rfl) ?_
    refine b_cR (pc := 14) (va_runV (As := [.int (nI g)]) (rest := []) ⟨hx, hb, hml, hown, hts⟩ (c_X0_isUnderWay l D cI cC cZ cG (ad 1) (ad 2) f g (by omega)) (cwV 1 hts gX3_clear_X0_isUnderWay rfl rfl rfl hy_X0_isUnderWay ⟨Nat.le_of_ble_eq_true rfl, Nat.le_of_ble_eq_true rfl⟩) (b_pRV (wc := [((ad 1), .inr (0, [.ref (ad 2)])), ((ad 2), .inl (cI, 86, .inl f))]) hK hP [1, 2] rfl (ci := 0) (q0 := 0) rfl rfl) rfl rfl hl.1 rfl (lv_room (Nat.le_of_ble_eq_true rfl)) dX3_clear_14 ⟨Nat.zero_le _, Nat.zero_le _⟩) ?_
    refine lv_if_ne (pc := 17) (tgt := 23) hx hb dX3_clear_17 (by decide) (fun c_2 => ?_) (fun c_2 => ?_)
    · skip
      have c_2 : ¬ f (8 + g * 13 + 0) = 0 := Classical.not_not.mp (fun h9 => c_2 (b_i_0.mpr h9))
      refine lv_aload_n (pc := 23) hx hb dX3_clear_23 rfl (lv_at hl 0 rfl) ?_
      refine va_get (pc := 24) (D := D) (ci := 3) (v := .ref (ad 7)) (C := RX3) (T := TX3) (N := 6) hx hb hts hi_X3_clear_ok_X3 hown hK hP 0 rfl rfl 3 (by decide) (hts _ hw_X3_clear_ok_2) (fun _ h9 => h9) rfl dX3_clear_24 ?_
      refine lv_aload_n (pc := 27) hx hb dX3_clear_27 rfl (lv_at hl 0 rfl) ?_
      refine va_get (pc := 28) (D := D) (ci := 3) (v := .ref (ad 1)) (C := RX3) (T := TX3) (N := 6) hx hb hts hi_X3_clear_ok_X3 hown hK hP 0 rfl rfl 0 (by decide) (hts _ hw_X3_clear_ok_0) (fun _ h9 => h9) rfl dX3_clear_28 ?_
      refine va_get (pc := 31) (D := D) (ci := 0) (v := .ref (ad 2)) (C := RX0) (T := TX0) (N := 1) hx hb hts hi_X3_clear_ok_X0 hown hK hP 1 rfl rfl 0 (by decide) (hts _ hw_X3_clear_ok_3) (fun _ h9 => h9) rfl dX3_clear_31 ?_
      refine b_cV (pc := 34) (w1 := [((ad 7), .inr (1, [.ref (ad 8), .int (nI (h_nx nx)), .int (nI (h_sz sn))])), ((ad 8), .inl (cG, 6, .inr (.inr (.inr (.inr (fun i => ([(ad 9), (ad 10), (ad 11), (ad 12), (ad 13), (ad 14)] : List Nat)[i]?)))))), ((ad 9), .inl (cI, 86, .inl (va_up R nx (va_cpy f (R nx) 0 0 86) 0))), ((ad 10), .inl (cI, 86, .inl (va_up R nx (va_cpy f (R nx) 0 0 86) 1))), ((ad 11), .inl (cI, 86, .inl (va_up R nx (va_cpy f (R nx) 0 0 86) 2))), ((ad 12), .inl (cI, 86, .inl (va_up R nx (va_cpy f (R nx) 0 0 86) 3))), ((ad 13), .inl (cI, 86, .inl (va_up R nx (va_cpy f (R nx) 0 0 86) 4))), ((ad 14), .inl (cI, 86, .inl (va_up R nx (va_cpy f (R nx) 0 0 86) 5))), ((ad 2), .inl (cI, 86, .inl f))]) (va_runV (As := [.ref (ad 2)]) (rest := []) ⟨hx, hb, hml, hown, hts⟩ (c_X1_keep l D cI cC cZ cG tb lo hi s.heap.size (ad 7) (ad 8) (ad 9) (ad 10) (ad 11) (ad 12) (ad 13) (ad 14) nx sn R (ad 2) f (by omega) (by omega)) (cwV 1 hts gX3_clear_X1_keep rfl rfl rfl hy_X1_keep ⟨Nat.le_of_ble_eq_true rfl, Nat.le_of_ble_eq_true rfl⟩) (b_pWV (wc := [((ad 7), .inr (1, [.ref (ad 8), .int (nI nx), .int (nI sn)])), ((ad 8), .inl (cG, 6, .inr (.inr (.inr (.inr (fun i => ([(ad 9), (ad 10), (ad 11), (ad 12), (ad 13), (ad 14)] : List Nat)[i]?)))))), ((ad 9), .inl (cI, 86, .inl (R 0))), ((ad 10), .inl (cI, 86, .inl (R 1))), ((ad 11), .inl (cI, 86, .inl (R 2))), ((ad 12), .inl (cI, 86, .inl (R 3))), ((ad 13), .inl (cI, 86, .inl (R 4))), ((ad 14), .inl (cI, 86, .inl (R 5))), ((ad 2), .inl (cI, 86, .inl f))]) hK hP hD (b_Xok_X tb lo hi) [7, 8, 9, 10, 11, 12, 13, 14, 2] rfl (by decide) rfl (b_Xc hX hD hS hA [7, 8, 9, 10, 11, 12, 13, 14, 2] rfl) (ci := 1) (q0 := 0) rfl rfl) rfl rfl hl.1 rfl (lv_room (Nat.le_of_ble_eq_true rfl)) dX3_clear_34 ⟨Nat.zero_le _, Nat.zero_le _⟩) hP hD hS hA [7, 8, 9, 10, 11, 12, 13, 14, 2] rfl rfl (fun H locs hP hD hS => ?_)
      have hP : va_P D vwCl [((ad 0), .inr (3, [.ref (ad 1), .ref (ad 3), .ref (ad 5), .ref (ad 7), .ref (ad 15), .ref (ad 18)])), ((ad 1), .inr (0, [.ref (ad 2)])), ((ad 2), .inl (cI, 86, .inl f)), ((ad 3), .inr (0, [.ref (ad 4)])), ((ad 4), .inl (cI, 86, .inl f2)), ((ad 5), .inr (2, [.ref (ad 6), .int (nI n)])), ((ad 6), .inl (cC, 60, .inl tx)), ((ad 7), .inr (1, [.ref (ad 8), .int (nI (h_nx nx)), .int (nI (h_sz sn))])), ((ad 8), .inl (cG, 6, .inr (.inr (.inr (.inr (fun i => ([(ad 9), (ad 10), (ad 11), (ad 12), (ad 13), (ad 14)] : List Nat)[i]?)))))), ((ad 9), .inl (cI, 86, .inl (va_up R nx (va_cpy f (R nx) 0 0 86) 0))), ((ad 10), .inl (cI, 86, .inl (va_up R nx (va_cpy f (R nx) 0 0 86) 1))), ((ad 11), .inl (cI, 86, .inl (va_up R nx (va_cpy f (R nx) 0 0 86) 2))), ((ad 12), .inl (cI, 86, .inl (va_up R nx (va_cpy f (R nx) 0 0 86) 3))), ((ad 13), .inl (cI, 86, .inl (va_up R nx (va_cpy f (R nx) 0 0 86) 4))), ((ad 14), .inl (cI, 86, .inl (va_up R nx (va_cpy f (R nx) 0 0 86) 5))), ((ad 15), .inl (cG, 2, .inr (.inr (.inr (.inr (fun i => ([(ad 16), (ad 17)] : List Nat)[i]?)))))), ((ad 16), .inl (cI, 86, .inl (SL 0))), ((ad 17), .inl (cI, 86, .inl (SL 1))), ((ad 18), .inl (cZ, 2, .inl sv))] H := hP
      have hD : va_D A [((ad 0), .inr (3, [.ref (ad 1), .ref (ad 3), .ref (ad 5), .ref (ad 7), .ref (ad 15), .ref (ad 18)])), ((ad 1), .inr (0, [.ref (ad 2)])), ((ad 2), .inl (cI, 86, .inl f)), ((ad 3), .inr (0, [.ref (ad 4)])), ((ad 4), .inl (cI, 86, .inl f2)), ((ad 5), .inr (2, [.ref (ad 6), .int (nI n)])), ((ad 6), .inl (cC, 60, .inl tx)), ((ad 7), .inr (1, [.ref (ad 8), .int (nI (h_nx nx)), .int (nI (h_sz sn))])), ((ad 8), .inl (cG, 6, .inr (.inr (.inr (.inr (fun i => ([(ad 9), (ad 10), (ad 11), (ad 12), (ad 13), (ad 14)] : List Nat)[i]?)))))), ((ad 9), .inl (cI, 86, .inl (va_up R nx (va_cpy f (R nx) 0 0 86) 0))), ((ad 10), .inl (cI, 86, .inl (va_up R nx (va_cpy f (R nx) 0 0 86) 1))), ((ad 11), .inl (cI, 86, .inl (va_up R nx (va_cpy f (R nx) 0 0 86) 2))), ((ad 12), .inl (cI, 86, .inl (va_up R nx (va_cpy f (R nx) 0 0 86) 3))), ((ad 13), .inl (cI, 86, .inl (va_up R nx (va_cpy f (R nx) 0 0 86) 4))), ((ad 14), .inl (cI, 86, .inl (va_up R nx (va_cpy f (R nx) 0 0 86) 5))), ((ad 15), .inl (cG, 2, .inr (.inr (.inr (.inr (fun i => ([(ad 16), (ad 17)] : List Nat)[i]?)))))), ((ad 16), .inl (cI, 86, .inl (SL 0))), ((ad 17), .inl (cI, 86, .inl (SL 1))), ((ad 18), .inl (cZ, 2, .inl sv))] := hD
      refine lv_aload_n (pc := 37) hx hb dX3_clear_37 rfl (lv_at hl 0 rfl) ?_
      refine va_get (pc := 38) (D := D) (ci := 3) (v := .ref (ad 1)) (C := RX3) (T := TX3) (N := 6) hx hb hts hi_X3_clear_ok_X3 hown hK hP 0 rfl rfl 0 (by decide) (hts _ hw_X3_clear_ok_0) (fun _ h9 => h9) rfl dX3_clear_38 ?_
      refine lv_iload_n (pc := 41) hx hb dX3_clear_41 rfl (lv_at hl 1 rfl) ?_
      refine b_cW (pc := 42) (w1 := [((ad 1), .inr (0, [.ref (ad 2)])), ((ad 2), .inl (cI, 86, .inl (h_free f g)))]) (va_runV (As := [.int (nI g)]) (rest := []) ⟨hx, hb, hml, hown, hts⟩ (c_X0_free l D cI cC cZ cG tb lo hi H.size (ad 1) (ad 2) f g (by omega)) (cwV 1 hts gX3_clear_X0_free rfl rfl rfl hy_X0_free ⟨Nat.le_of_ble_eq_true rfl, Nat.le_of_ble_eq_true rfl⟩) (b_pWV (wc := [((ad 1), .inr (0, [.ref (ad 2)])), ((ad 2), .inl (cI, 86, .inl f))]) hK hP hD (b_Xok_X tb lo hi) [1, 2] rfl (by decide) rfl (b_Xc hX hD hS hA [1, 2] rfl) (ci := 0) (q0 := 0) rfl rfl) rfl rfl hl.1 rfl (lv_room (Nat.le_of_ble_eq_true rfl)) dX3_clear_42 ⟨Nat.zero_le _, Nat.zero_le _⟩) hP hD hS hA [1, 2] rfl rfl (fun H locs hP hD hS => ?_)
      have hP : va_P D vwCl [((ad 0), .inr (3, [.ref (ad 1), .ref (ad 3), .ref (ad 5), .ref (ad 7), .ref (ad 15), .ref (ad 18)])), ((ad 1), .inr (0, [.ref (ad 2)])), ((ad 2), .inl (cI, 86, .inl (h_free f g))), ((ad 3), .inr (0, [.ref (ad 4)])), ((ad 4), .inl (cI, 86, .inl f2)), ((ad 5), .inr (2, [.ref (ad 6), .int (nI n)])), ((ad 6), .inl (cC, 60, .inl tx)), ((ad 7), .inr (1, [.ref (ad 8), .int (nI (h_nx nx)), .int (nI (h_sz sn))])), ((ad 8), .inl (cG, 6, .inr (.inr (.inr (.inr (fun i => ([(ad 9), (ad 10), (ad 11), (ad 12), (ad 13), (ad 14)] : List Nat)[i]?)))))), ((ad 9), .inl (cI, 86, .inl (va_up R nx (va_cpy f (R nx) 0 0 86) 0))), ((ad 10), .inl (cI, 86, .inl (va_up R nx (va_cpy f (R nx) 0 0 86) 1))), ((ad 11), .inl (cI, 86, .inl (va_up R nx (va_cpy f (R nx) 0 0 86) 2))), ((ad 12), .inl (cI, 86, .inl (va_up R nx (va_cpy f (R nx) 0 0 86) 3))), ((ad 13), .inl (cI, 86, .inl (va_up R nx (va_cpy f (R nx) 0 0 86) 4))), ((ad 14), .inl (cI, 86, .inl (va_up R nx (va_cpy f (R nx) 0 0 86) 5))), ((ad 15), .inl (cG, 2, .inr (.inr (.inr (.inr (fun i => ([(ad 16), (ad 17)] : List Nat)[i]?)))))), ((ad 16), .inl (cI, 86, .inl (SL 0))), ((ad 17), .inl (cI, 86, .inl (SL 1))), ((ad 18), .inl (cZ, 2, .inl sv))] H := hP
      have hD : va_D A [((ad 0), .inr (3, [.ref (ad 1), .ref (ad 3), .ref (ad 5), .ref (ad 7), .ref (ad 15), .ref (ad 18)])), ((ad 1), .inr (0, [.ref (ad 2)])), ((ad 2), .inl (cI, 86, .inl (h_free f g))), ((ad 3), .inr (0, [.ref (ad 4)])), ((ad 4), .inl (cI, 86, .inl f2)), ((ad 5), .inr (2, [.ref (ad 6), .int (nI n)])), ((ad 6), .inl (cC, 60, .inl tx)), ((ad 7), .inr (1, [.ref (ad 8), .int (nI (h_nx nx)), .int (nI (h_sz sn))])), ((ad 8), .inl (cG, 6, .inr (.inr (.inr (.inr (fun i => ([(ad 9), (ad 10), (ad 11), (ad 12), (ad 13), (ad 14)] : List Nat)[i]?)))))), ((ad 9), .inl (cI, 86, .inl (va_up R nx (va_cpy f (R nx) 0 0 86) 0))), ((ad 10), .inl (cI, 86, .inl (va_up R nx (va_cpy f (R nx) 0 0 86) 1))), ((ad 11), .inl (cI, 86, .inl (va_up R nx (va_cpy f (R nx) 0 0 86) 2))), ((ad 12), .inl (cI, 86, .inl (va_up R nx (va_cpy f (R nx) 0 0 86) 3))), ((ad 13), .inl (cI, 86, .inl (va_up R nx (va_cpy f (R nx) 0 0 86) 4))), ((ad 14), .inl (cI, 86, .inl (va_up R nx (va_cpy f (R nx) 0 0 86) 5))), ((ad 15), .inl (cG, 2, .inr (.inr (.inr (.inr (fun i => ([(ad 16), (ad 17)] : List Nat)[i]?)))))), ((ad 16), .inl (cI, 86, .inl (SL 0))), ((ad 17), .inl (cI, 86, .inl (SL 1))), ((ad 18), .inl (cZ, 2, .inl sv))] := hD
      obtain ⟨f_3, ef_3⟩ : ∃ z9 : Nat → Int32, z9 = h_free f g := ⟨_, rfl⟩
      have hP : va_P D vwCl [((ad 0), .inr (3, [.ref (ad 1), .ref (ad 3), .ref (ad 5), .ref (ad 7), .ref (ad 15), .ref (ad 18)])), ((ad 1), .inr (0, [.ref (ad 2)])), ((ad 2), .inl (cI, 86, .inl f_3)), ((ad 3), .inr (0, [.ref (ad 4)])), ((ad 4), .inl (cI, 86, .inl f2)), ((ad 5), .inr (2, [.ref (ad 6), .int (nI n)])), ((ad 6), .inl (cC, 60, .inl tx)), ((ad 7), .inr (1, [.ref (ad 8), .int (nI (h_nx nx)), .int (nI (h_sz sn))])), ((ad 8), .inl (cG, 6, .inr (.inr (.inr (.inr (fun i => ([(ad 9), (ad 10), (ad 11), (ad 12), (ad 13), (ad 14)] : List Nat)[i]?)))))), ((ad 9), .inl (cI, 86, .inl (va_up R nx (va_cpy f (R nx) 0 0 86) 0))), ((ad 10), .inl (cI, 86, .inl (va_up R nx (va_cpy f (R nx) 0 0 86) 1))), ((ad 11), .inl (cI, 86, .inl (va_up R nx (va_cpy f (R nx) 0 0 86) 2))), ((ad 12), .inl (cI, 86, .inl (va_up R nx (va_cpy f (R nx) 0 0 86) 3))), ((ad 13), .inl (cI, 86, .inl (va_up R nx (va_cpy f (R nx) 0 0 86) 4))), ((ad 14), .inl (cI, 86, .inl (va_up R nx (va_cpy f (R nx) 0 0 86) 5))), ((ad 15), .inl (cG, 2, .inr (.inr (.inr (.inr (fun i => ([(ad 16), (ad 17)] : List Nat)[i]?)))))), ((ad 16), .inl (cI, 86, .inl (SL 0))), ((ad 17), .inl (cI, 86, .inl (SL 1))), ((ad 18), .inl (cZ, 2, .inl sv))] H := by rw [ef_3]; exact hP
      have hD : va_D A [((ad 0), .inr (3, [.ref (ad 1), .ref (ad 3), .ref (ad 5), .ref (ad 7), .ref (ad 15), .ref (ad 18)])), ((ad 1), .inr (0, [.ref (ad 2)])), ((ad 2), .inl (cI, 86, .inl f_3)), ((ad 3), .inr (0, [.ref (ad 4)])), ((ad 4), .inl (cI, 86, .inl f2)), ((ad 5), .inr (2, [.ref (ad 6), .int (nI n)])), ((ad 6), .inl (cC, 60, .inl tx)), ((ad 7), .inr (1, [.ref (ad 8), .int (nI (h_nx nx)), .int (nI (h_sz sn))])), ((ad 8), .inl (cG, 6, .inr (.inr (.inr (.inr (fun i => ([(ad 9), (ad 10), (ad 11), (ad 12), (ad 13), (ad 14)] : List Nat)[i]?)))))), ((ad 9), .inl (cI, 86, .inl (va_up R nx (va_cpy f (R nx) 0 0 86) 0))), ((ad 10), .inl (cI, 86, .inl (va_up R nx (va_cpy f (R nx) 0 0 86) 1))), ((ad 11), .inl (cI, 86, .inl (va_up R nx (va_cpy f (R nx) 0 0 86) 2))), ((ad 12), .inl (cI, 86, .inl (va_up R nx (va_cpy f (R nx) 0 0 86) 3))), ((ad 13), .inl (cI, 86, .inl (va_up R nx (va_cpy f (R nx) 0 0 86) 4))), ((ad 14), .inl (cI, 86, .inl (va_up R nx (va_cpy f (R nx) 0 0 86) 5))), ((ad 15), .inl (cG, 2, .inr (.inr (.inr (.inr (fun i => ([(ad 16), (ad 17)] : List Nat)[i]?)))))), ((ad 16), .inl (cI, 86, .inl (SL 0))), ((ad 17), .inl (cI, 86, .inl (SL 1))), ((ad 18), .inl (cZ, 2, .inl sv))] := by rw [ef_3]; exact hD
      subst ef_3
      subst hQ
      exact b_retW hx hb hr hlocks hS (rfl) (hP) dX3_clear_45
    · skip
      have c_2 : ¬ (¬ f (8 + g * 13 + 0) = 0) := b_i_0.mp c_2
      exact absurd hbad c_2
  · skip
    have c_1 : p_ng (nI g) := Classical.not_not.mp (fun h9 => c_1 (b_i_0.mpr h9))
    exact absurd c_1 (p_ng_no hg)
set_option maxHeartbeats 4000000 in
set_option maxRecDepth 100000 in
theorem c_X3_gate_ng (l : Launch) (D : va_G) (cI cC cZ cG : ClassId) (ad : Nat → Nat) (f : Nat → Int32) (f2 : Nat → Int32) (tx : Nat → Int32) (n : Nat) (nx : Nat) (sn : Nat) (R : Nat → Nat → Int32) (SL : Nat → Nat → Int32) (sv : Nat → Int32) (x : Int32) (y : Int32) (hn60 : n ≤ 60) (hnx : nx < 6) (hsn : sn ≤ 6) (hbad : p_ng x) : Met l yX3_gate wsX3_gate ({ frames := 1, cells := 0, slots := 0, locals := 20 } : Room) (b_R D (b_T cI cC cZ cG) [((ad 0), .inr (3, [.ref (ad 1), .ref (ad 3), .ref (ad 5), .ref (ad 7), .ref (ad 15), .ref (ad 18)])), ((ad 1), .inr (0, [.ref (ad 2)])), ((ad 2), .inl (cI, 86, .inl f)), ((ad 3), .inr (0, [.ref (ad 4)])), ((ad 4), .inl (cI, 86, .inl f2)), ((ad 5), .inr (2, [.ref (ad 6), .int (nI n)])), ((ad 6), .inl (cC, 60, .inl tx)), ((ad 7), .inr (1, [.ref (ad 8), .int (nI nx), .int (nI sn)])), ((ad 8), .inl (cG, 6, .inr (.inr (.inr (.inr (fun i => ([(ad 9), (ad 10), (ad 11), (ad 12), (ad 13), (ad 14)] : List Nat)[i]?)))))), ((ad 9), .inl (cI, 86, .inl (R 0))), ((ad 10), .inl (cI, 86, .inl (R 1))), ((ad 11), .inl (cI, 86, .inl (R 2))), ((ad 12), .inl (cI, 86, .inl (R 3))), ((ad 13), .inl (cI, 86, .inl (R 4))), ((ad 14), .inl (cI, 86, .inl (R 5))), ((ad 15), .inl (cG, 2, .inr (.inr (.inr (.inr (fun i => ([(ad 16), (ad 17)] : List Nat)[i]?)))))), ((ad 16), .inl (cI, 86, .inl (SL 0))), ((ad 17), .inl (cI, 86, .inl (SL 1))), ((ad 18), .inl (cZ, 2, .inl sv))] [.ref (ad 0), .int x, .int y]) (vp_Si (fun r => r = -1)) 0 0 (fun _ => False) := by
  refine b_enterR (cc := cX3_gate) (maxL := 3) (ret := (some .int)) (by decide) rfl (Nat.le_of_ble_eq_true rfl) ?_
  intro p e s m below meth c ls hx hb hr hml hown hts hlocks hP hK hl Q hQ
  have hown : s.vm.findClass RX3 = some m.cls := hown
  have hl : lv_has ls 3 [(0, .ref (ad 0)), (1, .int x), (2, .int y)] := hl
  refine lv_iload_n (pc := 0) hx hb dX3_gate_0 rfl (lv_at hl 1 rfl) ?_
  refine b_cR (pc := 1) (va_runS (As := [.int x]) (rest := []) ⟨hx, hb, hml, hown, hts⟩ (c_X3_isNoGate l D cI cC cZ cG x) (va_cwS 1 hts gX3_gate_X3_isNoGate rfl rfl rfl hyS_X3_isNoGate ⟨Nat.le_of_ble_eq_true rfl, Nat.le_of_ble_eq_true rfl⟩) (b_pRS (wc := []) hK hP [] rfl) rfl rfl hl.1 rfl (lv_room (Nat.le_of_ble_eq_true rfl)) dX3_gate_1 ⟨Nat.zero_le _, Nat.zero_le _⟩) ?_
  refine lv_if_eq (pc := 4) (tgt := 9) hx hb dX3_gate_4 (by decide) (fun c_1 => ?_) (fun c_1 => ?_)
  · skip
    have c_1 : ¬ (p_ng x) := b_i_0.mp c_1
    exact absurd hbad c_1
  · skip
    have c_1 : p_ng x := Classical.not_not.mp (fun h9 => c_1 (b_i_0.mpr h9))
    refine lv_iconst (pc := 7) (v := (-1)) hx hb dX3_gate_7 (by decide) ?_
    subst hQ
    exact b_retR hx hb hr hlocks (rfl) dX3_gate_8
set_option maxHeartbeats 4000000 in
set_option maxRecDepth 100000 in
theorem c_X3_gate_bw (l : Launch) (D : va_G) (cI cC cZ cG : ClassId) (ad : Nat → Nat) (f : Nat → Int32) (f2 : Nat → Int32) (tx : Nat → Int32) (n : Nat) (nx : Nat) (sn : Nat) (R : Nat → Nat → Int32) (SL : Nat → Nat → Int32) (sv : Nat → Int32) (g : Nat) (y : Int32) (hn60 : n ≤ 60) (hnx : nx < 6) (hsn : sn ≤ 6) (hg : g < 6) (hbad : y < 0 ∨ ¬ y < 13) : Met l yX3_gate wsX3_gate ({ frames := 1, cells := 0, slots := 0, locals := 20 } : Room) (b_R D (b_T cI cC cZ cG) [((ad 0), .inr (3, [.ref (ad 1), .ref (ad 3), .ref (ad 5), .ref (ad 7), .ref (ad 15), .ref (ad 18)])), ((ad 1), .inr (0, [.ref (ad 2)])), ((ad 2), .inl (cI, 86, .inl f)), ((ad 3), .inr (0, [.ref (ad 4)])), ((ad 4), .inl (cI, 86, .inl f2)), ((ad 5), .inr (2, [.ref (ad 6), .int (nI n)])), ((ad 6), .inl (cC, 60, .inl tx)), ((ad 7), .inr (1, [.ref (ad 8), .int (nI nx), .int (nI sn)])), ((ad 8), .inl (cG, 6, .inr (.inr (.inr (.inr (fun i => ([(ad 9), (ad 10), (ad 11), (ad 12), (ad 13), (ad 14)] : List Nat)[i]?)))))), ((ad 9), .inl (cI, 86, .inl (R 0))), ((ad 10), .inl (cI, 86, .inl (R 1))), ((ad 11), .inl (cI, 86, .inl (R 2))), ((ad 12), .inl (cI, 86, .inl (R 3))), ((ad 13), .inl (cI, 86, .inl (R 4))), ((ad 14), .inl (cI, 86, .inl (R 5))), ((ad 15), .inl (cG, 2, .inr (.inr (.inr (.inr (fun i => ([(ad 16), (ad 17)] : List Nat)[i]?)))))), ((ad 16), .inl (cI, 86, .inl (SL 0))), ((ad 17), .inl (cI, 86, .inl (SL 1))), ((ad 18), .inl (cZ, 2, .inl sv))] [.ref (ad 0), .int (nI g), .int y]) (vp_Si (fun r => r = -2)) 0 0 (fun _ => False) := by
  refine b_enterR (cc := cX3_gate) (maxL := 3) (ret := (some .int)) (by decide) rfl (Nat.le_of_ble_eq_true rfl) ?_
  intro p e s m below meth c ls hx hb hr hml hown hts hlocks hP hK hl Q hQ
  have hown : s.vm.findClass RX3 = some m.cls := hown
  have hl : lv_has ls 3 [(0, .ref (ad 0)), (1, .int (nI g)), (2, .int y)] := hl
  refine lv_iload_n (pc := 0) hx hb dX3_gate_0 rfl (lv_at hl 1 rfl) ?_
  refine b_cR (pc := 1) (va_runS (As := [.int (nI g)]) (rest := []) ⟨hx, hb, hml, hown, hts⟩ (c_X3_isNoGate l D cI cC cZ cG (nI g)) (va_cwS 1 hts gX3_gate_X3_isNoGate rfl rfl rfl hyS_X3_isNoGate ⟨Nat.le_of_ble_eq_true rfl, Nat.le_of_ble_eq_true rfl⟩) (b_pRS (wc := []) hK hP [] rfl) rfl rfl hl.1 rfl (lv_room (Nat.le_of_ble_eq_true rfl)) dX3_gate_1 ⟨Nat.zero_le _, Nat.zero_le _⟩) ?_
  refine lv_if_eq (pc := 4) (tgt := 9) hx hb dX3_gate_4 (by decide) (fun c_1 => ?_) (fun c_1 => ?_)
  · skip
    have c_1 : ¬ (p_ng (nI g)) := b_i_0.mp c_1
    refine lv_iload_n (pc := 9) hx hb dX3_gate_9 rfl (lv_at hl 2 rfl) ?_
    refine lv_if_lt (pc := 10) (tgt := 19) hx hb dX3_gate_10 (by decide) (fun c_2 => ?_) (fun c_2 => ?_)
    · skip
      have c_2 : y < 0 := c_2
      refine lv_bipush (pc := 19) (v := (-2)) hx hb dX3_gate_19 (by decide) ?_
      subst hQ
      exact b_retR hx hb hr hlocks (rfl) dX3_gate_21
    · skip
      have c_2 : ¬ (y < 0) := c_2
      refine lv_iload_n (pc := 13) hx hb dX3_gate_13 rfl (lv_at hl 2 rfl) ?_
      refine lv_bipush (pc := 14) (v := 13) hx hb dX3_gate_14 (by decide) ?_
      refine lv_icmp_lt (pc := 16) (tgt := 22) hx hb dX3_gate_16 (by decide) (fun c_3 => ?_) (fun c_3 => ?_)
      · skip
        have c_3 : y < 13 := c_3
        exact hbad.elim (fun q => absurd q c_2) (fun q => absurd c_3 q)
      · skip
        have c_3 : ¬ (y < 13) := c_3
        refine lv_bipush (pc := 19) (v := (-2)) hx hb dX3_gate_19 (by decide) ?_
        subst hQ
        exact b_retR hx hb hr hlocks (rfl) dX3_gate_21
  · skip
    have c_1 : p_ng (nI g) := Classical.not_not.mp (fun h9 => c_1 (b_i_0.mpr h9))
    exact absurd c_1 (p_ng_no hg)
theorem hw_X3_gate_ok_0 : (.fieldLink RX3 10 "BeamTurnstiles" "hall" "LBeamTurnstiles$Hall;" : Cond) ∈ wsX3_gate := by decide +kernel
theorem hi_X3_gate_ok_X3 : ∀ w ∈ wsX30, w ∈ wsX3_gate := by decide +kernel
set_option maxHeartbeats 4000000 in
set_option maxRecDepth 100000 in
theorem c_X3_gate_ok (l : Launch) (D : va_G) (cI cC cZ cG : ClassId) (ad : Nat → Nat) (f : Nat → Int32) (f2 : Nat → Int32) (tx : Nat → Int32) (n : Nat) (nx : Nat) (sn : Nat) (R : Nat → Nat → Int32) (SL : Nat → Nat → Int32) (sv : Nat → Int32) (g : Nat) (w1 : Nat) (hn60 : n ≤ 60) (hnx : nx < 6) (hsn : sn ≤ 6) (hg : g < 6) (hw : w1 < 13) : Met l yX3_gate wsX3_gate ({ frames := 4, cells := 0, slots := 0, locals := 84 } : Room) (b_R D (b_T cI cC cZ cG) [((ad 0), .inr (3, [.ref (ad 1), .ref (ad 3), .ref (ad 5), .ref (ad 7), .ref (ad 15), .ref (ad 18)])), ((ad 1), .inr (0, [.ref (ad 2)])), ((ad 2), .inl (cI, 86, .inl f)), ((ad 3), .inr (0, [.ref (ad 4)])), ((ad 4), .inl (cI, 86, .inl f2)), ((ad 5), .inr (2, [.ref (ad 6), .int (nI n)])), ((ad 6), .inl (cC, 60, .inl tx)), ((ad 7), .inr (1, [.ref (ad 8), .int (nI nx), .int (nI sn)])), ((ad 8), .inl (cG, 6, .inr (.inr (.inr (.inr (fun i => ([(ad 9), (ad 10), (ad 11), (ad 12), (ad 13), (ad 14)] : List Nat)[i]?)))))), ((ad 9), .inl (cI, 86, .inl (R 0))), ((ad 10), .inl (cI, 86, .inl (R 1))), ((ad 11), .inl (cI, 86, .inl (R 2))), ((ad 12), .inl (cI, 86, .inl (R 3))), ((ad 13), .inl (cI, 86, .inl (R 4))), ((ad 14), .inl (cI, 86, .inl (R 5))), ((ad 15), .inl (cG, 2, .inr (.inr (.inr (.inr (fun i => ([(ad 16), (ad 17)] : List Nat)[i]?)))))), ((ad 16), .inl (cI, 86, .inl (SL 0))), ((ad 17), .inl (cI, 86, .inl (SL 1))), ((ad 18), .inl (cZ, 2, .inl sv))] [.ref (ad 0), .int (nI g), .int (nI w1)]) (vp_Si (fun r => r = h_tell f g w1)) 0 0 (fun _ => False) := by
  refine b_enterR (cc := cX3_gate) (maxL := 3) (ret := (some .int)) (by decide) rfl (Nat.le_of_ble_eq_true rfl) ?_
  intro p e s m below meth c ls hx hb hr hml hown hts hlocks hP hK hl Q hQ
  have hown : s.vm.findClass RX3 = some m.cls := hown
  have hl : lv_has ls 3 [(0, .ref (ad 0)), (1, .int (nI g)), (2, .int (nI w1))] := hl
  refine lv_iload_n (pc := 0) hx hb dX3_gate_0 rfl (lv_at hl 1 rfl) ?_
  refine b_cR (pc := 1) (va_runS (As := [.int (nI g)]) (rest := []) ⟨hx, hb, hml, hown, hts⟩ (c_X3_isNoGate l D cI cC cZ cG (nI g)) (va_cwS 1 hts gX3_gate_X3_isNoGate rfl rfl rfl hyS_X3_isNoGate ⟨Nat.le_of_ble_eq_true rfl, Nat.le_of_ble_eq_true rfl⟩) (b_pRS (wc := []) hK hP [] rfl) rfl rfl hl.1 rfl (lv_room (Nat.le_of_ble_eq_true rfl)) dX3_gate_1 ⟨Nat.zero_le _, Nat.zero_le _⟩) ?_
  refine lv_if_eq (pc := 4) (tgt := 9) hx hb dX3_gate_4 (by decide) (fun c_1 => ?_) (fun c_1 => ?_)
  · skip
    have c_1 : ¬ (p_ng (nI g)) := b_i_0.mp c_1
    refine lv_iload_n (pc := 9) hx hb dX3_gate_9 rfl (lv_at hl 2 rfl) ?_
    refine lv_if_lt (pc := 10) (tgt := 19) hx hb dX3_gate_10 (by decide) (fun c_2 => ?_) (fun c_2 => ?_)
    · skip
      have c_2 : w1 < 0 := (nI_ltI (a := w1) (b := 0) (by omega) (by omega)).mp c_2
      exfalso; omega
    · skip
      have c_2 : ¬ (w1 < 0) := fun h9 => c_2 ((nI_ltI (a := w1) (b := 0) (by omega) (by omega)).mpr h9)
      refine lv_iload_n (pc := 13) hx hb dX3_gate_13 rfl (lv_at hl 2 rfl) ?_
      refine lv_bipush (pc := 14) (v := 13) hx hb dX3_gate_14 (by decide) ?_
      refine lv_icmp_lt (pc := 16) (tgt := 22) hx hb dX3_gate_16 (by decide) (fun c_3 => ?_) (fun c_3 => ?_)
      · skip
        have c_3 : w1 < 13 := (nI_ltI (a := w1) (b := 13) (by omega) (by omega)).mp c_3
        refine lv_aload_n (pc := 22) hx hb dX3_gate_22 rfl (lv_at hl 0 rfl) ?_
        refine va_get (pc := 23) (D := D) (ci := 3) (v := .ref (ad 1)) (C := RX3) (T := TX3) (N := 6) hx hb hts hi_X3_gate_ok_X3 hown hK hP 0 rfl rfl 0 (by decide) (hts _ hw_X3_gate_ok_0) (fun _ h9 => h9) rfl dX3_gate_23 ?_
        refine lv_iload_n (pc := 26) hx hb dX3_gate_26 rfl (lv_at hl 1 rfl) ?_
        refine lv_iload_n (pc := 27) hx hb dX3_gate_27 rfl (lv_at hl 2 rfl) ?_
        refine b_cR (pc := 28) (va_runV (As := [.int (nI g), .int (nI w1)]) (rest := []) ⟨hx, hb, hml, hown, hts⟩ (c_X0_tell l D cI cC cZ cG (ad 1) (ad 2) f g w1 (by omega) (by omega)) (cwV 2 hts gX3_gate_X0_tell rfl rfl rfl hy_X0_tell ⟨Nat.le_of_ble_eq_true rfl, Nat.le_of_ble_eq_true rfl⟩) (b_pRV (wc := [((ad 1), .inr (0, [.ref (ad 2)])), ((ad 2), .inl (cI, 86, .inl f))]) hK hP [1, 2] rfl (ci := 0) (q0 := 0) rfl rfl) rfl rfl hl.1 rfl (lv_room (Nat.le_of_ble_eq_true rfl)) dX3_gate_28 ⟨Nat.zero_le _, Nat.zero_le _⟩) ?_
        subst hQ
        exact b_retR hx hb hr hlocks (rfl) dX3_gate_31
      · skip
        have c_3 : ¬ (w1 < 13) := fun h9 => c_3 ((nI_ltI (a := w1) (b := 13) (by omega) (by omega)).mpr h9)
        exfalso; omega
  · skip
    have c_1 : p_ng (nI g) := Classical.not_not.mp (fun h9 => c_1 (b_i_0.mpr h9))
    exact absurd c_1 (p_ng_no hg)
set_option maxHeartbeats 4000000 in
set_option maxRecDepth 100000 in
theorem c_X3_count_bad (l : Launch) (D : va_G) (cI cC cZ cG : ClassId) (ad : Nat → Nat) (f : Nat → Int32) (f2 : Nat → Int32) (tx : Nat → Int32) (n : Nat) (nx : Nat) (sn : Nat) (R : Nat → Nat → Int32) (SL : Nat → Nat → Int32) (sv : Nat → Int32) (x : Int32) (hn60 : n ≤ 60) (hnx : nx < 6) (hsn : sn ≤ 6) (hbad : x < 0 ∨ ¬ x < 18) : Met l yX3_count wsX3_count ({ frames := 0, cells := 0, slots := 0, locals := 0 } : Room) (b_R D (b_T cI cC cZ cG) [((ad 0), .inr (3, [.ref (ad 1), .ref (ad 3), .ref (ad 5), .ref (ad 7), .ref (ad 15), .ref (ad 18)])), ((ad 1), .inr (0, [.ref (ad 2)])), ((ad 2), .inl (cI, 86, .inl f)), ((ad 3), .inr (0, [.ref (ad 4)])), ((ad 4), .inl (cI, 86, .inl f2)), ((ad 5), .inr (2, [.ref (ad 6), .int (nI n)])), ((ad 6), .inl (cC, 60, .inl tx)), ((ad 7), .inr (1, [.ref (ad 8), .int (nI nx), .int (nI sn)])), ((ad 8), .inl (cG, 6, .inr (.inr (.inr (.inr (fun i => ([(ad 9), (ad 10), (ad 11), (ad 12), (ad 13), (ad 14)] : List Nat)[i]?)))))), ((ad 9), .inl (cI, 86, .inl (R 0))), ((ad 10), .inl (cI, 86, .inl (R 1))), ((ad 11), .inl (cI, 86, .inl (R 2))), ((ad 12), .inl (cI, 86, .inl (R 3))), ((ad 13), .inl (cI, 86, .inl (R 4))), ((ad 14), .inl (cI, 86, .inl (R 5))), ((ad 15), .inl (cG, 2, .inr (.inr (.inr (.inr (fun i => ([(ad 16), (ad 17)] : List Nat)[i]?)))))), ((ad 16), .inl (cI, 86, .inl (SL 0))), ((ad 17), .inl (cI, 86, .inl (SL 1))), ((ad 18), .inl (cZ, 2, .inl sv))] [.ref (ad 0), .int x]) (vp_Si (fun r => r = -2)) 0 0 (fun _ => False) := by
  refine b_enterR (cc := cX3_count) (maxL := 2) (ret := (some .int)) (by decide) rfl (Nat.le_of_ble_eq_true rfl) ?_
  intro p e s m below meth c ls hx hb hr hml hown hts hlocks hP hK hl Q hQ
  have hown : s.vm.findClass RX3 = some m.cls := hown
  have hl : lv_has ls 2 [(0, .ref (ad 0)), (1, .int x)] := hl
  refine lv_iload_n (pc := 0) hx hb dX3_count_0 rfl (lv_at hl 1 rfl) ?_
  refine lv_if_lt (pc := 1) (tgt := 10) hx hb dX3_count_1 (by decide) (fun c_1 => ?_) (fun c_1 => ?_)
  · skip
    have c_1 : x < 0 := c_1
    refine lv_bipush (pc := 10) (v := (-2)) hx hb dX3_count_10 (by decide) ?_
    subst hQ
    exact b_retR hx hb hr hlocks (rfl) dX3_count_12
  · skip
    have c_1 : ¬ (x < 0) := c_1
    refine lv_iload_n (pc := 4) hx hb dX3_count_4 rfl (lv_at hl 1 rfl) ?_
    refine lv_bipush (pc := 5) (v := 18) hx hb dX3_count_5 (by decide) ?_
    refine lv_icmp_lt (pc := 7) (tgt := 13) hx hb dX3_count_7 (by decide) (fun c_2 => ?_) (fun c_2 => ?_)
    · skip
      have c_2 : x < 18 := c_2
      exact hbad.elim (fun q => absurd q c_1) (fun q => absurd c_2 q)
    · skip
      have c_2 : ¬ (x < 18) := c_2
      refine lv_bipush (pc := 10) (v := (-2)) hx hb dX3_count_10 (by decide) ?_
      subst hQ
      exact b_retR hx hb hr hlocks (rfl) dX3_count_12
theorem hw_X3_count_lo_0 : (.fieldLink RX3 10 "BeamTurnstiles" "hall" "LBeamTurnstiles$Hall;" : Cond) ∈ wsX3_count := by decide +kernel
theorem hi_X3_count_lo_X3 : ∀ w ∈ wsX30, w ∈ wsX3_count := by decide +kernel
theorem hw_X3_count_lo_2 : (.fieldLink RX3 49 "BeamTurnstiles$Hall" "row" "[I" : Cond) ∈ wsX3_count := by decide +kernel
theorem hi_X3_count_lo_X0 : ∀ w ∈ wsX00, w ∈ wsX3_count := by decide +kernel
set_option maxHeartbeats 4000000 in
set_option maxRecDepth 100000 in
theorem c_X3_count_lo (l : Launch) (D : va_G) (cI cC cZ cG : ClassId) (ad : Nat → Nat) (f : Nat → Int32) (f2 : Nat → Int32) (tx : Nat → Int32) (n : Nat) (nx : Nat) (sn : Nat) (R : Nat → Nat → Int32) (SL : Nat → Nat → Int32) (sv : Nat → Int32) (w1 : Nat) (hn60 : n ≤ 60) (hnx : nx < 6) (hsn : sn ≤ 6) (hw : w1 < 8) : Met l yX3_count wsX3_count ({ frames := 0, cells := 0, slots := 0, locals := 0 } : Room) (b_R D (b_T cI cC cZ cG) [((ad 0), .inr (3, [.ref (ad 1), .ref (ad 3), .ref (ad 5), .ref (ad 7), .ref (ad 15), .ref (ad 18)])), ((ad 1), .inr (0, [.ref (ad 2)])), ((ad 2), .inl (cI, 86, .inl f)), ((ad 3), .inr (0, [.ref (ad 4)])), ((ad 4), .inl (cI, 86, .inl f2)), ((ad 5), .inr (2, [.ref (ad 6), .int (nI n)])), ((ad 6), .inl (cC, 60, .inl tx)), ((ad 7), .inr (1, [.ref (ad 8), .int (nI nx), .int (nI sn)])), ((ad 8), .inl (cG, 6, .inr (.inr (.inr (.inr (fun i => ([(ad 9), (ad 10), (ad 11), (ad 12), (ad 13), (ad 14)] : List Nat)[i]?)))))), ((ad 9), .inl (cI, 86, .inl (R 0))), ((ad 10), .inl (cI, 86, .inl (R 1))), ((ad 11), .inl (cI, 86, .inl (R 2))), ((ad 12), .inl (cI, 86, .inl (R 3))), ((ad 13), .inl (cI, 86, .inl (R 4))), ((ad 14), .inl (cI, 86, .inl (R 5))), ((ad 15), .inl (cG, 2, .inr (.inr (.inr (.inr (fun i => ([(ad 16), (ad 17)] : List Nat)[i]?)))))), ((ad 16), .inl (cI, 86, .inl (SL 0))), ((ad 17), .inl (cI, 86, .inl (SL 1))), ((ad 18), .inl (cZ, 2, .inl sv))] [.ref (ad 0), .int (nI w1)]) (vp_Si (fun r => r = f w1)) 0 0 (fun _ => False) := by
  refine b_enterR (cc := cX3_count) (maxL := 2) (ret := (some .int)) (by decide) rfl (Nat.le_of_ble_eq_true rfl) ?_
  intro p e s m below meth c ls hx hb hr hml hown hts hlocks hP hK hl Q hQ
  have hown : s.vm.findClass RX3 = some m.cls := hown
  have hl : lv_has ls 2 [(0, .ref (ad 0)), (1, .int (nI w1))] := hl
  refine lv_iload_n (pc := 0) hx hb dX3_count_0 rfl (lv_at hl 1 rfl) ?_
  refine lv_if_lt (pc := 1) (tgt := 10) hx hb dX3_count_1 (by decide) (fun c_1 => ?_) (fun c_1 => ?_)
  · skip
    have c_1 : w1 < 0 := (nI_ltI (a := w1) (b := 0) (by omega) (by omega)).mp c_1
    exfalso; omega
  · skip
    have c_1 : ¬ (w1 < 0) := fun h9 => c_1 ((nI_ltI (a := w1) (b := 0) (by omega) (by omega)).mpr h9)
    refine lv_iload_n (pc := 4) hx hb dX3_count_4 rfl (lv_at hl 1 rfl) ?_
    refine lv_bipush (pc := 5) (v := 18) hx hb dX3_count_5 (by decide) ?_
    refine lv_icmp_lt (pc := 7) (tgt := 13) hx hb dX3_count_7 (by decide) (fun c_2 => ?_) (fun c_2 => ?_)
    · skip
      have c_2 : w1 < 18 := (nI_ltI (a := w1) (b := 18) (by omega) (by omega)).mp c_2
      refine lv_iload_n (pc := 13) hx hb dX3_count_13 rfl (lv_at hl 1 rfl) ?_
      refine lv_bipush (pc := 14) (v := 8) hx hb dX3_count_14 (by decide) ?_
      refine lv_icmp_ge (pc := 16) (tgt := 29) hx hb dX3_count_16 (by decide) (fun c_3 => ?_) (fun c_3 => ?_)
      · skip
        have c_3 : 8 ≤ w1 := (nI_leI (a := 8) (b := w1) (by omega) (by omega)).mp c_3
        exfalso; omega
      · skip
        have c_3 : ¬ (8 ≤ w1) := fun h9 => c_3 ((nI_leI (a := 8) (b := w1) (by omega) (by omega)).mpr h9)
        refine lv_aload_n (pc := 19) hx hb dX3_count_19 rfl (lv_at hl 0 rfl) ?_
        refine va_get (pc := 20) (D := D) (ci := 3) (v := .ref (ad 1)) (C := RX3) (T := TX3) (N := 6) hx hb hts hi_X3_count_lo_X3 hown hK hP 0 rfl rfl 0 (by decide) (hts _ hw_X3_count_lo_0) (fun _ h9 => h9) rfl dX3_count_20 ?_
        refine va_get (pc := 23) (D := D) (ci := 0) (v := .ref (ad 2)) (C := RX0) (T := TX0) (N := 1) hx hb hts hi_X3_count_lo_X0 hown hK hP 1 rfl rfl 0 (by decide) (hts _ hw_X3_count_lo_2) (fun _ h9 => h9) rfl dX3_count_23 ?_
        refine lv_iload_n (pc := 26) hx hb dX3_count_26 rfl (lv_at hl 1 rfl) ?_
        refine b_iald (pc := 27) hx hb hK hP 2 0 rfl rfl w1 rfl (by omega) (by decide) dX3_count_27 ?_
        subst hQ
        exact b_retR hx hb hr hlocks (rfl) dX3_count_28
    · skip
      have c_2 : ¬ (w1 < 18) := fun h9 => c_2 ((nI_ltI (a := w1) (b := 18) (by omega) (by omega)).mpr h9)
      exfalso; omega
theorem hw_X3_count_mid_0 : (.fieldLink RX3 10 "BeamTurnstiles" "hall" "LBeamTurnstiles$Hall;" : Cond) ∈ wsX3_count := by decide +kernel
theorem hi_X3_count_mid_X3 : ∀ w ∈ wsX30, w ∈ wsX3_count := by decide +kernel
set_option maxHeartbeats 4000000 in
set_option maxRecDepth 100000 in
theorem c_X3_count_mid (l : Launch) (D : va_G) (cI cC cZ cG : ClassId) (ad : Nat → Nat) (f : Nat → Int32) (f2 : Nat → Int32) (tx : Nat → Int32) (n : Nat) (nx : Nat) (sn : Nat) (R : Nat → Nat → Int32) (SL : Nat → Nat → Int32) (sv : Nat → Int32) (w1 : Nat) (hn60 : n ≤ 60) (hnx : nx < 6) (hsn : sn ≤ 6) (hw : 8 ≤ w1 ∧ w1 < 14) : Met l yX3_count wsX3_count ({ frames := 2, cells := 0, slots := 0, locals := 43 } : Room) (b_R D (b_T cI cC cZ cG) [((ad 0), .inr (3, [.ref (ad 1), .ref (ad 3), .ref (ad 5), .ref (ad 7), .ref (ad 15), .ref (ad 18)])), ((ad 1), .inr (0, [.ref (ad 2)])), ((ad 2), .inl (cI, 86, .inl f)), ((ad 3), .inr (0, [.ref (ad 4)])), ((ad 4), .inl (cI, 86, .inl f2)), ((ad 5), .inr (2, [.ref (ad 6), .int (nI n)])), ((ad 6), .inl (cC, 60, .inl tx)), ((ad 7), .inr (1, [.ref (ad 8), .int (nI nx), .int (nI sn)])), ((ad 8), .inl (cG, 6, .inr (.inr (.inr (.inr (fun i => ([(ad 9), (ad 10), (ad 11), (ad 12), (ad 13), (ad 14)] : List Nat)[i]?)))))), ((ad 9), .inl (cI, 86, .inl (R 0))), ((ad 10), .inl (cI, 86, .inl (R 1))), ((ad 11), .inl (cI, 86, .inl (R 2))), ((ad 12), .inl (cI, 86, .inl (R 3))), ((ad 13), .inl (cI, 86, .inl (R 4))), ((ad 14), .inl (cI, 86, .inl (R 5))), ((ad 15), .inl (cG, 2, .inr (.inr (.inr (.inr (fun i => ([(ad 16), (ad 17)] : List Nat)[i]?)))))), ((ad 16), .inl (cI, 86, .inl (SL 0))), ((ad 17), .inl (cI, 86, .inl (SL 1))), ((ad 18), .inl (cZ, 2, .inl sv))] [.ref (ad 0), .int (nI w1)]) (vp_Si (fun r => r = h_sum f (w1 - 8 + 5) 6)) 0 0 (fun _ => False) := by
  refine b_enterR (cc := cX3_count) (maxL := 2) (ret := (some .int)) (by decide) rfl (Nat.le_of_ble_eq_true rfl) ?_
  intro p e s m below meth c ls hx hb hr hml hown hts hlocks hP hK hl Q hQ
  have hown : s.vm.findClass RX3 = some m.cls := hown
  have hl : lv_has ls 2 [(0, .ref (ad 0)), (1, .int (nI w1))] := hl
  refine lv_iload_n (pc := 0) hx hb dX3_count_0 rfl (lv_at hl 1 rfl) ?_
  refine lv_if_lt (pc := 1) (tgt := 10) hx hb dX3_count_1 (by decide) (fun c_1 => ?_) (fun c_1 => ?_)
  · skip
    have c_1 : w1 < 0 := (nI_ltI (a := w1) (b := 0) (by omega) (by omega)).mp c_1
    exfalso; omega
  · skip
    have c_1 : ¬ (w1 < 0) := fun h9 => c_1 ((nI_ltI (a := w1) (b := 0) (by omega) (by omega)).mpr h9)
    refine lv_iload_n (pc := 4) hx hb dX3_count_4 rfl (lv_at hl 1 rfl) ?_
    refine lv_bipush (pc := 5) (v := 18) hx hb dX3_count_5 (by decide) ?_
    refine lv_icmp_lt (pc := 7) (tgt := 13) hx hb dX3_count_7 (by decide) (fun c_2 => ?_) (fun c_2 => ?_)
    · skip
      have c_2 : w1 < 18 := (nI_ltI (a := w1) (b := 18) (by omega) (by omega)).mp c_2
      refine lv_iload_n (pc := 13) hx hb dX3_count_13 rfl (lv_at hl 1 rfl) ?_
      refine lv_bipush (pc := 14) (v := 8) hx hb dX3_count_14 (by decide) ?_
      refine lv_icmp_ge (pc := 16) (tgt := 29) hx hb dX3_count_16 (by decide) (fun c_3 => ?_) (fun c_3 => ?_)
      · skip
        have c_3 : 8 ≤ w1 := (nI_leI (a := 8) (b := w1) (by omega) (by omega)).mp c_3
        refine lv_iload_n (pc := 29) hx hb dX3_count_29 rfl (lv_at hl 1 rfl) ?_
        refine lv_tableOut (pc := 30) (tgt := 92) hx hb dX3_count_30 (Or.inl (by rw [nI_toInt (by omega)]; omega)) (by decide) ?_
        refine lv_aload_n (pc := 92) hx hb dX3_count_92 rfl (lv_at hl 0 rfl) ?_
        refine va_get (pc := 93) (D := D) (ci := 3) (v := .ref (ad 1)) (C := RX3) (T := TX3) (N := 6) hx hb hts hi_X3_count_mid_X3 hown hK hP 0 rfl rfl 0 (by decide) (hts _ hw_X3_count_mid_0) (fun _ h9 => h9) rfl dX3_count_93 ?_
        refine lv_iload_n (pc := 96) hx hb dX3_count_96 rfl (lv_at hl 1 rfl) ?_
        refine lv_bipush (pc := 97) (v := 8) hx hb dX3_count_97 (by decide) ?_
        refine lv_isub (pc := 99) hx hb dX3_count_99 ?_
        refine b_re (pk_sub (a := w1) (b := 8) (by omega)) ?_
        refine lv_iconst (pc := 100) (v := 5) hx hb dX3_count_100 (by decide) ?_
        refine lv_iadd (pc := 101) hx hb dX3_count_101 ?_
        refine b_re (nI_add (w1 - 8) 5) ?_
        refine b_cR (pc := 102) (va_runV (As := [.int (nI (w1 - 8 + 5))]) (rest := []) ⟨hx, hb, hml, hown, hts⟩ (c_X0_sumOfGates l D cI cC cZ cG (ad 1) (ad 2) f (w1 - 8 + 5) (by omega)) (cwV 1 hts gX3_count_X0_sumOfGates rfl rfl rfl hy_X0_sumOfGates ⟨Nat.le_of_ble_eq_true rfl, Nat.le_of_ble_eq_true rfl⟩) (b_pRV (wc := [((ad 1), .inr (0, [.ref (ad 2)])), ((ad 2), .inl (cI, 86, .inl f))]) hK hP [1, 2] rfl (ci := 0) (q0 := 0) rfl rfl) rfl rfl hl.1 rfl (lv_room (Nat.le_of_ble_eq_true rfl)) dX3_count_102 ⟨Nat.zero_le _, Nat.zero_le _⟩) ?_
        subst hQ
        exact b_retR hx hb hr hlocks (rfl) dX3_count_105
      · skip
        have c_3 : ¬ (8 ≤ w1) := fun h9 => c_3 ((nI_leI (a := 8) (b := w1) (by omega) (by omega)).mpr h9)
        exfalso; omega
    · skip
      have c_2 : ¬ (w1 < 18) := fun h9 => c_2 ((nI_ltI (a := w1) (b := 18) (by omega) (by omega)).mpr h9)
      exfalso; omega
theorem hw_X3_count_14_0 : (.fieldLink RX3 10 "BeamTurnstiles" "hall" "LBeamTurnstiles$Hall;" : Cond) ∈ wsX3_count := by decide +kernel
theorem hi_X3_count_14_X3 : ∀ w ∈ wsX30, w ∈ wsX3_count := by decide +kernel
set_option maxHeartbeats 4000000 in
set_option maxRecDepth 100000 in
theorem c_X3_count_14 (l : Launch) (D : va_G) (cI cC cZ cG : ClassId) (ad : Nat → Nat) (f : Nat → Int32) (f2 : Nat → Int32) (tx : Nat → Int32) (n : Nat) (nx : Nat) (sn : Nat) (R : Nat → Nat → Int32) (SL : Nat → Nat → Int32) (sv : Nat → Int32) (hn60 : n ≤ 60) (hnx : nx < 6) (hsn : sn ≤ 6) : Met l yX3_count wsX3_count ({ frames := 4, cells := 0, slots := 0, locals := 84 } : Room) (b_R D (b_T cI cC cZ cG) [((ad 0), .inr (3, [.ref (ad 1), .ref (ad 3), .ref (ad 5), .ref (ad 7), .ref (ad 15), .ref (ad 18)])), ((ad 1), .inr (0, [.ref (ad 2)])), ((ad 2), .inl (cI, 86, .inl f)), ((ad 3), .inr (0, [.ref (ad 4)])), ((ad 4), .inl (cI, 86, .inl f2)), ((ad 5), .inr (2, [.ref (ad 6), .int (nI n)])), ((ad 6), .inl (cC, 60, .inl tx)), ((ad 7), .inr (1, [.ref (ad 8), .int (nI nx), .int (nI sn)])), ((ad 8), .inl (cG, 6, .inr (.inr (.inr (.inr (fun i => ([(ad 9), (ad 10), (ad 11), (ad 12), (ad 13), (ad 14)] : List Nat)[i]?)))))), ((ad 9), .inl (cI, 86, .inl (R 0))), ((ad 10), .inl (cI, 86, .inl (R 1))), ((ad 11), .inl (cI, 86, .inl (R 2))), ((ad 12), .inl (cI, 86, .inl (R 3))), ((ad 13), .inl (cI, 86, .inl (R 4))), ((ad 14), .inl (cI, 86, .inl (R 5))), ((ad 15), .inl (cG, 2, .inr (.inr (.inr (.inr (fun i => ([(ad 16), (ad 17)] : List Nat)[i]?)))))), ((ad 16), .inl (cI, 86, .inl (SL 0))), ((ad 17), .inl (cI, 86, .inl (SL 1))), ((ad 18), .inl (cZ, 2, .inl sv))] [.ref (ad 0), .int (nI 14)]) (vp_Si (fun r => r = h_bm f 6)) 0 0 (fun _ => False) := by
  refine b_enterR (cc := cX3_count) (maxL := 2) (ret := (some .int)) (by decide) rfl (Nat.le_of_ble_eq_true rfl) ?_
  intro p e s m below meth c ls hx hb hr hml hown hts hlocks hP hK hl Q hQ
  have hown : s.vm.findClass RX3 = some m.cls := hown
  have hl : lv_has ls 2 [(0, .ref (ad 0)), (1, .int (nI 14))] := hl
  refine lv_iload_n (pc := 0) hx hb dX3_count_0 rfl (lv_at hl 1 rfl) ?_
  refine lv_if_lt (pc := 1) (tgt := 10) hx hb dX3_count_1 (by decide) (fun c_1 => ?_) (fun c_1 => ?_)
  · skip
    have c_1 : 14 < 0 := (nI_ltI (a := 14) (b := 0) (by omega) (by omega)).mp c_1
    exact absurd c_1 (by decide)
  · skip
    have c_1 : ¬ (14 < 0) := fun h9 => c_1 ((nI_ltI (a := 14) (b := 0) (by omega) (by omega)).mpr h9)
    refine lv_iload_n (pc := 4) hx hb dX3_count_4 rfl (lv_at hl 1 rfl) ?_
    refine lv_bipush (pc := 5) (v := 18) hx hb dX3_count_5 (by decide) ?_
    refine lv_icmp_lt (pc := 7) (tgt := 13) hx hb dX3_count_7 (by decide) (fun c_2 => ?_) (fun c_2 => ?_)
    · skip
      have c_2 : 14 < 18 := (nI_ltI (a := 14) (b := 18) (by omega) (by omega)).mp c_2
      refine lv_iload_n (pc := 13) hx hb dX3_count_13 rfl (lv_at hl 1 rfl) ?_
      refine lv_bipush (pc := 14) (v := 8) hx hb dX3_count_14 (by decide) ?_
      refine lv_icmp_ge (pc := 16) (tgt := 29) hx hb dX3_count_16 (by decide) (fun c_3 => ?_) (fun c_3 => ?_)
      · skip
        have c_3 : 8 ≤ 14 := (nI_leI (a := 8) (b := 14) (by omega) (by omega)).mp c_3
        refine lv_iload_n (pc := 29) hx hb dX3_count_29 rfl (lv_at hl 1 rfl) ?_
        refine lv_tableIn (pc := 30) (tgt := 60) (off := 30) hx hb dX3_count_30 (by decide) (by decide) (by decide) (by decide) ?_
        refine lv_aload_n (pc := 60) hx hb dX3_count_60 rfl (lv_at hl 0 rfl) ?_
        refine va_get (pc := 61) (D := D) (ci := 3) (v := .ref (ad 1)) (C := RX3) (T := TX3) (N := 6) hx hb hts hi_X3_count_14_X3 hown hK hP 0 rfl rfl 0 (by decide) (hts _ hw_X3_count_14_0) (fun _ h9 => h9) rfl dX3_count_61 ?_
        refine b_cR (pc := 64) (va_runV (As := []) (rest := []) ⟨hx, hb, hml, hown, hts⟩ (c_X0_blockedMask l D cI cC cZ cG (ad 1) (ad 2) f) (cwV 0 hts gX3_count_X0_blockedMask rfl rfl rfl hy_X0_blockedMask ⟨Nat.le_of_ble_eq_true rfl, Nat.le_of_ble_eq_true rfl⟩) (b_pRV (wc := [((ad 1), .inr (0, [.ref (ad 2)])), ((ad 2), .inl (cI, 86, .inl f))]) hK hP [1, 2] rfl (ci := 0) (q0 := 0) rfl rfl) rfl rfl hl.1 rfl (lv_room (Nat.le_of_ble_eq_true rfl)) dX3_count_64 ⟨Nat.zero_le _, Nat.zero_le _⟩) ?_
        subst hQ
        exact b_retR hx hb hr hlocks (rfl) dX3_count_67
      · skip
        have c_3 : ¬ (8 ≤ 14) := fun h9 => c_3 ((nI_leI (a := 8) (b := 14) (by omega) (by omega)).mpr h9)
        exact absurd c_3 (by decide)
    · skip
      have c_2 : ¬ (14 < 18) := fun h9 => c_2 ((nI_ltI (a := 14) (b := 18) (by omega) (by omega)).mpr h9)
      exact absurd c_2 (by decide)
theorem hw_X3_count_15_0 : (.fieldLink RX3 10 "BeamTurnstiles" "hall" "LBeamTurnstiles$Hall;" : Cond) ∈ wsX3_count := by decide +kernel
theorem hi_X3_count_15_X3 : ∀ w ∈ wsX30, w ∈ wsX3_count := by decide +kernel
set_option maxHeartbeats 4000000 in
set_option maxRecDepth 100000 in
theorem c_X3_count_15 (l : Launch) (D : va_G) (cI cC cZ cG : ClassId) (ad : Nat → Nat) (f : Nat → Int32) (f2 : Nat → Int32) (tx : Nat → Int32) (n : Nat) (nx : Nat) (sn : Nat) (R : Nat → Nat → Int32) (SL : Nat → Nat → Int32) (sv : Nat → Int32) (hn60 : n ≤ 60) (hnx : nx < 6) (hsn : sn ≤ 6) : Met l yX3_count wsX3_count ({ frames := 3, cells := 0, slots := 0, locals := 63 } : Room) (b_R D (b_T cI cC cZ cG) [((ad 0), .inr (3, [.ref (ad 1), .ref (ad 3), .ref (ad 5), .ref (ad 7), .ref (ad 15), .ref (ad 18)])), ((ad 1), .inr (0, [.ref (ad 2)])), ((ad 2), .inl (cI, 86, .inl f)), ((ad 3), .inr (0, [.ref (ad 4)])), ((ad 4), .inl (cI, 86, .inl f2)), ((ad 5), .inr (2, [.ref (ad 6), .int (nI n)])), ((ad 6), .inl (cC, 60, .inl tx)), ((ad 7), .inr (1, [.ref (ad 8), .int (nI nx), .int (nI sn)])), ((ad 8), .inl (cG, 6, .inr (.inr (.inr (.inr (fun i => ([(ad 9), (ad 10), (ad 11), (ad 12), (ad 13), (ad 14)] : List Nat)[i]?)))))), ((ad 9), .inl (cI, 86, .inl (R 0))), ((ad 10), .inl (cI, 86, .inl (R 1))), ((ad 11), .inl (cI, 86, .inl (R 2))), ((ad 12), .inl (cI, 86, .inl (R 3))), ((ad 13), .inl (cI, 86, .inl (R 4))), ((ad 14), .inl (cI, 86, .inl (R 5))), ((ad 15), .inl (cG, 2, .inr (.inr (.inr (.inr (fun i => ([(ad 16), (ad 17)] : List Nat)[i]?)))))), ((ad 16), .inl (cI, 86, .inl (SL 0))), ((ad 17), .inl (cI, 86, .inl (SL 1))), ((ad 18), .inl (cZ, 2, .inl sv))] [.ref (ad 0), .int (nI 15)]) (vp_Si (fun r => r = h_um f 6)) 0 0 (fun _ => False) := by
  refine b_enterR (cc := cX3_count) (maxL := 2) (ret := (some .int)) (by decide) rfl (Nat.le_of_ble_eq_true rfl) ?_
  intro p e s m below meth c ls hx hb hr hml hown hts hlocks hP hK hl Q hQ
  have hown : s.vm.findClass RX3 = some m.cls := hown
  have hl : lv_has ls 2 [(0, .ref (ad 0)), (1, .int (nI 15))] := hl
  refine lv_iload_n (pc := 0) hx hb dX3_count_0 rfl (lv_at hl 1 rfl) ?_
  refine lv_if_lt (pc := 1) (tgt := 10) hx hb dX3_count_1 (by decide) (fun c_1 => ?_) (fun c_1 => ?_)
  · skip
    have c_1 : 15 < 0 := (nI_ltI (a := 15) (b := 0) (by omega) (by omega)).mp c_1
    exact absurd c_1 (by decide)
  · skip
    have c_1 : ¬ (15 < 0) := fun h9 => c_1 ((nI_ltI (a := 15) (b := 0) (by omega) (by omega)).mpr h9)
    refine lv_iload_n (pc := 4) hx hb dX3_count_4 rfl (lv_at hl 1 rfl) ?_
    refine lv_bipush (pc := 5) (v := 18) hx hb dX3_count_5 (by decide) ?_
    refine lv_icmp_lt (pc := 7) (tgt := 13) hx hb dX3_count_7 (by decide) (fun c_2 => ?_) (fun c_2 => ?_)
    · skip
      have c_2 : 15 < 18 := (nI_ltI (a := 15) (b := 18) (by omega) (by omega)).mp c_2
      refine lv_iload_n (pc := 13) hx hb dX3_count_13 rfl (lv_at hl 1 rfl) ?_
      refine lv_bipush (pc := 14) (v := 8) hx hb dX3_count_14 (by decide) ?_
      refine lv_icmp_ge (pc := 16) (tgt := 29) hx hb dX3_count_16 (by decide) (fun c_3 => ?_) (fun c_3 => ?_)
      · skip
        have c_3 : 8 ≤ 15 := (nI_leI (a := 8) (b := 15) (by omega) (by omega)).mp c_3
        refine lv_iload_n (pc := 29) hx hb dX3_count_29 rfl (lv_at hl 1 rfl) ?_
        refine lv_tableIn (pc := 30) (tgt := 68) (off := 38) hx hb dX3_count_30 (by decide) (by decide) (by decide) (by decide) ?_
        refine lv_aload_n (pc := 68) hx hb dX3_count_68 rfl (lv_at hl 0 rfl) ?_
        refine va_get (pc := 69) (D := D) (ci := 3) (v := .ref (ad 1)) (C := RX3) (T := TX3) (N := 6) hx hb hts hi_X3_count_15_X3 hown hK hP 0 rfl rfl 0 (by decide) (hts _ hw_X3_count_15_0) (fun _ h9 => h9) rfl dX3_count_69 ?_
        refine b_cR (pc := 72) (va_runV (As := []) (rest := []) ⟨hx, hb, hml, hown, hts⟩ (c_X0_underWayMask l D cI cC cZ cG (ad 1) (ad 2) f) (cwV 0 hts gX3_count_X0_underWayMask rfl rfl rfl hy_X0_underWayMask ⟨Nat.le_of_ble_eq_true rfl, Nat.le_of_ble_eq_true rfl⟩) (b_pRV (wc := [((ad 1), .inr (0, [.ref (ad 2)])), ((ad 2), .inl (cI, 86, .inl f))]) hK hP [1, 2] rfl (ci := 0) (q0 := 0) rfl rfl) rfl rfl hl.1 rfl (lv_room (Nat.le_of_ble_eq_true rfl)) dX3_count_72 ⟨Nat.zero_le _, Nat.zero_le _⟩) ?_
        subst hQ
        exact b_retR hx hb hr hlocks (rfl) dX3_count_75
      · skip
        have c_3 : ¬ (8 ≤ 15) := fun h9 => c_3 ((nI_leI (a := 8) (b := 15) (by omega) (by omega)).mpr h9)
        exact absurd c_3 (by decide)
    · skip
      have c_2 : ¬ (15 < 18) := fun h9 => c_2 ((nI_ltI (a := 15) (b := 18) (by omega) (by omega)).mpr h9)
      exact absurd c_2 (by decide)
theorem hw_X3_count_16_0 : (.fieldLink RX3 22 "BeamTurnstiles" "pad" "LBeamTurnstiles$Pad;" : Cond) ∈ wsX3_count := by decide +kernel
theorem hi_X3_count_16_X3 : ∀ w ∈ wsX30, w ∈ wsX3_count := by decide +kernel
theorem hw_X3_count_16_2 : (.fieldLink RX3 106 "BeamTurnstiles$Pad" "length" "I" : Cond) ∈ wsX3_count := by decide +kernel
theorem hi_X3_count_16_X2 : ∀ w ∈ wsX20, w ∈ wsX3_count := by decide +kernel
set_option maxHeartbeats 4000000 in
set_option maxRecDepth 100000 in
theorem c_X3_count_16 (l : Launch) (D : va_G) (cI cC cZ cG : ClassId) (ad : Nat → Nat) (f : Nat → Int32) (f2 : Nat → Int32) (tx : Nat → Int32) (n : Nat) (nx : Nat) (sn : Nat) (R : Nat → Nat → Int32) (SL : Nat → Nat → Int32) (sv : Nat → Int32) (hn60 : n ≤ 60) (hnx : nx < 6) (hsn : sn ≤ 6) : Met l yX3_count wsX3_count ({ frames := 0, cells := 0, slots := 0, locals := 0 } : Room) (b_R D (b_T cI cC cZ cG) [((ad 0), .inr (3, [.ref (ad 1), .ref (ad 3), .ref (ad 5), .ref (ad 7), .ref (ad 15), .ref (ad 18)])), ((ad 1), .inr (0, [.ref (ad 2)])), ((ad 2), .inl (cI, 86, .inl f)), ((ad 3), .inr (0, [.ref (ad 4)])), ((ad 4), .inl (cI, 86, .inl f2)), ((ad 5), .inr (2, [.ref (ad 6), .int (nI n)])), ((ad 6), .inl (cC, 60, .inl tx)), ((ad 7), .inr (1, [.ref (ad 8), .int (nI nx), .int (nI sn)])), ((ad 8), .inl (cG, 6, .inr (.inr (.inr (.inr (fun i => ([(ad 9), (ad 10), (ad 11), (ad 12), (ad 13), (ad 14)] : List Nat)[i]?)))))), ((ad 9), .inl (cI, 86, .inl (R 0))), ((ad 10), .inl (cI, 86, .inl (R 1))), ((ad 11), .inl (cI, 86, .inl (R 2))), ((ad 12), .inl (cI, 86, .inl (R 3))), ((ad 13), .inl (cI, 86, .inl (R 4))), ((ad 14), .inl (cI, 86, .inl (R 5))), ((ad 15), .inl (cG, 2, .inr (.inr (.inr (.inr (fun i => ([(ad 16), (ad 17)] : List Nat)[i]?)))))), ((ad 16), .inl (cI, 86, .inl (SL 0))), ((ad 17), .inl (cI, 86, .inl (SL 1))), ((ad 18), .inl (cZ, 2, .inl sv))] [.ref (ad 0), .int (nI 16)]) (vp_Si (fun r => r = nI n)) 0 0 (fun _ => False) := by
  refine b_enterR (cc := cX3_count) (maxL := 2) (ret := (some .int)) (by decide) rfl (Nat.le_of_ble_eq_true rfl) ?_
  intro p e s m below meth c ls hx hb hr hml hown hts hlocks hP hK hl Q hQ
  have hown : s.vm.findClass RX3 = some m.cls := hown
  have hl : lv_has ls 2 [(0, .ref (ad 0)), (1, .int (nI 16))] := hl
  refine lv_iload_n (pc := 0) hx hb dX3_count_0 rfl (lv_at hl 1 rfl) ?_
  refine lv_if_lt (pc := 1) (tgt := 10) hx hb dX3_count_1 (by decide) (fun c_1 => ?_) (fun c_1 => ?_)
  · skip
    have c_1 : 16 < 0 := (nI_ltI (a := 16) (b := 0) (by omega) (by omega)).mp c_1
    exact absurd c_1 (by decide)
  · skip
    have c_1 : ¬ (16 < 0) := fun h9 => c_1 ((nI_ltI (a := 16) (b := 0) (by omega) (by omega)).mpr h9)
    refine lv_iload_n (pc := 4) hx hb dX3_count_4 rfl (lv_at hl 1 rfl) ?_
    refine lv_bipush (pc := 5) (v := 18) hx hb dX3_count_5 (by decide) ?_
    refine lv_icmp_lt (pc := 7) (tgt := 13) hx hb dX3_count_7 (by decide) (fun c_2 => ?_) (fun c_2 => ?_)
    · skip
      have c_2 : 16 < 18 := (nI_ltI (a := 16) (b := 18) (by omega) (by omega)).mp c_2
      refine lv_iload_n (pc := 13) hx hb dX3_count_13 rfl (lv_at hl 1 rfl) ?_
      refine lv_bipush (pc := 14) (v := 8) hx hb dX3_count_14 (by decide) ?_
      refine lv_icmp_ge (pc := 16) (tgt := 29) hx hb dX3_count_16 (by decide) (fun c_3 => ?_) (fun c_3 => ?_)
      · skip
        have c_3 : 8 ≤ 16 := (nI_leI (a := 8) (b := 16) (by omega) (by omega)).mp c_3
        refine lv_iload_n (pc := 29) hx hb dX3_count_29 rfl (lv_at hl 1 rfl) ?_
        refine lv_tableIn (pc := 30) (tgt := 76) (off := 46) hx hb dX3_count_30 (by decide) (by decide) (by decide) (by decide) ?_
        refine lv_aload_n (pc := 76) hx hb dX3_count_76 rfl (lv_at hl 0 rfl) ?_
        refine va_get (pc := 77) (D := D) (ci := 3) (v := .ref (ad 5)) (C := RX3) (T := TX3) (N := 6) hx hb hts hi_X3_count_16_X3 hown hK hP 0 rfl rfl 2 (by decide) (hts _ hw_X3_count_16_0) (fun _ h9 => h9) rfl dX3_count_77 ?_
        refine va_get (pc := 80) (D := D) (ci := 2) (v := .int (nI n)) (C := RX2) (T := TX2) (N := 2) hx hb hts hi_X3_count_16_X2 hown hK hP 5 rfl rfl 1 (by decide) (hts _ hw_X3_count_16_2) (fun _ h9 => h9) rfl dX3_count_80 ?_
        subst hQ
        exact b_retR hx hb hr hlocks (rfl) dX3_count_83
      · skip
        have c_3 : ¬ (8 ≤ 16) := fun h9 => c_3 ((nI_leI (a := 8) (b := 16) (by omega) (by omega)).mpr h9)
        exact absurd c_3 (by decide)
    · skip
      have c_2 : ¬ (16 < 18) := fun h9 => c_2 ((nI_ltI (a := 16) (b := 18) (by omega) (by omega)).mpr h9)
      exact absurd c_2 (by decide)
theorem hw_X3_count_17_0 : (.fieldLink RX3 29 "BeamTurnstiles" "history" "LBeamTurnstiles$History;" : Cond) ∈ wsX3_count := by decide +kernel
theorem hi_X3_count_17_X3 : ∀ w ∈ wsX30, w ∈ wsX3_count := by decide +kernel
theorem hw_X3_count_17_2 : (.fieldLink RX3 110 "BeamTurnstiles$History" "size" "I" : Cond) ∈ wsX3_count := by decide +kernel
theorem hi_X3_count_17_X1 : ∀ w ∈ wsX10, w ∈ wsX3_count := by decide +kernel
set_option maxHeartbeats 4000000 in
set_option maxRecDepth 100000 in
theorem c_X3_count_17 (l : Launch) (D : va_G) (cI cC cZ cG : ClassId) (ad : Nat → Nat) (f : Nat → Int32) (f2 : Nat → Int32) (tx : Nat → Int32) (n : Nat) (nx : Nat) (sn : Nat) (R : Nat → Nat → Int32) (SL : Nat → Nat → Int32) (sv : Nat → Int32) (hn60 : n ≤ 60) (hnx : nx < 6) (hsn : sn ≤ 6) : Met l yX3_count wsX3_count ({ frames := 0, cells := 0, slots := 0, locals := 0 } : Room) (b_R D (b_T cI cC cZ cG) [((ad 0), .inr (3, [.ref (ad 1), .ref (ad 3), .ref (ad 5), .ref (ad 7), .ref (ad 15), .ref (ad 18)])), ((ad 1), .inr (0, [.ref (ad 2)])), ((ad 2), .inl (cI, 86, .inl f)), ((ad 3), .inr (0, [.ref (ad 4)])), ((ad 4), .inl (cI, 86, .inl f2)), ((ad 5), .inr (2, [.ref (ad 6), .int (nI n)])), ((ad 6), .inl (cC, 60, .inl tx)), ((ad 7), .inr (1, [.ref (ad 8), .int (nI nx), .int (nI sn)])), ((ad 8), .inl (cG, 6, .inr (.inr (.inr (.inr (fun i => ([(ad 9), (ad 10), (ad 11), (ad 12), (ad 13), (ad 14)] : List Nat)[i]?)))))), ((ad 9), .inl (cI, 86, .inl (R 0))), ((ad 10), .inl (cI, 86, .inl (R 1))), ((ad 11), .inl (cI, 86, .inl (R 2))), ((ad 12), .inl (cI, 86, .inl (R 3))), ((ad 13), .inl (cI, 86, .inl (R 4))), ((ad 14), .inl (cI, 86, .inl (R 5))), ((ad 15), .inl (cG, 2, .inr (.inr (.inr (.inr (fun i => ([(ad 16), (ad 17)] : List Nat)[i]?)))))), ((ad 16), .inl (cI, 86, .inl (SL 0))), ((ad 17), .inl (cI, 86, .inl (SL 1))), ((ad 18), .inl (cZ, 2, .inl sv))] [.ref (ad 0), .int (nI 17)]) (vp_Si (fun r => r = nI sn)) 0 0 (fun _ => False) := by
  refine b_enterR (cc := cX3_count) (maxL := 2) (ret := (some .int)) (by decide) rfl (Nat.le_of_ble_eq_true rfl) ?_
  intro p e s m below meth c ls hx hb hr hml hown hts hlocks hP hK hl Q hQ
  have hown : s.vm.findClass RX3 = some m.cls := hown
  have hl : lv_has ls 2 [(0, .ref (ad 0)), (1, .int (nI 17))] := hl
  refine lv_iload_n (pc := 0) hx hb dX3_count_0 rfl (lv_at hl 1 rfl) ?_
  refine lv_if_lt (pc := 1) (tgt := 10) hx hb dX3_count_1 (by decide) (fun c_1 => ?_) (fun c_1 => ?_)
  · skip
    have c_1 : 17 < 0 := (nI_ltI (a := 17) (b := 0) (by omega) (by omega)).mp c_1
    exact absurd c_1 (by decide)
  · skip
    have c_1 : ¬ (17 < 0) := fun h9 => c_1 ((nI_ltI (a := 17) (b := 0) (by omega) (by omega)).mpr h9)
    refine lv_iload_n (pc := 4) hx hb dX3_count_4 rfl (lv_at hl 1 rfl) ?_
    refine lv_bipush (pc := 5) (v := 18) hx hb dX3_count_5 (by decide) ?_
    refine lv_icmp_lt (pc := 7) (tgt := 13) hx hb dX3_count_7 (by decide) (fun c_2 => ?_) (fun c_2 => ?_)
    · skip
      have c_2 : 17 < 18 := (nI_ltI (a := 17) (b := 18) (by omega) (by omega)).mp c_2
      refine lv_iload_n (pc := 13) hx hb dX3_count_13 rfl (lv_at hl 1 rfl) ?_
      refine lv_bipush (pc := 14) (v := 8) hx hb dX3_count_14 (by decide) ?_
      refine lv_icmp_ge (pc := 16) (tgt := 29) hx hb dX3_count_16 (by decide) (fun c_3 => ?_) (fun c_3 => ?_)
      · skip
        have c_3 : 8 ≤ 17 := (nI_leI (a := 8) (b := 17) (by omega) (by omega)).mp c_3
        refine lv_iload_n (pc := 29) hx hb dX3_count_29 rfl (lv_at hl 1 rfl) ?_
        refine lv_tableIn (pc := 30) (tgt := 84) (off := 54) hx hb dX3_count_30 (by decide) (by decide) (by decide) (by decide) ?_
        refine lv_aload_n (pc := 84) hx hb dX3_count_84 rfl (lv_at hl 0 rfl) ?_
        refine va_get (pc := 85) (D := D) (ci := 3) (v := .ref (ad 7)) (C := RX3) (T := TX3) (N := 6) hx hb hts hi_X3_count_17_X3 hown hK hP 0 rfl rfl 3 (by decide) (hts _ hw_X3_count_17_0) (fun _ h9 => h9) rfl dX3_count_85 ?_
        refine va_get (pc := 88) (D := D) (ci := 1) (v := .int (nI sn)) (C := RX1) (T := TX1) (N := 3) hx hb hts hi_X3_count_17_X1 hown hK hP 7 rfl rfl 2 (by decide) (hts _ hw_X3_count_17_2) (fun _ h9 => h9) rfl dX3_count_88 ?_
        subst hQ
        exact b_retR hx hb hr hlocks (rfl) dX3_count_91
      · skip
        have c_3 : ¬ (8 ≤ 17) := fun h9 => c_3 ((nI_leI (a := 8) (b := 17) (by omega) (by omega)).mpr h9)
        exact absurd c_3 (by decide)
    · skip
      have c_2 : ¬ (17 < 18) := fun h9 => c_2 ((nI_ltI (a := 17) (b := 18) (by omega) (by omega)).mpr h9)
      exact absurd c_2 (by decide)
set_option maxHeartbeats 4000000 in
set_option maxRecDepth 100000 in
theorem c_X3_mean_ng (l : Launch) (D : va_G) (cI cC cZ cG : ClassId) (ad : Nat → Nat) (f : Nat → Int32) (f2 : Nat → Int32) (tx : Nat → Int32) (n : Nat) (nx : Nat) (sn : Nat) (R : Nat → Nat → Int32) (SL : Nat → Nat → Int32) (sv : Nat → Int32) (x : Int32) (hn60 : n ≤ 60) (hnx : nx < 6) (hsn : sn ≤ 6) (hbad : p_ng x) : Met l yX3_mean wsX3_mean ({ frames := 1, cells := 0, slots := 0, locals := 20 } : Room) (b_R D (b_T cI cC cZ cG) [((ad 0), .inr (3, [.ref (ad 1), .ref (ad 3), .ref (ad 5), .ref (ad 7), .ref (ad 15), .ref (ad 18)])), ((ad 1), .inr (0, [.ref (ad 2)])), ((ad 2), .inl (cI, 86, .inl f)), ((ad 3), .inr (0, [.ref (ad 4)])), ((ad 4), .inl (cI, 86, .inl f2)), ((ad 5), .inr (2, [.ref (ad 6), .int (nI n)])), ((ad 6), .inl (cC, 60, .inl tx)), ((ad 7), .inr (1, [.ref (ad 8), .int (nI nx), .int (nI sn)])), ((ad 8), .inl (cG, 6, .inr (.inr (.inr (.inr (fun i => ([(ad 9), (ad 10), (ad 11), (ad 12), (ad 13), (ad 14)] : List Nat)[i]?)))))), ((ad 9), .inl (cI, 86, .inl (R 0))), ((ad 10), .inl (cI, 86, .inl (R 1))), ((ad 11), .inl (cI, 86, .inl (R 2))), ((ad 12), .inl (cI, 86, .inl (R 3))), ((ad 13), .inl (cI, 86, .inl (R 4))), ((ad 14), .inl (cI, 86, .inl (R 5))), ((ad 15), .inl (cG, 2, .inr (.inr (.inr (.inr (fun i => ([(ad 16), (ad 17)] : List Nat)[i]?)))))), ((ad 16), .inl (cI, 86, .inl (SL 0))), ((ad 17), .inl (cI, 86, .inl (SL 1))), ((ad 18), .inl (cZ, 2, .inl sv))] [.ref (ad 0), .int x]) (vp_Si (fun r => r = -1)) 0 0 (fun _ => False) := by
  refine b_enterR (cc := cX3_mean) (maxL := 3) (ret := (some .int)) (by decide) rfl (Nat.le_of_ble_eq_true rfl) ?_
  intro p e s m below meth c ls hx hb hr hml hown hts hlocks hP hK hl Q hQ
  have hown : s.vm.findClass RX3 = some m.cls := hown
  have hl : lv_has ls 3 [(0, .ref (ad 0)), (1, .int x)] := hl
  refine lv_iload_n (pc := 0) hx hb dX3_mean_0 rfl (lv_at hl 1 rfl) ?_
  refine b_cR (pc := 1) (va_runS (As := [.int x]) (rest := []) ⟨hx, hb, hml, hown, hts⟩ (c_X3_isNoGate l D cI cC cZ cG x) (va_cwS 1 hts gX3_mean_X3_isNoGate rfl rfl rfl hyS_X3_isNoGate ⟨Nat.le_of_ble_eq_true rfl, Nat.le_of_ble_eq_true rfl⟩) (b_pRS (wc := []) hK hP [] rfl) rfl rfl hl.1 rfl (lv_room (Nat.le_of_ble_eq_true rfl)) dX3_mean_1 ⟨Nat.zero_le _, Nat.zero_le _⟩) ?_
  refine lv_if_eq (pc := 4) (tgt := 9) hx hb dX3_mean_4 (by decide) (fun c_1 => ?_) (fun c_1 => ?_)
  · skip
    have c_1 : ¬ (p_ng x) := b_i_0.mp c_1
    exact absurd hbad c_1
  · skip
    have c_1 : p_ng x := Classical.not_not.mp (fun h9 => c_1 (b_i_0.mpr h9))
    refine lv_iconst (pc := 7) (v := (-1)) hx hb dX3_mean_7 (by decide) ?_
    subst hQ
    exact b_retR hx hb hr hlocks (rfl) dX3_mean_8
theorem hw_X3_mean_ok_0 : (.fieldLink RX3 10 "BeamTurnstiles" "hall" "LBeamTurnstiles$Hall;" : Cond) ∈ wsX3_mean := by decide +kernel
theorem hi_X3_mean_ok_X3 : ∀ w ∈ wsX30, w ∈ wsX3_mean := by decide +kernel
set_option maxHeartbeats 4000000 in
set_option maxRecDepth 100000 in
theorem c_X3_mean_ok (l : Launch) (D : va_G) (cI cC cZ cG : ClassId) (ad : Nat → Nat) (f : Nat → Int32) (f2 : Nat → Int32) (tx : Nat → Int32) (n : Nat) (nx : Nat) (sn : Nat) (R : Nat → Nat → Int32) (SL : Nat → Nat → Int32) (sv : Nat → Int32) (g : Nat) (hn60 : n ≤ 60) (hnx : nx < 6) (hsn : sn ≤ 6) (hg : g < 6) : Met l yX3_mean wsX3_mean ({ frames := 4, cells := 0, slots := 0, locals := 84 } : Room) (b_R D (b_T cI cC cZ cG) [((ad 0), .inr (3, [.ref (ad 1), .ref (ad 3), .ref (ad 5), .ref (ad 7), .ref (ad 15), .ref (ad 18)])), ((ad 1), .inr (0, [.ref (ad 2)])), ((ad 2), .inl (cI, 86, .inl f)), ((ad 3), .inr (0, [.ref (ad 4)])), ((ad 4), .inl (cI, 86, .inl f2)), ((ad 5), .inr (2, [.ref (ad 6), .int (nI n)])), ((ad 6), .inl (cC, 60, .inl tx)), ((ad 7), .inr (1, [.ref (ad 8), .int (nI nx), .int (nI sn)])), ((ad 8), .inl (cG, 6, .inr (.inr (.inr (.inr (fun i => ([(ad 9), (ad 10), (ad 11), (ad 12), (ad 13), (ad 14)] : List Nat)[i]?)))))), ((ad 9), .inl (cI, 86, .inl (R 0))), ((ad 10), .inl (cI, 86, .inl (R 1))), ((ad 11), .inl (cI, 86, .inl (R 2))), ((ad 12), .inl (cI, 86, .inl (R 3))), ((ad 13), .inl (cI, 86, .inl (R 4))), ((ad 14), .inl (cI, 86, .inl (R 5))), ((ad 15), .inl (cG, 2, .inr (.inr (.inr (.inr (fun i => ([(ad 16), (ad 17)] : List Nat)[i]?)))))), ((ad 16), .inl (cI, 86, .inl (SL 0))), ((ad 17), .inl (cI, 86, .inl (SL 1))), ((ad 18), .inl (cZ, 2, .inl sv))] [.ref (ad 0), .int (nI g)]) (vp_Si (fun r => r = h_mean f g)) 0 0 (fun _ => False) := by
  refine b_enterR (cc := cX3_mean) (maxL := 3) (ret := (some .int)) (by decide) rfl (Nat.le_of_ble_eq_true rfl) ?_
  intro p e s m below meth c ls hx hb hr hml hown hts hlocks hP hK hl Q hQ
  have hown : s.vm.findClass RX3 = some m.cls := hown
  have hl : lv_has ls 3 [(0, .ref (ad 0)), (1, .int (nI g))] := hl
  refine lv_iload_n (pc := 0) hx hb dX3_mean_0 rfl (lv_at hl 1 rfl) ?_
  refine b_cR (pc := 1) (va_runS (As := [.int (nI g)]) (rest := []) ⟨hx, hb, hml, hown, hts⟩ (c_X3_isNoGate l D cI cC cZ cG (nI g)) (va_cwS 1 hts gX3_mean_X3_isNoGate rfl rfl rfl hyS_X3_isNoGate ⟨Nat.le_of_ble_eq_true rfl, Nat.le_of_ble_eq_true rfl⟩) (b_pRS (wc := []) hK hP [] rfl) rfl rfl hl.1 rfl (lv_room (Nat.le_of_ble_eq_true rfl)) dX3_mean_1 ⟨Nat.zero_le _, Nat.zero_le _⟩) ?_
  refine lv_if_eq (pc := 4) (tgt := 9) hx hb dX3_mean_4 (by decide) (fun c_1 => ?_) (fun c_1 => ?_)
  · skip
    have c_1 : ¬ (p_ng (nI g)) := b_i_0.mp c_1
    refine lv_aload_n (pc := 9) hx hb dX3_mean_9 rfl (lv_at hl 0 rfl) ?_
    refine va_get (pc := 10) (D := D) (ci := 3) (v := .ref (ad 1)) (C := RX3) (T := TX3) (N := 6) hx hb hts hi_X3_mean_ok_X3 hown hK hP 0 rfl rfl 0 (by decide) (hts _ hw_X3_mean_ok_0) (fun _ h9 => h9) rfl dX3_mean_10 ?_
    refine lv_iload_n (pc := 13) hx hb dX3_mean_13 rfl (lv_at hl 1 rfl) ?_
    refine b_cR (pc := 14) (va_runV (As := [.int (nI g)]) (rest := []) ⟨hx, hb, hml, hown, hts⟩ (c_X0_passagesThrough l D cI cC cZ cG (ad 1) (ad 2) f g (by omega)) (cwV 1 hts gX3_mean_X0_passagesThrough rfl rfl rfl hy_X0_passagesThrough ⟨Nat.le_of_ble_eq_true rfl, Nat.le_of_ble_eq_true rfl⟩) (b_pRV (wc := [((ad 1), .inr (0, [.ref (ad 2)])), ((ad 2), .inl (cI, 86, .inl f))]) hK hP [1, 2] rfl (ci := 0) (q0 := 0) rfl rfl) rfl rfl hl.1 rfl (lv_room (Nat.le_of_ble_eq_true rfl)) dX3_mean_14 ⟨Nat.zero_le _, Nat.zero_le _⟩) ?_
    refine lv_istore_n (pc := 17) (lv' := [(2, .int (f (8 + g * 13 + 5) + f (8 + g * 13 + 6))), (0, .ref (ad 0)), (1, .int (nI g))]) hx hb dX3_mean_17 rfl hl (by decide) rfl (fun ls hl => ?_)
    refine lv_iload_n (pc := 18) hx hb dX3_mean_18 rfl (lv_at hl 0 rfl) ?_
    refine lv_if_gt (pc := 19) (tgt := 25) hx hb dX3_mean_19 (by decide) (fun c_2 => ?_) (fun c_2 => ?_)
    · skip
      have c_2 : 0 < (f (8 + g * 13 + 5) + f (8 + g * 13 + 6)) := c_2
      refine lv_aload_n (pc := 25) hx hb dX3_mean_25 rfl (lv_at hl 1 rfl) ?_
      refine va_get (pc := 26) (D := D) (ci := 3) (v := .ref (ad 1)) (C := RX3) (T := TX3) (N := 6) hx hb hts hi_X3_mean_ok_X3 hown hK hP 0 rfl rfl 0 (by decide) (hts _ hw_X3_mean_ok_0) (fun _ h9 => h9) rfl dX3_mean_26 ?_
      refine lv_iload_n (pc := 29) hx hb dX3_mean_29 rfl (lv_at hl 2 rfl) ?_
      refine lv_bipush (pc := 30) (v := 11) hx hb dX3_mean_30 (by decide) ?_
      refine b_cR (pc := 32) (va_runV (As := [.int (nI g), .int 11]) (rest := []) ⟨hx, hb, hml, hown, hts⟩ (c_X0_tell l D cI cC cZ cG (ad 1) (ad 2) f g 11 (by omega) (by omega)) (cwV 2 hts gX3_mean_X0_tell rfl rfl rfl hy_X0_tell ⟨Nat.le_of_ble_eq_true rfl, Nat.le_of_ble_eq_true rfl⟩) (b_pRV (wc := [((ad 1), .inr (0, [.ref (ad 2)])), ((ad 2), .inl (cI, 86, .inl f))]) hK hP [1, 2] rfl (ci := 0) (q0 := 0) rfl rfl) rfl rfl hl.1 rfl (lv_room (Nat.le_of_ble_eq_true rfl)) dX3_mean_32 ⟨Nat.zero_le _, Nat.zero_le _⟩) ?_
      refine lv_iload_n (pc := 35) hx hb dX3_mean_35 rfl (lv_at hl 0 rfl) ?_
      refine lv_idiv (pc := 36) hx hb dX3_mean_36 (b_pos_ne c_2) ?_
      subst hQ
      exact b_retR hx hb hr hlocks (by first | rfl | (simp only [h_mean, if_neg c_1, if_pos c_2])) dX3_mean_37
    · skip
      have c_2 : ¬ (0 < (f (8 + g * 13 + 5) + f (8 + g * 13 + 6))) := c_2
      refine lv_bipush (pc := 22) (v := (-6)) hx hb dX3_mean_22 (by decide) ?_
      subst hQ
      exact b_retR hx hb hr hlocks (by first | rfl | (simp only [h_mean, if_neg c_1, if_neg c_2])) dX3_mean_24
  · skip
    have c_1 : p_ng (nI g) := Classical.not_not.mp (fun h9 => c_1 (b_i_0.mpr h9))
    exact absurd c_1 (p_ng_no hg)
theorem hw_X3_busiest_0 : (.fieldLink RX3 10 "BeamTurnstiles" "hall" "LBeamTurnstiles$Hall;" : Cond) ∈ wsX3_busiest := by decide +kernel
theorem hi_X3_busiest_X3 : ∀ w ∈ wsX30, w ∈ wsX3_busiest := by decide +kernel
set_option maxHeartbeats 4000000 in
set_option maxRecDepth 100000 in
theorem c_X3_busiest (l : Launch) (D : va_G) (cI cC cZ cG : ClassId) (ad : Nat → Nat) (f : Nat → Int32) (f2 : Nat → Int32) (tx : Nat → Int32) (n : Nat) (nx : Nat) (sn : Nat) (R : Nat → Nat → Int32) (SL : Nat → Nat → Int32) (sv : Nat → Int32) (hn60 : n ≤ 60) (hnx : nx < 6) (hsn : sn ≤ 6) : Met l yX3_busiest wsX3_busiest ({ frames := 2, cells := 0, slots := 0, locals := 42 } : Room) (b_R D (b_T cI cC cZ cG) [((ad 0), .inr (3, [.ref (ad 1), .ref (ad 3), .ref (ad 5), .ref (ad 7), .ref (ad 15), .ref (ad 18)])), ((ad 1), .inr (0, [.ref (ad 2)])), ((ad 2), .inl (cI, 86, .inl f)), ((ad 3), .inr (0, [.ref (ad 4)])), ((ad 4), .inl (cI, 86, .inl f2)), ((ad 5), .inr (2, [.ref (ad 6), .int (nI n)])), ((ad 6), .inl (cC, 60, .inl tx)), ((ad 7), .inr (1, [.ref (ad 8), .int (nI nx), .int (nI sn)])), ((ad 8), .inl (cG, 6, .inr (.inr (.inr (.inr (fun i => ([(ad 9), (ad 10), (ad 11), (ad 12), (ad 13), (ad 14)] : List Nat)[i]?)))))), ((ad 9), .inl (cI, 86, .inl (R 0))), ((ad 10), .inl (cI, 86, .inl (R 1))), ((ad 11), .inl (cI, 86, .inl (R 2))), ((ad 12), .inl (cI, 86, .inl (R 3))), ((ad 13), .inl (cI, 86, .inl (R 4))), ((ad 14), .inl (cI, 86, .inl (R 5))), ((ad 15), .inl (cG, 2, .inr (.inr (.inr (.inr (fun i => ([(ad 16), (ad 17)] : List Nat)[i]?)))))), ((ad 16), .inl (cI, 86, .inl (SL 0))), ((ad 17), .inl (cI, 86, .inl (SL 1))), ((ad 18), .inl (cZ, 2, .inl sv))] [.ref (ad 0)]) (vp_Si (fun r => r = (h_bus f 6).1)) 0 0 (fun _ => False) := by
  refine b_enterR (cc := cX3_busiest) (maxL := 5) (ret := (some .int)) (by decide) rfl (Nat.le_of_ble_eq_true rfl) ?_
  intro p e s m below meth c ls hx hb hr hml hown hts hlocks hP hK hl Q hQ
  have hown : s.vm.findClass RX3 = some m.cls := hown
  have hl : lv_has ls 5 [(0, .ref (ad 0))] := hl
  refine lv_bipush (pc := 0) (v := (-6)) hx hb dX3_busiest_0 (by decide) ?_
  refine lv_istore_n (pc := 2) (lv' := [(1, .int (-6)), (0, .ref (ad 0))]) hx hb dX3_busiest_2 rfl hl (by decide) rfl (fun ls hl => ?_)
  refine lv_iconst (pc := 3) (v := 0) hx hb dX3_busiest_3 (by decide) ?_
  refine lv_istore_n (pc := 4) (lv' := [(2, .int 0), (1, .int (-6)), (0, .ref (ad 0))]) hx hb dX3_busiest_4 rfl hl (by decide) rfl (fun ls hl => ?_)
  refine lv_iconst (pc := 5) (v := 0) hx hb dX3_busiest_5 (by decide) ?_
  refine lv_istore_n (pc := 6) (lv' := [(3, .int 0), (2, .int 0), (1, .int (-6)), (0, .ref (ad 0))]) hx hb dX3_busiest_6 rfl hl (by decide) rfl (fun ls hl => ?_)
  have loop_7 : ∀ (fu : Nat) (i : Nat) (b1 : Int32) (b2 : Int32), (i ≤ 6) → (b1 = (h_bus f i).1) → (b2 = (h_bus f i).2) → 6 - i < fu → ∀ (ls : Array Slot), lv_has ls 5 [(3, .int (nI i)), (2, .int b2), (1, .int b1), (0, .ref (ad 0))] → W p l e ({ frames := 2, cells := 0, slots := 0, locals := 42 } : Room) s m ([.ref (ad 0)] : List Value).toArray below meth c s.heap [] 0 0 Q (F0 m 7 ls []) := by
    intro fu
    induction fu with
    | zero => intro i b1 b2 hi hb1 hb2 hn ls hl; exact absurd hn (Nat.not_lt_zero _)
    | succ fu ih_7 =>
      intro i b1 b2 hi hb1 hb2 hn ls hl
      refine lv_iload_n (pc := 7) hx hb dX3_busiest_7 rfl (lv_at hl 0 rfl) ?_
      refine lv_bipush (pc := 8) (v := 6) hx hb dX3_busiest_8 (by decide) ?_
      refine lv_icmp_ge (pc := 10) (tgt := 40) hx hb dX3_busiest_10 (by decide) (fun c_1 => ?_) (fun c_1 => ?_)
      · skip
        have c_1 : 6 ≤ i := (nI_leI (a := 6) (b := i) (by omega) (by omega)).mp c_1
        refine lv_iload_n (pc := 40) hx hb dX3_busiest_40 rfl (lv_at hl 2 rfl) ?_
        subst hQ
        exact b_retR hx hb hr hlocks (by have e9 : i = 6 := (by omega); rw [hb1, e9]) dX3_busiest_41
      · skip
        have c_1 : ¬ (6 ≤ i) := fun h9 => c_1 ((nI_leI (a := 6) (b := i) (by omega) (by omega)).mpr h9)
        refine lv_aload_n (pc := 13) hx hb dX3_busiest_13 rfl (lv_at hl 3 rfl) ?_
        refine va_get (pc := 14) (D := D) (ci := 3) (v := .ref (ad 1)) (C := RX3) (T := TX3) (N := 6) hx hb hts hi_X3_busiest_X3 hown hK hP 0 rfl rfl 0 (by decide) (hts _ hw_X3_busiest_0) (fun _ h9 => h9) rfl dX3_busiest_14 ?_
        refine lv_iload_n (pc := 17) hx hb dX3_busiest_17 rfl (lv_at hl 0 rfl) ?_
        refine b_cR (pc := 18) (va_runV (As := [.int (nI i)]) (rest := []) ⟨hx, hb, hml, hown, hts⟩ (c_X0_passagesThrough l D cI cC cZ cG (ad 1) (ad 2) f i (by omega)) (cwV 1 hts gX3_busiest_X0_passagesThrough rfl rfl rfl hy_X0_passagesThrough ⟨Nat.le_of_ble_eq_true rfl, Nat.le_of_ble_eq_true rfl⟩) (b_pRV (wc := [((ad 1), .inr (0, [.ref (ad 2)])), ((ad 2), .inl (cI, 86, .inl f))]) hK hP [1, 2] rfl (ci := 0) (q0 := 0) rfl rfl) rfl rfl hl.1 rfl (lv_room (Nat.le_of_ble_eq_true rfl)) dX3_busiest_18 ⟨Nat.zero_le _, Nat.zero_le _⟩) ?_
        refine lv_istore (pc := 21) (lv' := [(4, .int (f (8 + i * 13 + 5) + f (8 + i * 13 + 6))), (3, .int (nI i)), (2, .int b2), (1, .int b1), (0, .ref (ad 0))]) hx hb dX3_busiest_21 hl (by decide) rfl (fun ls hl => ?_)
        refine lv_iload (pc := 23) hx hb dX3_busiest_23 (lv_at hl 0 rfl) ?_
        refine lv_iload_n (pc := 25) hx hb dX3_busiest_25 rfl (lv_at hl 2 rfl) ?_
        refine lv_icmp_le (pc := 26) (tgt := 34) hx hb dX3_busiest_26 (by decide) (fun c_2 => ?_) (fun c_2 => ?_)
        · skip
          have c_2 : (f (8 + i * 13 + 5) + f (8 + i * 13 + 6)) ≤ b2 := c_2
          refine lv_iinc (pc := 34) (v := nI (i + 1)) (lv' := [(3, .int (nI (i + 1))), (4, .int (f (8 + i * 13 + 5) + f (8 + i * 13 + 6))), (2, .int b2), (1, .int b1), (0, .ref (ad 0))]) hx hb dX3_busiest_34 hl (k := 1) rfl (nI_add i 1) (by decide) rfl (fun ls hl => ?_)
          refine lv_goto (pc := 37) (tgt := 7) hx hb dX3_busiest_37 (by decide) ?_
          exact ih_7 (i + 1) b1 b2 (by omega) (by simp only [h_bus, hb1, hb2, if_pos (hb2 ▸ c_2)]) (by simp only [h_bus, hb1, hb2, if_pos (hb2 ▸ c_2)]) (by omega) ls (lv_sub hl [0, 2, 3, 4] rfl)
        · skip
          have c_2 : ¬ ((f (8 + i * 13 + 5) + f (8 + i * 13 + 6)) ≤ b2) := c_2
          refine lv_iload (pc := 29) hx hb dX3_busiest_29 (lv_at hl 0 rfl) ?_
          refine lv_istore_n (pc := 31) (lv' := [(2, .int (f (8 + i * 13 + 5) + f (8 + i * 13 + 6))), (4, .int (f (8 + i * 13 + 5) + f (8 + i * 13 + 6))), (3, .int (nI i)), (1, .int b1), (0, .ref (ad 0))]) hx hb dX3_busiest_31 rfl hl (by decide) rfl (fun ls hl => ?_)
          refine lv_iload_n (pc := 32) hx hb dX3_busiest_32 rfl (lv_at hl 2 rfl) ?_
          refine lv_istore_n (pc := 33) (lv' := [(1, .int (nI i)), (2, .int (f (8 + i * 13 + 5) + f (8 + i * 13 + 6))), (4, .int (f (8 + i * 13 + 5) + f (8 + i * 13 + 6))), (3, .int (nI i)), (0, .ref (ad 0))]) hx hb dX3_busiest_33 rfl hl (by decide) rfl (fun ls hl => ?_)
          refine lv_iinc (pc := 34) (v := nI (i + 1)) (lv' := [(3, .int (nI (i + 1))), (1, .int (nI i)), (2, .int (f (8 + i * 13 + 5) + f (8 + i * 13 + 6))), (4, .int (f (8 + i * 13 + 5) + f (8 + i * 13 + 6))), (0, .ref (ad 0))]) hx hb dX3_busiest_34 hl (k := 3) rfl (nI_add i 1) (by decide) rfl (fun ls hl => ?_)
          refine lv_goto (pc := 37) (tgt := 7) hx hb dX3_busiest_37 (by decide) ?_
          exact ih_7 (i + 1) (nI i) (f (8 + i * 13 + 5) + f (8 + i * 13 + 6)) (by omega) (by simp only [h_bus, hb1, hb2, if_neg (hb2 ▸ c_2)]) (by simp only [h_bus, hb1, hb2, if_neg (hb2 ▸ c_2)]) (by omega) ls (lv_sub hl [0, 2, 1, 4] rfl)
  exact loop_7 7 0 (-6) 0 (Nat.zero_le _) rfl rfl (by omega) ls (lv_sub hl [0, 1, 2, 3] rfl)
set_option maxHeartbeats 4000000 in
set_option maxRecDepth 100000 in
theorem c_X3_eventsTo_ng (l : Launch) (D : va_G) (cI cC cZ cG : ClassId) (ad : Nat → Nat) (f : Nat → Int32) (f2 : Nat → Int32) (tx : Nat → Int32) (n : Nat) (nx : Nat) (sn : Nat) (R : Nat → Nat → Int32) (SL : Nat → Nat → Int32) (sv : Nat → Int32) (x : Int32) (y : Int32) (hn60 : n ≤ 60) (hnx : nx < 6) (hsn : sn ≤ 6) (hbad : p_ng x) : Met l yX3_eventsTo wsX3_eventsTo ({ frames := 1, cells := 0, slots := 0, locals := 20 } : Room) (b_R D (b_T cI cC cZ cG) [((ad 0), .inr (3, [.ref (ad 1), .ref (ad 3), .ref (ad 5), .ref (ad 7), .ref (ad 15), .ref (ad 18)])), ((ad 1), .inr (0, [.ref (ad 2)])), ((ad 2), .inl (cI, 86, .inl f)), ((ad 3), .inr (0, [.ref (ad 4)])), ((ad 4), .inl (cI, 86, .inl f2)), ((ad 5), .inr (2, [.ref (ad 6), .int (nI n)])), ((ad 6), .inl (cC, 60, .inl tx)), ((ad 7), .inr (1, [.ref (ad 8), .int (nI nx), .int (nI sn)])), ((ad 8), .inl (cG, 6, .inr (.inr (.inr (.inr (fun i => ([(ad 9), (ad 10), (ad 11), (ad 12), (ad 13), (ad 14)] : List Nat)[i]?)))))), ((ad 9), .inl (cI, 86, .inl (R 0))), ((ad 10), .inl (cI, 86, .inl (R 1))), ((ad 11), .inl (cI, 86, .inl (R 2))), ((ad 12), .inl (cI, 86, .inl (R 3))), ((ad 13), .inl (cI, 86, .inl (R 4))), ((ad 14), .inl (cI, 86, .inl (R 5))), ((ad 15), .inl (cG, 2, .inr (.inr (.inr (.inr (fun i => ([(ad 16), (ad 17)] : List Nat)[i]?)))))), ((ad 16), .inl (cI, 86, .inl (SL 0))), ((ad 17), .inl (cI, 86, .inl (SL 1))), ((ad 18), .inl (cZ, 2, .inl sv))] [.ref (ad 0), .int x, .int y]) (vp_Si (fun r => r = -1)) 0 0 (fun _ => False) := by
  refine b_enterR (cc := cX3_eventsTo) (maxL := 6) (ret := (some .int)) (by decide) rfl (Nat.le_of_ble_eq_true rfl) ?_
  intro p e s m below meth c ls hx hb hr hml hown hts hlocks hP hK hl Q hQ
  have hown : s.vm.findClass RX3 = some m.cls := hown
  have hl : lv_has ls 6 [(0, .ref (ad 0)), (1, .int x), (2, .int y)] := hl
  refine lv_iload_n (pc := 0) hx hb dX3_eventsTo_0 rfl (lv_at hl 1 rfl) ?_
  refine b_cR (pc := 1) (va_runS (As := [.int x]) (rest := []) ⟨hx, hb, hml, hown, hts⟩ (c_X3_isNoGate l D cI cC cZ cG x) (va_cwS 1 hts gX3_eventsTo_X3_isNoGate rfl rfl rfl hyS_X3_isNoGate ⟨Nat.le_of_ble_eq_true rfl, Nat.le_of_ble_eq_true rfl⟩) (b_pRS (wc := []) hK hP [] rfl) rfl rfl hl.1 rfl (lv_room (Nat.le_of_ble_eq_true rfl)) dX3_eventsTo_1 ⟨Nat.zero_le _, Nat.zero_le _⟩) ?_
  refine lv_if_eq (pc := 4) (tgt := 9) hx hb dX3_eventsTo_4 (by decide) (fun c_1 => ?_) (fun c_1 => ?_)
  · skip
    have c_1 : ¬ (p_ng x) := b_i_0.mp c_1
    exact absurd hbad c_1
  · skip
    have c_1 : p_ng x := Classical.not_not.mp (fun h9 => c_1 (b_i_0.mpr h9))
    refine lv_iconst (pc := 7) (v := (-1)) hx hb dX3_eventsTo_7 (by decide) ?_
    subst hQ
    exact b_retR hx hb hr hlocks (rfl) dX3_eventsTo_8
set_option maxHeartbeats 4000000 in
set_option maxRecDepth 100000 in
theorem c_X3_eventsTo_bw (l : Launch) (D : va_G) (cI cC cZ cG : ClassId) (ad : Nat → Nat) (f : Nat → Int32) (f2 : Nat → Int32) (tx : Nat → Int32) (n : Nat) (nx : Nat) (sn : Nat) (R : Nat → Nat → Int32) (SL : Nat → Nat → Int32) (sv : Nat → Int32) (g : Nat) (y : Int32) (hn60 : n ≤ 60) (hnx : nx < 6) (hsn : sn ≤ 6) (hg : g < 6) (hbad : y < 0 ∨ ¬ y < 3) : Met l yX3_eventsTo wsX3_eventsTo ({ frames := 1, cells := 0, slots := 0, locals := 20 } : Room) (b_R D (b_T cI cC cZ cG) [((ad 0), .inr (3, [.ref (ad 1), .ref (ad 3), .ref (ad 5), .ref (ad 7), .ref (ad 15), .ref (ad 18)])), ((ad 1), .inr (0, [.ref (ad 2)])), ((ad 2), .inl (cI, 86, .inl f)), ((ad 3), .inr (0, [.ref (ad 4)])), ((ad 4), .inl (cI, 86, .inl f2)), ((ad 5), .inr (2, [.ref (ad 6), .int (nI n)])), ((ad 6), .inl (cC, 60, .inl tx)), ((ad 7), .inr (1, [.ref (ad 8), .int (nI nx), .int (nI sn)])), ((ad 8), .inl (cG, 6, .inr (.inr (.inr (.inr (fun i => ([(ad 9), (ad 10), (ad 11), (ad 12), (ad 13), (ad 14)] : List Nat)[i]?)))))), ((ad 9), .inl (cI, 86, .inl (R 0))), ((ad 10), .inl (cI, 86, .inl (R 1))), ((ad 11), .inl (cI, 86, .inl (R 2))), ((ad 12), .inl (cI, 86, .inl (R 3))), ((ad 13), .inl (cI, 86, .inl (R 4))), ((ad 14), .inl (cI, 86, .inl (R 5))), ((ad 15), .inl (cG, 2, .inr (.inr (.inr (.inr (fun i => ([(ad 16), (ad 17)] : List Nat)[i]?)))))), ((ad 16), .inl (cI, 86, .inl (SL 0))), ((ad 17), .inl (cI, 86, .inl (SL 1))), ((ad 18), .inl (cZ, 2, .inl sv))] [.ref (ad 0), .int (nI g), .int y]) (vp_Si (fun r => r = -2)) 0 0 (fun _ => False) := by
  refine b_enterR (cc := cX3_eventsTo) (maxL := 6) (ret := (some .int)) (by decide) rfl (Nat.le_of_ble_eq_true rfl) ?_
  intro p e s m below meth c ls hx hb hr hml hown hts hlocks hP hK hl Q hQ
  have hown : s.vm.findClass RX3 = some m.cls := hown
  have hl : lv_has ls 6 [(0, .ref (ad 0)), (1, .int (nI g)), (2, .int y)] := hl
  refine lv_iload_n (pc := 0) hx hb dX3_eventsTo_0 rfl (lv_at hl 1 rfl) ?_
  refine b_cR (pc := 1) (va_runS (As := [.int (nI g)]) (rest := []) ⟨hx, hb, hml, hown, hts⟩ (c_X3_isNoGate l D cI cC cZ cG (nI g)) (va_cwS 1 hts gX3_eventsTo_X3_isNoGate rfl rfl rfl hyS_X3_isNoGate ⟨Nat.le_of_ble_eq_true rfl, Nat.le_of_ble_eq_true rfl⟩) (b_pRS (wc := []) hK hP [] rfl) rfl rfl hl.1 rfl (lv_room (Nat.le_of_ble_eq_true rfl)) dX3_eventsTo_1 ⟨Nat.zero_le _, Nat.zero_le _⟩) ?_
  refine lv_if_eq (pc := 4) (tgt := 9) hx hb dX3_eventsTo_4 (by decide) (fun c_1 => ?_) (fun c_1 => ?_)
  · skip
    have c_1 : ¬ (p_ng (nI g)) := b_i_0.mp c_1
    refine lv_iload_n (pc := 9) hx hb dX3_eventsTo_9 rfl (lv_at hl 2 rfl) ?_
    refine lv_if_lt (pc := 10) (tgt := 18) hx hb dX3_eventsTo_10 (by decide) (fun c_2 => ?_) (fun c_2 => ?_)
    · skip
      have c_2 : y < 0 := c_2
      refine lv_bipush (pc := 18) (v := (-2)) hx hb dX3_eventsTo_18 (by decide) ?_
      subst hQ
      exact b_retR hx hb hr hlocks (rfl) dX3_eventsTo_20
    · skip
      have c_2 : ¬ (y < 0) := c_2
      refine lv_iload_n (pc := 13) hx hb dX3_eventsTo_13 rfl (lv_at hl 2 rfl) ?_
      refine lv_iconst (pc := 14) (v := 3) hx hb dX3_eventsTo_14 (by decide) ?_
      refine lv_icmp_lt (pc := 15) (tgt := 21) hx hb dX3_eventsTo_15 (by decide) (fun c_3 => ?_) (fun c_3 => ?_)
      · skip
        have c_3 : y < 3 := c_3
        exact hbad.elim (fun q => absurd q c_2) (fun q => absurd c_3 q)
      · skip
        have c_3 : ¬ (y < 3) := c_3
        refine lv_bipush (pc := 18) (v := (-2)) hx hb dX3_eventsTo_18 (by decide) ?_
        subst hQ
        exact b_retR hx hb hr hlocks (rfl) dX3_eventsTo_20
  · skip
    have c_1 : p_ng (nI g) := Classical.not_not.mp (fun h9 => c_1 (b_i_0.mpr h9))
    exact absurd c_1 (p_ng_no hg)
theorem hw_X3_eventsTo_np_0 : (.fieldLink RX3 10 "BeamTurnstiles" "hall" "LBeamTurnstiles$Hall;" : Cond) ∈ wsX3_eventsTo := by decide +kernel
theorem hi_X3_eventsTo_np_X3 : ∀ w ∈ wsX30, w ∈ wsX3_eventsTo := by decide +kernel
set_option maxHeartbeats 4000000 in
set_option maxRecDepth 100000 in
theorem c_X3_eventsTo_np (l : Launch) (D : va_G) (cI cC cZ cG : ClassId) (ad : Nat → Nat) (f : Nat → Int32) (f2 : Nat → Int32) (tx : Nat → Int32) (n : Nat) (nx : Nat) (sn : Nat) (R : Nat → Nat → Int32) (SL : Nat → Nat → Int32) (sv : Nat → Int32) (g : Nat) (w1 : Nat) (hn60 : n ≤ 60) (hnx : nx < 6) (hsn : sn ≤ 6) (hg : g < 6) (hw : w1 < 3) (hbad : f (8 + g * 13 + 0) = 0 ∨ f (8 + g * 13 + 3) = 0) : Met l yX3_eventsTo wsX3_eventsTo ({ frames := 2, cells := 0, slots := 0, locals := 41 } : Room) (b_R D (b_T cI cC cZ cG) [((ad 0), .inr (3, [.ref (ad 1), .ref (ad 3), .ref (ad 5), .ref (ad 7), .ref (ad 15), .ref (ad 18)])), ((ad 1), .inr (0, [.ref (ad 2)])), ((ad 2), .inl (cI, 86, .inl f)), ((ad 3), .inr (0, [.ref (ad 4)])), ((ad 4), .inl (cI, 86, .inl f2)), ((ad 5), .inr (2, [.ref (ad 6), .int (nI n)])), ((ad 6), .inl (cC, 60, .inl tx)), ((ad 7), .inr (1, [.ref (ad 8), .int (nI nx), .int (nI sn)])), ((ad 8), .inl (cG, 6, .inr (.inr (.inr (.inr (fun i => ([(ad 9), (ad 10), (ad 11), (ad 12), (ad 13), (ad 14)] : List Nat)[i]?)))))), ((ad 9), .inl (cI, 86, .inl (R 0))), ((ad 10), .inl (cI, 86, .inl (R 1))), ((ad 11), .inl (cI, 86, .inl (R 2))), ((ad 12), .inl (cI, 86, .inl (R 3))), ((ad 13), .inl (cI, 86, .inl (R 4))), ((ad 14), .inl (cI, 86, .inl (R 5))), ((ad 15), .inl (cG, 2, .inr (.inr (.inr (.inr (fun i => ([(ad 16), (ad 17)] : List Nat)[i]?)))))), ((ad 16), .inl (cI, 86, .inl (SL 0))), ((ad 17), .inl (cI, 86, .inl (SL 1))), ((ad 18), .inl (cZ, 2, .inl sv))] [.ref (ad 0), .int (nI g), .int (nI w1)]) (vp_Si (fun r => r = -5)) 0 0 (fun _ => False) := by
  refine b_enterR (cc := cX3_eventsTo) (maxL := 6) (ret := (some .int)) (by decide) rfl (Nat.le_of_ble_eq_true rfl) ?_
  intro p e s m below meth c ls hx hb hr hml hown hts hlocks hP hK hl Q hQ
  have hown : s.vm.findClass RX3 = some m.cls := hown
  have hl : lv_has ls 6 [(0, .ref (ad 0)), (1, .int (nI g)), (2, .int (nI w1))] := hl
  refine lv_iload_n (pc := 0) hx hb dX3_eventsTo_0 rfl (lv_at hl 1 rfl) ?_
  refine b_cR (pc := 1) (va_runS (As := [.int (nI g)]) (rest := []) ⟨hx, hb, hml, hown, hts⟩ (c_X3_isNoGate l D cI cC cZ cG (nI g)) (va_cwS 1 hts gX3_eventsTo_X3_isNoGate rfl rfl rfl hyS_X3_isNoGate ⟨Nat.le_of_ble_eq_true rfl, Nat.le_of_ble_eq_true rfl⟩) (b_pRS (wc := []) hK hP [] rfl) rfl rfl hl.1 rfl (lv_room (Nat.le_of_ble_eq_true rfl)) dX3_eventsTo_1 ⟨Nat.zero_le _, Nat.zero_le _⟩) ?_
  refine lv_if_eq (pc := 4) (tgt := 9) hx hb dX3_eventsTo_4 (by decide) (fun c_1 => ?_) (fun c_1 => ?_)
  · skip
    have c_1 : ¬ (p_ng (nI g)) := b_i_0.mp c_1
    refine lv_iload_n (pc := 9) hx hb dX3_eventsTo_9 rfl (lv_at hl 2 rfl) ?_
    refine lv_if_lt (pc := 10) (tgt := 18) hx hb dX3_eventsTo_10 (by decide) (fun c_2 => ?_) (fun c_2 => ?_)
    · skip
      have c_2 : w1 < 0 := (nI_ltI (a := w1) (b := 0) (by omega) (by omega)).mp c_2
      exfalso; omega
    · skip
      have c_2 : ¬ (w1 < 0) := fun h9 => c_2 ((nI_ltI (a := w1) (b := 0) (by omega) (by omega)).mpr h9)
      refine lv_iload_n (pc := 13) hx hb dX3_eventsTo_13 rfl (lv_at hl 2 rfl) ?_
      refine lv_iconst (pc := 14) (v := 3) hx hb dX3_eventsTo_14 (by decide) ?_
      refine lv_icmp_lt (pc := 15) (tgt := 21) hx hb dX3_eventsTo_15 (by decide) (fun c_3 => ?_) (fun c_3 => ?_)
      · skip
        have c_3 : w1 < 3 := (nI_ltI (a := w1) (b := 3) (by omega) (by omega)).mp c_3
        refine lv_aload_n (pc := 21) hx hb dX3_eventsTo_21 rfl (lv_at hl 0 rfl) ?_
        refine va_get (pc := 22) (D := D) (ci := 3) (v := .ref (ad 1)) (C := RX3) (T := TX3) (N := 6) hx hb hts hi_X3_eventsTo_np_X3 hown hK hP 0 rfl rfl 0 (by decide) (hts _ hw_X3_eventsTo_np_0) (fun _ h9 => h9) rfl dX3_eventsTo_22 ?_
        refine lv_iload_n (pc := 25) hx hb dX3_eventsTo_25 rfl (lv_at hl 1 rfl) ?_
        refine b_cR (pc := 26) (va_runV (As := [.int (nI g)]) (rest := []) ⟨hx, hb, hml, hown, hts⟩ (c_X0_isUnderWay l D cI cC cZ cG (ad 1) (ad 2) f g (by omega)) (cwV 1 hts gX3_eventsTo_X0_isUnderWay rfl rfl rfl hy_X0_isUnderWay ⟨Nat.le_of_ble_eq_true rfl, Nat.le_of_ble_eq_true rfl⟩) (b_pRV (wc := [((ad 1), .inr (0, [.ref (ad 2)])), ((ad 2), .inl (cI, 86, .inl f))]) hK hP [1, 2] rfl (ci := 0) (q0 := 0) rfl rfl) rfl rfl hl.1 rfl (lv_room (Nat.le_of_ble_eq_true rfl)) dX3_eventsTo_26 ⟨Nat.zero_le _, Nat.zero_le _⟩) ?_
        refine lv_if_eq (pc := 29) (tgt := 43) hx hb dX3_eventsTo_29 (by decide) (fun c_4 => ?_) (fun c_4 => ?_)
        · skip
          have c_4 : ¬ (¬ f (8 + g * 13 + 0) = 0) := b_i_0.mp c_4
          refine lv_bipush (pc := 43) (v := (-5)) hx hb dX3_eventsTo_43 (by decide) ?_
          subst hQ
          exact b_retR hx hb hr hlocks (rfl) dX3_eventsTo_45
        · skip
          have c_4 : ¬ f (8 + g * 13 + 0) = 0 := Classical.not_not.mp (fun h9 => c_4 (b_i_0.mpr h9))
          refine lv_aload_n (pc := 32) hx hb dX3_eventsTo_32 rfl (lv_at hl 0 rfl) ?_
          refine va_get (pc := 33) (D := D) (ci := 3) (v := .ref (ad 1)) (C := RX3) (T := TX3) (N := 6) hx hb hts hi_X3_eventsTo_np_X3 hown hK hP 0 rfl rfl 0 (by decide) (hts _ hw_X3_eventsTo_np_0) (fun _ h9 => h9) rfl dX3_eventsTo_33 ?_
          refine lv_iload_n (pc := 36) hx hb dX3_eventsTo_36 rfl (lv_at hl 1 rfl) ?_
          refine b_cR (pc := 37) (va_runV (As := [.int (nI g)]) (rest := []) ⟨hx, hb, hml, hown, hts⟩ (c_X0_isSure l D cI cC cZ cG (ad 1) (ad 2) f g (by omega)) (cwV 1 hts gX3_eventsTo_X0_isSure rfl rfl rfl hy_X0_isSure ⟨Nat.le_of_ble_eq_true rfl, Nat.le_of_ble_eq_true rfl⟩) (b_pRV (wc := [((ad 1), .inr (0, [.ref (ad 2)])), ((ad 2), .inl (cI, 86, .inl f))]) hK hP [1, 2] rfl (ci := 0) (q0 := 0) rfl rfl) rfl rfl hl.1 rfl (lv_room (Nat.le_of_ble_eq_true rfl)) dX3_eventsTo_37 ⟨Nat.zero_le _, Nat.zero_le _⟩) ?_
          refine lv_if_ne (pc := 40) (tgt := 46) hx hb dX3_eventsTo_40 (by decide) (fun c_5 => ?_) (fun c_5 => ?_)
          · skip
            have c_5 : ¬ f (8 + g * 13 + 3) = 0 := Classical.not_not.mp (fun h9 => c_5 (b_i_0.mpr h9))
            exact hbad.elim (fun q => absurd q c_4) (fun q => absurd q c_5)
          · skip
            have c_5 : ¬ (¬ f (8 + g * 13 + 3) = 0) := b_i_0.mp c_5
            refine lv_bipush (pc := 43) (v := (-5)) hx hb dX3_eventsTo_43 (by decide) ?_
            subst hQ
            exact b_retR hx hb hr hlocks (rfl) dX3_eventsTo_45
      · skip
        have c_3 : ¬ (w1 < 3) := fun h9 => c_3 ((nI_ltI (a := w1) (b := 3) (by omega) (by omega)).mpr h9)
        exfalso; omega
  · skip
    have c_1 : p_ng (nI g) := Classical.not_not.mp (fun h9 => c_1 (b_i_0.mpr h9))
    exact absurd c_1 (p_ng_no hg)
theorem hw_X3_eventsTo_0_0 : (.fieldLink RX3 10 "BeamTurnstiles" "hall" "LBeamTurnstiles$Hall;" : Cond) ∈ wsX3_eventsTo := by decide +kernel
theorem hi_X3_eventsTo_0_X3 : ∀ w ∈ wsX30, w ∈ wsX3_eventsTo := by decide +kernel
theorem hw_X3_eventsTo_0_2 : (.methodLink RX3 129 Lib.Math.abs.name : Cond) ∈ wsX3_eventsTo := by decide +kernel
theorem hw_X3_eventsTo_0_3 : (.static Lib.Math.abs.name : Cond) ∈ wsX3_eventsTo := by decide +kernel
theorem hw_X3_eventsTo_0_4 : (.initialized "java/lang/Math" : Cond) ∈ wsX3_eventsTo := by decide +kernel
theorem hw_X3_eventsTo_0_5 : (.code Lib.Math.abs.name Lib.Math.abs.code 1 (some .int) : Cond) ∈ wsX3_eventsTo := by decide +kernel
set_option maxHeartbeats 4000000 in
set_option maxRecDepth 100000 in
theorem c_X3_eventsTo_0 (l : Launch) (D : va_G) (cI cC cZ cG : ClassId) (ad : Nat → Nat) (f : Nat → Int32) (f2 : Nat → Int32) (tx : Nat → Int32) (n : Nat) (nx : Nat) (sn : Nat) (R : Nat → Nat → Int32) (SL : Nat → Nat → Int32) (sv : Nat → Int32) (g : Nat) (hn60 : n ≤ 60) (hnx : nx < 6) (hsn : sn ≤ 6) (hg : g < 6) (h1 : ¬ f (8 + g * 13 + 0) = 0) (h2 : ¬ f (8 + g * 13 + 3) = 0) : Met l yX3_eventsTo wsX3_eventsTo ({ frames := 2, cells := 0, slots := 0, locals := 41 } : Room) (b_R D (b_T cI cC cZ cG) [((ad 0), .inr (3, [.ref (ad 1), .ref (ad 3), .ref (ad 5), .ref (ad 7), .ref (ad 15), .ref (ad 18)])), ((ad 1), .inr (0, [.ref (ad 2)])), ((ad 2), .inl (cI, 86, .inl f)), ((ad 3), .inr (0, [.ref (ad 4)])), ((ad 4), .inl (cI, 86, .inl f2)), ((ad 5), .inr (2, [.ref (ad 6), .int (nI n)])), ((ad 6), .inl (cC, 60, .inl tx)), ((ad 7), .inr (1, [.ref (ad 8), .int (nI nx), .int (nI sn)])), ((ad 8), .inl (cG, 6, .inr (.inr (.inr (.inr (fun i => ([(ad 9), (ad 10), (ad 11), (ad 12), (ad 13), (ad 14)] : List Nat)[i]?)))))), ((ad 9), .inl (cI, 86, .inl (R 0))), ((ad 10), .inl (cI, 86, .inl (R 1))), ((ad 11), .inl (cI, 86, .inl (R 2))), ((ad 12), .inl (cI, 86, .inl (R 3))), ((ad 13), .inl (cI, 86, .inl (R 4))), ((ad 14), .inl (cI, 86, .inl (R 5))), ((ad 15), .inl (cG, 2, .inr (.inr (.inr (.inr (fun i => ([(ad 16), (ad 17)] : List Nat)[i]?)))))), ((ad 16), .inl (cI, 86, .inl (SL 0))), ((ad 17), .inl (cI, 86, .inl (SL 1))), ((ad 18), .inl (cZ, 2, .inl sv))] [.ref (ad 0), .int (nI g), .int (nI 0)]) (vp_Si (fun r => r = h_evto f g 0)) 0 0 (fun _ => False) := by
  refine b_enterR (cc := cX3_eventsTo) (maxL := 6) (ret := (some .int)) (by decide) rfl (Nat.le_of_ble_eq_true rfl) ?_
  intro p e s m below meth c ls hx hb hr hml hown hts hlocks hP hK hl Q hQ
  have hown : s.vm.findClass RX3 = some m.cls := hown
  have hl : lv_has ls 6 [(0, .ref (ad 0)), (1, .int (nI g)), (2, .int (nI 0))] := hl
  refine lv_iload_n (pc := 0) hx hb dX3_eventsTo_0 rfl (lv_at hl 1 rfl) ?_
  refine b_cR (pc := 1) (va_runS (As := [.int (nI g)]) (rest := []) ⟨hx, hb, hml, hown, hts⟩ (c_X3_isNoGate l D cI cC cZ cG (nI g)) (va_cwS 1 hts gX3_eventsTo_X3_isNoGate rfl rfl rfl hyS_X3_isNoGate ⟨Nat.le_of_ble_eq_true rfl, Nat.le_of_ble_eq_true rfl⟩) (b_pRS (wc := []) hK hP [] rfl) rfl rfl hl.1 rfl (lv_room (Nat.le_of_ble_eq_true rfl)) dX3_eventsTo_1 ⟨Nat.zero_le _, Nat.zero_le _⟩) ?_
  refine lv_if_eq (pc := 4) (tgt := 9) hx hb dX3_eventsTo_4 (by decide) (fun c_1 => ?_) (fun c_1 => ?_)
  · skip
    have c_1 : ¬ (p_ng (nI g)) := b_i_0.mp c_1
    refine lv_iload_n (pc := 9) hx hb dX3_eventsTo_9 rfl (lv_at hl 2 rfl) ?_
    refine lv_if_lt (pc := 10) (tgt := 18) hx hb dX3_eventsTo_10 (by decide) (fun c_2 => ?_) (fun c_2 => ?_)
    · skip
      have c_2 : 0 < 0 := (nI_ltI (a := 0) (b := 0) (by omega) (by omega)).mp c_2
      exact absurd c_2 (by decide)
    · skip
      have c_2 : ¬ (0 < 0) := fun h9 => c_2 ((nI_ltI (a := 0) (b := 0) (by omega) (by omega)).mpr h9)
      refine lv_iload_n (pc := 13) hx hb dX3_eventsTo_13 rfl (lv_at hl 2 rfl) ?_
      refine lv_iconst (pc := 14) (v := 3) hx hb dX3_eventsTo_14 (by decide) ?_
      refine lv_icmp_lt (pc := 15) (tgt := 21) hx hb dX3_eventsTo_15 (by decide) (fun c_3 => ?_) (fun c_3 => ?_)
      · skip
        have c_3 : 0 < 3 := (nI_ltI (a := 0) (b := 3) (by omega) (by omega)).mp c_3
        refine lv_aload_n (pc := 21) hx hb dX3_eventsTo_21 rfl (lv_at hl 0 rfl) ?_
        refine va_get (pc := 22) (D := D) (ci := 3) (v := .ref (ad 1)) (C := RX3) (T := TX3) (N := 6) hx hb hts hi_X3_eventsTo_0_X3 hown hK hP 0 rfl rfl 0 (by decide) (hts _ hw_X3_eventsTo_0_0) (fun _ h9 => h9) rfl dX3_eventsTo_22 ?_
        refine lv_iload_n (pc := 25) hx hb dX3_eventsTo_25 rfl (lv_at hl 1 rfl) ?_
        refine b_cR (pc := 26) (va_runV (As := [.int (nI g)]) (rest := []) ⟨hx, hb, hml, hown, hts⟩ (c_X0_isUnderWay l D cI cC cZ cG (ad 1) (ad 2) f g (by omega)) (cwV 1 hts gX3_eventsTo_X0_isUnderWay rfl rfl rfl hy_X0_isUnderWay ⟨Nat.le_of_ble_eq_true rfl, Nat.le_of_ble_eq_true rfl⟩) (b_pRV (wc := [((ad 1), .inr (0, [.ref (ad 2)])), ((ad 2), .inl (cI, 86, .inl f))]) hK hP [1, 2] rfl (ci := 0) (q0 := 0) rfl rfl) rfl rfl hl.1 rfl (lv_room (Nat.le_of_ble_eq_true rfl)) dX3_eventsTo_26 ⟨Nat.zero_le _, Nat.zero_le _⟩) ?_
        refine lv_if_eq (pc := 29) (tgt := 43) hx hb dX3_eventsTo_29 (by decide) (fun c_4 => ?_) (fun c_4 => ?_)
        · skip
          have c_4 : ¬ (¬ f (8 + g * 13 + 0) = 0) := b_i_0.mp c_4
          exact absurd h1 c_4
        · skip
          have c_4 : ¬ f (8 + g * 13 + 0) = 0 := Classical.not_not.mp (fun h9 => c_4 (b_i_0.mpr h9))
          refine lv_aload_n (pc := 32) hx hb dX3_eventsTo_32 rfl (lv_at hl 0 rfl) ?_
          refine va_get (pc := 33) (D := D) (ci := 3) (v := .ref (ad 1)) (C := RX3) (T := TX3) (N := 6) hx hb hts hi_X3_eventsTo_0_X3 hown hK hP 0 rfl rfl 0 (by decide) (hts _ hw_X3_eventsTo_0_0) (fun _ h9 => h9) rfl dX3_eventsTo_33 ?_
          refine lv_iload_n (pc := 36) hx hb dX3_eventsTo_36 rfl (lv_at hl 1 rfl) ?_
          refine b_cR (pc := 37) (va_runV (As := [.int (nI g)]) (rest := []) ⟨hx, hb, hml, hown, hts⟩ (c_X0_isSure l D cI cC cZ cG (ad 1) (ad 2) f g (by omega)) (cwV 1 hts gX3_eventsTo_X0_isSure rfl rfl rfl hy_X0_isSure ⟨Nat.le_of_ble_eq_true rfl, Nat.le_of_ble_eq_true rfl⟩) (b_pRV (wc := [((ad 1), .inr (0, [.ref (ad 2)])), ((ad 2), .inl (cI, 86, .inl f))]) hK hP [1, 2] rfl (ci := 0) (q0 := 0) rfl rfl) rfl rfl hl.1 rfl (lv_room (Nat.le_of_ble_eq_true rfl)) dX3_eventsTo_37 ⟨Nat.zero_le _, Nat.zero_le _⟩) ?_
          refine lv_if_ne (pc := 40) (tgt := 46) hx hb dX3_eventsTo_40 (by decide) (fun c_5 => ?_) (fun c_5 => ?_)
          · skip
            have c_5 : ¬ f (8 + g * 13 + 3) = 0 := Classical.not_not.mp (fun h9 => c_5 (b_i_0.mpr h9))
            refine lv_aload_n (pc := 46) hx hb dX3_eventsTo_46 rfl (lv_at hl 0 rfl) ?_
            refine va_get (pc := 47) (D := D) (ci := 3) (v := .ref (ad 1)) (C := RX3) (T := TX3) (N := 6) hx hb hts hi_X3_eventsTo_0_X3 hown hK hP 0 rfl rfl 0 (by decide) (hts _ hw_X3_eventsTo_0_0) (fun _ h9 => h9) rfl dX3_eventsTo_47 ?_
            refine lv_iload_n (pc := 50) hx hb dX3_eventsTo_50 rfl (lv_at hl 1 rfl) ?_
            refine b_cR (pc := 51) (va_runV (As := [.int (nI g)]) (rest := []) ⟨hx, hb, hml, hown, hts⟩ (c_X0_placeOf l D cI cC cZ cG (ad 1) (ad 2) f g (by omega)) (cwV 1 hts gX3_eventsTo_X0_placeOf rfl rfl rfl hy_X0_placeOf ⟨Nat.le_of_ble_eq_true rfl, Nat.le_of_ble_eq_true rfl⟩) (b_pRV (wc := [((ad 1), .inr (0, [.ref (ad 2)])), ((ad 2), .inl (cI, 86, .inl f))]) hK hP [1, 2] rfl (ci := 0) (q0 := 0) rfl rfl) rfl rfl hl.1 rfl (lv_room (Nat.le_of_ble_eq_true rfl)) dX3_eventsTo_51 ⟨Nat.zero_le _, Nat.zero_le _⟩) ?_
            refine lv_istore_n (pc := 54) (lv' := [(3, .int (f (8 + g * 13 + 2))), (0, .ref (ad 0)), (1, .int (nI g)), (2, .int (nI 0))]) hx hb dX3_eventsTo_54 rfl hl (by decide) rfl (fun ls hl => ?_)
            refine lv_iload_n (pc := 55) hx hb dX3_eventsTo_55 rfl (lv_at hl 0 rfl) ?_
            refine va_mabs (pc := 56) hx hb (by rw [hml]; exact hl.1.symm) hown (hts _ hw_X3_eventsTo_0_2) (hts _ hw_X3_eventsTo_0_3) (hts _ hw_X3_eventsTo_0_4) (hts _ hw_X3_eventsTo_0_5) (Nat.le_of_ble_eq_true rfl) (Nat.le_of_ble_eq_true rfl) (Nat.zero_le _) (Nat.zero_le _) dX3_eventsTo_56 ?_
            refine lv_istore (pc := 59) (lv' := [(4, .int (if 0 ≤ (f (8 + g * 13 + 2)) then f (8 + g * 13 + 2) else 0 - (f (8 + g * 13 + 2)))), (3, .int (f (8 + g * 13 + 2))), (0, .ref (ad 0)), (1, .int (nI g)), (2, .int (nI 0))]) hx hb dX3_eventsTo_59 hl (by decide) rfl (fun ls hl => ?_)
            refine lv_iload_n (pc := 61) hx hb dX3_eventsTo_61 rfl (lv_at hl 4 rfl) ?_
            refine lv_iconst (pc := 62) (v := 2) hx hb dX3_eventsTo_62 (by decide) ?_
            refine lv_icmp_ne (pc := 63) (tgt := 69) hx hb dX3_eventsTo_63 (by decide) (fun c_6 => ?_) (fun c_6 => ?_)
            · skip
              have c_6 : ¬ (0 = 2) := fun h9 => c_6 ((nI_eq (a := 0) (b := 2) (by omega) (by omega)).mpr h9)
              refine lv_iload_n (pc := 69) hx hb dX3_eventsTo_69 rfl (lv_at hl 4 rfl) ?_
              refine lv_if_ne (pc := 70) (tgt := 77) hx hb dX3_eventsTo_70 (by decide) (fun c_7 => ?_) (fun c_7 => ?_)
              · skip
                have c_7 : ¬ (0 = 0) := fun h9 => c_7 ((nI_eq (a := 0) (b := 0) (by omega) (by omega)).mpr h9)
                exact absurd c_7 (by decide)
              · skip
                have c_7 : 0 = 0 := (nI_eq (a := 0) (b := 0) (by omega) (by omega)).mp c_7
                refine lv_iconst (pc := 73) (v := 1) hx hb dX3_eventsTo_73 (by decide) ?_
                refine lv_goto (pc := 74) (tgt := 78) hx hb dX3_eventsTo_74 (by decide) ?_
                refine lv_iload_n (pc := 78) hx hb dX3_eventsTo_78 rfl (lv_at hl 1 rfl) ?_
                refine lv_if_le (pc := 79) (tgt := 86) hx hb dX3_eventsTo_79 (by decide) (fun c_8 => ?_) (fun c_8 => ?_)
                · skip
                  have c_8 : (f (8 + g * 13 + 2)) ≤ 0 := c_8
                  refine lv_iconst (pc := 86) (v := 0) hx hb dX3_eventsTo_86 (by decide) ?_
                  refine lv_icmp_ne (pc := 87) (tgt := 94) hx hb dX3_eventsTo_87 (by decide) (fun c_9 => ?_) (fun c_9 => ?_)
                  · skip
                    refine lv_iconst (pc := 94) (v := 0) hx hb dX3_eventsTo_94 (by decide) ?_
                    refine lv_istore (pc := 95) (lv' := [(5, .int 0), (4, .int (if 0 ≤ (f (8 + g * 13 + 2)) then f (8 + g * 13 + 2) else 0 - (f (8 + g * 13 + 2)))), (3, .int (f (8 + g * 13 + 2))), (0, .ref (ad 0)), (1, .int (nI g)), (2, .int (nI 0))]) hx hb dX3_eventsTo_95 hl (by decide) rfl (fun ls hl => ?_)
                    refine lv_iload (pc := 97) hx hb dX3_eventsTo_97 (lv_at hl 0 rfl) ?_
                    refine lv_if_eq (pc := 99) (tgt := 109) hx hb dX3_eventsTo_99 (by decide) (fun c_10 => ?_) (fun c_10 => ?_)
                    · skip
                      refine lv_bipush (pc := 109) (v := (-6)) hx hb dX3_eventsTo_109 (by decide) ?_
                      subst hQ
                      exact b_retR hx hb hr hlocks (by first | rfl | simp only [h_evto, (eq_false (by decide) : ((0 : Nat) = 2) = False), (eq_true rfl : ((0 : Nat) = 0) = True), if_true, if_false, if_pos c_8]) dX3_eventsTo_111
                    · skip
                      exact absurd c_10 (by decide)
                  · skip
                    exact absurd c_9 (by decide)
                · skip
                  have c_8 : ¬ ((f (8 + g * 13 + 2)) ≤ 0) := c_8
                  refine lv_iconst (pc := 82) (v := 1) hx hb dX3_eventsTo_82 (by decide) ?_
                  refine lv_goto (pc := 83) (tgt := 87) hx hb dX3_eventsTo_83 (by decide) ?_
                  refine lv_icmp_ne (pc := 87) (tgt := 94) hx hb dX3_eventsTo_87 (by decide) (fun c_11 => ?_) (fun c_11 => ?_)
                  · skip
                    exact absurd c_11 (by decide)
                  · skip
                    refine lv_iconst (pc := 90) (v := 1) hx hb dX3_eventsTo_90 (by decide) ?_
                    refine lv_goto (pc := 91) (tgt := 95) hx hb dX3_eventsTo_91 (by decide) ?_
                    refine lv_istore (pc := 95) (lv' := [(5, .int 1), (4, .int (if 0 ≤ (f (8 + g * 13 + 2)) then f (8 + g * 13 + 2) else 0 - (f (8 + g * 13 + 2)))), (3, .int (f (8 + g * 13 + 2))), (0, .ref (ad 0)), (1, .int (nI g)), (2, .int (nI 0))]) hx hb dX3_eventsTo_95 hl (by decide) rfl (fun ls hl => ?_)
                    refine lv_iload (pc := 97) hx hb dX3_eventsTo_97 (lv_at hl 0 rfl) ?_
                    refine lv_if_eq (pc := 99) (tgt := 109) hx hb dX3_eventsTo_99 (by decide) (fun c_12 => ?_) (fun c_12 => ?_)
                    · skip
                      exact absurd c_12 (by decide)
                    · skip
                      refine lv_iconst (pc := 102) (v := 4) hx hb dX3_eventsTo_102 (by decide) ?_
                      refine lv_iload (pc := 103) hx hb dX3_eventsTo_103 (lv_at hl 1 rfl) ?_
                      refine lv_isub (pc := 105) hx hb dX3_eventsTo_105 ?_
                      refine lv_goto (pc := 106) (tgt := 111) hx hb dX3_eventsTo_106 (by decide) ?_
                      subst hQ
                      exact b_retR hx hb hr hlocks (by first | rfl | simp only [h_evto, (eq_false (by decide) : ((0 : Nat) = 2) = False), (eq_true rfl : ((0 : Nat) = 0) = True), if_true, if_false, if_neg c_8]) dX3_eventsTo_111
            · skip
              have c_6 : 0 = 2 := (nI_eq (a := 0) (b := 2) (by omega) (by omega)).mp c_6
              exact absurd c_6 (by decide)
          · skip
            have c_5 : ¬ (¬ f (8 + g * 13 + 3) = 0) := b_i_0.mp c_5
            exact absurd h2 c_5
      · skip
        have c_3 : ¬ (0 < 3) := fun h9 => c_3 ((nI_ltI (a := 0) (b := 3) (by omega) (by omega)).mpr h9)
        exact absurd c_3 (by decide)
  · skip
    have c_1 : p_ng (nI g) := Classical.not_not.mp (fun h9 => c_1 (b_i_0.mpr h9))
    exact absurd c_1 (p_ng_no hg)
theorem hw_X3_eventsTo_1_0 : (.fieldLink RX3 10 "BeamTurnstiles" "hall" "LBeamTurnstiles$Hall;" : Cond) ∈ wsX3_eventsTo := by decide +kernel
theorem hi_X3_eventsTo_1_X3 : ∀ w ∈ wsX30, w ∈ wsX3_eventsTo := by decide +kernel
theorem hw_X3_eventsTo_1_2 : (.methodLink RX3 129 Lib.Math.abs.name : Cond) ∈ wsX3_eventsTo := by decide +kernel
theorem hw_X3_eventsTo_1_3 : (.static Lib.Math.abs.name : Cond) ∈ wsX3_eventsTo := by decide +kernel
theorem hw_X3_eventsTo_1_4 : (.initialized "java/lang/Math" : Cond) ∈ wsX3_eventsTo := by decide +kernel
theorem hw_X3_eventsTo_1_5 : (.code Lib.Math.abs.name Lib.Math.abs.code 1 (some .int) : Cond) ∈ wsX3_eventsTo := by decide +kernel
set_option maxHeartbeats 4000000 in
set_option maxRecDepth 100000 in
theorem c_X3_eventsTo_1 (l : Launch) (D : va_G) (cI cC cZ cG : ClassId) (ad : Nat → Nat) (f : Nat → Int32) (f2 : Nat → Int32) (tx : Nat → Int32) (n : Nat) (nx : Nat) (sn : Nat) (R : Nat → Nat → Int32) (SL : Nat → Nat → Int32) (sv : Nat → Int32) (g : Nat) (hn60 : n ≤ 60) (hnx : nx < 6) (hsn : sn ≤ 6) (hg : g < 6) (h1 : ¬ f (8 + g * 13 + 0) = 0) (h2 : ¬ f (8 + g * 13 + 3) = 0) : Met l yX3_eventsTo wsX3_eventsTo ({ frames := 2, cells := 0, slots := 0, locals := 41 } : Room) (b_R D (b_T cI cC cZ cG) [((ad 0), .inr (3, [.ref (ad 1), .ref (ad 3), .ref (ad 5), .ref (ad 7), .ref (ad 15), .ref (ad 18)])), ((ad 1), .inr (0, [.ref (ad 2)])), ((ad 2), .inl (cI, 86, .inl f)), ((ad 3), .inr (0, [.ref (ad 4)])), ((ad 4), .inl (cI, 86, .inl f2)), ((ad 5), .inr (2, [.ref (ad 6), .int (nI n)])), ((ad 6), .inl (cC, 60, .inl tx)), ((ad 7), .inr (1, [.ref (ad 8), .int (nI nx), .int (nI sn)])), ((ad 8), .inl (cG, 6, .inr (.inr (.inr (.inr (fun i => ([(ad 9), (ad 10), (ad 11), (ad 12), (ad 13), (ad 14)] : List Nat)[i]?)))))), ((ad 9), .inl (cI, 86, .inl (R 0))), ((ad 10), .inl (cI, 86, .inl (R 1))), ((ad 11), .inl (cI, 86, .inl (R 2))), ((ad 12), .inl (cI, 86, .inl (R 3))), ((ad 13), .inl (cI, 86, .inl (R 4))), ((ad 14), .inl (cI, 86, .inl (R 5))), ((ad 15), .inl (cG, 2, .inr (.inr (.inr (.inr (fun i => ([(ad 16), (ad 17)] : List Nat)[i]?)))))), ((ad 16), .inl (cI, 86, .inl (SL 0))), ((ad 17), .inl (cI, 86, .inl (SL 1))), ((ad 18), .inl (cZ, 2, .inl sv))] [.ref (ad 0), .int (nI g), .int (nI 1)]) (vp_Si (fun r => r = h_evto f g 1)) 0 0 (fun _ => False) := by
  refine b_enterR (cc := cX3_eventsTo) (maxL := 6) (ret := (some .int)) (by decide) rfl (Nat.le_of_ble_eq_true rfl) ?_
  intro p e s m below meth c ls hx hb hr hml hown hts hlocks hP hK hl Q hQ
  have hown : s.vm.findClass RX3 = some m.cls := hown
  have hl : lv_has ls 6 [(0, .ref (ad 0)), (1, .int (nI g)), (2, .int (nI 1))] := hl
  refine lv_iload_n (pc := 0) hx hb dX3_eventsTo_0 rfl (lv_at hl 1 rfl) ?_
  refine b_cR (pc := 1) (va_runS (As := [.int (nI g)]) (rest := []) ⟨hx, hb, hml, hown, hts⟩ (c_X3_isNoGate l D cI cC cZ cG (nI g)) (va_cwS 1 hts gX3_eventsTo_X3_isNoGate rfl rfl rfl hyS_X3_isNoGate ⟨Nat.le_of_ble_eq_true rfl, Nat.le_of_ble_eq_true rfl⟩) (b_pRS (wc := []) hK hP [] rfl) rfl rfl hl.1 rfl (lv_room (Nat.le_of_ble_eq_true rfl)) dX3_eventsTo_1 ⟨Nat.zero_le _, Nat.zero_le _⟩) ?_
  refine lv_if_eq (pc := 4) (tgt := 9) hx hb dX3_eventsTo_4 (by decide) (fun c_1 => ?_) (fun c_1 => ?_)
  · skip
    have c_1 : ¬ (p_ng (nI g)) := b_i_0.mp c_1
    refine lv_iload_n (pc := 9) hx hb dX3_eventsTo_9 rfl (lv_at hl 2 rfl) ?_
    refine lv_if_lt (pc := 10) (tgt := 18) hx hb dX3_eventsTo_10 (by decide) (fun c_2 => ?_) (fun c_2 => ?_)
    · skip
      have c_2 : 1 < 0 := (nI_ltI (a := 1) (b := 0) (by omega) (by omega)).mp c_2
      exact absurd c_2 (by decide)
    · skip
      have c_2 : ¬ (1 < 0) := fun h9 => c_2 ((nI_ltI (a := 1) (b := 0) (by omega) (by omega)).mpr h9)
      refine lv_iload_n (pc := 13) hx hb dX3_eventsTo_13 rfl (lv_at hl 2 rfl) ?_
      refine lv_iconst (pc := 14) (v := 3) hx hb dX3_eventsTo_14 (by decide) ?_
      refine lv_icmp_lt (pc := 15) (tgt := 21) hx hb dX3_eventsTo_15 (by decide) (fun c_3 => ?_) (fun c_3 => ?_)
      · skip
        have c_3 : 1 < 3 := (nI_ltI (a := 1) (b := 3) (by omega) (by omega)).mp c_3
        refine lv_aload_n (pc := 21) hx hb dX3_eventsTo_21 rfl (lv_at hl 0 rfl) ?_
        refine va_get (pc := 22) (D := D) (ci := 3) (v := .ref (ad 1)) (C := RX3) (T := TX3) (N := 6) hx hb hts hi_X3_eventsTo_1_X3 hown hK hP 0 rfl rfl 0 (by decide) (hts _ hw_X3_eventsTo_1_0) (fun _ h9 => h9) rfl dX3_eventsTo_22 ?_
        refine lv_iload_n (pc := 25) hx hb dX3_eventsTo_25 rfl (lv_at hl 1 rfl) ?_
        refine b_cR (pc := 26) (va_runV (As := [.int (nI g)]) (rest := []) ⟨hx, hb, hml, hown, hts⟩ (c_X0_isUnderWay l D cI cC cZ cG (ad 1) (ad 2) f g (by omega)) (cwV 1 hts gX3_eventsTo_X0_isUnderWay rfl rfl rfl hy_X0_isUnderWay ⟨Nat.le_of_ble_eq_true rfl, Nat.le_of_ble_eq_true rfl⟩) (b_pRV (wc := [((ad 1), .inr (0, [.ref (ad 2)])), ((ad 2), .inl (cI, 86, .inl f))]) hK hP [1, 2] rfl (ci := 0) (q0 := 0) rfl rfl) rfl rfl hl.1 rfl (lv_room (Nat.le_of_ble_eq_true rfl)) dX3_eventsTo_26 ⟨Nat.zero_le _, Nat.zero_le _⟩) ?_
        refine lv_if_eq (pc := 29) (tgt := 43) hx hb dX3_eventsTo_29 (by decide) (fun c_4 => ?_) (fun c_4 => ?_)
        · skip
          have c_4 : ¬ (¬ f (8 + g * 13 + 0) = 0) := b_i_0.mp c_4
          exact absurd h1 c_4
        · skip
          have c_4 : ¬ f (8 + g * 13 + 0) = 0 := Classical.not_not.mp (fun h9 => c_4 (b_i_0.mpr h9))
          refine lv_aload_n (pc := 32) hx hb dX3_eventsTo_32 rfl (lv_at hl 0 rfl) ?_
          refine va_get (pc := 33) (D := D) (ci := 3) (v := .ref (ad 1)) (C := RX3) (T := TX3) (N := 6) hx hb hts hi_X3_eventsTo_1_X3 hown hK hP 0 rfl rfl 0 (by decide) (hts _ hw_X3_eventsTo_1_0) (fun _ h9 => h9) rfl dX3_eventsTo_33 ?_
          refine lv_iload_n (pc := 36) hx hb dX3_eventsTo_36 rfl (lv_at hl 1 rfl) ?_
          refine b_cR (pc := 37) (va_runV (As := [.int (nI g)]) (rest := []) ⟨hx, hb, hml, hown, hts⟩ (c_X0_isSure l D cI cC cZ cG (ad 1) (ad 2) f g (by omega)) (cwV 1 hts gX3_eventsTo_X0_isSure rfl rfl rfl hy_X0_isSure ⟨Nat.le_of_ble_eq_true rfl, Nat.le_of_ble_eq_true rfl⟩) (b_pRV (wc := [((ad 1), .inr (0, [.ref (ad 2)])), ((ad 2), .inl (cI, 86, .inl f))]) hK hP [1, 2] rfl (ci := 0) (q0 := 0) rfl rfl) rfl rfl hl.1 rfl (lv_room (Nat.le_of_ble_eq_true rfl)) dX3_eventsTo_37 ⟨Nat.zero_le _, Nat.zero_le _⟩) ?_
          refine lv_if_ne (pc := 40) (tgt := 46) hx hb dX3_eventsTo_40 (by decide) (fun c_5 => ?_) (fun c_5 => ?_)
          · skip
            have c_5 : ¬ f (8 + g * 13 + 3) = 0 := Classical.not_not.mp (fun h9 => c_5 (b_i_0.mpr h9))
            refine lv_aload_n (pc := 46) hx hb dX3_eventsTo_46 rfl (lv_at hl 0 rfl) ?_
            refine va_get (pc := 47) (D := D) (ci := 3) (v := .ref (ad 1)) (C := RX3) (T := TX3) (N := 6) hx hb hts hi_X3_eventsTo_1_X3 hown hK hP 0 rfl rfl 0 (by decide) (hts _ hw_X3_eventsTo_1_0) (fun _ h9 => h9) rfl dX3_eventsTo_47 ?_
            refine lv_iload_n (pc := 50) hx hb dX3_eventsTo_50 rfl (lv_at hl 1 rfl) ?_
            refine b_cR (pc := 51) (va_runV (As := [.int (nI g)]) (rest := []) ⟨hx, hb, hml, hown, hts⟩ (c_X0_placeOf l D cI cC cZ cG (ad 1) (ad 2) f g (by omega)) (cwV 1 hts gX3_eventsTo_X0_placeOf rfl rfl rfl hy_X0_placeOf ⟨Nat.le_of_ble_eq_true rfl, Nat.le_of_ble_eq_true rfl⟩) (b_pRV (wc := [((ad 1), .inr (0, [.ref (ad 2)])), ((ad 2), .inl (cI, 86, .inl f))]) hK hP [1, 2] rfl (ci := 0) (q0 := 0) rfl rfl) rfl rfl hl.1 rfl (lv_room (Nat.le_of_ble_eq_true rfl)) dX3_eventsTo_51 ⟨Nat.zero_le _, Nat.zero_le _⟩) ?_
            refine lv_istore_n (pc := 54) (lv' := [(3, .int (f (8 + g * 13 + 2))), (0, .ref (ad 0)), (1, .int (nI g)), (2, .int (nI 1))]) hx hb dX3_eventsTo_54 rfl hl (by decide) rfl (fun ls hl => ?_)
            refine lv_iload_n (pc := 55) hx hb dX3_eventsTo_55 rfl (lv_at hl 0 rfl) ?_
            refine va_mabs (pc := 56) hx hb (by rw [hml]; exact hl.1.symm) hown (hts _ hw_X3_eventsTo_1_2) (hts _ hw_X3_eventsTo_1_3) (hts _ hw_X3_eventsTo_1_4) (hts _ hw_X3_eventsTo_1_5) (Nat.le_of_ble_eq_true rfl) (Nat.le_of_ble_eq_true rfl) (Nat.zero_le _) (Nat.zero_le _) dX3_eventsTo_56 ?_
            refine lv_istore (pc := 59) (lv' := [(4, .int (if 0 ≤ (f (8 + g * 13 + 2)) then f (8 + g * 13 + 2) else 0 - (f (8 + g * 13 + 2)))), (3, .int (f (8 + g * 13 + 2))), (0, .ref (ad 0)), (1, .int (nI g)), (2, .int (nI 1))]) hx hb dX3_eventsTo_59 hl (by decide) rfl (fun ls hl => ?_)
            refine lv_iload_n (pc := 61) hx hb dX3_eventsTo_61 rfl (lv_at hl 4 rfl) ?_
            refine lv_iconst (pc := 62) (v := 2) hx hb dX3_eventsTo_62 (by decide) ?_
            refine lv_icmp_ne (pc := 63) (tgt := 69) hx hb dX3_eventsTo_63 (by decide) (fun c_6 => ?_) (fun c_6 => ?_)
            · skip
              have c_6 : ¬ (1 = 2) := fun h9 => c_6 ((nI_eq (a := 1) (b := 2) (by omega) (by omega)).mpr h9)
              refine lv_iload_n (pc := 69) hx hb dX3_eventsTo_69 rfl (lv_at hl 4 rfl) ?_
              refine lv_if_ne (pc := 70) (tgt := 77) hx hb dX3_eventsTo_70 (by decide) (fun c_7 => ?_) (fun c_7 => ?_)
              · skip
                have c_7 : ¬ (1 = 0) := fun h9 => c_7 ((nI_eq (a := 1) (b := 0) (by omega) (by omega)).mpr h9)
                refine lv_iconst (pc := 77) (v := 0) hx hb dX3_eventsTo_77 (by decide) ?_
                refine lv_iload_n (pc := 78) hx hb dX3_eventsTo_78 rfl (lv_at hl 1 rfl) ?_
                refine lv_if_le (pc := 79) (tgt := 86) hx hb dX3_eventsTo_79 (by decide) (fun c_8 => ?_) (fun c_8 => ?_)
                · skip
                  have c_8 : (f (8 + g * 13 + 2)) ≤ 0 := c_8
                  refine lv_iconst (pc := 86) (v := 0) hx hb dX3_eventsTo_86 (by decide) ?_
                  refine lv_icmp_ne (pc := 87) (tgt := 94) hx hb dX3_eventsTo_87 (by decide) (fun c_9 => ?_) (fun c_9 => ?_)
                  · skip
                    exact absurd c_9 (by decide)
                  · skip
                    refine lv_iconst (pc := 90) (v := 1) hx hb dX3_eventsTo_90 (by decide) ?_
                    refine lv_goto (pc := 91) (tgt := 95) hx hb dX3_eventsTo_91 (by decide) ?_
                    refine lv_istore (pc := 95) (lv' := [(5, .int 1), (4, .int (if 0 ≤ (f (8 + g * 13 + 2)) then f (8 + g * 13 + 2) else 0 - (f (8 + g * 13 + 2)))), (3, .int (f (8 + g * 13 + 2))), (0, .ref (ad 0)), (1, .int (nI g)), (2, .int (nI 1))]) hx hb dX3_eventsTo_95 hl (by decide) rfl (fun ls hl => ?_)
                    refine lv_iload (pc := 97) hx hb dX3_eventsTo_97 (lv_at hl 0 rfl) ?_
                    refine lv_if_eq (pc := 99) (tgt := 109) hx hb dX3_eventsTo_99 (by decide) (fun c_10 => ?_) (fun c_10 => ?_)
                    · skip
                      exact absurd c_10 (by decide)
                    · skip
                      refine lv_iconst (pc := 102) (v := 4) hx hb dX3_eventsTo_102 (by decide) ?_
                      refine lv_iload (pc := 103) hx hb dX3_eventsTo_103 (lv_at hl 1 rfl) ?_
                      refine lv_isub (pc := 105) hx hb dX3_eventsTo_105 ?_
                      refine lv_goto (pc := 106) (tgt := 111) hx hb dX3_eventsTo_106 (by decide) ?_
                      subst hQ
                      exact b_retR hx hb hr hlocks (by first | rfl | simp only [h_evto, (eq_false (by decide) : ((1 : Nat) = 2) = False), (eq_false (by decide) : ((1 : Nat) = 0) = False), if_true, if_false, if_pos c_8]) dX3_eventsTo_111
                · skip
                  have c_8 : ¬ ((f (8 + g * 13 + 2)) ≤ 0) := c_8
                  refine lv_iconst (pc := 82) (v := 1) hx hb dX3_eventsTo_82 (by decide) ?_
                  refine lv_goto (pc := 83) (tgt := 87) hx hb dX3_eventsTo_83 (by decide) ?_
                  refine lv_icmp_ne (pc := 87) (tgt := 94) hx hb dX3_eventsTo_87 (by decide) (fun c_11 => ?_) (fun c_11 => ?_)
                  · skip
                    refine lv_iconst (pc := 94) (v := 0) hx hb dX3_eventsTo_94 (by decide) ?_
                    refine lv_istore (pc := 95) (lv' := [(5, .int 0), (4, .int (if 0 ≤ (f (8 + g * 13 + 2)) then f (8 + g * 13 + 2) else 0 - (f (8 + g * 13 + 2)))), (3, .int (f (8 + g * 13 + 2))), (0, .ref (ad 0)), (1, .int (nI g)), (2, .int (nI 1))]) hx hb dX3_eventsTo_95 hl (by decide) rfl (fun ls hl => ?_)
                    refine lv_iload (pc := 97) hx hb dX3_eventsTo_97 (lv_at hl 0 rfl) ?_
                    refine lv_if_eq (pc := 99) (tgt := 109) hx hb dX3_eventsTo_99 (by decide) (fun c_12 => ?_) (fun c_12 => ?_)
                    · skip
                      refine lv_bipush (pc := 109) (v := (-6)) hx hb dX3_eventsTo_109 (by decide) ?_
                      subst hQ
                      exact b_retR hx hb hr hlocks (by first | rfl | simp only [h_evto, (eq_false (by decide) : ((1 : Nat) = 2) = False), (eq_false (by decide) : ((1 : Nat) = 0) = False), if_true, if_false, if_neg c_8]) dX3_eventsTo_111
                    · skip
                      exact absurd c_12 (by decide)
                  · skip
                    exact absurd c_11 (by decide)
              · skip
                have c_7 : 1 = 0 := (nI_eq (a := 1) (b := 0) (by omega) (by omega)).mp c_7
                exact absurd c_7 (by decide)
            · skip
              have c_6 : 1 = 2 := (nI_eq (a := 1) (b := 2) (by omega) (by omega)).mp c_6
              exact absurd c_6 (by decide)
          · skip
            have c_5 : ¬ (¬ f (8 + g * 13 + 3) = 0) := b_i_0.mp c_5
            exact absurd h2 c_5
      · skip
        have c_3 : ¬ (1 < 3) := fun h9 => c_3 ((nI_ltI (a := 1) (b := 3) (by omega) (by omega)).mpr h9)
        exact absurd c_3 (by decide)
  · skip
    have c_1 : p_ng (nI g) := Classical.not_not.mp (fun h9 => c_1 (b_i_0.mpr h9))
    exact absurd c_1 (p_ng_no hg)
theorem hw_X3_eventsTo_2_0 : (.fieldLink RX3 10 "BeamTurnstiles" "hall" "LBeamTurnstiles$Hall;" : Cond) ∈ wsX3_eventsTo := by decide +kernel
theorem hi_X3_eventsTo_2_X3 : ∀ w ∈ wsX30, w ∈ wsX3_eventsTo := by decide +kernel
theorem hw_X3_eventsTo_2_2 : (.methodLink RX3 129 Lib.Math.abs.name : Cond) ∈ wsX3_eventsTo := by decide +kernel
theorem hw_X3_eventsTo_2_3 : (.static Lib.Math.abs.name : Cond) ∈ wsX3_eventsTo := by decide +kernel
theorem hw_X3_eventsTo_2_4 : (.initialized "java/lang/Math" : Cond) ∈ wsX3_eventsTo := by decide +kernel
theorem hw_X3_eventsTo_2_5 : (.code Lib.Math.abs.name Lib.Math.abs.code 1 (some .int) : Cond) ∈ wsX3_eventsTo := by decide +kernel
set_option maxHeartbeats 4000000 in
set_option maxRecDepth 100000 in
theorem c_X3_eventsTo_2 (l : Launch) (D : va_G) (cI cC cZ cG : ClassId) (ad : Nat → Nat) (f : Nat → Int32) (f2 : Nat → Int32) (tx : Nat → Int32) (n : Nat) (nx : Nat) (sn : Nat) (R : Nat → Nat → Int32) (SL : Nat → Nat → Int32) (sv : Nat → Int32) (g : Nat) (hn60 : n ≤ 60) (hnx : nx < 6) (hsn : sn ≤ 6) (hg : g < 6) (h1 : ¬ f (8 + g * 13 + 0) = 0) (h2 : ¬ f (8 + g * 13 + 3) = 0) : Met l yX3_eventsTo wsX3_eventsTo ({ frames := 2, cells := 0, slots := 0, locals := 41 } : Room) (b_R D (b_T cI cC cZ cG) [((ad 0), .inr (3, [.ref (ad 1), .ref (ad 3), .ref (ad 5), .ref (ad 7), .ref (ad 15), .ref (ad 18)])), ((ad 1), .inr (0, [.ref (ad 2)])), ((ad 2), .inl (cI, 86, .inl f)), ((ad 3), .inr (0, [.ref (ad 4)])), ((ad 4), .inl (cI, 86, .inl f2)), ((ad 5), .inr (2, [.ref (ad 6), .int (nI n)])), ((ad 6), .inl (cC, 60, .inl tx)), ((ad 7), .inr (1, [.ref (ad 8), .int (nI nx), .int (nI sn)])), ((ad 8), .inl (cG, 6, .inr (.inr (.inr (.inr (fun i => ([(ad 9), (ad 10), (ad 11), (ad 12), (ad 13), (ad 14)] : List Nat)[i]?)))))), ((ad 9), .inl (cI, 86, .inl (R 0))), ((ad 10), .inl (cI, 86, .inl (R 1))), ((ad 11), .inl (cI, 86, .inl (R 2))), ((ad 12), .inl (cI, 86, .inl (R 3))), ((ad 13), .inl (cI, 86, .inl (R 4))), ((ad 14), .inl (cI, 86, .inl (R 5))), ((ad 15), .inl (cG, 2, .inr (.inr (.inr (.inr (fun i => ([(ad 16), (ad 17)] : List Nat)[i]?)))))), ((ad 16), .inl (cI, 86, .inl (SL 0))), ((ad 17), .inl (cI, 86, .inl (SL 1))), ((ad 18), .inl (cZ, 2, .inl sv))] [.ref (ad 0), .int (nI g), .int (nI 2)]) (vp_Si (fun r => r = h_evto f g 2)) 0 0 (fun _ => False) := by
  refine b_enterR (cc := cX3_eventsTo) (maxL := 6) (ret := (some .int)) (by decide) rfl (Nat.le_of_ble_eq_true rfl) ?_
  intro p e s m below meth c ls hx hb hr hml hown hts hlocks hP hK hl Q hQ
  have hown : s.vm.findClass RX3 = some m.cls := hown
  have hl : lv_has ls 6 [(0, .ref (ad 0)), (1, .int (nI g)), (2, .int (nI 2))] := hl
  refine lv_iload_n (pc := 0) hx hb dX3_eventsTo_0 rfl (lv_at hl 1 rfl) ?_
  refine b_cR (pc := 1) (va_runS (As := [.int (nI g)]) (rest := []) ⟨hx, hb, hml, hown, hts⟩ (c_X3_isNoGate l D cI cC cZ cG (nI g)) (va_cwS 1 hts gX3_eventsTo_X3_isNoGate rfl rfl rfl hyS_X3_isNoGate ⟨Nat.le_of_ble_eq_true rfl, Nat.le_of_ble_eq_true rfl⟩) (b_pRS (wc := []) hK hP [] rfl) rfl rfl hl.1 rfl (lv_room (Nat.le_of_ble_eq_true rfl)) dX3_eventsTo_1 ⟨Nat.zero_le _, Nat.zero_le _⟩) ?_
  refine lv_if_eq (pc := 4) (tgt := 9) hx hb dX3_eventsTo_4 (by decide) (fun c_1 => ?_) (fun c_1 => ?_)
  · skip
    have c_1 : ¬ (p_ng (nI g)) := b_i_0.mp c_1
    refine lv_iload_n (pc := 9) hx hb dX3_eventsTo_9 rfl (lv_at hl 2 rfl) ?_
    refine lv_if_lt (pc := 10) (tgt := 18) hx hb dX3_eventsTo_10 (by decide) (fun c_2 => ?_) (fun c_2 => ?_)
    · skip
      have c_2 : 2 < 0 := (nI_ltI (a := 2) (b := 0) (by omega) (by omega)).mp c_2
      exact absurd c_2 (by decide)
    · skip
      have c_2 : ¬ (2 < 0) := fun h9 => c_2 ((nI_ltI (a := 2) (b := 0) (by omega) (by omega)).mpr h9)
      refine lv_iload_n (pc := 13) hx hb dX3_eventsTo_13 rfl (lv_at hl 2 rfl) ?_
      refine lv_iconst (pc := 14) (v := 3) hx hb dX3_eventsTo_14 (by decide) ?_
      refine lv_icmp_lt (pc := 15) (tgt := 21) hx hb dX3_eventsTo_15 (by decide) (fun c_3 => ?_) (fun c_3 => ?_)
      · skip
        have c_3 : 2 < 3 := (nI_ltI (a := 2) (b := 3) (by omega) (by omega)).mp c_3
        refine lv_aload_n (pc := 21) hx hb dX3_eventsTo_21 rfl (lv_at hl 0 rfl) ?_
        refine va_get (pc := 22) (D := D) (ci := 3) (v := .ref (ad 1)) (C := RX3) (T := TX3) (N := 6) hx hb hts hi_X3_eventsTo_2_X3 hown hK hP 0 rfl rfl 0 (by decide) (hts _ hw_X3_eventsTo_2_0) (fun _ h9 => h9) rfl dX3_eventsTo_22 ?_
        refine lv_iload_n (pc := 25) hx hb dX3_eventsTo_25 rfl (lv_at hl 1 rfl) ?_
        refine b_cR (pc := 26) (va_runV (As := [.int (nI g)]) (rest := []) ⟨hx, hb, hml, hown, hts⟩ (c_X0_isUnderWay l D cI cC cZ cG (ad 1) (ad 2) f g (by omega)) (cwV 1 hts gX3_eventsTo_X0_isUnderWay rfl rfl rfl hy_X0_isUnderWay ⟨Nat.le_of_ble_eq_true rfl, Nat.le_of_ble_eq_true rfl⟩) (b_pRV (wc := [((ad 1), .inr (0, [.ref (ad 2)])), ((ad 2), .inl (cI, 86, .inl f))]) hK hP [1, 2] rfl (ci := 0) (q0 := 0) rfl rfl) rfl rfl hl.1 rfl (lv_room (Nat.le_of_ble_eq_true rfl)) dX3_eventsTo_26 ⟨Nat.zero_le _, Nat.zero_le _⟩) ?_
        refine lv_if_eq (pc := 29) (tgt := 43) hx hb dX3_eventsTo_29 (by decide) (fun c_4 => ?_) (fun c_4 => ?_)
        · skip
          have c_4 : ¬ (¬ f (8 + g * 13 + 0) = 0) := b_i_0.mp c_4
          exact absurd h1 c_4
        · skip
          have c_4 : ¬ f (8 + g * 13 + 0) = 0 := Classical.not_not.mp (fun h9 => c_4 (b_i_0.mpr h9))
          refine lv_aload_n (pc := 32) hx hb dX3_eventsTo_32 rfl (lv_at hl 0 rfl) ?_
          refine va_get (pc := 33) (D := D) (ci := 3) (v := .ref (ad 1)) (C := RX3) (T := TX3) (N := 6) hx hb hts hi_X3_eventsTo_2_X3 hown hK hP 0 rfl rfl 0 (by decide) (hts _ hw_X3_eventsTo_2_0) (fun _ h9 => h9) rfl dX3_eventsTo_33 ?_
          refine lv_iload_n (pc := 36) hx hb dX3_eventsTo_36 rfl (lv_at hl 1 rfl) ?_
          refine b_cR (pc := 37) (va_runV (As := [.int (nI g)]) (rest := []) ⟨hx, hb, hml, hown, hts⟩ (c_X0_isSure l D cI cC cZ cG (ad 1) (ad 2) f g (by omega)) (cwV 1 hts gX3_eventsTo_X0_isSure rfl rfl rfl hy_X0_isSure ⟨Nat.le_of_ble_eq_true rfl, Nat.le_of_ble_eq_true rfl⟩) (b_pRV (wc := [((ad 1), .inr (0, [.ref (ad 2)])), ((ad 2), .inl (cI, 86, .inl f))]) hK hP [1, 2] rfl (ci := 0) (q0 := 0) rfl rfl) rfl rfl hl.1 rfl (lv_room (Nat.le_of_ble_eq_true rfl)) dX3_eventsTo_37 ⟨Nat.zero_le _, Nat.zero_le _⟩) ?_
          refine lv_if_ne (pc := 40) (tgt := 46) hx hb dX3_eventsTo_40 (by decide) (fun c_5 => ?_) (fun c_5 => ?_)
          · skip
            have c_5 : ¬ f (8 + g * 13 + 3) = 0 := Classical.not_not.mp (fun h9 => c_5 (b_i_0.mpr h9))
            refine lv_aload_n (pc := 46) hx hb dX3_eventsTo_46 rfl (lv_at hl 0 rfl) ?_
            refine va_get (pc := 47) (D := D) (ci := 3) (v := .ref (ad 1)) (C := RX3) (T := TX3) (N := 6) hx hb hts hi_X3_eventsTo_2_X3 hown hK hP 0 rfl rfl 0 (by decide) (hts _ hw_X3_eventsTo_2_0) (fun _ h9 => h9) rfl dX3_eventsTo_47 ?_
            refine lv_iload_n (pc := 50) hx hb dX3_eventsTo_50 rfl (lv_at hl 1 rfl) ?_
            refine b_cR (pc := 51) (va_runV (As := [.int (nI g)]) (rest := []) ⟨hx, hb, hml, hown, hts⟩ (c_X0_placeOf l D cI cC cZ cG (ad 1) (ad 2) f g (by omega)) (cwV 1 hts gX3_eventsTo_X0_placeOf rfl rfl rfl hy_X0_placeOf ⟨Nat.le_of_ble_eq_true rfl, Nat.le_of_ble_eq_true rfl⟩) (b_pRV (wc := [((ad 1), .inr (0, [.ref (ad 2)])), ((ad 2), .inl (cI, 86, .inl f))]) hK hP [1, 2] rfl (ci := 0) (q0 := 0) rfl rfl) rfl rfl hl.1 rfl (lv_room (Nat.le_of_ble_eq_true rfl)) dX3_eventsTo_51 ⟨Nat.zero_le _, Nat.zero_le _⟩) ?_
            refine lv_istore_n (pc := 54) (lv' := [(3, .int (f (8 + g * 13 + 2))), (0, .ref (ad 0)), (1, .int (nI g)), (2, .int (nI 2))]) hx hb dX3_eventsTo_54 rfl hl (by decide) rfl (fun ls hl => ?_)
            refine lv_iload_n (pc := 55) hx hb dX3_eventsTo_55 rfl (lv_at hl 0 rfl) ?_
            refine va_mabs (pc := 56) hx hb (by rw [hml]; exact hl.1.symm) hown (hts _ hw_X3_eventsTo_2_2) (hts _ hw_X3_eventsTo_2_3) (hts _ hw_X3_eventsTo_2_4) (hts _ hw_X3_eventsTo_2_5) (Nat.le_of_ble_eq_true rfl) (Nat.le_of_ble_eq_true rfl) (Nat.zero_le _) (Nat.zero_le _) dX3_eventsTo_56 ?_
            refine lv_istore (pc := 59) (lv' := [(4, .int (if 0 ≤ (f (8 + g * 13 + 2)) then f (8 + g * 13 + 2) else 0 - (f (8 + g * 13 + 2)))), (3, .int (f (8 + g * 13 + 2))), (0, .ref (ad 0)), (1, .int (nI g)), (2, .int (nI 2))]) hx hb dX3_eventsTo_59 hl (by decide) rfl (fun ls hl => ?_)
            refine lv_iload_n (pc := 61) hx hb dX3_eventsTo_61 rfl (lv_at hl 4 rfl) ?_
            refine lv_iconst (pc := 62) (v := 2) hx hb dX3_eventsTo_62 (by decide) ?_
            refine lv_icmp_ne (pc := 63) (tgt := 69) hx hb dX3_eventsTo_63 (by decide) (fun c_6 => ?_) (fun c_6 => ?_)
            · skip
              have c_6 : ¬ (2 = 2) := fun h9 => c_6 ((nI_eq (a := 2) (b := 2) (by omega) (by omega)).mpr h9)
              exact absurd c_6 (by decide)
            · skip
              have c_6 : 2 = 2 := (nI_eq (a := 2) (b := 2) (by omega) (by omega)).mp c_6
              refine lv_iload (pc := 66) hx hb dX3_eventsTo_66 (lv_at hl 0 rfl) ?_
              subst hQ
              exact b_retR hx hb hr hlocks (by first | rfl | simp only [h_evto, (eq_true rfl : ((2 : Nat) = 2) = True), if_true, if_false]) dX3_eventsTo_68
          · skip
            have c_5 : ¬ (¬ f (8 + g * 13 + 3) = 0) := b_i_0.mp c_5
            exact absurd h2 c_5
      · skip
        have c_3 : ¬ (2 < 3) := fun h9 => c_3 ((nI_ltI (a := 2) (b := 3) (by omega) (by omega)).mpr h9)
        exact absurd c_3 (by decide)
  · skip
    have c_1 : p_ng (nI g) := Classical.not_not.mp (fun h9 => c_1 (b_i_0.mpr h9))
    exact absurd c_1 (p_ng_no hg)
theorem hw_X3_untilBlocked_0 : (.fieldLink RX3 10 "BeamTurnstiles" "hall" "LBeamTurnstiles$Hall;" : Cond) ∈ wsX3_untilBlocked := by decide +kernel
theorem hi_X3_untilBlocked_X3 : ∀ w ∈ wsX30, w ∈ wsX3_untilBlocked := by decide +kernel
theorem hw_X3_untilBlocked_2 : (.fieldLink RX3 49 "BeamTurnstiles$Hall" "row" "[I" : Cond) ∈ wsX3_untilBlocked := by decide +kernel
theorem hi_X3_untilBlocked_X0 : ∀ w ∈ wsX00, w ∈ wsX3_untilBlocked := by decide +kernel
set_option maxHeartbeats 4000000 in
set_option maxRecDepth 100000 in
theorem c_X3_untilBlocked (l : Launch) (D : va_G) (cI cC cZ cG : ClassId) (ad : Nat → Nat) (f : Nat → Int32) (f2 : Nat → Int32) (tx : Nat → Int32) (n : Nat) (nx : Nat) (sn : Nat) (R : Nat → Nat → Int32) (SL : Nat → Nat → Int32) (sv : Nat → Int32) (hn60 : n ≤ 60) (hnx : nx < 6) (hsn : sn ≤ 6) : Met l yX3_untilBlocked wsX3_untilBlocked ({ frames := 3, cells := 0, slots := 0, locals := 62 } : Room) (b_R D (b_T cI cC cZ cG) [((ad 0), .inr (3, [.ref (ad 1), .ref (ad 3), .ref (ad 5), .ref (ad 7), .ref (ad 15), .ref (ad 18)])), ((ad 1), .inr (0, [.ref (ad 2)])), ((ad 2), .inl (cI, 86, .inl f)), ((ad 3), .inr (0, [.ref (ad 4)])), ((ad 4), .inl (cI, 86, .inl f2)), ((ad 5), .inr (2, [.ref (ad 6), .int (nI n)])), ((ad 6), .inl (cC, 60, .inl tx)), ((ad 7), .inr (1, [.ref (ad 8), .int (nI nx), .int (nI sn)])), ((ad 8), .inl (cG, 6, .inr (.inr (.inr (.inr (fun i => ([(ad 9), (ad 10), (ad 11), (ad 12), (ad 13), (ad 14)] : List Nat)[i]?)))))), ((ad 9), .inl (cI, 86, .inl (R 0))), ((ad 10), .inl (cI, 86, .inl (R 1))), ((ad 11), .inl (cI, 86, .inl (R 2))), ((ad 12), .inl (cI, 86, .inl (R 3))), ((ad 13), .inl (cI, 86, .inl (R 4))), ((ad 14), .inl (cI, 86, .inl (R 5))), ((ad 15), .inl (cG, 2, .inr (.inr (.inr (.inr (fun i => ([(ad 16), (ad 17)] : List Nat)[i]?)))))), ((ad 16), .inl (cI, 86, .inl (SL 0))), ((ad 17), .inl (cI, 86, .inl (SL 1))), ((ad 18), .inl (cZ, 2, .inl sv))] [.ref (ad 0)]) (vp_Si (fun r => r = h_ub f 6)) 0 0 (fun _ => False) := by
  refine b_enterR (cc := cX3_untilBlocked) (maxL := 4) (ret := (some .int)) (by decide) rfl (Nat.le_of_ble_eq_true rfl) ?_
  intro p e s m below meth c ls hx hb hr hml hown hts hlocks hP hK hl Q hQ
  have hown : s.vm.findClass RX3 = some m.cls := hown
  have hl : lv_has ls 4 [(0, .ref (ad 0))] := hl
  refine lv_bipush (pc := 0) (v := (-6)) hx hb dX3_untilBlocked_0 (by decide) ?_
  refine lv_istore_n (pc := 2) (lv' := [(1, .int (-6)), (0, .ref (ad 0))]) hx hb dX3_untilBlocked_2 rfl hl (by decide) rfl (fun ls hl => ?_)
  refine lv_iconst (pc := 3) (v := 0) hx hb dX3_untilBlocked_3 (by decide) ?_
  refine lv_istore_n (pc := 4) (lv' := [(2, .int 0), (1, .int (-6)), (0, .ref (ad 0))]) hx hb dX3_untilBlocked_4 rfl hl (by decide) rfl (fun ls hl => ?_)
  have loop_5 : ∀ (fu : Nat) (i : Nat) (mk : Int32), (i ≤ 6) → (mk = h_ub f i) → 6 - i < fu → ∀ (ls : Array Slot), lv_has ls 4 [(2, .int (nI i)), (1, .int mk), (0, .ref (ad 0))] → W p l e ({ frames := 3, cells := 0, slots := 0, locals := 62 } : Room) s m ([.ref (ad 0)] : List Value).toArray below meth c s.heap [] 0 0 Q (F0 m 5 ls []) := by
    intro fu
    induction fu with
    | zero => intro i mk hi hm hn ls hl; exact absurd hn (Nat.not_lt_zero _)
    | succ fu ih_5 =>
      intro i mk hi hm hn ls hl
      refine lv_iload_n (pc := 5) hx hb dX3_untilBlocked_5 rfl (lv_at hl 0 rfl) ?_
      refine lv_bipush (pc := 6) (v := 6) hx hb dX3_untilBlocked_6 (by decide) ?_
      refine lv_icmp_ge (pc := 8) (tgt := 71) hx hb dX3_untilBlocked_8 (by decide) (fun c_1 => ?_) (fun c_1 => ?_)
      · skip
        have c_1 : 6 ≤ i := (nI_leI (a := 6) (b := i) (by omega) (by omega)).mp c_1
        refine lv_iload_n (pc := 71) hx hb dX3_untilBlocked_71 rfl (lv_at hl 1 rfl) ?_
        subst hQ
        exact b_retR hx hb hr hlocks (by have e9 : i = 6 := (by omega); rw [hm, e9]) dX3_untilBlocked_72
      · skip
        have c_1 : ¬ (6 ≤ i) := fun h9 => c_1 ((nI_leI (a := 6) (b := i) (by omega) (by omega)).mpr h9)
        refine lv_aload_n (pc := 11) hx hb dX3_untilBlocked_11 rfl (lv_at hl 2 rfl) ?_
        refine va_get (pc := 12) (D := D) (ci := 3) (v := .ref (ad 1)) (C := RX3) (T := TX3) (N := 6) hx hb hts hi_X3_untilBlocked_X3 hown hK hP 0 rfl rfl 0 (by decide) (hts _ hw_X3_untilBlocked_0) (fun _ h9 => h9) rfl dX3_untilBlocked_12 ?_
        refine lv_iload_n (pc := 15) hx hb dX3_untilBlocked_15 rfl (lv_at hl 0 rfl) ?_
        refine b_cR (pc := 16) (va_runV (As := [.int (nI i)]) (rest := []) ⟨hx, hb, hml, hown, hts⟩ (c_X0_isUnderWay l D cI cC cZ cG (ad 1) (ad 2) f i (by omega)) (cwV 1 hts gX3_untilBlocked_X0_isUnderWay rfl rfl rfl hy_X0_isUnderWay ⟨Nat.le_of_ble_eq_true rfl, Nat.le_of_ble_eq_true rfl⟩) (b_pRV (wc := [((ad 1), .inr (0, [.ref (ad 2)])), ((ad 2), .inl (cI, 86, .inl f))]) hK hP [1, 2] rfl (ci := 0) (q0 := 0) rfl rfl) rfl rfl hl.1 rfl (lv_room (Nat.le_of_ble_eq_true rfl)) dX3_untilBlocked_16 ⟨Nat.zero_le _, Nat.zero_le _⟩) ?_
        refine lv_if_eq (pc := 19) (tgt := 65) hx hb dX3_untilBlocked_19 (by decide) (fun c_2 => ?_) (fun c_2 => ?_)
        · skip
          have c_2 : ¬ (¬ f (8 + i * 13 + 0) = 0) := b_i_0.mp c_2
          refine lv_iinc (pc := 65) (v := nI (i + 1)) (lv' := [(2, .int (nI (i + 1))), (1, .int mk), (0, .ref (ad 0))]) hx hb dX3_untilBlocked_65 hl (k := 0) rfl (nI_add i 1) (by decide) rfl (fun ls hl => ?_)
          refine lv_goto (pc := 68) (tgt := 5) hx hb dX3_untilBlocked_68 (by decide) ?_
          exact ih_5 (i + 1) mk (by omega) (by simp only [h_ub, hm, if_neg c_2]) (by omega) ls (lv_sub hl [0, 1, 2] rfl)
        · skip
          have c_2 : ¬ f (8 + i * 13 + 0) = 0 := Classical.not_not.mp (fun h9 => c_2 (b_i_0.mpr h9))
          refine lv_aload_n (pc := 22) hx hb dX3_untilBlocked_22 rfl (lv_at hl 2 rfl) ?_
          refine va_get (pc := 23) (D := D) (ci := 3) (v := .ref (ad 1)) (C := RX3) (T := TX3) (N := 6) hx hb hts hi_X3_untilBlocked_X3 hown hK hP 0 rfl rfl 0 (by decide) (hts _ hw_X3_untilBlocked_0) (fun _ h9 => h9) rfl dX3_untilBlocked_23 ?_
          refine lv_iload_n (pc := 26) hx hb dX3_untilBlocked_26 rfl (lv_at hl 0 rfl) ?_
          refine b_cR (pc := 27) (va_runV (As := [.int (nI i)]) (rest := []) ⟨hx, hb, hml, hown, hts⟩ (c_X0_isBlocked l D cI cC cZ cG (ad 1) (ad 2) f i (by omega)) (cwV 1 hts gX3_untilBlocked_X0_isBlocked rfl rfl rfl hy_X0_isBlocked ⟨Nat.le_of_ble_eq_true rfl, Nat.le_of_ble_eq_true rfl⟩) (b_pRV (wc := [((ad 1), .inr (0, [.ref (ad 2)])), ((ad 2), .inl (cI, 86, .inl f))]) hK hP [1, 2] rfl (ci := 0) (q0 := 0) rfl rfl) rfl rfl hl.1 rfl (lv_room (Nat.le_of_ble_eq_true rfl)) dX3_untilBlocked_27 ⟨Nat.zero_le _, Nat.zero_le _⟩) ?_
          refine lv_if_ne (pc := 30) (tgt := 65) hx hb dX3_untilBlocked_30 (by decide) (fun c_3 => ?_) (fun c_3 => ?_)
          · skip
            have c_3 : h_blk f i := Classical.not_not.mp (fun h9 => c_3 (b_i_0.mpr h9))
            refine lv_iinc (pc := 65) (v := nI (i + 1)) (lv' := [(2, .int (nI (i + 1))), (1, .int mk), (0, .ref (ad 0))]) hx hb dX3_untilBlocked_65 hl (k := 0) rfl (nI_add i 1) (by decide) rfl (fun ls hl => ?_)
            refine lv_goto (pc := 68) (tgt := 5) hx hb dX3_untilBlocked_68 (by decide) ?_
            exact ih_5 (i + 1) mk (by omega) (by simp only [h_ub, hm, if_pos c_2, if_pos c_3]) (by omega) ls (lv_sub hl [0, 1, 2] rfl)
          · skip
            have c_3 : ¬ (h_blk f i) := b_i_0.mp c_3
            refine lv_aload_n (pc := 33) hx hb dX3_untilBlocked_33 rfl (lv_at hl 2 rfl) ?_
            refine va_get (pc := 34) (D := D) (ci := 3) (v := .ref (ad 1)) (C := RX3) (T := TX3) (N := 6) hx hb hts hi_X3_untilBlocked_X3 hown hK hP 0 rfl rfl 0 (by decide) (hts _ hw_X3_untilBlocked_0) (fun _ h9 => h9) rfl dX3_untilBlocked_34 ?_
            refine va_get (pc := 37) (D := D) (ci := 0) (v := .ref (ad 2)) (C := RX0) (T := TX0) (N := 1) hx hb hts hi_X3_untilBlocked_X0 hown hK hP 1 rfl rfl 0 (by decide) (hts _ hw_X3_untilBlocked_2) (fun _ h9 => h9) rfl dX3_untilBlocked_37 ?_
            refine lv_iconst (pc := 40) (v := 0) hx hb dX3_untilBlocked_40 (by decide) ?_
            refine b_iald (pc := 41) hx hb hK hP 2 0 rfl rfl 0 rfl (by omega) (by decide) dX3_untilBlocked_41 ?_
            refine lv_aload_n (pc := 42) hx hb dX3_untilBlocked_42 rfl (lv_at hl 2 rfl) ?_
            refine va_get (pc := 43) (D := D) (ci := 3) (v := .ref (ad 1)) (C := RX3) (T := TX3) (N := 6) hx hb hts hi_X3_untilBlocked_X3 hown hK hP 0 rfl rfl 0 (by decide) (hts _ hw_X3_untilBlocked_0) (fun _ h9 => h9) rfl dX3_untilBlocked_43 ?_
            refine lv_iload_n (pc := 46) hx hb dX3_untilBlocked_46 rfl (lv_at hl 0 rfl) ?_
            refine b_cR (pc := 47) (va_runV (As := [.int (nI i)]) (rest := [.int (f 0)]) ⟨hx, hb, hml, hown, hts⟩ (c_X0_ticksUnderWay l D cI cC cZ cG (ad 1) (ad 2) f i (by omega)) (cwV 1 hts gX3_untilBlocked_X0_ticksUnderWay rfl rfl rfl hy_X0_ticksUnderWay ⟨Nat.le_of_ble_eq_true rfl, Nat.le_of_ble_eq_true rfl⟩) (b_pRV (wc := [((ad 1), .inr (0, [.ref (ad 2)])), ((ad 2), .inl (cI, 86, .inl f))]) hK hP [1, 2] rfl (ci := 0) (q0 := 0) rfl rfl) rfl rfl hl.1 rfl (lv_room (Nat.le_of_ble_eq_true rfl)) dX3_untilBlocked_47 ⟨Nat.zero_le _, Nat.zero_le _⟩) ?_
            refine lv_isub (pc := 50) hx hb dX3_untilBlocked_50 ?_
            refine lv_istore_n (pc := 51) (lv' := [(3, .int ((f 0) - (f 3 - f (8 + i * 13 + 1)))), (2, .int (nI i)), (1, .int mk), (0, .ref (ad 0))]) hx hb dX3_untilBlocked_51 rfl hl (by decide) rfl (fun ls hl => ?_)
            refine lv_iload_n (pc := 52) hx hb dX3_untilBlocked_52 rfl (lv_at hl 2 rfl) ?_
            refine lv_bipush (pc := 53) (v := (-6)) hx hb dX3_untilBlocked_53 (by decide) ?_
            refine lv_icmp_eq (pc := 55) (tgt := 63) hx hb dX3_untilBlocked_55 (by decide) (fun c_4 => ?_) (fun c_4 => ?_)
            · skip
              have c_4 : mk = (-6) := c_4
              refine lv_iload_n (pc := 63) hx hb dX3_untilBlocked_63 rfl (lv_at hl 0 rfl) ?_
              refine lv_istore_n (pc := 64) (lv' := [(1, .int ((f 0) - (f 3 - f (8 + i * 13 + 1)))), (3, .int ((f 0) - (f 3 - f (8 + i * 13 + 1)))), (2, .int (nI i)), (0, .ref (ad 0))]) hx hb dX3_untilBlocked_64 rfl hl (by decide) rfl (fun ls hl => ?_)
              refine lv_iinc (pc := 65) (v := nI (i + 1)) (lv' := [(2, .int (nI (i + 1))), (1, .int ((f 0) - (f 3 - f (8 + i * 13 + 1)))), (3, .int ((f 0) - (f 3 - f (8 + i * 13 + 1)))), (0, .ref (ad 0))]) hx hb dX3_untilBlocked_65 hl (k := 2) rfl (nI_add i 1) (by decide) rfl (fun ls hl => ?_)
              refine lv_goto (pc := 68) (tgt := 5) hx hb dX3_untilBlocked_68 (by decide) ?_
              exact ih_5 (i + 1) ((f 0) - (f 3 - f (8 + i * 13 + 1))) (by omega) (by simp only [h_ub, hm, if_pos c_2, if_neg c_3, if_pos (hm ▸ c_4)]) (by omega) ls (lv_sub hl [0, 1, 3] rfl)
            · skip
              have c_4 : ¬ (mk = (-6)) := c_4
              refine lv_iload_n (pc := 58) hx hb dX3_untilBlocked_58 rfl (lv_at hl 0 rfl) ?_
              refine lv_iload_n (pc := 59) hx hb dX3_untilBlocked_59 rfl (lv_at hl 2 rfl) ?_
              refine lv_icmp_ge (pc := 60) (tgt := 65) hx hb dX3_untilBlocked_60 (by decide) (fun c_5 => ?_) (fun c_5 => ?_)
              · skip
                have c_5 : mk ≤ ((f 0) - (f 3 - f (8 + i * 13 + 1))) := c_5
                refine lv_iinc (pc := 65) (v := nI (i + 1)) (lv' := [(2, .int (nI (i + 1))), (3, .int ((f 0) - (f 3 - f (8 + i * 13 + 1)))), (1, .int mk), (0, .ref (ad 0))]) hx hb dX3_untilBlocked_65 hl (k := 1) rfl (nI_add i 1) (by decide) rfl (fun ls hl => ?_)
                refine lv_goto (pc := 68) (tgt := 5) hx hb dX3_untilBlocked_68 (by decide) ?_
                exact ih_5 (i + 1) mk (by omega) (by simp only [h_ub, hm, if_pos c_2, if_neg c_3, if_neg (hm ▸ c_4), if_pos (hm ▸ c_5)]) (by omega) ls (lv_sub hl [0, 2, 3] rfl)
              · skip
                have c_5 : ¬ (mk ≤ ((f 0) - (f 3 - f (8 + i * 13 + 1)))) := c_5
                refine lv_iload_n (pc := 63) hx hb dX3_untilBlocked_63 rfl (lv_at hl 0 rfl) ?_
                refine lv_istore_n (pc := 64) (lv' := [(1, .int ((f 0) - (f 3 - f (8 + i * 13 + 1)))), (3, .int ((f 0) - (f 3 - f (8 + i * 13 + 1)))), (2, .int (nI i)), (0, .ref (ad 0))]) hx hb dX3_untilBlocked_64 rfl hl (by decide) rfl (fun ls hl => ?_)
                refine lv_iinc (pc := 65) (v := nI (i + 1)) (lv' := [(2, .int (nI (i + 1))), (1, .int ((f 0) - (f 3 - f (8 + i * 13 + 1)))), (3, .int ((f 0) - (f 3 - f (8 + i * 13 + 1)))), (0, .ref (ad 0))]) hx hb dX3_untilBlocked_65 hl (k := 2) rfl (nI_add i 1) (by decide) rfl (fun ls hl => ?_)
                refine lv_goto (pc := 68) (tgt := 5) hx hb dX3_untilBlocked_68 (by decide) ?_
                exact ih_5 (i + 1) ((f 0) - (f 3 - f (8 + i * 13 + 1))) (by omega) (by simp only [h_ub, hm, if_pos c_2, if_neg c_3, if_neg (hm ▸ c_4), if_neg (hm ▸ c_5)]) (by omega) ls (lv_sub hl [0, 1, 3] rfl)
  exact loop_5 7 0 (-6) (Nat.zero_le _) rfl (by omega) ls (lv_sub hl [0, 1, 2] rfl)
set_option maxHeartbeats 4000000 in
set_option maxRecDepth 100000 in
theorem c_X3_put_bad (l : Launch) (D : va_G) (cI cC cZ cG : ClassId) (ad : Nat → Nat) (f : Nat → Int32) (f2 : Nat → Int32) (tx : Nat → Int32) (n : Nat) (nx : Nat) (sn : Nat) (R : Nat → Nat → Int32) (SL : Nat → Nat → Int32) (sv : Nat → Int32) (z : Int64) (hn60 : n ≤ 60) (hnx : nx < 6) (hsn : sn ≤ 6) (hbad : ¬ 1 ≤ p_num z 8 0) : Met l yX3_put wsX3_put ({ frames := 1, cells := 0, slots := 0, locals := 25 } : Room) (b_R D (b_T cI cC cZ cG) [((ad 0), .inr (3, [.ref (ad 1), .ref (ad 3), .ref (ad 5), .ref (ad 7), .ref (ad 15), .ref (ad 18)])), ((ad 1), .inr (0, [.ref (ad 2)])), ((ad 2), .inl (cI, 86, .inl f)), ((ad 3), .inr (0, [.ref (ad 4)])), ((ad 4), .inl (cI, 86, .inl f2)), ((ad 5), .inr (2, [.ref (ad 6), .int (nI n)])), ((ad 6), .inl (cC, 60, .inl tx)), ((ad 7), .inr (1, [.ref (ad 8), .int (nI nx), .int (nI sn)])), ((ad 8), .inl (cG, 6, .inr (.inr (.inr (.inr (fun i => ([(ad 9), (ad 10), (ad 11), (ad 12), (ad 13), (ad 14)] : List Nat)[i]?)))))), ((ad 9), .inl (cI, 86, .inl (R 0))), ((ad 10), .inl (cI, 86, .inl (R 1))), ((ad 11), .inl (cI, 86, .inl (R 2))), ((ad 12), .inl (cI, 86, .inl (R 3))), ((ad 13), .inl (cI, 86, .inl (R 4))), ((ad 14), .inl (cI, 86, .inl (R 5))), ((ad 15), .inl (cG, 2, .inr (.inr (.inr (.inr (fun i => ([(ad 16), (ad 17)] : List Nat)[i]?)))))), ((ad 16), .inl (cI, 86, .inl (SL 0))), ((ad 17), .inl (cI, 86, .inl (SL 1))), ((ad 18), .inl (cZ, 2, .inl sv))] [.ref (ad 0), .long z]) (vp_Si (fun r => r = -2)) 0 0 (fun _ => False) := by
  refine b_enterR (cc := cX3_put) (maxL := 4) (ret := (some .int)) (by decide) rfl (Nat.le_of_ble_eq_true rfl) ?_
  intro p e s m below meth c ls hx hb hr hml hown hts hlocks hP hK hl Q hQ
  have hown : s.vm.findClass RX3 = some m.cls := hown
  have hl : lv_has ls 4 [(0, .ref (ad 0)), (1, .long z)] := hl
  refine lv_lload_n (pc := 0) hx hb dX3_put_0 rfl (lv_at hl 1 rfl) ?_
  refine b_cR (pc := 1) (va_runS (As := [.long z]) (rest := []) ⟨hx, hb, hml, hown, hts⟩ (c_X2_numberOf l D cI cC cZ cG z) (va_cwS 1 hts gX3_put_X2_numberOf rfl rfl rfl hyS_X2_numberOf ⟨Nat.le_of_ble_eq_true rfl, Nat.le_of_ble_eq_true rfl⟩) (b_pRS (wc := []) hK hP [] rfl) rfl rfl hl.1 rfl (lv_room (Nat.le_of_ble_eq_true rfl)) dX3_put_1 ⟨Nat.zero_le _, Nat.zero_le _⟩) ?_
  refine lv_istore_n (pc := 4) (lv' := [(3, .int (p_num z 8 0)), (0, .ref (ad 0)), (1, .long z)]) hx hb dX3_put_4 rfl hl (by decide) rfl (fun ls hl => ?_)
  refine lv_iload_n (pc := 5) hx hb dX3_put_5 rfl (lv_at hl 0 rfl) ?_
  refine lv_iconst (pc := 6) (v := 1) hx hb dX3_put_6 (by decide) ?_
  refine lv_icmp_ge (pc := 7) (tgt := 13) hx hb dX3_put_7 (by decide) (fun c_1 => ?_) (fun c_1 => ?_)
  · skip
    have c_1 : 1 ≤ (p_num z 8 0) := c_1
    exact absurd c_1 hbad
  · skip
    have c_1 : ¬ (1 ≤ (p_num z 8 0)) := c_1
    refine lv_bipush (pc := 10) (v := (-2)) hx hb dX3_put_10 (by decide) ?_
    subst hQ
    exact b_retR hx hb hr hlocks (rfl) dX3_put_12
theorem hw_X3_put_many_0 : (.fieldLink RX3 22 "BeamTurnstiles" "pad" "LBeamTurnstiles$Pad;" : Cond) ∈ wsX3_put := by decide +kernel
theorem hi_X3_put_many_X3 : ∀ w ∈ wsX30, w ∈ wsX3_put := by decide +kernel
set_option maxHeartbeats 4000000 in
set_option maxRecDepth 100000 in
theorem c_X3_put_many (l : Launch) (D : va_G) (cI cC cZ cG : ClassId) (ad : Nat → Nat) (f : Nat → Int32) (f2 : Nat → Int32) (tx : Nat → Int32) (n : Nat) (nx : Nat) (sn : Nat) (R : Nat → Nat → Int32) (SL : Nat → Nat → Int32) (sv : Nat → Int32) (z : Int64) (k : Nat) (hn60 : n ≤ 60) (hnx : nx < 6) (hsn : sn ≤ 6) (hk : p_num z 8 0 = nI k) (hk1 : 1 ≤ k ∧ k ≤ 8) (h6 : 60 < n + k) : Met l yX3_put wsX3_put ({ frames := 1, cells := 0, slots := 0, locals := 25 } : Room) (b_R D (b_T cI cC cZ cG) [((ad 0), .inr (3, [.ref (ad 1), .ref (ad 3), .ref (ad 5), .ref (ad 7), .ref (ad 15), .ref (ad 18)])), ((ad 1), .inr (0, [.ref (ad 2)])), ((ad 2), .inl (cI, 86, .inl f)), ((ad 3), .inr (0, [.ref (ad 4)])), ((ad 4), .inl (cI, 86, .inl f2)), ((ad 5), .inr (2, [.ref (ad 6), .int (nI n)])), ((ad 6), .inl (cC, 60, .inl tx)), ((ad 7), .inr (1, [.ref (ad 8), .int (nI nx), .int (nI sn)])), ((ad 8), .inl (cG, 6, .inr (.inr (.inr (.inr (fun i => ([(ad 9), (ad 10), (ad 11), (ad 12), (ad 13), (ad 14)] : List Nat)[i]?)))))), ((ad 9), .inl (cI, 86, .inl (R 0))), ((ad 10), .inl (cI, 86, .inl (R 1))), ((ad 11), .inl (cI, 86, .inl (R 2))), ((ad 12), .inl (cI, 86, .inl (R 3))), ((ad 13), .inl (cI, 86, .inl (R 4))), ((ad 14), .inl (cI, 86, .inl (R 5))), ((ad 15), .inl (cG, 2, .inr (.inr (.inr (.inr (fun i => ([(ad 16), (ad 17)] : List Nat)[i]?)))))), ((ad 16), .inl (cI, 86, .inl (SL 0))), ((ad 17), .inl (cI, 86, .inl (SL 1))), ((ad 18), .inl (cZ, 2, .inl sv))] [.ref (ad 0), .long z]) (vp_Si (fun r => r = -4)) 0 0 (fun _ => False) := by
  refine b_enterR (cc := cX3_put) (maxL := 4) (ret := (some .int)) (by decide) rfl (Nat.le_of_ble_eq_true rfl) ?_
  intro p e s m below meth c ls hx hb hr hml hown hts hlocks hP hK hl Q hQ
  have hown : s.vm.findClass RX3 = some m.cls := hown
  have hl : lv_has ls 4 [(0, .ref (ad 0)), (1, .long z)] := hl
  refine lv_lload_n (pc := 0) hx hb dX3_put_0 rfl (lv_at hl 1 rfl) ?_
  refine b_cR (pc := 1) (va_runS (As := [.long z]) (rest := []) ⟨hx, hb, hml, hown, hts⟩ (c_X2_numberOf l D cI cC cZ cG z) (va_cwS 1 hts gX3_put_X2_numberOf rfl rfl rfl hyS_X2_numberOf ⟨Nat.le_of_ble_eq_true rfl, Nat.le_of_ble_eq_true rfl⟩) (b_pRS (wc := []) hK hP [] rfl) rfl rfl hl.1 rfl (lv_room (Nat.le_of_ble_eq_true rfl)) dX3_put_1 ⟨Nat.zero_le _, Nat.zero_le _⟩) ?_
  refine b_re hk ?_
  refine lv_istore_n (pc := 4) (lv' := [(3, .int (nI k)), (0, .ref (ad 0)), (1, .long z)]) hx hb dX3_put_4 rfl hl (by decide) rfl (fun ls hl => ?_)
  refine lv_iload_n (pc := 5) hx hb dX3_put_5 rfl (lv_at hl 0 rfl) ?_
  refine lv_iconst (pc := 6) (v := 1) hx hb dX3_put_6 (by decide) ?_
  refine lv_icmp_ge (pc := 7) (tgt := 13) hx hb dX3_put_7 (by decide) (fun c_1 => ?_) (fun c_1 => ?_)
  · skip
    have c_1 : 1 ≤ k := (nI_leI (a := 1) (b := k) (by omega) (by omega)).mp c_1
    refine lv_aload_n (pc := 13) hx hb dX3_put_13 rfl (lv_at hl 1 rfl) ?_
    refine va_get (pc := 14) (D := D) (ci := 3) (v := .ref (ad 5)) (C := RX3) (T := TX3) (N := 6) hx hb hts hi_X3_put_many_X3 hown hK hP 0 rfl rfl 2 (by decide) (hts _ hw_X3_put_many_0) (fun _ h9 => h9) rfl dX3_put_14 ?_
    refine lv_iload_n (pc := 17) hx hb dX3_put_17 rfl (lv_at hl 0 rfl) ?_
    refine b_cR (pc := 18) (va_runV (As := [.int (nI k)]) (rest := []) ⟨hx, hb, hml, hown, hts⟩ (c_X2_hasRoomFor l D cI cC cZ cG (ad 5) (ad 6) n tx (nI k)) (cwV 1 hts gX3_put_X2_hasRoomFor rfl rfl rfl hy_X2_hasRoomFor ⟨Nat.le_of_ble_eq_true rfl, Nat.le_of_ble_eq_true rfl⟩) (b_pRV (wc := [((ad 5), .inr (2, [.ref (ad 6), .int (nI n)])), ((ad 6), .inl (cC, 60, .inl tx))]) hK hP [5, 6] rfl (ci := 2) (q0 := 0) rfl rfl) rfl rfl hl.1 rfl (lv_room (Nat.le_of_ble_eq_true rfl)) dX3_put_18 ⟨Nat.zero_le _, Nat.zero_le _⟩) ?_
    refine lv_if_ne (pc := 21) (tgt := 27) hx hb dX3_put_21 (by decide) (fun c_2 => ?_) (fun c_2 => ?_)
    · skip
      have c_2 : ¬ 60 < nI n + (nI k) := Classical.not_not.mp (fun h9 => c_2 (b_i_0.mpr h9))
      exact absurd ((b_60 hn60 hk1.2).mpr h6) c_2
    · skip
      have c_2 : ¬ (¬ 60 < nI n + (nI k)) := b_i_0.mp c_2
      refine lv_bipush (pc := 24) (v := (-4)) hx hb dX3_put_24 (by decide) ?_
      subst hQ
      exact b_retR hx hb hr hlocks (rfl) dX3_put_26
  · skip
    have c_1 : ¬ (1 ≤ k) := fun h9 => c_1 ((nI_leI (a := 1) (b := k) (by omega) (by omega)).mpr h9)
    exfalso; omega
theorem hw_X3_put_ok_0 : (.fieldLink RX3 22 "BeamTurnstiles" "pad" "LBeamTurnstiles$Pad;" : Cond) ∈ wsX3_put := by decide +kernel
theorem hi_X3_put_ok_X3 : ∀ w ∈ wsX30, w ∈ wsX3_put := by decide +kernel
theorem hw_X3_put_ok_2 : (.fieldLink RX3 106 "BeamTurnstiles$Pad" "length" "I" : Cond) ∈ wsX3_put := by decide +kernel
theorem hi_X3_put_ok_X2 : ∀ w ∈ wsX20, w ∈ wsX3_put := by decide +kernel
set_option maxHeartbeats 4000000 in
set_option maxRecDepth 100000 in
theorem c_X3_put_ok (l : Launch) (D : va_G) (cI cC cZ cG : ClassId) (tb lo hi : Nat) (sz : Nat) (ad : Nat → Nat) (f : Nat → Int32) (f2 : Nat → Int32) (tx : Nat → Int32) (n : Nat) (nx : Nat) (sn : Nat) (R : Nat → Nat → Int32) (SL : Nat → Nat → Int32) (sv : Nat → Int32) (z : Int64) (k : Nat) (hn60 : n ≤ 60) (hnx : nx < 6) (hsn : sn ≤ 6) (hk : p_num z 8 0 = nI k) (hk1 : 1 ≤ k ∧ k ≤ 8) (h6 : n + k ≤ 60) : Met l yX3_put wsX3_put ({ frames := 1, cells := 0, slots := 0, locals := 25 } : Room) (b_W D (b_T cI cC cZ cG) (b_X tb lo hi) [((ad 0), .inr (3, [.ref (ad 1), .ref (ad 3), .ref (ad 5), .ref (ad 7), .ref (ad 15), .ref (ad 18)])), ((ad 1), .inr (0, [.ref (ad 2)])), ((ad 2), .inl (cI, 86, .inl f)), ((ad 3), .inr (0, [.ref (ad 4)])), ((ad 4), .inl (cI, 86, .inl f2)), ((ad 5), .inr (2, [.ref (ad 6), .int (nI n)])), ((ad 6), .inl (cC, 60, .inl tx)), ((ad 7), .inr (1, [.ref (ad 8), .int (nI nx), .int (nI sn)])), ((ad 8), .inl (cG, 6, .inr (.inr (.inr (.inr (fun i => ([(ad 9), (ad 10), (ad 11), (ad 12), (ad 13), (ad 14)] : List Nat)[i]?)))))), ((ad 9), .inl (cI, 86, .inl (R 0))), ((ad 10), .inl (cI, 86, .inl (R 1))), ((ad 11), .inl (cI, 86, .inl (R 2))), ((ad 12), .inl (cI, 86, .inl (R 3))), ((ad 13), .inl (cI, 86, .inl (R 4))), ((ad 14), .inl (cI, 86, .inl (R 5))), ((ad 15), .inl (cG, 2, .inr (.inr (.inr (.inr (fun i => ([(ad 16), (ad 17)] : List Nat)[i]?)))))), ((ad 16), .inl (cI, 86, .inl (SL 0))), ((ad 17), .inl (cI, 86, .inl (SL 1))), ((ad 18), .inl (cZ, 2, .inl sv))] sz [.ref (ad 0), .long z]) (b_Qi D (nI (n + k)) [((ad 0), .inr (3, [.ref (ad 1), .ref (ad 3), .ref (ad 5), .ref (ad 7), .ref (ad 15), .ref (ad 18)])), ((ad 1), .inr (0, [.ref (ad 2)])), ((ad 2), .inl (cI, 86, .inl f)), ((ad 3), .inr (0, [.ref (ad 4)])), ((ad 4), .inl (cI, 86, .inl f2)), ((ad 5), .inr (2, [.ref (ad 6), .int (nI (n + k))])), ((ad 6), .inl (cC, 60, .inl (p_ap z k n tx))), ((ad 7), .inr (1, [.ref (ad 8), .int (nI nx), .int (nI sn)])), ((ad 8), .inl (cG, 6, .inr (.inr (.inr (.inr (fun i => ([(ad 9), (ad 10), (ad 11), (ad 12), (ad 13), (ad 14)] : List Nat)[i]?)))))), ((ad 9), .inl (cI, 86, .inl (R 0))), ((ad 10), .inl (cI, 86, .inl (R 1))), ((ad 11), .inl (cI, 86, .inl (R 2))), ((ad 12), .inl (cI, 86, .inl (R 3))), ((ad 13), .inl (cI, 86, .inl (R 4))), ((ad 14), .inl (cI, 86, .inl (R 5))), ((ad 15), .inl (cG, 2, .inr (.inr (.inr (.inr (fun i => ([(ad 16), (ad 17)] : List Nat)[i]?)))))), ((ad 16), .inl (cI, 86, .inl (SL 0))), ((ad 17), .inl (cI, 86, .inl (SL 1))), ((ad 18), .inl (cZ, 2, .inl sv))] (va_A [((ad 0), .inr (3, [.ref (ad 1), .ref (ad 3), .ref (ad 5), .ref (ad 7), .ref (ad 15), .ref (ad 18)])), ((ad 1), .inr (0, [.ref (ad 2)])), ((ad 2), .inl (cI, 86, .inl f)), ((ad 3), .inr (0, [.ref (ad 4)])), ((ad 4), .inl (cI, 86, .inl f2)), ((ad 5), .inr (2, [.ref (ad 6), .int (nI n)])), ((ad 6), .inl (cC, 60, .inl tx)), ((ad 7), .inr (1, [.ref (ad 8), .int (nI nx), .int (nI sn)])), ((ad 8), .inl (cG, 6, .inr (.inr (.inr (.inr (fun i => ([(ad 9), (ad 10), (ad 11), (ad 12), (ad 13), (ad 14)] : List Nat)[i]?)))))), ((ad 9), .inl (cI, 86, .inl (R 0))), ((ad 10), .inl (cI, 86, .inl (R 1))), ((ad 11), .inl (cI, 86, .inl (R 2))), ((ad 12), .inl (cI, 86, .inl (R 3))), ((ad 13), .inl (cI, 86, .inl (R 4))), ((ad 14), .inl (cI, 86, .inl (R 5))), ((ad 15), .inl (cG, 2, .inr (.inr (.inr (.inr (fun i => ([(ad 16), (ad 17)] : List Nat)[i]?)))))), ((ad 16), .inl (cI, 86, .inl (SL 0))), ((ad 17), .inl (cI, 86, .inl (SL 1))), ((ad 18), .inl (cZ, 2, .inl sv))] sz)) 0 0 (va_A [((ad 0), .inr (3, [.ref (ad 1), .ref (ad 3), .ref (ad 5), .ref (ad 7), .ref (ad 15), .ref (ad 18)])), ((ad 1), .inr (0, [.ref (ad 2)])), ((ad 2), .inl (cI, 86, .inl f)), ((ad 3), .inr (0, [.ref (ad 4)])), ((ad 4), .inl (cI, 86, .inl f2)), ((ad 5), .inr (2, [.ref (ad 6), .int (nI n)])), ((ad 6), .inl (cC, 60, .inl tx)), ((ad 7), .inr (1, [.ref (ad 8), .int (nI nx), .int (nI sn)])), ((ad 8), .inl (cG, 6, .inr (.inr (.inr (.inr (fun i => ([(ad 9), (ad 10), (ad 11), (ad 12), (ad 13), (ad 14)] : List Nat)[i]?)))))), ((ad 9), .inl (cI, 86, .inl (R 0))), ((ad 10), .inl (cI, 86, .inl (R 1))), ((ad 11), .inl (cI, 86, .inl (R 2))), ((ad 12), .inl (cI, 86, .inl (R 3))), ((ad 13), .inl (cI, 86, .inl (R 4))), ((ad 14), .inl (cI, 86, .inl (R 5))), ((ad 15), .inl (cG, 2, .inr (.inr (.inr (.inr (fun i => ([(ad 16), (ad 17)] : List Nat)[i]?)))))), ((ad 16), .inl (cI, 86, .inl (SL 0))), ((ad 17), .inl (cI, 86, .inl (SL 1))), ((ad 18), .inl (cZ, 2, .inl sv))] sz) := by
  refine b_enterW (Qc := fun A => b_Qi D (nI (n + k)) [((ad 0), .inr (3, [.ref (ad 1), .ref (ad 3), .ref (ad 5), .ref (ad 7), .ref (ad 15), .ref (ad 18)])), ((ad 1), .inr (0, [.ref (ad 2)])), ((ad 2), .inl (cI, 86, .inl f)), ((ad 3), .inr (0, [.ref (ad 4)])), ((ad 4), .inl (cI, 86, .inl f2)), ((ad 5), .inr (2, [.ref (ad 6), .int (nI (n + k))])), ((ad 6), .inl (cC, 60, .inl (p_ap z k n tx))), ((ad 7), .inr (1, [.ref (ad 8), .int (nI nx), .int (nI sn)])), ((ad 8), .inl (cG, 6, .inr (.inr (.inr (.inr (fun i => ([(ad 9), (ad 10), (ad 11), (ad 12), (ad 13), (ad 14)] : List Nat)[i]?)))))), ((ad 9), .inl (cI, 86, .inl (R 0))), ((ad 10), .inl (cI, 86, .inl (R 1))), ((ad 11), .inl (cI, 86, .inl (R 2))), ((ad 12), .inl (cI, 86, .inl (R 3))), ((ad 13), .inl (cI, 86, .inl (R 4))), ((ad 14), .inl (cI, 86, .inl (R 5))), ((ad 15), .inl (cG, 2, .inr (.inr (.inr (.inr (fun i => ([(ad 16), (ad 17)] : List Nat)[i]?)))))), ((ad 16), .inl (cI, 86, .inl (SL 0))), ((ad 17), .inl (cI, 86, .inl (SL 1))), ((ad 18), .inl (cZ, 2, .inl sv))] A) (cc := cX3_put) (maxL := 4) (ret := (some .int)) (by decide) rfl (Nat.le_of_ble_eq_true rfl) ?_
  intro p e s m below meth c ls A hx hb hr hml hown hts hlocks hname hP hK hD hA hS hX hl Q hQ
  have hown : s.vm.findClass RX3 = some m.cls := hown
  have hl : lv_has ls 4 [(0, .ref (ad 0)), (1, .long z)] := hl
  refine lv_lload_n (pc := 0) hx hb dX3_put_0 rfl (lv_at hl 1 rfl) ?_
  refine b_cR (pc := 1) (va_runS (As := [.long z]) (rest := []) ⟨hx, hb, hml, hown, hts⟩ (c_X2_numberOf l D cI cC cZ cG z) (va_cwS 1 hts gX3_put_X2_numberOf rfl rfl rfl hyS_X2_numberOf ⟨Nat.le_of_ble_eq_true rfl, Nat.le_of_ble_eq_true rfl⟩) (b_pRS (wc := []) hK hP [] rfl) rfl rfl hl.1 rfl (lv_room (Nat.le_of_ble_eq_true rfl)) dX3_put_1 ⟨Nat.zero_le _, Nat.zero_le _⟩) ?_
  refine b_re hk ?_
  refine lv_istore_n (pc := 4) (lv' := [(3, .int (nI k)), (0, .ref (ad 0)), (1, .long z)]) hx hb dX3_put_4 rfl hl (by decide) rfl (fun ls hl => ?_)
  refine lv_iload_n (pc := 5) hx hb dX3_put_5 rfl (lv_at hl 0 rfl) ?_
  refine lv_iconst (pc := 6) (v := 1) hx hb dX3_put_6 (by decide) ?_
  refine lv_icmp_ge (pc := 7) (tgt := 13) hx hb dX3_put_7 (by decide) (fun c_1 => ?_) (fun c_1 => ?_)
  · skip
    have c_1 : 1 ≤ k := (nI_leI (a := 1) (b := k) (by omega) (by omega)).mp c_1
    refine lv_aload_n (pc := 13) hx hb dX3_put_13 rfl (lv_at hl 1 rfl) ?_
    refine va_get (pc := 14) (D := D) (ci := 3) (v := .ref (ad 5)) (C := RX3) (T := TX3) (N := 6) hx hb hts hi_X3_put_ok_X3 hown hK hP 0 rfl rfl 2 (by decide) (hts _ hw_X3_put_ok_0) (fun _ h9 => h9) rfl dX3_put_14 ?_
    refine lv_iload_n (pc := 17) hx hb dX3_put_17 rfl (lv_at hl 0 rfl) ?_
    refine b_cR (pc := 18) (va_runV (As := [.int (nI k)]) (rest := []) ⟨hx, hb, hml, hown, hts⟩ (c_X2_hasRoomFor l D cI cC cZ cG (ad 5) (ad 6) n tx (nI k)) (cwV 1 hts gX3_put_X2_hasRoomFor rfl rfl rfl hy_X2_hasRoomFor ⟨Nat.le_of_ble_eq_true rfl, Nat.le_of_ble_eq_true rfl⟩) (b_pRV (wc := [((ad 5), .inr (2, [.ref (ad 6), .int (nI n)])), ((ad 6), .inl (cC, 60, .inl tx))]) hK hP [5, 6] rfl (ci := 2) (q0 := 0) rfl rfl) rfl rfl hl.1 rfl (lv_room (Nat.le_of_ble_eq_true rfl)) dX3_put_18 ⟨Nat.zero_le _, Nat.zero_le _⟩) ?_
    refine lv_if_ne (pc := 21) (tgt := 27) hx hb dX3_put_21 (by decide) (fun c_2 => ?_) (fun c_2 => ?_)
    · skip
      have c_2 : ¬ 60 < nI n + (nI k) := Classical.not_not.mp (fun h9 => c_2 (b_i_0.mpr h9))
      refine lv_aload_n (pc := 27) hx hb dX3_put_27 rfl (lv_at hl 1 rfl) ?_
      refine va_get (pc := 28) (D := D) (ci := 3) (v := .ref (ad 5)) (C := RX3) (T := TX3) (N := 6) hx hb hts hi_X3_put_ok_X3 hown hK hP 0 rfl rfl 2 (by decide) (hts _ hw_X3_put_ok_0) (fun _ h9 => h9) rfl dX3_put_28 ?_
      refine lv_lload_n (pc := 31) hx hb dX3_put_31 rfl (lv_at hl 2 rfl) ?_
      refine lv_iload_n (pc := 32) hx hb dX3_put_32 rfl (lv_at hl 0 rfl) ?_
      refine b_cV (pc := 33) (w1 := [((ad 5), .inr (2, [.ref (ad 6), .int (nI (n + k))])), ((ad 6), .inl (cC, 60, .inl (p_ap z k n tx)))]) (va_runV (As := [.long z, .int (nI k)]) (rest := []) ⟨hx, hb, hml, hown, hts⟩ (c_X2_append l D cI cC cZ cG tb lo hi s.heap.size (ad 5) (ad 6) n tx z k (by omega) (by omega)) (cwV 2 hts gX3_put_X2_append rfl rfl rfl hy_X2_append ⟨Nat.le_of_ble_eq_true rfl, Nat.le_of_ble_eq_true rfl⟩) (b_pWV (wc := [((ad 5), .inr (2, [.ref (ad 6), .int (nI n)])), ((ad 6), .inl (cC, 60, .inl tx))]) hK hP hD (b_Xok_X tb lo hi) [5, 6] rfl (by decide) rfl (b_Xc hX hD hS hA [5, 6] rfl) (ci := 2) (q0 := 0) rfl rfl) rfl rfl hl.1 rfl (lv_room (Nat.le_of_ble_eq_true rfl)) dX3_put_33 ⟨Nat.zero_le _, Nat.zero_le _⟩) hP hD hS hA [5, 6] rfl rfl (fun H locs hP hD hS => ?_)
      have hP : va_P D vwCl [((ad 0), .inr (3, [.ref (ad 1), .ref (ad 3), .ref (ad 5), .ref (ad 7), .ref (ad 15), .ref (ad 18)])), ((ad 1), .inr (0, [.ref (ad 2)])), ((ad 2), .inl (cI, 86, .inl f)), ((ad 3), .inr (0, [.ref (ad 4)])), ((ad 4), .inl (cI, 86, .inl f2)), ((ad 5), .inr (2, [.ref (ad 6), .int (nI (n + k))])), ((ad 6), .inl (cC, 60, .inl (p_ap z k n tx))), ((ad 7), .inr (1, [.ref (ad 8), .int (nI nx), .int (nI sn)])), ((ad 8), .inl (cG, 6, .inr (.inr (.inr (.inr (fun i => ([(ad 9), (ad 10), (ad 11), (ad 12), (ad 13), (ad 14)] : List Nat)[i]?)))))), ((ad 9), .inl (cI, 86, .inl (R 0))), ((ad 10), .inl (cI, 86, .inl (R 1))), ((ad 11), .inl (cI, 86, .inl (R 2))), ((ad 12), .inl (cI, 86, .inl (R 3))), ((ad 13), .inl (cI, 86, .inl (R 4))), ((ad 14), .inl (cI, 86, .inl (R 5))), ((ad 15), .inl (cG, 2, .inr (.inr (.inr (.inr (fun i => ([(ad 16), (ad 17)] : List Nat)[i]?)))))), ((ad 16), .inl (cI, 86, .inl (SL 0))), ((ad 17), .inl (cI, 86, .inl (SL 1))), ((ad 18), .inl (cZ, 2, .inl sv))] H := hP
      have hD : va_D A [((ad 0), .inr (3, [.ref (ad 1), .ref (ad 3), .ref (ad 5), .ref (ad 7), .ref (ad 15), .ref (ad 18)])), ((ad 1), .inr (0, [.ref (ad 2)])), ((ad 2), .inl (cI, 86, .inl f)), ((ad 3), .inr (0, [.ref (ad 4)])), ((ad 4), .inl (cI, 86, .inl f2)), ((ad 5), .inr (2, [.ref (ad 6), .int (nI (n + k))])), ((ad 6), .inl (cC, 60, .inl (p_ap z k n tx))), ((ad 7), .inr (1, [.ref (ad 8), .int (nI nx), .int (nI sn)])), ((ad 8), .inl (cG, 6, .inr (.inr (.inr (.inr (fun i => ([(ad 9), (ad 10), (ad 11), (ad 12), (ad 13), (ad 14)] : List Nat)[i]?)))))), ((ad 9), .inl (cI, 86, .inl (R 0))), ((ad 10), .inl (cI, 86, .inl (R 1))), ((ad 11), .inl (cI, 86, .inl (R 2))), ((ad 12), .inl (cI, 86, .inl (R 3))), ((ad 13), .inl (cI, 86, .inl (R 4))), ((ad 14), .inl (cI, 86, .inl (R 5))), ((ad 15), .inl (cG, 2, .inr (.inr (.inr (.inr (fun i => ([(ad 16), (ad 17)] : List Nat)[i]?)))))), ((ad 16), .inl (cI, 86, .inl (SL 0))), ((ad 17), .inl (cI, 86, .inl (SL 1))), ((ad 18), .inl (cZ, 2, .inl sv))] := hD
      obtain ⟨f_3, ef_3⟩ : ∃ z9 : Nat → Int32, z9 = p_ap z k n tx := ⟨_, rfl⟩
      have hP : va_P D vwCl [((ad 0), .inr (3, [.ref (ad 1), .ref (ad 3), .ref (ad 5), .ref (ad 7), .ref (ad 15), .ref (ad 18)])), ((ad 1), .inr (0, [.ref (ad 2)])), ((ad 2), .inl (cI, 86, .inl f)), ((ad 3), .inr (0, [.ref (ad 4)])), ((ad 4), .inl (cI, 86, .inl f2)), ((ad 5), .inr (2, [.ref (ad 6), .int (nI (n + k))])), ((ad 6), .inl (cC, 60, .inl f_3)), ((ad 7), .inr (1, [.ref (ad 8), .int (nI nx), .int (nI sn)])), ((ad 8), .inl (cG, 6, .inr (.inr (.inr (.inr (fun i => ([(ad 9), (ad 10), (ad 11), (ad 12), (ad 13), (ad 14)] : List Nat)[i]?)))))), ((ad 9), .inl (cI, 86, .inl (R 0))), ((ad 10), .inl (cI, 86, .inl (R 1))), ((ad 11), .inl (cI, 86, .inl (R 2))), ((ad 12), .inl (cI, 86, .inl (R 3))), ((ad 13), .inl (cI, 86, .inl (R 4))), ((ad 14), .inl (cI, 86, .inl (R 5))), ((ad 15), .inl (cG, 2, .inr (.inr (.inr (.inr (fun i => ([(ad 16), (ad 17)] : List Nat)[i]?)))))), ((ad 16), .inl (cI, 86, .inl (SL 0))), ((ad 17), .inl (cI, 86, .inl (SL 1))), ((ad 18), .inl (cZ, 2, .inl sv))] H := by rw [ef_3]; exact hP
      have hD : va_D A [((ad 0), .inr (3, [.ref (ad 1), .ref (ad 3), .ref (ad 5), .ref (ad 7), .ref (ad 15), .ref (ad 18)])), ((ad 1), .inr (0, [.ref (ad 2)])), ((ad 2), .inl (cI, 86, .inl f)), ((ad 3), .inr (0, [.ref (ad 4)])), ((ad 4), .inl (cI, 86, .inl f2)), ((ad 5), .inr (2, [.ref (ad 6), .int (nI (n + k))])), ((ad 6), .inl (cC, 60, .inl f_3)), ((ad 7), .inr (1, [.ref (ad 8), .int (nI nx), .int (nI sn)])), ((ad 8), .inl (cG, 6, .inr (.inr (.inr (.inr (fun i => ([(ad 9), (ad 10), (ad 11), (ad 12), (ad 13), (ad 14)] : List Nat)[i]?)))))), ((ad 9), .inl (cI, 86, .inl (R 0))), ((ad 10), .inl (cI, 86, .inl (R 1))), ((ad 11), .inl (cI, 86, .inl (R 2))), ((ad 12), .inl (cI, 86, .inl (R 3))), ((ad 13), .inl (cI, 86, .inl (R 4))), ((ad 14), .inl (cI, 86, .inl (R 5))), ((ad 15), .inl (cG, 2, .inr (.inr (.inr (.inr (fun i => ([(ad 16), (ad 17)] : List Nat)[i]?)))))), ((ad 16), .inl (cI, 86, .inl (SL 0))), ((ad 17), .inl (cI, 86, .inl (SL 1))), ((ad 18), .inl (cZ, 2, .inl sv))] := by rw [ef_3]; exact hD
      refine lv_aload_n (pc := 36) hx hb dX3_put_36 rfl (lv_at hl 1 rfl) ?_
      refine va_get (pc := 37) (D := D) (ci := 3) (v := .ref (ad 5)) (C := RX3) (T := TX3) (N := 6) hx hb hts hi_X3_put_ok_X3 hown hK hP 0 rfl rfl 2 (by decide) (hts _ hw_X3_put_ok_0) (fun _ h9 => h9) rfl dX3_put_37 ?_
      refine va_get (pc := 40) (D := D) (ci := 2) (v := .int (nI (n + k))) (C := RX2) (T := TX2) (N := 2) hx hb hts hi_X3_put_ok_X2 hown hK hP 5 rfl rfl 1 (by decide) (hts _ hw_X3_put_ok_2) (fun _ h9 => h9) rfl dX3_put_40 ?_
      subst ef_3
      subst hQ
      exact b_retW hx hb hr hlocks hS (rfl) (hP) dX3_put_43
    · skip
      have c_2 : ¬ (¬ 60 < nI n + (nI k)) := b_i_0.mp c_2
      exact absurd (fun q => absurd ((b_60 hn60 hk1.2).mp q) (by omega)) c_2
  · skip
    have c_1 : ¬ (1 ≤ k) := fun h9 => c_1 ((nI_leI (a := 1) (b := k) (by omega) (by omega)).mpr h9)
    exfalso; omega
theorem hw_X3_wipe_0 : (.fieldLink RX3 22 "BeamTurnstiles" "pad" "LBeamTurnstiles$Pad;" : Cond) ∈ wsX3_wipe := by decide +kernel
theorem hi_X3_wipe_X3 : ∀ w ∈ wsX30, w ∈ wsX3_wipe := by decide +kernel
theorem hw_X3_wipe_2 : (.fieldLink RX3 106 "BeamTurnstiles$Pad" "length" "I" : Cond) ∈ wsX3_wipe := by decide +kernel
theorem hi_X3_wipe_X2 : ∀ w ∈ wsX20, w ∈ wsX3_wipe := by decide +kernel
set_option maxHeartbeats 4000000 in
set_option maxRecDepth 100000 in
theorem c_X3_wipe (l : Launch) (D : va_G) (cI cC cZ cG : ClassId) (tb lo hi : Nat) (sz : Nat) (ad : Nat → Nat) (f : Nat → Int32) (f2 : Nat → Int32) (tx : Nat → Int32) (n : Nat) (nx : Nat) (sn : Nat) (R : Nat → Nat → Int32) (SL : Nat → Nat → Int32) (sv : Nat → Int32) (hn60 : n ≤ 60) (hnx : nx < 6) (hsn : sn ≤ 6) : Met l yX3_wipe wsX3_wipe ({ frames := 1, cells := 0, slots := 0, locals := 20 } : Room) (b_W D (b_T cI cC cZ cG) (b_X tb lo hi) [((ad 0), .inr (3, [.ref (ad 1), .ref (ad 3), .ref (ad 5), .ref (ad 7), .ref (ad 15), .ref (ad 18)])), ((ad 1), .inr (0, [.ref (ad 2)])), ((ad 2), .inl (cI, 86, .inl f)), ((ad 3), .inr (0, [.ref (ad 4)])), ((ad 4), .inl (cI, 86, .inl f2)), ((ad 5), .inr (2, [.ref (ad 6), .int (nI n)])), ((ad 6), .inl (cC, 60, .inl tx)), ((ad 7), .inr (1, [.ref (ad 8), .int (nI nx), .int (nI sn)])), ((ad 8), .inl (cG, 6, .inr (.inr (.inr (.inr (fun i => ([(ad 9), (ad 10), (ad 11), (ad 12), (ad 13), (ad 14)] : List Nat)[i]?)))))), ((ad 9), .inl (cI, 86, .inl (R 0))), ((ad 10), .inl (cI, 86, .inl (R 1))), ((ad 11), .inl (cI, 86, .inl (R 2))), ((ad 12), .inl (cI, 86, .inl (R 3))), ((ad 13), .inl (cI, 86, .inl (R 4))), ((ad 14), .inl (cI, 86, .inl (R 5))), ((ad 15), .inl (cG, 2, .inr (.inr (.inr (.inr (fun i => ([(ad 16), (ad 17)] : List Nat)[i]?)))))), ((ad 16), .inl (cI, 86, .inl (SL 0))), ((ad 17), .inl (cI, 86, .inl (SL 1))), ((ad 18), .inl (cZ, 2, .inl sv))] sz [.ref (ad 0)]) (b_Qi D (nI n) [((ad 0), .inr (3, [.ref (ad 1), .ref (ad 3), .ref (ad 5), .ref (ad 7), .ref (ad 15), .ref (ad 18)])), ((ad 1), .inr (0, [.ref (ad 2)])), ((ad 2), .inl (cI, 86, .inl f)), ((ad 3), .inr (0, [.ref (ad 4)])), ((ad 4), .inl (cI, 86, .inl f2)), ((ad 5), .inr (2, [.ref (ad 6), .int (nI 0)])), ((ad 6), .inl (cC, 60, .inl tx)), ((ad 7), .inr (1, [.ref (ad 8), .int (nI nx), .int (nI sn)])), ((ad 8), .inl (cG, 6, .inr (.inr (.inr (.inr (fun i => ([(ad 9), (ad 10), (ad 11), (ad 12), (ad 13), (ad 14)] : List Nat)[i]?)))))), ((ad 9), .inl (cI, 86, .inl (R 0))), ((ad 10), .inl (cI, 86, .inl (R 1))), ((ad 11), .inl (cI, 86, .inl (R 2))), ((ad 12), .inl (cI, 86, .inl (R 3))), ((ad 13), .inl (cI, 86, .inl (R 4))), ((ad 14), .inl (cI, 86, .inl (R 5))), ((ad 15), .inl (cG, 2, .inr (.inr (.inr (.inr (fun i => ([(ad 16), (ad 17)] : List Nat)[i]?)))))), ((ad 16), .inl (cI, 86, .inl (SL 0))), ((ad 17), .inl (cI, 86, .inl (SL 1))), ((ad 18), .inl (cZ, 2, .inl sv))] (va_A [((ad 0), .inr (3, [.ref (ad 1), .ref (ad 3), .ref (ad 5), .ref (ad 7), .ref (ad 15), .ref (ad 18)])), ((ad 1), .inr (0, [.ref (ad 2)])), ((ad 2), .inl (cI, 86, .inl f)), ((ad 3), .inr (0, [.ref (ad 4)])), ((ad 4), .inl (cI, 86, .inl f2)), ((ad 5), .inr (2, [.ref (ad 6), .int (nI n)])), ((ad 6), .inl (cC, 60, .inl tx)), ((ad 7), .inr (1, [.ref (ad 8), .int (nI nx), .int (nI sn)])), ((ad 8), .inl (cG, 6, .inr (.inr (.inr (.inr (fun i => ([(ad 9), (ad 10), (ad 11), (ad 12), (ad 13), (ad 14)] : List Nat)[i]?)))))), ((ad 9), .inl (cI, 86, .inl (R 0))), ((ad 10), .inl (cI, 86, .inl (R 1))), ((ad 11), .inl (cI, 86, .inl (R 2))), ((ad 12), .inl (cI, 86, .inl (R 3))), ((ad 13), .inl (cI, 86, .inl (R 4))), ((ad 14), .inl (cI, 86, .inl (R 5))), ((ad 15), .inl (cG, 2, .inr (.inr (.inr (.inr (fun i => ([(ad 16), (ad 17)] : List Nat)[i]?)))))), ((ad 16), .inl (cI, 86, .inl (SL 0))), ((ad 17), .inl (cI, 86, .inl (SL 1))), ((ad 18), .inl (cZ, 2, .inl sv))] sz)) 0 0 (va_A [((ad 0), .inr (3, [.ref (ad 1), .ref (ad 3), .ref (ad 5), .ref (ad 7), .ref (ad 15), .ref (ad 18)])), ((ad 1), .inr (0, [.ref (ad 2)])), ((ad 2), .inl (cI, 86, .inl f)), ((ad 3), .inr (0, [.ref (ad 4)])), ((ad 4), .inl (cI, 86, .inl f2)), ((ad 5), .inr (2, [.ref (ad 6), .int (nI n)])), ((ad 6), .inl (cC, 60, .inl tx)), ((ad 7), .inr (1, [.ref (ad 8), .int (nI nx), .int (nI sn)])), ((ad 8), .inl (cG, 6, .inr (.inr (.inr (.inr (fun i => ([(ad 9), (ad 10), (ad 11), (ad 12), (ad 13), (ad 14)] : List Nat)[i]?)))))), ((ad 9), .inl (cI, 86, .inl (R 0))), ((ad 10), .inl (cI, 86, .inl (R 1))), ((ad 11), .inl (cI, 86, .inl (R 2))), ((ad 12), .inl (cI, 86, .inl (R 3))), ((ad 13), .inl (cI, 86, .inl (R 4))), ((ad 14), .inl (cI, 86, .inl (R 5))), ((ad 15), .inl (cG, 2, .inr (.inr (.inr (.inr (fun i => ([(ad 16), (ad 17)] : List Nat)[i]?)))))), ((ad 16), .inl (cI, 86, .inl (SL 0))), ((ad 17), .inl (cI, 86, .inl (SL 1))), ((ad 18), .inl (cZ, 2, .inl sv))] sz) := by
  refine b_enterW (Qc := fun A => b_Qi D (nI n) [((ad 0), .inr (3, [.ref (ad 1), .ref (ad 3), .ref (ad 5), .ref (ad 7), .ref (ad 15), .ref (ad 18)])), ((ad 1), .inr (0, [.ref (ad 2)])), ((ad 2), .inl (cI, 86, .inl f)), ((ad 3), .inr (0, [.ref (ad 4)])), ((ad 4), .inl (cI, 86, .inl f2)), ((ad 5), .inr (2, [.ref (ad 6), .int (nI 0)])), ((ad 6), .inl (cC, 60, .inl tx)), ((ad 7), .inr (1, [.ref (ad 8), .int (nI nx), .int (nI sn)])), ((ad 8), .inl (cG, 6, .inr (.inr (.inr (.inr (fun i => ([(ad 9), (ad 10), (ad 11), (ad 12), (ad 13), (ad 14)] : List Nat)[i]?)))))), ((ad 9), .inl (cI, 86, .inl (R 0))), ((ad 10), .inl (cI, 86, .inl (R 1))), ((ad 11), .inl (cI, 86, .inl (R 2))), ((ad 12), .inl (cI, 86, .inl (R 3))), ((ad 13), .inl (cI, 86, .inl (R 4))), ((ad 14), .inl (cI, 86, .inl (R 5))), ((ad 15), .inl (cG, 2, .inr (.inr (.inr (.inr (fun i => ([(ad 16), (ad 17)] : List Nat)[i]?)))))), ((ad 16), .inl (cI, 86, .inl (SL 0))), ((ad 17), .inl (cI, 86, .inl (SL 1))), ((ad 18), .inl (cZ, 2, .inl sv))] A) (cc := cX3_wipe) (maxL := 2) (ret := (some .int)) (by decide) rfl (Nat.le_of_ble_eq_true rfl) ?_
  intro p e s m below meth c ls A hx hb hr hml hown hts hlocks hname hP hK hD hA hS hX hl Q hQ
  have hown : s.vm.findClass RX3 = some m.cls := hown
  have hl : lv_has ls 2 [(0, .ref (ad 0))] := hl
  refine lv_aload_n (pc := 0) hx hb dX3_wipe_0 rfl (lv_at hl 0 rfl) ?_
  refine va_get (pc := 1) (D := D) (ci := 3) (v := .ref (ad 5)) (C := RX3) (T := TX3) (N := 6) hx hb hts hi_X3_wipe_X3 hown hK hP 0 rfl rfl 2 (by decide) (hts _ hw_X3_wipe_0) (fun _ h9 => h9) rfl dX3_wipe_1 ?_
  refine va_get (pc := 4) (D := D) (ci := 2) (v := .int (nI n)) (C := RX2) (T := TX2) (N := 2) hx hb hts hi_X3_wipe_X2 hown hK hP 5 rfl rfl 1 (by decide) (hts _ hw_X3_wipe_2) (fun _ h9 => h9) rfl dX3_wipe_4 ?_
  refine lv_istore_n (pc := 7) (lv' := [(1, .int (nI n)), (0, .ref (ad 0))]) hx hb dX3_wipe_7 rfl hl (by decide) rfl (fun ls hl => ?_)
  refine lv_aload_n (pc := 8) hx hb dX3_wipe_8 rfl (lv_at hl 1 rfl) ?_
  refine va_get (pc := 9) (D := D) (ci := 3) (v := .ref (ad 5)) (C := RX3) (T := TX3) (N := 6) hx hb hts hi_X3_wipe_X3 hown hK hP 0 rfl rfl 2 (by decide) (hts _ hw_X3_wipe_0) (fun _ h9 => h9) rfl dX3_wipe_9 ?_
  refine b_cV (pc := 12) (w1 := [((ad 5), .inr (2, [.ref (ad 6), .int (nI 0)])), ((ad 6), .inl (cC, 60, .inl tx))]) (va_runV (As := []) (rest := []) ⟨hx, hb, hml, hown, hts⟩ (c_X2_empty l D cI cC cZ cG tb lo hi s.heap.size (ad 5) (ad 6) n tx) (cwV 0 hts gX3_wipe_X2_empty rfl rfl rfl hy_X2_empty ⟨Nat.le_of_ble_eq_true rfl, Nat.le_of_ble_eq_true rfl⟩) (b_pWV (wc := [((ad 5), .inr (2, [.ref (ad 6), .int (nI n)])), ((ad 6), .inl (cC, 60, .inl tx))]) hK hP hD (b_Xok_X tb lo hi) [5, 6] rfl (by decide) rfl (b_Xc hX hD hS hA [5, 6] rfl) (ci := 2) (q0 := 0) rfl rfl) rfl rfl hl.1 rfl (lv_room (Nat.le_of_ble_eq_true rfl)) dX3_wipe_12 ⟨Nat.zero_le _, Nat.zero_le _⟩) hP hD hS hA [5, 6] rfl rfl (fun H locs hP hD hS => ?_)
  have hP : va_P D vwCl [((ad 0), .inr (3, [.ref (ad 1), .ref (ad 3), .ref (ad 5), .ref (ad 7), .ref (ad 15), .ref (ad 18)])), ((ad 1), .inr (0, [.ref (ad 2)])), ((ad 2), .inl (cI, 86, .inl f)), ((ad 3), .inr (0, [.ref (ad 4)])), ((ad 4), .inl (cI, 86, .inl f2)), ((ad 5), .inr (2, [.ref (ad 6), .int (nI 0)])), ((ad 6), .inl (cC, 60, .inl tx)), ((ad 7), .inr (1, [.ref (ad 8), .int (nI nx), .int (nI sn)])), ((ad 8), .inl (cG, 6, .inr (.inr (.inr (.inr (fun i => ([(ad 9), (ad 10), (ad 11), (ad 12), (ad 13), (ad 14)] : List Nat)[i]?)))))), ((ad 9), .inl (cI, 86, .inl (R 0))), ((ad 10), .inl (cI, 86, .inl (R 1))), ((ad 11), .inl (cI, 86, .inl (R 2))), ((ad 12), .inl (cI, 86, .inl (R 3))), ((ad 13), .inl (cI, 86, .inl (R 4))), ((ad 14), .inl (cI, 86, .inl (R 5))), ((ad 15), .inl (cG, 2, .inr (.inr (.inr (.inr (fun i => ([(ad 16), (ad 17)] : List Nat)[i]?)))))), ((ad 16), .inl (cI, 86, .inl (SL 0))), ((ad 17), .inl (cI, 86, .inl (SL 1))), ((ad 18), .inl (cZ, 2, .inl sv))] H := hP
  have hD : va_D A [((ad 0), .inr (3, [.ref (ad 1), .ref (ad 3), .ref (ad 5), .ref (ad 7), .ref (ad 15), .ref (ad 18)])), ((ad 1), .inr (0, [.ref (ad 2)])), ((ad 2), .inl (cI, 86, .inl f)), ((ad 3), .inr (0, [.ref (ad 4)])), ((ad 4), .inl (cI, 86, .inl f2)), ((ad 5), .inr (2, [.ref (ad 6), .int (nI 0)])), ((ad 6), .inl (cC, 60, .inl tx)), ((ad 7), .inr (1, [.ref (ad 8), .int (nI nx), .int (nI sn)])), ((ad 8), .inl (cG, 6, .inr (.inr (.inr (.inr (fun i => ([(ad 9), (ad 10), (ad 11), (ad 12), (ad 13), (ad 14)] : List Nat)[i]?)))))), ((ad 9), .inl (cI, 86, .inl (R 0))), ((ad 10), .inl (cI, 86, .inl (R 1))), ((ad 11), .inl (cI, 86, .inl (R 2))), ((ad 12), .inl (cI, 86, .inl (R 3))), ((ad 13), .inl (cI, 86, .inl (R 4))), ((ad 14), .inl (cI, 86, .inl (R 5))), ((ad 15), .inl (cG, 2, .inr (.inr (.inr (.inr (fun i => ([(ad 16), (ad 17)] : List Nat)[i]?)))))), ((ad 16), .inl (cI, 86, .inl (SL 0))), ((ad 17), .inl (cI, 86, .inl (SL 1))), ((ad 18), .inl (cZ, 2, .inl sv))] := hD
  refine lv_iload_n (pc := 15) hx hb dX3_wipe_15 rfl (lv_at hl 0 rfl) ?_
  subst hQ
  exact b_retW hx hb hr hlocks hS (rfl) (hP) dX3_wipe_16
set_option maxHeartbeats 4000000 in
set_option maxRecDepth 100000 in
theorem c_X3_save_bad (l : Launch) (D : va_G) (cI cC cZ cG : ClassId) (ad : Nat → Nat) (f : Nat → Int32) (f2 : Nat → Int32) (tx : Nat → Int32) (n : Nat) (nx : Nat) (sn : Nat) (R : Nat → Nat → Int32) (SL : Nat → Nat → Int32) (sv : Nat → Int32) (x : Int32) (hn60 : n ≤ 60) (hnx : nx < 6) (hsn : sn ≤ 6) (hbad : x < 0 ∨ ¬ x < 2) : Met l yX3_save wsX3_save ({ frames := 1, cells := 0, slots := 0, locals := 20 } : Room) (b_R D (b_T cI cC cZ cG) [((ad 0), .inr (3, [.ref (ad 1), .ref (ad 3), .ref (ad 5), .ref (ad 7), .ref (ad 15), .ref (ad 18)])), ((ad 1), .inr (0, [.ref (ad 2)])), ((ad 2), .inl (cI, 86, .inl f)), ((ad 3), .inr (0, [.ref (ad 4)])), ((ad 4), .inl (cI, 86, .inl f2)), ((ad 5), .inr (2, [.ref (ad 6), .int (nI n)])), ((ad 6), .inl (cC, 60, .inl tx)), ((ad 7), .inr (1, [.ref (ad 8), .int (nI nx), .int (nI sn)])), ((ad 8), .inl (cG, 6, .inr (.inr (.inr (.inr (fun i => ([(ad 9), (ad 10), (ad 11), (ad 12), (ad 13), (ad 14)] : List Nat)[i]?)))))), ((ad 9), .inl (cI, 86, .inl (R 0))), ((ad 10), .inl (cI, 86, .inl (R 1))), ((ad 11), .inl (cI, 86, .inl (R 2))), ((ad 12), .inl (cI, 86, .inl (R 3))), ((ad 13), .inl (cI, 86, .inl (R 4))), ((ad 14), .inl (cI, 86, .inl (R 5))), ((ad 15), .inl (cG, 2, .inr (.inr (.inr (.inr (fun i => ([(ad 16), (ad 17)] : List Nat)[i]?)))))), ((ad 16), .inl (cI, 86, .inl (SL 0))), ((ad 17), .inl (cI, 86, .inl (SL 1))), ((ad 18), .inl (cZ, 2, .inl sv))] [.ref (ad 0), .int x]) (vp_Si (fun r => r = -2)) 0 0 (fun _ => False) := by
  refine b_enterR (cc := cX3_save) (maxL := 2) (ret := (some .int)) (by decide) rfl (Nat.le_of_ble_eq_true rfl) ?_
  intro p e s m below meth c ls hx hb hr hml hown hts hlocks hP hK hl Q hQ
  have hown : s.vm.findClass RX3 = some m.cls := hown
  have hl : lv_has ls 2 [(0, .ref (ad 0)), (1, .int x)] := hl
  refine lv_iload_n (pc := 0) hx hb dX3_save_0 rfl (lv_at hl 1 rfl) ?_
  refine b_cR (pc := 1) (va_runS (As := [.int x]) (rest := []) ⟨hx, hb, hml, hown, hts⟩ (c_X3_isNoSlot l D cI cC cZ cG x) (va_cwS 1 hts gX3_save_X3_isNoSlot rfl rfl rfl hyS_X3_isNoSlot ⟨Nat.le_of_ble_eq_true rfl, Nat.le_of_ble_eq_true rfl⟩) (b_pRS (wc := []) hK hP [] rfl) rfl rfl hl.1 rfl (lv_room (Nat.le_of_ble_eq_true rfl)) dX3_save_1 ⟨Nat.zero_le _, Nat.zero_le _⟩) ?_
  refine lv_if_eq (pc := 4) (tgt := 10) hx hb dX3_save_4 (by decide) (fun c_1 => ?_) (fun c_1 => ?_)
  · skip
    have c_1 : ¬ (x < 0 ∨ ¬ x < 2) := b_i_0.mp c_1
    exact absurd hbad c_1
  · skip
    have c_1 : x < 0 ∨ ¬ x < 2 := Classical.not_not.mp (fun h9 => c_1 (b_i_0.mpr h9))
    refine lv_bipush (pc := 7) (v := (-2)) hx hb dX3_save_7 (by decide) ?_
    subst hQ
    exact b_retR hx hb hr hlocks (rfl) dX3_save_9
set_option maxHeartbeats 4000000 in
set_option maxRecDepth 100000 in
theorem c_X3_restore_bad (l : Launch) (D : va_G) (cI cC cZ cG : ClassId) (ad : Nat → Nat) (f : Nat → Int32) (f2 : Nat → Int32) (tx : Nat → Int32) (n : Nat) (nx : Nat) (sn : Nat) (R : Nat → Nat → Int32) (SL : Nat → Nat → Int32) (sv : Nat → Int32) (x : Int32) (hn60 : n ≤ 60) (hnx : nx < 6) (hsn : sn ≤ 6) (hbad : x < 0 ∨ ¬ x < 2) : Met l yX3_restore wsX3_restore ({ frames := 1, cells := 0, slots := 0, locals := 20 } : Room) (b_R D (b_T cI cC cZ cG) [((ad 0), .inr (3, [.ref (ad 1), .ref (ad 3), .ref (ad 5), .ref (ad 7), .ref (ad 15), .ref (ad 18)])), ((ad 1), .inr (0, [.ref (ad 2)])), ((ad 2), .inl (cI, 86, .inl f)), ((ad 3), .inr (0, [.ref (ad 4)])), ((ad 4), .inl (cI, 86, .inl f2)), ((ad 5), .inr (2, [.ref (ad 6), .int (nI n)])), ((ad 6), .inl (cC, 60, .inl tx)), ((ad 7), .inr (1, [.ref (ad 8), .int (nI nx), .int (nI sn)])), ((ad 8), .inl (cG, 6, .inr (.inr (.inr (.inr (fun i => ([(ad 9), (ad 10), (ad 11), (ad 12), (ad 13), (ad 14)] : List Nat)[i]?)))))), ((ad 9), .inl (cI, 86, .inl (R 0))), ((ad 10), .inl (cI, 86, .inl (R 1))), ((ad 11), .inl (cI, 86, .inl (R 2))), ((ad 12), .inl (cI, 86, .inl (R 3))), ((ad 13), .inl (cI, 86, .inl (R 4))), ((ad 14), .inl (cI, 86, .inl (R 5))), ((ad 15), .inl (cG, 2, .inr (.inr (.inr (.inr (fun i => ([(ad 16), (ad 17)] : List Nat)[i]?)))))), ((ad 16), .inl (cI, 86, .inl (SL 0))), ((ad 17), .inl (cI, 86, .inl (SL 1))), ((ad 18), .inl (cZ, 2, .inl sv))] [.ref (ad 0), .int x]) (vp_Si (fun r => r = -2)) 0 0 (fun _ => False) := by
  refine b_enterR (cc := cX3_restore) (maxL := 2) (ret := (some .int)) (by decide) rfl (Nat.le_of_ble_eq_true rfl) ?_
  intro p e s m below meth c ls hx hb hr hml hown hts hlocks hP hK hl Q hQ
  have hown : s.vm.findClass RX3 = some m.cls := hown
  have hl : lv_has ls 2 [(0, .ref (ad 0)), (1, .int x)] := hl
  refine lv_iload_n (pc := 0) hx hb dX3_restore_0 rfl (lv_at hl 1 rfl) ?_
  refine b_cR (pc := 1) (va_runS (As := [.int x]) (rest := []) ⟨hx, hb, hml, hown, hts⟩ (c_X3_isNoSlot l D cI cC cZ cG x) (va_cwS 1 hts gX3_restore_X3_isNoSlot rfl rfl rfl hyS_X3_isNoSlot ⟨Nat.le_of_ble_eq_true rfl, Nat.le_of_ble_eq_true rfl⟩) (b_pRS (wc := []) hK hP [] rfl) rfl rfl hl.1 rfl (lv_room (Nat.le_of_ble_eq_true rfl)) dX3_restore_1 ⟨Nat.zero_le _, Nat.zero_le _⟩) ?_
  refine lv_if_eq (pc := 4) (tgt := 10) hx hb dX3_restore_4 (by decide) (fun c_1 => ?_) (fun c_1 => ?_)
  · skip
    have c_1 : ¬ (x < 0 ∨ ¬ x < 2) := b_i_0.mp c_1
    exact absurd hbad c_1
  · skip
    have c_1 : x < 0 ∨ ¬ x < 2 := Classical.not_not.mp (fun h9 => c_1 (b_i_0.mpr h9))
    refine lv_bipush (pc := 7) (v := (-2)) hx hb dX3_restore_7 (by decide) ?_
    subst hQ
    exact b_retR hx hb hr hlocks (rfl) dX3_restore_9
theorem hw_X3_save_save_0_0 : (.fieldLink RX3 10 "BeamTurnstiles" "hall" "LBeamTurnstiles$Hall;" : Cond) ∈ wsX3_save := by decide +kernel
theorem hi_X3_save_save_0_X3 : ∀ w ∈ wsX30, w ∈ wsX3_save := by decide +kernel
theorem hw_X3_save_save_0_2 : (.fieldLink RX3 49 "BeamTurnstiles$Hall" "row" "[I" : Cond) ∈ wsX3_save := by decide +kernel
theorem hi_X3_save_save_0_X0 : ∀ w ∈ wsX00, w ∈ wsX3_save := by decide +kernel
theorem hw_X3_save_save_0_4 : (.fieldLink RX3 35 "BeamTurnstiles" "slots" "[[I" : Cond) ∈ wsX3_save := by decide +kernel
theorem hw_X3_save_save_0_5 : (.fieldLink RX3 38 "BeamTurnstiles" "saved" "[Z" : Cond) ∈ wsX3_save := by decide +kernel
set_option maxHeartbeats 4000000 in
set_option maxRecDepth 100000 in
theorem c_X3_save_save_0 (l : Launch) (D : va_G) (cI cC cZ cG : ClassId) (tb lo hi : Nat) (sz : Nat) (ad : Nat → Nat) (f : Nat → Int32) (f2 : Nat → Int32) (tx : Nat → Int32) (n : Nat) (nx : Nat) (sn : Nat) (R : Nat → Nat → Int32) (SL : Nat → Nat → Int32) (sv : Nat → Int32) (hn60 : n ≤ 60) (hnx : nx < 6) (hsn : sn ≤ 6) : Met l yX3_save wsX3_save ({ frames := 2, cells := 0, slots := 0, locals := 51 } : Room) (b_W D (b_T cI cC cZ cG) (b_X tb lo hi) [((ad 0), .inr (3, [.ref (ad 1), .ref (ad 3), .ref (ad 5), .ref (ad 7), .ref (ad 15), .ref (ad 18)])), ((ad 1), .inr (0, [.ref (ad 2)])), ((ad 2), .inl (cI, 86, .inl f)), ((ad 3), .inr (0, [.ref (ad 4)])), ((ad 4), .inl (cI, 86, .inl f2)), ((ad 5), .inr (2, [.ref (ad 6), .int (nI n)])), ((ad 6), .inl (cC, 60, .inl tx)), ((ad 7), .inr (1, [.ref (ad 8), .int (nI nx), .int (nI sn)])), ((ad 8), .inl (cG, 6, .inr (.inr (.inr (.inr (fun i => ([(ad 9), (ad 10), (ad 11), (ad 12), (ad 13), (ad 14)] : List Nat)[i]?)))))), ((ad 9), .inl (cI, 86, .inl (R 0))), ((ad 10), .inl (cI, 86, .inl (R 1))), ((ad 11), .inl (cI, 86, .inl (R 2))), ((ad 12), .inl (cI, 86, .inl (R 3))), ((ad 13), .inl (cI, 86, .inl (R 4))), ((ad 14), .inl (cI, 86, .inl (R 5))), ((ad 15), .inl (cG, 2, .inr (.inr (.inr (.inr (fun i => ([(ad 16), (ad 17)] : List Nat)[i]?)))))), ((ad 16), .inl (cI, 86, .inl (SL 0))), ((ad 17), .inl (cI, 86, .inl (SL 1))), ((ad 18), .inl (cZ, 2, .inl sv))] sz [.ref (ad 0), .int (nI 0)]) (b_Qi D (f 4) [((ad 0), .inr (3, [.ref (ad 1), .ref (ad 3), .ref (ad 5), .ref (ad 7), .ref (ad 15), .ref (ad 18)])), ((ad 1), .inr (0, [.ref (ad 2)])), ((ad 2), .inl (cI, 86, .inl f)), ((ad 3), .inr (0, [.ref (ad 4)])), ((ad 4), .inl (cI, 86, .inl f2)), ((ad 5), .inr (2, [.ref (ad 6), .int (nI n)])), ((ad 6), .inl (cC, 60, .inl tx)), ((ad 7), .inr (1, [.ref (ad 8), .int (nI nx), .int (nI sn)])), ((ad 8), .inl (cG, 6, .inr (.inr (.inr (.inr (fun i => ([(ad 9), (ad 10), (ad 11), (ad 12), (ad 13), (ad 14)] : List Nat)[i]?)))))), ((ad 9), .inl (cI, 86, .inl (R 0))), ((ad 10), .inl (cI, 86, .inl (R 1))), ((ad 11), .inl (cI, 86, .inl (R 2))), ((ad 12), .inl (cI, 86, .inl (R 3))), ((ad 13), .inl (cI, 86, .inl (R 4))), ((ad 14), .inl (cI, 86, .inl (R 5))), ((ad 15), .inl (cG, 2, .inr (.inr (.inr (.inr (fun i => ([(ad 16), (ad 17)] : List Nat)[i]?)))))), ((ad 16), .inl (cI, 86, .inl (va_up SL 0 (va_cpy f (SL 0) 0 0 86) 0))), ((ad 17), .inl (cI, 86, .inl (va_up SL 0 (va_cpy f (SL 0) 0 0 86) 1))), ((ad 18), .inl (cZ, 2, .inl (upd sv 0 1)))] (va_A [((ad 0), .inr (3, [.ref (ad 1), .ref (ad 3), .ref (ad 5), .ref (ad 7), .ref (ad 15), .ref (ad 18)])), ((ad 1), .inr (0, [.ref (ad 2)])), ((ad 2), .inl (cI, 86, .inl f)), ((ad 3), .inr (0, [.ref (ad 4)])), ((ad 4), .inl (cI, 86, .inl f2)), ((ad 5), .inr (2, [.ref (ad 6), .int (nI n)])), ((ad 6), .inl (cC, 60, .inl tx)), ((ad 7), .inr (1, [.ref (ad 8), .int (nI nx), .int (nI sn)])), ((ad 8), .inl (cG, 6, .inr (.inr (.inr (.inr (fun i => ([(ad 9), (ad 10), (ad 11), (ad 12), (ad 13), (ad 14)] : List Nat)[i]?)))))), ((ad 9), .inl (cI, 86, .inl (R 0))), ((ad 10), .inl (cI, 86, .inl (R 1))), ((ad 11), .inl (cI, 86, .inl (R 2))), ((ad 12), .inl (cI, 86, .inl (R 3))), ((ad 13), .inl (cI, 86, .inl (R 4))), ((ad 14), .inl (cI, 86, .inl (R 5))), ((ad 15), .inl (cG, 2, .inr (.inr (.inr (.inr (fun i => ([(ad 16), (ad 17)] : List Nat)[i]?)))))), ((ad 16), .inl (cI, 86, .inl (SL 0))), ((ad 17), .inl (cI, 86, .inl (SL 1))), ((ad 18), .inl (cZ, 2, .inl sv))] sz)) 0 0 (va_A [((ad 0), .inr (3, [.ref (ad 1), .ref (ad 3), .ref (ad 5), .ref (ad 7), .ref (ad 15), .ref (ad 18)])), ((ad 1), .inr (0, [.ref (ad 2)])), ((ad 2), .inl (cI, 86, .inl f)), ((ad 3), .inr (0, [.ref (ad 4)])), ((ad 4), .inl (cI, 86, .inl f2)), ((ad 5), .inr (2, [.ref (ad 6), .int (nI n)])), ((ad 6), .inl (cC, 60, .inl tx)), ((ad 7), .inr (1, [.ref (ad 8), .int (nI nx), .int (nI sn)])), ((ad 8), .inl (cG, 6, .inr (.inr (.inr (.inr (fun i => ([(ad 9), (ad 10), (ad 11), (ad 12), (ad 13), (ad 14)] : List Nat)[i]?)))))), ((ad 9), .inl (cI, 86, .inl (R 0))), ((ad 10), .inl (cI, 86, .inl (R 1))), ((ad 11), .inl (cI, 86, .inl (R 2))), ((ad 12), .inl (cI, 86, .inl (R 3))), ((ad 13), .inl (cI, 86, .inl (R 4))), ((ad 14), .inl (cI, 86, .inl (R 5))), ((ad 15), .inl (cG, 2, .inr (.inr (.inr (.inr (fun i => ([(ad 16), (ad 17)] : List Nat)[i]?)))))), ((ad 16), .inl (cI, 86, .inl (SL 0))), ((ad 17), .inl (cI, 86, .inl (SL 1))), ((ad 18), .inl (cZ, 2, .inl sv))] sz) := by
  refine b_enterW (Qc := fun A => b_Qi D (f 4) [((ad 0), .inr (3, [.ref (ad 1), .ref (ad 3), .ref (ad 5), .ref (ad 7), .ref (ad 15), .ref (ad 18)])), ((ad 1), .inr (0, [.ref (ad 2)])), ((ad 2), .inl (cI, 86, .inl f)), ((ad 3), .inr (0, [.ref (ad 4)])), ((ad 4), .inl (cI, 86, .inl f2)), ((ad 5), .inr (2, [.ref (ad 6), .int (nI n)])), ((ad 6), .inl (cC, 60, .inl tx)), ((ad 7), .inr (1, [.ref (ad 8), .int (nI nx), .int (nI sn)])), ((ad 8), .inl (cG, 6, .inr (.inr (.inr (.inr (fun i => ([(ad 9), (ad 10), (ad 11), (ad 12), (ad 13), (ad 14)] : List Nat)[i]?)))))), ((ad 9), .inl (cI, 86, .inl (R 0))), ((ad 10), .inl (cI, 86, .inl (R 1))), ((ad 11), .inl (cI, 86, .inl (R 2))), ((ad 12), .inl (cI, 86, .inl (R 3))), ((ad 13), .inl (cI, 86, .inl (R 4))), ((ad 14), .inl (cI, 86, .inl (R 5))), ((ad 15), .inl (cG, 2, .inr (.inr (.inr (.inr (fun i => ([(ad 16), (ad 17)] : List Nat)[i]?)))))), ((ad 16), .inl (cI, 86, .inl (va_up SL 0 (va_cpy f (SL 0) 0 0 86) 0))), ((ad 17), .inl (cI, 86, .inl (va_up SL 0 (va_cpy f (SL 0) 0 0 86) 1))), ((ad 18), .inl (cZ, 2, .inl (upd sv 0 1)))] A) (cc := cX3_save) (maxL := 2) (ret := (some .int)) (by decide) rfl (Nat.le_of_ble_eq_true rfl) ?_
  intro p e s m below meth c ls A hx hb hr hml hown hts hlocks hname hP hK hD hA hS hX hl Q hQ
  have hown : s.vm.findClass RX3 = some m.cls := hown
  have hl : lv_has ls 2 [(0, .ref (ad 0)), (1, .int (nI 0))] := hl
  refine lv_iload_n (pc := 0) hx hb dX3_save_0 rfl (lv_at hl 1 rfl) ?_
  refine b_cR (pc := 1) (va_runS (As := [.int (nI 0)]) (rest := []) ⟨hx, hb, hml, hown, hts⟩ (c_X3_isNoSlot l D cI cC cZ cG (nI 0)) (va_cwS 1 hts gX3_save_X3_isNoSlot rfl rfl rfl hyS_X3_isNoSlot ⟨Nat.le_of_ble_eq_true rfl, Nat.le_of_ble_eq_true rfl⟩) (b_pRS (wc := []) hK hP [] rfl) rfl rfl hl.1 rfl (lv_room (Nat.le_of_ble_eq_true rfl)) dX3_save_1 ⟨Nat.zero_le _, Nat.zero_le _⟩) ?_
  refine lv_if_eq (pc := 4) (tgt := 10) hx hb dX3_save_4 (by decide) (fun c_1 => ?_) (fun c_1 => ?_)
  · skip
    have c_1 : ¬ ((nI 0) < 0 ∨ ¬ (nI 0) < 2) := b_i_0.mp c_1
    refine lv_aload_n (pc := 10) hx hb dX3_save_10 rfl (lv_at hl 0 rfl) ?_
    refine va_get (pc := 11) (D := D) (ci := 3) (v := .ref (ad 1)) (C := RX3) (T := TX3) (N := 6) hx hb hts hi_X3_save_save_0_X3 hown hK hP 0 rfl rfl 0 (by decide) (hts _ hw_X3_save_save_0_0) (fun _ h9 => h9) rfl dX3_save_11 ?_
    refine va_get (pc := 14) (D := D) (ci := 0) (v := .ref (ad 2)) (C := RX0) (T := TX0) (N := 1) hx hb hts hi_X3_save_save_0_X0 hown hK hP 1 rfl rfl 0 (by decide) (hts _ hw_X3_save_save_0_2) (fun _ h9 => h9) rfl dX3_save_14 ?_
    refine lv_aload_n (pc := 17) hx hb dX3_save_17 rfl (lv_at hl 0 rfl) ?_
    refine va_get (pc := 18) (D := D) (ci := 3) (v := .ref (ad 15)) (C := RX3) (T := TX3) (N := 6) hx hb hts hi_X3_save_save_0_X3 hown hK hP 0 rfl rfl 4 (by decide) (hts _ hw_X3_save_save_0_4) (fun _ h9 => h9) rfl dX3_save_18 ?_
    refine lv_iload_n (pc := 21) hx hb dX3_save_21 rfl (lv_at hl 1 rfl) ?_
    refine b_gald (pc := 22) (r := (ad 16)) hx hb hK hP 15 3 rfl rfl 0 rfl (by decide) (by decide) rfl dX3_save_22 ?_
    refine b_cV (pc := 23) (w1 := [((ad 2), .inl (cI, 86, .inl f)), ((ad 16), .inl (cI, 86, .inl (va_cpy f (SL 0) 0 0 86)))]) (va_runS (As := [.ref (ad 2), .ref (ad 16)]) (rest := []) ⟨hx, hb, hml, hown, hts⟩ (c_X3_copyRow l D cI cC cZ cG tb lo hi s.heap.size (ad 2) (ad 16) f (SL 0)) (va_cwS 2 hts gX3_save_X3_copyRow rfl rfl rfl hyS_X3_copyRow ⟨Nat.le_of_ble_eq_true rfl, Nat.le_of_ble_eq_true rfl⟩) (b_pWS (wc := [((ad 2), .inl (cI, 86, .inl f)), ((ad 16), .inl (cI, 86, .inl (SL 0)))]) hK hP hD (b_Xok_X tb lo hi) [2, 16] rfl (by decide) rfl (b_Xc hX hD hS hA [2, 16] rfl)) rfl rfl hl.1 rfl (lv_room (Nat.le_of_ble_eq_true rfl)) dX3_save_23 ⟨Nat.zero_le _, Nat.zero_le _⟩) hP hD hS hA [2, 16] rfl rfl (fun H locs hP hD hS => ?_)
    have hP : va_P D vwCl [((ad 0), .inr (3, [.ref (ad 1), .ref (ad 3), .ref (ad 5), .ref (ad 7), .ref (ad 15), .ref (ad 18)])), ((ad 1), .inr (0, [.ref (ad 2)])), ((ad 2), .inl (cI, 86, .inl f)), ((ad 3), .inr (0, [.ref (ad 4)])), ((ad 4), .inl (cI, 86, .inl f2)), ((ad 5), .inr (2, [.ref (ad 6), .int (nI n)])), ((ad 6), .inl (cC, 60, .inl tx)), ((ad 7), .inr (1, [.ref (ad 8), .int (nI nx), .int (nI sn)])), ((ad 8), .inl (cG, 6, .inr (.inr (.inr (.inr (fun i => ([(ad 9), (ad 10), (ad 11), (ad 12), (ad 13), (ad 14)] : List Nat)[i]?)))))), ((ad 9), .inl (cI, 86, .inl (R 0))), ((ad 10), .inl (cI, 86, .inl (R 1))), ((ad 11), .inl (cI, 86, .inl (R 2))), ((ad 12), .inl (cI, 86, .inl (R 3))), ((ad 13), .inl (cI, 86, .inl (R 4))), ((ad 14), .inl (cI, 86, .inl (R 5))), ((ad 15), .inl (cG, 2, .inr (.inr (.inr (.inr (fun i => ([(ad 16), (ad 17)] : List Nat)[i]?)))))), ((ad 16), .inl (cI, 86, .inl (va_cpy f (SL 0) 0 0 86))), ((ad 17), .inl (cI, 86, .inl (SL 1))), ((ad 18), .inl (cZ, 2, .inl sv))] H := hP
    have hD : va_D A [((ad 0), .inr (3, [.ref (ad 1), .ref (ad 3), .ref (ad 5), .ref (ad 7), .ref (ad 15), .ref (ad 18)])), ((ad 1), .inr (0, [.ref (ad 2)])), ((ad 2), .inl (cI, 86, .inl f)), ((ad 3), .inr (0, [.ref (ad 4)])), ((ad 4), .inl (cI, 86, .inl f2)), ((ad 5), .inr (2, [.ref (ad 6), .int (nI n)])), ((ad 6), .inl (cC, 60, .inl tx)), ((ad 7), .inr (1, [.ref (ad 8), .int (nI nx), .int (nI sn)])), ((ad 8), .inl (cG, 6, .inr (.inr (.inr (.inr (fun i => ([(ad 9), (ad 10), (ad 11), (ad 12), (ad 13), (ad 14)] : List Nat)[i]?)))))), ((ad 9), .inl (cI, 86, .inl (R 0))), ((ad 10), .inl (cI, 86, .inl (R 1))), ((ad 11), .inl (cI, 86, .inl (R 2))), ((ad 12), .inl (cI, 86, .inl (R 3))), ((ad 13), .inl (cI, 86, .inl (R 4))), ((ad 14), .inl (cI, 86, .inl (R 5))), ((ad 15), .inl (cG, 2, .inr (.inr (.inr (.inr (fun i => ([(ad 16), (ad 17)] : List Nat)[i]?)))))), ((ad 16), .inl (cI, 86, .inl (va_cpy f (SL 0) 0 0 86))), ((ad 17), .inl (cI, 86, .inl (SL 1))), ((ad 18), .inl (cZ, 2, .inl sv))] := hD
    refine lv_aload_n (pc := 26) hx hb dX3_save_26 rfl (lv_at hl 0 rfl) ?_
    refine va_get (pc := 27) (D := D) (ci := 3) (v := .ref (ad 18)) (C := RX3) (T := TX3) (N := 6) hx hb hts hi_X3_save_save_0_X3 hown hK hP 0 rfl rfl 5 (by decide) (hts _ hw_X3_save_save_0_5) (fun _ h9 => h9) rfl dX3_save_27 ?_
    refine lv_iload_n (pc := 30) hx hb dX3_save_30 rfl (lv_at hl 1 rfl) ?_
    refine lv_iconst (pc := 31) (v := 1) hx hb dX3_save_31 (by decide) ?_
    refine b_zast (pc := 32) (z := 1) hx hb hK hP hD hS 18 2 rfl rfl 0 rfl (by omega) (by decide) (by decide) dX3_save_32 (fun H locs hP hD hS => ?_)
    obtain ⟨f_2, ef_2⟩ : ∃ z9 : Nat → Int32, z9 = upd sv 0 1 := ⟨_, rfl⟩
    have hP : va_P D vwCl [((ad 0), .inr (3, [.ref (ad 1), .ref (ad 3), .ref (ad 5), .ref (ad 7), .ref (ad 15), .ref (ad 18)])), ((ad 1), .inr (0, [.ref (ad 2)])), ((ad 2), .inl (cI, 86, .inl f)), ((ad 3), .inr (0, [.ref (ad 4)])), ((ad 4), .inl (cI, 86, .inl f2)), ((ad 5), .inr (2, [.ref (ad 6), .int (nI n)])), ((ad 6), .inl (cC, 60, .inl tx)), ((ad 7), .inr (1, [.ref (ad 8), .int (nI nx), .int (nI sn)])), ((ad 8), .inl (cG, 6, .inr (.inr (.inr (.inr (fun i => ([(ad 9), (ad 10), (ad 11), (ad 12), (ad 13), (ad 14)] : List Nat)[i]?)))))), ((ad 9), .inl (cI, 86, .inl (R 0))), ((ad 10), .inl (cI, 86, .inl (R 1))), ((ad 11), .inl (cI, 86, .inl (R 2))), ((ad 12), .inl (cI, 86, .inl (R 3))), ((ad 13), .inl (cI, 86, .inl (R 4))), ((ad 14), .inl (cI, 86, .inl (R 5))), ((ad 15), .inl (cG, 2, .inr (.inr (.inr (.inr (fun i => ([(ad 16), (ad 17)] : List Nat)[i]?)))))), ((ad 16), .inl (cI, 86, .inl (va_cpy f (SL 0) 0 0 86))), ((ad 17), .inl (cI, 86, .inl (SL 1))), ((ad 18), .inl (cZ, 2, .inl f_2))] H := by rw [ef_2]; exact hP
    have hD : va_D A [((ad 0), .inr (3, [.ref (ad 1), .ref (ad 3), .ref (ad 5), .ref (ad 7), .ref (ad 15), .ref (ad 18)])), ((ad 1), .inr (0, [.ref (ad 2)])), ((ad 2), .inl (cI, 86, .inl f)), ((ad 3), .inr (0, [.ref (ad 4)])), ((ad 4), .inl (cI, 86, .inl f2)), ((ad 5), .inr (2, [.ref (ad 6), .int (nI n)])), ((ad 6), .inl (cC, 60, .inl tx)), ((ad 7), .inr (1, [.ref (ad 8), .int (nI nx), .int (nI sn)])), ((ad 8), .inl (cG, 6, .inr (.inr (.inr (.inr (fun i => ([(ad 9), (ad 10), (ad 11), (ad 12), (ad 13), (ad 14)] : List Nat)[i]?)))))), ((ad 9), .inl (cI, 86, .inl (R 0))), ((ad 10), .inl (cI, 86, .inl (R 1))), ((ad 11), .inl (cI, 86, .inl (R 2))), ((ad 12), .inl (cI, 86, .inl (R 3))), ((ad 13), .inl (cI, 86, .inl (R 4))), ((ad 14), .inl (cI, 86, .inl (R 5))), ((ad 15), .inl (cG, 2, .inr (.inr (.inr (.inr (fun i => ([(ad 16), (ad 17)] : List Nat)[i]?)))))), ((ad 16), .inl (cI, 86, .inl (va_cpy f (SL 0) 0 0 86))), ((ad 17), .inl (cI, 86, .inl (SL 1))), ((ad 18), .inl (cZ, 2, .inl f_2))] := by rw [ef_2]; exact hD
    refine lv_aload_n (pc := 33) hx hb dX3_save_33 rfl (lv_at hl 0 rfl) ?_
    refine va_get (pc := 34) (D := D) (ci := 3) (v := .ref (ad 1)) (C := RX3) (T := TX3) (N := 6) hx hb hts hi_X3_save_save_0_X3 hown hK hP 0 rfl rfl 0 (by decide) (hts _ hw_X3_save_save_0_0) (fun _ h9 => h9) rfl dX3_save_34 ?_
    refine va_get (pc := 37) (D := D) (ci := 0) (v := .ref (ad 2)) (C := RX0) (T := TX0) (N := 1) hx hb hts hi_X3_save_save_0_X0 hown hK hP 1 rfl rfl 0 (by decide) (hts _ hw_X3_save_save_0_2) (fun _ h9 => h9) rfl dX3_save_37 ?_
    refine lv_iconst (pc := 40) (v := 4) hx hb dX3_save_40 (by decide) ?_
    refine b_iald (pc := 41) hx hb hK hP 2 0 rfl rfl 4 rfl (by omega) (by decide) dX3_save_41 ?_
    subst ef_2
    subst hQ
    exact b_retW hx hb hr hlocks hS (rfl) (hP) dX3_save_42
  · skip
    have c_1 : (nI 0) < 0 ∨ ¬ (nI 0) < 2 := Classical.not_not.mp (fun h9 => c_1 (b_i_0.mpr h9))
    exact absurd c_1 (p_ns_no (by decide))
theorem hw_X3_save_save_1_0 : (.fieldLink RX3 10 "BeamTurnstiles" "hall" "LBeamTurnstiles$Hall;" : Cond) ∈ wsX3_save := by decide +kernel
theorem hi_X3_save_save_1_X3 : ∀ w ∈ wsX30, w ∈ wsX3_save := by decide +kernel
theorem hw_X3_save_save_1_2 : (.fieldLink RX3 49 "BeamTurnstiles$Hall" "row" "[I" : Cond) ∈ wsX3_save := by decide +kernel
theorem hi_X3_save_save_1_X0 : ∀ w ∈ wsX00, w ∈ wsX3_save := by decide +kernel
theorem hw_X3_save_save_1_4 : (.fieldLink RX3 35 "BeamTurnstiles" "slots" "[[I" : Cond) ∈ wsX3_save := by decide +kernel
theorem hw_X3_save_save_1_5 : (.fieldLink RX3 38 "BeamTurnstiles" "saved" "[Z" : Cond) ∈ wsX3_save := by decide +kernel
set_option maxHeartbeats 4000000 in
set_option maxRecDepth 100000 in
theorem c_X3_save_save_1 (l : Launch) (D : va_G) (cI cC cZ cG : ClassId) (tb lo hi : Nat) (sz : Nat) (ad : Nat → Nat) (f : Nat → Int32) (f2 : Nat → Int32) (tx : Nat → Int32) (n : Nat) (nx : Nat) (sn : Nat) (R : Nat → Nat → Int32) (SL : Nat → Nat → Int32) (sv : Nat → Int32) (hn60 : n ≤ 60) (hnx : nx < 6) (hsn : sn ≤ 6) : Met l yX3_save wsX3_save ({ frames := 2, cells := 0, slots := 0, locals := 51 } : Room) (b_W D (b_T cI cC cZ cG) (b_X tb lo hi) [((ad 0), .inr (3, [.ref (ad 1), .ref (ad 3), .ref (ad 5), .ref (ad 7), .ref (ad 15), .ref (ad 18)])), ((ad 1), .inr (0, [.ref (ad 2)])), ((ad 2), .inl (cI, 86, .inl f)), ((ad 3), .inr (0, [.ref (ad 4)])), ((ad 4), .inl (cI, 86, .inl f2)), ((ad 5), .inr (2, [.ref (ad 6), .int (nI n)])), ((ad 6), .inl (cC, 60, .inl tx)), ((ad 7), .inr (1, [.ref (ad 8), .int (nI nx), .int (nI sn)])), ((ad 8), .inl (cG, 6, .inr (.inr (.inr (.inr (fun i => ([(ad 9), (ad 10), (ad 11), (ad 12), (ad 13), (ad 14)] : List Nat)[i]?)))))), ((ad 9), .inl (cI, 86, .inl (R 0))), ((ad 10), .inl (cI, 86, .inl (R 1))), ((ad 11), .inl (cI, 86, .inl (R 2))), ((ad 12), .inl (cI, 86, .inl (R 3))), ((ad 13), .inl (cI, 86, .inl (R 4))), ((ad 14), .inl (cI, 86, .inl (R 5))), ((ad 15), .inl (cG, 2, .inr (.inr (.inr (.inr (fun i => ([(ad 16), (ad 17)] : List Nat)[i]?)))))), ((ad 16), .inl (cI, 86, .inl (SL 0))), ((ad 17), .inl (cI, 86, .inl (SL 1))), ((ad 18), .inl (cZ, 2, .inl sv))] sz [.ref (ad 0), .int (nI 1)]) (b_Qi D (f 4) [((ad 0), .inr (3, [.ref (ad 1), .ref (ad 3), .ref (ad 5), .ref (ad 7), .ref (ad 15), .ref (ad 18)])), ((ad 1), .inr (0, [.ref (ad 2)])), ((ad 2), .inl (cI, 86, .inl f)), ((ad 3), .inr (0, [.ref (ad 4)])), ((ad 4), .inl (cI, 86, .inl f2)), ((ad 5), .inr (2, [.ref (ad 6), .int (nI n)])), ((ad 6), .inl (cC, 60, .inl tx)), ((ad 7), .inr (1, [.ref (ad 8), .int (nI nx), .int (nI sn)])), ((ad 8), .inl (cG, 6, .inr (.inr (.inr (.inr (fun i => ([(ad 9), (ad 10), (ad 11), (ad 12), (ad 13), (ad 14)] : List Nat)[i]?)))))), ((ad 9), .inl (cI, 86, .inl (R 0))), ((ad 10), .inl (cI, 86, .inl (R 1))), ((ad 11), .inl (cI, 86, .inl (R 2))), ((ad 12), .inl (cI, 86, .inl (R 3))), ((ad 13), .inl (cI, 86, .inl (R 4))), ((ad 14), .inl (cI, 86, .inl (R 5))), ((ad 15), .inl (cG, 2, .inr (.inr (.inr (.inr (fun i => ([(ad 16), (ad 17)] : List Nat)[i]?)))))), ((ad 16), .inl (cI, 86, .inl (va_up SL 1 (va_cpy f (SL 1) 0 0 86) 0))), ((ad 17), .inl (cI, 86, .inl (va_up SL 1 (va_cpy f (SL 1) 0 0 86) 1))), ((ad 18), .inl (cZ, 2, .inl (upd sv 1 1)))] (va_A [((ad 0), .inr (3, [.ref (ad 1), .ref (ad 3), .ref (ad 5), .ref (ad 7), .ref (ad 15), .ref (ad 18)])), ((ad 1), .inr (0, [.ref (ad 2)])), ((ad 2), .inl (cI, 86, .inl f)), ((ad 3), .inr (0, [.ref (ad 4)])), ((ad 4), .inl (cI, 86, .inl f2)), ((ad 5), .inr (2, [.ref (ad 6), .int (nI n)])), ((ad 6), .inl (cC, 60, .inl tx)), ((ad 7), .inr (1, [.ref (ad 8), .int (nI nx), .int (nI sn)])), ((ad 8), .inl (cG, 6, .inr (.inr (.inr (.inr (fun i => ([(ad 9), (ad 10), (ad 11), (ad 12), (ad 13), (ad 14)] : List Nat)[i]?)))))), ((ad 9), .inl (cI, 86, .inl (R 0))), ((ad 10), .inl (cI, 86, .inl (R 1))), ((ad 11), .inl (cI, 86, .inl (R 2))), ((ad 12), .inl (cI, 86, .inl (R 3))), ((ad 13), .inl (cI, 86, .inl (R 4))), ((ad 14), .inl (cI, 86, .inl (R 5))), ((ad 15), .inl (cG, 2, .inr (.inr (.inr (.inr (fun i => ([(ad 16), (ad 17)] : List Nat)[i]?)))))), ((ad 16), .inl (cI, 86, .inl (SL 0))), ((ad 17), .inl (cI, 86, .inl (SL 1))), ((ad 18), .inl (cZ, 2, .inl sv))] sz)) 0 0 (va_A [((ad 0), .inr (3, [.ref (ad 1), .ref (ad 3), .ref (ad 5), .ref (ad 7), .ref (ad 15), .ref (ad 18)])), ((ad 1), .inr (0, [.ref (ad 2)])), ((ad 2), .inl (cI, 86, .inl f)), ((ad 3), .inr (0, [.ref (ad 4)])), ((ad 4), .inl (cI, 86, .inl f2)), ((ad 5), .inr (2, [.ref (ad 6), .int (nI n)])), ((ad 6), .inl (cC, 60, .inl tx)), ((ad 7), .inr (1, [.ref (ad 8), .int (nI nx), .int (nI sn)])), ((ad 8), .inl (cG, 6, .inr (.inr (.inr (.inr (fun i => ([(ad 9), (ad 10), (ad 11), (ad 12), (ad 13), (ad 14)] : List Nat)[i]?)))))), ((ad 9), .inl (cI, 86, .inl (R 0))), ((ad 10), .inl (cI, 86, .inl (R 1))), ((ad 11), .inl (cI, 86, .inl (R 2))), ((ad 12), .inl (cI, 86, .inl (R 3))), ((ad 13), .inl (cI, 86, .inl (R 4))), ((ad 14), .inl (cI, 86, .inl (R 5))), ((ad 15), .inl (cG, 2, .inr (.inr (.inr (.inr (fun i => ([(ad 16), (ad 17)] : List Nat)[i]?)))))), ((ad 16), .inl (cI, 86, .inl (SL 0))), ((ad 17), .inl (cI, 86, .inl (SL 1))), ((ad 18), .inl (cZ, 2, .inl sv))] sz) := by
  refine b_enterW (Qc := fun A => b_Qi D (f 4) [((ad 0), .inr (3, [.ref (ad 1), .ref (ad 3), .ref (ad 5), .ref (ad 7), .ref (ad 15), .ref (ad 18)])), ((ad 1), .inr (0, [.ref (ad 2)])), ((ad 2), .inl (cI, 86, .inl f)), ((ad 3), .inr (0, [.ref (ad 4)])), ((ad 4), .inl (cI, 86, .inl f2)), ((ad 5), .inr (2, [.ref (ad 6), .int (nI n)])), ((ad 6), .inl (cC, 60, .inl tx)), ((ad 7), .inr (1, [.ref (ad 8), .int (nI nx), .int (nI sn)])), ((ad 8), .inl (cG, 6, .inr (.inr (.inr (.inr (fun i => ([(ad 9), (ad 10), (ad 11), (ad 12), (ad 13), (ad 14)] : List Nat)[i]?)))))), ((ad 9), .inl (cI, 86, .inl (R 0))), ((ad 10), .inl (cI, 86, .inl (R 1))), ((ad 11), .inl (cI, 86, .inl (R 2))), ((ad 12), .inl (cI, 86, .inl (R 3))), ((ad 13), .inl (cI, 86, .inl (R 4))), ((ad 14), .inl (cI, 86, .inl (R 5))), ((ad 15), .inl (cG, 2, .inr (.inr (.inr (.inr (fun i => ([(ad 16), (ad 17)] : List Nat)[i]?)))))), ((ad 16), .inl (cI, 86, .inl (va_up SL 1 (va_cpy f (SL 1) 0 0 86) 0))), ((ad 17), .inl (cI, 86, .inl (va_up SL 1 (va_cpy f (SL 1) 0 0 86) 1))), ((ad 18), .inl (cZ, 2, .inl (upd sv 1 1)))] A) (cc := cX3_save) (maxL := 2) (ret := (some .int)) (by decide) rfl (Nat.le_of_ble_eq_true rfl) ?_
  intro p e s m below meth c ls A hx hb hr hml hown hts hlocks hname hP hK hD hA hS hX hl Q hQ
  have hown : s.vm.findClass RX3 = some m.cls := hown
  have hl : lv_has ls 2 [(0, .ref (ad 0)), (1, .int (nI 1))] := hl
  refine lv_iload_n (pc := 0) hx hb dX3_save_0 rfl (lv_at hl 1 rfl) ?_
  refine b_cR (pc := 1) (va_runS (As := [.int (nI 1)]) (rest := []) ⟨hx, hb, hml, hown, hts⟩ (c_X3_isNoSlot l D cI cC cZ cG (nI 1)) (va_cwS 1 hts gX3_save_X3_isNoSlot rfl rfl rfl hyS_X3_isNoSlot ⟨Nat.le_of_ble_eq_true rfl, Nat.le_of_ble_eq_true rfl⟩) (b_pRS (wc := []) hK hP [] rfl) rfl rfl hl.1 rfl (lv_room (Nat.le_of_ble_eq_true rfl)) dX3_save_1 ⟨Nat.zero_le _, Nat.zero_le _⟩) ?_
  refine lv_if_eq (pc := 4) (tgt := 10) hx hb dX3_save_4 (by decide) (fun c_1 => ?_) (fun c_1 => ?_)
  · skip
    have c_1 : ¬ ((nI 1) < 0 ∨ ¬ (nI 1) < 2) := b_i_0.mp c_1
    refine lv_aload_n (pc := 10) hx hb dX3_save_10 rfl (lv_at hl 0 rfl) ?_
    refine va_get (pc := 11) (D := D) (ci := 3) (v := .ref (ad 1)) (C := RX3) (T := TX3) (N := 6) hx hb hts hi_X3_save_save_1_X3 hown hK hP 0 rfl rfl 0 (by decide) (hts _ hw_X3_save_save_1_0) (fun _ h9 => h9) rfl dX3_save_11 ?_
    refine va_get (pc := 14) (D := D) (ci := 0) (v := .ref (ad 2)) (C := RX0) (T := TX0) (N := 1) hx hb hts hi_X3_save_save_1_X0 hown hK hP 1 rfl rfl 0 (by decide) (hts _ hw_X3_save_save_1_2) (fun _ h9 => h9) rfl dX3_save_14 ?_
    refine lv_aload_n (pc := 17) hx hb dX3_save_17 rfl (lv_at hl 0 rfl) ?_
    refine va_get (pc := 18) (D := D) (ci := 3) (v := .ref (ad 15)) (C := RX3) (T := TX3) (N := 6) hx hb hts hi_X3_save_save_1_X3 hown hK hP 0 rfl rfl 4 (by decide) (hts _ hw_X3_save_save_1_4) (fun _ h9 => h9) rfl dX3_save_18 ?_
    refine lv_iload_n (pc := 21) hx hb dX3_save_21 rfl (lv_at hl 1 rfl) ?_
    refine b_gald (pc := 22) (r := (ad 17)) hx hb hK hP 15 3 rfl rfl 1 rfl (by decide) (by decide) rfl dX3_save_22 ?_
    refine b_cV (pc := 23) (w1 := [((ad 2), .inl (cI, 86, .inl f)), ((ad 17), .inl (cI, 86, .inl (va_cpy f (SL 1) 0 0 86)))]) (va_runS (As := [.ref (ad 2), .ref (ad 17)]) (rest := []) ⟨hx, hb, hml, hown, hts⟩ (c_X3_copyRow l D cI cC cZ cG tb lo hi s.heap.size (ad 2) (ad 17) f (SL 1)) (va_cwS 2 hts gX3_save_X3_copyRow rfl rfl rfl hyS_X3_copyRow ⟨Nat.le_of_ble_eq_true rfl, Nat.le_of_ble_eq_true rfl⟩) (b_pWS (wc := [((ad 2), .inl (cI, 86, .inl f)), ((ad 17), .inl (cI, 86, .inl (SL 1)))]) hK hP hD (b_Xok_X tb lo hi) [2, 17] rfl (by decide) rfl (b_Xc hX hD hS hA [2, 17] rfl)) rfl rfl hl.1 rfl (lv_room (Nat.le_of_ble_eq_true rfl)) dX3_save_23 ⟨Nat.zero_le _, Nat.zero_le _⟩) hP hD hS hA [2, 17] rfl rfl (fun H locs hP hD hS => ?_)
    have hP : va_P D vwCl [((ad 0), .inr (3, [.ref (ad 1), .ref (ad 3), .ref (ad 5), .ref (ad 7), .ref (ad 15), .ref (ad 18)])), ((ad 1), .inr (0, [.ref (ad 2)])), ((ad 2), .inl (cI, 86, .inl f)), ((ad 3), .inr (0, [.ref (ad 4)])), ((ad 4), .inl (cI, 86, .inl f2)), ((ad 5), .inr (2, [.ref (ad 6), .int (nI n)])), ((ad 6), .inl (cC, 60, .inl tx)), ((ad 7), .inr (1, [.ref (ad 8), .int (nI nx), .int (nI sn)])), ((ad 8), .inl (cG, 6, .inr (.inr (.inr (.inr (fun i => ([(ad 9), (ad 10), (ad 11), (ad 12), (ad 13), (ad 14)] : List Nat)[i]?)))))), ((ad 9), .inl (cI, 86, .inl (R 0))), ((ad 10), .inl (cI, 86, .inl (R 1))), ((ad 11), .inl (cI, 86, .inl (R 2))), ((ad 12), .inl (cI, 86, .inl (R 3))), ((ad 13), .inl (cI, 86, .inl (R 4))), ((ad 14), .inl (cI, 86, .inl (R 5))), ((ad 15), .inl (cG, 2, .inr (.inr (.inr (.inr (fun i => ([(ad 16), (ad 17)] : List Nat)[i]?)))))), ((ad 16), .inl (cI, 86, .inl (SL 0))), ((ad 17), .inl (cI, 86, .inl (va_cpy f (SL 1) 0 0 86))), ((ad 18), .inl (cZ, 2, .inl sv))] H := hP
    have hD : va_D A [((ad 0), .inr (3, [.ref (ad 1), .ref (ad 3), .ref (ad 5), .ref (ad 7), .ref (ad 15), .ref (ad 18)])), ((ad 1), .inr (0, [.ref (ad 2)])), ((ad 2), .inl (cI, 86, .inl f)), ((ad 3), .inr (0, [.ref (ad 4)])), ((ad 4), .inl (cI, 86, .inl f2)), ((ad 5), .inr (2, [.ref (ad 6), .int (nI n)])), ((ad 6), .inl (cC, 60, .inl tx)), ((ad 7), .inr (1, [.ref (ad 8), .int (nI nx), .int (nI sn)])), ((ad 8), .inl (cG, 6, .inr (.inr (.inr (.inr (fun i => ([(ad 9), (ad 10), (ad 11), (ad 12), (ad 13), (ad 14)] : List Nat)[i]?)))))), ((ad 9), .inl (cI, 86, .inl (R 0))), ((ad 10), .inl (cI, 86, .inl (R 1))), ((ad 11), .inl (cI, 86, .inl (R 2))), ((ad 12), .inl (cI, 86, .inl (R 3))), ((ad 13), .inl (cI, 86, .inl (R 4))), ((ad 14), .inl (cI, 86, .inl (R 5))), ((ad 15), .inl (cG, 2, .inr (.inr (.inr (.inr (fun i => ([(ad 16), (ad 17)] : List Nat)[i]?)))))), ((ad 16), .inl (cI, 86, .inl (SL 0))), ((ad 17), .inl (cI, 86, .inl (va_cpy f (SL 1) 0 0 86))), ((ad 18), .inl (cZ, 2, .inl sv))] := hD
    refine lv_aload_n (pc := 26) hx hb dX3_save_26 rfl (lv_at hl 0 rfl) ?_
    refine va_get (pc := 27) (D := D) (ci := 3) (v := .ref (ad 18)) (C := RX3) (T := TX3) (N := 6) hx hb hts hi_X3_save_save_1_X3 hown hK hP 0 rfl rfl 5 (by decide) (hts _ hw_X3_save_save_1_5) (fun _ h9 => h9) rfl dX3_save_27 ?_
    refine lv_iload_n (pc := 30) hx hb dX3_save_30 rfl (lv_at hl 1 rfl) ?_
    refine lv_iconst (pc := 31) (v := 1) hx hb dX3_save_31 (by decide) ?_
    refine b_zast (pc := 32) (z := 1) hx hb hK hP hD hS 18 2 rfl rfl 1 rfl (by omega) (by decide) (by decide) dX3_save_32 (fun H locs hP hD hS => ?_)
    obtain ⟨f_2, ef_2⟩ : ∃ z9 : Nat → Int32, z9 = upd sv 1 1 := ⟨_, rfl⟩
    have hP : va_P D vwCl [((ad 0), .inr (3, [.ref (ad 1), .ref (ad 3), .ref (ad 5), .ref (ad 7), .ref (ad 15), .ref (ad 18)])), ((ad 1), .inr (0, [.ref (ad 2)])), ((ad 2), .inl (cI, 86, .inl f)), ((ad 3), .inr (0, [.ref (ad 4)])), ((ad 4), .inl (cI, 86, .inl f2)), ((ad 5), .inr (2, [.ref (ad 6), .int (nI n)])), ((ad 6), .inl (cC, 60, .inl tx)), ((ad 7), .inr (1, [.ref (ad 8), .int (nI nx), .int (nI sn)])), ((ad 8), .inl (cG, 6, .inr (.inr (.inr (.inr (fun i => ([(ad 9), (ad 10), (ad 11), (ad 12), (ad 13), (ad 14)] : List Nat)[i]?)))))), ((ad 9), .inl (cI, 86, .inl (R 0))), ((ad 10), .inl (cI, 86, .inl (R 1))), ((ad 11), .inl (cI, 86, .inl (R 2))), ((ad 12), .inl (cI, 86, .inl (R 3))), ((ad 13), .inl (cI, 86, .inl (R 4))), ((ad 14), .inl (cI, 86, .inl (R 5))), ((ad 15), .inl (cG, 2, .inr (.inr (.inr (.inr (fun i => ([(ad 16), (ad 17)] : List Nat)[i]?)))))), ((ad 16), .inl (cI, 86, .inl (SL 0))), ((ad 17), .inl (cI, 86, .inl (va_cpy f (SL 1) 0 0 86))), ((ad 18), .inl (cZ, 2, .inl f_2))] H := by rw [ef_2]; exact hP
    have hD : va_D A [((ad 0), .inr (3, [.ref (ad 1), .ref (ad 3), .ref (ad 5), .ref (ad 7), .ref (ad 15), .ref (ad 18)])), ((ad 1), .inr (0, [.ref (ad 2)])), ((ad 2), .inl (cI, 86, .inl f)), ((ad 3), .inr (0, [.ref (ad 4)])), ((ad 4), .inl (cI, 86, .inl f2)), ((ad 5), .inr (2, [.ref (ad 6), .int (nI n)])), ((ad 6), .inl (cC, 60, .inl tx)), ((ad 7), .inr (1, [.ref (ad 8), .int (nI nx), .int (nI sn)])), ((ad 8), .inl (cG, 6, .inr (.inr (.inr (.inr (fun i => ([(ad 9), (ad 10), (ad 11), (ad 12), (ad 13), (ad 14)] : List Nat)[i]?)))))), ((ad 9), .inl (cI, 86, .inl (R 0))), ((ad 10), .inl (cI, 86, .inl (R 1))), ((ad 11), .inl (cI, 86, .inl (R 2))), ((ad 12), .inl (cI, 86, .inl (R 3))), ((ad 13), .inl (cI, 86, .inl (R 4))), ((ad 14), .inl (cI, 86, .inl (R 5))), ((ad 15), .inl (cG, 2, .inr (.inr (.inr (.inr (fun i => ([(ad 16), (ad 17)] : List Nat)[i]?)))))), ((ad 16), .inl (cI, 86, .inl (SL 0))), ((ad 17), .inl (cI, 86, .inl (va_cpy f (SL 1) 0 0 86))), ((ad 18), .inl (cZ, 2, .inl f_2))] := by rw [ef_2]; exact hD
    refine lv_aload_n (pc := 33) hx hb dX3_save_33 rfl (lv_at hl 0 rfl) ?_
    refine va_get (pc := 34) (D := D) (ci := 3) (v := .ref (ad 1)) (C := RX3) (T := TX3) (N := 6) hx hb hts hi_X3_save_save_1_X3 hown hK hP 0 rfl rfl 0 (by decide) (hts _ hw_X3_save_save_1_0) (fun _ h9 => h9) rfl dX3_save_34 ?_
    refine va_get (pc := 37) (D := D) (ci := 0) (v := .ref (ad 2)) (C := RX0) (T := TX0) (N := 1) hx hb hts hi_X3_save_save_1_X0 hown hK hP 1 rfl rfl 0 (by decide) (hts _ hw_X3_save_save_1_2) (fun _ h9 => h9) rfl dX3_save_37 ?_
    refine lv_iconst (pc := 40) (v := 4) hx hb dX3_save_40 (by decide) ?_
    refine b_iald (pc := 41) hx hb hK hP 2 0 rfl rfl 4 rfl (by omega) (by decide) dX3_save_41 ?_
    subst ef_2
    subst hQ
    exact b_retW hx hb hr hlocks hS (rfl) (hP) dX3_save_42
  · skip
    have c_1 : (nI 1) < 0 ∨ ¬ (nI 1) < 2 := Classical.not_not.mp (fun h9 => c_1 (b_i_0.mpr h9))
    exact absurd c_1 (p_ns_no (by decide))
set_option maxHeartbeats 4000000 in
set_option maxRecDepth 100000 in
theorem c_X3_save_save (l : Launch) (D : va_G) (cI cC cZ cG : ClassId) (tb lo hi : Nat) (sz : Nat) (ad : Nat → Nat) (f : Nat → Int32) (f2 : Nat → Int32) (tx : Nat → Int32) (n : Nat) (nx : Nat) (sn : Nat) (R : Nat → Nat → Int32) (SL : Nat → Nat → Int32) (sv : Nat → Int32) (w1 : Nat) (hn60 : n ≤ 60) (hnx : nx < 6) (hsn : sn ≤ 6) (hw1 : w1 < 2) : Met l yX3_save wsX3_save ({ frames := 2, cells := 0, slots := 0, locals := 51 } : Room) (b_W D (b_T cI cC cZ cG) (b_X tb lo hi) [((ad 0), .inr (3, [.ref (ad 1), .ref (ad 3), .ref (ad 5), .ref (ad 7), .ref (ad 15), .ref (ad 18)])), ((ad 1), .inr (0, [.ref (ad 2)])), ((ad 2), .inl (cI, 86, .inl f)), ((ad 3), .inr (0, [.ref (ad 4)])), ((ad 4), .inl (cI, 86, .inl f2)), ((ad 5), .inr (2, [.ref (ad 6), .int (nI n)])), ((ad 6), .inl (cC, 60, .inl tx)), ((ad 7), .inr (1, [.ref (ad 8), .int (nI nx), .int (nI sn)])), ((ad 8), .inl (cG, 6, .inr (.inr (.inr (.inr (fun i => ([(ad 9), (ad 10), (ad 11), (ad 12), (ad 13), (ad 14)] : List Nat)[i]?)))))), ((ad 9), .inl (cI, 86, .inl (R 0))), ((ad 10), .inl (cI, 86, .inl (R 1))), ((ad 11), .inl (cI, 86, .inl (R 2))), ((ad 12), .inl (cI, 86, .inl (R 3))), ((ad 13), .inl (cI, 86, .inl (R 4))), ((ad 14), .inl (cI, 86, .inl (R 5))), ((ad 15), .inl (cG, 2, .inr (.inr (.inr (.inr (fun i => ([(ad 16), (ad 17)] : List Nat)[i]?)))))), ((ad 16), .inl (cI, 86, .inl (SL 0))), ((ad 17), .inl (cI, 86, .inl (SL 1))), ((ad 18), .inl (cZ, 2, .inl sv))] sz [.ref (ad 0), .int (nI w1)]) (b_Qi D (f 4) [((ad 0), .inr (3, [.ref (ad 1), .ref (ad 3), .ref (ad 5), .ref (ad 7), .ref (ad 15), .ref (ad 18)])), ((ad 1), .inr (0, [.ref (ad 2)])), ((ad 2), .inl (cI, 86, .inl f)), ((ad 3), .inr (0, [.ref (ad 4)])), ((ad 4), .inl (cI, 86, .inl f2)), ((ad 5), .inr (2, [.ref (ad 6), .int (nI n)])), ((ad 6), .inl (cC, 60, .inl tx)), ((ad 7), .inr (1, [.ref (ad 8), .int (nI nx), .int (nI sn)])), ((ad 8), .inl (cG, 6, .inr (.inr (.inr (.inr (fun i => ([(ad 9), (ad 10), (ad 11), (ad 12), (ad 13), (ad 14)] : List Nat)[i]?)))))), ((ad 9), .inl (cI, 86, .inl (R 0))), ((ad 10), .inl (cI, 86, .inl (R 1))), ((ad 11), .inl (cI, 86, .inl (R 2))), ((ad 12), .inl (cI, 86, .inl (R 3))), ((ad 13), .inl (cI, 86, .inl (R 4))), ((ad 14), .inl (cI, 86, .inl (R 5))), ((ad 15), .inl (cG, 2, .inr (.inr (.inr (.inr (fun i => ([(ad 16), (ad 17)] : List Nat)[i]?)))))), ((ad 16), .inl (cI, 86, .inl (va_up SL w1 (va_cpy f (SL w1) 0 0 86) 0))), ((ad 17), .inl (cI, 86, .inl (va_up SL w1 (va_cpy f (SL w1) 0 0 86) 1))), ((ad 18), .inl (cZ, 2, .inl (upd sv w1 1)))] (va_A [((ad 0), .inr (3, [.ref (ad 1), .ref (ad 3), .ref (ad 5), .ref (ad 7), .ref (ad 15), .ref (ad 18)])), ((ad 1), .inr (0, [.ref (ad 2)])), ((ad 2), .inl (cI, 86, .inl f)), ((ad 3), .inr (0, [.ref (ad 4)])), ((ad 4), .inl (cI, 86, .inl f2)), ((ad 5), .inr (2, [.ref (ad 6), .int (nI n)])), ((ad 6), .inl (cC, 60, .inl tx)), ((ad 7), .inr (1, [.ref (ad 8), .int (nI nx), .int (nI sn)])), ((ad 8), .inl (cG, 6, .inr (.inr (.inr (.inr (fun i => ([(ad 9), (ad 10), (ad 11), (ad 12), (ad 13), (ad 14)] : List Nat)[i]?)))))), ((ad 9), .inl (cI, 86, .inl (R 0))), ((ad 10), .inl (cI, 86, .inl (R 1))), ((ad 11), .inl (cI, 86, .inl (R 2))), ((ad 12), .inl (cI, 86, .inl (R 3))), ((ad 13), .inl (cI, 86, .inl (R 4))), ((ad 14), .inl (cI, 86, .inl (R 5))), ((ad 15), .inl (cG, 2, .inr (.inr (.inr (.inr (fun i => ([(ad 16), (ad 17)] : List Nat)[i]?)))))), ((ad 16), .inl (cI, 86, .inl (SL 0))), ((ad 17), .inl (cI, 86, .inl (SL 1))), ((ad 18), .inl (cZ, 2, .inl sv))] sz)) 0 0 (va_A [((ad 0), .inr (3, [.ref (ad 1), .ref (ad 3), .ref (ad 5), .ref (ad 7), .ref (ad 15), .ref (ad 18)])), ((ad 1), .inr (0, [.ref (ad 2)])), ((ad 2), .inl (cI, 86, .inl f)), ((ad 3), .inr (0, [.ref (ad 4)])), ((ad 4), .inl (cI, 86, .inl f2)), ((ad 5), .inr (2, [.ref (ad 6), .int (nI n)])), ((ad 6), .inl (cC, 60, .inl tx)), ((ad 7), .inr (1, [.ref (ad 8), .int (nI nx), .int (nI sn)])), ((ad 8), .inl (cG, 6, .inr (.inr (.inr (.inr (fun i => ([(ad 9), (ad 10), (ad 11), (ad 12), (ad 13), (ad 14)] : List Nat)[i]?)))))), ((ad 9), .inl (cI, 86, .inl (R 0))), ((ad 10), .inl (cI, 86, .inl (R 1))), ((ad 11), .inl (cI, 86, .inl (R 2))), ((ad 12), .inl (cI, 86, .inl (R 3))), ((ad 13), .inl (cI, 86, .inl (R 4))), ((ad 14), .inl (cI, 86, .inl (R 5))), ((ad 15), .inl (cG, 2, .inr (.inr (.inr (.inr (fun i => ([(ad 16), (ad 17)] : List Nat)[i]?)))))), ((ad 16), .inl (cI, 86, .inl (SL 0))), ((ad 17), .inl (cI, 86, .inl (SL 1))), ((ad 18), .inl (cZ, 2, .inl sv))] sz) := by
  match w1, hw1 with
  | 0, _ => exact c_X3_save_save_0 l D cI cC cZ cG tb lo hi sz ad f f2 tx n nx sn R SL sv hn60 hnx hsn
  | 1, _ => exact c_X3_save_save_1 l D cI cC cZ cG tb lo hi sz ad f f2 tx n nx sn R SL sv hn60 hnx hsn
  | k + 2, h9 => exact absurd h9 (by omega)
theorem hw_X3_restore_none_0_0 : (.fieldLink RX3 38 "BeamTurnstiles" "saved" "[Z" : Cond) ∈ wsX3_restore := by decide +kernel
theorem hi_X3_restore_none_0_X3 : ∀ w ∈ wsX30, w ∈ wsX3_restore := by decide +kernel
set_option maxHeartbeats 4000000 in
set_option maxRecDepth 100000 in
theorem c_X3_restore_none_0 (l : Launch) (D : va_G) (cI cC cZ cG : ClassId) (ad : Nat → Nat) (f : Nat → Int32) (f2 : Nat → Int32) (tx : Nat → Int32) (n : Nat) (nx : Nat) (sn : Nat) (R : Nat → Nat → Int32) (SL : Nat → Nat → Int32) (sv : Nat → Int32) (hn60 : n ≤ 60) (hnx : nx < 6) (hsn : sn ≤ 6) (hbad : sv 0 = 0) : Met l yX3_restore wsX3_restore ({ frames := 1, cells := 0, slots := 0, locals := 20 } : Room) (b_R D (b_T cI cC cZ cG) [((ad 0), .inr (3, [.ref (ad 1), .ref (ad 3), .ref (ad 5), .ref (ad 7), .ref (ad 15), .ref (ad 18)])), ((ad 1), .inr (0, [.ref (ad 2)])), ((ad 2), .inl (cI, 86, .inl f)), ((ad 3), .inr (0, [.ref (ad 4)])), ((ad 4), .inl (cI, 86, .inl f2)), ((ad 5), .inr (2, [.ref (ad 6), .int (nI n)])), ((ad 6), .inl (cC, 60, .inl tx)), ((ad 7), .inr (1, [.ref (ad 8), .int (nI nx), .int (nI sn)])), ((ad 8), .inl (cG, 6, .inr (.inr (.inr (.inr (fun i => ([(ad 9), (ad 10), (ad 11), (ad 12), (ad 13), (ad 14)] : List Nat)[i]?)))))), ((ad 9), .inl (cI, 86, .inl (R 0))), ((ad 10), .inl (cI, 86, .inl (R 1))), ((ad 11), .inl (cI, 86, .inl (R 2))), ((ad 12), .inl (cI, 86, .inl (R 3))), ((ad 13), .inl (cI, 86, .inl (R 4))), ((ad 14), .inl (cI, 86, .inl (R 5))), ((ad 15), .inl (cG, 2, .inr (.inr (.inr (.inr (fun i => ([(ad 16), (ad 17)] : List Nat)[i]?)))))), ((ad 16), .inl (cI, 86, .inl (SL 0))), ((ad 17), .inl (cI, 86, .inl (SL 1))), ((ad 18), .inl (cZ, 2, .inl sv))] [.ref (ad 0), .int (nI 0)]) (vp_Si (fun r => r = -5)) 0 0 (fun _ => False) := by
  refine b_enterR (cc := cX3_restore) (maxL := 2) (ret := (some .int)) (by decide) rfl (Nat.le_of_ble_eq_true rfl) ?_
  intro p e s m below meth c ls hx hb hr hml hown hts hlocks hP hK hl Q hQ
  have hown : s.vm.findClass RX3 = some m.cls := hown
  have hl : lv_has ls 2 [(0, .ref (ad 0)), (1, .int (nI 0))] := hl
  refine lv_iload_n (pc := 0) hx hb dX3_restore_0 rfl (lv_at hl 1 rfl) ?_
  refine b_cR (pc := 1) (va_runS (As := [.int (nI 0)]) (rest := []) ⟨hx, hb, hml, hown, hts⟩ (c_X3_isNoSlot l D cI cC cZ cG (nI 0)) (va_cwS 1 hts gX3_restore_X3_isNoSlot rfl rfl rfl hyS_X3_isNoSlot ⟨Nat.le_of_ble_eq_true rfl, Nat.le_of_ble_eq_true rfl⟩) (b_pRS (wc := []) hK hP [] rfl) rfl rfl hl.1 rfl (lv_room (Nat.le_of_ble_eq_true rfl)) dX3_restore_1 ⟨Nat.zero_le _, Nat.zero_le _⟩) ?_
  refine lv_if_eq (pc := 4) (tgt := 10) hx hb dX3_restore_4 (by decide) (fun c_1 => ?_) (fun c_1 => ?_)
  · skip
    have c_1 : ¬ ((nI 0) < 0 ∨ ¬ (nI 0) < 2) := b_i_0.mp c_1
    refine lv_aload_n (pc := 10) hx hb dX3_restore_10 rfl (lv_at hl 0 rfl) ?_
    refine va_get (pc := 11) (D := D) (ci := 3) (v := .ref (ad 18)) (C := RX3) (T := TX3) (N := 6) hx hb hts hi_X3_restore_none_0_X3 hown hK hP 0 rfl rfl 5 (by decide) (hts _ hw_X3_restore_none_0_0) (fun _ h9 => h9) rfl dX3_restore_11 ?_
    refine lv_iload_n (pc := 14) hx hb dX3_restore_14 rfl (lv_at hl 1 rfl) ?_
    refine b_zald (pc := 15) hx hb hK hP 18 2 rfl rfl 0 rfl (by omega) (by decide) dX3_restore_15 ?_
    refine lv_if_ne (pc := 16) (tgt := 22) hx hb dX3_restore_16 (by decide) (fun c_2 => ?_) (fun c_2 => ?_)
    · skip
      have c_2 : ¬ ((sv 0) = 0) := c_2
      exact absurd hbad c_2
    · skip
      have c_2 : (sv 0) = 0 := c_2
      refine lv_bipush (pc := 19) (v := (-5)) hx hb dX3_restore_19 (by decide) ?_
      subst hQ
      exact b_retR hx hb hr hlocks (rfl) dX3_restore_21
  · skip
    have c_1 : (nI 0) < 0 ∨ ¬ (nI 0) < 2 := Classical.not_not.mp (fun h9 => c_1 (b_i_0.mpr h9))
    exact absurd c_1 (p_ns_no (by decide))
theorem hw_X3_restore_none_1_0 : (.fieldLink RX3 38 "BeamTurnstiles" "saved" "[Z" : Cond) ∈ wsX3_restore := by decide +kernel
theorem hi_X3_restore_none_1_X3 : ∀ w ∈ wsX30, w ∈ wsX3_restore := by decide +kernel
set_option maxHeartbeats 4000000 in
set_option maxRecDepth 100000 in
theorem c_X3_restore_none_1 (l : Launch) (D : va_G) (cI cC cZ cG : ClassId) (ad : Nat → Nat) (f : Nat → Int32) (f2 : Nat → Int32) (tx : Nat → Int32) (n : Nat) (nx : Nat) (sn : Nat) (R : Nat → Nat → Int32) (SL : Nat → Nat → Int32) (sv : Nat → Int32) (hn60 : n ≤ 60) (hnx : nx < 6) (hsn : sn ≤ 6) (hbad : sv 1 = 0) : Met l yX3_restore wsX3_restore ({ frames := 1, cells := 0, slots := 0, locals := 20 } : Room) (b_R D (b_T cI cC cZ cG) [((ad 0), .inr (3, [.ref (ad 1), .ref (ad 3), .ref (ad 5), .ref (ad 7), .ref (ad 15), .ref (ad 18)])), ((ad 1), .inr (0, [.ref (ad 2)])), ((ad 2), .inl (cI, 86, .inl f)), ((ad 3), .inr (0, [.ref (ad 4)])), ((ad 4), .inl (cI, 86, .inl f2)), ((ad 5), .inr (2, [.ref (ad 6), .int (nI n)])), ((ad 6), .inl (cC, 60, .inl tx)), ((ad 7), .inr (1, [.ref (ad 8), .int (nI nx), .int (nI sn)])), ((ad 8), .inl (cG, 6, .inr (.inr (.inr (.inr (fun i => ([(ad 9), (ad 10), (ad 11), (ad 12), (ad 13), (ad 14)] : List Nat)[i]?)))))), ((ad 9), .inl (cI, 86, .inl (R 0))), ((ad 10), .inl (cI, 86, .inl (R 1))), ((ad 11), .inl (cI, 86, .inl (R 2))), ((ad 12), .inl (cI, 86, .inl (R 3))), ((ad 13), .inl (cI, 86, .inl (R 4))), ((ad 14), .inl (cI, 86, .inl (R 5))), ((ad 15), .inl (cG, 2, .inr (.inr (.inr (.inr (fun i => ([(ad 16), (ad 17)] : List Nat)[i]?)))))), ((ad 16), .inl (cI, 86, .inl (SL 0))), ((ad 17), .inl (cI, 86, .inl (SL 1))), ((ad 18), .inl (cZ, 2, .inl sv))] [.ref (ad 0), .int (nI 1)]) (vp_Si (fun r => r = -5)) 0 0 (fun _ => False) := by
  refine b_enterR (cc := cX3_restore) (maxL := 2) (ret := (some .int)) (by decide) rfl (Nat.le_of_ble_eq_true rfl) ?_
  intro p e s m below meth c ls hx hb hr hml hown hts hlocks hP hK hl Q hQ
  have hown : s.vm.findClass RX3 = some m.cls := hown
  have hl : lv_has ls 2 [(0, .ref (ad 0)), (1, .int (nI 1))] := hl
  refine lv_iload_n (pc := 0) hx hb dX3_restore_0 rfl (lv_at hl 1 rfl) ?_
  refine b_cR (pc := 1) (va_runS (As := [.int (nI 1)]) (rest := []) ⟨hx, hb, hml, hown, hts⟩ (c_X3_isNoSlot l D cI cC cZ cG (nI 1)) (va_cwS 1 hts gX3_restore_X3_isNoSlot rfl rfl rfl hyS_X3_isNoSlot ⟨Nat.le_of_ble_eq_true rfl, Nat.le_of_ble_eq_true rfl⟩) (b_pRS (wc := []) hK hP [] rfl) rfl rfl hl.1 rfl (lv_room (Nat.le_of_ble_eq_true rfl)) dX3_restore_1 ⟨Nat.zero_le _, Nat.zero_le _⟩) ?_
  refine lv_if_eq (pc := 4) (tgt := 10) hx hb dX3_restore_4 (by decide) (fun c_1 => ?_) (fun c_1 => ?_)
  · skip
    have c_1 : ¬ ((nI 1) < 0 ∨ ¬ (nI 1) < 2) := b_i_0.mp c_1
    refine lv_aload_n (pc := 10) hx hb dX3_restore_10 rfl (lv_at hl 0 rfl) ?_
    refine va_get (pc := 11) (D := D) (ci := 3) (v := .ref (ad 18)) (C := RX3) (T := TX3) (N := 6) hx hb hts hi_X3_restore_none_1_X3 hown hK hP 0 rfl rfl 5 (by decide) (hts _ hw_X3_restore_none_1_0) (fun _ h9 => h9) rfl dX3_restore_11 ?_
    refine lv_iload_n (pc := 14) hx hb dX3_restore_14 rfl (lv_at hl 1 rfl) ?_
    refine b_zald (pc := 15) hx hb hK hP 18 2 rfl rfl 1 rfl (by omega) (by decide) dX3_restore_15 ?_
    refine lv_if_ne (pc := 16) (tgt := 22) hx hb dX3_restore_16 (by decide) (fun c_2 => ?_) (fun c_2 => ?_)
    · skip
      have c_2 : ¬ ((sv 1) = 0) := c_2
      exact absurd hbad c_2
    · skip
      have c_2 : (sv 1) = 0 := c_2
      refine lv_bipush (pc := 19) (v := (-5)) hx hb dX3_restore_19 (by decide) ?_
      subst hQ
      exact b_retR hx hb hr hlocks (rfl) dX3_restore_21
  · skip
    have c_1 : (nI 1) < 0 ∨ ¬ (nI 1) < 2 := Classical.not_not.mp (fun h9 => c_1 (b_i_0.mpr h9))
    exact absurd c_1 (p_ns_no (by decide))
set_option maxHeartbeats 4000000 in
set_option maxRecDepth 100000 in
theorem c_X3_restore_none (l : Launch) (D : va_G) (cI cC cZ cG : ClassId) (ad : Nat → Nat) (f : Nat → Int32) (f2 : Nat → Int32) (tx : Nat → Int32) (n : Nat) (nx : Nat) (sn : Nat) (R : Nat → Nat → Int32) (SL : Nat → Nat → Int32) (sv : Nat → Int32) (w1 : Nat) (hn60 : n ≤ 60) (hnx : nx < 6) (hsn : sn ≤ 6) (hw1 : w1 < 2) (hbad : sv w1 = 0) : Met l yX3_restore wsX3_restore ({ frames := 1, cells := 0, slots := 0, locals := 20 } : Room) (b_R D (b_T cI cC cZ cG) [((ad 0), .inr (3, [.ref (ad 1), .ref (ad 3), .ref (ad 5), .ref (ad 7), .ref (ad 15), .ref (ad 18)])), ((ad 1), .inr (0, [.ref (ad 2)])), ((ad 2), .inl (cI, 86, .inl f)), ((ad 3), .inr (0, [.ref (ad 4)])), ((ad 4), .inl (cI, 86, .inl f2)), ((ad 5), .inr (2, [.ref (ad 6), .int (nI n)])), ((ad 6), .inl (cC, 60, .inl tx)), ((ad 7), .inr (1, [.ref (ad 8), .int (nI nx), .int (nI sn)])), ((ad 8), .inl (cG, 6, .inr (.inr (.inr (.inr (fun i => ([(ad 9), (ad 10), (ad 11), (ad 12), (ad 13), (ad 14)] : List Nat)[i]?)))))), ((ad 9), .inl (cI, 86, .inl (R 0))), ((ad 10), .inl (cI, 86, .inl (R 1))), ((ad 11), .inl (cI, 86, .inl (R 2))), ((ad 12), .inl (cI, 86, .inl (R 3))), ((ad 13), .inl (cI, 86, .inl (R 4))), ((ad 14), .inl (cI, 86, .inl (R 5))), ((ad 15), .inl (cG, 2, .inr (.inr (.inr (.inr (fun i => ([(ad 16), (ad 17)] : List Nat)[i]?)))))), ((ad 16), .inl (cI, 86, .inl (SL 0))), ((ad 17), .inl (cI, 86, .inl (SL 1))), ((ad 18), .inl (cZ, 2, .inl sv))] [.ref (ad 0), .int (nI w1)]) (vp_Si (fun r => r = -5)) 0 0 (fun _ => False) := by
  match w1, hw1 with
  | 0, _ => exact c_X3_restore_none_0 l D cI cC cZ cG ad f f2 tx n nx sn R SL sv hn60 hnx hsn hbad
  | 1, _ => exact c_X3_restore_none_1 l D cI cC cZ cG ad f f2 tx n nx sn R SL sv hn60 hnx hsn hbad
  | k + 2, h9 => exact absurd h9 (by omega)
theorem hw_X3_restore_restore_0_0 : (.fieldLink RX3 38 "BeamTurnstiles" "saved" "[Z" : Cond) ∈ wsX3_restore := by decide +kernel
theorem hi_X3_restore_restore_0_X3 : ∀ w ∈ wsX30, w ∈ wsX3_restore := by decide +kernel
theorem hw_X3_restore_restore_0_2 : (.fieldLink RX3 29 "BeamTurnstiles" "history" "LBeamTurnstiles$History;" : Cond) ∈ wsX3_restore := by decide +kernel
theorem hw_X3_restore_restore_0_3 : (.fieldLink RX3 10 "BeamTurnstiles" "hall" "LBeamTurnstiles$Hall;" : Cond) ∈ wsX3_restore := by decide +kernel
theorem hw_X3_restore_restore_0_4 : (.fieldLink RX3 49 "BeamTurnstiles$Hall" "row" "[I" : Cond) ∈ wsX3_restore := by decide +kernel
theorem hi_X3_restore_restore_0_X0 : ∀ w ∈ wsX00, w ∈ wsX3_restore := by decide +kernel
theorem hw_X3_restore_restore_0_6 : (.fieldLink RX3 35 "BeamTurnstiles" "slots" "[[I" : Cond) ∈ wsX3_restore := by decide +kernel
set_option maxHeartbeats 4000000 in
set_option maxRecDepth 100000 in
theorem c_X3_restore_restore_0 (l : Launch) (D : va_G) (cI cC cZ cG : ClassId) (tb lo hi : Nat) (sz : Nat) (ad : Nat → Nat) (f : Nat → Int32) (f2 : Nat → Int32) (tx : Nat → Int32) (n : Nat) (nx : Nat) (sn : Nat) (R : Nat → Nat → Int32) (SL : Nat → Nat → Int32) (sv : Nat → Int32) (hn60 : n ≤ 60) (hnx : nx < 6) (hsn : sn ≤ 6) (hbad : ¬ sv 0 = 0) : Met l yX3_restore wsX3_restore ({ frames := 3, cells := 0, slots := 0, locals := 72 } : Room) (b_W D (b_T cI cC cZ cG) (b_X tb lo hi) [((ad 0), .inr (3, [.ref (ad 1), .ref (ad 3), .ref (ad 5), .ref (ad 7), .ref (ad 15), .ref (ad 18)])), ((ad 1), .inr (0, [.ref (ad 2)])), ((ad 2), .inl (cI, 86, .inl f)), ((ad 3), .inr (0, [.ref (ad 4)])), ((ad 4), .inl (cI, 86, .inl f2)), ((ad 5), .inr (2, [.ref (ad 6), .int (nI n)])), ((ad 6), .inl (cC, 60, .inl tx)), ((ad 7), .inr (1, [.ref (ad 8), .int (nI nx), .int (nI sn)])), ((ad 8), .inl (cG, 6, .inr (.inr (.inr (.inr (fun i => ([(ad 9), (ad 10), (ad 11), (ad 12), (ad 13), (ad 14)] : List Nat)[i]?)))))), ((ad 9), .inl (cI, 86, .inl (R 0))), ((ad 10), .inl (cI, 86, .inl (R 1))), ((ad 11), .inl (cI, 86, .inl (R 2))), ((ad 12), .inl (cI, 86, .inl (R 3))), ((ad 13), .inl (cI, 86, .inl (R 4))), ((ad 14), .inl (cI, 86, .inl (R 5))), ((ad 15), .inl (cG, 2, .inr (.inr (.inr (.inr (fun i => ([(ad 16), (ad 17)] : List Nat)[i]?)))))), ((ad 16), .inl (cI, 86, .inl (SL 0))), ((ad 17), .inl (cI, 86, .inl (SL 1))), ((ad 18), .inl (cZ, 2, .inl sv))] sz [.ref (ad 0), .int (nI 0)]) (b_Qi D (va_cpy (SL 0) f 0 0 86 4) [((ad 0), .inr (3, [.ref (ad 1), .ref (ad 3), .ref (ad 5), .ref (ad 7), .ref (ad 15), .ref (ad 18)])), ((ad 1), .inr (0, [.ref (ad 2)])), ((ad 2), .inl (cI, 86, .inl (va_cpy (SL 0) f 0 0 86))), ((ad 3), .inr (0, [.ref (ad 4)])), ((ad 4), .inl (cI, 86, .inl f2)), ((ad 5), .inr (2, [.ref (ad 6), .int (nI n)])), ((ad 6), .inl (cC, 60, .inl tx)), ((ad 7), .inr (1, [.ref (ad 8), .int (nI (h_nx nx)), .int (nI (h_sz sn))])), ((ad 8), .inl (cG, 6, .inr (.inr (.inr (.inr (fun i => ([(ad 9), (ad 10), (ad 11), (ad 12), (ad 13), (ad 14)] : List Nat)[i]?)))))), ((ad 9), .inl (cI, 86, .inl (va_up R nx (va_cpy f (R nx) 0 0 86) 0))), ((ad 10), .inl (cI, 86, .inl (va_up R nx (va_cpy f (R nx) 0 0 86) 1))), ((ad 11), .inl (cI, 86, .inl (va_up R nx (va_cpy f (R nx) 0 0 86) 2))), ((ad 12), .inl (cI, 86, .inl (va_up R nx (va_cpy f (R nx) 0 0 86) 3))), ((ad 13), .inl (cI, 86, .inl (va_up R nx (va_cpy f (R nx) 0 0 86) 4))), ((ad 14), .inl (cI, 86, .inl (va_up R nx (va_cpy f (R nx) 0 0 86) 5))), ((ad 15), .inl (cG, 2, .inr (.inr (.inr (.inr (fun i => ([(ad 16), (ad 17)] : List Nat)[i]?)))))), ((ad 16), .inl (cI, 86, .inl (SL 0))), ((ad 17), .inl (cI, 86, .inl (SL 1))), ((ad 18), .inl (cZ, 2, .inl sv))] (va_A [((ad 0), .inr (3, [.ref (ad 1), .ref (ad 3), .ref (ad 5), .ref (ad 7), .ref (ad 15), .ref (ad 18)])), ((ad 1), .inr (0, [.ref (ad 2)])), ((ad 2), .inl (cI, 86, .inl f)), ((ad 3), .inr (0, [.ref (ad 4)])), ((ad 4), .inl (cI, 86, .inl f2)), ((ad 5), .inr (2, [.ref (ad 6), .int (nI n)])), ((ad 6), .inl (cC, 60, .inl tx)), ((ad 7), .inr (1, [.ref (ad 8), .int (nI nx), .int (nI sn)])), ((ad 8), .inl (cG, 6, .inr (.inr (.inr (.inr (fun i => ([(ad 9), (ad 10), (ad 11), (ad 12), (ad 13), (ad 14)] : List Nat)[i]?)))))), ((ad 9), .inl (cI, 86, .inl (R 0))), ((ad 10), .inl (cI, 86, .inl (R 1))), ((ad 11), .inl (cI, 86, .inl (R 2))), ((ad 12), .inl (cI, 86, .inl (R 3))), ((ad 13), .inl (cI, 86, .inl (R 4))), ((ad 14), .inl (cI, 86, .inl (R 5))), ((ad 15), .inl (cG, 2, .inr (.inr (.inr (.inr (fun i => ([(ad 16), (ad 17)] : List Nat)[i]?)))))), ((ad 16), .inl (cI, 86, .inl (SL 0))), ((ad 17), .inl (cI, 86, .inl (SL 1))), ((ad 18), .inl (cZ, 2, .inl sv))] sz)) 0 0 (va_A [((ad 0), .inr (3, [.ref (ad 1), .ref (ad 3), .ref (ad 5), .ref (ad 7), .ref (ad 15), .ref (ad 18)])), ((ad 1), .inr (0, [.ref (ad 2)])), ((ad 2), .inl (cI, 86, .inl f)), ((ad 3), .inr (0, [.ref (ad 4)])), ((ad 4), .inl (cI, 86, .inl f2)), ((ad 5), .inr (2, [.ref (ad 6), .int (nI n)])), ((ad 6), .inl (cC, 60, .inl tx)), ((ad 7), .inr (1, [.ref (ad 8), .int (nI nx), .int (nI sn)])), ((ad 8), .inl (cG, 6, .inr (.inr (.inr (.inr (fun i => ([(ad 9), (ad 10), (ad 11), (ad 12), (ad 13), (ad 14)] : List Nat)[i]?)))))), ((ad 9), .inl (cI, 86, .inl (R 0))), ((ad 10), .inl (cI, 86, .inl (R 1))), ((ad 11), .inl (cI, 86, .inl (R 2))), ((ad 12), .inl (cI, 86, .inl (R 3))), ((ad 13), .inl (cI, 86, .inl (R 4))), ((ad 14), .inl (cI, 86, .inl (R 5))), ((ad 15), .inl (cG, 2, .inr (.inr (.inr (.inr (fun i => ([(ad 16), (ad 17)] : List Nat)[i]?)))))), ((ad 16), .inl (cI, 86, .inl (SL 0))), ((ad 17), .inl (cI, 86, .inl (SL 1))), ((ad 18), .inl (cZ, 2, .inl sv))] sz) := by
  refine b_enterW (Qc := fun A => b_Qi D (va_cpy (SL 0) f 0 0 86 4) [((ad 0), .inr (3, [.ref (ad 1), .ref (ad 3), .ref (ad 5), .ref (ad 7), .ref (ad 15), .ref (ad 18)])), ((ad 1), .inr (0, [.ref (ad 2)])), ((ad 2), .inl (cI, 86, .inl (va_cpy (SL 0) f 0 0 86))), ((ad 3), .inr (0, [.ref (ad 4)])), ((ad 4), .inl (cI, 86, .inl f2)), ((ad 5), .inr (2, [.ref (ad 6), .int (nI n)])), ((ad 6), .inl (cC, 60, .inl tx)), ((ad 7), .inr (1, [.ref (ad 8), .int (nI (h_nx nx)), .int (nI (h_sz sn))])), ((ad 8), .inl (cG, 6, .inr (.inr (.inr (.inr (fun i => ([(ad 9), (ad 10), (ad 11), (ad 12), (ad 13), (ad 14)] : List Nat)[i]?)))))), ((ad 9), .inl (cI, 86, .inl (va_up R nx (va_cpy f (R nx) 0 0 86) 0))), ((ad 10), .inl (cI, 86, .inl (va_up R nx (va_cpy f (R nx) 0 0 86) 1))), ((ad 11), .inl (cI, 86, .inl (va_up R nx (va_cpy f (R nx) 0 0 86) 2))), ((ad 12), .inl (cI, 86, .inl (va_up R nx (va_cpy f (R nx) 0 0 86) 3))), ((ad 13), .inl (cI, 86, .inl (va_up R nx (va_cpy f (R nx) 0 0 86) 4))), ((ad 14), .inl (cI, 86, .inl (va_up R nx (va_cpy f (R nx) 0 0 86) 5))), ((ad 15), .inl (cG, 2, .inr (.inr (.inr (.inr (fun i => ([(ad 16), (ad 17)] : List Nat)[i]?)))))), ((ad 16), .inl (cI, 86, .inl (SL 0))), ((ad 17), .inl (cI, 86, .inl (SL 1))), ((ad 18), .inl (cZ, 2, .inl sv))] A) (cc := cX3_restore) (maxL := 2) (ret := (some .int)) (by decide) rfl (Nat.le_of_ble_eq_true rfl) ?_
  intro p e s m below meth c ls A hx hb hr hml hown hts hlocks hname hP hK hD hA hS hX hl Q hQ
  have hown : s.vm.findClass RX3 = some m.cls := hown
  have hl : lv_has ls 2 [(0, .ref (ad 0)), (1, .int (nI 0))] := hl
  refine lv_iload_n (pc := 0) hx hb dX3_restore_0 rfl (lv_at hl 1 rfl) ?_
  refine b_cR (pc := 1) (va_runS (As := [.int (nI 0)]) (rest := []) ⟨hx, hb, hml, hown, hts⟩ (c_X3_isNoSlot l D cI cC cZ cG (nI 0)) (va_cwS 1 hts gX3_restore_X3_isNoSlot rfl rfl rfl hyS_X3_isNoSlot ⟨Nat.le_of_ble_eq_true rfl, Nat.le_of_ble_eq_true rfl⟩) (b_pRS (wc := []) hK hP [] rfl) rfl rfl hl.1 rfl (lv_room (Nat.le_of_ble_eq_true rfl)) dX3_restore_1 ⟨Nat.zero_le _, Nat.zero_le _⟩) ?_
  refine lv_if_eq (pc := 4) (tgt := 10) hx hb dX3_restore_4 (by decide) (fun c_1 => ?_) (fun c_1 => ?_)
  · skip
    have c_1 : ¬ ((nI 0) < 0 ∨ ¬ (nI 0) < 2) := b_i_0.mp c_1
    refine lv_aload_n (pc := 10) hx hb dX3_restore_10 rfl (lv_at hl 0 rfl) ?_
    refine va_get (pc := 11) (D := D) (ci := 3) (v := .ref (ad 18)) (C := RX3) (T := TX3) (N := 6) hx hb hts hi_X3_restore_restore_0_X3 hown hK hP 0 rfl rfl 5 (by decide) (hts _ hw_X3_restore_restore_0_0) (fun _ h9 => h9) rfl dX3_restore_11 ?_
    refine lv_iload_n (pc := 14) hx hb dX3_restore_14 rfl (lv_at hl 1 rfl) ?_
    refine b_zald (pc := 15) hx hb hK hP 18 2 rfl rfl 0 rfl (by omega) (by decide) dX3_restore_15 ?_
    refine lv_if_ne (pc := 16) (tgt := 22) hx hb dX3_restore_16 (by decide) (fun c_2 => ?_) (fun c_2 => ?_)
    · skip
      have c_2 : ¬ ((sv 0) = 0) := c_2
      refine lv_aload_n (pc := 22) hx hb dX3_restore_22 rfl (lv_at hl 0 rfl) ?_
      refine va_get (pc := 23) (D := D) (ci := 3) (v := .ref (ad 7)) (C := RX3) (T := TX3) (N := 6) hx hb hts hi_X3_restore_restore_0_X3 hown hK hP 0 rfl rfl 3 (by decide) (hts _ hw_X3_restore_restore_0_2) (fun _ h9 => h9) rfl dX3_restore_23 ?_
      refine lv_aload_n (pc := 26) hx hb dX3_restore_26 rfl (lv_at hl 0 rfl) ?_
      refine va_get (pc := 27) (D := D) (ci := 3) (v := .ref (ad 1)) (C := RX3) (T := TX3) (N := 6) hx hb hts hi_X3_restore_restore_0_X3 hown hK hP 0 rfl rfl 0 (by decide) (hts _ hw_X3_restore_restore_0_3) (fun _ h9 => h9) rfl dX3_restore_27 ?_
      refine va_get (pc := 30) (D := D) (ci := 0) (v := .ref (ad 2)) (C := RX0) (T := TX0) (N := 1) hx hb hts hi_X3_restore_restore_0_X0 hown hK hP 1 rfl rfl 0 (by decide) (hts _ hw_X3_restore_restore_0_4) (fun _ h9 => h9) rfl dX3_restore_30 ?_
      refine b_cV (pc := 33) (w1 := [((ad 7), .inr (1, [.ref (ad 8), .int (nI (h_nx nx)), .int (nI (h_sz sn))])), ((ad 8), .inl (cG, 6, .inr (.inr (.inr (.inr (fun i => ([(ad 9), (ad 10), (ad 11), (ad 12), (ad 13), (ad 14)] : List Nat)[i]?)))))), ((ad 9), .inl (cI, 86, .inl (va_up R nx (va_cpy f (R nx) 0 0 86) 0))), ((ad 10), .inl (cI, 86, .inl (va_up R nx (va_cpy f (R nx) 0 0 86) 1))), ((ad 11), .inl (cI, 86, .inl (va_up R nx (va_cpy f (R nx) 0 0 86) 2))), ((ad 12), .inl (cI, 86, .inl (va_up R nx (va_cpy f (R nx) 0 0 86) 3))), ((ad 13), .inl (cI, 86, .inl (va_up R nx (va_cpy f (R nx) 0 0 86) 4))), ((ad 14), .inl (cI, 86, .inl (va_up R nx (va_cpy f (R nx) 0 0 86) 5))), ((ad 2), .inl (cI, 86, .inl f))]) (va_runV (As := [.ref (ad 2)]) (rest := []) ⟨hx, hb, hml, hown, hts⟩ (c_X1_keep l D cI cC cZ cG tb lo hi s.heap.size (ad 7) (ad 8) (ad 9) (ad 10) (ad 11) (ad 12) (ad 13) (ad 14) nx sn R (ad 2) f (by omega) (by omega)) (cwV 1 hts gX3_restore_X1_keep rfl rfl rfl hy_X1_keep ⟨Nat.le_of_ble_eq_true rfl, Nat.le_of_ble_eq_true rfl⟩) (b_pWV (wc := [((ad 7), .inr (1, [.ref (ad 8), .int (nI nx), .int (nI sn)])), ((ad 8), .inl (cG, 6, .inr (.inr (.inr (.inr (fun i => ([(ad 9), (ad 10), (ad 11), (ad 12), (ad 13), (ad 14)] : List Nat)[i]?)))))), ((ad 9), .inl (cI, 86, .inl (R 0))), ((ad 10), .inl (cI, 86, .inl (R 1))), ((ad 11), .inl (cI, 86, .inl (R 2))), ((ad 12), .inl (cI, 86, .inl (R 3))), ((ad 13), .inl (cI, 86, .inl (R 4))), ((ad 14), .inl (cI, 86, .inl (R 5))), ((ad 2), .inl (cI, 86, .inl f))]) hK hP hD (b_Xok_X tb lo hi) [7, 8, 9, 10, 11, 12, 13, 14, 2] rfl (by decide) rfl (b_Xc hX hD hS hA [7, 8, 9, 10, 11, 12, 13, 14, 2] rfl) (ci := 1) (q0 := 0) rfl rfl) rfl rfl hl.1 rfl (lv_room (Nat.le_of_ble_eq_true rfl)) dX3_restore_33 ⟨Nat.zero_le _, Nat.zero_le _⟩) hP hD hS hA [7, 8, 9, 10, 11, 12, 13, 14, 2] rfl rfl (fun H locs hP hD hS => ?_)
      have hP : va_P D vwCl [((ad 0), .inr (3, [.ref (ad 1), .ref (ad 3), .ref (ad 5), .ref (ad 7), .ref (ad 15), .ref (ad 18)])), ((ad 1), .inr (0, [.ref (ad 2)])), ((ad 2), .inl (cI, 86, .inl f)), ((ad 3), .inr (0, [.ref (ad 4)])), ((ad 4), .inl (cI, 86, .inl f2)), ((ad 5), .inr (2, [.ref (ad 6), .int (nI n)])), ((ad 6), .inl (cC, 60, .inl tx)), ((ad 7), .inr (1, [.ref (ad 8), .int (nI (h_nx nx)), .int (nI (h_sz sn))])), ((ad 8), .inl (cG, 6, .inr (.inr (.inr (.inr (fun i => ([(ad 9), (ad 10), (ad 11), (ad 12), (ad 13), (ad 14)] : List Nat)[i]?)))))), ((ad 9), .inl (cI, 86, .inl (va_up R nx (va_cpy f (R nx) 0 0 86) 0))), ((ad 10), .inl (cI, 86, .inl (va_up R nx (va_cpy f (R nx) 0 0 86) 1))), ((ad 11), .inl (cI, 86, .inl (va_up R nx (va_cpy f (R nx) 0 0 86) 2))), ((ad 12), .inl (cI, 86, .inl (va_up R nx (va_cpy f (R nx) 0 0 86) 3))), ((ad 13), .inl (cI, 86, .inl (va_up R nx (va_cpy f (R nx) 0 0 86) 4))), ((ad 14), .inl (cI, 86, .inl (va_up R nx (va_cpy f (R nx) 0 0 86) 5))), ((ad 15), .inl (cG, 2, .inr (.inr (.inr (.inr (fun i => ([(ad 16), (ad 17)] : List Nat)[i]?)))))), ((ad 16), .inl (cI, 86, .inl (SL 0))), ((ad 17), .inl (cI, 86, .inl (SL 1))), ((ad 18), .inl (cZ, 2, .inl sv))] H := hP
      have hD : va_D A [((ad 0), .inr (3, [.ref (ad 1), .ref (ad 3), .ref (ad 5), .ref (ad 7), .ref (ad 15), .ref (ad 18)])), ((ad 1), .inr (0, [.ref (ad 2)])), ((ad 2), .inl (cI, 86, .inl f)), ((ad 3), .inr (0, [.ref (ad 4)])), ((ad 4), .inl (cI, 86, .inl f2)), ((ad 5), .inr (2, [.ref (ad 6), .int (nI n)])), ((ad 6), .inl (cC, 60, .inl tx)), ((ad 7), .inr (1, [.ref (ad 8), .int (nI (h_nx nx)), .int (nI (h_sz sn))])), ((ad 8), .inl (cG, 6, .inr (.inr (.inr (.inr (fun i => ([(ad 9), (ad 10), (ad 11), (ad 12), (ad 13), (ad 14)] : List Nat)[i]?)))))), ((ad 9), .inl (cI, 86, .inl (va_up R nx (va_cpy f (R nx) 0 0 86) 0))), ((ad 10), .inl (cI, 86, .inl (va_up R nx (va_cpy f (R nx) 0 0 86) 1))), ((ad 11), .inl (cI, 86, .inl (va_up R nx (va_cpy f (R nx) 0 0 86) 2))), ((ad 12), .inl (cI, 86, .inl (va_up R nx (va_cpy f (R nx) 0 0 86) 3))), ((ad 13), .inl (cI, 86, .inl (va_up R nx (va_cpy f (R nx) 0 0 86) 4))), ((ad 14), .inl (cI, 86, .inl (va_up R nx (va_cpy f (R nx) 0 0 86) 5))), ((ad 15), .inl (cG, 2, .inr (.inr (.inr (.inr (fun i => ([(ad 16), (ad 17)] : List Nat)[i]?)))))), ((ad 16), .inl (cI, 86, .inl (SL 0))), ((ad 17), .inl (cI, 86, .inl (SL 1))), ((ad 18), .inl (cZ, 2, .inl sv))] := hD
      refine lv_aload_n (pc := 36) hx hb dX3_restore_36 rfl (lv_at hl 0 rfl) ?_
      refine va_get (pc := 37) (D := D) (ci := 3) (v := .ref (ad 15)) (C := RX3) (T := TX3) (N := 6) hx hb hts hi_X3_restore_restore_0_X3 hown hK hP 0 rfl rfl 4 (by decide) (hts _ hw_X3_restore_restore_0_6) (fun _ h9 => h9) rfl dX3_restore_37 ?_
      refine lv_iload_n (pc := 40) hx hb dX3_restore_40 rfl (lv_at hl 1 rfl) ?_
      refine b_gald (pc := 41) (r := (ad 16)) hx hb hK hP 15 3 rfl rfl 0 rfl (by decide) (by decide) rfl dX3_restore_41 ?_
      refine lv_aload_n (pc := 42) hx hb dX3_restore_42 rfl (lv_at hl 0 rfl) ?_
      refine va_get (pc := 43) (D := D) (ci := 3) (v := .ref (ad 1)) (C := RX3) (T := TX3) (N := 6) hx hb hts hi_X3_restore_restore_0_X3 hown hK hP 0 rfl rfl 0 (by decide) (hts _ hw_X3_restore_restore_0_3) (fun _ h9 => h9) rfl dX3_restore_43 ?_
      refine va_get (pc := 46) (D := D) (ci := 0) (v := .ref (ad 2)) (C := RX0) (T := TX0) (N := 1) hx hb hts hi_X3_restore_restore_0_X0 hown hK hP 1 rfl rfl 0 (by decide) (hts _ hw_X3_restore_restore_0_4) (fun _ h9 => h9) rfl dX3_restore_46 ?_
      refine b_cV (pc := 49) (w1 := [((ad 16), .inl (cI, 86, .inl (SL 0))), ((ad 2), .inl (cI, 86, .inl (va_cpy (SL 0) f 0 0 86)))]) (va_runS (As := [.ref (ad 16), .ref (ad 2)]) (rest := []) ⟨hx, hb, hml, hown, hts⟩ (c_X3_copyRow l D cI cC cZ cG tb lo hi H.size (ad 16) (ad 2) (SL 0) f) (va_cwS 2 hts gX3_restore_X3_copyRow rfl rfl rfl hyS_X3_copyRow ⟨Nat.le_of_ble_eq_true rfl, Nat.le_of_ble_eq_true rfl⟩) (b_pWS (wc := [((ad 16), .inl (cI, 86, .inl (SL 0))), ((ad 2), .inl (cI, 86, .inl f))]) hK hP hD (b_Xok_X tb lo hi) [16, 2] rfl (by decide) rfl (b_Xc hX hD hS hA [16, 2] rfl)) rfl rfl hl.1 rfl (lv_room (Nat.le_of_ble_eq_true rfl)) dX3_restore_49 ⟨Nat.zero_le _, Nat.zero_le _⟩) hP hD hS hA [16, 2] rfl rfl (fun H locs hP hD hS => ?_)
      have hP : va_P D vwCl [((ad 0), .inr (3, [.ref (ad 1), .ref (ad 3), .ref (ad 5), .ref (ad 7), .ref (ad 15), .ref (ad 18)])), ((ad 1), .inr (0, [.ref (ad 2)])), ((ad 2), .inl (cI, 86, .inl (va_cpy (SL 0) f 0 0 86))), ((ad 3), .inr (0, [.ref (ad 4)])), ((ad 4), .inl (cI, 86, .inl f2)), ((ad 5), .inr (2, [.ref (ad 6), .int (nI n)])), ((ad 6), .inl (cC, 60, .inl tx)), ((ad 7), .inr (1, [.ref (ad 8), .int (nI (h_nx nx)), .int (nI (h_sz sn))])), ((ad 8), .inl (cG, 6, .inr (.inr (.inr (.inr (fun i => ([(ad 9), (ad 10), (ad 11), (ad 12), (ad 13), (ad 14)] : List Nat)[i]?)))))), ((ad 9), .inl (cI, 86, .inl (va_up R nx (va_cpy f (R nx) 0 0 86) 0))), ((ad 10), .inl (cI, 86, .inl (va_up R nx (va_cpy f (R nx) 0 0 86) 1))), ((ad 11), .inl (cI, 86, .inl (va_up R nx (va_cpy f (R nx) 0 0 86) 2))), ((ad 12), .inl (cI, 86, .inl (va_up R nx (va_cpy f (R nx) 0 0 86) 3))), ((ad 13), .inl (cI, 86, .inl (va_up R nx (va_cpy f (R nx) 0 0 86) 4))), ((ad 14), .inl (cI, 86, .inl (va_up R nx (va_cpy f (R nx) 0 0 86) 5))), ((ad 15), .inl (cG, 2, .inr (.inr (.inr (.inr (fun i => ([(ad 16), (ad 17)] : List Nat)[i]?)))))), ((ad 16), .inl (cI, 86, .inl (SL 0))), ((ad 17), .inl (cI, 86, .inl (SL 1))), ((ad 18), .inl (cZ, 2, .inl sv))] H := hP
      have hD : va_D A [((ad 0), .inr (3, [.ref (ad 1), .ref (ad 3), .ref (ad 5), .ref (ad 7), .ref (ad 15), .ref (ad 18)])), ((ad 1), .inr (0, [.ref (ad 2)])), ((ad 2), .inl (cI, 86, .inl (va_cpy (SL 0) f 0 0 86))), ((ad 3), .inr (0, [.ref (ad 4)])), ((ad 4), .inl (cI, 86, .inl f2)), ((ad 5), .inr (2, [.ref (ad 6), .int (nI n)])), ((ad 6), .inl (cC, 60, .inl tx)), ((ad 7), .inr (1, [.ref (ad 8), .int (nI (h_nx nx)), .int (nI (h_sz sn))])), ((ad 8), .inl (cG, 6, .inr (.inr (.inr (.inr (fun i => ([(ad 9), (ad 10), (ad 11), (ad 12), (ad 13), (ad 14)] : List Nat)[i]?)))))), ((ad 9), .inl (cI, 86, .inl (va_up R nx (va_cpy f (R nx) 0 0 86) 0))), ((ad 10), .inl (cI, 86, .inl (va_up R nx (va_cpy f (R nx) 0 0 86) 1))), ((ad 11), .inl (cI, 86, .inl (va_up R nx (va_cpy f (R nx) 0 0 86) 2))), ((ad 12), .inl (cI, 86, .inl (va_up R nx (va_cpy f (R nx) 0 0 86) 3))), ((ad 13), .inl (cI, 86, .inl (va_up R nx (va_cpy f (R nx) 0 0 86) 4))), ((ad 14), .inl (cI, 86, .inl (va_up R nx (va_cpy f (R nx) 0 0 86) 5))), ((ad 15), .inl (cG, 2, .inr (.inr (.inr (.inr (fun i => ([(ad 16), (ad 17)] : List Nat)[i]?)))))), ((ad 16), .inl (cI, 86, .inl (SL 0))), ((ad 17), .inl (cI, 86, .inl (SL 1))), ((ad 18), .inl (cZ, 2, .inl sv))] := hD
      refine lv_aload_n (pc := 52) hx hb dX3_restore_52 rfl (lv_at hl 0 rfl) ?_
      refine va_get (pc := 53) (D := D) (ci := 3) (v := .ref (ad 1)) (C := RX3) (T := TX3) (N := 6) hx hb hts hi_X3_restore_restore_0_X3 hown hK hP 0 rfl rfl 0 (by decide) (hts _ hw_X3_restore_restore_0_3) (fun _ h9 => h9) rfl dX3_restore_53 ?_
      refine va_get (pc := 56) (D := D) (ci := 0) (v := .ref (ad 2)) (C := RX0) (T := TX0) (N := 1) hx hb hts hi_X3_restore_restore_0_X0 hown hK hP 1 rfl rfl 0 (by decide) (hts _ hw_X3_restore_restore_0_4) (fun _ h9 => h9) rfl dX3_restore_56 ?_
      refine lv_iconst (pc := 59) (v := 4) hx hb dX3_restore_59 (by decide) ?_
      refine b_iald (pc := 60) hx hb hK hP 2 0 rfl rfl 4 rfl (by omega) (by decide) dX3_restore_60 ?_
      subst hQ
      exact b_retW hx hb hr hlocks hS (rfl) (hP) dX3_restore_61
    · skip
      have c_2 : (sv 0) = 0 := c_2
      exact absurd c_2 hbad
  · skip
    have c_1 : (nI 0) < 0 ∨ ¬ (nI 0) < 2 := Classical.not_not.mp (fun h9 => c_1 (b_i_0.mpr h9))
    exact absurd c_1 (p_ns_no (by decide))
theorem hw_X3_restore_restore_1_0 : (.fieldLink RX3 38 "BeamTurnstiles" "saved" "[Z" : Cond) ∈ wsX3_restore := by decide +kernel
theorem hi_X3_restore_restore_1_X3 : ∀ w ∈ wsX30, w ∈ wsX3_restore := by decide +kernel
theorem hw_X3_restore_restore_1_2 : (.fieldLink RX3 29 "BeamTurnstiles" "history" "LBeamTurnstiles$History;" : Cond) ∈ wsX3_restore := by decide +kernel
theorem hw_X3_restore_restore_1_3 : (.fieldLink RX3 10 "BeamTurnstiles" "hall" "LBeamTurnstiles$Hall;" : Cond) ∈ wsX3_restore := by decide +kernel
theorem hw_X3_restore_restore_1_4 : (.fieldLink RX3 49 "BeamTurnstiles$Hall" "row" "[I" : Cond) ∈ wsX3_restore := by decide +kernel
theorem hi_X3_restore_restore_1_X0 : ∀ w ∈ wsX00, w ∈ wsX3_restore := by decide +kernel
theorem hw_X3_restore_restore_1_6 : (.fieldLink RX3 35 "BeamTurnstiles" "slots" "[[I" : Cond) ∈ wsX3_restore := by decide +kernel
set_option maxHeartbeats 4000000 in
set_option maxRecDepth 100000 in
theorem c_X3_restore_restore_1 (l : Launch) (D : va_G) (cI cC cZ cG : ClassId) (tb lo hi : Nat) (sz : Nat) (ad : Nat → Nat) (f : Nat → Int32) (f2 : Nat → Int32) (tx : Nat → Int32) (n : Nat) (nx : Nat) (sn : Nat) (R : Nat → Nat → Int32) (SL : Nat → Nat → Int32) (sv : Nat → Int32) (hn60 : n ≤ 60) (hnx : nx < 6) (hsn : sn ≤ 6) (hbad : ¬ sv 1 = 0) : Met l yX3_restore wsX3_restore ({ frames := 3, cells := 0, slots := 0, locals := 72 } : Room) (b_W D (b_T cI cC cZ cG) (b_X tb lo hi) [((ad 0), .inr (3, [.ref (ad 1), .ref (ad 3), .ref (ad 5), .ref (ad 7), .ref (ad 15), .ref (ad 18)])), ((ad 1), .inr (0, [.ref (ad 2)])), ((ad 2), .inl (cI, 86, .inl f)), ((ad 3), .inr (0, [.ref (ad 4)])), ((ad 4), .inl (cI, 86, .inl f2)), ((ad 5), .inr (2, [.ref (ad 6), .int (nI n)])), ((ad 6), .inl (cC, 60, .inl tx)), ((ad 7), .inr (1, [.ref (ad 8), .int (nI nx), .int (nI sn)])), ((ad 8), .inl (cG, 6, .inr (.inr (.inr (.inr (fun i => ([(ad 9), (ad 10), (ad 11), (ad 12), (ad 13), (ad 14)] : List Nat)[i]?)))))), ((ad 9), .inl (cI, 86, .inl (R 0))), ((ad 10), .inl (cI, 86, .inl (R 1))), ((ad 11), .inl (cI, 86, .inl (R 2))), ((ad 12), .inl (cI, 86, .inl (R 3))), ((ad 13), .inl (cI, 86, .inl (R 4))), ((ad 14), .inl (cI, 86, .inl (R 5))), ((ad 15), .inl (cG, 2, .inr (.inr (.inr (.inr (fun i => ([(ad 16), (ad 17)] : List Nat)[i]?)))))), ((ad 16), .inl (cI, 86, .inl (SL 0))), ((ad 17), .inl (cI, 86, .inl (SL 1))), ((ad 18), .inl (cZ, 2, .inl sv))] sz [.ref (ad 0), .int (nI 1)]) (b_Qi D (va_cpy (SL 1) f 0 0 86 4) [((ad 0), .inr (3, [.ref (ad 1), .ref (ad 3), .ref (ad 5), .ref (ad 7), .ref (ad 15), .ref (ad 18)])), ((ad 1), .inr (0, [.ref (ad 2)])), ((ad 2), .inl (cI, 86, .inl (va_cpy (SL 1) f 0 0 86))), ((ad 3), .inr (0, [.ref (ad 4)])), ((ad 4), .inl (cI, 86, .inl f2)), ((ad 5), .inr (2, [.ref (ad 6), .int (nI n)])), ((ad 6), .inl (cC, 60, .inl tx)), ((ad 7), .inr (1, [.ref (ad 8), .int (nI (h_nx nx)), .int (nI (h_sz sn))])), ((ad 8), .inl (cG, 6, .inr (.inr (.inr (.inr (fun i => ([(ad 9), (ad 10), (ad 11), (ad 12), (ad 13), (ad 14)] : List Nat)[i]?)))))), ((ad 9), .inl (cI, 86, .inl (va_up R nx (va_cpy f (R nx) 0 0 86) 0))), ((ad 10), .inl (cI, 86, .inl (va_up R nx (va_cpy f (R nx) 0 0 86) 1))), ((ad 11), .inl (cI, 86, .inl (va_up R nx (va_cpy f (R nx) 0 0 86) 2))), ((ad 12), .inl (cI, 86, .inl (va_up R nx (va_cpy f (R nx) 0 0 86) 3))), ((ad 13), .inl (cI, 86, .inl (va_up R nx (va_cpy f (R nx) 0 0 86) 4))), ((ad 14), .inl (cI, 86, .inl (va_up R nx (va_cpy f (R nx) 0 0 86) 5))), ((ad 15), .inl (cG, 2, .inr (.inr (.inr (.inr (fun i => ([(ad 16), (ad 17)] : List Nat)[i]?)))))), ((ad 16), .inl (cI, 86, .inl (SL 0))), ((ad 17), .inl (cI, 86, .inl (SL 1))), ((ad 18), .inl (cZ, 2, .inl sv))] (va_A [((ad 0), .inr (3, [.ref (ad 1), .ref (ad 3), .ref (ad 5), .ref (ad 7), .ref (ad 15), .ref (ad 18)])), ((ad 1), .inr (0, [.ref (ad 2)])), ((ad 2), .inl (cI, 86, .inl f)), ((ad 3), .inr (0, [.ref (ad 4)])), ((ad 4), .inl (cI, 86, .inl f2)), ((ad 5), .inr (2, [.ref (ad 6), .int (nI n)])), ((ad 6), .inl (cC, 60, .inl tx)), ((ad 7), .inr (1, [.ref (ad 8), .int (nI nx), .int (nI sn)])), ((ad 8), .inl (cG, 6, .inr (.inr (.inr (.inr (fun i => ([(ad 9), (ad 10), (ad 11), (ad 12), (ad 13), (ad 14)] : List Nat)[i]?)))))), ((ad 9), .inl (cI, 86, .inl (R 0))), ((ad 10), .inl (cI, 86, .inl (R 1))), ((ad 11), .inl (cI, 86, .inl (R 2))), ((ad 12), .inl (cI, 86, .inl (R 3))), ((ad 13), .inl (cI, 86, .inl (R 4))), ((ad 14), .inl (cI, 86, .inl (R 5))), ((ad 15), .inl (cG, 2, .inr (.inr (.inr (.inr (fun i => ([(ad 16), (ad 17)] : List Nat)[i]?)))))), ((ad 16), .inl (cI, 86, .inl (SL 0))), ((ad 17), .inl (cI, 86, .inl (SL 1))), ((ad 18), .inl (cZ, 2, .inl sv))] sz)) 0 0 (va_A [((ad 0), .inr (3, [.ref (ad 1), .ref (ad 3), .ref (ad 5), .ref (ad 7), .ref (ad 15), .ref (ad 18)])), ((ad 1), .inr (0, [.ref (ad 2)])), ((ad 2), .inl (cI, 86, .inl f)), ((ad 3), .inr (0, [.ref (ad 4)])), ((ad 4), .inl (cI, 86, .inl f2)), ((ad 5), .inr (2, [.ref (ad 6), .int (nI n)])), ((ad 6), .inl (cC, 60, .inl tx)), ((ad 7), .inr (1, [.ref (ad 8), .int (nI nx), .int (nI sn)])), ((ad 8), .inl (cG, 6, .inr (.inr (.inr (.inr (fun i => ([(ad 9), (ad 10), (ad 11), (ad 12), (ad 13), (ad 14)] : List Nat)[i]?)))))), ((ad 9), .inl (cI, 86, .inl (R 0))), ((ad 10), .inl (cI, 86, .inl (R 1))), ((ad 11), .inl (cI, 86, .inl (R 2))), ((ad 12), .inl (cI, 86, .inl (R 3))), ((ad 13), .inl (cI, 86, .inl (R 4))), ((ad 14), .inl (cI, 86, .inl (R 5))), ((ad 15), .inl (cG, 2, .inr (.inr (.inr (.inr (fun i => ([(ad 16), (ad 17)] : List Nat)[i]?)))))), ((ad 16), .inl (cI, 86, .inl (SL 0))), ((ad 17), .inl (cI, 86, .inl (SL 1))), ((ad 18), .inl (cZ, 2, .inl sv))] sz) := by
  refine b_enterW (Qc := fun A => b_Qi D (va_cpy (SL 1) f 0 0 86 4) [((ad 0), .inr (3, [.ref (ad 1), .ref (ad 3), .ref (ad 5), .ref (ad 7), .ref (ad 15), .ref (ad 18)])), ((ad 1), .inr (0, [.ref (ad 2)])), ((ad 2), .inl (cI, 86, .inl (va_cpy (SL 1) f 0 0 86))), ((ad 3), .inr (0, [.ref (ad 4)])), ((ad 4), .inl (cI, 86, .inl f2)), ((ad 5), .inr (2, [.ref (ad 6), .int (nI n)])), ((ad 6), .inl (cC, 60, .inl tx)), ((ad 7), .inr (1, [.ref (ad 8), .int (nI (h_nx nx)), .int (nI (h_sz sn))])), ((ad 8), .inl (cG, 6, .inr (.inr (.inr (.inr (fun i => ([(ad 9), (ad 10), (ad 11), (ad 12), (ad 13), (ad 14)] : List Nat)[i]?)))))), ((ad 9), .inl (cI, 86, .inl (va_up R nx (va_cpy f (R nx) 0 0 86) 0))), ((ad 10), .inl (cI, 86, .inl (va_up R nx (va_cpy f (R nx) 0 0 86) 1))), ((ad 11), .inl (cI, 86, .inl (va_up R nx (va_cpy f (R nx) 0 0 86) 2))), ((ad 12), .inl (cI, 86, .inl (va_up R nx (va_cpy f (R nx) 0 0 86) 3))), ((ad 13), .inl (cI, 86, .inl (va_up R nx (va_cpy f (R nx) 0 0 86) 4))), ((ad 14), .inl (cI, 86, .inl (va_up R nx (va_cpy f (R nx) 0 0 86) 5))), ((ad 15), .inl (cG, 2, .inr (.inr (.inr (.inr (fun i => ([(ad 16), (ad 17)] : List Nat)[i]?)))))), ((ad 16), .inl (cI, 86, .inl (SL 0))), ((ad 17), .inl (cI, 86, .inl (SL 1))), ((ad 18), .inl (cZ, 2, .inl sv))] A) (cc := cX3_restore) (maxL := 2) (ret := (some .int)) (by decide) rfl (Nat.le_of_ble_eq_true rfl) ?_
  intro p e s m below meth c ls A hx hb hr hml hown hts hlocks hname hP hK hD hA hS hX hl Q hQ
  have hown : s.vm.findClass RX3 = some m.cls := hown
  have hl : lv_has ls 2 [(0, .ref (ad 0)), (1, .int (nI 1))] := hl
  refine lv_iload_n (pc := 0) hx hb dX3_restore_0 rfl (lv_at hl 1 rfl) ?_
  refine b_cR (pc := 1) (va_runS (As := [.int (nI 1)]) (rest := []) ⟨hx, hb, hml, hown, hts⟩ (c_X3_isNoSlot l D cI cC cZ cG (nI 1)) (va_cwS 1 hts gX3_restore_X3_isNoSlot rfl rfl rfl hyS_X3_isNoSlot ⟨Nat.le_of_ble_eq_true rfl, Nat.le_of_ble_eq_true rfl⟩) (b_pRS (wc := []) hK hP [] rfl) rfl rfl hl.1 rfl (lv_room (Nat.le_of_ble_eq_true rfl)) dX3_restore_1 ⟨Nat.zero_le _, Nat.zero_le _⟩) ?_
  refine lv_if_eq (pc := 4) (tgt := 10) hx hb dX3_restore_4 (by decide) (fun c_1 => ?_) (fun c_1 => ?_)
  · skip
    have c_1 : ¬ ((nI 1) < 0 ∨ ¬ (nI 1) < 2) := b_i_0.mp c_1
    refine lv_aload_n (pc := 10) hx hb dX3_restore_10 rfl (lv_at hl 0 rfl) ?_
    refine va_get (pc := 11) (D := D) (ci := 3) (v := .ref (ad 18)) (C := RX3) (T := TX3) (N := 6) hx hb hts hi_X3_restore_restore_1_X3 hown hK hP 0 rfl rfl 5 (by decide) (hts _ hw_X3_restore_restore_1_0) (fun _ h9 => h9) rfl dX3_restore_11 ?_
    refine lv_iload_n (pc := 14) hx hb dX3_restore_14 rfl (lv_at hl 1 rfl) ?_
    refine b_zald (pc := 15) hx hb hK hP 18 2 rfl rfl 1 rfl (by omega) (by decide) dX3_restore_15 ?_
    refine lv_if_ne (pc := 16) (tgt := 22) hx hb dX3_restore_16 (by decide) (fun c_2 => ?_) (fun c_2 => ?_)
    · skip
      have c_2 : ¬ ((sv 1) = 0) := c_2
      refine lv_aload_n (pc := 22) hx hb dX3_restore_22 rfl (lv_at hl 0 rfl) ?_
      refine va_get (pc := 23) (D := D) (ci := 3) (v := .ref (ad 7)) (C := RX3) (T := TX3) (N := 6) hx hb hts hi_X3_restore_restore_1_X3 hown hK hP 0 rfl rfl 3 (by decide) (hts _ hw_X3_restore_restore_1_2) (fun _ h9 => h9) rfl dX3_restore_23 ?_
      refine lv_aload_n (pc := 26) hx hb dX3_restore_26 rfl (lv_at hl 0 rfl) ?_
      refine va_get (pc := 27) (D := D) (ci := 3) (v := .ref (ad 1)) (C := RX3) (T := TX3) (N := 6) hx hb hts hi_X3_restore_restore_1_X3 hown hK hP 0 rfl rfl 0 (by decide) (hts _ hw_X3_restore_restore_1_3) (fun _ h9 => h9) rfl dX3_restore_27 ?_
      refine va_get (pc := 30) (D := D) (ci := 0) (v := .ref (ad 2)) (C := RX0) (T := TX0) (N := 1) hx hb hts hi_X3_restore_restore_1_X0 hown hK hP 1 rfl rfl 0 (by decide) (hts _ hw_X3_restore_restore_1_4) (fun _ h9 => h9) rfl dX3_restore_30 ?_
      refine b_cV (pc := 33) (w1 := [((ad 7), .inr (1, [.ref (ad 8), .int (nI (h_nx nx)), .int (nI (h_sz sn))])), ((ad 8), .inl (cG, 6, .inr (.inr (.inr (.inr (fun i => ([(ad 9), (ad 10), (ad 11), (ad 12), (ad 13), (ad 14)] : List Nat)[i]?)))))), ((ad 9), .inl (cI, 86, .inl (va_up R nx (va_cpy f (R nx) 0 0 86) 0))), ((ad 10), .inl (cI, 86, .inl (va_up R nx (va_cpy f (R nx) 0 0 86) 1))), ((ad 11), .inl (cI, 86, .inl (va_up R nx (va_cpy f (R nx) 0 0 86) 2))), ((ad 12), .inl (cI, 86, .inl (va_up R nx (va_cpy f (R nx) 0 0 86) 3))), ((ad 13), .inl (cI, 86, .inl (va_up R nx (va_cpy f (R nx) 0 0 86) 4))), ((ad 14), .inl (cI, 86, .inl (va_up R nx (va_cpy f (R nx) 0 0 86) 5))), ((ad 2), .inl (cI, 86, .inl f))]) (va_runV (As := [.ref (ad 2)]) (rest := []) ⟨hx, hb, hml, hown, hts⟩ (c_X1_keep l D cI cC cZ cG tb lo hi s.heap.size (ad 7) (ad 8) (ad 9) (ad 10) (ad 11) (ad 12) (ad 13) (ad 14) nx sn R (ad 2) f (by omega) (by omega)) (cwV 1 hts gX3_restore_X1_keep rfl rfl rfl hy_X1_keep ⟨Nat.le_of_ble_eq_true rfl, Nat.le_of_ble_eq_true rfl⟩) (b_pWV (wc := [((ad 7), .inr (1, [.ref (ad 8), .int (nI nx), .int (nI sn)])), ((ad 8), .inl (cG, 6, .inr (.inr (.inr (.inr (fun i => ([(ad 9), (ad 10), (ad 11), (ad 12), (ad 13), (ad 14)] : List Nat)[i]?)))))), ((ad 9), .inl (cI, 86, .inl (R 0))), ((ad 10), .inl (cI, 86, .inl (R 1))), ((ad 11), .inl (cI, 86, .inl (R 2))), ((ad 12), .inl (cI, 86, .inl (R 3))), ((ad 13), .inl (cI, 86, .inl (R 4))), ((ad 14), .inl (cI, 86, .inl (R 5))), ((ad 2), .inl (cI, 86, .inl f))]) hK hP hD (b_Xok_X tb lo hi) [7, 8, 9, 10, 11, 12, 13, 14, 2] rfl (by decide) rfl (b_Xc hX hD hS hA [7, 8, 9, 10, 11, 12, 13, 14, 2] rfl) (ci := 1) (q0 := 0) rfl rfl) rfl rfl hl.1 rfl (lv_room (Nat.le_of_ble_eq_true rfl)) dX3_restore_33 ⟨Nat.zero_le _, Nat.zero_le _⟩) hP hD hS hA [7, 8, 9, 10, 11, 12, 13, 14, 2] rfl rfl (fun H locs hP hD hS => ?_)
      have hP : va_P D vwCl [((ad 0), .inr (3, [.ref (ad 1), .ref (ad 3), .ref (ad 5), .ref (ad 7), .ref (ad 15), .ref (ad 18)])), ((ad 1), .inr (0, [.ref (ad 2)])), ((ad 2), .inl (cI, 86, .inl f)), ((ad 3), .inr (0, [.ref (ad 4)])), ((ad 4), .inl (cI, 86, .inl f2)), ((ad 5), .inr (2, [.ref (ad 6), .int (nI n)])), ((ad 6), .inl (cC, 60, .inl tx)), ((ad 7), .inr (1, [.ref (ad 8), .int (nI (h_nx nx)), .int (nI (h_sz sn))])), ((ad 8), .inl (cG, 6, .inr (.inr (.inr (.inr (fun i => ([(ad 9), (ad 10), (ad 11), (ad 12), (ad 13), (ad 14)] : List Nat)[i]?)))))), ((ad 9), .inl (cI, 86, .inl (va_up R nx (va_cpy f (R nx) 0 0 86) 0))), ((ad 10), .inl (cI, 86, .inl (va_up R nx (va_cpy f (R nx) 0 0 86) 1))), ((ad 11), .inl (cI, 86, .inl (va_up R nx (va_cpy f (R nx) 0 0 86) 2))), ((ad 12), .inl (cI, 86, .inl (va_up R nx (va_cpy f (R nx) 0 0 86) 3))), ((ad 13), .inl (cI, 86, .inl (va_up R nx (va_cpy f (R nx) 0 0 86) 4))), ((ad 14), .inl (cI, 86, .inl (va_up R nx (va_cpy f (R nx) 0 0 86) 5))), ((ad 15), .inl (cG, 2, .inr (.inr (.inr (.inr (fun i => ([(ad 16), (ad 17)] : List Nat)[i]?)))))), ((ad 16), .inl (cI, 86, .inl (SL 0))), ((ad 17), .inl (cI, 86, .inl (SL 1))), ((ad 18), .inl (cZ, 2, .inl sv))] H := hP
      have hD : va_D A [((ad 0), .inr (3, [.ref (ad 1), .ref (ad 3), .ref (ad 5), .ref (ad 7), .ref (ad 15), .ref (ad 18)])), ((ad 1), .inr (0, [.ref (ad 2)])), ((ad 2), .inl (cI, 86, .inl f)), ((ad 3), .inr (0, [.ref (ad 4)])), ((ad 4), .inl (cI, 86, .inl f2)), ((ad 5), .inr (2, [.ref (ad 6), .int (nI n)])), ((ad 6), .inl (cC, 60, .inl tx)), ((ad 7), .inr (1, [.ref (ad 8), .int (nI (h_nx nx)), .int (nI (h_sz sn))])), ((ad 8), .inl (cG, 6, .inr (.inr (.inr (.inr (fun i => ([(ad 9), (ad 10), (ad 11), (ad 12), (ad 13), (ad 14)] : List Nat)[i]?)))))), ((ad 9), .inl (cI, 86, .inl (va_up R nx (va_cpy f (R nx) 0 0 86) 0))), ((ad 10), .inl (cI, 86, .inl (va_up R nx (va_cpy f (R nx) 0 0 86) 1))), ((ad 11), .inl (cI, 86, .inl (va_up R nx (va_cpy f (R nx) 0 0 86) 2))), ((ad 12), .inl (cI, 86, .inl (va_up R nx (va_cpy f (R nx) 0 0 86) 3))), ((ad 13), .inl (cI, 86, .inl (va_up R nx (va_cpy f (R nx) 0 0 86) 4))), ((ad 14), .inl (cI, 86, .inl (va_up R nx (va_cpy f (R nx) 0 0 86) 5))), ((ad 15), .inl (cG, 2, .inr (.inr (.inr (.inr (fun i => ([(ad 16), (ad 17)] : List Nat)[i]?)))))), ((ad 16), .inl (cI, 86, .inl (SL 0))), ((ad 17), .inl (cI, 86, .inl (SL 1))), ((ad 18), .inl (cZ, 2, .inl sv))] := hD
      refine lv_aload_n (pc := 36) hx hb dX3_restore_36 rfl (lv_at hl 0 rfl) ?_
      refine va_get (pc := 37) (D := D) (ci := 3) (v := .ref (ad 15)) (C := RX3) (T := TX3) (N := 6) hx hb hts hi_X3_restore_restore_1_X3 hown hK hP 0 rfl rfl 4 (by decide) (hts _ hw_X3_restore_restore_1_6) (fun _ h9 => h9) rfl dX3_restore_37 ?_
      refine lv_iload_n (pc := 40) hx hb dX3_restore_40 rfl (lv_at hl 1 rfl) ?_
      refine b_gald (pc := 41) (r := (ad 17)) hx hb hK hP 15 3 rfl rfl 1 rfl (by decide) (by decide) rfl dX3_restore_41 ?_
      refine lv_aload_n (pc := 42) hx hb dX3_restore_42 rfl (lv_at hl 0 rfl) ?_
      refine va_get (pc := 43) (D := D) (ci := 3) (v := .ref (ad 1)) (C := RX3) (T := TX3) (N := 6) hx hb hts hi_X3_restore_restore_1_X3 hown hK hP 0 rfl rfl 0 (by decide) (hts _ hw_X3_restore_restore_1_3) (fun _ h9 => h9) rfl dX3_restore_43 ?_
      refine va_get (pc := 46) (D := D) (ci := 0) (v := .ref (ad 2)) (C := RX0) (T := TX0) (N := 1) hx hb hts hi_X3_restore_restore_1_X0 hown hK hP 1 rfl rfl 0 (by decide) (hts _ hw_X3_restore_restore_1_4) (fun _ h9 => h9) rfl dX3_restore_46 ?_
      refine b_cV (pc := 49) (w1 := [((ad 17), .inl (cI, 86, .inl (SL 1))), ((ad 2), .inl (cI, 86, .inl (va_cpy (SL 1) f 0 0 86)))]) (va_runS (As := [.ref (ad 17), .ref (ad 2)]) (rest := []) ⟨hx, hb, hml, hown, hts⟩ (c_X3_copyRow l D cI cC cZ cG tb lo hi H.size (ad 17) (ad 2) (SL 1) f) (va_cwS 2 hts gX3_restore_X3_copyRow rfl rfl rfl hyS_X3_copyRow ⟨Nat.le_of_ble_eq_true rfl, Nat.le_of_ble_eq_true rfl⟩) (b_pWS (wc := [((ad 17), .inl (cI, 86, .inl (SL 1))), ((ad 2), .inl (cI, 86, .inl f))]) hK hP hD (b_Xok_X tb lo hi) [17, 2] rfl (by decide) rfl (b_Xc hX hD hS hA [17, 2] rfl)) rfl rfl hl.1 rfl (lv_room (Nat.le_of_ble_eq_true rfl)) dX3_restore_49 ⟨Nat.zero_le _, Nat.zero_le _⟩) hP hD hS hA [17, 2] rfl rfl (fun H locs hP hD hS => ?_)
      have hP : va_P D vwCl [((ad 0), .inr (3, [.ref (ad 1), .ref (ad 3), .ref (ad 5), .ref (ad 7), .ref (ad 15), .ref (ad 18)])), ((ad 1), .inr (0, [.ref (ad 2)])), ((ad 2), .inl (cI, 86, .inl (va_cpy (SL 1) f 0 0 86))), ((ad 3), .inr (0, [.ref (ad 4)])), ((ad 4), .inl (cI, 86, .inl f2)), ((ad 5), .inr (2, [.ref (ad 6), .int (nI n)])), ((ad 6), .inl (cC, 60, .inl tx)), ((ad 7), .inr (1, [.ref (ad 8), .int (nI (h_nx nx)), .int (nI (h_sz sn))])), ((ad 8), .inl (cG, 6, .inr (.inr (.inr (.inr (fun i => ([(ad 9), (ad 10), (ad 11), (ad 12), (ad 13), (ad 14)] : List Nat)[i]?)))))), ((ad 9), .inl (cI, 86, .inl (va_up R nx (va_cpy f (R nx) 0 0 86) 0))), ((ad 10), .inl (cI, 86, .inl (va_up R nx (va_cpy f (R nx) 0 0 86) 1))), ((ad 11), .inl (cI, 86, .inl (va_up R nx (va_cpy f (R nx) 0 0 86) 2))), ((ad 12), .inl (cI, 86, .inl (va_up R nx (va_cpy f (R nx) 0 0 86) 3))), ((ad 13), .inl (cI, 86, .inl (va_up R nx (va_cpy f (R nx) 0 0 86) 4))), ((ad 14), .inl (cI, 86, .inl (va_up R nx (va_cpy f (R nx) 0 0 86) 5))), ((ad 15), .inl (cG, 2, .inr (.inr (.inr (.inr (fun i => ([(ad 16), (ad 17)] : List Nat)[i]?)))))), ((ad 16), .inl (cI, 86, .inl (SL 0))), ((ad 17), .inl (cI, 86, .inl (SL 1))), ((ad 18), .inl (cZ, 2, .inl sv))] H := hP
      have hD : va_D A [((ad 0), .inr (3, [.ref (ad 1), .ref (ad 3), .ref (ad 5), .ref (ad 7), .ref (ad 15), .ref (ad 18)])), ((ad 1), .inr (0, [.ref (ad 2)])), ((ad 2), .inl (cI, 86, .inl (va_cpy (SL 1) f 0 0 86))), ((ad 3), .inr (0, [.ref (ad 4)])), ((ad 4), .inl (cI, 86, .inl f2)), ((ad 5), .inr (2, [.ref (ad 6), .int (nI n)])), ((ad 6), .inl (cC, 60, .inl tx)), ((ad 7), .inr (1, [.ref (ad 8), .int (nI (h_nx nx)), .int (nI (h_sz sn))])), ((ad 8), .inl (cG, 6, .inr (.inr (.inr (.inr (fun i => ([(ad 9), (ad 10), (ad 11), (ad 12), (ad 13), (ad 14)] : List Nat)[i]?)))))), ((ad 9), .inl (cI, 86, .inl (va_up R nx (va_cpy f (R nx) 0 0 86) 0))), ((ad 10), .inl (cI, 86, .inl (va_up R nx (va_cpy f (R nx) 0 0 86) 1))), ((ad 11), .inl (cI, 86, .inl (va_up R nx (va_cpy f (R nx) 0 0 86) 2))), ((ad 12), .inl (cI, 86, .inl (va_up R nx (va_cpy f (R nx) 0 0 86) 3))), ((ad 13), .inl (cI, 86, .inl (va_up R nx (va_cpy f (R nx) 0 0 86) 4))), ((ad 14), .inl (cI, 86, .inl (va_up R nx (va_cpy f (R nx) 0 0 86) 5))), ((ad 15), .inl (cG, 2, .inr (.inr (.inr (.inr (fun i => ([(ad 16), (ad 17)] : List Nat)[i]?)))))), ((ad 16), .inl (cI, 86, .inl (SL 0))), ((ad 17), .inl (cI, 86, .inl (SL 1))), ((ad 18), .inl (cZ, 2, .inl sv))] := hD
      refine lv_aload_n (pc := 52) hx hb dX3_restore_52 rfl (lv_at hl 0 rfl) ?_
      refine va_get (pc := 53) (D := D) (ci := 3) (v := .ref (ad 1)) (C := RX3) (T := TX3) (N := 6) hx hb hts hi_X3_restore_restore_1_X3 hown hK hP 0 rfl rfl 0 (by decide) (hts _ hw_X3_restore_restore_1_3) (fun _ h9 => h9) rfl dX3_restore_53 ?_
      refine va_get (pc := 56) (D := D) (ci := 0) (v := .ref (ad 2)) (C := RX0) (T := TX0) (N := 1) hx hb hts hi_X3_restore_restore_1_X0 hown hK hP 1 rfl rfl 0 (by decide) (hts _ hw_X3_restore_restore_1_4) (fun _ h9 => h9) rfl dX3_restore_56 ?_
      refine lv_iconst (pc := 59) (v := 4) hx hb dX3_restore_59 (by decide) ?_
      refine b_iald (pc := 60) hx hb hK hP 2 0 rfl rfl 4 rfl (by omega) (by decide) dX3_restore_60 ?_
      subst hQ
      exact b_retW hx hb hr hlocks hS (rfl) (hP) dX3_restore_61
    · skip
      have c_2 : (sv 1) = 0 := c_2
      exact absurd c_2 hbad
  · skip
    have c_1 : (nI 1) < 0 ∨ ¬ (nI 1) < 2 := Classical.not_not.mp (fun h9 => c_1 (b_i_0.mpr h9))
    exact absurd c_1 (p_ns_no (by decide))
set_option maxHeartbeats 4000000 in
set_option maxRecDepth 100000 in
theorem c_X3_restore_ok (l : Launch) (D : va_G) (cI cC cZ cG : ClassId) (tb lo hi : Nat) (sz : Nat) (ad : Nat → Nat) (f : Nat → Int32) (f2 : Nat → Int32) (tx : Nat → Int32) (n : Nat) (nx : Nat) (sn : Nat) (R : Nat → Nat → Int32) (SL : Nat → Nat → Int32) (sv : Nat → Int32) (w1 : Nat) (hn60 : n ≤ 60) (hnx : nx < 6) (hsn : sn ≤ 6) (hw1 : w1 < 2) (hbad : ¬ sv w1 = 0) : Met l yX3_restore wsX3_restore ({ frames := 3, cells := 0, slots := 0, locals := 72 } : Room) (b_W D (b_T cI cC cZ cG) (b_X tb lo hi) [((ad 0), .inr (3, [.ref (ad 1), .ref (ad 3), .ref (ad 5), .ref (ad 7), .ref (ad 15), .ref (ad 18)])), ((ad 1), .inr (0, [.ref (ad 2)])), ((ad 2), .inl (cI, 86, .inl f)), ((ad 3), .inr (0, [.ref (ad 4)])), ((ad 4), .inl (cI, 86, .inl f2)), ((ad 5), .inr (2, [.ref (ad 6), .int (nI n)])), ((ad 6), .inl (cC, 60, .inl tx)), ((ad 7), .inr (1, [.ref (ad 8), .int (nI nx), .int (nI sn)])), ((ad 8), .inl (cG, 6, .inr (.inr (.inr (.inr (fun i => ([(ad 9), (ad 10), (ad 11), (ad 12), (ad 13), (ad 14)] : List Nat)[i]?)))))), ((ad 9), .inl (cI, 86, .inl (R 0))), ((ad 10), .inl (cI, 86, .inl (R 1))), ((ad 11), .inl (cI, 86, .inl (R 2))), ((ad 12), .inl (cI, 86, .inl (R 3))), ((ad 13), .inl (cI, 86, .inl (R 4))), ((ad 14), .inl (cI, 86, .inl (R 5))), ((ad 15), .inl (cG, 2, .inr (.inr (.inr (.inr (fun i => ([(ad 16), (ad 17)] : List Nat)[i]?)))))), ((ad 16), .inl (cI, 86, .inl (SL 0))), ((ad 17), .inl (cI, 86, .inl (SL 1))), ((ad 18), .inl (cZ, 2, .inl sv))] sz [.ref (ad 0), .int (nI w1)]) (b_Qi D (va_cpy (SL w1) f 0 0 86 4) [((ad 0), .inr (3, [.ref (ad 1), .ref (ad 3), .ref (ad 5), .ref (ad 7), .ref (ad 15), .ref (ad 18)])), ((ad 1), .inr (0, [.ref (ad 2)])), ((ad 2), .inl (cI, 86, .inl (va_cpy (SL w1) f 0 0 86))), ((ad 3), .inr (0, [.ref (ad 4)])), ((ad 4), .inl (cI, 86, .inl f2)), ((ad 5), .inr (2, [.ref (ad 6), .int (nI n)])), ((ad 6), .inl (cC, 60, .inl tx)), ((ad 7), .inr (1, [.ref (ad 8), .int (nI (h_nx nx)), .int (nI (h_sz sn))])), ((ad 8), .inl (cG, 6, .inr (.inr (.inr (.inr (fun i => ([(ad 9), (ad 10), (ad 11), (ad 12), (ad 13), (ad 14)] : List Nat)[i]?)))))), ((ad 9), .inl (cI, 86, .inl (va_up R nx (va_cpy f (R nx) 0 0 86) 0))), ((ad 10), .inl (cI, 86, .inl (va_up R nx (va_cpy f (R nx) 0 0 86) 1))), ((ad 11), .inl (cI, 86, .inl (va_up R nx (va_cpy f (R nx) 0 0 86) 2))), ((ad 12), .inl (cI, 86, .inl (va_up R nx (va_cpy f (R nx) 0 0 86) 3))), ((ad 13), .inl (cI, 86, .inl (va_up R nx (va_cpy f (R nx) 0 0 86) 4))), ((ad 14), .inl (cI, 86, .inl (va_up R nx (va_cpy f (R nx) 0 0 86) 5))), ((ad 15), .inl (cG, 2, .inr (.inr (.inr (.inr (fun i => ([(ad 16), (ad 17)] : List Nat)[i]?)))))), ((ad 16), .inl (cI, 86, .inl (SL 0))), ((ad 17), .inl (cI, 86, .inl (SL 1))), ((ad 18), .inl (cZ, 2, .inl sv))] (va_A [((ad 0), .inr (3, [.ref (ad 1), .ref (ad 3), .ref (ad 5), .ref (ad 7), .ref (ad 15), .ref (ad 18)])), ((ad 1), .inr (0, [.ref (ad 2)])), ((ad 2), .inl (cI, 86, .inl f)), ((ad 3), .inr (0, [.ref (ad 4)])), ((ad 4), .inl (cI, 86, .inl f2)), ((ad 5), .inr (2, [.ref (ad 6), .int (nI n)])), ((ad 6), .inl (cC, 60, .inl tx)), ((ad 7), .inr (1, [.ref (ad 8), .int (nI nx), .int (nI sn)])), ((ad 8), .inl (cG, 6, .inr (.inr (.inr (.inr (fun i => ([(ad 9), (ad 10), (ad 11), (ad 12), (ad 13), (ad 14)] : List Nat)[i]?)))))), ((ad 9), .inl (cI, 86, .inl (R 0))), ((ad 10), .inl (cI, 86, .inl (R 1))), ((ad 11), .inl (cI, 86, .inl (R 2))), ((ad 12), .inl (cI, 86, .inl (R 3))), ((ad 13), .inl (cI, 86, .inl (R 4))), ((ad 14), .inl (cI, 86, .inl (R 5))), ((ad 15), .inl (cG, 2, .inr (.inr (.inr (.inr (fun i => ([(ad 16), (ad 17)] : List Nat)[i]?)))))), ((ad 16), .inl (cI, 86, .inl (SL 0))), ((ad 17), .inl (cI, 86, .inl (SL 1))), ((ad 18), .inl (cZ, 2, .inl sv))] sz)) 0 0 (va_A [((ad 0), .inr (3, [.ref (ad 1), .ref (ad 3), .ref (ad 5), .ref (ad 7), .ref (ad 15), .ref (ad 18)])), ((ad 1), .inr (0, [.ref (ad 2)])), ((ad 2), .inl (cI, 86, .inl f)), ((ad 3), .inr (0, [.ref (ad 4)])), ((ad 4), .inl (cI, 86, .inl f2)), ((ad 5), .inr (2, [.ref (ad 6), .int (nI n)])), ((ad 6), .inl (cC, 60, .inl tx)), ((ad 7), .inr (1, [.ref (ad 8), .int (nI nx), .int (nI sn)])), ((ad 8), .inl (cG, 6, .inr (.inr (.inr (.inr (fun i => ([(ad 9), (ad 10), (ad 11), (ad 12), (ad 13), (ad 14)] : List Nat)[i]?)))))), ((ad 9), .inl (cI, 86, .inl (R 0))), ((ad 10), .inl (cI, 86, .inl (R 1))), ((ad 11), .inl (cI, 86, .inl (R 2))), ((ad 12), .inl (cI, 86, .inl (R 3))), ((ad 13), .inl (cI, 86, .inl (R 4))), ((ad 14), .inl (cI, 86, .inl (R 5))), ((ad 15), .inl (cG, 2, .inr (.inr (.inr (.inr (fun i => ([(ad 16), (ad 17)] : List Nat)[i]?)))))), ((ad 16), .inl (cI, 86, .inl (SL 0))), ((ad 17), .inl (cI, 86, .inl (SL 1))), ((ad 18), .inl (cZ, 2, .inl sv))] sz) := by
  match w1, hw1 with
  | 0, _ => exact c_X3_restore_restore_0 l D cI cC cZ cG tb lo hi sz ad f f2 tx n nx sn R SL sv hn60 hnx hsn hbad
  | 1, _ => exact c_X3_restore_restore_1 l D cI cC cZ cG tb lo hi sz ad f f2 tx n nx sn R SL sv hn60 hnx hsn hbad
  | k + 2, h9 => exact absurd h9 (by omega)
