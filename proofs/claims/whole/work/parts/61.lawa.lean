/-! the law's calls -/
set_option maxHeartbeats 4000000 in
set_option maxRecDepth 100000 in
theorem law_set {p : Program} {l : Launch} {e : Env} {s : State} {m : MethodId} {below : List Frame} {meth : Method} {c : Code} {D : va_G} {cI cC cZ cG : ClassId} {A : Nat → Prop} {tb lo hi b L : Nat} {xs : Nat → Int32} {ad md : Nat → Nat} {i N : Nat} (C : lw_C p s m meth c D cI cC cZ cG A tb lo hi b L xs) (hi3 : i + 3 ≤ L) (hL : L ≤ 1536) (hN : N + 60 ≤ 1000000) (kk : lw_KK p l e s m below meth c D cI cC cZ cG A b ad md i (N + 60) 571) : lw_KK p l e s m below meth c D cI cC cZ cG A b ad md i N 124 := by
  intro f f2 tx n nx sn R SL sv a kp hs sl iv sp nu hB H locs hP hD hS ls hl
  obtain ⟨hx, hb, hml, hown, hts, hXs, hbl, hbA, hA, hK, hX⟩ := C
  have hn60 : n ≤ 60 := hB.2.1
  have hnx : nx < 6 := hB.2.2.1.1
  have hsn : sn ≤ 6 := hB.2.2.1.2
  have hR := hB.1
  have hkc : 600000 + 0 ≤ room_1.cells := Nat.le_refl _
  have hks : 7302250 + 0 ≤ room_1.slots := Nat.le_refl _
  have hl : lv_has ls 4 [(0, .ref b), (1, .ref (ad 0)), (2, .ref (md 0)), (3, .int (nI i))] := hl
  rcases cs_set (xs (i + 1)) (xs (i + 2)) with hbad | ⟨s1, hs3, ex, hbad⟩ | ⟨s1, hs3, ex, h1, h2⟩
  · skip
    refine lv_aload_n (pc := 124) hx hb dL_law_124 rfl (lv_at hl 1 rfl) ?_
    refine lv_aload_n (pc := 125) hx hb dL_law_125 rfl (lv_at hl 0 rfl) ?_
    refine lv_iload_n (pc := 126) hx hb dL_law_126 rfl (lv_at hl 3 rfl) ?_
    refine lv_iconst (pc := 127) (v := 1) hx hb dL_law_127 (by decide) ?_
    refine lv_iadd (pc := 128) hx hb dL_law_128 ?_
    refine b_re (nI_add i 1) ?_
    refine b_sld (pc := 129) hx hb hXs hbl hbA hS (i + 1) (by omega) (by omega) dL_law_129 ?_
    refine lv_aload_n (pc := 130) hx hb dL_law_130 rfl (lv_at hl 0 rfl) ?_
    refine lv_iload_n (pc := 131) hx hb dL_law_131 rfl (lv_at hl 3 rfl) ?_
    refine lv_iconst (pc := 132) (v := 2) hx hb dL_law_132 (by decide) ?_
    refine lv_iadd (pc := 133) hx hb dL_law_133 ?_
    refine b_re (nI_add i 2) ?_
    refine b_sld (pc := 134) hx hb hXs hbl hbA hS (i + 2) (by omega) (by omega) dL_law_134 ?_
    refine b_cR (pc := 135) (va_runV (As := [.int (xs (i + 1)), .int (xs (i + 2))]) (rest := []) ⟨hx, hb, hml, hown, hts⟩ (c_X3_set_bad l D cI cC cZ cG ad f f2 tx n nx sn R SL sv (xs (i + 1)) (xs (i + 2)) (by first | omega | assumption) (by first | omega | assumption) (by first | omega | assumption) (by first | omega | assumption)) (cwV 2 hts gL_law_X3_set rfl rfl rfl hy_X3_set ⟨Nat.le_of_ble_eq_true rfl, Nat.le_of_ble_eq_true rfl⟩) (b_pRV (wc := [((ad 0), .inr (3, [.ref (ad 1), .ref (ad 3), .ref (ad 5), .ref (ad 7), .ref (ad 15), .ref (ad 18)])), ((ad 1), .inr (0, [.ref (ad 2)])), ((ad 2), .inl (cI, 86, .inl f)), ((ad 3), .inr (0, [.ref (ad 4)])), ((ad 4), .inl (cI, 86, .inl f2)), ((ad 5), .inr (2, [.ref (ad 6), .int (nI n)])), ((ad 6), .inl (cC, 60, .inl tx)), ((ad 7), .inr (1, [.ref (ad 8), .int (nI nx), .int (nI sn)])), ((ad 8), .inl (cG, 6, .inr (.inr (.inr (.inr (fun i => ([(ad 9), (ad 10), (ad 11), (ad 12), (ad 13), (ad 14)] : List Nat)[i]?)))))), ((ad 9), .inl (cI, 86, .inl (R 0))), ((ad 10), .inl (cI, 86, .inl (R 1))), ((ad 11), .inl (cI, 86, .inl (R 2))), ((ad 12), .inl (cI, 86, .inl (R 3))), ((ad 13), .inl (cI, 86, .inl (R 4))), ((ad 14), .inl (cI, 86, .inl (R 5))), ((ad 15), .inl (cG, 2, .inr (.inr (.inr (.inr (fun i => ([(ad 16), (ad 17)] : List Nat)[i]?)))))), ((ad 16), .inl (cI, 86, .inl (SL 0))), ((ad 17), .inl (cI, 86, .inl (SL 1))), ((ad 18), .inl (cZ, 2, .inl sv))]) hK hP [0, 1, 2, 3, 4, 5, 6, 7, 8, 9, 10, 11, 12, 13, 14, 15, 16, 17, 18] rfl (ci := 3) (q0 := 0) rfl rfl) rfl rfl hl.1 rfl (lv_room (Nat.le_of_ble_eq_true rfl)) dL_law_135 ⟨hkc, hks⟩) ?_
    refine lv_aload_n (pc := 138) hx hb dL_law_138 rfl (lv_at hl 2 rfl) ?_
    refine lv_aload_n (pc := 139) hx hb dL_law_139 rfl (lv_at hl 0 rfl) ?_
    refine lv_iload_n (pc := 140) hx hb dL_law_140 rfl (lv_at hl 3 rfl) ?_
    refine lv_iconst (pc := 141) (v := 1) hx hb dL_law_141 (by decide) ?_
    refine lv_iadd (pc := 142) hx hb dL_law_142 ?_
    refine b_re (nI_add i 1) ?_
    refine b_sld (pc := 143) hx hb hXs hbl hbA hS (i + 1) (by omega) (by omega) dL_law_143 ?_
    refine lv_aload_n (pc := 144) hx hb dL_law_144 rfl (lv_at hl 0 rfl) ?_
    refine lv_iload_n (pc := 145) hx hb dL_law_145 rfl (lv_at hl 3 rfl) ?_
    refine lv_iconst (pc := 146) (v := 2) hx hb dL_law_146 (by decide) ?_
    refine lv_iadd (pc := 147) hx hb dL_law_147 ?_
    refine b_re (nI_add i 2) ?_
    refine b_sld (pc := 148) hx hb hXs hbl hbA hS (i + 2) (by omega) (by omega) dL_law_148 ?_
    refine b_cR (pc := 149) (va_runV (As := [.int (xs (i + 1)), .int (xs (i + 2))]) (rest := [.int (-2)]) ⟨hx, hb, hml, hown, hts⟩ (c_X4_set_bad l D cI cC cZ cG md a kp hs sn sl iv tx n sp nu (xs (i + 1)) (xs (i + 2)) (by first | omega | assumption)) (cwV 2 hts gL_law_X4_set rfl rfl rfl hy_X4_set ⟨Nat.le_of_ble_eq_true rfl, Nat.le_of_ble_eq_true rfl⟩) (b_pRV (wc := [((md 0), .inr (4, [.ref (md 1), .ref (md 2), .ref (md 3), .int (nI sn), .ref (md 4), .ref (md 5), .ref (md 6), .int (nI n), .int (nI sp), .int nu])), ((md 1), .inl (cI, 86, .inl a)), ((md 2), .inl (cI, 86, .inl kp)), ((md 3), .inl (cI, 516, .inl hs)), ((md 4), .inl (cI, 172, .inl sl)), ((md 5), .inl (cI, 2, .inl iv)), ((md 6), .inl (cI, 60, .inl tx))]) hK hP [19, 20, 21, 22, 23, 24, 25] rfl (ci := 4) (q0 := 0) rfl rfl) rfl rfl hl.1 rfl (lv_room (Nat.le_of_ble_eq_true rfl)) dL_law_149 ⟨hkc, hks⟩) ?_
    refine lv_icmp_eq (pc := 152) (tgt := 571) hx hb dL_law_152 (by decide) (fun c_1 => ?_) (fun c_1 => ?_)
    · skip
      exact kk f f2 tx n nx sn R SL sv a kp hs sl iv sp nu (hB.mono (by omega)) _ _ hP hD hS ls hl
    · skip
      exact absurd c_1 (by decide)
  · skip
    refine lv_aload_n (pc := 124) hx hb dL_law_124 rfl (lv_at hl 1 rfl) ?_
    refine lv_aload_n (pc := 125) hx hb dL_law_125 rfl (lv_at hl 0 rfl) ?_
    refine lv_iload_n (pc := 126) hx hb dL_law_126 rfl (lv_at hl 3 rfl) ?_
    refine lv_iconst (pc := 127) (v := 1) hx hb dL_law_127 (by decide) ?_
    refine lv_iadd (pc := 128) hx hb dL_law_128 ?_
    refine b_re (nI_add i 1) ?_
    refine b_sld (pc := 129) hx hb hXs hbl hbA hS (i + 1) (by omega) (by omega) dL_law_129 ?_
    refine b_re ex ?_
    refine lv_aload_n (pc := 130) hx hb dL_law_130 rfl (lv_at hl 0 rfl) ?_
    refine lv_iload_n (pc := 131) hx hb dL_law_131 rfl (lv_at hl 3 rfl) ?_
    refine lv_iconst (pc := 132) (v := 2) hx hb dL_law_132 (by decide) ?_
    refine lv_iadd (pc := 133) hx hb dL_law_133 ?_
    refine b_re (nI_add i 2) ?_
    refine b_sld (pc := 134) hx hb hXs hbl hbA hS (i + 2) (by omega) (by omega) dL_law_134 ?_
    refine b_cW (pc := 135) (w1 := [((ad 0), .inr (3, [.ref (ad 1), .ref (ad 3), .ref (ad 5), .ref (ad 7), .ref (ad 15), .ref (ad 18)])), ((ad 1), .inr (0, [.ref (ad 2)])), ((ad 2), .inl (cI, 86, .inl f)), ((ad 3), .inr (0, [.ref (ad 4)])), ((ad 4), .inl (cI, 86, .inl f2)), ((ad 5), .inr (2, [.ref (ad 6), .int (nI n)])), ((ad 6), .inl (cC, 60, .inl tx)), ((ad 7), .inr (1, [.ref (ad 8), .int (nI nx), .int (nI sn)])), ((ad 8), .inl (cG, 6, .inr (.inr (.inr (.inr (fun i => ([(ad 9), (ad 10), (ad 11), (ad 12), (ad 13), (ad 14)] : List Nat)[i]?)))))), ((ad 9), .inl (cI, 86, .inl (R 0))), ((ad 10), .inl (cI, 86, .inl (R 1))), ((ad 11), .inl (cI, 86, .inl (R 2))), ((ad 12), .inl (cI, 86, .inl (R 3))), ((ad 13), .inl (cI, 86, .inl (R 4))), ((ad 14), .inl (cI, 86, .inl (R 5))), ((ad 15), .inl (cG, 2, .inr (.inr (.inr (.inr (fun i => ([(ad 16), (ad 17)] : List Nat)[i]?)))))), ((ad 16), .inl (cI, 86, .inl (SL 0))), ((ad 17), .inl (cI, 86, .inl (SL 1))), ((ad 18), .inl (cZ, 2, .inl sv))]) (va_runV (As := [.int (nI s1), .int (xs (i + 2))]) (rest := []) ⟨hx, hb, hml, hown, hts⟩ (c_X3_set_rng l D cI cC cZ cG tb lo hi H.size ad f f2 tx n nx sn R SL sv s1 (xs (i + 2)) (by first | omega | assumption) (by first | omega | assumption) (by first | omega | assumption) (by first | omega | assumption) (by first | omega | assumption)) (cwV 2 hts gL_law_X3_set rfl rfl rfl hy_X3_set ⟨Nat.le_of_ble_eq_true rfl, Nat.le_of_ble_eq_true rfl⟩) (b_pWV (wc := [((ad 0), .inr (3, [.ref (ad 1), .ref (ad 3), .ref (ad 5), .ref (ad 7), .ref (ad 15), .ref (ad 18)])), ((ad 1), .inr (0, [.ref (ad 2)])), ((ad 2), .inl (cI, 86, .inl f)), ((ad 3), .inr (0, [.ref (ad 4)])), ((ad 4), .inl (cI, 86, .inl f2)), ((ad 5), .inr (2, [.ref (ad 6), .int (nI n)])), ((ad 6), .inl (cC, 60, .inl tx)), ((ad 7), .inr (1, [.ref (ad 8), .int (nI nx), .int (nI sn)])), ((ad 8), .inl (cG, 6, .inr (.inr (.inr (.inr (fun i => ([(ad 9), (ad 10), (ad 11), (ad 12), (ad 13), (ad 14)] : List Nat)[i]?)))))), ((ad 9), .inl (cI, 86, .inl (R 0))), ((ad 10), .inl (cI, 86, .inl (R 1))), ((ad 11), .inl (cI, 86, .inl (R 2))), ((ad 12), .inl (cI, 86, .inl (R 3))), ((ad 13), .inl (cI, 86, .inl (R 4))), ((ad 14), .inl (cI, 86, .inl (R 5))), ((ad 15), .inl (cG, 2, .inr (.inr (.inr (.inr (fun i => ([(ad 16), (ad 17)] : List Nat)[i]?)))))), ((ad 16), .inl (cI, 86, .inl (SL 0))), ((ad 17), .inl (cI, 86, .inl (SL 1))), ((ad 18), .inl (cZ, 2, .inl sv))]) hK hP hD (b_Xok_X tb lo hi) [0, 1, 2, 3, 4, 5, 6, 7, 8, 9, 10, 11, 12, 13, 14, 15, 16, 17, 18] rfl (by decide) rfl (b_Xc hX hD hS hA [0, 1, 2, 3, 4, 5, 6, 7, 8, 9, 10, 11, 12, 13, 14, 15, 16, 17, 18] rfl) (ci := 3) (q0 := 0) rfl rfl) rfl rfl hl.1 rfl (lv_room (Nat.le_of_ble_eq_true rfl)) dL_law_135 ⟨hkc, hks⟩) hP hD hS hA [0, 1, 2, 3, 4, 5, 6, 7, 8, 9, 10, 11, 12, 13, 14, 15, 16, 17, 18] rfl rfl (fun H locs hP hD hS => ?_)
    have hP : va_P D vwCl [((ad 0), .inr (3, [.ref (ad 1), .ref (ad 3), .ref (ad 5), .ref (ad 7), .ref (ad 15), .ref (ad 18)])), ((ad 1), .inr (0, [.ref (ad 2)])), ((ad 2), .inl (cI, 86, .inl f)), ((ad 3), .inr (0, [.ref (ad 4)])), ((ad 4), .inl (cI, 86, .inl f2)), ((ad 5), .inr (2, [.ref (ad 6), .int (nI n)])), ((ad 6), .inl (cC, 60, .inl tx)), ((ad 7), .inr (1, [.ref (ad 8), .int (nI nx), .int (nI sn)])), ((ad 8), .inl (cG, 6, .inr (.inr (.inr (.inr (fun i => ([(ad 9), (ad 10), (ad 11), (ad 12), (ad 13), (ad 14)] : List Nat)[i]?)))))), ((ad 9), .inl (cI, 86, .inl (R 0))), ((ad 10), .inl (cI, 86, .inl (R 1))), ((ad 11), .inl (cI, 86, .inl (R 2))), ((ad 12), .inl (cI, 86, .inl (R 3))), ((ad 13), .inl (cI, 86, .inl (R 4))), ((ad 14), .inl (cI, 86, .inl (R 5))), ((ad 15), .inl (cG, 2, .inr (.inr (.inr (.inr (fun i => ([(ad 16), (ad 17)] : List Nat)[i]?)))))), ((ad 16), .inl (cI, 86, .inl (SL 0))), ((ad 17), .inl (cI, 86, .inl (SL 1))), ((ad 18), .inl (cZ, 2, .inl sv)), ((md 0), .inr (4, [.ref (md 1), .ref (md 2), .ref (md 3), .int (nI sn), .ref (md 4), .ref (md 5), .ref (md 6), .int (nI n), .int (nI sp), .int nu])), ((md 1), .inl (cI, 86, .inl a)), ((md 2), .inl (cI, 86, .inl kp)), ((md 3), .inl (cI, 516, .inl hs)), ((md 4), .inl (cI, 172, .inl sl)), ((md 5), .inl (cI, 2, .inl iv)), ((md 6), .inl (cI, 60, .inl tx))] H := hP
    have hD : va_D A [((ad 0), .inr (3, [.ref (ad 1), .ref (ad 3), .ref (ad 5), .ref (ad 7), .ref (ad 15), .ref (ad 18)])), ((ad 1), .inr (0, [.ref (ad 2)])), ((ad 2), .inl (cI, 86, .inl f)), ((ad 3), .inr (0, [.ref (ad 4)])), ((ad 4), .inl (cI, 86, .inl f2)), ((ad 5), .inr (2, [.ref (ad 6), .int (nI n)])), ((ad 6), .inl (cC, 60, .inl tx)), ((ad 7), .inr (1, [.ref (ad 8), .int (nI nx), .int (nI sn)])), ((ad 8), .inl (cG, 6, .inr (.inr (.inr (.inr (fun i => ([(ad 9), (ad 10), (ad 11), (ad 12), (ad 13), (ad 14)] : List Nat)[i]?)))))), ((ad 9), .inl (cI, 86, .inl (R 0))), ((ad 10), .inl (cI, 86, .inl (R 1))), ((ad 11), .inl (cI, 86, .inl (R 2))), ((ad 12), .inl (cI, 86, .inl (R 3))), ((ad 13), .inl (cI, 86, .inl (R 4))), ((ad 14), .inl (cI, 86, .inl (R 5))), ((ad 15), .inl (cG, 2, .inr (.inr (.inr (.inr (fun i => ([(ad 16), (ad 17)] : List Nat)[i]?)))))), ((ad 16), .inl (cI, 86, .inl (SL 0))), ((ad 17), .inl (cI, 86, .inl (SL 1))), ((ad 18), .inl (cZ, 2, .inl sv)), ((md 0), .inr (4, [.ref (md 1), .ref (md 2), .ref (md 3), .int (nI sn), .ref (md 4), .ref (md 5), .ref (md 6), .int (nI n), .int (nI sp), .int nu])), ((md 1), .inl (cI, 86, .inl a)), ((md 2), .inl (cI, 86, .inl kp)), ((md 3), .inl (cI, 516, .inl hs)), ((md 4), .inl (cI, 172, .inl sl)), ((md 5), .inl (cI, 2, .inl iv)), ((md 6), .inl (cI, 60, .inl tx))] := hD
    refine lv_aload_n (pc := 138) hx hb dL_law_138 rfl (lv_at hl 2 rfl) ?_
    refine lv_aload_n (pc := 139) hx hb dL_law_139 rfl (lv_at hl 0 rfl) ?_
    refine lv_iload_n (pc := 140) hx hb dL_law_140 rfl (lv_at hl 3 rfl) ?_
    refine lv_iconst (pc := 141) (v := 1) hx hb dL_law_141 (by decide) ?_
    refine lv_iadd (pc := 142) hx hb dL_law_142 ?_
    refine b_re (nI_add i 1) ?_
    refine b_sld (pc := 143) hx hb hXs hbl hbA hS (i + 1) (by omega) (by omega) dL_law_143 ?_
    refine b_re ex ?_
    refine lv_aload_n (pc := 144) hx hb dL_law_144 rfl (lv_at hl 0 rfl) ?_
    refine lv_iload_n (pc := 145) hx hb dL_law_145 rfl (lv_at hl 3 rfl) ?_
    refine lv_iconst (pc := 146) (v := 2) hx hb dL_law_146 (by decide) ?_
    refine lv_iadd (pc := 147) hx hb dL_law_147 ?_
    refine b_re (nI_add i 2) ?_
    refine b_sld (pc := 148) hx hb hXs hbl hbA hS (i + 2) (by omega) (by omega) dL_law_148 ?_
    refine b_cR (pc := 149) (va_runV (As := [.int (nI s1), .int (xs (i + 2))]) (rest := [.int (-2)]) ⟨hx, hb, hml, hown, hts⟩ (c_X4_set_rng l D cI cC cZ cG md a kp hs sn sl iv tx n sp nu s1 (xs (i + 2)) (by first | omega | assumption) (by first | omega | assumption)) (cwV 2 hts gL_law_X4_set rfl rfl rfl hy_X4_set ⟨Nat.le_of_ble_eq_true rfl, Nat.le_of_ble_eq_true rfl⟩) (b_pRV (wc := [((md 0), .inr (4, [.ref (md 1), .ref (md 2), .ref (md 3), .int (nI sn), .ref (md 4), .ref (md 5), .ref (md 6), .int (nI n), .int (nI sp), .int nu])), ((md 1), .inl (cI, 86, .inl a)), ((md 2), .inl (cI, 86, .inl kp)), ((md 3), .inl (cI, 516, .inl hs)), ((md 4), .inl (cI, 172, .inl sl)), ((md 5), .inl (cI, 2, .inl iv)), ((md 6), .inl (cI, 60, .inl tx))]) hK hP [19, 20, 21, 22, 23, 24, 25] rfl (ci := 4) (q0 := 0) rfl rfl) rfl rfl hl.1 rfl (lv_room (Nat.le_of_ble_eq_true rfl)) dL_law_149 ⟨hkc, hks⟩) ?_
    refine lv_icmp_eq (pc := 152) (tgt := 571) hx hb dL_law_152 (by decide) (fun c_1 => ?_) (fun c_1 => ?_)
    · skip
      exact kk f f2 tx n nx sn R SL sv a kp hs sl iv sp nu (hB.mono (by omega)) _ _ hP hD hS ls hl
    · skip
      exact absurd c_1 (by decide)
  · skip
    refine lv_aload_n (pc := 124) hx hb dL_law_124 rfl (lv_at hl 1 rfl) ?_
    refine lv_aload_n (pc := 125) hx hb dL_law_125 rfl (lv_at hl 0 rfl) ?_
    refine lv_iload_n (pc := 126) hx hb dL_law_126 rfl (lv_at hl 3 rfl) ?_
    refine lv_iconst (pc := 127) (v := 1) hx hb dL_law_127 (by decide) ?_
    refine lv_iadd (pc := 128) hx hb dL_law_128 ?_
    refine b_re (nI_add i 1) ?_
    refine b_sld (pc := 129) hx hb hXs hbl hbA hS (i + 1) (by omega) (by omega) dL_law_129 ?_
    refine b_re ex ?_
    refine lv_aload_n (pc := 130) hx hb dL_law_130 rfl (lv_at hl 0 rfl) ?_
    refine lv_iload_n (pc := 131) hx hb dL_law_131 rfl (lv_at hl 3 rfl) ?_
    refine lv_iconst (pc := 132) (v := 2) hx hb dL_law_132 (by decide) ?_
    refine lv_iadd (pc := 133) hx hb dL_law_133 ?_
    refine b_re (nI_add i 2) ?_
    refine b_sld (pc := 134) hx hb hXs hbl hbA hS (i + 2) (by omega) (by omega) dL_law_134 ?_
    refine b_cW (pc := 135) (w1 := [((ad 0), .inr (3, [.ref (ad 1), .ref (ad 3), .ref (ad 5), .ref (ad 7), .ref (ad 15), .ref (ad 18)])), ((ad 1), .inr (0, [.ref (ad 2)])), ((ad 2), .inl (cI, 86, .inl (upd f s1 (xs (i + 2))))), ((ad 3), .inr (0, [.ref (ad 4)])), ((ad 4), .inl (cI, 86, .inl f2)), ((ad 5), .inr (2, [.ref (ad 6), .int (nI n)])), ((ad 6), .inl (cC, 60, .inl tx)), ((ad 7), .inr (1, [.ref (ad 8), .int (nI (h_nx nx)), .int (nI (h_sz sn))])), ((ad 8), .inl (cG, 6, .inr (.inr (.inr (.inr (fun i => ([(ad 9), (ad 10), (ad 11), (ad 12), (ad 13), (ad 14)] : List Nat)[i]?)))))), ((ad 9), .inl (cI, 86, .inl (va_up R nx (va_cpy f (R nx) 0 0 86) 0))), ((ad 10), .inl (cI, 86, .inl (va_up R nx (va_cpy f (R nx) 0 0 86) 1))), ((ad 11), .inl (cI, 86, .inl (va_up R nx (va_cpy f (R nx) 0 0 86) 2))), ((ad 12), .inl (cI, 86, .inl (va_up R nx (va_cpy f (R nx) 0 0 86) 3))), ((ad 13), .inl (cI, 86, .inl (va_up R nx (va_cpy f (R nx) 0 0 86) 4))), ((ad 14), .inl (cI, 86, .inl (va_up R nx (va_cpy f (R nx) 0 0 86) 5))), ((ad 15), .inl (cG, 2, .inr (.inr (.inr (.inr (fun i => ([(ad 16), (ad 17)] : List Nat)[i]?)))))), ((ad 16), .inl (cI, 86, .inl (SL 0))), ((ad 17), .inl (cI, 86, .inl (SL 1))), ((ad 18), .inl (cZ, 2, .inl sv))]) (va_runV (As := [.int (nI s1), .int (xs (i + 2))]) (rest := []) ⟨hx, hb, hml, hown, hts⟩ (c_X3_set_ok l D cI cC cZ cG tb lo hi H.size ad f f2 tx n nx sn R SL sv s1 (xs (i + 2)) (by first | omega | assumption) (by first | omega | assumption) (by first | omega | assumption) (by first | omega | assumption) (by first | omega | assumption) (by first | omega | assumption)) (cwV 2 hts gL_law_X3_set rfl rfl rfl hy_X3_set ⟨Nat.le_of_ble_eq_true rfl, Nat.le_of_ble_eq_true rfl⟩) (b_pWV (wc := [((ad 0), .inr (3, [.ref (ad 1), .ref (ad 3), .ref (ad 5), .ref (ad 7), .ref (ad 15), .ref (ad 18)])), ((ad 1), .inr (0, [.ref (ad 2)])), ((ad 2), .inl (cI, 86, .inl f)), ((ad 3), .inr (0, [.ref (ad 4)])), ((ad 4), .inl (cI, 86, .inl f2)), ((ad 5), .inr (2, [.ref (ad 6), .int (nI n)])), ((ad 6), .inl (cC, 60, .inl tx)), ((ad 7), .inr (1, [.ref (ad 8), .int (nI nx), .int (nI sn)])), ((ad 8), .inl (cG, 6, .inr (.inr (.inr (.inr (fun i => ([(ad 9), (ad 10), (ad 11), (ad 12), (ad 13), (ad 14)] : List Nat)[i]?)))))), ((ad 9), .inl (cI, 86, .inl (R 0))), ((ad 10), .inl (cI, 86, .inl (R 1))), ((ad 11), .inl (cI, 86, .inl (R 2))), ((ad 12), .inl (cI, 86, .inl (R 3))), ((ad 13), .inl (cI, 86, .inl (R 4))), ((ad 14), .inl (cI, 86, .inl (R 5))), ((ad 15), .inl (cG, 2, .inr (.inr (.inr (.inr (fun i => ([(ad 16), (ad 17)] : List Nat)[i]?)))))), ((ad 16), .inl (cI, 86, .inl (SL 0))), ((ad 17), .inl (cI, 86, .inl (SL 1))), ((ad 18), .inl (cZ, 2, .inl sv))]) hK hP hD (b_Xok_X tb lo hi) [0, 1, 2, 3, 4, 5, 6, 7, 8, 9, 10, 11, 12, 13, 14, 15, 16, 17, 18] rfl (by decide) rfl (b_Xc hX hD hS hA [0, 1, 2, 3, 4, 5, 6, 7, 8, 9, 10, 11, 12, 13, 14, 15, 16, 17, 18] rfl) (ci := 3) (q0 := 0) rfl rfl) rfl rfl hl.1 rfl (lv_room (Nat.le_of_ble_eq_true rfl)) dL_law_135 ⟨hkc, hks⟩) hP hD hS hA [0, 1, 2, 3, 4, 5, 6, 7, 8, 9, 10, 11, 12, 13, 14, 15, 16, 17, 18] rfl rfl (fun H locs hP hD hS => ?_)
    have hP : va_P D vwCl [((ad 0), .inr (3, [.ref (ad 1), .ref (ad 3), .ref (ad 5), .ref (ad 7), .ref (ad 15), .ref (ad 18)])), ((ad 1), .inr (0, [.ref (ad 2)])), ((ad 2), .inl (cI, 86, .inl (upd f s1 (xs (i + 2))))), ((ad 3), .inr (0, [.ref (ad 4)])), ((ad 4), .inl (cI, 86, .inl f2)), ((ad 5), .inr (2, [.ref (ad 6), .int (nI n)])), ((ad 6), .inl (cC, 60, .inl tx)), ((ad 7), .inr (1, [.ref (ad 8), .int (nI (h_nx nx)), .int (nI (h_sz sn))])), ((ad 8), .inl (cG, 6, .inr (.inr (.inr (.inr (fun i => ([(ad 9), (ad 10), (ad 11), (ad 12), (ad 13), (ad 14)] : List Nat)[i]?)))))), ((ad 9), .inl (cI, 86, .inl (va_up R nx (va_cpy f (R nx) 0 0 86) 0))), ((ad 10), .inl (cI, 86, .inl (va_up R nx (va_cpy f (R nx) 0 0 86) 1))), ((ad 11), .inl (cI, 86, .inl (va_up R nx (va_cpy f (R nx) 0 0 86) 2))), ((ad 12), .inl (cI, 86, .inl (va_up R nx (va_cpy f (R nx) 0 0 86) 3))), ((ad 13), .inl (cI, 86, .inl (va_up R nx (va_cpy f (R nx) 0 0 86) 4))), ((ad 14), .inl (cI, 86, .inl (va_up R nx (va_cpy f (R nx) 0 0 86) 5))), ((ad 15), .inl (cG, 2, .inr (.inr (.inr (.inr (fun i => ([(ad 16), (ad 17)] : List Nat)[i]?)))))), ((ad 16), .inl (cI, 86, .inl (SL 0))), ((ad 17), .inl (cI, 86, .inl (SL 1))), ((ad 18), .inl (cZ, 2, .inl sv)), ((md 0), .inr (4, [.ref (md 1), .ref (md 2), .ref (md 3), .int (nI sn), .ref (md 4), .ref (md 5), .ref (md 6), .int (nI n), .int (nI sp), .int nu])), ((md 1), .inl (cI, 86, .inl a)), ((md 2), .inl (cI, 86, .inl kp)), ((md 3), .inl (cI, 516, .inl hs)), ((md 4), .inl (cI, 172, .inl sl)), ((md 5), .inl (cI, 2, .inl iv)), ((md 6), .inl (cI, 60, .inl tx))] H := hP
    have hD : va_D A [((ad 0), .inr (3, [.ref (ad 1), .ref (ad 3), .ref (ad 5), .ref (ad 7), .ref (ad 15), .ref (ad 18)])), ((ad 1), .inr (0, [.ref (ad 2)])), ((ad 2), .inl (cI, 86, .inl (upd f s1 (xs (i + 2))))), ((ad 3), .inr (0, [.ref (ad 4)])), ((ad 4), .inl (cI, 86, .inl f2)), ((ad 5), .inr (2, [.ref (ad 6), .int (nI n)])), ((ad 6), .inl (cC, 60, .inl tx)), ((ad 7), .inr (1, [.ref (ad 8), .int (nI (h_nx nx)), .int (nI (h_sz sn))])), ((ad 8), .inl (cG, 6, .inr (.inr (.inr (.inr (fun i => ([(ad 9), (ad 10), (ad 11), (ad 12), (ad 13), (ad 14)] : List Nat)[i]?)))))), ((ad 9), .inl (cI, 86, .inl (va_up R nx (va_cpy f (R nx) 0 0 86) 0))), ((ad 10), .inl (cI, 86, .inl (va_up R nx (va_cpy f (R nx) 0 0 86) 1))), ((ad 11), .inl (cI, 86, .inl (va_up R nx (va_cpy f (R nx) 0 0 86) 2))), ((ad 12), .inl (cI, 86, .inl (va_up R nx (va_cpy f (R nx) 0 0 86) 3))), ((ad 13), .inl (cI, 86, .inl (va_up R nx (va_cpy f (R nx) 0 0 86) 4))), ((ad 14), .inl (cI, 86, .inl (va_up R nx (va_cpy f (R nx) 0 0 86) 5))), ((ad 15), .inl (cG, 2, .inr (.inr (.inr (.inr (fun i => ([(ad 16), (ad 17)] : List Nat)[i]?)))))), ((ad 16), .inl (cI, 86, .inl (SL 0))), ((ad 17), .inl (cI, 86, .inl (SL 1))), ((ad 18), .inl (cZ, 2, .inl sv)), ((md 0), .inr (4, [.ref (md 1), .ref (md 2), .ref (md 3), .int (nI sn), .ref (md 4), .ref (md 5), .ref (md 6), .int (nI n), .int (nI sp), .int nu])), ((md 1), .inl (cI, 86, .inl a)), ((md 2), .inl (cI, 86, .inl kp)), ((md 3), .inl (cI, 516, .inl hs)), ((md 4), .inl (cI, 172, .inl sl)), ((md 5), .inl (cI, 2, .inl iv)), ((md 6), .inl (cI, 60, .inl tx))] := hD
    refine lv_aload_n (pc := 138) hx hb dL_law_138 rfl (lv_at hl 2 rfl) ?_
    refine lv_aload_n (pc := 139) hx hb dL_law_139 rfl (lv_at hl 0 rfl) ?_
    refine lv_iload_n (pc := 140) hx hb dL_law_140 rfl (lv_at hl 3 rfl) ?_
    refine lv_iconst (pc := 141) (v := 1) hx hb dL_law_141 (by decide) ?_
    refine lv_iadd (pc := 142) hx hb dL_law_142 ?_
    refine b_re (nI_add i 1) ?_
    refine b_sld (pc := 143) hx hb hXs hbl hbA hS (i + 1) (by omega) (by omega) dL_law_143 ?_
    refine b_re ex ?_
    refine lv_aload_n (pc := 144) hx hb dL_law_144 rfl (lv_at hl 0 rfl) ?_
    refine lv_iload_n (pc := 145) hx hb dL_law_145 rfl (lv_at hl 3 rfl) ?_
    refine lv_iconst (pc := 146) (v := 2) hx hb dL_law_146 (by decide) ?_
    refine lv_iadd (pc := 147) hx hb dL_law_147 ?_
    refine b_re (nI_add i 2) ?_
    refine b_sld (pc := 148) hx hb hXs hbl hbA hS (i + 2) (by omega) (by omega) dL_law_148 ?_
    refine b_cW (pc := 149) (w1 := [((md 0), .inr (4, [.ref (md 1), .ref (md 2), .ref (md 3), .int (nI (h_sz sn)), .ref (md 4), .ref (md 5), .ref (md 6), .int (nI n), .int (nI sp), .int nu])), ((md 1), .inl (cI, 86, .inl (upd a s1 (xs (i + 2))))), ((md 2), .inl (cI, 86, .inl kp)), ((md 3), .inl (cI, 516, .inl (m_hs a hs sn))), ((md 4), .inl (cI, 172, .inl sl)), ((md 5), .inl (cI, 2, .inl iv)), ((md 6), .inl (cI, 60, .inl tx))]) (va_runV (As := [.int (nI s1), .int (xs (i + 2))]) (rest := [.int (f s1)]) ⟨hx, hb, hml, hown, hts⟩ (c_X4_set_ok l D cI cC cZ cG H.size md a kp hs sn sl iv tx n sp nu s1 (xs (i + 2)) (by first | omega | assumption) (by first | omega | assumption) (by first | omega | assumption) (by first | omega | assumption)) (cwV 2 hts gL_law_X4_set rfl rfl rfl hy_X4_set ⟨Nat.le_of_ble_eq_true rfl, Nat.le_of_ble_eq_true rfl⟩) (b_pWV (wc := [((md 0), .inr (4, [.ref (md 1), .ref (md 2), .ref (md 3), .int (nI sn), .ref (md 4), .ref (md 5), .ref (md 6), .int (nI n), .int (nI sp), .int nu])), ((md 1), .inl (cI, 86, .inl a)), ((md 2), .inl (cI, 86, .inl kp)), ((md 3), .inl (cI, 516, .inl hs)), ((md 4), .inl (cI, 172, .inl sl)), ((md 5), .inl (cI, 2, .inl iv)), ((md 6), .inl (cI, 60, .inl tx))]) hK hP hD b_Xok_0 [19, 20, 21, 22, 23, 24, 25] rfl (by decide) rfl trivial (ci := 4) (q0 := 0) rfl rfl) rfl rfl hl.1 rfl (lv_room (Nat.le_of_ble_eq_true rfl)) dL_law_149 ⟨hkc, hks⟩) hP hD hS hA [19, 20, 21, 22, 23, 24, 25] rfl rfl (fun H locs hP hD hS => ?_)
    have hP : va_P D vwCl [((ad 0), .inr (3, [.ref (ad 1), .ref (ad 3), .ref (ad 5), .ref (ad 7), .ref (ad 15), .ref (ad 18)])), ((ad 1), .inr (0, [.ref (ad 2)])), ((ad 2), .inl (cI, 86, .inl (upd f s1 (xs (i + 2))))), ((ad 3), .inr (0, [.ref (ad 4)])), ((ad 4), .inl (cI, 86, .inl f2)), ((ad 5), .inr (2, [.ref (ad 6), .int (nI n)])), ((ad 6), .inl (cC, 60, .inl tx)), ((ad 7), .inr (1, [.ref (ad 8), .int (nI (h_nx nx)), .int (nI (h_sz sn))])), ((ad 8), .inl (cG, 6, .inr (.inr (.inr (.inr (fun i => ([(ad 9), (ad 10), (ad 11), (ad 12), (ad 13), (ad 14)] : List Nat)[i]?)))))), ((ad 9), .inl (cI, 86, .inl (va_up R nx (va_cpy f (R nx) 0 0 86) 0))), ((ad 10), .inl (cI, 86, .inl (va_up R nx (va_cpy f (R nx) 0 0 86) 1))), ((ad 11), .inl (cI, 86, .inl (va_up R nx (va_cpy f (R nx) 0 0 86) 2))), ((ad 12), .inl (cI, 86, .inl (va_up R nx (va_cpy f (R nx) 0 0 86) 3))), ((ad 13), .inl (cI, 86, .inl (va_up R nx (va_cpy f (R nx) 0 0 86) 4))), ((ad 14), .inl (cI, 86, .inl (va_up R nx (va_cpy f (R nx) 0 0 86) 5))), ((ad 15), .inl (cG, 2, .inr (.inr (.inr (.inr (fun i => ([(ad 16), (ad 17)] : List Nat)[i]?)))))), ((ad 16), .inl (cI, 86, .inl (SL 0))), ((ad 17), .inl (cI, 86, .inl (SL 1))), ((ad 18), .inl (cZ, 2, .inl sv)), ((md 0), .inr (4, [.ref (md 1), .ref (md 2), .ref (md 3), .int (nI (h_sz sn)), .ref (md 4), .ref (md 5), .ref (md 6), .int (nI n), .int (nI sp), .int nu])), ((md 1), .inl (cI, 86, .inl (upd a s1 (xs (i + 2))))), ((md 2), .inl (cI, 86, .inl kp)), ((md 3), .inl (cI, 516, .inl (m_hs a hs sn))), ((md 4), .inl (cI, 172, .inl sl)), ((md 5), .inl (cI, 2, .inl iv)), ((md 6), .inl (cI, 60, .inl tx))] H := hP
    have hD : va_D A [((ad 0), .inr (3, [.ref (ad 1), .ref (ad 3), .ref (ad 5), .ref (ad 7), .ref (ad 15), .ref (ad 18)])), ((ad 1), .inr (0, [.ref (ad 2)])), ((ad 2), .inl (cI, 86, .inl (upd f s1 (xs (i + 2))))), ((ad 3), .inr (0, [.ref (ad 4)])), ((ad 4), .inl (cI, 86, .inl f2)), ((ad 5), .inr (2, [.ref (ad 6), .int (nI n)])), ((ad 6), .inl (cC, 60, .inl tx)), ((ad 7), .inr (1, [.ref (ad 8), .int (nI (h_nx nx)), .int (nI (h_sz sn))])), ((ad 8), .inl (cG, 6, .inr (.inr (.inr (.inr (fun i => ([(ad 9), (ad 10), (ad 11), (ad 12), (ad 13), (ad 14)] : List Nat)[i]?)))))), ((ad 9), .inl (cI, 86, .inl (va_up R nx (va_cpy f (R nx) 0 0 86) 0))), ((ad 10), .inl (cI, 86, .inl (va_up R nx (va_cpy f (R nx) 0 0 86) 1))), ((ad 11), .inl (cI, 86, .inl (va_up R nx (va_cpy f (R nx) 0 0 86) 2))), ((ad 12), .inl (cI, 86, .inl (va_up R nx (va_cpy f (R nx) 0 0 86) 3))), ((ad 13), .inl (cI, 86, .inl (va_up R nx (va_cpy f (R nx) 0 0 86) 4))), ((ad 14), .inl (cI, 86, .inl (va_up R nx (va_cpy f (R nx) 0 0 86) 5))), ((ad 15), .inl (cG, 2, .inr (.inr (.inr (.inr (fun i => ([(ad 16), (ad 17)] : List Nat)[i]?)))))), ((ad 16), .inl (cI, 86, .inl (SL 0))), ((ad 17), .inl (cI, 86, .inl (SL 1))), ((ad 18), .inl (cZ, 2, .inl sv)), ((md 0), .inr (4, [.ref (md 1), .ref (md 2), .ref (md 3), .int (nI (h_sz sn)), .ref (md 4), .ref (md 5), .ref (md 6), .int (nI n), .int (nI sp), .int nu])), ((md 1), .inl (cI, 86, .inl (upd a s1 (xs (i + 2))))), ((md 2), .inl (cI, 86, .inl kp)), ((md 3), .inl (cI, 516, .inl (m_hs a hs sn))), ((md 4), .inl (cI, 172, .inl sl)), ((md 5), .inl (cI, 2, .inl iv)), ((md 6), .inl (cI, 60, .inl tx))] := hD
    refine lv_icmp_eq (pc := 152) (tgt := 571) hx hb dL_law_152 (by decide) (fun c_1 => ?_) (fun c_1 => ?_)
    · skip
      have c_1 : (f s1) = (a s1) := c_1
      exact kk (upd f s1 (xs (i + 2))) f2 tx n (h_nx nx) (h_sz sn) (va_up R nx (va_cpy f (R nx) 0 0 86)) SL sv (upd a s1 (xs (i + 2))) kp (m_hs a hs sn) sl iv sp nu (hB.change (by omega) ((e_set hR hs3 h1 h2).mono (by omega)) hn60) _ _ hP hD hS ls hl
    · skip
      have c_1 : ¬ ((f s1) = (a s1)) := c_1
      exact absurd (hR.1.get (w := s1) (by omega)).symm c_1
set_option maxHeartbeats 4000000 in
set_option maxRecDepth 100000 in
theorem law_event {p : Program} {l : Launch} {e : Env} {s : State} {m : MethodId} {below : List Frame} {meth : Method} {c : Code} {D : va_G} {cI cC cZ cG : ClassId} {A : Nat → Prop} {tb lo hi b L : Nat} {xs : Nat → Int32} {ad md : Nat → Nat} {i N : Nat} (C : lw_C p s m meth c D cI cC cZ cG A tb lo hi b L xs) (hi3 : i + 3 ≤ L) (hL : L ≤ 1536) (hN : N + 60 ≤ 1000000) (kk : lw_KK p l e s m below meth c D cI cC cZ cG A b ad md i (N + 60) 571) : lw_KK p l e s m below meth c D cI cC cZ cG A b ad md i N 157 := by
  intro f f2 tx n nx sn R SL sv a kp hs sl iv sp nu hB H locs hP hD hS ls hl
  obtain ⟨hx, hb, hml, hown, hts, hXs, hbl, hbA, hA, hK, hX⟩ := C
  have hn60 : n ≤ 60 := hB.2.1
  have hnx : nx < 6 := hB.2.2.1.1
  have hsn : sn ≤ 6 := hB.2.2.1.2
  have hR := hB.1
  have hkc : 600000 + 0 ≤ room_1.cells := Nat.le_refl _
  have hks : 7302250 + 0 ≤ room_1.slots := Nat.le_refl _
  have hl : lv_has ls 4 [(0, .ref b), (1, .ref (ad 0)), (2, .ref (md 0)), (3, .int (nI i))] := hl
  rcases cs_two (xs (i + 1)) (xs (i + 2)) 3 (by omega) with hbad | ⟨g, hg, ex, hbad⟩ | ⟨g, bm, hg, ex, hbm, ey⟩
  · skip
    refine lv_aload_n (pc := 157) hx hb dL_law_157 rfl (lv_at hl 1 rfl) ?_
    refine lv_aload_n (pc := 158) hx hb dL_law_158 rfl (lv_at hl 0 rfl) ?_
    refine lv_iload_n (pc := 159) hx hb dL_law_159 rfl (lv_at hl 3 rfl) ?_
    refine lv_iconst (pc := 160) (v := 1) hx hb dL_law_160 (by decide) ?_
    refine lv_iadd (pc := 161) hx hb dL_law_161 ?_
    refine b_re (nI_add i 1) ?_
    refine b_sld (pc := 162) hx hb hXs hbl hbA hS (i + 1) (by omega) (by omega) dL_law_162 ?_
    refine lv_aload_n (pc := 163) hx hb dL_law_163 rfl (lv_at hl 0 rfl) ?_
    refine lv_iload_n (pc := 164) hx hb dL_law_164 rfl (lv_at hl 3 rfl) ?_
    refine lv_iconst (pc := 165) (v := 2) hx hb dL_law_165 (by decide) ?_
    refine lv_iadd (pc := 166) hx hb dL_law_166 ?_
    refine b_re (nI_add i 2) ?_
    refine b_sld (pc := 167) hx hb hXs hbl hbA hS (i + 2) (by omega) (by omega) dL_law_167 ?_
    refine b_cR (pc := 168) (va_runV (As := [.int (xs (i + 1)), .int (xs (i + 2))]) (rest := []) ⟨hx, hb, hml, hown, hts⟩ (c_X3_event_ng l D cI cC cZ cG ad f f2 tx n nx sn R SL sv (xs (i + 1)) (xs (i + 2)) (by first | omega | assumption) (by first | omega | assumption) (by first | omega | assumption) (by first | omega | assumption)) (cwV 2 hts gL_law_X3_event rfl rfl rfl hy_X3_event ⟨Nat.le_of_ble_eq_true rfl, Nat.le_of_ble_eq_true rfl⟩) (b_pRV (wc := [((ad 0), .inr (3, [.ref (ad 1), .ref (ad 3), .ref (ad 5), .ref (ad 7), .ref (ad 15), .ref (ad 18)])), ((ad 1), .inr (0, [.ref (ad 2)])), ((ad 2), .inl (cI, 86, .inl f)), ((ad 3), .inr (0, [.ref (ad 4)])), ((ad 4), .inl (cI, 86, .inl f2)), ((ad 5), .inr (2, [.ref (ad 6), .int (nI n)])), ((ad 6), .inl (cC, 60, .inl tx)), ((ad 7), .inr (1, [.ref (ad 8), .int (nI nx), .int (nI sn)])), ((ad 8), .inl (cG, 6, .inr (.inr (.inr (.inr (fun i => ([(ad 9), (ad 10), (ad 11), (ad 12), (ad 13), (ad 14)] : List Nat)[i]?)))))), ((ad 9), .inl (cI, 86, .inl (R 0))), ((ad 10), .inl (cI, 86, .inl (R 1))), ((ad 11), .inl (cI, 86, .inl (R 2))), ((ad 12), .inl (cI, 86, .inl (R 3))), ((ad 13), .inl (cI, 86, .inl (R 4))), ((ad 14), .inl (cI, 86, .inl (R 5))), ((ad 15), .inl (cG, 2, .inr (.inr (.inr (.inr (fun i => ([(ad 16), (ad 17)] : List Nat)[i]?)))))), ((ad 16), .inl (cI, 86, .inl (SL 0))), ((ad 17), .inl (cI, 86, .inl (SL 1))), ((ad 18), .inl (cZ, 2, .inl sv))]) hK hP [0, 1, 2, 3, 4, 5, 6, 7, 8, 9, 10, 11, 12, 13, 14, 15, 16, 17, 18] rfl (ci := 3) (q0 := 0) rfl rfl) rfl rfl hl.1 rfl (lv_room (Nat.le_of_ble_eq_true rfl)) dL_law_168 ⟨hkc, hks⟩) ?_
    refine lv_aload_n (pc := 171) hx hb dL_law_171 rfl (lv_at hl 2 rfl) ?_
    refine lv_aload_n (pc := 172) hx hb dL_law_172 rfl (lv_at hl 0 rfl) ?_
    refine lv_iload_n (pc := 173) hx hb dL_law_173 rfl (lv_at hl 3 rfl) ?_
    refine lv_iconst (pc := 174) (v := 1) hx hb dL_law_174 (by decide) ?_
    refine lv_iadd (pc := 175) hx hb dL_law_175 ?_
    refine b_re (nI_add i 1) ?_
    refine b_sld (pc := 176) hx hb hXs hbl hbA hS (i + 1) (by omega) (by omega) dL_law_176 ?_
    refine lv_aload_n (pc := 177) hx hb dL_law_177 rfl (lv_at hl 0 rfl) ?_
    refine lv_iload_n (pc := 178) hx hb dL_law_178 rfl (lv_at hl 3 rfl) ?_
    refine lv_iconst (pc := 179) (v := 2) hx hb dL_law_179 (by decide) ?_
    refine lv_iadd (pc := 180) hx hb dL_law_180 ?_
    refine b_re (nI_add i 2) ?_
    refine b_sld (pc := 181) hx hb hXs hbl hbA hS (i + 2) (by omega) (by omega) dL_law_181 ?_
    refine b_cR (pc := 182) (va_runV (As := [.int (xs (i + 1)), .int (xs (i + 2))]) (rest := [.int (-1)]) ⟨hx, hb, hml, hown, hts⟩ (c_X4_event_ng l D cI cC cZ cG md a kp hs sn sl iv tx n sp nu (xs (i + 1)) (xs (i + 2)) (by first | omega | assumption)) (cwV 2 hts gL_law_X4_event rfl rfl rfl hy_X4_event ⟨Nat.le_of_ble_eq_true rfl, Nat.le_of_ble_eq_true rfl⟩) (b_pRV (wc := [((md 0), .inr (4, [.ref (md 1), .ref (md 2), .ref (md 3), .int (nI sn), .ref (md 4), .ref (md 5), .ref (md 6), .int (nI n), .int (nI sp), .int nu])), ((md 1), .inl (cI, 86, .inl a)), ((md 2), .inl (cI, 86, .inl kp)), ((md 3), .inl (cI, 516, .inl hs)), ((md 4), .inl (cI, 172, .inl sl)), ((md 5), .inl (cI, 2, .inl iv)), ((md 6), .inl (cI, 60, .inl tx))]) hK hP [19, 20, 21, 22, 23, 24, 25] rfl (ci := 4) (q0 := 0) rfl rfl) rfl rfl hl.1 rfl (lv_room (Nat.le_of_ble_eq_true rfl)) dL_law_182 ⟨hkc, hks⟩) ?_
    refine lv_icmp_eq (pc := 185) (tgt := 571) hx hb dL_law_185 (by decide) (fun c_1 => ?_) (fun c_1 => ?_)
    · skip
      exact kk f f2 tx n nx sn R SL sv a kp hs sl iv sp nu (hB.mono (by omega)) _ _ hP hD hS ls hl
    · skip
      exact absurd c_1 (by decide)
  · skip
    refine lv_aload_n (pc := 157) hx hb dL_law_157 rfl (lv_at hl 1 rfl) ?_
    refine lv_aload_n (pc := 158) hx hb dL_law_158 rfl (lv_at hl 0 rfl) ?_
    refine lv_iload_n (pc := 159) hx hb dL_law_159 rfl (lv_at hl 3 rfl) ?_
    refine lv_iconst (pc := 160) (v := 1) hx hb dL_law_160 (by decide) ?_
    refine lv_iadd (pc := 161) hx hb dL_law_161 ?_
    refine b_re (nI_add i 1) ?_
    refine b_sld (pc := 162) hx hb hXs hbl hbA hS (i + 1) (by omega) (by omega) dL_law_162 ?_
    refine b_re ex ?_
    refine lv_aload_n (pc := 163) hx hb dL_law_163 rfl (lv_at hl 0 rfl) ?_
    refine lv_iload_n (pc := 164) hx hb dL_law_164 rfl (lv_at hl 3 rfl) ?_
    refine lv_iconst (pc := 165) (v := 2) hx hb dL_law_165 (by decide) ?_
    refine lv_iadd (pc := 166) hx hb dL_law_166 ?_
    refine b_re (nI_add i 2) ?_
    refine b_sld (pc := 167) hx hb hXs hbl hbA hS (i + 2) (by omega) (by omega) dL_law_167 ?_
    refine b_cR (pc := 168) (va_runV (As := [.int (nI g), .int (xs (i + 2))]) (rest := []) ⟨hx, hb, hml, hown, hts⟩ (c_X3_event_bb l D cI cC cZ cG ad f f2 tx n nx sn R SL sv g (xs (i + 2)) (by first | omega | assumption) (by first | omega | assumption) (by first | omega | assumption) (by first | omega | assumption) (by first | omega | assumption)) (cwV 2 hts gL_law_X3_event rfl rfl rfl hy_X3_event ⟨Nat.le_of_ble_eq_true rfl, Nat.le_of_ble_eq_true rfl⟩) (b_pRV (wc := [((ad 0), .inr (3, [.ref (ad 1), .ref (ad 3), .ref (ad 5), .ref (ad 7), .ref (ad 15), .ref (ad 18)])), ((ad 1), .inr (0, [.ref (ad 2)])), ((ad 2), .inl (cI, 86, .inl f)), ((ad 3), .inr (0, [.ref (ad 4)])), ((ad 4), .inl (cI, 86, .inl f2)), ((ad 5), .inr (2, [.ref (ad 6), .int (nI n)])), ((ad 6), .inl (cC, 60, .inl tx)), ((ad 7), .inr (1, [.ref (ad 8), .int (nI nx), .int (nI sn)])), ((ad 8), .inl (cG, 6, .inr (.inr (.inr (.inr (fun i => ([(ad 9), (ad 10), (ad 11), (ad 12), (ad 13), (ad 14)] : List Nat)[i]?)))))), ((ad 9), .inl (cI, 86, .inl (R 0))), ((ad 10), .inl (cI, 86, .inl (R 1))), ((ad 11), .inl (cI, 86, .inl (R 2))), ((ad 12), .inl (cI, 86, .inl (R 3))), ((ad 13), .inl (cI, 86, .inl (R 4))), ((ad 14), .inl (cI, 86, .inl (R 5))), ((ad 15), .inl (cG, 2, .inr (.inr (.inr (.inr (fun i => ([(ad 16), (ad 17)] : List Nat)[i]?)))))), ((ad 16), .inl (cI, 86, .inl (SL 0))), ((ad 17), .inl (cI, 86, .inl (SL 1))), ((ad 18), .inl (cZ, 2, .inl sv))]) hK hP [0, 1, 2, 3, 4, 5, 6, 7, 8, 9, 10, 11, 12, 13, 14, 15, 16, 17, 18] rfl (ci := 3) (q0 := 0) rfl rfl) rfl rfl hl.1 rfl (lv_room (Nat.le_of_ble_eq_true rfl)) dL_law_168 ⟨hkc, hks⟩) ?_
    refine lv_aload_n (pc := 171) hx hb dL_law_171 rfl (lv_at hl 2 rfl) ?_
    refine lv_aload_n (pc := 172) hx hb dL_law_172 rfl (lv_at hl 0 rfl) ?_
    refine lv_iload_n (pc := 173) hx hb dL_law_173 rfl (lv_at hl 3 rfl) ?_
    refine lv_iconst (pc := 174) (v := 1) hx hb dL_law_174 (by decide) ?_
    refine lv_iadd (pc := 175) hx hb dL_law_175 ?_
    refine b_re (nI_add i 1) ?_
    refine b_sld (pc := 176) hx hb hXs hbl hbA hS (i + 1) (by omega) (by omega) dL_law_176 ?_
    refine b_re ex ?_
    refine lv_aload_n (pc := 177) hx hb dL_law_177 rfl (lv_at hl 0 rfl) ?_
    refine lv_iload_n (pc := 178) hx hb dL_law_178 rfl (lv_at hl 3 rfl) ?_
    refine lv_iconst (pc := 179) (v := 2) hx hb dL_law_179 (by decide) ?_
    refine lv_iadd (pc := 180) hx hb dL_law_180 ?_
    refine b_re (nI_add i 2) ?_
    refine b_sld (pc := 181) hx hb hXs hbl hbA hS (i + 2) (by omega) (by omega) dL_law_181 ?_
    refine b_cR (pc := 182) (va_runV (As := [.int (nI g), .int (xs (i + 2))]) (rest := [.int (-2)]) ⟨hx, hb, hml, hown, hts⟩ (c_X4_event_bb l D cI cC cZ cG md a kp hs sn sl iv tx n sp nu g (xs (i + 2)) (by first | omega | assumption) (by first | omega | assumption)) (cwV 2 hts gL_law_X4_event rfl rfl rfl hy_X4_event ⟨Nat.le_of_ble_eq_true rfl, Nat.le_of_ble_eq_true rfl⟩) (b_pRV (wc := [((md 0), .inr (4, [.ref (md 1), .ref (md 2), .ref (md 3), .int (nI sn), .ref (md 4), .ref (md 5), .ref (md 6), .int (nI n), .int (nI sp), .int nu])), ((md 1), .inl (cI, 86, .inl a)), ((md 2), .inl (cI, 86, .inl kp)), ((md 3), .inl (cI, 516, .inl hs)), ((md 4), .inl (cI, 172, .inl sl)), ((md 5), .inl (cI, 2, .inl iv)), ((md 6), .inl (cI, 60, .inl tx))]) hK hP [19, 20, 21, 22, 23, 24, 25] rfl (ci := 4) (q0 := 0) rfl rfl) rfl rfl hl.1 rfl (lv_room (Nat.le_of_ble_eq_true rfl)) dL_law_182 ⟨hkc, hks⟩) ?_
    refine lv_icmp_eq (pc := 185) (tgt := 571) hx hb dL_law_185 (by decide) (fun c_1 => ?_) (fun c_1 => ?_)
    · skip
      exact kk f f2 tx n nx sn R SL sv a kp hs sl iv sp nu (hB.mono (by omega)) _ _ hP hD hS ls hl
    · skip
      exact absurd c_1 (by decide)
  · skip
    refine lv_aload_n (pc := 157) hx hb dL_law_157 rfl (lv_at hl 1 rfl) ?_
    refine lv_aload_n (pc := 158) hx hb dL_law_158 rfl (lv_at hl 0 rfl) ?_
    refine lv_iload_n (pc := 159) hx hb dL_law_159 rfl (lv_at hl 3 rfl) ?_
    refine lv_iconst (pc := 160) (v := 1) hx hb dL_law_160 (by decide) ?_
    refine lv_iadd (pc := 161) hx hb dL_law_161 ?_
    refine b_re (nI_add i 1) ?_
    refine b_sld (pc := 162) hx hb hXs hbl hbA hS (i + 1) (by omega) (by omega) dL_law_162 ?_
    refine b_re ex ?_
    refine lv_aload_n (pc := 163) hx hb dL_law_163 rfl (lv_at hl 0 rfl) ?_
    refine lv_iload_n (pc := 164) hx hb dL_law_164 rfl (lv_at hl 3 rfl) ?_
    refine lv_iconst (pc := 165) (v := 2) hx hb dL_law_165 (by decide) ?_
    refine lv_iadd (pc := 166) hx hb dL_law_166 ?_
    refine b_re (nI_add i 2) ?_
    refine b_sld (pc := 167) hx hb hXs hbl hbA hS (i + 2) (by omega) (by omega) dL_law_167 ?_
    refine b_re ey ?_
    refine b_cW (pc := 168) (w1 := [((ad 0), .inr (3, [.ref (ad 1), .ref (ad 3), .ref (ad 5), .ref (ad 7), .ref (ad 15), .ref (ad 18)])), ((ad 1), .inr (0, [.ref (ad 2)])), ((ad 2), .inl (cI, 86, .inl (h_change f g bm))), ((ad 3), .inr (0, [.ref (ad 4)])), ((ad 4), .inl (cI, 86, .inl f2)), ((ad 5), .inr (2, [.ref (ad 6), .int (nI n)])), ((ad 6), .inl (cC, 60, .inl tx)), ((ad 7), .inr (1, [.ref (ad 8), .int (nI (h_nx nx)), .int (nI (h_sz sn))])), ((ad 8), .inl (cG, 6, .inr (.inr (.inr (.inr (fun i => ([(ad 9), (ad 10), (ad 11), (ad 12), (ad 13), (ad 14)] : List Nat)[i]?)))))), ((ad 9), .inl (cI, 86, .inl (va_up R nx (va_cpy f (R nx) 0 0 86) 0))), ((ad 10), .inl (cI, 86, .inl (va_up R nx (va_cpy f (R nx) 0 0 86) 1))), ((ad 11), .inl (cI, 86, .inl (va_up R nx (va_cpy f (R nx) 0 0 86) 2))), ((ad 12), .inl (cI, 86, .inl (va_up R nx (va_cpy f (R nx) 0 0 86) 3))), ((ad 13), .inl (cI, 86, .inl (va_up R nx (va_cpy f (R nx) 0 0 86) 4))), ((ad 14), .inl (cI, 86, .inl (va_up R nx (va_cpy f (R nx) 0 0 86) 5))), ((ad 15), .inl (cG, 2, .inr (.inr (.inr (.inr (fun i => ([(ad 16), (ad 17)] : List Nat)[i]?)))))), ((ad 16), .inl (cI, 86, .inl (SL 0))), ((ad 17), .inl (cI, 86, .inl (SL 1))), ((ad 18), .inl (cZ, 2, .inl sv))]) (va_runV (As := [.int (nI g), .int (nI bm)]) (rest := []) ⟨hx, hb, hml, hown, hts⟩ (c_X3_event_ok l D cI cC cZ cG tb lo hi H.size ad f f2 tx n nx sn R SL sv g bm (by first | omega | assumption) (by first | omega | assumption) (by first | omega | assumption) (by first | omega | assumption) (by first | omega | assumption)) (cwV 2 hts gL_law_X3_event rfl rfl rfl hy_X3_event ⟨Nat.le_of_ble_eq_true rfl, Nat.le_of_ble_eq_true rfl⟩) (b_pWV (wc := [((ad 0), .inr (3, [.ref (ad 1), .ref (ad 3), .ref (ad 5), .ref (ad 7), .ref (ad 15), .ref (ad 18)])), ((ad 1), .inr (0, [.ref (ad 2)])), ((ad 2), .inl (cI, 86, .inl f)), ((ad 3), .inr (0, [.ref (ad 4)])), ((ad 4), .inl (cI, 86, .inl f2)), ((ad 5), .inr (2, [.ref (ad 6), .int (nI n)])), ((ad 6), .inl (cC, 60, .inl tx)), ((ad 7), .inr (1, [.ref (ad 8), .int (nI nx), .int (nI sn)])), ((ad 8), .inl (cG, 6, .inr (.inr (.inr (.inr (fun i => ([(ad 9), (ad 10), (ad 11), (ad 12), (ad 13), (ad 14)] : List Nat)[i]?)))))), ((ad 9), .inl (cI, 86, .inl (R 0))), ((ad 10), .inl (cI, 86, .inl (R 1))), ((ad 11), .inl (cI, 86, .inl (R 2))), ((ad 12), .inl (cI, 86, .inl (R 3))), ((ad 13), .inl (cI, 86, .inl (R 4))), ((ad 14), .inl (cI, 86, .inl (R 5))), ((ad 15), .inl (cG, 2, .inr (.inr (.inr (.inr (fun i => ([(ad 16), (ad 17)] : List Nat)[i]?)))))), ((ad 16), .inl (cI, 86, .inl (SL 0))), ((ad 17), .inl (cI, 86, .inl (SL 1))), ((ad 18), .inl (cZ, 2, .inl sv))]) hK hP hD (b_Xok_X tb lo hi) [0, 1, 2, 3, 4, 5, 6, 7, 8, 9, 10, 11, 12, 13, 14, 15, 16, 17, 18] rfl (by decide) rfl (b_Xc hX hD hS hA [0, 1, 2, 3, 4, 5, 6, 7, 8, 9, 10, 11, 12, 13, 14, 15, 16, 17, 18] rfl) (ci := 3) (q0 := 0) rfl rfl) rfl rfl hl.1 rfl (lv_room (Nat.le_of_ble_eq_true rfl)) dL_law_168 ⟨hkc, hks⟩) hP hD hS hA [0, 1, 2, 3, 4, 5, 6, 7, 8, 9, 10, 11, 12, 13, 14, 15, 16, 17, 18] rfl rfl (fun H locs hP hD hS => ?_)
    have hP : va_P D vwCl [((ad 0), .inr (3, [.ref (ad 1), .ref (ad 3), .ref (ad 5), .ref (ad 7), .ref (ad 15), .ref (ad 18)])), ((ad 1), .inr (0, [.ref (ad 2)])), ((ad 2), .inl (cI, 86, .inl (h_change f g bm))), ((ad 3), .inr (0, [.ref (ad 4)])), ((ad 4), .inl (cI, 86, .inl f2)), ((ad 5), .inr (2, [.ref (ad 6), .int (nI n)])), ((ad 6), .inl (cC, 60, .inl tx)), ((ad 7), .inr (1, [.ref (ad 8), .int (nI (h_nx nx)), .int (nI (h_sz sn))])), ((ad 8), .inl (cG, 6, .inr (.inr (.inr (.inr (fun i => ([(ad 9), (ad 10), (ad 11), (ad 12), (ad 13), (ad 14)] : List Nat)[i]?)))))), ((ad 9), .inl (cI, 86, .inl (va_up R nx (va_cpy f (R nx) 0 0 86) 0))), ((ad 10), .inl (cI, 86, .inl (va_up R nx (va_cpy f (R nx) 0 0 86) 1))), ((ad 11), .inl (cI, 86, .inl (va_up R nx (va_cpy f (R nx) 0 0 86) 2))), ((ad 12), .inl (cI, 86, .inl (va_up R nx (va_cpy f (R nx) 0 0 86) 3))), ((ad 13), .inl (cI, 86, .inl (va_up R nx (va_cpy f (R nx) 0 0 86) 4))), ((ad 14), .inl (cI, 86, .inl (va_up R nx (va_cpy f (R nx) 0 0 86) 5))), ((ad 15), .inl (cG, 2, .inr (.inr (.inr (.inr (fun i => ([(ad 16), (ad 17)] : List Nat)[i]?)))))), ((ad 16), .inl (cI, 86, .inl (SL 0))), ((ad 17), .inl (cI, 86, .inl (SL 1))), ((ad 18), .inl (cZ, 2, .inl sv)), ((md 0), .inr (4, [.ref (md 1), .ref (md 2), .ref (md 3), .int (nI sn), .ref (md 4), .ref (md 5), .ref (md 6), .int (nI n), .int (nI sp), .int nu])), ((md 1), .inl (cI, 86, .inl a)), ((md 2), .inl (cI, 86, .inl kp)), ((md 3), .inl (cI, 516, .inl hs)), ((md 4), .inl (cI, 172, .inl sl)), ((md 5), .inl (cI, 2, .inl iv)), ((md 6), .inl (cI, 60, .inl tx))] H := hP
    have hD : va_D A [((ad 0), .inr (3, [.ref (ad 1), .ref (ad 3), .ref (ad 5), .ref (ad 7), .ref (ad 15), .ref (ad 18)])), ((ad 1), .inr (0, [.ref (ad 2)])), ((ad 2), .inl (cI, 86, .inl (h_change f g bm))), ((ad 3), .inr (0, [.ref (ad 4)])), ((ad 4), .inl (cI, 86, .inl f2)), ((ad 5), .inr (2, [.ref (ad 6), .int (nI n)])), ((ad 6), .inl (cC, 60, .inl tx)), ((ad 7), .inr (1, [.ref (ad 8), .int (nI (h_nx nx)), .int (nI (h_sz sn))])), ((ad 8), .inl (cG, 6, .inr (.inr (.inr (.inr (fun i => ([(ad 9), (ad 10), (ad 11), (ad 12), (ad 13), (ad 14)] : List Nat)[i]?)))))), ((ad 9), .inl (cI, 86, .inl (va_up R nx (va_cpy f (R nx) 0 0 86) 0))), ((ad 10), .inl (cI, 86, .inl (va_up R nx (va_cpy f (R nx) 0 0 86) 1))), ((ad 11), .inl (cI, 86, .inl (va_up R nx (va_cpy f (R nx) 0 0 86) 2))), ((ad 12), .inl (cI, 86, .inl (va_up R nx (va_cpy f (R nx) 0 0 86) 3))), ((ad 13), .inl (cI, 86, .inl (va_up R nx (va_cpy f (R nx) 0 0 86) 4))), ((ad 14), .inl (cI, 86, .inl (va_up R nx (va_cpy f (R nx) 0 0 86) 5))), ((ad 15), .inl (cG, 2, .inr (.inr (.inr (.inr (fun i => ([(ad 16), (ad 17)] : List Nat)[i]?)))))), ((ad 16), .inl (cI, 86, .inl (SL 0))), ((ad 17), .inl (cI, 86, .inl (SL 1))), ((ad 18), .inl (cZ, 2, .inl sv)), ((md 0), .inr (4, [.ref (md 1), .ref (md 2), .ref (md 3), .int (nI sn), .ref (md 4), .ref (md 5), .ref (md 6), .int (nI n), .int (nI sp), .int nu])), ((md 1), .inl (cI, 86, .inl a)), ((md 2), .inl (cI, 86, .inl kp)), ((md 3), .inl (cI, 516, .inl hs)), ((md 4), .inl (cI, 172, .inl sl)), ((md 5), .inl (cI, 2, .inl iv)), ((md 6), .inl (cI, 60, .inl tx))] := hD
    refine lv_aload_n (pc := 171) hx hb dL_law_171 rfl (lv_at hl 2 rfl) ?_
    refine lv_aload_n (pc := 172) hx hb dL_law_172 rfl (lv_at hl 0 rfl) ?_
    refine lv_iload_n (pc := 173) hx hb dL_law_173 rfl (lv_at hl 3 rfl) ?_
    refine lv_iconst (pc := 174) (v := 1) hx hb dL_law_174 (by decide) ?_
    refine lv_iadd (pc := 175) hx hb dL_law_175 ?_
    refine b_re (nI_add i 1) ?_
    refine b_sld (pc := 176) hx hb hXs hbl hbA hS (i + 1) (by omega) (by omega) dL_law_176 ?_
    refine b_re ex ?_
    refine lv_aload_n (pc := 177) hx hb dL_law_177 rfl (lv_at hl 0 rfl) ?_
    refine lv_iload_n (pc := 178) hx hb dL_law_178 rfl (lv_at hl 3 rfl) ?_
    refine lv_iconst (pc := 179) (v := 2) hx hb dL_law_179 (by decide) ?_
    refine lv_iadd (pc := 180) hx hb dL_law_180 ?_
    refine b_re (nI_add i 2) ?_
    refine b_sld (pc := 181) hx hb hXs hbl hbA hS (i + 2) (by omega) (by omega) dL_law_181 ?_
    refine b_re ey ?_
    refine b_cW (pc := 182) (w1 := [((md 0), .inr (4, [.ref (md 1), .ref (md 2), .ref (md 3), .int (nI (h_sz sn)), .ref (md 4), .ref (md 5), .ref (md 6), .int (nI n), .int (nI sp), .int nu])), ((md 1), .inl (cI, 86, .inl (m_hap a g bm))), ((md 2), .inl (cI, 86, .inl kp)), ((md 3), .inl (cI, 516, .inl (m_hs a hs sn))), ((md 4), .inl (cI, 172, .inl sl)), ((md 5), .inl (cI, 2, .inl iv)), ((md 6), .inl (cI, 60, .inl tx))]) (va_runV (As := [.int (nI g), .int (nI bm)]) (rest := [.int (f (8 + g * 13 + 0) ^^^ b_tb bm)]) ⟨hx, hb, hml, hown, hts⟩ (c_X4_event_ok l D cI cC cZ cG H.size md a kp hs sn sl iv tx n sp nu g bm (by first | omega | assumption) (by first | omega | assumption) (by first | omega | assumption)) (cwV 2 hts gL_law_X4_event rfl rfl rfl hy_X4_event ⟨Nat.le_of_ble_eq_true rfl, Nat.le_of_ble_eq_true rfl⟩) (b_pWV (wc := [((md 0), .inr (4, [.ref (md 1), .ref (md 2), .ref (md 3), .int (nI sn), .ref (md 4), .ref (md 5), .ref (md 6), .int (nI n), .int (nI sp), .int nu])), ((md 1), .inl (cI, 86, .inl a)), ((md 2), .inl (cI, 86, .inl kp)), ((md 3), .inl (cI, 516, .inl hs)), ((md 4), .inl (cI, 172, .inl sl)), ((md 5), .inl (cI, 2, .inl iv)), ((md 6), .inl (cI, 60, .inl tx))]) hK hP hD b_Xok_0 [19, 20, 21, 22, 23, 24, 25] rfl (by decide) rfl trivial (ci := 4) (q0 := 0) rfl rfl) rfl rfl hl.1 rfl (lv_room (Nat.le_of_ble_eq_true rfl)) dL_law_182 ⟨hkc, hks⟩) hP hD hS hA [19, 20, 21, 22, 23, 24, 25] rfl rfl (fun H locs hP hD hS => ?_)
    have hP : va_P D vwCl [((ad 0), .inr (3, [.ref (ad 1), .ref (ad 3), .ref (ad 5), .ref (ad 7), .ref (ad 15), .ref (ad 18)])), ((ad 1), .inr (0, [.ref (ad 2)])), ((ad 2), .inl (cI, 86, .inl (h_change f g bm))), ((ad 3), .inr (0, [.ref (ad 4)])), ((ad 4), .inl (cI, 86, .inl f2)), ((ad 5), .inr (2, [.ref (ad 6), .int (nI n)])), ((ad 6), .inl (cC, 60, .inl tx)), ((ad 7), .inr (1, [.ref (ad 8), .int (nI (h_nx nx)), .int (nI (h_sz sn))])), ((ad 8), .inl (cG, 6, .inr (.inr (.inr (.inr (fun i => ([(ad 9), (ad 10), (ad 11), (ad 12), (ad 13), (ad 14)] : List Nat)[i]?)))))), ((ad 9), .inl (cI, 86, .inl (va_up R nx (va_cpy f (R nx) 0 0 86) 0))), ((ad 10), .inl (cI, 86, .inl (va_up R nx (va_cpy f (R nx) 0 0 86) 1))), ((ad 11), .inl (cI, 86, .inl (va_up R nx (va_cpy f (R nx) 0 0 86) 2))), ((ad 12), .inl (cI, 86, .inl (va_up R nx (va_cpy f (R nx) 0 0 86) 3))), ((ad 13), .inl (cI, 86, .inl (va_up R nx (va_cpy f (R nx) 0 0 86) 4))), ((ad 14), .inl (cI, 86, .inl (va_up R nx (va_cpy f (R nx) 0 0 86) 5))), ((ad 15), .inl (cG, 2, .inr (.inr (.inr (.inr (fun i => ([(ad 16), (ad 17)] : List Nat)[i]?)))))), ((ad 16), .inl (cI, 86, .inl (SL 0))), ((ad 17), .inl (cI, 86, .inl (SL 1))), ((ad 18), .inl (cZ, 2, .inl sv)), ((md 0), .inr (4, [.ref (md 1), .ref (md 2), .ref (md 3), .int (nI (h_sz sn)), .ref (md 4), .ref (md 5), .ref (md 6), .int (nI n), .int (nI sp), .int nu])), ((md 1), .inl (cI, 86, .inl (m_hap a g bm))), ((md 2), .inl (cI, 86, .inl kp)), ((md 3), .inl (cI, 516, .inl (m_hs a hs sn))), ((md 4), .inl (cI, 172, .inl sl)), ((md 5), .inl (cI, 2, .inl iv)), ((md 6), .inl (cI, 60, .inl tx))] H := hP
    have hD : va_D A [((ad 0), .inr (3, [.ref (ad 1), .ref (ad 3), .ref (ad 5), .ref (ad 7), .ref (ad 15), .ref (ad 18)])), ((ad 1), .inr (0, [.ref (ad 2)])), ((ad 2), .inl (cI, 86, .inl (h_change f g bm))), ((ad 3), .inr (0, [.ref (ad 4)])), ((ad 4), .inl (cI, 86, .inl f2)), ((ad 5), .inr (2, [.ref (ad 6), .int (nI n)])), ((ad 6), .inl (cC, 60, .inl tx)), ((ad 7), .inr (1, [.ref (ad 8), .int (nI (h_nx nx)), .int (nI (h_sz sn))])), ((ad 8), .inl (cG, 6, .inr (.inr (.inr (.inr (fun i => ([(ad 9), (ad 10), (ad 11), (ad 12), (ad 13), (ad 14)] : List Nat)[i]?)))))), ((ad 9), .inl (cI, 86, .inl (va_up R nx (va_cpy f (R nx) 0 0 86) 0))), ((ad 10), .inl (cI, 86, .inl (va_up R nx (va_cpy f (R nx) 0 0 86) 1))), ((ad 11), .inl (cI, 86, .inl (va_up R nx (va_cpy f (R nx) 0 0 86) 2))), ((ad 12), .inl (cI, 86, .inl (va_up R nx (va_cpy f (R nx) 0 0 86) 3))), ((ad 13), .inl (cI, 86, .inl (va_up R nx (va_cpy f (R nx) 0 0 86) 4))), ((ad 14), .inl (cI, 86, .inl (va_up R nx (va_cpy f (R nx) 0 0 86) 5))), ((ad 15), .inl (cG, 2, .inr (.inr (.inr (.inr (fun i => ([(ad 16), (ad 17)] : List Nat)[i]?)))))), ((ad 16), .inl (cI, 86, .inl (SL 0))), ((ad 17), .inl (cI, 86, .inl (SL 1))), ((ad 18), .inl (cZ, 2, .inl sv)), ((md 0), .inr (4, [.ref (md 1), .ref (md 2), .ref (md 3), .int (nI (h_sz sn)), .ref (md 4), .ref (md 5), .ref (md 6), .int (nI n), .int (nI sp), .int nu])), ((md 1), .inl (cI, 86, .inl (m_hap a g bm))), ((md 2), .inl (cI, 86, .inl kp)), ((md 3), .inl (cI, 516, .inl (m_hs a hs sn))), ((md 4), .inl (cI, 172, .inl sl)), ((md 5), .inl (cI, 2, .inl iv)), ((md 6), .inl (cI, 60, .inl tx))] := hD
    refine lv_icmp_eq (pc := 185) (tgt := 571) hx hb dL_law_185 (by decide) (fun c_1 => ?_) (fun c_1 => ?_)
    · skip
      have c_1 : (f (8 + g * 13 + 0) ^^^ b_tb bm) = (m_hap a g bm (8 + 13 * g + 0)) := c_1
      exact kk (h_change f g bm) f2 tx n (h_nx nx) (h_sz sn) (va_up R nx (va_cpy f (R nx) 0 0 86)) SL sv (m_hap a g bm) kp (m_hs a hs sn) sl iv sp nu (hB.change (by omega) ((e_event hg hbm (by omega) hR).1.mono (by omega)) hn60) _ _ hP hD hS ls hl
    · skip
      have c_1 : ¬ ((f (8 + g * 13 + 0) ^^^ b_tb bm) = (m_hap a g bm (8 + 13 * g + 0))) := c_1
      exact absurd (e_event hg hbm (by omega) hR).2.1.symm c_1
set_option maxHeartbeats 4000000 in
set_option maxRecDepth 100000 in
theorem law_pass {p : Program} {l : Launch} {e : Env} {s : State} {m : MethodId} {below : List Frame} {meth : Method} {c : Code} {D : va_G} {cI cC cZ cG : ClassId} {A : Nat → Prop} {tb lo hi b L : Nat} {xs : Nat → Int32} {ad md : Nat → Nat} {i N : Nat} (C : lw_C p s m meth c D cI cC cZ cG A tb lo hi b L xs) (hi3 : i + 3 ≤ L) (hL : L ≤ 1536) (hN : N + 60 ≤ 1000000) (kk : lw_KK p l e s m below meth c D cI cC cZ cG A b ad md i (N + 60) 571) : lw_KK p l e s m below meth c D cI cC cZ cG A b ad md i N 190 := by
  intro f f2 tx n nx sn R SL sv a kp hs sl iv sp nu hB H locs hP hD hS ls hl
  obtain ⟨hx, hb, hml, hown, hts, hXs, hbl, hbA, hA, hK, hX⟩ := C
  have hn60 : n ≤ 60 := hB.2.1
  have hnx : nx < 6 := hB.2.2.1.1
  have hsn : sn ≤ 6 := hB.2.2.1.2
  have hR := hB.1
  have hkc : 600000 + 0 ≤ room_1.cells := Nat.le_refl _
  have hks : 7302250 + 0 ≤ room_1.slots := Nat.le_refl _
  have hl : lv_has ls 4 [(0, .ref b), (1, .ref (ad 0)), (2, .ref (md 0)), (3, .int (nI i))] := hl
  rcases cs_pass f (xs (i + 1)) with hbad | ⟨h1, h2, h3⟩ | ⟨h1, h2, h3⟩
  · skip
    refine lv_aload_n (pc := 190) hx hb dL_law_190 rfl (lv_at hl 1 rfl) ?_
    refine lv_aload_n (pc := 191) hx hb dL_law_191 rfl (lv_at hl 0 rfl) ?_
    refine lv_iload_n (pc := 192) hx hb dL_law_192 rfl (lv_at hl 3 rfl) ?_
    refine lv_iconst (pc := 193) (v := 1) hx hb dL_law_193 (by decide) ?_
    refine lv_iadd (pc := 194) hx hb dL_law_194 ?_
    refine b_re (nI_add i 1) ?_
    refine b_sld (pc := 195) hx hb hXs hbl hbA hS (i + 1) (by omega) (by omega) dL_law_195 ?_
    refine b_cR (pc := 196) (va_runV (As := [.int (xs (i + 1))]) (rest := []) ⟨hx, hb, hml, hown, hts⟩ (c_X3_pass_bad l D cI cC cZ cG ad f f2 tx n nx sn R SL sv (xs (i + 1)) (by first | omega | assumption) (by first | omega | assumption) (by first | omega | assumption) (by first | omega | assumption)) (cwV 1 hts gL_law_X3_pass rfl rfl rfl hy_X3_pass ⟨Nat.le_of_ble_eq_true rfl, Nat.le_of_ble_eq_true rfl⟩) (b_pRV (wc := [((ad 0), .inr (3, [.ref (ad 1), .ref (ad 3), .ref (ad 5), .ref (ad 7), .ref (ad 15), .ref (ad 18)])), ((ad 1), .inr (0, [.ref (ad 2)])), ((ad 2), .inl (cI, 86, .inl f)), ((ad 3), .inr (0, [.ref (ad 4)])), ((ad 4), .inl (cI, 86, .inl f2)), ((ad 5), .inr (2, [.ref (ad 6), .int (nI n)])), ((ad 6), .inl (cC, 60, .inl tx)), ((ad 7), .inr (1, [.ref (ad 8), .int (nI nx), .int (nI sn)])), ((ad 8), .inl (cG, 6, .inr (.inr (.inr (.inr (fun i => ([(ad 9), (ad 10), (ad 11), (ad 12), (ad 13), (ad 14)] : List Nat)[i]?)))))), ((ad 9), .inl (cI, 86, .inl (R 0))), ((ad 10), .inl (cI, 86, .inl (R 1))), ((ad 11), .inl (cI, 86, .inl (R 2))), ((ad 12), .inl (cI, 86, .inl (R 3))), ((ad 13), .inl (cI, 86, .inl (R 4))), ((ad 14), .inl (cI, 86, .inl (R 5))), ((ad 15), .inl (cG, 2, .inr (.inr (.inr (.inr (fun i => ([(ad 16), (ad 17)] : List Nat)[i]?)))))), ((ad 16), .inl (cI, 86, .inl (SL 0))), ((ad 17), .inl (cI, 86, .inl (SL 1))), ((ad 18), .inl (cZ, 2, .inl sv))]) hK hP [0, 1, 2, 3, 4, 5, 6, 7, 8, 9, 10, 11, 12, 13, 14, 15, 16, 17, 18] rfl (ci := 3) (q0 := 0) rfl rfl) rfl rfl hl.1 rfl (lv_room (Nat.le_of_ble_eq_true rfl)) dL_law_196 ⟨hkc, hks⟩) ?_
    refine lv_aload_n (pc := 199) hx hb dL_law_199 rfl (lv_at hl 2 rfl) ?_
    refine lv_aload_n (pc := 200) hx hb dL_law_200 rfl (lv_at hl 0 rfl) ?_
    refine lv_iload_n (pc := 201) hx hb dL_law_201 rfl (lv_at hl 3 rfl) ?_
    refine lv_iconst (pc := 202) (v := 1) hx hb dL_law_202 (by decide) ?_
    refine lv_iadd (pc := 203) hx hb dL_law_203 ?_
    refine b_re (nI_add i 1) ?_
    refine b_sld (pc := 204) hx hb hXs hbl hbA hS (i + 1) (by omega) (by omega) dL_law_204 ?_
    refine b_cR (pc := 205) (va_runV (As := [.int (xs (i + 1))]) (rest := [.int (-2)]) ⟨hx, hb, hml, hown, hts⟩ (c_X4_pass_bad l D cI cC cZ cG md a kp hs sn sl iv tx n sp nu (xs (i + 1)) (by first | omega | assumption)) (cwV 1 hts gL_law_X4_pass rfl rfl rfl hy_X4_pass ⟨Nat.le_of_ble_eq_true rfl, Nat.le_of_ble_eq_true rfl⟩) (b_pRV (wc := [((md 0), .inr (4, [.ref (md 1), .ref (md 2), .ref (md 3), .int (nI sn), .ref (md 4), .ref (md 5), .ref (md 6), .int (nI n), .int (nI sp), .int nu])), ((md 1), .inl (cI, 86, .inl a)), ((md 2), .inl (cI, 86, .inl kp)), ((md 3), .inl (cI, 516, .inl hs)), ((md 4), .inl (cI, 172, .inl sl)), ((md 5), .inl (cI, 2, .inl iv)), ((md 6), .inl (cI, 60, .inl tx))]) hK hP [19, 20, 21, 22, 23, 24, 25] rfl (ci := 4) (q0 := 0) rfl rfl) rfl rfl hl.1 rfl (lv_room (Nat.le_of_ble_eq_true rfl)) dL_law_205 ⟨hkc, hks⟩) ?_
    refine lv_icmp_eq (pc := 208) (tgt := 571) hx hb dL_law_208 (by decide) (fun c_1 => ?_) (fun c_1 => ?_)
    · skip
      exact kk f f2 tx n nx sn R SL sv a kp hs sl iv sp nu (hB.mono (by omega)) _ _ hP hD hS ls hl
    · skip
      exact absurd c_1 (by decide)
  · skip
    have h3m : ¬ a 3 + xs (i + 1) ≤ 99999 := by rw [hR.1.get (w := 3) (by omega)]; exact Int32.not_le.mpr h3
    refine lv_aload_n (pc := 190) hx hb dL_law_190 rfl (lv_at hl 1 rfl) ?_
    refine lv_aload_n (pc := 191) hx hb dL_law_191 rfl (lv_at hl 0 rfl) ?_
    refine lv_iload_n (pc := 192) hx hb dL_law_192 rfl (lv_at hl 3 rfl) ?_
    refine lv_iconst (pc := 193) (v := 1) hx hb dL_law_193 (by decide) ?_
    refine lv_iadd (pc := 194) hx hb dL_law_194 ?_
    refine b_re (nI_add i 1) ?_
    refine b_sld (pc := 195) hx hb hXs hbl hbA hS (i + 1) (by omega) (by omega) dL_law_195 ?_
    refine b_cR (pc := 196) (va_runV (As := [.int (xs (i + 1))]) (rest := []) ⟨hx, hb, hml, hown, hts⟩ (c_X3_pass_many l D cI cC cZ cG ad f f2 tx n nx sn R SL sv (xs (i + 1)) (by first | omega | assumption) (by first | omega | assumption) (by first | omega | assumption) (by first | omega | assumption) (by first | omega | assumption) (by first | omega | assumption)) (cwV 1 hts gL_law_X3_pass rfl rfl rfl hy_X3_pass ⟨Nat.le_of_ble_eq_true rfl, Nat.le_of_ble_eq_true rfl⟩) (b_pRV (wc := [((ad 0), .inr (3, [.ref (ad 1), .ref (ad 3), .ref (ad 5), .ref (ad 7), .ref (ad 15), .ref (ad 18)])), ((ad 1), .inr (0, [.ref (ad 2)])), ((ad 2), .inl (cI, 86, .inl f)), ((ad 3), .inr (0, [.ref (ad 4)])), ((ad 4), .inl (cI, 86, .inl f2)), ((ad 5), .inr (2, [.ref (ad 6), .int (nI n)])), ((ad 6), .inl (cC, 60, .inl tx)), ((ad 7), .inr (1, [.ref (ad 8), .int (nI nx), .int (nI sn)])), ((ad 8), .inl (cG, 6, .inr (.inr (.inr (.inr (fun i => ([(ad 9), (ad 10), (ad 11), (ad 12), (ad 13), (ad 14)] : List Nat)[i]?)))))), ((ad 9), .inl (cI, 86, .inl (R 0))), ((ad 10), .inl (cI, 86, .inl (R 1))), ((ad 11), .inl (cI, 86, .inl (R 2))), ((ad 12), .inl (cI, 86, .inl (R 3))), ((ad 13), .inl (cI, 86, .inl (R 4))), ((ad 14), .inl (cI, 86, .inl (R 5))), ((ad 15), .inl (cG, 2, .inr (.inr (.inr (.inr (fun i => ([(ad 16), (ad 17)] : List Nat)[i]?)))))), ((ad 16), .inl (cI, 86, .inl (SL 0))), ((ad 17), .inl (cI, 86, .inl (SL 1))), ((ad 18), .inl (cZ, 2, .inl sv))]) hK hP [0, 1, 2, 3, 4, 5, 6, 7, 8, 9, 10, 11, 12, 13, 14, 15, 16, 17, 18] rfl (ci := 3) (q0 := 0) rfl rfl) rfl rfl hl.1 rfl (lv_room (Nat.le_of_ble_eq_true rfl)) dL_law_196 ⟨hkc, hks⟩) ?_
    refine lv_aload_n (pc := 199) hx hb dL_law_199 rfl (lv_at hl 2 rfl) ?_
    refine lv_aload_n (pc := 200) hx hb dL_law_200 rfl (lv_at hl 0 rfl) ?_
    refine lv_iload_n (pc := 201) hx hb dL_law_201 rfl (lv_at hl 3 rfl) ?_
    refine lv_iconst (pc := 202) (v := 1) hx hb dL_law_202 (by decide) ?_
    refine lv_iadd (pc := 203) hx hb dL_law_203 ?_
    refine b_re (nI_add i 1) ?_
    refine b_sld (pc := 204) hx hb hXs hbl hbA hS (i + 1) (by omega) (by omega) dL_law_204 ?_
    refine b_cR (pc := 205) (va_runV (As := [.int (xs (i + 1))]) (rest := [.int (-4)]) ⟨hx, hb, hml, hown, hts⟩ (c_X4_pass_many l D cI cC cZ cG md a kp hs sn sl iv tx n sp nu (xs (i + 1)) (by first | omega | assumption) (by first | omega | assumption) (by first | omega | assumption)) (cwV 1 hts gL_law_X4_pass rfl rfl rfl hy_X4_pass ⟨Nat.le_of_ble_eq_true rfl, Nat.le_of_ble_eq_true rfl⟩) (b_pRV (wc := [((md 0), .inr (4, [.ref (md 1), .ref (md 2), .ref (md 3), .int (nI sn), .ref (md 4), .ref (md 5), .ref (md 6), .int (nI n), .int (nI sp), .int nu])), ((md 1), .inl (cI, 86, .inl a)), ((md 2), .inl (cI, 86, .inl kp)), ((md 3), .inl (cI, 516, .inl hs)), ((md 4), .inl (cI, 172, .inl sl)), ((md 5), .inl (cI, 2, .inl iv)), ((md 6), .inl (cI, 60, .inl tx))]) hK hP [19, 20, 21, 22, 23, 24, 25] rfl (ci := 4) (q0 := 0) rfl rfl) rfl rfl hl.1 rfl (lv_room (Nat.le_of_ble_eq_true rfl)) dL_law_205 ⟨hkc, hks⟩) ?_
    refine lv_icmp_eq (pc := 208) (tgt := 571) hx hb dL_law_208 (by decide) (fun c_1 => ?_) (fun c_1 => ?_)
    · skip
      exact kk f f2 tx n nx sn R SL sv a kp hs sl iv sp nu (hB.mono (by omega)) _ _ hP hD hS ls hl
    · skip
      exact absurd c_1 (by decide)
  · skip
    have hR2 := e_pass hR h1 h2 h3
    have h3m : a 3 + xs (i + 1) ≤ 99999 := by rw [hR.1.get (w := 3) (by omega)]; exact Int32.not_lt.mp h3
    refine lv_aload_n (pc := 190) hx hb dL_law_190 rfl (lv_at hl 1 rfl) ?_
    refine lv_aload_n (pc := 191) hx hb dL_law_191 rfl (lv_at hl 0 rfl) ?_
    refine lv_iload_n (pc := 192) hx hb dL_law_192 rfl (lv_at hl 3 rfl) ?_
    refine lv_iconst (pc := 193) (v := 1) hx hb dL_law_193 (by decide) ?_
    refine lv_iadd (pc := 194) hx hb dL_law_194 ?_
    refine b_re (nI_add i 1) ?_
    refine b_sld (pc := 195) hx hb hXs hbl hbA hS (i + 1) (by omega) (by omega) dL_law_195 ?_
    refine b_cW (pc := 196) (w1 := [((ad 0), .inr (3, [.ref (ad 1), .ref (ad 3), .ref (ad 5), .ref (ad 7), .ref (ad 15), .ref (ad 18)])), ((ad 1), .inr (0, [.ref (ad 2)])), ((ad 2), .inl (cI, 86, .inl (h_goBy f (xs (i + 1))))), ((ad 3), .inr (0, [.ref (ad 4)])), ((ad 4), .inl (cI, 86, .inl f2)), ((ad 5), .inr (2, [.ref (ad 6), .int (nI n)])), ((ad 6), .inl (cC, 60, .inl tx)), ((ad 7), .inr (1, [.ref (ad 8), .int (nI (h_nx nx)), .int (nI (h_sz sn))])), ((ad 8), .inl (cG, 6, .inr (.inr (.inr (.inr (fun i => ([(ad 9), (ad 10), (ad 11), (ad 12), (ad 13), (ad 14)] : List Nat)[i]?)))))), ((ad 9), .inl (cI, 86, .inl (va_up R nx (va_cpy f (R nx) 0 0 86) 0))), ((ad 10), .inl (cI, 86, .inl (va_up R nx (va_cpy f (R nx) 0 0 86) 1))), ((ad 11), .inl (cI, 86, .inl (va_up R nx (va_cpy f (R nx) 0 0 86) 2))), ((ad 12), .inl (cI, 86, .inl (va_up R nx (va_cpy f (R nx) 0 0 86) 3))), ((ad 13), .inl (cI, 86, .inl (va_up R nx (va_cpy f (R nx) 0 0 86) 4))), ((ad 14), .inl (cI, 86, .inl (va_up R nx (va_cpy f (R nx) 0 0 86) 5))), ((ad 15), .inl (cG, 2, .inr (.inr (.inr (.inr (fun i => ([(ad 16), (ad 17)] : List Nat)[i]?)))))), ((ad 16), .inl (cI, 86, .inl (SL 0))), ((ad 17), .inl (cI, 86, .inl (SL 1))), ((ad 18), .inl (cZ, 2, .inl sv))]) (va_runV (As := [.int (xs (i + 1))]) (rest := []) ⟨hx, hb, hml, hown, hts⟩ (c_X3_pass_ok l D cI cC cZ cG tb lo hi H.size ad f f2 tx n nx sn R SL sv (xs (i + 1)) (by first | omega | assumption) (by first | omega | assumption) (by first | omega | assumption) (by first | omega | assumption) (by first | omega | assumption) (by first | omega | assumption)) (cwV 1 hts gL_law_X3_pass rfl rfl rfl hy_X3_pass ⟨Nat.le_of_ble_eq_true rfl, Nat.le_of_ble_eq_true rfl⟩) (b_pWV (wc := [((ad 0), .inr (3, [.ref (ad 1), .ref (ad 3), .ref (ad 5), .ref (ad 7), .ref (ad 15), .ref (ad 18)])), ((ad 1), .inr (0, [.ref (ad 2)])), ((ad 2), .inl (cI, 86, .inl f)), ((ad 3), .inr (0, [.ref (ad 4)])), ((ad 4), .inl (cI, 86, .inl f2)), ((ad 5), .inr (2, [.ref (ad 6), .int (nI n)])), ((ad 6), .inl (cC, 60, .inl tx)), ((ad 7), .inr (1, [.ref (ad 8), .int (nI nx), .int (nI sn)])), ((ad 8), .inl (cG, 6, .inr (.inr (.inr (.inr (fun i => ([(ad 9), (ad 10), (ad 11), (ad 12), (ad 13), (ad 14)] : List Nat)[i]?)))))), ((ad 9), .inl (cI, 86, .inl (R 0))), ((ad 10), .inl (cI, 86, .inl (R 1))), ((ad 11), .inl (cI, 86, .inl (R 2))), ((ad 12), .inl (cI, 86, .inl (R 3))), ((ad 13), .inl (cI, 86, .inl (R 4))), ((ad 14), .inl (cI, 86, .inl (R 5))), ((ad 15), .inl (cG, 2, .inr (.inr (.inr (.inr (fun i => ([(ad 16), (ad 17)] : List Nat)[i]?)))))), ((ad 16), .inl (cI, 86, .inl (SL 0))), ((ad 17), .inl (cI, 86, .inl (SL 1))), ((ad 18), .inl (cZ, 2, .inl sv))]) hK hP hD (b_Xok_X tb lo hi) [0, 1, 2, 3, 4, 5, 6, 7, 8, 9, 10, 11, 12, 13, 14, 15, 16, 17, 18] rfl (by decide) rfl (b_Xc hX hD hS hA [0, 1, 2, 3, 4, 5, 6, 7, 8, 9, 10, 11, 12, 13, 14, 15, 16, 17, 18] rfl) (ci := 3) (q0 := 0) rfl rfl) rfl rfl hl.1 rfl (lv_room (Nat.le_of_ble_eq_true rfl)) dL_law_196 ⟨hkc, hks⟩) hP hD hS hA [0, 1, 2, 3, 4, 5, 6, 7, 8, 9, 10, 11, 12, 13, 14, 15, 16, 17, 18] rfl rfl (fun H locs hP hD hS => ?_)
    have hP : va_P D vwCl [((ad 0), .inr (3, [.ref (ad 1), .ref (ad 3), .ref (ad 5), .ref (ad 7), .ref (ad 15), .ref (ad 18)])), ((ad 1), .inr (0, [.ref (ad 2)])), ((ad 2), .inl (cI, 86, .inl (h_goBy f (xs (i + 1))))), ((ad 3), .inr (0, [.ref (ad 4)])), ((ad 4), .inl (cI, 86, .inl f2)), ((ad 5), .inr (2, [.ref (ad 6), .int (nI n)])), ((ad 6), .inl (cC, 60, .inl tx)), ((ad 7), .inr (1, [.ref (ad 8), .int (nI (h_nx nx)), .int (nI (h_sz sn))])), ((ad 8), .inl (cG, 6, .inr (.inr (.inr (.inr (fun i => ([(ad 9), (ad 10), (ad 11), (ad 12), (ad 13), (ad 14)] : List Nat)[i]?)))))), ((ad 9), .inl (cI, 86, .inl (va_up R nx (va_cpy f (R nx) 0 0 86) 0))), ((ad 10), .inl (cI, 86, .inl (va_up R nx (va_cpy f (R nx) 0 0 86) 1))), ((ad 11), .inl (cI, 86, .inl (va_up R nx (va_cpy f (R nx) 0 0 86) 2))), ((ad 12), .inl (cI, 86, .inl (va_up R nx (va_cpy f (R nx) 0 0 86) 3))), ((ad 13), .inl (cI, 86, .inl (va_up R nx (va_cpy f (R nx) 0 0 86) 4))), ((ad 14), .inl (cI, 86, .inl (va_up R nx (va_cpy f (R nx) 0 0 86) 5))), ((ad 15), .inl (cG, 2, .inr (.inr (.inr (.inr (fun i => ([(ad 16), (ad 17)] : List Nat)[i]?)))))), ((ad 16), .inl (cI, 86, .inl (SL 0))), ((ad 17), .inl (cI, 86, .inl (SL 1))), ((ad 18), .inl (cZ, 2, .inl sv)), ((md 0), .inr (4, [.ref (md 1), .ref (md 2), .ref (md 3), .int (nI sn), .ref (md 4), .ref (md 5), .ref (md 6), .int (nI n), .int (nI sp), .int nu])), ((md 1), .inl (cI, 86, .inl a)), ((md 2), .inl (cI, 86, .inl kp)), ((md 3), .inl (cI, 516, .inl hs)), ((md 4), .inl (cI, 172, .inl sl)), ((md 5), .inl (cI, 2, .inl iv)), ((md 6), .inl (cI, 60, .inl tx))] H := hP
    have hD : va_D A [((ad 0), .inr (3, [.ref (ad 1), .ref (ad 3), .ref (ad 5), .ref (ad 7), .ref (ad 15), .ref (ad 18)])), ((ad 1), .inr (0, [.ref (ad 2)])), ((ad 2), .inl (cI, 86, .inl (h_goBy f (xs (i + 1))))), ((ad 3), .inr (0, [.ref (ad 4)])), ((ad 4), .inl (cI, 86, .inl f2)), ((ad 5), .inr (2, [.ref (ad 6), .int (nI n)])), ((ad 6), .inl (cC, 60, .inl tx)), ((ad 7), .inr (1, [.ref (ad 8), .int (nI (h_nx nx)), .int (nI (h_sz sn))])), ((ad 8), .inl (cG, 6, .inr (.inr (.inr (.inr (fun i => ([(ad 9), (ad 10), (ad 11), (ad 12), (ad 13), (ad 14)] : List Nat)[i]?)))))), ((ad 9), .inl (cI, 86, .inl (va_up R nx (va_cpy f (R nx) 0 0 86) 0))), ((ad 10), .inl (cI, 86, .inl (va_up R nx (va_cpy f (R nx) 0 0 86) 1))), ((ad 11), .inl (cI, 86, .inl (va_up R nx (va_cpy f (R nx) 0 0 86) 2))), ((ad 12), .inl (cI, 86, .inl (va_up R nx (va_cpy f (R nx) 0 0 86) 3))), ((ad 13), .inl (cI, 86, .inl (va_up R nx (va_cpy f (R nx) 0 0 86) 4))), ((ad 14), .inl (cI, 86, .inl (va_up R nx (va_cpy f (R nx) 0 0 86) 5))), ((ad 15), .inl (cG, 2, .inr (.inr (.inr (.inr (fun i => ([(ad 16), (ad 17)] : List Nat)[i]?)))))), ((ad 16), .inl (cI, 86, .inl (SL 0))), ((ad 17), .inl (cI, 86, .inl (SL 1))), ((ad 18), .inl (cZ, 2, .inl sv)), ((md 0), .inr (4, [.ref (md 1), .ref (md 2), .ref (md 3), .int (nI sn), .ref (md 4), .ref (md 5), .ref (md 6), .int (nI n), .int (nI sp), .int nu])), ((md 1), .inl (cI, 86, .inl a)), ((md 2), .inl (cI, 86, .inl kp)), ((md 3), .inl (cI, 516, .inl hs)), ((md 4), .inl (cI, 172, .inl sl)), ((md 5), .inl (cI, 2, .inl iv)), ((md 6), .inl (cI, 60, .inl tx))] := hD
    refine lv_aload_n (pc := 199) hx hb dL_law_199 rfl (lv_at hl 2 rfl) ?_
    refine lv_aload_n (pc := 200) hx hb dL_law_200 rfl (lv_at hl 0 rfl) ?_
    refine lv_iload_n (pc := 201) hx hb dL_law_201 rfl (lv_at hl 3 rfl) ?_
    refine lv_iconst (pc := 202) (v := 1) hx hb dL_law_202 (by decide) ?_
    refine lv_iadd (pc := 203) hx hb dL_law_203 ?_
    refine b_re (nI_add i 1) ?_
    refine b_sld (pc := 204) hx hb hXs hbl hbA hS (i + 1) (by omega) (by omega) dL_law_204 ?_
    refine b_cW (pc := 205) (w1 := [((md 0), .inr (4, [.ref (md 1), .ref (md 2), .ref (md 3), .int (nI (h_sz sn)), .ref (md 4), .ref (md 5), .ref (md 6), .int (nI n), .int (nI sp), .int nu])), ((md 1), .inl (cI, 86, .inl (upd a 3 (a 3 + (xs (i + 1)))))), ((md 2), .inl (cI, 86, .inl kp)), ((md 3), .inl (cI, 516, .inl (m_hs a hs sn))), ((md 4), .inl (cI, 172, .inl sl)), ((md 5), .inl (cI, 2, .inl iv)), ((md 6), .inl (cI, 60, .inl tx))]) (va_runV (As := [.int (xs (i + 1))]) (rest := [.int (b_bc (h_bm (h_goBy f (xs (i + 1))) 6))]) ⟨hx, hb, hml, hown, hts⟩ (c_X4_pass_ok l D cI cC cZ cG H.size md a kp hs sn sl iv tx n sp nu (xs (i + 1)) (by first | omega | assumption) (by first | omega | assumption) (by first | omega | assumption) (by first | omega | assumption)) (cwV 1 hts gL_law_X4_pass rfl rfl rfl hy_X4_pass ⟨Nat.le_of_ble_eq_true rfl, Nat.le_of_ble_eq_true rfl⟩) (b_pWV (wc := [((md 0), .inr (4, [.ref (md 1), .ref (md 2), .ref (md 3), .int (nI sn), .ref (md 4), .ref (md 5), .ref (md 6), .int (nI n), .int (nI sp), .int nu])), ((md 1), .inl (cI, 86, .inl a)), ((md 2), .inl (cI, 86, .inl kp)), ((md 3), .inl (cI, 516, .inl hs)), ((md 4), .inl (cI, 172, .inl sl)), ((md 5), .inl (cI, 2, .inl iv)), ((md 6), .inl (cI, 60, .inl tx))]) hK hP hD b_Xok_0 [19, 20, 21, 22, 23, 24, 25] rfl (by decide) rfl trivial (ci := 4) (q0 := 0) rfl rfl) rfl rfl hl.1 rfl (lv_room (Nat.le_of_ble_eq_true rfl)) dL_law_205 ⟨hkc, hks⟩) hP hD hS hA [19, 20, 21, 22, 23, 24, 25] rfl rfl (fun H locs hP hD hS => ?_)
    have hP : va_P D vwCl [((ad 0), .inr (3, [.ref (ad 1), .ref (ad 3), .ref (ad 5), .ref (ad 7), .ref (ad 15), .ref (ad 18)])), ((ad 1), .inr (0, [.ref (ad 2)])), ((ad 2), .inl (cI, 86, .inl (h_goBy f (xs (i + 1))))), ((ad 3), .inr (0, [.ref (ad 4)])), ((ad 4), .inl (cI, 86, .inl f2)), ((ad 5), .inr (2, [.ref (ad 6), .int (nI n)])), ((ad 6), .inl (cC, 60, .inl tx)), ((ad 7), .inr (1, [.ref (ad 8), .int (nI (h_nx nx)), .int (nI (h_sz sn))])), ((ad 8), .inl (cG, 6, .inr (.inr (.inr (.inr (fun i => ([(ad 9), (ad 10), (ad 11), (ad 12), (ad 13), (ad 14)] : List Nat)[i]?)))))), ((ad 9), .inl (cI, 86, .inl (va_up R nx (va_cpy f (R nx) 0 0 86) 0))), ((ad 10), .inl (cI, 86, .inl (va_up R nx (va_cpy f (R nx) 0 0 86) 1))), ((ad 11), .inl (cI, 86, .inl (va_up R nx (va_cpy f (R nx) 0 0 86) 2))), ((ad 12), .inl (cI, 86, .inl (va_up R nx (va_cpy f (R nx) 0 0 86) 3))), ((ad 13), .inl (cI, 86, .inl (va_up R nx (va_cpy f (R nx) 0 0 86) 4))), ((ad 14), .inl (cI, 86, .inl (va_up R nx (va_cpy f (R nx) 0 0 86) 5))), ((ad 15), .inl (cG, 2, .inr (.inr (.inr (.inr (fun i => ([(ad 16), (ad 17)] : List Nat)[i]?)))))), ((ad 16), .inl (cI, 86, .inl (SL 0))), ((ad 17), .inl (cI, 86, .inl (SL 1))), ((ad 18), .inl (cZ, 2, .inl sv)), ((md 0), .inr (4, [.ref (md 1), .ref (md 2), .ref (md 3), .int (nI (h_sz sn)), .ref (md 4), .ref (md 5), .ref (md 6), .int (nI n), .int (nI sp), .int nu])), ((md 1), .inl (cI, 86, .inl (upd a 3 (a 3 + (xs (i + 1)))))), ((md 2), .inl (cI, 86, .inl kp)), ((md 3), .inl (cI, 516, .inl (m_hs a hs sn))), ((md 4), .inl (cI, 172, .inl sl)), ((md 5), .inl (cI, 2, .inl iv)), ((md 6), .inl (cI, 60, .inl tx))] H := hP
    have hD : va_D A [((ad 0), .inr (3, [.ref (ad 1), .ref (ad 3), .ref (ad 5), .ref (ad 7), .ref (ad 15), .ref (ad 18)])), ((ad 1), .inr (0, [.ref (ad 2)])), ((ad 2), .inl (cI, 86, .inl (h_goBy f (xs (i + 1))))), ((ad 3), .inr (0, [.ref (ad 4)])), ((ad 4), .inl (cI, 86, .inl f2)), ((ad 5), .inr (2, [.ref (ad 6), .int (nI n)])), ((ad 6), .inl (cC, 60, .inl tx)), ((ad 7), .inr (1, [.ref (ad 8), .int (nI (h_nx nx)), .int (nI (h_sz sn))])), ((ad 8), .inl (cG, 6, .inr (.inr (.inr (.inr (fun i => ([(ad 9), (ad 10), (ad 11), (ad 12), (ad 13), (ad 14)] : List Nat)[i]?)))))), ((ad 9), .inl (cI, 86, .inl (va_up R nx (va_cpy f (R nx) 0 0 86) 0))), ((ad 10), .inl (cI, 86, .inl (va_up R nx (va_cpy f (R nx) 0 0 86) 1))), ((ad 11), .inl (cI, 86, .inl (va_up R nx (va_cpy f (R nx) 0 0 86) 2))), ((ad 12), .inl (cI, 86, .inl (va_up R nx (va_cpy f (R nx) 0 0 86) 3))), ((ad 13), .inl (cI, 86, .inl (va_up R nx (va_cpy f (R nx) 0 0 86) 4))), ((ad 14), .inl (cI, 86, .inl (va_up R nx (va_cpy f (R nx) 0 0 86) 5))), ((ad 15), .inl (cG, 2, .inr (.inr (.inr (.inr (fun i => ([(ad 16), (ad 17)] : List Nat)[i]?)))))), ((ad 16), .inl (cI, 86, .inl (SL 0))), ((ad 17), .inl (cI, 86, .inl (SL 1))), ((ad 18), .inl (cZ, 2, .inl sv)), ((md 0), .inr (4, [.ref (md 1), .ref (md 2), .ref (md 3), .int (nI (h_sz sn)), .ref (md 4), .ref (md 5), .ref (md 6), .int (nI n), .int (nI sp), .int nu])), ((md 1), .inl (cI, 86, .inl (upd a 3 (a 3 + (xs (i + 1)))))), ((md 2), .inl (cI, 86, .inl kp)), ((md 3), .inl (cI, 516, .inl (m_hs a hs sn))), ((md 4), .inl (cI, 172, .inl sl)), ((md 5), .inl (cI, 2, .inl iv)), ((md 6), .inl (cI, 60, .inl tx))] := hD
    refine lv_icmp_eq (pc := 208) (tgt := 571) hx hb dL_law_208 (by decide) (fun c_1 => ?_) (fun c_1 => ?_)
    · skip
      have c_1 : (b_bc (h_bm (h_goBy f (xs (i + 1))) 6)) = (m_bits (m_bm6 (upd a 3 (a 3 + (xs (i + 1)))) 6) 6) := c_1
      exact kk (h_goBy f (xs (i + 1))) f2 tx n (h_nx nx) (h_sz sn) (va_up R nx (va_cpy f (R nx) 0 0 86)) SL sv (upd a 3 (a 3 + (xs (i + 1)))) kp (m_hs a hs sn) sl iv sp nu (hB.change (by omega) (hR2.mono (by omega)) hn60) _ _ hP hD hS ls hl
    · skip
      have c_1 : ¬ ((b_bc (h_bm (h_goBy f (xs (i + 1))) 6)) = (m_bits (m_bm6 (upd a 3 (a 3 + (xs (i + 1)))) 6) 6)) := c_1
      exact absurd ((e_bits _).trans (by rw [e_bm hR2 6 (Nat.le_refl 6)])) c_1
set_option maxHeartbeats 4000000 in
set_option maxRecDepth 100000 in
theorem law_read {p : Program} {l : Launch} {e : Env} {s : State} {m : MethodId} {below : List Frame} {meth : Method} {c : Code} {D : va_G} {cI cC cZ cG : ClassId} {A : Nat → Prop} {tb lo hi b L : Nat} {xs : Nat → Int32} {ad md : Nat → Nat} {i N : Nat} (C : lw_C p s m meth c D cI cC cZ cG A tb lo hi b L xs) (hi3 : i + 3 ≤ L) (hL : L ≤ 1536) (hN : N + 60 ≤ 1000000) (kk : lw_KK p l e s m below meth c D cI cC cZ cG A b ad md i (N + 60) 571) : lw_KK p l e s m below meth c D cI cC cZ cG A b ad md i N 213 := by
  intro f f2 tx n nx sn R SL sv a kp hs sl iv sp nu hB H locs hP hD hS ls hl
  obtain ⟨hx, hb, hml, hown, hts, hXs, hbl, hbA, hA, hK, hX⟩ := C
  have hn60 : n ≤ 60 := hB.2.1
  have hnx : nx < 6 := hB.2.2.1.1
  have hsn : sn ≤ 6 := hB.2.2.1.2
  have hR := hB.1
  have hkc : 600000 + 0 ≤ room_1.cells := Nat.le_refl _
  have hks : 7302250 + 0 ≤ room_1.slots := Nat.le_refl _
  have hl : lv_has ls 4 [(0, .ref b), (1, .ref (ad 0)), (2, .ref (md 0)), (3, .int (nI i))] := hl
  rcases Classical.em (p_ff tx n n 0 0 = -6) with hff | hff
  · skip
    have hfm := (tz_fault (tx := tx) (n := n) nu).trans hff
    have hrd := hB.reads hN (tx := tx) (nu := nu) hff (fun _ _ => rfl) (fun _ _ => rfl)
    refine lv_aload_n (pc := 213) hx hb dL_law_213 rfl (lv_at hl 1 rfl) ?_
    refine b_cW (pc := 214) (w1 := [((ad 0), .inr (3, [.ref (ad 1), .ref (ad 3), .ref (ad 5), .ref (ad 7), .ref (ad 15), .ref (ad 18)])), ((ad 1), .inr (0, [.ref (ad 2)])), ((ad 2), .inl (cI, 86, .inl ((p_hap tx n (n + 1) 0 0 f 0).1))), ((ad 3), .inr (0, [.ref (ad 4)])), ((ad 4), .inl (cI, 86, .inl f2)), ((ad 5), .inr (2, [.ref (ad 6), .int (nI 0)])), ((ad 6), .inl (cC, 60, .inl tx)), ((ad 7), .inr (1, [.ref (ad 8), .int (nI (h_nx nx)), .int (nI (h_sz sn))])), ((ad 8), .inl (cG, 6, .inr (.inr (.inr (.inr (fun i => ([(ad 9), (ad 10), (ad 11), (ad 12), (ad 13), (ad 14)] : List Nat)[i]?)))))), ((ad 9), .inl (cI, 86, .inl (va_up R nx (va_cpy f (R nx) 0 0 86) 0))), ((ad 10), .inl (cI, 86, .inl (va_up R nx (va_cpy f (R nx) 0 0 86) 1))), ((ad 11), .inl (cI, 86, .inl (va_up R nx (va_cpy f (R nx) 0 0 86) 2))), ((ad 12), .inl (cI, 86, .inl (va_up R nx (va_cpy f (R nx) 0 0 86) 3))), ((ad 13), .inl (cI, 86, .inl (va_up R nx (va_cpy f (R nx) 0 0 86) 4))), ((ad 14), .inl (cI, 86, .inl (va_up R nx (va_cpy f (R nx) 0 0 86) 5))), ((ad 15), .inl (cG, 2, .inr (.inr (.inr (.inr (fun i => ([(ad 16), (ad 17)] : List Nat)[i]?)))))), ((ad 16), .inl (cI, 86, .inl (SL 0))), ((ad 17), .inl (cI, 86, .inl (SL 1))), ((ad 18), .inl (cZ, 2, .inl sv))]) (va_runV (As := []) (rest := []) ⟨hx, hb, hml, hown, hts⟩ (c_X3_read_ok l D cI cC cZ cG tb lo hi H.size ad f f2 tx n nx sn R SL sv (by first | omega | assumption) (by first | omega | assumption) (by first | omega | assumption) (by first | omega | assumption)) (cwV 0 hts gL_law_X3_read rfl rfl rfl hy_X3_read ⟨Nat.le_of_ble_eq_true rfl, Nat.le_of_ble_eq_true rfl⟩) (b_pWV (wc := [((ad 0), .inr (3, [.ref (ad 1), .ref (ad 3), .ref (ad 5), .ref (ad 7), .ref (ad 15), .ref (ad 18)])), ((ad 1), .inr (0, [.ref (ad 2)])), ((ad 2), .inl (cI, 86, .inl f)), ((ad 3), .inr (0, [.ref (ad 4)])), ((ad 4), .inl (cI, 86, .inl f2)), ((ad 5), .inr (2, [.ref (ad 6), .int (nI n)])), ((ad 6), .inl (cC, 60, .inl tx)), ((ad 7), .inr (1, [.ref (ad 8), .int (nI nx), .int (nI sn)])), ((ad 8), .inl (cG, 6, .inr (.inr (.inr (.inr (fun i => ([(ad 9), (ad 10), (ad 11), (ad 12), (ad 13), (ad 14)] : List Nat)[i]?)))))), ((ad 9), .inl (cI, 86, .inl (R 0))), ((ad 10), .inl (cI, 86, .inl (R 1))), ((ad 11), .inl (cI, 86, .inl (R 2))), ((ad 12), .inl (cI, 86, .inl (R 3))), ((ad 13), .inl (cI, 86, .inl (R 4))), ((ad 14), .inl (cI, 86, .inl (R 5))), ((ad 15), .inl (cG, 2, .inr (.inr (.inr (.inr (fun i => ([(ad 16), (ad 17)] : List Nat)[i]?)))))), ((ad 16), .inl (cI, 86, .inl (SL 0))), ((ad 17), .inl (cI, 86, .inl (SL 1))), ((ad 18), .inl (cZ, 2, .inl sv))]) hK hP hD (b_Xok_X tb lo hi) [0, 1, 2, 3, 4, 5, 6, 7, 8, 9, 10, 11, 12, 13, 14, 15, 16, 17, 18] rfl (by decide) rfl (b_Xc hX hD hS hA [0, 1, 2, 3, 4, 5, 6, 7, 8, 9, 10, 11, 12, 13, 14, 15, 16, 17, 18] rfl) (ci := 3) (q0 := 0) rfl rfl) rfl rfl hl.1 rfl (lv_room (Nat.le_of_ble_eq_true rfl)) dL_law_214 ⟨hkc, hks⟩) hP hD hS hA [0, 1, 2, 3, 4, 5, 6, 7, 8, 9, 10, 11, 12, 13, 14, 15, 16, 17, 18] rfl rfl (fun H locs hP hD hS => ?_)
    have hP : va_P D vwCl [((ad 0), .inr (3, [.ref (ad 1), .ref (ad 3), .ref (ad 5), .ref (ad 7), .ref (ad 15), .ref (ad 18)])), ((ad 1), .inr (0, [.ref (ad 2)])), ((ad 2), .inl (cI, 86, .inl ((p_hap tx n (n + 1) 0 0 f 0).1))), ((ad 3), .inr (0, [.ref (ad 4)])), ((ad 4), .inl (cI, 86, .inl f2)), ((ad 5), .inr (2, [.ref (ad 6), .int (nI 0)])), ((ad 6), .inl (cC, 60, .inl tx)), ((ad 7), .inr (1, [.ref (ad 8), .int (nI (h_nx nx)), .int (nI (h_sz sn))])), ((ad 8), .inl (cG, 6, .inr (.inr (.inr (.inr (fun i => ([(ad 9), (ad 10), (ad 11), (ad 12), (ad 13), (ad 14)] : List Nat)[i]?)))))), ((ad 9), .inl (cI, 86, .inl (va_up R nx (va_cpy f (R nx) 0 0 86) 0))), ((ad 10), .inl (cI, 86, .inl (va_up R nx (va_cpy f (R nx) 0 0 86) 1))), ((ad 11), .inl (cI, 86, .inl (va_up R nx (va_cpy f (R nx) 0 0 86) 2))), ((ad 12), .inl (cI, 86, .inl (va_up R nx (va_cpy f (R nx) 0 0 86) 3))), ((ad 13), .inl (cI, 86, .inl (va_up R nx (va_cpy f (R nx) 0 0 86) 4))), ((ad 14), .inl (cI, 86, .inl (va_up R nx (va_cpy f (R nx) 0 0 86) 5))), ((ad 15), .inl (cG, 2, .inr (.inr (.inr (.inr (fun i => ([(ad 16), (ad 17)] : List Nat)[i]?)))))), ((ad 16), .inl (cI, 86, .inl (SL 0))), ((ad 17), .inl (cI, 86, .inl (SL 1))), ((ad 18), .inl (cZ, 2, .inl sv)), ((md 0), .inr (4, [.ref (md 1), .ref (md 2), .ref (md 3), .int (nI sn), .ref (md 4), .ref (md 5), .ref (md 6), .int (nI n), .int (nI sp), .int nu])), ((md 1), .inl (cI, 86, .inl a)), ((md 2), .inl (cI, 86, .inl kp)), ((md 3), .inl (cI, 516, .inl hs)), ((md 4), .inl (cI, 172, .inl sl)), ((md 5), .inl (cI, 2, .inl iv)), ((md 6), .inl (cI, 60, .inl tx))] H := hP
    have hD : va_D A [((ad 0), .inr (3, [.ref (ad 1), .ref (ad 3), .ref (ad 5), .ref (ad 7), .ref (ad 15), .ref (ad 18)])), ((ad 1), .inr (0, [.ref (ad 2)])), ((ad 2), .inl (cI, 86, .inl ((p_hap tx n (n + 1) 0 0 f 0).1))), ((ad 3), .inr (0, [.ref (ad 4)])), ((ad 4), .inl (cI, 86, .inl f2)), ((ad 5), .inr (2, [.ref (ad 6), .int (nI 0)])), ((ad 6), .inl (cC, 60, .inl tx)), ((ad 7), .inr (1, [.ref (ad 8), .int (nI (h_nx nx)), .int (nI (h_sz sn))])), ((ad 8), .inl (cG, 6, .inr (.inr (.inr (.inr (fun i => ([(ad 9), (ad 10), (ad 11), (ad 12), (ad 13), (ad 14)] : List Nat)[i]?)))))), ((ad 9), .inl (cI, 86, .inl (va_up R nx (va_cpy f (R nx) 0 0 86) 0))), ((ad 10), .inl (cI, 86, .inl (va_up R nx (va_cpy f (R nx) 0 0 86) 1))), ((ad 11), .inl (cI, 86, .inl (va_up R nx (va_cpy f (R nx) 0 0 86) 2))), ((ad 12), .inl (cI, 86, .inl (va_up R nx (va_cpy f (R nx) 0 0 86) 3))), ((ad 13), .inl (cI, 86, .inl (va_up R nx (va_cpy f (R nx) 0 0 86) 4))), ((ad 14), .inl (cI, 86, .inl (va_up R nx (va_cpy f (R nx) 0 0 86) 5))), ((ad 15), .inl (cG, 2, .inr (.inr (.inr (.inr (fun i => ([(ad 16), (ad 17)] : List Nat)[i]?)))))), ((ad 16), .inl (cI, 86, .inl (SL 0))), ((ad 17), .inl (cI, 86, .inl (SL 1))), ((ad 18), .inl (cZ, 2, .inl sv)), ((md 0), .inr (4, [.ref (md 1), .ref (md 2), .ref (md 3), .int (nI sn), .ref (md 4), .ref (md 5), .ref (md 6), .int (nI n), .int (nI sp), .int nu])), ((md 1), .inl (cI, 86, .inl a)), ((md 2), .inl (cI, 86, .inl kp)), ((md 3), .inl (cI, 516, .inl hs)), ((md 4), .inl (cI, 172, .inl sl)), ((md 5), .inl (cI, 2, .inl iv)), ((md 6), .inl (cI, 60, .inl tx))] := hD
    refine lv_aload_n (pc := 217) hx hb dL_law_217 rfl (lv_at hl 2 rfl) ?_
    refine b_cW (pc := 218) (w1 := [((md 0), .inr (4, [.ref (md 1), .ref (md 2), .ref (md 3), .int (nI (h_sz sn)), .ref (md 4), .ref (md 5), .ref (md 6), .int (nI 0), .int (nI ((m_rdx tx n nu a).2.2.1)), .int ((m_rdx tx n nu a).2.2.2)])), ((md 1), .inl (cI, 86, .inl ((m_rdx tx n nu a).1))), ((md 2), .inl (cI, 86, .inl kp)), ((md 3), .inl (cI, 516, .inl (m_hs a hs sn))), ((md 4), .inl (cI, 172, .inl sl)), ((md 5), .inl (cI, 2, .inl iv)), ((md 6), .inl (cI, 60, .inl tx))]) (va_runV (As := []) (rest := [.int ((p_hap tx n (n + 1) 0 0 f 0).2)]) ⟨hx, hb, hml, hown, hts⟩ (c_X4_read_ok l D cI cC cZ cG H.size md a kp hs sn sl iv tx n sp nu (by first | omega | assumption) (by first | omega | assumption) (by first | omega | assumption)) (cwV 0 hts gL_law_X4_read rfl rfl rfl hy_X4_read ⟨Nat.le_of_ble_eq_true rfl, Nat.le_of_ble_eq_true rfl⟩) (b_pWV (wc := [((md 0), .inr (4, [.ref (md 1), .ref (md 2), .ref (md 3), .int (nI sn), .ref (md 4), .ref (md 5), .ref (md 6), .int (nI n), .int (nI sp), .int nu])), ((md 1), .inl (cI, 86, .inl a)), ((md 2), .inl (cI, 86, .inl kp)), ((md 3), .inl (cI, 516, .inl hs)), ((md 4), .inl (cI, 172, .inl sl)), ((md 5), .inl (cI, 2, .inl iv)), ((md 6), .inl (cI, 60, .inl tx))]) hK hP hD b_Xok_0 [19, 20, 21, 22, 23, 24, 25] rfl (by decide) rfl trivial (ci := 4) (q0 := 0) rfl rfl) rfl rfl hl.1 rfl (lv_room (Nat.le_of_ble_eq_true rfl)) dL_law_218 ⟨hkc, hks⟩) hP hD hS hA [19, 20, 21, 22, 23, 24, 25] rfl rfl (fun H locs hP hD hS => ?_)
    have hP : va_P D vwCl [((ad 0), .inr (3, [.ref (ad 1), .ref (ad 3), .ref (ad 5), .ref (ad 7), .ref (ad 15), .ref (ad 18)])), ((ad 1), .inr (0, [.ref (ad 2)])), ((ad 2), .inl (cI, 86, .inl ((p_hap tx n (n + 1) 0 0 f 0).1))), ((ad 3), .inr (0, [.ref (ad 4)])), ((ad 4), .inl (cI, 86, .inl f2)), ((ad 5), .inr (2, [.ref (ad 6), .int (nI 0)])), ((ad 6), .inl (cC, 60, .inl tx)), ((ad 7), .inr (1, [.ref (ad 8), .int (nI (h_nx nx)), .int (nI (h_sz sn))])), ((ad 8), .inl (cG, 6, .inr (.inr (.inr (.inr (fun i => ([(ad 9), (ad 10), (ad 11), (ad 12), (ad 13), (ad 14)] : List Nat)[i]?)))))), ((ad 9), .inl (cI, 86, .inl (va_up R nx (va_cpy f (R nx) 0 0 86) 0))), ((ad 10), .inl (cI, 86, .inl (va_up R nx (va_cpy f (R nx) 0 0 86) 1))), ((ad 11), .inl (cI, 86, .inl (va_up R nx (va_cpy f (R nx) 0 0 86) 2))), ((ad 12), .inl (cI, 86, .inl (va_up R nx (va_cpy f (R nx) 0 0 86) 3))), ((ad 13), .inl (cI, 86, .inl (va_up R nx (va_cpy f (R nx) 0 0 86) 4))), ((ad 14), .inl (cI, 86, .inl (va_up R nx (va_cpy f (R nx) 0 0 86) 5))), ((ad 15), .inl (cG, 2, .inr (.inr (.inr (.inr (fun i => ([(ad 16), (ad 17)] : List Nat)[i]?)))))), ((ad 16), .inl (cI, 86, .inl (SL 0))), ((ad 17), .inl (cI, 86, .inl (SL 1))), ((ad 18), .inl (cZ, 2, .inl sv)), ((md 0), .inr (4, [.ref (md 1), .ref (md 2), .ref (md 3), .int (nI (h_sz sn)), .ref (md 4), .ref (md 5), .ref (md 6), .int (nI 0), .int (nI ((m_rdx tx n nu a).2.2.1)), .int ((m_rdx tx n nu a).2.2.2)])), ((md 1), .inl (cI, 86, .inl ((m_rdx tx n nu a).1))), ((md 2), .inl (cI, 86, .inl kp)), ((md 3), .inl (cI, 516, .inl (m_hs a hs sn))), ((md 4), .inl (cI, 172, .inl sl)), ((md 5), .inl (cI, 2, .inl iv)), ((md 6), .inl (cI, 60, .inl tx))] H := hP
    have hD : va_D A [((ad 0), .inr (3, [.ref (ad 1), .ref (ad 3), .ref (ad 5), .ref (ad 7), .ref (ad 15), .ref (ad 18)])), ((ad 1), .inr (0, [.ref (ad 2)])), ((ad 2), .inl (cI, 86, .inl ((p_hap tx n (n + 1) 0 0 f 0).1))), ((ad 3), .inr (0, [.ref (ad 4)])), ((ad 4), .inl (cI, 86, .inl f2)), ((ad 5), .inr (2, [.ref (ad 6), .int (nI 0)])), ((ad 6), .inl (cC, 60, .inl tx)), ((ad 7), .inr (1, [.ref (ad 8), .int (nI (h_nx nx)), .int (nI (h_sz sn))])), ((ad 8), .inl (cG, 6, .inr (.inr (.inr (.inr (fun i => ([(ad 9), (ad 10), (ad 11), (ad 12), (ad 13), (ad 14)] : List Nat)[i]?)))))), ((ad 9), .inl (cI, 86, .inl (va_up R nx (va_cpy f (R nx) 0 0 86) 0))), ((ad 10), .inl (cI, 86, .inl (va_up R nx (va_cpy f (R nx) 0 0 86) 1))), ((ad 11), .inl (cI, 86, .inl (va_up R nx (va_cpy f (R nx) 0 0 86) 2))), ((ad 12), .inl (cI, 86, .inl (va_up R nx (va_cpy f (R nx) 0 0 86) 3))), ((ad 13), .inl (cI, 86, .inl (va_up R nx (va_cpy f (R nx) 0 0 86) 4))), ((ad 14), .inl (cI, 86, .inl (va_up R nx (va_cpy f (R nx) 0 0 86) 5))), ((ad 15), .inl (cG, 2, .inr (.inr (.inr (.inr (fun i => ([(ad 16), (ad 17)] : List Nat)[i]?)))))), ((ad 16), .inl (cI, 86, .inl (SL 0))), ((ad 17), .inl (cI, 86, .inl (SL 1))), ((ad 18), .inl (cZ, 2, .inl sv)), ((md 0), .inr (4, [.ref (md 1), .ref (md 2), .ref (md 3), .int (nI (h_sz sn)), .ref (md 4), .ref (md 5), .ref (md 6), .int (nI 0), .int (nI ((m_rdx tx n nu a).2.2.1)), .int ((m_rdx tx n nu a).2.2.2)])), ((md 1), .inl (cI, 86, .inl ((m_rdx tx n nu a).1))), ((md 2), .inl (cI, 86, .inl kp)), ((md 3), .inl (cI, 516, .inl (m_hs a hs sn))), ((md 4), .inl (cI, 172, .inl sl)), ((md 5), .inl (cI, 2, .inl iv)), ((md 6), .inl (cI, 60, .inl tx))] := hD
    refine lv_icmp_eq (pc := 221) (tgt := 571) hx hb dL_law_221 (by decide) (fun c_1 => ?_) (fun c_1 => ?_)
    · skip
      have c_1 : ((p_hap tx n (n + 1) 0 0 f 0).2) = ((m_rdx tx n nu a).2.1) := c_1
      exact kk ((p_hap tx n (n + 1) 0 0 f 0).1) f2 tx 0 (h_nx nx) (h_sz sn) (va_up R nx (va_cpy f (R nx) 0 0 86)) SL sv ((m_rdx tx n nu a).1) kp (m_hs a hs sn) sl iv ((m_rdx tx n nu a).2.2.1) ((m_rdx tx n nu a).2.2.2) (hB.change (by omega) hrd.2 (Nat.zero_le _)) _ _ hP hD hS ls hl
    · skip
      have c_1 : ¬ (((p_hap tx n (n + 1) 0 0 f 0).2) = ((m_rdx tx n nu a).2.1)) := c_1
      exact absurd hrd.1 c_1
  · skip
    have hfm : ¬ (m_ftl tx n (n + 1) 0 nu).1 = -6 := fun z => hff ((tz_fault nu).symm.trans z)
    refine lv_aload_n (pc := 213) hx hb dL_law_213 rfl (lv_at hl 1 rfl) ?_
    refine b_cR (pc := 214) (va_runV (As := []) (rest := []) ⟨hx, hb, hml, hown, hts⟩ (c_X3_read_bad l D cI cC cZ cG ad f f2 tx n nx sn R SL sv (by first | omega | assumption) (by first | omega | assumption) (by first | omega | assumption) (by first | omega | assumption)) (cwV 0 hts gL_law_X3_read rfl rfl rfl hy_X3_read ⟨Nat.le_of_ble_eq_true rfl, Nat.le_of_ble_eq_true rfl⟩) (b_pRV (wc := [((ad 0), .inr (3, [.ref (ad 1), .ref (ad 3), .ref (ad 5), .ref (ad 7), .ref (ad 15), .ref (ad 18)])), ((ad 1), .inr (0, [.ref (ad 2)])), ((ad 2), .inl (cI, 86, .inl f)), ((ad 3), .inr (0, [.ref (ad 4)])), ((ad 4), .inl (cI, 86, .inl f2)), ((ad 5), .inr (2, [.ref (ad 6), .int (nI n)])), ((ad 6), .inl (cC, 60, .inl tx)), ((ad 7), .inr (1, [.ref (ad 8), .int (nI nx), .int (nI sn)])), ((ad 8), .inl (cG, 6, .inr (.inr (.inr (.inr (fun i => ([(ad 9), (ad 10), (ad 11), (ad 12), (ad 13), (ad 14)] : List Nat)[i]?)))))), ((ad 9), .inl (cI, 86, .inl (R 0))), ((ad 10), .inl (cI, 86, .inl (R 1))), ((ad 11), .inl (cI, 86, .inl (R 2))), ((ad 12), .inl (cI, 86, .inl (R 3))), ((ad 13), .inl (cI, 86, .inl (R 4))), ((ad 14), .inl (cI, 86, .inl (R 5))), ((ad 15), .inl (cG, 2, .inr (.inr (.inr (.inr (fun i => ([(ad 16), (ad 17)] : List Nat)[i]?)))))), ((ad 16), .inl (cI, 86, .inl (SL 0))), ((ad 17), .inl (cI, 86, .inl (SL 1))), ((ad 18), .inl (cZ, 2, .inl sv))]) hK hP [0, 1, 2, 3, 4, 5, 6, 7, 8, 9, 10, 11, 12, 13, 14, 15, 16, 17, 18] rfl (ci := 3) (q0 := 0) rfl rfl) rfl rfl hl.1 rfl (lv_room (Nat.le_of_ble_eq_true rfl)) dL_law_214 ⟨hkc, hks⟩) ?_
    refine lv_aload_n (pc := 217) hx hb dL_law_217 rfl (lv_at hl 2 rfl) ?_
    refine b_cW (pc := 218) (w1 := [((md 0), .inr (4, [.ref (md 1), .ref (md 2), .ref (md 3), .int (nI sn), .ref (md 4), .ref (md 5), .ref (md 6), .int (nI n), .int (nI ((m_ftl tx n (n + 1) 0 nu).2.1)), .int ((m_ftl tx n (n + 1) 0 nu).2.2)])), ((md 1), .inl (cI, 86, .inl a)), ((md 2), .inl (cI, 86, .inl kp)), ((md 3), .inl (cI, 516, .inl hs)), ((md 4), .inl (cI, 172, .inl sl)), ((md 5), .inl (cI, 2, .inl iv)), ((md 6), .inl (cI, 60, .inl tx))]) (va_runV (As := []) (rest := [.int (-3)]) ⟨hx, hb, hml, hown, hts⟩ (c_X4_read_bad l D cI cC cZ cG H.size md a kp hs sn sl iv tx n sp nu (by first | omega | assumption) (by first | omega | assumption)) (cwV 0 hts gL_law_X4_read rfl rfl rfl hy_X4_read ⟨Nat.le_of_ble_eq_true rfl, Nat.le_of_ble_eq_true rfl⟩) (b_pWV (wc := [((md 0), .inr (4, [.ref (md 1), .ref (md 2), .ref (md 3), .int (nI sn), .ref (md 4), .ref (md 5), .ref (md 6), .int (nI n), .int (nI sp), .int nu])), ((md 1), .inl (cI, 86, .inl a)), ((md 2), .inl (cI, 86, .inl kp)), ((md 3), .inl (cI, 516, .inl hs)), ((md 4), .inl (cI, 172, .inl sl)), ((md 5), .inl (cI, 2, .inl iv)), ((md 6), .inl (cI, 60, .inl tx))]) hK hP hD b_Xok_0 [19, 20, 21, 22, 23, 24, 25] rfl (by decide) rfl trivial (ci := 4) (q0 := 0) rfl rfl) rfl rfl hl.1 rfl (lv_room (Nat.le_of_ble_eq_true rfl)) dL_law_218 ⟨hkc, hks⟩) hP hD hS hA [19, 20, 21, 22, 23, 24, 25] rfl rfl (fun H locs hP hD hS => ?_)
    have hP : va_P D vwCl [((ad 0), .inr (3, [.ref (ad 1), .ref (ad 3), .ref (ad 5), .ref (ad 7), .ref (ad 15), .ref (ad 18)])), ((ad 1), .inr (0, [.ref (ad 2)])), ((ad 2), .inl (cI, 86, .inl f)), ((ad 3), .inr (0, [.ref (ad 4)])), ((ad 4), .inl (cI, 86, .inl f2)), ((ad 5), .inr (2, [.ref (ad 6), .int (nI n)])), ((ad 6), .inl (cC, 60, .inl tx)), ((ad 7), .inr (1, [.ref (ad 8), .int (nI nx), .int (nI sn)])), ((ad 8), .inl (cG, 6, .inr (.inr (.inr (.inr (fun i => ([(ad 9), (ad 10), (ad 11), (ad 12), (ad 13), (ad 14)] : List Nat)[i]?)))))), ((ad 9), .inl (cI, 86, .inl (R 0))), ((ad 10), .inl (cI, 86, .inl (R 1))), ((ad 11), .inl (cI, 86, .inl (R 2))), ((ad 12), .inl (cI, 86, .inl (R 3))), ((ad 13), .inl (cI, 86, .inl (R 4))), ((ad 14), .inl (cI, 86, .inl (R 5))), ((ad 15), .inl (cG, 2, .inr (.inr (.inr (.inr (fun i => ([(ad 16), (ad 17)] : List Nat)[i]?)))))), ((ad 16), .inl (cI, 86, .inl (SL 0))), ((ad 17), .inl (cI, 86, .inl (SL 1))), ((ad 18), .inl (cZ, 2, .inl sv)), ((md 0), .inr (4, [.ref (md 1), .ref (md 2), .ref (md 3), .int (nI sn), .ref (md 4), .ref (md 5), .ref (md 6), .int (nI n), .int (nI ((m_ftl tx n (n + 1) 0 nu).2.1)), .int ((m_ftl tx n (n + 1) 0 nu).2.2)])), ((md 1), .inl (cI, 86, .inl a)), ((md 2), .inl (cI, 86, .inl kp)), ((md 3), .inl (cI, 516, .inl hs)), ((md 4), .inl (cI, 172, .inl sl)), ((md 5), .inl (cI, 2, .inl iv)), ((md 6), .inl (cI, 60, .inl tx))] H := hP
    have hD : va_D A [((ad 0), .inr (3, [.ref (ad 1), .ref (ad 3), .ref (ad 5), .ref (ad 7), .ref (ad 15), .ref (ad 18)])), ((ad 1), .inr (0, [.ref (ad 2)])), ((ad 2), .inl (cI, 86, .inl f)), ((ad 3), .inr (0, [.ref (ad 4)])), ((ad 4), .inl (cI, 86, .inl f2)), ((ad 5), .inr (2, [.ref (ad 6), .int (nI n)])), ((ad 6), .inl (cC, 60, .inl tx)), ((ad 7), .inr (1, [.ref (ad 8), .int (nI nx), .int (nI sn)])), ((ad 8), .inl (cG, 6, .inr (.inr (.inr (.inr (fun i => ([(ad 9), (ad 10), (ad 11), (ad 12), (ad 13), (ad 14)] : List Nat)[i]?)))))), ((ad 9), .inl (cI, 86, .inl (R 0))), ((ad 10), .inl (cI, 86, .inl (R 1))), ((ad 11), .inl (cI, 86, .inl (R 2))), ((ad 12), .inl (cI, 86, .inl (R 3))), ((ad 13), .inl (cI, 86, .inl (R 4))), ((ad 14), .inl (cI, 86, .inl (R 5))), ((ad 15), .inl (cG, 2, .inr (.inr (.inr (.inr (fun i => ([(ad 16), (ad 17)] : List Nat)[i]?)))))), ((ad 16), .inl (cI, 86, .inl (SL 0))), ((ad 17), .inl (cI, 86, .inl (SL 1))), ((ad 18), .inl (cZ, 2, .inl sv)), ((md 0), .inr (4, [.ref (md 1), .ref (md 2), .ref (md 3), .int (nI sn), .ref (md 4), .ref (md 5), .ref (md 6), .int (nI n), .int (nI ((m_ftl tx n (n + 1) 0 nu).2.1)), .int ((m_ftl tx n (n + 1) 0 nu).2.2)])), ((md 1), .inl (cI, 86, .inl a)), ((md 2), .inl (cI, 86, .inl kp)), ((md 3), .inl (cI, 516, .inl hs)), ((md 4), .inl (cI, 172, .inl sl)), ((md 5), .inl (cI, 2, .inl iv)), ((md 6), .inl (cI, 60, .inl tx))] := hD
    refine lv_icmp_eq (pc := 221) (tgt := 571) hx hb dL_law_221 (by decide) (fun c_1 => ?_) (fun c_1 => ?_)
    · skip
      exact kk f f2 tx n nx sn R SL sv a kp hs sl iv ((m_ftl tx n (n + 1) 0 nu).2.1) ((m_ftl tx n (n + 1) 0 nu).2.2) (hB.mono (by omega)) _ _ hP hD hS ls hl
    · skip
      exact absurd c_1 (by decide)
set_option maxHeartbeats 4000000 in
set_option maxRecDepth 100000 in
theorem law_correct {p : Program} {l : Launch} {e : Env} {s : State} {m : MethodId} {below : List Frame} {meth : Method} {c : Code} {D : va_G} {cI cC cZ cG : ClassId} {A : Nat → Prop} {tb lo hi b L : Nat} {xs : Nat → Int32} {ad md : Nat → Nat} {i N : Nat} (C : lw_C p s m meth c D cI cC cZ cG A tb lo hi b L xs) (hi3 : i + 3 ≤ L) (hL : L ≤ 1536) (hN : N + 60 ≤ 1000000) (kk : lw_KK p l e s m below meth c D cI cC cZ cG A b ad md i (N + 60) 571) : lw_KK p l e s m below meth c D cI cC cZ cG A b ad md i N 226 := by
  intro f f2 tx n nx sn R SL sv a kp hs sl iv sp nu hB H locs hP hD hS ls hl
  obtain ⟨hx, hb, hml, hown, hts, hXs, hbl, hbA, hA, hK, hX⟩ := C
  have hn60 : n ≤ 60 := hB.2.1
  have hnx : nx < 6 := hB.2.2.1.1
  have hsn : sn ≤ 6 := hB.2.2.1.2
  have hR := hB.1
  have hkc : 600000 + 0 ≤ room_1.cells := Nat.le_refl _
  have hks : 7302250 + 0 ≤ room_1.slots := Nat.le_refl _
  have hl : lv_has ls 4 [(0, .ref b), (1, .ref (ad 0)), (2, .ref (md 0)), (3, .int (nI i))] := hl
  rcases cs_cor (xs (i + 1)) with hbad | ⟨h1, h2⟩
  · skip
    refine lv_aload_n (pc := 226) hx hb dL_law_226 rfl (lv_at hl 1 rfl) ?_
    refine lv_aload_n (pc := 227) hx hb dL_law_227 rfl (lv_at hl 0 rfl) ?_
    refine lv_iload_n (pc := 228) hx hb dL_law_228 rfl (lv_at hl 3 rfl) ?_
    refine lv_iconst (pc := 229) (v := 1) hx hb dL_law_229 (by decide) ?_
    refine lv_iadd (pc := 230) hx hb dL_law_230 ?_
    refine b_re (nI_add i 1) ?_
    refine b_sld (pc := 231) hx hb hXs hbl hbA hS (i + 1) (by omega) (by omega) dL_law_231 ?_
    refine b_cR (pc := 232) (va_runV (As := [.int (xs (i + 1))]) (rest := []) ⟨hx, hb, hml, hown, hts⟩ (c_X3_correct_bad l D cI cC cZ cG ad f f2 tx n nx sn R SL sv (xs (i + 1)) (by first | omega | assumption) (by first | omega | assumption) (by first | omega | assumption) (by first | omega | assumption)) (cwV 1 hts gL_law_X3_correct rfl rfl rfl hy_X3_correct ⟨Nat.le_of_ble_eq_true rfl, Nat.le_of_ble_eq_true rfl⟩) (b_pRV (wc := [((ad 0), .inr (3, [.ref (ad 1), .ref (ad 3), .ref (ad 5), .ref (ad 7), .ref (ad 15), .ref (ad 18)])), ((ad 1), .inr (0, [.ref (ad 2)])), ((ad 2), .inl (cI, 86, .inl f)), ((ad 3), .inr (0, [.ref (ad 4)])), ((ad 4), .inl (cI, 86, .inl f2)), ((ad 5), .inr (2, [.ref (ad 6), .int (nI n)])), ((ad 6), .inl (cC, 60, .inl tx)), ((ad 7), .inr (1, [.ref (ad 8), .int (nI nx), .int (nI sn)])), ((ad 8), .inl (cG, 6, .inr (.inr (.inr (.inr (fun i => ([(ad 9), (ad 10), (ad 11), (ad 12), (ad 13), (ad 14)] : List Nat)[i]?)))))), ((ad 9), .inl (cI, 86, .inl (R 0))), ((ad 10), .inl (cI, 86, .inl (R 1))), ((ad 11), .inl (cI, 86, .inl (R 2))), ((ad 12), .inl (cI, 86, .inl (R 3))), ((ad 13), .inl (cI, 86, .inl (R 4))), ((ad 14), .inl (cI, 86, .inl (R 5))), ((ad 15), .inl (cG, 2, .inr (.inr (.inr (.inr (fun i => ([(ad 16), (ad 17)] : List Nat)[i]?)))))), ((ad 16), .inl (cI, 86, .inl (SL 0))), ((ad 17), .inl (cI, 86, .inl (SL 1))), ((ad 18), .inl (cZ, 2, .inl sv))]) hK hP [0, 1, 2, 3, 4, 5, 6, 7, 8, 9, 10, 11, 12, 13, 14, 15, 16, 17, 18] rfl (ci := 3) (q0 := 0) rfl rfl) rfl rfl hl.1 rfl (lv_room (Nat.le_of_ble_eq_true rfl)) dL_law_232 ⟨hkc, hks⟩) ?_
    refine lv_aload_n (pc := 235) hx hb dL_law_235 rfl (lv_at hl 2 rfl) ?_
    refine lv_aload_n (pc := 236) hx hb dL_law_236 rfl (lv_at hl 0 rfl) ?_
    refine lv_iload_n (pc := 237) hx hb dL_law_237 rfl (lv_at hl 3 rfl) ?_
    refine lv_iconst (pc := 238) (v := 1) hx hb dL_law_238 (by decide) ?_
    refine lv_iadd (pc := 239) hx hb dL_law_239 ?_
    refine b_re (nI_add i 1) ?_
    refine b_sld (pc := 240) hx hb hXs hbl hbA hS (i + 1) (by omega) (by omega) dL_law_240 ?_
    refine b_cR (pc := 241) (va_runV (As := [.int (xs (i + 1))]) (rest := [.int (-2)]) ⟨hx, hb, hml, hown, hts⟩ (c_X4_correct_bad l D cI cC cZ cG md a kp hs sn sl iv tx n sp nu (xs (i + 1)) (by first | omega | assumption)) (cwV 1 hts gL_law_X4_correct rfl rfl rfl hy_X4_correct ⟨Nat.le_of_ble_eq_true rfl, Nat.le_of_ble_eq_true rfl⟩) (b_pRV (wc := [((md 0), .inr (4, [.ref (md 1), .ref (md 2), .ref (md 3), .int (nI sn), .ref (md 4), .ref (md 5), .ref (md 6), .int (nI n), .int (nI sp), .int nu])), ((md 1), .inl (cI, 86, .inl a)), ((md 2), .inl (cI, 86, .inl kp)), ((md 3), .inl (cI, 516, .inl hs)), ((md 4), .inl (cI, 172, .inl sl)), ((md 5), .inl (cI, 2, .inl iv)), ((md 6), .inl (cI, 60, .inl tx))]) hK hP [19, 20, 21, 22, 23, 24, 25] rfl (ci := 4) (q0 := 0) rfl rfl) rfl rfl hl.1 rfl (lv_room (Nat.le_of_ble_eq_true rfl)) dL_law_241 ⟨hkc, hks⟩) ?_
    refine lv_icmp_eq (pc := 244) (tgt := 571) hx hb dL_law_244 (by decide) (fun c_1 => ?_) (fun c_1 => ?_)
    · skip
      exact kk f f2 tx n nx sn R SL sv a kp hs sl iv sp nu (hB.mono (by omega)) _ _ hP hD hS ls hl
    · skip
      exact absurd c_1 (by decide)
  · skip
    refine lv_aload_n (pc := 226) hx hb dL_law_226 rfl (lv_at hl 1 rfl) ?_
    refine lv_aload_n (pc := 227) hx hb dL_law_227 rfl (lv_at hl 0 rfl) ?_
    refine lv_iload_n (pc := 228) hx hb dL_law_228 rfl (lv_at hl 3 rfl) ?_
    refine lv_iconst (pc := 229) (v := 1) hx hb dL_law_229 (by decide) ?_
    refine lv_iadd (pc := 230) hx hb dL_law_230 ?_
    refine b_re (nI_add i 1) ?_
    refine b_sld (pc := 231) hx hb hXs hbl hbA hS (i + 1) (by omega) (by omega) dL_law_231 ?_
    refine b_cW (pc := 232) (w1 := [((ad 0), .inr (3, [.ref (ad 1), .ref (ad 3), .ref (ad 5), .ref (ad 7), .ref (ad 15), .ref (ad 18)])), ((ad 1), .inr (0, [.ref (ad 2)])), ((ad 2), .inl (cI, 86, .inl (h_become f (xs (i + 1))))), ((ad 3), .inr (0, [.ref (ad 4)])), ((ad 4), .inl (cI, 86, .inl f2)), ((ad 5), .inr (2, [.ref (ad 6), .int (nI n)])), ((ad 6), .inl (cC, 60, .inl tx)), ((ad 7), .inr (1, [.ref (ad 8), .int (nI (h_nx nx)), .int (nI (h_sz sn))])), ((ad 8), .inl (cG, 6, .inr (.inr (.inr (.inr (fun i => ([(ad 9), (ad 10), (ad 11), (ad 12), (ad 13), (ad 14)] : List Nat)[i]?)))))), ((ad 9), .inl (cI, 86, .inl (va_up R nx (va_cpy f (R nx) 0 0 86) 0))), ((ad 10), .inl (cI, 86, .inl (va_up R nx (va_cpy f (R nx) 0 0 86) 1))), ((ad 11), .inl (cI, 86, .inl (va_up R nx (va_cpy f (R nx) 0 0 86) 2))), ((ad 12), .inl (cI, 86, .inl (va_up R nx (va_cpy f (R nx) 0 0 86) 3))), ((ad 13), .inl (cI, 86, .inl (va_up R nx (va_cpy f (R nx) 0 0 86) 4))), ((ad 14), .inl (cI, 86, .inl (va_up R nx (va_cpy f (R nx) 0 0 86) 5))), ((ad 15), .inl (cG, 2, .inr (.inr (.inr (.inr (fun i => ([(ad 16), (ad 17)] : List Nat)[i]?)))))), ((ad 16), .inl (cI, 86, .inl (SL 0))), ((ad 17), .inl (cI, 86, .inl (SL 1))), ((ad 18), .inl (cZ, 2, .inl sv))]) (va_runV (As := [.int (xs (i + 1))]) (rest := []) ⟨hx, hb, hml, hown, hts⟩ (c_X3_correct_ok l D cI cC cZ cG tb lo hi H.size ad f f2 tx n nx sn R SL sv (xs (i + 1)) (by first | omega | assumption) (by first | omega | assumption) (by first | omega | assumption) (by first | omega | assumption) (by first | omega | assumption)) (cwV 1 hts gL_law_X3_correct rfl rfl rfl hy_X3_correct ⟨Nat.le_of_ble_eq_true rfl, Nat.le_of_ble_eq_true rfl⟩) (b_pWV (wc := [((ad 0), .inr (3, [.ref (ad 1), .ref (ad 3), .ref (ad 5), .ref (ad 7), .ref (ad 15), .ref (ad 18)])), ((ad 1), .inr (0, [.ref (ad 2)])), ((ad 2), .inl (cI, 86, .inl f)), ((ad 3), .inr (0, [.ref (ad 4)])), ((ad 4), .inl (cI, 86, .inl f2)), ((ad 5), .inr (2, [.ref (ad 6), .int (nI n)])), ((ad 6), .inl (cC, 60, .inl tx)), ((ad 7), .inr (1, [.ref (ad 8), .int (nI nx), .int (nI sn)])), ((ad 8), .inl (cG, 6, .inr (.inr (.inr (.inr (fun i => ([(ad 9), (ad 10), (ad 11), (ad 12), (ad 13), (ad 14)] : List Nat)[i]?)))))), ((ad 9), .inl (cI, 86, .inl (R 0))), ((ad 10), .inl (cI, 86, .inl (R 1))), ((ad 11), .inl (cI, 86, .inl (R 2))), ((ad 12), .inl (cI, 86, .inl (R 3))), ((ad 13), .inl (cI, 86, .inl (R 4))), ((ad 14), .inl (cI, 86, .inl (R 5))), ((ad 15), .inl (cG, 2, .inr (.inr (.inr (.inr (fun i => ([(ad 16), (ad 17)] : List Nat)[i]?)))))), ((ad 16), .inl (cI, 86, .inl (SL 0))), ((ad 17), .inl (cI, 86, .inl (SL 1))), ((ad 18), .inl (cZ, 2, .inl sv))]) hK hP hD (b_Xok_X tb lo hi) [0, 1, 2, 3, 4, 5, 6, 7, 8, 9, 10, 11, 12, 13, 14, 15, 16, 17, 18] rfl (by decide) rfl (b_Xc hX hD hS hA [0, 1, 2, 3, 4, 5, 6, 7, 8, 9, 10, 11, 12, 13, 14, 15, 16, 17, 18] rfl) (ci := 3) (q0 := 0) rfl rfl) rfl rfl hl.1 rfl (lv_room (Nat.le_of_ble_eq_true rfl)) dL_law_232 ⟨hkc, hks⟩) hP hD hS hA [0, 1, 2, 3, 4, 5, 6, 7, 8, 9, 10, 11, 12, 13, 14, 15, 16, 17, 18] rfl rfl (fun H locs hP hD hS => ?_)
    have hP : va_P D vwCl [((ad 0), .inr (3, [.ref (ad 1), .ref (ad 3), .ref (ad 5), .ref (ad 7), .ref (ad 15), .ref (ad 18)])), ((ad 1), .inr (0, [.ref (ad 2)])), ((ad 2), .inl (cI, 86, .inl (h_become f (xs (i + 1))))), ((ad 3), .inr (0, [.ref (ad 4)])), ((ad 4), .inl (cI, 86, .inl f2)), ((ad 5), .inr (2, [.ref (ad 6), .int (nI n)])), ((ad 6), .inl (cC, 60, .inl tx)), ((ad 7), .inr (1, [.ref (ad 8), .int (nI (h_nx nx)), .int (nI (h_sz sn))])), ((ad 8), .inl (cG, 6, .inr (.inr (.inr (.inr (fun i => ([(ad 9), (ad 10), (ad 11), (ad 12), (ad 13), (ad 14)] : List Nat)[i]?)))))), ((ad 9), .inl (cI, 86, .inl (va_up R nx (va_cpy f (R nx) 0 0 86) 0))), ((ad 10), .inl (cI, 86, .inl (va_up R nx (va_cpy f (R nx) 0 0 86) 1))), ((ad 11), .inl (cI, 86, .inl (va_up R nx (va_cpy f (R nx) 0 0 86) 2))), ((ad 12), .inl (cI, 86, .inl (va_up R nx (va_cpy f (R nx) 0 0 86) 3))), ((ad 13), .inl (cI, 86, .inl (va_up R nx (va_cpy f (R nx) 0 0 86) 4))), ((ad 14), .inl (cI, 86, .inl (va_up R nx (va_cpy f (R nx) 0 0 86) 5))), ((ad 15), .inl (cG, 2, .inr (.inr (.inr (.inr (fun i => ([(ad 16), (ad 17)] : List Nat)[i]?)))))), ((ad 16), .inl (cI, 86, .inl (SL 0))), ((ad 17), .inl (cI, 86, .inl (SL 1))), ((ad 18), .inl (cZ, 2, .inl sv)), ((md 0), .inr (4, [.ref (md 1), .ref (md 2), .ref (md 3), .int (nI sn), .ref (md 4), .ref (md 5), .ref (md 6), .int (nI n), .int (nI sp), .int nu])), ((md 1), .inl (cI, 86, .inl a)), ((md 2), .inl (cI, 86, .inl kp)), ((md 3), .inl (cI, 516, .inl hs)), ((md 4), .inl (cI, 172, .inl sl)), ((md 5), .inl (cI, 2, .inl iv)), ((md 6), .inl (cI, 60, .inl tx))] H := hP
    have hD : va_D A [((ad 0), .inr (3, [.ref (ad 1), .ref (ad 3), .ref (ad 5), .ref (ad 7), .ref (ad 15), .ref (ad 18)])), ((ad 1), .inr (0, [.ref (ad 2)])), ((ad 2), .inl (cI, 86, .inl (h_become f (xs (i + 1))))), ((ad 3), .inr (0, [.ref (ad 4)])), ((ad 4), .inl (cI, 86, .inl f2)), ((ad 5), .inr (2, [.ref (ad 6), .int (nI n)])), ((ad 6), .inl (cC, 60, .inl tx)), ((ad 7), .inr (1, [.ref (ad 8), .int (nI (h_nx nx)), .int (nI (h_sz sn))])), ((ad 8), .inl (cG, 6, .inr (.inr (.inr (.inr (fun i => ([(ad 9), (ad 10), (ad 11), (ad 12), (ad 13), (ad 14)] : List Nat)[i]?)))))), ((ad 9), .inl (cI, 86, .inl (va_up R nx (va_cpy f (R nx) 0 0 86) 0))), ((ad 10), .inl (cI, 86, .inl (va_up R nx (va_cpy f (R nx) 0 0 86) 1))), ((ad 11), .inl (cI, 86, .inl (va_up R nx (va_cpy f (R nx) 0 0 86) 2))), ((ad 12), .inl (cI, 86, .inl (va_up R nx (va_cpy f (R nx) 0 0 86) 3))), ((ad 13), .inl (cI, 86, .inl (va_up R nx (va_cpy f (R nx) 0 0 86) 4))), ((ad 14), .inl (cI, 86, .inl (va_up R nx (va_cpy f (R nx) 0 0 86) 5))), ((ad 15), .inl (cG, 2, .inr (.inr (.inr (.inr (fun i => ([(ad 16), (ad 17)] : List Nat)[i]?)))))), ((ad 16), .inl (cI, 86, .inl (SL 0))), ((ad 17), .inl (cI, 86, .inl (SL 1))), ((ad 18), .inl (cZ, 2, .inl sv)), ((md 0), .inr (4, [.ref (md 1), .ref (md 2), .ref (md 3), .int (nI sn), .ref (md 4), .ref (md 5), .ref (md 6), .int (nI n), .int (nI sp), .int nu])), ((md 1), .inl (cI, 86, .inl a)), ((md 2), .inl (cI, 86, .inl kp)), ((md 3), .inl (cI, 516, .inl hs)), ((md 4), .inl (cI, 172, .inl sl)), ((md 5), .inl (cI, 2, .inl iv)), ((md 6), .inl (cI, 60, .inl tx))] := hD
    refine lv_aload_n (pc := 235) hx hb dL_law_235 rfl (lv_at hl 2 rfl) ?_
    refine lv_aload_n (pc := 236) hx hb dL_law_236 rfl (lv_at hl 0 rfl) ?_
    refine lv_iload_n (pc := 237) hx hb dL_law_237 rfl (lv_at hl 3 rfl) ?_
    refine lv_iconst (pc := 238) (v := 1) hx hb dL_law_238 (by decide) ?_
    refine lv_iadd (pc := 239) hx hb dL_law_239 ?_
    refine b_re (nI_add i 1) ?_
    refine b_sld (pc := 240) hx hb hXs hbl hbA hS (i + 1) (by omega) (by omega) dL_law_240 ?_
    refine b_cW (pc := 241) (w1 := [((md 0), .inr (4, [.ref (md 1), .ref (md 2), .ref (md 3), .int (nI (h_sz sn)), .ref (md 4), .ref (md 5), .ref (md 6), .int (nI n), .int (nI sp), .int nu])), ((md 1), .inl (cI, 86, .inl (m_cor a (xs (i + 1))))), ((md 2), .inl (cI, 86, .inl kp)), ((md 3), .inl (cI, 516, .inl (m_hs a hs sn))), ((md 4), .inl (cI, 172, .inl sl)), ((md 5), .inl (cI, 2, .inl iv)), ((md 6), .inl (cI, 60, .inl tx))]) (va_runV (As := [.int (xs (i + 1))]) (rest := [.int (f 4)]) ⟨hx, hb, hml, hown, hts⟩ (c_X4_correct_ok l D cI cC cZ cG H.size md a kp hs sn sl iv tx n sp nu (xs (i + 1)) (by first | omega | assumption) (by first | omega | assumption) (by first | omega | assumption)) (cwV 1 hts gL_law_X4_correct rfl rfl rfl hy_X4_correct ⟨Nat.le_of_ble_eq_true rfl, Nat.le_of_ble_eq_true rfl⟩) (b_pWV (wc := [((md 0), .inr (4, [.ref (md 1), .ref (md 2), .ref (md 3), .int (nI sn), .ref (md 4), .ref (md 5), .ref (md 6), .int (nI n), .int (nI sp), .int nu])), ((md 1), .inl (cI, 86, .inl a)), ((md 2), .inl (cI, 86, .inl kp)), ((md 3), .inl (cI, 516, .inl hs)), ((md 4), .inl (cI, 172, .inl sl)), ((md 5), .inl (cI, 2, .inl iv)), ((md 6), .inl (cI, 60, .inl tx))]) hK hP hD b_Xok_0 [19, 20, 21, 22, 23, 24, 25] rfl (by decide) rfl trivial (ci := 4) (q0 := 0) rfl rfl) rfl rfl hl.1 rfl (lv_room (Nat.le_of_ble_eq_true rfl)) dL_law_241 ⟨hkc, hks⟩) hP hD hS hA [19, 20, 21, 22, 23, 24, 25] rfl rfl (fun H locs hP hD hS => ?_)
    have hP : va_P D vwCl [((ad 0), .inr (3, [.ref (ad 1), .ref (ad 3), .ref (ad 5), .ref (ad 7), .ref (ad 15), .ref (ad 18)])), ((ad 1), .inr (0, [.ref (ad 2)])), ((ad 2), .inl (cI, 86, .inl (h_become f (xs (i + 1))))), ((ad 3), .inr (0, [.ref (ad 4)])), ((ad 4), .inl (cI, 86, .inl f2)), ((ad 5), .inr (2, [.ref (ad 6), .int (nI n)])), ((ad 6), .inl (cC, 60, .inl tx)), ((ad 7), .inr (1, [.ref (ad 8), .int (nI (h_nx nx)), .int (nI (h_sz sn))])), ((ad 8), .inl (cG, 6, .inr (.inr (.inr (.inr (fun i => ([(ad 9), (ad 10), (ad 11), (ad 12), (ad 13), (ad 14)] : List Nat)[i]?)))))), ((ad 9), .inl (cI, 86, .inl (va_up R nx (va_cpy f (R nx) 0 0 86) 0))), ((ad 10), .inl (cI, 86, .inl (va_up R nx (va_cpy f (R nx) 0 0 86) 1))), ((ad 11), .inl (cI, 86, .inl (va_up R nx (va_cpy f (R nx) 0 0 86) 2))), ((ad 12), .inl (cI, 86, .inl (va_up R nx (va_cpy f (R nx) 0 0 86) 3))), ((ad 13), .inl (cI, 86, .inl (va_up R nx (va_cpy f (R nx) 0 0 86) 4))), ((ad 14), .inl (cI, 86, .inl (va_up R nx (va_cpy f (R nx) 0 0 86) 5))), ((ad 15), .inl (cG, 2, .inr (.inr (.inr (.inr (fun i => ([(ad 16), (ad 17)] : List Nat)[i]?)))))), ((ad 16), .inl (cI, 86, .inl (SL 0))), ((ad 17), .inl (cI, 86, .inl (SL 1))), ((ad 18), .inl (cZ, 2, .inl sv)), ((md 0), .inr (4, [.ref (md 1), .ref (md 2), .ref (md 3), .int (nI (h_sz sn)), .ref (md 4), .ref (md 5), .ref (md 6), .int (nI n), .int (nI sp), .int nu])), ((md 1), .inl (cI, 86, .inl (m_cor a (xs (i + 1))))), ((md 2), .inl (cI, 86, .inl kp)), ((md 3), .inl (cI, 516, .inl (m_hs a hs sn))), ((md 4), .inl (cI, 172, .inl sl)), ((md 5), .inl (cI, 2, .inl iv)), ((md 6), .inl (cI, 60, .inl tx))] H := hP
    have hD : va_D A [((ad 0), .inr (3, [.ref (ad 1), .ref (ad 3), .ref (ad 5), .ref (ad 7), .ref (ad 15), .ref (ad 18)])), ((ad 1), .inr (0, [.ref (ad 2)])), ((ad 2), .inl (cI, 86, .inl (h_become f (xs (i + 1))))), ((ad 3), .inr (0, [.ref (ad 4)])), ((ad 4), .inl (cI, 86, .inl f2)), ((ad 5), .inr (2, [.ref (ad 6), .int (nI n)])), ((ad 6), .inl (cC, 60, .inl tx)), ((ad 7), .inr (1, [.ref (ad 8), .int (nI (h_nx nx)), .int (nI (h_sz sn))])), ((ad 8), .inl (cG, 6, .inr (.inr (.inr (.inr (fun i => ([(ad 9), (ad 10), (ad 11), (ad 12), (ad 13), (ad 14)] : List Nat)[i]?)))))), ((ad 9), .inl (cI, 86, .inl (va_up R nx (va_cpy f (R nx) 0 0 86) 0))), ((ad 10), .inl (cI, 86, .inl (va_up R nx (va_cpy f (R nx) 0 0 86) 1))), ((ad 11), .inl (cI, 86, .inl (va_up R nx (va_cpy f (R nx) 0 0 86) 2))), ((ad 12), .inl (cI, 86, .inl (va_up R nx (va_cpy f (R nx) 0 0 86) 3))), ((ad 13), .inl (cI, 86, .inl (va_up R nx (va_cpy f (R nx) 0 0 86) 4))), ((ad 14), .inl (cI, 86, .inl (va_up R nx (va_cpy f (R nx) 0 0 86) 5))), ((ad 15), .inl (cG, 2, .inr (.inr (.inr (.inr (fun i => ([(ad 16), (ad 17)] : List Nat)[i]?)))))), ((ad 16), .inl (cI, 86, .inl (SL 0))), ((ad 17), .inl (cI, 86, .inl (SL 1))), ((ad 18), .inl (cZ, 2, .inl sv)), ((md 0), .inr (4, [.ref (md 1), .ref (md 2), .ref (md 3), .int (nI (h_sz sn)), .ref (md 4), .ref (md 5), .ref (md 6), .int (nI n), .int (nI sp), .int nu])), ((md 1), .inl (cI, 86, .inl (m_cor a (xs (i + 1))))), ((md 2), .inl (cI, 86, .inl kp)), ((md 3), .inl (cI, 516, .inl (m_hs a hs sn))), ((md 4), .inl (cI, 172, .inl sl)), ((md 5), .inl (cI, 2, .inl iv)), ((md 6), .inl (cI, 60, .inl tx))] := hD
    refine lv_icmp_eq (pc := 244) (tgt := 571) hx hb dL_law_244 (by decide) (fun c_1 => ?_) (fun c_1 => ?_)
    · skip
      have c_1 : (f 4) = (a 4) := c_1
      exact kk (h_become f (xs (i + 1))) f2 tx n (h_nx nx) (h_sz sn) (va_up R nx (va_cpy f (R nx) 0 0 86)) SL sv (m_cor a (xs (i + 1))) kp (m_hs a hs sn) sl iv sp nu (hB.change (by omega) ((e_cor hR h1 h2).mono (by omega)) hn60) _ _ hP hD hS ls hl
    · skip
      have c_1 : ¬ ((f 4) = (a 4)) := c_1
      exact absurd (hR.1.get (w := 4) (by omega)).symm c_1
set_option maxHeartbeats 4000000 in
set_option maxRecDepth 100000 in
theorem law_clear {p : Program} {l : Launch} {e : Env} {s : State} {m : MethodId} {below : List Frame} {meth : Method} {c : Code} {D : va_G} {cI cC cZ cG : ClassId} {A : Nat → Prop} {tb lo hi b L : Nat} {xs : Nat → Int32} {ad md : Nat → Nat} {i N : Nat} (C : lw_C p s m meth c D cI cC cZ cG A tb lo hi b L xs) (hi3 : i + 3 ≤ L) (hL : L ≤ 1536) (hN : N + 60 ≤ 1000000) (kk : lw_KK p l e s m below meth c D cI cC cZ cG A b ad md i (N + 60) 571) : lw_KK p l e s m below meth c D cI cC cZ cG A b ad md i N 249 := by
  intro f f2 tx n nx sn R SL sv a kp hs sl iv sp nu hB H locs hP hD hS ls hl
  obtain ⟨hx, hb, hml, hown, hts, hXs, hbl, hbA, hA, hK, hX⟩ := C
  have hn60 : n ≤ 60 := hB.2.1
  have hnx : nx < 6 := hB.2.2.1.1
  have hsn : sn ≤ 6 := hB.2.2.1.2
  have hR := hB.1
  have hkc : 600000 + 0 ≤ room_1.cells := Nat.le_refl _
  have hks : 7302250 + 0 ≤ room_1.slots := Nat.le_refl _
  have hl : lv_has ls 4 [(0, .ref b), (1, .ref (ad 0)), (2, .ref (md 0)), (3, .int (nI i))] := hl
  rcases cs_clear f (xs (i + 1)) with hbad | ⟨g, hg, ex, hbad⟩ | ⟨g, hg, ex, hbad⟩
  · skip
    refine lv_aload_n (pc := 249) hx hb dL_law_249 rfl (lv_at hl 1 rfl) ?_
    refine lv_aload_n (pc := 250) hx hb dL_law_250 rfl (lv_at hl 0 rfl) ?_
    refine lv_iload_n (pc := 251) hx hb dL_law_251 rfl (lv_at hl 3 rfl) ?_
    refine lv_iconst (pc := 252) (v := 1) hx hb dL_law_252 (by decide) ?_
    refine lv_iadd (pc := 253) hx hb dL_law_253 ?_
    refine b_re (nI_add i 1) ?_
    refine b_sld (pc := 254) hx hb hXs hbl hbA hS (i + 1) (by omega) (by omega) dL_law_254 ?_
    refine b_cR (pc := 255) (va_runV (As := [.int (xs (i + 1))]) (rest := []) ⟨hx, hb, hml, hown, hts⟩ (c_X3_clear_ng l D cI cC cZ cG ad f f2 tx n nx sn R SL sv (xs (i + 1)) (by first | omega | assumption) (by first | omega | assumption) (by first | omega | assumption) (by first | omega | assumption)) (cwV 1 hts gL_law_X3_clear rfl rfl rfl hy_X3_clear ⟨Nat.le_of_ble_eq_true rfl, Nat.le_of_ble_eq_true rfl⟩) (b_pRV (wc := [((ad 0), .inr (3, [.ref (ad 1), .ref (ad 3), .ref (ad 5), .ref (ad 7), .ref (ad 15), .ref (ad 18)])), ((ad 1), .inr (0, [.ref (ad 2)])), ((ad 2), .inl (cI, 86, .inl f)), ((ad 3), .inr (0, [.ref (ad 4)])), ((ad 4), .inl (cI, 86, .inl f2)), ((ad 5), .inr (2, [.ref (ad 6), .int (nI n)])), ((ad 6), .inl (cC, 60, .inl tx)), ((ad 7), .inr (1, [.ref (ad 8), .int (nI nx), .int (nI sn)])), ((ad 8), .inl (cG, 6, .inr (.inr (.inr (.inr (fun i => ([(ad 9), (ad 10), (ad 11), (ad 12), (ad 13), (ad 14)] : List Nat)[i]?)))))), ((ad 9), .inl (cI, 86, .inl (R 0))), ((ad 10), .inl (cI, 86, .inl (R 1))), ((ad 11), .inl (cI, 86, .inl (R 2))), ((ad 12), .inl (cI, 86, .inl (R 3))), ((ad 13), .inl (cI, 86, .inl (R 4))), ((ad 14), .inl (cI, 86, .inl (R 5))), ((ad 15), .inl (cG, 2, .inr (.inr (.inr (.inr (fun i => ([(ad 16), (ad 17)] : List Nat)[i]?)))))), ((ad 16), .inl (cI, 86, .inl (SL 0))), ((ad 17), .inl (cI, 86, .inl (SL 1))), ((ad 18), .inl (cZ, 2, .inl sv))]) hK hP [0, 1, 2, 3, 4, 5, 6, 7, 8, 9, 10, 11, 12, 13, 14, 15, 16, 17, 18] rfl (ci := 3) (q0 := 0) rfl rfl) rfl rfl hl.1 rfl (lv_room (Nat.le_of_ble_eq_true rfl)) dL_law_255 ⟨hkc, hks⟩) ?_
    refine lv_aload_n (pc := 258) hx hb dL_law_258 rfl (lv_at hl 2 rfl) ?_
    refine lv_aload_n (pc := 259) hx hb dL_law_259 rfl (lv_at hl 0 rfl) ?_
    refine lv_iload_n (pc := 260) hx hb dL_law_260 rfl (lv_at hl 3 rfl) ?_
    refine lv_iconst (pc := 261) (v := 1) hx hb dL_law_261 (by decide) ?_
    refine lv_iadd (pc := 262) hx hb dL_law_262 ?_
    refine b_re (nI_add i 1) ?_
    refine b_sld (pc := 263) hx hb hXs hbl hbA hS (i + 1) (by omega) (by omega) dL_law_263 ?_
    refine b_cR (pc := 264) (va_runV (As := [.int (xs (i + 1))]) (rest := [.int (-1)]) ⟨hx, hb, hml, hown, hts⟩ (c_X4_clear_ng l D cI cC cZ cG md a kp hs sn sl iv tx n sp nu (xs (i + 1)) (by first | omega | assumption)) (cwV 1 hts gL_law_X4_clear rfl rfl rfl hy_X4_clear ⟨Nat.le_of_ble_eq_true rfl, Nat.le_of_ble_eq_true rfl⟩) (b_pRV (wc := [((md 0), .inr (4, [.ref (md 1), .ref (md 2), .ref (md 3), .int (nI sn), .ref (md 4), .ref (md 5), .ref (md 6), .int (nI n), .int (nI sp), .int nu])), ((md 1), .inl (cI, 86, .inl a)), ((md 2), .inl (cI, 86, .inl kp)), ((md 3), .inl (cI, 516, .inl hs)), ((md 4), .inl (cI, 172, .inl sl)), ((md 5), .inl (cI, 2, .inl iv)), ((md 6), .inl (cI, 60, .inl tx))]) hK hP [19, 20, 21, 22, 23, 24, 25] rfl (ci := 4) (q0 := 0) rfl rfl) rfl rfl hl.1 rfl (lv_room (Nat.le_of_ble_eq_true rfl)) dL_law_264 ⟨hkc, hks⟩) ?_
    refine lv_icmp_eq (pc := 267) (tgt := 571) hx hb dL_law_267 (by decide) (fun c_1 => ?_) (fun c_1 => ?_)
    · skip
      exact kk f f2 tx n nx sn R SL sv a kp hs sl iv sp nu (hB.mono (by omega)) _ _ hP hD hS ls hl
    · skip
      exact absurd c_1 (by decide)
  · skip
    have hbm := (hR.uw hg).mp hbad
    refine lv_aload_n (pc := 249) hx hb dL_law_249 rfl (lv_at hl 1 rfl) ?_
    refine lv_aload_n (pc := 250) hx hb dL_law_250 rfl (lv_at hl 0 rfl) ?_
    refine lv_iload_n (pc := 251) hx hb dL_law_251 rfl (lv_at hl 3 rfl) ?_
    refine lv_iconst (pc := 252) (v := 1) hx hb dL_law_252 (by decide) ?_
    refine lv_iadd (pc := 253) hx hb dL_law_253 ?_
    refine b_re (nI_add i 1) ?_
    refine b_sld (pc := 254) hx hb hXs hbl hbA hS (i + 1) (by omega) (by omega) dL_law_254 ?_
    refine b_re ex ?_
    refine b_cR (pc := 255) (va_runV (As := [.int (nI g)]) (rest := []) ⟨hx, hb, hml, hown, hts⟩ (c_X3_clear_np l D cI cC cZ cG ad f f2 tx n nx sn R SL sv g (by first | omega | assumption) (by first | omega | assumption) (by first | omega | assumption) (by first | omega | assumption) (by first | omega | assumption)) (cwV 1 hts gL_law_X3_clear rfl rfl rfl hy_X3_clear ⟨Nat.le_of_ble_eq_true rfl, Nat.le_of_ble_eq_true rfl⟩) (b_pRV (wc := [((ad 0), .inr (3, [.ref (ad 1), .ref (ad 3), .ref (ad 5), .ref (ad 7), .ref (ad 15), .ref (ad 18)])), ((ad 1), .inr (0, [.ref (ad 2)])), ((ad 2), .inl (cI, 86, .inl f)), ((ad 3), .inr (0, [.ref (ad 4)])), ((ad 4), .inl (cI, 86, .inl f2)), ((ad 5), .inr (2, [.ref (ad 6), .int (nI n)])), ((ad 6), .inl (cC, 60, .inl tx)), ((ad 7), .inr (1, [.ref (ad 8), .int (nI nx), .int (nI sn)])), ((ad 8), .inl (cG, 6, .inr (.inr (.inr (.inr (fun i => ([(ad 9), (ad 10), (ad 11), (ad 12), (ad 13), (ad 14)] : List Nat)[i]?)))))), ((ad 9), .inl (cI, 86, .inl (R 0))), ((ad 10), .inl (cI, 86, .inl (R 1))), ((ad 11), .inl (cI, 86, .inl (R 2))), ((ad 12), .inl (cI, 86, .inl (R 3))), ((ad 13), .inl (cI, 86, .inl (R 4))), ((ad 14), .inl (cI, 86, .inl (R 5))), ((ad 15), .inl (cG, 2, .inr (.inr (.inr (.inr (fun i => ([(ad 16), (ad 17)] : List Nat)[i]?)))))), ((ad 16), .inl (cI, 86, .inl (SL 0))), ((ad 17), .inl (cI, 86, .inl (SL 1))), ((ad 18), .inl (cZ, 2, .inl sv))]) hK hP [0, 1, 2, 3, 4, 5, 6, 7, 8, 9, 10, 11, 12, 13, 14, 15, 16, 17, 18] rfl (ci := 3) (q0 := 0) rfl rfl) rfl rfl hl.1 rfl (lv_room (Nat.le_of_ble_eq_true rfl)) dL_law_255 ⟨hkc, hks⟩) ?_
    refine lv_aload_n (pc := 258) hx hb dL_law_258 rfl (lv_at hl 2 rfl) ?_
    refine lv_aload_n (pc := 259) hx hb dL_law_259 rfl (lv_at hl 0 rfl) ?_
    refine lv_iload_n (pc := 260) hx hb dL_law_260 rfl (lv_at hl 3 rfl) ?_
    refine lv_iconst (pc := 261) (v := 1) hx hb dL_law_261 (by decide) ?_
    refine lv_iadd (pc := 262) hx hb dL_law_262 ?_
    refine b_re (nI_add i 1) ?_
    refine b_sld (pc := 263) hx hb hXs hbl hbA hS (i + 1) (by omega) (by omega) dL_law_263 ?_
    refine b_re ex ?_
    refine b_cR (pc := 264) (va_runV (As := [.int (nI g)]) (rest := [.int (-5)]) ⟨hx, hb, hml, hown, hts⟩ (c_X4_clear_np l D cI cC cZ cG md a kp hs sn sl iv tx n sp nu g (by first | omega | assumption) (by first | omega | assumption)) (cwV 1 hts gL_law_X4_clear rfl rfl rfl hy_X4_clear ⟨Nat.le_of_ble_eq_true rfl, Nat.le_of_ble_eq_true rfl⟩) (b_pRV (wc := [((md 0), .inr (4, [.ref (md 1), .ref (md 2), .ref (md 3), .int (nI sn), .ref (md 4), .ref (md 5), .ref (md 6), .int (nI n), .int (nI sp), .int nu])), ((md 1), .inl (cI, 86, .inl a)), ((md 2), .inl (cI, 86, .inl kp)), ((md 3), .inl (cI, 516, .inl hs)), ((md 4), .inl (cI, 172, .inl sl)), ((md 5), .inl (cI, 2, .inl iv)), ((md 6), .inl (cI, 60, .inl tx))]) hK hP [19, 20, 21, 22, 23, 24, 25] rfl (ci := 4) (q0 := 0) rfl rfl) rfl rfl hl.1 rfl (lv_room (Nat.le_of_ble_eq_true rfl)) dL_law_264 ⟨hkc, hks⟩) ?_
    refine lv_icmp_eq (pc := 267) (tgt := 571) hx hb dL_law_267 (by decide) (fun c_1 => ?_) (fun c_1 => ?_)
    · skip
      exact kk f f2 tx n nx sn R SL sv a kp hs sl iv sp nu (hB.mono (by omega)) _ _ hP hD hS ls hl
    · skip
      exact absurd c_1 (by decide)
  · skip
    have hbm : ¬ a (8 + 13 * g + 1) = (-6) := fun z => hbad ((hR.uw hg).mpr z)
    refine lv_aload_n (pc := 249) hx hb dL_law_249 rfl (lv_at hl 1 rfl) ?_
    refine lv_aload_n (pc := 250) hx hb dL_law_250 rfl (lv_at hl 0 rfl) ?_
    refine lv_iload_n (pc := 251) hx hb dL_law_251 rfl (lv_at hl 3 rfl) ?_
    refine lv_iconst (pc := 252) (v := 1) hx hb dL_law_252 (by decide) ?_
    refine lv_iadd (pc := 253) hx hb dL_law_253 ?_
    refine b_re (nI_add i 1) ?_
    refine b_sld (pc := 254) hx hb hXs hbl hbA hS (i + 1) (by omega) (by omega) dL_law_254 ?_
    refine b_re ex ?_
    refine b_cW (pc := 255) (w1 := [((ad 0), .inr (3, [.ref (ad 1), .ref (ad 3), .ref (ad 5), .ref (ad 7), .ref (ad 15), .ref (ad 18)])), ((ad 1), .inr (0, [.ref (ad 2)])), ((ad 2), .inl (cI, 86, .inl (h_free f g))), ((ad 3), .inr (0, [.ref (ad 4)])), ((ad 4), .inl (cI, 86, .inl f2)), ((ad 5), .inr (2, [.ref (ad 6), .int (nI n)])), ((ad 6), .inl (cC, 60, .inl tx)), ((ad 7), .inr (1, [.ref (ad 8), .int (nI (h_nx nx)), .int (nI (h_sz sn))])), ((ad 8), .inl (cG, 6, .inr (.inr (.inr (.inr (fun i => ([(ad 9), (ad 10), (ad 11), (ad 12), (ad 13), (ad 14)] : List Nat)[i]?)))))), ((ad 9), .inl (cI, 86, .inl (va_up R nx (va_cpy f (R nx) 0 0 86) 0))), ((ad 10), .inl (cI, 86, .inl (va_up R nx (va_cpy f (R nx) 0 0 86) 1))), ((ad 11), .inl (cI, 86, .inl (va_up R nx (va_cpy f (R nx) 0 0 86) 2))), ((ad 12), .inl (cI, 86, .inl (va_up R nx (va_cpy f (R nx) 0 0 86) 3))), ((ad 13), .inl (cI, 86, .inl (va_up R nx (va_cpy f (R nx) 0 0 86) 4))), ((ad 14), .inl (cI, 86, .inl (va_up R nx (va_cpy f (R nx) 0 0 86) 5))), ((ad 15), .inl (cG, 2, .inr (.inr (.inr (.inr (fun i => ([(ad 16), (ad 17)] : List Nat)[i]?)))))), ((ad 16), .inl (cI, 86, .inl (SL 0))), ((ad 17), .inl (cI, 86, .inl (SL 1))), ((ad 18), .inl (cZ, 2, .inl sv))]) (va_runV (As := [.int (nI g)]) (rest := []) ⟨hx, hb, hml, hown, hts⟩ (c_X3_clear_ok l D cI cC cZ cG tb lo hi H.size ad f f2 tx n nx sn R SL sv g (by first | omega | assumption) (by first | omega | assumption) (by first | omega | assumption) (by first | omega | assumption) (by first | omega | assumption)) (cwV 1 hts gL_law_X3_clear rfl rfl rfl hy_X3_clear ⟨Nat.le_of_ble_eq_true rfl, Nat.le_of_ble_eq_true rfl⟩) (b_pWV (wc := [((ad 0), .inr (3, [.ref (ad 1), .ref (ad 3), .ref (ad 5), .ref (ad 7), .ref (ad 15), .ref (ad 18)])), ((ad 1), .inr (0, [.ref (ad 2)])), ((ad 2), .inl (cI, 86, .inl f)), ((ad 3), .inr (0, [.ref (ad 4)])), ((ad 4), .inl (cI, 86, .inl f2)), ((ad 5), .inr (2, [.ref (ad 6), .int (nI n)])), ((ad 6), .inl (cC, 60, .inl tx)), ((ad 7), .inr (1, [.ref (ad 8), .int (nI nx), .int (nI sn)])), ((ad 8), .inl (cG, 6, .inr (.inr (.inr (.inr (fun i => ([(ad 9), (ad 10), (ad 11), (ad 12), (ad 13), (ad 14)] : List Nat)[i]?)))))), ((ad 9), .inl (cI, 86, .inl (R 0))), ((ad 10), .inl (cI, 86, .inl (R 1))), ((ad 11), .inl (cI, 86, .inl (R 2))), ((ad 12), .inl (cI, 86, .inl (R 3))), ((ad 13), .inl (cI, 86, .inl (R 4))), ((ad 14), .inl (cI, 86, .inl (R 5))), ((ad 15), .inl (cG, 2, .inr (.inr (.inr (.inr (fun i => ([(ad 16), (ad 17)] : List Nat)[i]?)))))), ((ad 16), .inl (cI, 86, .inl (SL 0))), ((ad 17), .inl (cI, 86, .inl (SL 1))), ((ad 18), .inl (cZ, 2, .inl sv))]) hK hP hD (b_Xok_X tb lo hi) [0, 1, 2, 3, 4, 5, 6, 7, 8, 9, 10, 11, 12, 13, 14, 15, 16, 17, 18] rfl (by decide) rfl (b_Xc hX hD hS hA [0, 1, 2, 3, 4, 5, 6, 7, 8, 9, 10, 11, 12, 13, 14, 15, 16, 17, 18] rfl) (ci := 3) (q0 := 0) rfl rfl) rfl rfl hl.1 rfl (lv_room (Nat.le_of_ble_eq_true rfl)) dL_law_255 ⟨hkc, hks⟩) hP hD hS hA [0, 1, 2, 3, 4, 5, 6, 7, 8, 9, 10, 11, 12, 13, 14, 15, 16, 17, 18] rfl rfl (fun H locs hP hD hS => ?_)
    have hP : va_P D vwCl [((ad 0), .inr (3, [.ref (ad 1), .ref (ad 3), .ref (ad 5), .ref (ad 7), .ref (ad 15), .ref (ad 18)])), ((ad 1), .inr (0, [.ref (ad 2)])), ((ad 2), .inl (cI, 86, .inl (h_free f g))), ((ad 3), .inr (0, [.ref (ad 4)])), ((ad 4), .inl (cI, 86, .inl f2)), ((ad 5), .inr (2, [.ref (ad 6), .int (nI n)])), ((ad 6), .inl (cC, 60, .inl tx)), ((ad 7), .inr (1, [.ref (ad 8), .int (nI (h_nx nx)), .int (nI (h_sz sn))])), ((ad 8), .inl (cG, 6, .inr (.inr (.inr (.inr (fun i => ([(ad 9), (ad 10), (ad 11), (ad 12), (ad 13), (ad 14)] : List Nat)[i]?)))))), ((ad 9), .inl (cI, 86, .inl (va_up R nx (va_cpy f (R nx) 0 0 86) 0))), ((ad 10), .inl (cI, 86, .inl (va_up R nx (va_cpy f (R nx) 0 0 86) 1))), ((ad 11), .inl (cI, 86, .inl (va_up R nx (va_cpy f (R nx) 0 0 86) 2))), ((ad 12), .inl (cI, 86, .inl (va_up R nx (va_cpy f (R nx) 0 0 86) 3))), ((ad 13), .inl (cI, 86, .inl (va_up R nx (va_cpy f (R nx) 0 0 86) 4))), ((ad 14), .inl (cI, 86, .inl (va_up R nx (va_cpy f (R nx) 0 0 86) 5))), ((ad 15), .inl (cG, 2, .inr (.inr (.inr (.inr (fun i => ([(ad 16), (ad 17)] : List Nat)[i]?)))))), ((ad 16), .inl (cI, 86, .inl (SL 0))), ((ad 17), .inl (cI, 86, .inl (SL 1))), ((ad 18), .inl (cZ, 2, .inl sv)), ((md 0), .inr (4, [.ref (md 1), .ref (md 2), .ref (md 3), .int (nI sn), .ref (md 4), .ref (md 5), .ref (md 6), .int (nI n), .int (nI sp), .int nu])), ((md 1), .inl (cI, 86, .inl a)), ((md 2), .inl (cI, 86, .inl kp)), ((md 3), .inl (cI, 516, .inl hs)), ((md 4), .inl (cI, 172, .inl sl)), ((md 5), .inl (cI, 2, .inl iv)), ((md 6), .inl (cI, 60, .inl tx))] H := hP
    have hD : va_D A [((ad 0), .inr (3, [.ref (ad 1), .ref (ad 3), .ref (ad 5), .ref (ad 7), .ref (ad 15), .ref (ad 18)])), ((ad 1), .inr (0, [.ref (ad 2)])), ((ad 2), .inl (cI, 86, .inl (h_free f g))), ((ad 3), .inr (0, [.ref (ad 4)])), ((ad 4), .inl (cI, 86, .inl f2)), ((ad 5), .inr (2, [.ref (ad 6), .int (nI n)])), ((ad 6), .inl (cC, 60, .inl tx)), ((ad 7), .inr (1, [.ref (ad 8), .int (nI (h_nx nx)), .int (nI (h_sz sn))])), ((ad 8), .inl (cG, 6, .inr (.inr (.inr (.inr (fun i => ([(ad 9), (ad 10), (ad 11), (ad 12), (ad 13), (ad 14)] : List Nat)[i]?)))))), ((ad 9), .inl (cI, 86, .inl (va_up R nx (va_cpy f (R nx) 0 0 86) 0))), ((ad 10), .inl (cI, 86, .inl (va_up R nx (va_cpy f (R nx) 0 0 86) 1))), ((ad 11), .inl (cI, 86, .inl (va_up R nx (va_cpy f (R nx) 0 0 86) 2))), ((ad 12), .inl (cI, 86, .inl (va_up R nx (va_cpy f (R nx) 0 0 86) 3))), ((ad 13), .inl (cI, 86, .inl (va_up R nx (va_cpy f (R nx) 0 0 86) 4))), ((ad 14), .inl (cI, 86, .inl (va_up R nx (va_cpy f (R nx) 0 0 86) 5))), ((ad 15), .inl (cG, 2, .inr (.inr (.inr (.inr (fun i => ([(ad 16), (ad 17)] : List Nat)[i]?)))))), ((ad 16), .inl (cI, 86, .inl (SL 0))), ((ad 17), .inl (cI, 86, .inl (SL 1))), ((ad 18), .inl (cZ, 2, .inl sv)), ((md 0), .inr (4, [.ref (md 1), .ref (md 2), .ref (md 3), .int (nI sn), .ref (md 4), .ref (md 5), .ref (md 6), .int (nI n), .int (nI sp), .int nu])), ((md 1), .inl (cI, 86, .inl a)), ((md 2), .inl (cI, 86, .inl kp)), ((md 3), .inl (cI, 516, .inl hs)), ((md 4), .inl (cI, 172, .inl sl)), ((md 5), .inl (cI, 2, .inl iv)), ((md 6), .inl (cI, 60, .inl tx))] := hD
    refine lv_aload_n (pc := 258) hx hb dL_law_258 rfl (lv_at hl 2 rfl) ?_
    refine lv_aload_n (pc := 259) hx hb dL_law_259 rfl (lv_at hl 0 rfl) ?_
    refine lv_iload_n (pc := 260) hx hb dL_law_260 rfl (lv_at hl 3 rfl) ?_
    refine lv_iconst (pc := 261) (v := 1) hx hb dL_law_261 (by decide) ?_
    refine lv_iadd (pc := 262) hx hb dL_law_262 ?_
    refine b_re (nI_add i 1) ?_
    refine b_sld (pc := 263) hx hb hXs hbl hbA hS (i + 1) (by omega) (by omega) dL_law_263 ?_
    refine b_re ex ?_
    refine b_cW (pc := 264) (w1 := [((md 0), .inr (4, [.ref (md 1), .ref (md 2), .ref (md 3), .int (nI (h_sz sn)), .ref (md 4), .ref (md 5), .ref (md 6), .int (nI n), .int (nI sp), .int nu])), ((md 1), .inl (cI, 86, .inl (m_en a g 7))), ((md 2), .inl (cI, 86, .inl kp)), ((md 3), .inl (cI, 516, .inl (m_hs a hs sn))), ((md 4), .inl (cI, 172, .inl sl)), ((md 5), .inl (cI, 2, .inl iv)), ((md 6), .inl (cI, 60, .inl tx))]) (va_runV (As := [.int (nI g)]) (rest := [.int (f (8 + g * 13 + 0))]) ⟨hx, hb, hml, hown, hts⟩ (c_X4_clear_ok l D cI cC cZ cG H.size md a kp hs sn sl iv tx n sp nu g (by first | omega | assumption) (by first | omega | assumption) (by first | omega | assumption)) (cwV 1 hts gL_law_X4_clear rfl rfl rfl hy_X4_clear ⟨Nat.le_of_ble_eq_true rfl, Nat.le_of_ble_eq_true rfl⟩) (b_pWV (wc := [((md 0), .inr (4, [.ref (md 1), .ref (md 2), .ref (md 3), .int (nI sn), .ref (md 4), .ref (md 5), .ref (md 6), .int (nI n), .int (nI sp), .int nu])), ((md 1), .inl (cI, 86, .inl a)), ((md 2), .inl (cI, 86, .inl kp)), ((md 3), .inl (cI, 516, .inl hs)), ((md 4), .inl (cI, 172, .inl sl)), ((md 5), .inl (cI, 2, .inl iv)), ((md 6), .inl (cI, 60, .inl tx))]) hK hP hD b_Xok_0 [19, 20, 21, 22, 23, 24, 25] rfl (by decide) rfl trivial (ci := 4) (q0 := 0) rfl rfl) rfl rfl hl.1 rfl (lv_room (Nat.le_of_ble_eq_true rfl)) dL_law_264 ⟨hkc, hks⟩) hP hD hS hA [19, 20, 21, 22, 23, 24, 25] rfl rfl (fun H locs hP hD hS => ?_)
    have hP : va_P D vwCl [((ad 0), .inr (3, [.ref (ad 1), .ref (ad 3), .ref (ad 5), .ref (ad 7), .ref (ad 15), .ref (ad 18)])), ((ad 1), .inr (0, [.ref (ad 2)])), ((ad 2), .inl (cI, 86, .inl (h_free f g))), ((ad 3), .inr (0, [.ref (ad 4)])), ((ad 4), .inl (cI, 86, .inl f2)), ((ad 5), .inr (2, [.ref (ad 6), .int (nI n)])), ((ad 6), .inl (cC, 60, .inl tx)), ((ad 7), .inr (1, [.ref (ad 8), .int (nI (h_nx nx)), .int (nI (h_sz sn))])), ((ad 8), .inl (cG, 6, .inr (.inr (.inr (.inr (fun i => ([(ad 9), (ad 10), (ad 11), (ad 12), (ad 13), (ad 14)] : List Nat)[i]?)))))), ((ad 9), .inl (cI, 86, .inl (va_up R nx (va_cpy f (R nx) 0 0 86) 0))), ((ad 10), .inl (cI, 86, .inl (va_up R nx (va_cpy f (R nx) 0 0 86) 1))), ((ad 11), .inl (cI, 86, .inl (va_up R nx (va_cpy f (R nx) 0 0 86) 2))), ((ad 12), .inl (cI, 86, .inl (va_up R nx (va_cpy f (R nx) 0 0 86) 3))), ((ad 13), .inl (cI, 86, .inl (va_up R nx (va_cpy f (R nx) 0 0 86) 4))), ((ad 14), .inl (cI, 86, .inl (va_up R nx (va_cpy f (R nx) 0 0 86) 5))), ((ad 15), .inl (cG, 2, .inr (.inr (.inr (.inr (fun i => ([(ad 16), (ad 17)] : List Nat)[i]?)))))), ((ad 16), .inl (cI, 86, .inl (SL 0))), ((ad 17), .inl (cI, 86, .inl (SL 1))), ((ad 18), .inl (cZ, 2, .inl sv)), ((md 0), .inr (4, [.ref (md 1), .ref (md 2), .ref (md 3), .int (nI (h_sz sn)), .ref (md 4), .ref (md 5), .ref (md 6), .int (nI n), .int (nI sp), .int nu])), ((md 1), .inl (cI, 86, .inl (m_en a g 7))), ((md 2), .inl (cI, 86, .inl kp)), ((md 3), .inl (cI, 516, .inl (m_hs a hs sn))), ((md 4), .inl (cI, 172, .inl sl)), ((md 5), .inl (cI, 2, .inl iv)), ((md 6), .inl (cI, 60, .inl tx))] H := hP
    have hD : va_D A [((ad 0), .inr (3, [.ref (ad 1), .ref (ad 3), .ref (ad 5), .ref (ad 7), .ref (ad 15), .ref (ad 18)])), ((ad 1), .inr (0, [.ref (ad 2)])), ((ad 2), .inl (cI, 86, .inl (h_free f g))), ((ad 3), .inr (0, [.ref (ad 4)])), ((ad 4), .inl (cI, 86, .inl f2)), ((ad 5), .inr (2, [.ref (ad 6), .int (nI n)])), ((ad 6), .inl (cC, 60, .inl tx)), ((ad 7), .inr (1, [.ref (ad 8), .int (nI (h_nx nx)), .int (nI (h_sz sn))])), ((ad 8), .inl (cG, 6, .inr (.inr (.inr (.inr (fun i => ([(ad 9), (ad 10), (ad 11), (ad 12), (ad 13), (ad 14)] : List Nat)[i]?)))))), ((ad 9), .inl (cI, 86, .inl (va_up R nx (va_cpy f (R nx) 0 0 86) 0))), ((ad 10), .inl (cI, 86, .inl (va_up R nx (va_cpy f (R nx) 0 0 86) 1))), ((ad 11), .inl (cI, 86, .inl (va_up R nx (va_cpy f (R nx) 0 0 86) 2))), ((ad 12), .inl (cI, 86, .inl (va_up R nx (va_cpy f (R nx) 0 0 86) 3))), ((ad 13), .inl (cI, 86, .inl (va_up R nx (va_cpy f (R nx) 0 0 86) 4))), ((ad 14), .inl (cI, 86, .inl (va_up R nx (va_cpy f (R nx) 0 0 86) 5))), ((ad 15), .inl (cG, 2, .inr (.inr (.inr (.inr (fun i => ([(ad 16), (ad 17)] : List Nat)[i]?)))))), ((ad 16), .inl (cI, 86, .inl (SL 0))), ((ad 17), .inl (cI, 86, .inl (SL 1))), ((ad 18), .inl (cZ, 2, .inl sv)), ((md 0), .inr (4, [.ref (md 1), .ref (md 2), .ref (md 3), .int (nI (h_sz sn)), .ref (md 4), .ref (md 5), .ref (md 6), .int (nI n), .int (nI sp), .int nu])), ((md 1), .inl (cI, 86, .inl (m_en a g 7))), ((md 2), .inl (cI, 86, .inl kp)), ((md 3), .inl (cI, 516, .inl (m_hs a hs sn))), ((md 4), .inl (cI, 172, .inl sl)), ((md 5), .inl (cI, 2, .inl iv)), ((md 6), .inl (cI, 60, .inl tx))] := hD
    refine lv_icmp_eq (pc := 267) (tgt := 571) hx hb dL_law_267 (by decide) (fun c_1 => ?_) (fun c_1 => ?_)
    · skip
      have c_1 : (f (8 + g * 13 + 0)) = (a (8 + 13 * g + 0)) := c_1
      exact kk (h_free f g) f2 tx n (h_nx nx) (h_sz sn) (va_up R nx (va_cpy f (R nx) 0 0 86)) SL sv (m_en a g 7) kp (m_hs a hs sn) sl iv sp nu (hB.change (by omega) ((e_clear hg (by omega) hR hbad).mono (by omega)) hn60) _ _ hP hD hS ls hl
    · skip
      have c_1 : ¬ ((f (8 + g * 13 + 0)) = (a (8 + 13 * g + 0))) := c_1
      exact absurd (hR.2 g hg).1.symm c_1
set_option maxHeartbeats 4000000 in
set_option maxRecDepth 100000 in
theorem law_gate {p : Program} {l : Launch} {e : Env} {s : State} {m : MethodId} {below : List Frame} {meth : Method} {c : Code} {D : va_G} {cI cC cZ cG : ClassId} {A : Nat → Prop} {tb lo hi b L : Nat} {xs : Nat → Int32} {ad md : Nat → Nat} {i N : Nat} (C : lw_C p s m meth c D cI cC cZ cG A tb lo hi b L xs) (hi3 : i + 3 ≤ L) (hL : L ≤ 1536) (hN : N + 60 ≤ 1000000) (kk : lw_KK p l e s m below meth c D cI cC cZ cG A b ad md i (N + 60) 571) : lw_KK p l e s m below meth c D cI cC cZ cG A b ad md i N 272 := by
  intro f f2 tx n nx sn R SL sv a kp hs sl iv sp nu hB H locs hP hD hS ls hl
  obtain ⟨hx, hb, hml, hown, hts, hXs, hbl, hbA, hA, hK, hX⟩ := C
  have hn60 : n ≤ 60 := hB.2.1
  have hnx : nx < 6 := hB.2.2.1.1
  have hsn : sn ≤ 6 := hB.2.2.1.2
  have hR := hB.1
  have hkc : 600000 + 0 ≤ room_1.cells := Nat.le_refl _
  have hks : 7302250 + 0 ≤ room_1.slots := Nat.le_refl _
  have hl : lv_has ls 4 [(0, .ref b), (1, .ref (ad 0)), (2, .ref (md 0)), (3, .int (nI i))] := hl
  rcases cs_two (xs (i + 1)) (xs (i + 2)) 13 (by omega) with hbad | ⟨g, hg, ex, hbad⟩ | ⟨g, w1, hg, ex, hw, ey⟩
  · skip
    refine lv_aload_n (pc := 272) hx hb dL_law_272 rfl (lv_at hl 1 rfl) ?_
    refine lv_aload_n (pc := 273) hx hb dL_law_273 rfl (lv_at hl 0 rfl) ?_
    refine lv_iload_n (pc := 274) hx hb dL_law_274 rfl (lv_at hl 3 rfl) ?_
    refine lv_iconst (pc := 275) (v := 1) hx hb dL_law_275 (by decide) ?_
    refine lv_iadd (pc := 276) hx hb dL_law_276 ?_
    refine b_re (nI_add i 1) ?_
    refine b_sld (pc := 277) hx hb hXs hbl hbA hS (i + 1) (by omega) (by omega) dL_law_277 ?_
    refine lv_aload_n (pc := 278) hx hb dL_law_278 rfl (lv_at hl 0 rfl) ?_
    refine lv_iload_n (pc := 279) hx hb dL_law_279 rfl (lv_at hl 3 rfl) ?_
    refine lv_iconst (pc := 280) (v := 2) hx hb dL_law_280 (by decide) ?_
    refine lv_iadd (pc := 281) hx hb dL_law_281 ?_
    refine b_re (nI_add i 2) ?_
    refine b_sld (pc := 282) hx hb hXs hbl hbA hS (i + 2) (by omega) (by omega) dL_law_282 ?_
    refine b_cR (pc := 283) (va_runV (As := [.int (xs (i + 1)), .int (xs (i + 2))]) (rest := []) ⟨hx, hb, hml, hown, hts⟩ (c_X3_gate_ng l D cI cC cZ cG ad f f2 tx n nx sn R SL sv (xs (i + 1)) (xs (i + 2)) (by first | omega | assumption) (by first | omega | assumption) (by first | omega | assumption) (by first | omega | assumption)) (cwV 2 hts gL_law_X3_gate rfl rfl rfl hy_X3_gate ⟨Nat.le_of_ble_eq_true rfl, Nat.le_of_ble_eq_true rfl⟩) (b_pRV (wc := [((ad 0), .inr (3, [.ref (ad 1), .ref (ad 3), .ref (ad 5), .ref (ad 7), .ref (ad 15), .ref (ad 18)])), ((ad 1), .inr (0, [.ref (ad 2)])), ((ad 2), .inl (cI, 86, .inl f)), ((ad 3), .inr (0, [.ref (ad 4)])), ((ad 4), .inl (cI, 86, .inl f2)), ((ad 5), .inr (2, [.ref (ad 6), .int (nI n)])), ((ad 6), .inl (cC, 60, .inl tx)), ((ad 7), .inr (1, [.ref (ad 8), .int (nI nx), .int (nI sn)])), ((ad 8), .inl (cG, 6, .inr (.inr (.inr (.inr (fun i => ([(ad 9), (ad 10), (ad 11), (ad 12), (ad 13), (ad 14)] : List Nat)[i]?)))))), ((ad 9), .inl (cI, 86, .inl (R 0))), ((ad 10), .inl (cI, 86, .inl (R 1))), ((ad 11), .inl (cI, 86, .inl (R 2))), ((ad 12), .inl (cI, 86, .inl (R 3))), ((ad 13), .inl (cI, 86, .inl (R 4))), ((ad 14), .inl (cI, 86, .inl (R 5))), ((ad 15), .inl (cG, 2, .inr (.inr (.inr (.inr (fun i => ([(ad 16), (ad 17)] : List Nat)[i]?)))))), ((ad 16), .inl (cI, 86, .inl (SL 0))), ((ad 17), .inl (cI, 86, .inl (SL 1))), ((ad 18), .inl (cZ, 2, .inl sv))]) hK hP [0, 1, 2, 3, 4, 5, 6, 7, 8, 9, 10, 11, 12, 13, 14, 15, 16, 17, 18] rfl (ci := 3) (q0 := 0) rfl rfl) rfl rfl hl.1 rfl (lv_room (Nat.le_of_ble_eq_true rfl)) dL_law_283 ⟨hkc, hks⟩) ?_
    refine lv_aload_n (pc := 286) hx hb dL_law_286 rfl (lv_at hl 2 rfl) ?_
    refine lv_aload_n (pc := 287) hx hb dL_law_287 rfl (lv_at hl 0 rfl) ?_
    refine lv_iload_n (pc := 288) hx hb dL_law_288 rfl (lv_at hl 3 rfl) ?_
    refine lv_iconst (pc := 289) (v := 1) hx hb dL_law_289 (by decide) ?_
    refine lv_iadd (pc := 290) hx hb dL_law_290 ?_
    refine b_re (nI_add i 1) ?_
    refine b_sld (pc := 291) hx hb hXs hbl hbA hS (i + 1) (by omega) (by omega) dL_law_291 ?_
    refine lv_aload_n (pc := 292) hx hb dL_law_292 rfl (lv_at hl 0 rfl) ?_
    refine lv_iload_n (pc := 293) hx hb dL_law_293 rfl (lv_at hl 3 rfl) ?_
    refine lv_iconst (pc := 294) (v := 2) hx hb dL_law_294 (by decide) ?_
    refine lv_iadd (pc := 295) hx hb dL_law_295 ?_
    refine b_re (nI_add i 2) ?_
    refine b_sld (pc := 296) hx hb hXs hbl hbA hS (i + 2) (by omega) (by omega) dL_law_296 ?_
    refine b_cR (pc := 297) (va_runV (As := [.int (xs (i + 1)), .int (xs (i + 2))]) (rest := [.int (-1)]) ⟨hx, hb, hml, hown, hts⟩ (c_X4_gate_ng l D cI cC cZ cG md a kp hs sn sl iv tx n sp nu (xs (i + 1)) (xs (i + 2)) (by first | omega | assumption)) (cwV 2 hts gL_law_X4_gate rfl rfl rfl hy_X4_gate ⟨Nat.le_of_ble_eq_true rfl, Nat.le_of_ble_eq_true rfl⟩) (b_pRV (wc := [((md 0), .inr (4, [.ref (md 1), .ref (md 2), .ref (md 3), .int (nI sn), .ref (md 4), .ref (md 5), .ref (md 6), .int (nI n), .int (nI sp), .int nu])), ((md 1), .inl (cI, 86, .inl a)), ((md 2), .inl (cI, 86, .inl kp)), ((md 3), .inl (cI, 516, .inl hs)), ((md 4), .inl (cI, 172, .inl sl)), ((md 5), .inl (cI, 2, .inl iv)), ((md 6), .inl (cI, 60, .inl tx))]) hK hP [19, 20, 21, 22, 23, 24, 25] rfl (ci := 4) (q0 := 0) rfl rfl) rfl rfl hl.1 rfl (lv_room (Nat.le_of_ble_eq_true rfl)) dL_law_297 ⟨hkc, hks⟩) ?_
    refine lv_icmp_eq (pc := 300) (tgt := 571) hx hb dL_law_300 (by decide) (fun c_1 => ?_) (fun c_1 => ?_)
    · skip
      exact kk f f2 tx n nx sn R SL sv a kp hs sl iv sp nu (hB.mono (by omega)) _ _ hP hD hS ls hl
    · skip
      exact absurd c_1 (by decide)
  · skip
    refine lv_aload_n (pc := 272) hx hb dL_law_272 rfl (lv_at hl 1 rfl) ?_
    refine lv_aload_n (pc := 273) hx hb dL_law_273 rfl (lv_at hl 0 rfl) ?_
    refine lv_iload_n (pc := 274) hx hb dL_law_274 rfl (lv_at hl 3 rfl) ?_
    refine lv_iconst (pc := 275) (v := 1) hx hb dL_law_275 (by decide) ?_
    refine lv_iadd (pc := 276) hx hb dL_law_276 ?_
    refine b_re (nI_add i 1) ?_
    refine b_sld (pc := 277) hx hb hXs hbl hbA hS (i + 1) (by omega) (by omega) dL_law_277 ?_
    refine b_re ex ?_
    refine lv_aload_n (pc := 278) hx hb dL_law_278 rfl (lv_at hl 0 rfl) ?_
    refine lv_iload_n (pc := 279) hx hb dL_law_279 rfl (lv_at hl 3 rfl) ?_
    refine lv_iconst (pc := 280) (v := 2) hx hb dL_law_280 (by decide) ?_
    refine lv_iadd (pc := 281) hx hb dL_law_281 ?_
    refine b_re (nI_add i 2) ?_
    refine b_sld (pc := 282) hx hb hXs hbl hbA hS (i + 2) (by omega) (by omega) dL_law_282 ?_
    refine b_cR (pc := 283) (va_runV (As := [.int (nI g), .int (xs (i + 2))]) (rest := []) ⟨hx, hb, hml, hown, hts⟩ (c_X3_gate_bw l D cI cC cZ cG ad f f2 tx n nx sn R SL sv g (xs (i + 2)) (by first | omega | assumption) (by first | omega | assumption) (by first | omega | assumption) (by first | omega | assumption) (by first | omega | assumption)) (cwV 2 hts gL_law_X3_gate rfl rfl rfl hy_X3_gate ⟨Nat.le_of_ble_eq_true rfl, Nat.le_of_ble_eq_true rfl⟩) (b_pRV (wc := [((ad 0), .inr (3, [.ref (ad 1), .ref (ad 3), .ref (ad 5), .ref (ad 7), .ref (ad 15), .ref (ad 18)])), ((ad 1), .inr (0, [.ref (ad 2)])), ((ad 2), .inl (cI, 86, .inl f)), ((ad 3), .inr (0, [.ref (ad 4)])), ((ad 4), .inl (cI, 86, .inl f2)), ((ad 5), .inr (2, [.ref (ad 6), .int (nI n)])), ((ad 6), .inl (cC, 60, .inl tx)), ((ad 7), .inr (1, [.ref (ad 8), .int (nI nx), .int (nI sn)])), ((ad 8), .inl (cG, 6, .inr (.inr (.inr (.inr (fun i => ([(ad 9), (ad 10), (ad 11), (ad 12), (ad 13), (ad 14)] : List Nat)[i]?)))))), ((ad 9), .inl (cI, 86, .inl (R 0))), ((ad 10), .inl (cI, 86, .inl (R 1))), ((ad 11), .inl (cI, 86, .inl (R 2))), ((ad 12), .inl (cI, 86, .inl (R 3))), ((ad 13), .inl (cI, 86, .inl (R 4))), ((ad 14), .inl (cI, 86, .inl (R 5))), ((ad 15), .inl (cG, 2, .inr (.inr (.inr (.inr (fun i => ([(ad 16), (ad 17)] : List Nat)[i]?)))))), ((ad 16), .inl (cI, 86, .inl (SL 0))), ((ad 17), .inl (cI, 86, .inl (SL 1))), ((ad 18), .inl (cZ, 2, .inl sv))]) hK hP [0, 1, 2, 3, 4, 5, 6, 7, 8, 9, 10, 11, 12, 13, 14, 15, 16, 17, 18] rfl (ci := 3) (q0 := 0) rfl rfl) rfl rfl hl.1 rfl (lv_room (Nat.le_of_ble_eq_true rfl)) dL_law_283 ⟨hkc, hks⟩) ?_
    refine lv_aload_n (pc := 286) hx hb dL_law_286 rfl (lv_at hl 2 rfl) ?_
    refine lv_aload_n (pc := 287) hx hb dL_law_287 rfl (lv_at hl 0 rfl) ?_
    refine lv_iload_n (pc := 288) hx hb dL_law_288 rfl (lv_at hl 3 rfl) ?_
    refine lv_iconst (pc := 289) (v := 1) hx hb dL_law_289 (by decide) ?_
    refine lv_iadd (pc := 290) hx hb dL_law_290 ?_
    refine b_re (nI_add i 1) ?_
    refine b_sld (pc := 291) hx hb hXs hbl hbA hS (i + 1) (by omega) (by omega) dL_law_291 ?_
    refine b_re ex ?_
    refine lv_aload_n (pc := 292) hx hb dL_law_292 rfl (lv_at hl 0 rfl) ?_
    refine lv_iload_n (pc := 293) hx hb dL_law_293 rfl (lv_at hl 3 rfl) ?_
    refine lv_iconst (pc := 294) (v := 2) hx hb dL_law_294 (by decide) ?_
    refine lv_iadd (pc := 295) hx hb dL_law_295 ?_
    refine b_re (nI_add i 2) ?_
    refine b_sld (pc := 296) hx hb hXs hbl hbA hS (i + 2) (by omega) (by omega) dL_law_296 ?_
    refine b_cR (pc := 297) (va_runV (As := [.int (nI g), .int (xs (i + 2))]) (rest := [.int (-2)]) ⟨hx, hb, hml, hown, hts⟩ (c_X4_gate_bw l D cI cC cZ cG md a kp hs sn sl iv tx n sp nu g (xs (i + 2)) (by first | omega | assumption) (by first | omega | assumption)) (cwV 2 hts gL_law_X4_gate rfl rfl rfl hy_X4_gate ⟨Nat.le_of_ble_eq_true rfl, Nat.le_of_ble_eq_true rfl⟩) (b_pRV (wc := [((md 0), .inr (4, [.ref (md 1), .ref (md 2), .ref (md 3), .int (nI sn), .ref (md 4), .ref (md 5), .ref (md 6), .int (nI n), .int (nI sp), .int nu])), ((md 1), .inl (cI, 86, .inl a)), ((md 2), .inl (cI, 86, .inl kp)), ((md 3), .inl (cI, 516, .inl hs)), ((md 4), .inl (cI, 172, .inl sl)), ((md 5), .inl (cI, 2, .inl iv)), ((md 6), .inl (cI, 60, .inl tx))]) hK hP [19, 20, 21, 22, 23, 24, 25] rfl (ci := 4) (q0 := 0) rfl rfl) rfl rfl hl.1 rfl (lv_room (Nat.le_of_ble_eq_true rfl)) dL_law_297 ⟨hkc, hks⟩) ?_
    refine lv_icmp_eq (pc := 300) (tgt := 571) hx hb dL_law_300 (by decide) (fun c_1 => ?_) (fun c_1 => ?_)
    · skip
      exact kk f f2 tx n nx sn R SL sv a kp hs sl iv sp nu (hB.mono (by omega)) _ _ hP hD hS ls hl
    · skip
      exact absurd c_1 (by decide)
  · skip
    refine lv_aload_n (pc := 272) hx hb dL_law_272 rfl (lv_at hl 1 rfl) ?_
    refine lv_aload_n (pc := 273) hx hb dL_law_273 rfl (lv_at hl 0 rfl) ?_
    refine lv_iload_n (pc := 274) hx hb dL_law_274 rfl (lv_at hl 3 rfl) ?_
    refine lv_iconst (pc := 275) (v := 1) hx hb dL_law_275 (by decide) ?_
    refine lv_iadd (pc := 276) hx hb dL_law_276 ?_
    refine b_re (nI_add i 1) ?_
    refine b_sld (pc := 277) hx hb hXs hbl hbA hS (i + 1) (by omega) (by omega) dL_law_277 ?_
    refine b_re ex ?_
    refine lv_aload_n (pc := 278) hx hb dL_law_278 rfl (lv_at hl 0 rfl) ?_
    refine lv_iload_n (pc := 279) hx hb dL_law_279 rfl (lv_at hl 3 rfl) ?_
    refine lv_iconst (pc := 280) (v := 2) hx hb dL_law_280 (by decide) ?_
    refine lv_iadd (pc := 281) hx hb dL_law_281 ?_
    refine b_re (nI_add i 2) ?_
    refine b_sld (pc := 282) hx hb hXs hbl hbA hS (i + 2) (by omega) (by omega) dL_law_282 ?_
    refine b_re ey ?_
    refine b_cR (pc := 283) (va_runV (As := [.int (nI g), .int (nI w1)]) (rest := []) ⟨hx, hb, hml, hown, hts⟩ (c_X3_gate_ok l D cI cC cZ cG ad f f2 tx n nx sn R SL sv g w1 (by first | omega | assumption) (by first | omega | assumption) (by first | omega | assumption) (by first | omega | assumption) (by first | omega | assumption)) (cwV 2 hts gL_law_X3_gate rfl rfl rfl hy_X3_gate ⟨Nat.le_of_ble_eq_true rfl, Nat.le_of_ble_eq_true rfl⟩) (b_pRV (wc := [((ad 0), .inr (3, [.ref (ad 1), .ref (ad 3), .ref (ad 5), .ref (ad 7), .ref (ad 15), .ref (ad 18)])), ((ad 1), .inr (0, [.ref (ad 2)])), ((ad 2), .inl (cI, 86, .inl f)), ((ad 3), .inr (0, [.ref (ad 4)])), ((ad 4), .inl (cI, 86, .inl f2)), ((ad 5), .inr (2, [.ref (ad 6), .int (nI n)])), ((ad 6), .inl (cC, 60, .inl tx)), ((ad 7), .inr (1, [.ref (ad 8), .int (nI nx), .int (nI sn)])), ((ad 8), .inl (cG, 6, .inr (.inr (.inr (.inr (fun i => ([(ad 9), (ad 10), (ad 11), (ad 12), (ad 13), (ad 14)] : List Nat)[i]?)))))), ((ad 9), .inl (cI, 86, .inl (R 0))), ((ad 10), .inl (cI, 86, .inl (R 1))), ((ad 11), .inl (cI, 86, .inl (R 2))), ((ad 12), .inl (cI, 86, .inl (R 3))), ((ad 13), .inl (cI, 86, .inl (R 4))), ((ad 14), .inl (cI, 86, .inl (R 5))), ((ad 15), .inl (cG, 2, .inr (.inr (.inr (.inr (fun i => ([(ad 16), (ad 17)] : List Nat)[i]?)))))), ((ad 16), .inl (cI, 86, .inl (SL 0))), ((ad 17), .inl (cI, 86, .inl (SL 1))), ((ad 18), .inl (cZ, 2, .inl sv))]) hK hP [0, 1, 2, 3, 4, 5, 6, 7, 8, 9, 10, 11, 12, 13, 14, 15, 16, 17, 18] rfl (ci := 3) (q0 := 0) rfl rfl) rfl rfl hl.1 rfl (lv_room (Nat.le_of_ble_eq_true rfl)) dL_law_283 ⟨hkc, hks⟩) ?_
    refine lv_aload_n (pc := 286) hx hb dL_law_286 rfl (lv_at hl 2 rfl) ?_
    refine lv_aload_n (pc := 287) hx hb dL_law_287 rfl (lv_at hl 0 rfl) ?_
    refine lv_iload_n (pc := 288) hx hb dL_law_288 rfl (lv_at hl 3 rfl) ?_
    refine lv_iconst (pc := 289) (v := 1) hx hb dL_law_289 (by decide) ?_
    refine lv_iadd (pc := 290) hx hb dL_law_290 ?_
    refine b_re (nI_add i 1) ?_
    refine b_sld (pc := 291) hx hb hXs hbl hbA hS (i + 1) (by omega) (by omega) dL_law_291 ?_
    refine b_re ex ?_
    refine lv_aload_n (pc := 292) hx hb dL_law_292 rfl (lv_at hl 0 rfl) ?_
    refine lv_iload_n (pc := 293) hx hb dL_law_293 rfl (lv_at hl 3 rfl) ?_
    refine lv_iconst (pc := 294) (v := 2) hx hb dL_law_294 (by decide) ?_
    refine lv_iadd (pc := 295) hx hb dL_law_295 ?_
    refine b_re (nI_add i 2) ?_
    refine b_sld (pc := 296) hx hb hXs hbl hbA hS (i + 2) (by omega) (by omega) dL_law_296 ?_
    refine b_re ey ?_
    refine b_cR (pc := 297) (va_runV (As := [.int (nI g), .int (nI w1)]) (rest := [.int (h_tell f g w1)]) ⟨hx, hb, hml, hown, hts⟩ (c_X4_gate_ok l D cI cC cZ cG md a kp hs sn sl iv tx n sp nu g w1 (by first | omega | assumption) (by first | omega | assumption)) (cwV 2 hts gL_law_X4_gate rfl rfl rfl hy_X4_gate ⟨Nat.le_of_ble_eq_true rfl, Nat.le_of_ble_eq_true rfl⟩) (b_pRV (wc := [((md 0), .inr (4, [.ref (md 1), .ref (md 2), .ref (md 3), .int (nI sn), .ref (md 4), .ref (md 5), .ref (md 6), .int (nI n), .int (nI sp), .int nu])), ((md 1), .inl (cI, 86, .inl a)), ((md 2), .inl (cI, 86, .inl kp)), ((md 3), .inl (cI, 516, .inl hs)), ((md 4), .inl (cI, 172, .inl sl)), ((md 5), .inl (cI, 2, .inl iv)), ((md 6), .inl (cI, 60, .inl tx))]) hK hP [19, 20, 21, 22, 23, 24, 25] rfl (ci := 4) (q0 := 0) rfl rfl) rfl rfl hl.1 rfl (lv_room (Nat.le_of_ble_eq_true rfl)) dL_law_297 ⟨hkc, hks⟩) ?_
    refine lv_icmp_eq (pc := 300) (tgt := 571) hx hb dL_law_300 (by decide) (fun c_1 => ?_) (fun c_1 => ?_)
    · skip
      have c_1 : (h_tell f g w1) = (m_gate a g w1) := c_1
      exact kk f f2 tx n nx sn R SL sv a kp hs sl iv sp nu (hB.mono (by omega)) _ _ hP hD hS ls hl
    · skip
      have c_1 : ¬ ((h_tell f g w1) = (m_gate a g w1)) := c_1
      exact absurd (e_tell hR hg hw) c_1
set_option maxHeartbeats 4000000 in
set_option maxRecDepth 100000 in
theorem law_count {p : Program} {l : Launch} {e : Env} {s : State} {m : MethodId} {below : List Frame} {meth : Method} {c : Code} {D : va_G} {cI cC cZ cG : ClassId} {A : Nat → Prop} {tb lo hi b L : Nat} {xs : Nat → Int32} {ad md : Nat → Nat} {i N : Nat} (C : lw_C p s m meth c D cI cC cZ cG A tb lo hi b L xs) (hi3 : i + 3 ≤ L) (hL : L ≤ 1536) (hN : N + 60 ≤ 1000000) (kk : lw_KK p l e s m below meth c D cI cC cZ cG A b ad md i (N + 60) 571) : lw_KK p l e s m below meth c D cI cC cZ cG A b ad md i N 305 := by
  intro f f2 tx n nx sn R SL sv a kp hs sl iv sp nu hB H locs hP hD hS ls hl
  obtain ⟨hx, hb, hml, hown, hts, hXs, hbl, hbA, hA, hK, hX⟩ := C
  have hn60 : n ≤ 60 := hB.2.1
  have hnx : nx < 6 := hB.2.2.1.1
  have hsn : sn ≤ 6 := hB.2.2.1.2
  have hR := hB.1
  have hkc : 600000 + 0 ≤ room_1.cells := Nat.le_refl _
  have hks : 7302250 + 0 ≤ room_1.slots := Nat.le_refl _
  have hl : lv_has ls 4 [(0, .ref b), (1, .ref (ad 0)), (2, .ref (md 0)), (3, .int (nI i))] := hl
  rcases cs_count (xs (i + 1)) with hbad | ⟨w1, hw, ex⟩ | ⟨w1, hw, ex⟩ | ex | ex | ex | ex
  · skip
    refine lv_aload_n (pc := 305) hx hb dL_law_305 rfl (lv_at hl 1 rfl) ?_
    refine lv_aload_n (pc := 306) hx hb dL_law_306 rfl (lv_at hl 0 rfl) ?_
    refine lv_iload_n (pc := 307) hx hb dL_law_307 rfl (lv_at hl 3 rfl) ?_
    refine lv_iconst (pc := 308) (v := 1) hx hb dL_law_308 (by decide) ?_
    refine lv_iadd (pc := 309) hx hb dL_law_309 ?_
    refine b_re (nI_add i 1) ?_
    refine b_sld (pc := 310) hx hb hXs hbl hbA hS (i + 1) (by omega) (by omega) dL_law_310 ?_
    refine b_cR (pc := 311) (va_runV (As := [.int (xs (i + 1))]) (rest := []) ⟨hx, hb, hml, hown, hts⟩ (c_X3_count_bad l D cI cC cZ cG ad f f2 tx n nx sn R SL sv (xs (i + 1)) (by first | omega | assumption) (by first | omega | assumption) (by first | omega | assumption) (by first | omega | assumption)) (cwV 1 hts gL_law_X3_count rfl rfl rfl hy_X3_count ⟨Nat.le_of_ble_eq_true rfl, Nat.le_of_ble_eq_true rfl⟩) (b_pRV (wc := [((ad 0), .inr (3, [.ref (ad 1), .ref (ad 3), .ref (ad 5), .ref (ad 7), .ref (ad 15), .ref (ad 18)])), ((ad 1), .inr (0, [.ref (ad 2)])), ((ad 2), .inl (cI, 86, .inl f)), ((ad 3), .inr (0, [.ref (ad 4)])), ((ad 4), .inl (cI, 86, .inl f2)), ((ad 5), .inr (2, [.ref (ad 6), .int (nI n)])), ((ad 6), .inl (cC, 60, .inl tx)), ((ad 7), .inr (1, [.ref (ad 8), .int (nI nx), .int (nI sn)])), ((ad 8), .inl (cG, 6, .inr (.inr (.inr (.inr (fun i => ([(ad 9), (ad 10), (ad 11), (ad 12), (ad 13), (ad 14)] : List Nat)[i]?)))))), ((ad 9), .inl (cI, 86, .inl (R 0))), ((ad 10), .inl (cI, 86, .inl (R 1))), ((ad 11), .inl (cI, 86, .inl (R 2))), ((ad 12), .inl (cI, 86, .inl (R 3))), ((ad 13), .inl (cI, 86, .inl (R 4))), ((ad 14), .inl (cI, 86, .inl (R 5))), ((ad 15), .inl (cG, 2, .inr (.inr (.inr (.inr (fun i => ([(ad 16), (ad 17)] : List Nat)[i]?)))))), ((ad 16), .inl (cI, 86, .inl (SL 0))), ((ad 17), .inl (cI, 86, .inl (SL 1))), ((ad 18), .inl (cZ, 2, .inl sv))]) hK hP [0, 1, 2, 3, 4, 5, 6, 7, 8, 9, 10, 11, 12, 13, 14, 15, 16, 17, 18] rfl (ci := 3) (q0 := 0) rfl rfl) rfl rfl hl.1 rfl (lv_room (Nat.le_of_ble_eq_true rfl)) dL_law_311 ⟨hkc, hks⟩) ?_
    refine lv_aload_n (pc := 314) hx hb dL_law_314 rfl (lv_at hl 2 rfl) ?_
    refine lv_aload_n (pc := 315) hx hb dL_law_315 rfl (lv_at hl 0 rfl) ?_
    refine lv_iload_n (pc := 316) hx hb dL_law_316 rfl (lv_at hl 3 rfl) ?_
    refine lv_iconst (pc := 317) (v := 1) hx hb dL_law_317 (by decide) ?_
    refine lv_iadd (pc := 318) hx hb dL_law_318 ?_
    refine b_re (nI_add i 1) ?_
    refine b_sld (pc := 319) hx hb hXs hbl hbA hS (i + 1) (by omega) (by omega) dL_law_319 ?_
    refine b_cR (pc := 320) (va_runV (As := [.int (xs (i + 1))]) (rest := [.int (-2)]) ⟨hx, hb, hml, hown, hts⟩ (c_X4_count_bad l D cI cC cZ cG md a kp hs sn sl iv tx n sp nu (xs (i + 1)) (by first | omega | assumption)) (cwV 1 hts gL_law_X4_count rfl rfl rfl hy_X4_count ⟨Nat.le_of_ble_eq_true rfl, Nat.le_of_ble_eq_true rfl⟩) (b_pRV (wc := [((md 0), .inr (4, [.ref (md 1), .ref (md 2), .ref (md 3), .int (nI sn), .ref (md 4), .ref (md 5), .ref (md 6), .int (nI n), .int (nI sp), .int nu])), ((md 1), .inl (cI, 86, .inl a)), ((md 2), .inl (cI, 86, .inl kp)), ((md 3), .inl (cI, 516, .inl hs)), ((md 4), .inl (cI, 172, .inl sl)), ((md 5), .inl (cI, 2, .inl iv)), ((md 6), .inl (cI, 60, .inl tx))]) hK hP [19, 20, 21, 22, 23, 24, 25] rfl (ci := 4) (q0 := 0) rfl rfl) rfl rfl hl.1 rfl (lv_room (Nat.le_of_ble_eq_true rfl)) dL_law_320 ⟨hkc, hks⟩) ?_
    refine lv_icmp_eq (pc := 323) (tgt := 571) hx hb dL_law_323 (by decide) (fun c_1 => ?_) (fun c_1 => ?_)
    · skip
      exact kk f f2 tx n nx sn R SL sv a kp hs sl iv sp nu (hB.mono (by omega)) _ _ hP hD hS ls hl
    · skip
      exact absurd c_1 (by decide)
  · skip
    refine lv_aload_n (pc := 305) hx hb dL_law_305 rfl (lv_at hl 1 rfl) ?_
    refine lv_aload_n (pc := 306) hx hb dL_law_306 rfl (lv_at hl 0 rfl) ?_
    refine lv_iload_n (pc := 307) hx hb dL_law_307 rfl (lv_at hl 3 rfl) ?_
    refine lv_iconst (pc := 308) (v := 1) hx hb dL_law_308 (by decide) ?_
    refine lv_iadd (pc := 309) hx hb dL_law_309 ?_
    refine b_re (nI_add i 1) ?_
    refine b_sld (pc := 310) hx hb hXs hbl hbA hS (i + 1) (by omega) (by omega) dL_law_310 ?_
    refine b_re ex ?_
    refine b_cR (pc := 311) (va_runV (As := [.int (nI w1)]) (rest := []) ⟨hx, hb, hml, hown, hts⟩ (c_X3_count_lo l D cI cC cZ cG ad f f2 tx n nx sn R SL sv w1 (by first | omega | assumption) (by first | omega | assumption) (by first | omega | assumption) (by first | omega | assumption)) (cwV 1 hts gL_law_X3_count rfl rfl rfl hy_X3_count ⟨Nat.le_of_ble_eq_true rfl, Nat.le_of_ble_eq_true rfl⟩) (b_pRV (wc := [((ad 0), .inr (3, [.ref (ad 1), .ref (ad 3), .ref (ad 5), .ref (ad 7), .ref (ad 15), .ref (ad 18)])), ((ad 1), .inr (0, [.ref (ad 2)])), ((ad 2), .inl (cI, 86, .inl f)), ((ad 3), .inr (0, [.ref (ad 4)])), ((ad 4), .inl (cI, 86, .inl f2)), ((ad 5), .inr (2, [.ref (ad 6), .int (nI n)])), ((ad 6), .inl (cC, 60, .inl tx)), ((ad 7), .inr (1, [.ref (ad 8), .int (nI nx), .int (nI sn)])), ((ad 8), .inl (cG, 6, .inr (.inr (.inr (.inr (fun i => ([(ad 9), (ad 10), (ad 11), (ad 12), (ad 13), (ad 14)] : List Nat)[i]?)))))), ((ad 9), .inl (cI, 86, .inl (R 0))), ((ad 10), .inl (cI, 86, .inl (R 1))), ((ad 11), .inl (cI, 86, .inl (R 2))), ((ad 12), .inl (cI, 86, .inl (R 3))), ((ad 13), .inl (cI, 86, .inl (R 4))), ((ad 14), .inl (cI, 86, .inl (R 5))), ((ad 15), .inl (cG, 2, .inr (.inr (.inr (.inr (fun i => ([(ad 16), (ad 17)] : List Nat)[i]?)))))), ((ad 16), .inl (cI, 86, .inl (SL 0))), ((ad 17), .inl (cI, 86, .inl (SL 1))), ((ad 18), .inl (cZ, 2, .inl sv))]) hK hP [0, 1, 2, 3, 4, 5, 6, 7, 8, 9, 10, 11, 12, 13, 14, 15, 16, 17, 18] rfl (ci := 3) (q0 := 0) rfl rfl) rfl rfl hl.1 rfl (lv_room (Nat.le_of_ble_eq_true rfl)) dL_law_311 ⟨hkc, hks⟩) ?_
    refine lv_aload_n (pc := 314) hx hb dL_law_314 rfl (lv_at hl 2 rfl) ?_
    refine lv_aload_n (pc := 315) hx hb dL_law_315 rfl (lv_at hl 0 rfl) ?_
    refine lv_iload_n (pc := 316) hx hb dL_law_316 rfl (lv_at hl 3 rfl) ?_
    refine lv_iconst (pc := 317) (v := 1) hx hb dL_law_317 (by decide) ?_
    refine lv_iadd (pc := 318) hx hb dL_law_318 ?_
    refine b_re (nI_add i 1) ?_
    refine b_sld (pc := 319) hx hb hXs hbl hbA hS (i + 1) (by omega) (by omega) dL_law_319 ?_
    refine b_re ex ?_
    refine b_cR (pc := 320) (va_runV (As := [.int (nI w1)]) (rest := [.int (f w1)]) ⟨hx, hb, hml, hown, hts⟩ (c_X4_count_lo l D cI cC cZ cG md a kp hs sn sl iv tx n sp nu w1 (by first | omega | assumption)) (cwV 1 hts gL_law_X4_count rfl rfl rfl hy_X4_count ⟨Nat.le_of_ble_eq_true rfl, Nat.le_of_ble_eq_true rfl⟩) (b_pRV (wc := [((md 0), .inr (4, [.ref (md 1), .ref (md 2), .ref (md 3), .int (nI sn), .ref (md 4), .ref (md 5), .ref (md 6), .int (nI n), .int (nI sp), .int nu])), ((md 1), .inl (cI, 86, .inl a)), ((md 2), .inl (cI, 86, .inl kp)), ((md 3), .inl (cI, 516, .inl hs)), ((md 4), .inl (cI, 172, .inl sl)), ((md 5), .inl (cI, 2, .inl iv)), ((md 6), .inl (cI, 60, .inl tx))]) hK hP [19, 20, 21, 22, 23, 24, 25] rfl (ci := 4) (q0 := 0) rfl rfl) rfl rfl hl.1 rfl (lv_room (Nat.le_of_ble_eq_true rfl)) dL_law_320 ⟨hkc, hks⟩) ?_
    refine lv_icmp_eq (pc := 323) (tgt := 571) hx hb dL_law_323 (by decide) (fun c_1 => ?_) (fun c_1 => ?_)
    · skip
      have c_1 : (f w1) = (a w1) := c_1
      exact kk f f2 tx n nx sn R SL sv a kp hs sl iv sp nu (hB.mono (by omega)) _ _ hP hD hS ls hl
    · skip
      have c_1 : ¬ ((f w1) = (a w1)) := c_1
      exact absurd (hR.1.get (w := w1) hw).symm c_1
  · skip
    refine lv_aload_n (pc := 305) hx hb dL_law_305 rfl (lv_at hl 1 rfl) ?_
    refine lv_aload_n (pc := 306) hx hb dL_law_306 rfl (lv_at hl 0 rfl) ?_
    refine lv_iload_n (pc := 307) hx hb dL_law_307 rfl (lv_at hl 3 rfl) ?_
    refine lv_iconst (pc := 308) (v := 1) hx hb dL_law_308 (by decide) ?_
    refine lv_iadd (pc := 309) hx hb dL_law_309 ?_
    refine b_re (nI_add i 1) ?_
    refine b_sld (pc := 310) hx hb hXs hbl hbA hS (i + 1) (by omega) (by omega) dL_law_310 ?_
    refine b_re ex ?_
    refine b_cR (pc := 311) (va_runV (As := [.int (nI w1)]) (rest := []) ⟨hx, hb, hml, hown, hts⟩ (c_X3_count_mid l D cI cC cZ cG ad f f2 tx n nx sn R SL sv w1 (by first | omega | assumption) (by first | omega | assumption) (by first | omega | assumption) (by first | omega | assumption)) (cwV 1 hts gL_law_X3_count rfl rfl rfl hy_X3_count ⟨Nat.le_of_ble_eq_true rfl, Nat.le_of_ble_eq_true rfl⟩) (b_pRV (wc := [((ad 0), .inr (3, [.ref (ad 1), .ref (ad 3), .ref (ad 5), .ref (ad 7), .ref (ad 15), .ref (ad 18)])), ((ad 1), .inr (0, [.ref (ad 2)])), ((ad 2), .inl (cI, 86, .inl f)), ((ad 3), .inr (0, [.ref (ad 4)])), ((ad 4), .inl (cI, 86, .inl f2)), ((ad 5), .inr (2, [.ref (ad 6), .int (nI n)])), ((ad 6), .inl (cC, 60, .inl tx)), ((ad 7), .inr (1, [.ref (ad 8), .int (nI nx), .int (nI sn)])), ((ad 8), .inl (cG, 6, .inr (.inr (.inr (.inr (fun i => ([(ad 9), (ad 10), (ad 11), (ad 12), (ad 13), (ad 14)] : List Nat)[i]?)))))), ((ad 9), .inl (cI, 86, .inl (R 0))), ((ad 10), .inl (cI, 86, .inl (R 1))), ((ad 11), .inl (cI, 86, .inl (R 2))), ((ad 12), .inl (cI, 86, .inl (R 3))), ((ad 13), .inl (cI, 86, .inl (R 4))), ((ad 14), .inl (cI, 86, .inl (R 5))), ((ad 15), .inl (cG, 2, .inr (.inr (.inr (.inr (fun i => ([(ad 16), (ad 17)] : List Nat)[i]?)))))), ((ad 16), .inl (cI, 86, .inl (SL 0))), ((ad 17), .inl (cI, 86, .inl (SL 1))), ((ad 18), .inl (cZ, 2, .inl sv))]) hK hP [0, 1, 2, 3, 4, 5, 6, 7, 8, 9, 10, 11, 12, 13, 14, 15, 16, 17, 18] rfl (ci := 3) (q0 := 0) rfl rfl) rfl rfl hl.1 rfl (lv_room (Nat.le_of_ble_eq_true rfl)) dL_law_311 ⟨hkc, hks⟩) ?_
    refine lv_aload_n (pc := 314) hx hb dL_law_314 rfl (lv_at hl 2 rfl) ?_
    refine lv_aload_n (pc := 315) hx hb dL_law_315 rfl (lv_at hl 0 rfl) ?_
    refine lv_iload_n (pc := 316) hx hb dL_law_316 rfl (lv_at hl 3 rfl) ?_
    refine lv_iconst (pc := 317) (v := 1) hx hb dL_law_317 (by decide) ?_
    refine lv_iadd (pc := 318) hx hb dL_law_318 ?_
    refine b_re (nI_add i 1) ?_
    refine b_sld (pc := 319) hx hb hXs hbl hbA hS (i + 1) (by omega) (by omega) dL_law_319 ?_
    refine b_re ex ?_
    refine b_cR (pc := 320) (va_runV (As := [.int (nI w1)]) (rest := [.int (h_sum f (w1 - 8 + 5) 6)]) ⟨hx, hb, hml, hown, hts⟩ (c_X4_count_mid l D cI cC cZ cG md a kp hs sn sl iv tx n sp nu w1 (by first | omega | assumption)) (cwV 1 hts gL_law_X4_count rfl rfl rfl hy_X4_count ⟨Nat.le_of_ble_eq_true rfl, Nat.le_of_ble_eq_true rfl⟩) (b_pRV (wc := [((md 0), .inr (4, [.ref (md 1), .ref (md 2), .ref (md 3), .int (nI sn), .ref (md 4), .ref (md 5), .ref (md 6), .int (nI n), .int (nI sp), .int nu])), ((md 1), .inl (cI, 86, .inl a)), ((md 2), .inl (cI, 86, .inl kp)), ((md 3), .inl (cI, 516, .inl hs)), ((md 4), .inl (cI, 172, .inl sl)), ((md 5), .inl (cI, 2, .inl iv)), ((md 6), .inl (cI, 60, .inl tx))]) hK hP [19, 20, 21, 22, 23, 24, 25] rfl (ci := 4) (q0 := 0) rfl rfl) rfl rfl hl.1 rfl (lv_room (Nat.le_of_ble_eq_true rfl)) dL_law_320 ⟨hkc, hks⟩) ?_
    refine lv_icmp_eq (pc := 323) (tgt := 571) hx hb dL_law_323 (by decide) (fun c_1 => ?_) (fun c_1 => ?_)
    · skip
      have c_1 : (h_sum f (w1 - 8 + 5) 6) = (m_sum a (4 + w1 - 8) 6) := c_1
      exact kk f f2 tx n nx sn R SL sv a kp hs sl iv sp nu (hB.mono (by omega)) _ _ hP hD hS ls hl
    · skip
      have c_1 : ¬ ((h_sum f (w1 - 8 + 5) 6) = (m_sum a (4 + w1 - 8) 6)) := c_1
      exact absurd ((e_sum hR (w := w1 - 8 + 5) (by omega) (by omega) 6 (Nat.le_refl 6)).trans (by rw [show w1 - 8 + 5 - 1 = 4 + w1 - 8 by omega])) c_1
  · skip
    refine lv_aload_n (pc := 305) hx hb dL_law_305 rfl (lv_at hl 1 rfl) ?_
    refine lv_aload_n (pc := 306) hx hb dL_law_306 rfl (lv_at hl 0 rfl) ?_
    refine lv_iload_n (pc := 307) hx hb dL_law_307 rfl (lv_at hl 3 rfl) ?_
    refine lv_iconst (pc := 308) (v := 1) hx hb dL_law_308 (by decide) ?_
    refine lv_iadd (pc := 309) hx hb dL_law_309 ?_
    refine b_re (nI_add i 1) ?_
    refine b_sld (pc := 310) hx hb hXs hbl hbA hS (i + 1) (by omega) (by omega) dL_law_310 ?_
    refine b_re ex ?_
    refine b_cR (pc := 311) (va_runV (As := [.int (nI 14)]) (rest := []) ⟨hx, hb, hml, hown, hts⟩ (c_X3_count_14 l D cI cC cZ cG ad f f2 tx n nx sn R SL sv (by first | omega | assumption) (by first | omega | assumption) (by first | omega | assumption)) (cwV 1 hts gL_law_X3_count rfl rfl rfl hy_X3_count ⟨Nat.le_of_ble_eq_true rfl, Nat.le_of_ble_eq_true rfl⟩) (b_pRV (wc := [((ad 0), .inr (3, [.ref (ad 1), .ref (ad 3), .ref (ad 5), .ref (ad 7), .ref (ad 15), .ref (ad 18)])), ((ad 1), .inr (0, [.ref (ad 2)])), ((ad 2), .inl (cI, 86, .inl f)), ((ad 3), .inr (0, [.ref (ad 4)])), ((ad 4), .inl (cI, 86, .inl f2)), ((ad 5), .inr (2, [.ref (ad 6), .int (nI n)])), ((ad 6), .inl (cC, 60, .inl tx)), ((ad 7), .inr (1, [.ref (ad 8), .int (nI nx), .int (nI sn)])), ((ad 8), .inl (cG, 6, .inr (.inr (.inr (.inr (fun i => ([(ad 9), (ad 10), (ad 11), (ad 12), (ad 13), (ad 14)] : List Nat)[i]?)))))), ((ad 9), .inl (cI, 86, .inl (R 0))), ((ad 10), .inl (cI, 86, .inl (R 1))), ((ad 11), .inl (cI, 86, .inl (R 2))), ((ad 12), .inl (cI, 86, .inl (R 3))), ((ad 13), .inl (cI, 86, .inl (R 4))), ((ad 14), .inl (cI, 86, .inl (R 5))), ((ad 15), .inl (cG, 2, .inr (.inr (.inr (.inr (fun i => ([(ad 16), (ad 17)] : List Nat)[i]?)))))), ((ad 16), .inl (cI, 86, .inl (SL 0))), ((ad 17), .inl (cI, 86, .inl (SL 1))), ((ad 18), .inl (cZ, 2, .inl sv))]) hK hP [0, 1, 2, 3, 4, 5, 6, 7, 8, 9, 10, 11, 12, 13, 14, 15, 16, 17, 18] rfl (ci := 3) (q0 := 0) rfl rfl) rfl rfl hl.1 rfl (lv_room (Nat.le_of_ble_eq_true rfl)) dL_law_311 ⟨hkc, hks⟩) ?_
    refine lv_aload_n (pc := 314) hx hb dL_law_314 rfl (lv_at hl 2 rfl) ?_
    refine lv_aload_n (pc := 315) hx hb dL_law_315 rfl (lv_at hl 0 rfl) ?_
    refine lv_iload_n (pc := 316) hx hb dL_law_316 rfl (lv_at hl 3 rfl) ?_
    refine lv_iconst (pc := 317) (v := 1) hx hb dL_law_317 (by decide) ?_
    refine lv_iadd (pc := 318) hx hb dL_law_318 ?_
    refine b_re (nI_add i 1) ?_
    refine b_sld (pc := 319) hx hb hXs hbl hbA hS (i + 1) (by omega) (by omega) dL_law_319 ?_
    refine b_re ex ?_
    refine b_cR (pc := 320) (va_runV (As := [.int (nI 14)]) (rest := [.int (h_bm f 6)]) ⟨hx, hb, hml, hown, hts⟩ (c_X4_count_14 l D cI cC cZ cG md a kp hs sn sl iv tx n sp nu) (cwV 1 hts gL_law_X4_count rfl rfl rfl hy_X4_count ⟨Nat.le_of_ble_eq_true rfl, Nat.le_of_ble_eq_true rfl⟩) (b_pRV (wc := [((md 0), .inr (4, [.ref (md 1), .ref (md 2), .ref (md 3), .int (nI sn), .ref (md 4), .ref (md 5), .ref (md 6), .int (nI n), .int (nI sp), .int nu])), ((md 1), .inl (cI, 86, .inl a)), ((md 2), .inl (cI, 86, .inl kp)), ((md 3), .inl (cI, 516, .inl hs)), ((md 4), .inl (cI, 172, .inl sl)), ((md 5), .inl (cI, 2, .inl iv)), ((md 6), .inl (cI, 60, .inl tx))]) hK hP [19, 20, 21, 22, 23, 24, 25] rfl (ci := 4) (q0 := 0) rfl rfl) rfl rfl hl.1 rfl (lv_room (Nat.le_of_ble_eq_true rfl)) dL_law_320 ⟨hkc, hks⟩) ?_
    refine lv_icmp_eq (pc := 323) (tgt := 571) hx hb dL_law_323 (by decide) (fun c_1 => ?_) (fun c_1 => ?_)
    · skip
      have c_1 : (h_bm f 6) = (m_bm6 a 6) := c_1
      exact kk f f2 tx n nx sn R SL sv a kp hs sl iv sp nu (hB.mono (by omega)) _ _ hP hD hS ls hl
    · skip
      have c_1 : ¬ ((h_bm f 6) = (m_bm6 a 6)) := c_1
      exact absurd (e_bm hR 6 (Nat.le_refl 6)) c_1
  · skip
    refine lv_aload_n (pc := 305) hx hb dL_law_305 rfl (lv_at hl 1 rfl) ?_
    refine lv_aload_n (pc := 306) hx hb dL_law_306 rfl (lv_at hl 0 rfl) ?_
    refine lv_iload_n (pc := 307) hx hb dL_law_307 rfl (lv_at hl 3 rfl) ?_
    refine lv_iconst (pc := 308) (v := 1) hx hb dL_law_308 (by decide) ?_
    refine lv_iadd (pc := 309) hx hb dL_law_309 ?_
    refine b_re (nI_add i 1) ?_
    refine b_sld (pc := 310) hx hb hXs hbl hbA hS (i + 1) (by omega) (by omega) dL_law_310 ?_
    refine b_re ex ?_
    refine b_cR (pc := 311) (va_runV (As := [.int (nI 15)]) (rest := []) ⟨hx, hb, hml, hown, hts⟩ (c_X3_count_15 l D cI cC cZ cG ad f f2 tx n nx sn R SL sv (by first | omega | assumption) (by first | omega | assumption) (by first | omega | assumption)) (cwV 1 hts gL_law_X3_count rfl rfl rfl hy_X3_count ⟨Nat.le_of_ble_eq_true rfl, Nat.le_of_ble_eq_true rfl⟩) (b_pRV (wc := [((ad 0), .inr (3, [.ref (ad 1), .ref (ad 3), .ref (ad 5), .ref (ad 7), .ref (ad 15), .ref (ad 18)])), ((ad 1), .inr (0, [.ref (ad 2)])), ((ad 2), .inl (cI, 86, .inl f)), ((ad 3), .inr (0, [.ref (ad 4)])), ((ad 4), .inl (cI, 86, .inl f2)), ((ad 5), .inr (2, [.ref (ad 6), .int (nI n)])), ((ad 6), .inl (cC, 60, .inl tx)), ((ad 7), .inr (1, [.ref (ad 8), .int (nI nx), .int (nI sn)])), ((ad 8), .inl (cG, 6, .inr (.inr (.inr (.inr (fun i => ([(ad 9), (ad 10), (ad 11), (ad 12), (ad 13), (ad 14)] : List Nat)[i]?)))))), ((ad 9), .inl (cI, 86, .inl (R 0))), ((ad 10), .inl (cI, 86, .inl (R 1))), ((ad 11), .inl (cI, 86, .inl (R 2))), ((ad 12), .inl (cI, 86, .inl (R 3))), ((ad 13), .inl (cI, 86, .inl (R 4))), ((ad 14), .inl (cI, 86, .inl (R 5))), ((ad 15), .inl (cG, 2, .inr (.inr (.inr (.inr (fun i => ([(ad 16), (ad 17)] : List Nat)[i]?)))))), ((ad 16), .inl (cI, 86, .inl (SL 0))), ((ad 17), .inl (cI, 86, .inl (SL 1))), ((ad 18), .inl (cZ, 2, .inl sv))]) hK hP [0, 1, 2, 3, 4, 5, 6, 7, 8, 9, 10, 11, 12, 13, 14, 15, 16, 17, 18] rfl (ci := 3) (q0 := 0) rfl rfl) rfl rfl hl.1 rfl (lv_room (Nat.le_of_ble_eq_true rfl)) dL_law_311 ⟨hkc, hks⟩) ?_
    refine lv_aload_n (pc := 314) hx hb dL_law_314 rfl (lv_at hl 2 rfl) ?_
    refine lv_aload_n (pc := 315) hx hb dL_law_315 rfl (lv_at hl 0 rfl) ?_
    refine lv_iload_n (pc := 316) hx hb dL_law_316 rfl (lv_at hl 3 rfl) ?_
    refine lv_iconst (pc := 317) (v := 1) hx hb dL_law_317 (by decide) ?_
    refine lv_iadd (pc := 318) hx hb dL_law_318 ?_
    refine b_re (nI_add i 1) ?_
    refine b_sld (pc := 319) hx hb hXs hbl hbA hS (i + 1) (by omega) (by omega) dL_law_319 ?_
    refine b_re ex ?_
    refine b_cR (pc := 320) (va_runV (As := [.int (nI 15)]) (rest := [.int (h_um f 6)]) ⟨hx, hb, hml, hown, hts⟩ (c_X4_count_15 l D cI cC cZ cG md a kp hs sn sl iv tx n sp nu) (cwV 1 hts gL_law_X4_count rfl rfl rfl hy_X4_count ⟨Nat.le_of_ble_eq_true rfl, Nat.le_of_ble_eq_true rfl⟩) (b_pRV (wc := [((md 0), .inr (4, [.ref (md 1), .ref (md 2), .ref (md 3), .int (nI sn), .ref (md 4), .ref (md 5), .ref (md 6), .int (nI n), .int (nI sp), .int nu])), ((md 1), .inl (cI, 86, .inl a)), ((md 2), .inl (cI, 86, .inl kp)), ((md 3), .inl (cI, 516, .inl hs)), ((md 4), .inl (cI, 172, .inl sl)), ((md 5), .inl (cI, 2, .inl iv)), ((md 6), .inl (cI, 60, .inl tx))]) hK hP [19, 20, 21, 22, 23, 24, 25] rfl (ci := 4) (q0 := 0) rfl rfl) rfl rfl hl.1 rfl (lv_room (Nat.le_of_ble_eq_true rfl)) dL_law_320 ⟨hkc, hks⟩) ?_
    refine lv_icmp_eq (pc := 323) (tgt := 571) hx hb dL_law_323 (by decide) (fun c_1 => ?_) (fun c_1 => ?_)
    · skip
      have c_1 : (h_um f 6) = (m_um a 6) := c_1
      exact kk f f2 tx n nx sn R SL sv a kp hs sl iv sp nu (hB.mono (by omega)) _ _ hP hD hS ls hl
    · skip
      have c_1 : ¬ ((h_um f 6) = (m_um a 6)) := c_1
      exact absurd (e_um hR 6 (Nat.le_refl 6)) c_1
  · skip
    refine lv_aload_n (pc := 305) hx hb dL_law_305 rfl (lv_at hl 1 rfl) ?_
    refine lv_aload_n (pc := 306) hx hb dL_law_306 rfl (lv_at hl 0 rfl) ?_
    refine lv_iload_n (pc := 307) hx hb dL_law_307 rfl (lv_at hl 3 rfl) ?_
    refine lv_iconst (pc := 308) (v := 1) hx hb dL_law_308 (by decide) ?_
    refine lv_iadd (pc := 309) hx hb dL_law_309 ?_
    refine b_re (nI_add i 1) ?_
    refine b_sld (pc := 310) hx hb hXs hbl hbA hS (i + 1) (by omega) (by omega) dL_law_310 ?_
    refine b_re ex ?_
    refine b_cR (pc := 311) (va_runV (As := [.int (nI 16)]) (rest := []) ⟨hx, hb, hml, hown, hts⟩ (c_X3_count_16 l D cI cC cZ cG ad f f2 tx n nx sn R SL sv (by first | omega | assumption) (by first | omega | assumption) (by first | omega | assumption)) (cwV 1 hts gL_law_X3_count rfl rfl rfl hy_X3_count ⟨Nat.le_of_ble_eq_true rfl, Nat.le_of_ble_eq_true rfl⟩) (b_pRV (wc := [((ad 0), .inr (3, [.ref (ad 1), .ref (ad 3), .ref (ad 5), .ref (ad 7), .ref (ad 15), .ref (ad 18)])), ((ad 1), .inr (0, [.ref (ad 2)])), ((ad 2), .inl (cI, 86, .inl f)), ((ad 3), .inr (0, [.ref (ad 4)])), ((ad 4), .inl (cI, 86, .inl f2)), ((ad 5), .inr (2, [.ref (ad 6), .int (nI n)])), ((ad 6), .inl (cC, 60, .inl tx)), ((ad 7), .inr (1, [.ref (ad 8), .int (nI nx), .int (nI sn)])), ((ad 8), .inl (cG, 6, .inr (.inr (.inr (.inr (fun i => ([(ad 9), (ad 10), (ad 11), (ad 12), (ad 13), (ad 14)] : List Nat)[i]?)))))), ((ad 9), .inl (cI, 86, .inl (R 0))), ((ad 10), .inl (cI, 86, .inl (R 1))), ((ad 11), .inl (cI, 86, .inl (R 2))), ((ad 12), .inl (cI, 86, .inl (R 3))), ((ad 13), .inl (cI, 86, .inl (R 4))), ((ad 14), .inl (cI, 86, .inl (R 5))), ((ad 15), .inl (cG, 2, .inr (.inr (.inr (.inr (fun i => ([(ad 16), (ad 17)] : List Nat)[i]?)))))), ((ad 16), .inl (cI, 86, .inl (SL 0))), ((ad 17), .inl (cI, 86, .inl (SL 1))), ((ad 18), .inl (cZ, 2, .inl sv))]) hK hP [0, 1, 2, 3, 4, 5, 6, 7, 8, 9, 10, 11, 12, 13, 14, 15, 16, 17, 18] rfl (ci := 3) (q0 := 0) rfl rfl) rfl rfl hl.1 rfl (lv_room (Nat.le_of_ble_eq_true rfl)) dL_law_311 ⟨hkc, hks⟩) ?_
    refine lv_aload_n (pc := 314) hx hb dL_law_314 rfl (lv_at hl 2 rfl) ?_
    refine lv_aload_n (pc := 315) hx hb dL_law_315 rfl (lv_at hl 0 rfl) ?_
    refine lv_iload_n (pc := 316) hx hb dL_law_316 rfl (lv_at hl 3 rfl) ?_
    refine lv_iconst (pc := 317) (v := 1) hx hb dL_law_317 (by decide) ?_
    refine lv_iadd (pc := 318) hx hb dL_law_318 ?_
    refine b_re (nI_add i 1) ?_
    refine b_sld (pc := 319) hx hb hXs hbl hbA hS (i + 1) (by omega) (by omega) dL_law_319 ?_
    refine b_re ex ?_
    refine b_cR (pc := 320) (va_runV (As := [.int (nI 16)]) (rest := [.int (nI n)]) ⟨hx, hb, hml, hown, hts⟩ (c_X4_count_16 l D cI cC cZ cG md a kp hs sn sl iv tx n sp nu) (cwV 1 hts gL_law_X4_count rfl rfl rfl hy_X4_count ⟨Nat.le_of_ble_eq_true rfl, Nat.le_of_ble_eq_true rfl⟩) (b_pRV (wc := [((md 0), .inr (4, [.ref (md 1), .ref (md 2), .ref (md 3), .int (nI sn), .ref (md 4), .ref (md 5), .ref (md 6), .int (nI n), .int (nI sp), .int nu])), ((md 1), .inl (cI, 86, .inl a)), ((md 2), .inl (cI, 86, .inl kp)), ((md 3), .inl (cI, 516, .inl hs)), ((md 4), .inl (cI, 172, .inl sl)), ((md 5), .inl (cI, 2, .inl iv)), ((md 6), .inl (cI, 60, .inl tx))]) hK hP [19, 20, 21, 22, 23, 24, 25] rfl (ci := 4) (q0 := 0) rfl rfl) rfl rfl hl.1 rfl (lv_room (Nat.le_of_ble_eq_true rfl)) dL_law_320 ⟨hkc, hks⟩) ?_
    refine lv_icmp_eq (pc := 323) (tgt := 571) hx hb dL_law_323 (by decide) (fun c_1 => ?_) (fun c_1 => ?_)
    · skip
      have c_1 : (nI n) = (nI n) := c_1
      exact kk f f2 tx n nx sn R SL sv a kp hs sl iv sp nu (hB.mono (by omega)) _ _ hP hD hS ls hl
    · skip
      have c_1 : ¬ ((nI n) = (nI n)) := c_1
      exact absurd rfl c_1
  · skip
    refine lv_aload_n (pc := 305) hx hb dL_law_305 rfl (lv_at hl 1 rfl) ?_
    refine lv_aload_n (pc := 306) hx hb dL_law_306 rfl (lv_at hl 0 rfl) ?_
    refine lv_iload_n (pc := 307) hx hb dL_law_307 rfl (lv_at hl 3 rfl) ?_
    refine lv_iconst (pc := 308) (v := 1) hx hb dL_law_308 (by decide) ?_
    refine lv_iadd (pc := 309) hx hb dL_law_309 ?_
    refine b_re (nI_add i 1) ?_
    refine b_sld (pc := 310) hx hb hXs hbl hbA hS (i + 1) (by omega) (by omega) dL_law_310 ?_
    refine b_re ex ?_
    refine b_cR (pc := 311) (va_runV (As := [.int (nI 17)]) (rest := []) ⟨hx, hb, hml, hown, hts⟩ (c_X3_count_17 l D cI cC cZ cG ad f f2 tx n nx sn R SL sv (by first | omega | assumption) (by first | omega | assumption) (by first | omega | assumption)) (cwV 1 hts gL_law_X3_count rfl rfl rfl hy_X3_count ⟨Nat.le_of_ble_eq_true rfl, Nat.le_of_ble_eq_true rfl⟩) (b_pRV (wc := [((ad 0), .inr (3, [.ref (ad 1), .ref (ad 3), .ref (ad 5), .ref (ad 7), .ref (ad 15), .ref (ad 18)])), ((ad 1), .inr (0, [.ref (ad 2)])), ((ad 2), .inl (cI, 86, .inl f)), ((ad 3), .inr (0, [.ref (ad 4)])), ((ad 4), .inl (cI, 86, .inl f2)), ((ad 5), .inr (2, [.ref (ad 6), .int (nI n)])), ((ad 6), .inl (cC, 60, .inl tx)), ((ad 7), .inr (1, [.ref (ad 8), .int (nI nx), .int (nI sn)])), ((ad 8), .inl (cG, 6, .inr (.inr (.inr (.inr (fun i => ([(ad 9), (ad 10), (ad 11), (ad 12), (ad 13), (ad 14)] : List Nat)[i]?)))))), ((ad 9), .inl (cI, 86, .inl (R 0))), ((ad 10), .inl (cI, 86, .inl (R 1))), ((ad 11), .inl (cI, 86, .inl (R 2))), ((ad 12), .inl (cI, 86, .inl (R 3))), ((ad 13), .inl (cI, 86, .inl (R 4))), ((ad 14), .inl (cI, 86, .inl (R 5))), ((ad 15), .inl (cG, 2, .inr (.inr (.inr (.inr (fun i => ([(ad 16), (ad 17)] : List Nat)[i]?)))))), ((ad 16), .inl (cI, 86, .inl (SL 0))), ((ad 17), .inl (cI, 86, .inl (SL 1))), ((ad 18), .inl (cZ, 2, .inl sv))]) hK hP [0, 1, 2, 3, 4, 5, 6, 7, 8, 9, 10, 11, 12, 13, 14, 15, 16, 17, 18] rfl (ci := 3) (q0 := 0) rfl rfl) rfl rfl hl.1 rfl (lv_room (Nat.le_of_ble_eq_true rfl)) dL_law_311 ⟨hkc, hks⟩) ?_
    refine lv_aload_n (pc := 314) hx hb dL_law_314 rfl (lv_at hl 2 rfl) ?_
    refine lv_aload_n (pc := 315) hx hb dL_law_315 rfl (lv_at hl 0 rfl) ?_
    refine lv_iload_n (pc := 316) hx hb dL_law_316 rfl (lv_at hl 3 rfl) ?_
    refine lv_iconst (pc := 317) (v := 1) hx hb dL_law_317 (by decide) ?_
    refine lv_iadd (pc := 318) hx hb dL_law_318 ?_
    refine b_re (nI_add i 1) ?_
    refine b_sld (pc := 319) hx hb hXs hbl hbA hS (i + 1) (by omega) (by omega) dL_law_319 ?_
    refine b_re ex ?_
    refine b_cR (pc := 320) (va_runV (As := [.int (nI 17)]) (rest := [.int (nI sn)]) ⟨hx, hb, hml, hown, hts⟩ (c_X4_count_17 l D cI cC cZ cG md a kp hs sn sl iv tx n sp nu) (cwV 1 hts gL_law_X4_count rfl rfl rfl hy_X4_count ⟨Nat.le_of_ble_eq_true rfl, Nat.le_of_ble_eq_true rfl⟩) (b_pRV (wc := [((md 0), .inr (4, [.ref (md 1), .ref (md 2), .ref (md 3), .int (nI sn), .ref (md 4), .ref (md 5), .ref (md 6), .int (nI n), .int (nI sp), .int nu])), ((md 1), .inl (cI, 86, .inl a)), ((md 2), .inl (cI, 86, .inl kp)), ((md 3), .inl (cI, 516, .inl hs)), ((md 4), .inl (cI, 172, .inl sl)), ((md 5), .inl (cI, 2, .inl iv)), ((md 6), .inl (cI, 60, .inl tx))]) hK hP [19, 20, 21, 22, 23, 24, 25] rfl (ci := 4) (q0 := 0) rfl rfl) rfl rfl hl.1 rfl (lv_room (Nat.le_of_ble_eq_true rfl)) dL_law_320 ⟨hkc, hks⟩) ?_
    refine lv_icmp_eq (pc := 323) (tgt := 571) hx hb dL_law_323 (by decide) (fun c_1 => ?_) (fun c_1 => ?_)
    · skip
      have c_1 : (nI sn) = (nI sn) := c_1
      exact kk f f2 tx n nx sn R SL sv a kp hs sl iv sp nu (hB.mono (by omega)) _ _ hP hD hS ls hl
    · skip
      have c_1 : ¬ ((nI sn) = (nI sn)) := c_1
      exact absurd rfl c_1
set_option maxHeartbeats 4000000 in
set_option maxRecDepth 100000 in
theorem law_mean {p : Program} {l : Launch} {e : Env} {s : State} {m : MethodId} {below : List Frame} {meth : Method} {c : Code} {D : va_G} {cI cC cZ cG : ClassId} {A : Nat → Prop} {tb lo hi b L : Nat} {xs : Nat → Int32} {ad md : Nat → Nat} {i N : Nat} (C : lw_C p s m meth c D cI cC cZ cG A tb lo hi b L xs) (hi3 : i + 3 ≤ L) (hL : L ≤ 1536) (hN : N + 60 ≤ 1000000) (kk : lw_KK p l e s m below meth c D cI cC cZ cG A b ad md i (N + 60) 571) : lw_KK p l e s m below meth c D cI cC cZ cG A b ad md i N 328 := by
  intro f f2 tx n nx sn R SL sv a kp hs sl iv sp nu hB H locs hP hD hS ls hl
  obtain ⟨hx, hb, hml, hown, hts, hXs, hbl, hbA, hA, hK, hX⟩ := C
  have hn60 : n ≤ 60 := hB.2.1
  have hnx : nx < 6 := hB.2.2.1.1
  have hsn : sn ≤ 6 := hB.2.2.1.2
  have hR := hB.1
  have hkc : 600000 + 0 ≤ room_1.cells := Nat.le_refl _
  have hks : 7302250 + 0 ≤ room_1.slots := Nat.le_refl _
  have hl : lv_has ls 4 [(0, .ref b), (1, .ref (ad 0)), (2, .ref (md 0)), (3, .int (nI i))] := hl
  rcases cs_g (xs (i + 1)) with hbad | ⟨g, hg, ex⟩
  · skip
    refine lv_aload_n (pc := 328) hx hb dL_law_328 rfl (lv_at hl 1 rfl) ?_
    refine lv_aload_n (pc := 329) hx hb dL_law_329 rfl (lv_at hl 0 rfl) ?_
    refine lv_iload_n (pc := 330) hx hb dL_law_330 rfl (lv_at hl 3 rfl) ?_
    refine lv_iconst (pc := 331) (v := 1) hx hb dL_law_331 (by decide) ?_
    refine lv_iadd (pc := 332) hx hb dL_law_332 ?_
    refine b_re (nI_add i 1) ?_
    refine b_sld (pc := 333) hx hb hXs hbl hbA hS (i + 1) (by omega) (by omega) dL_law_333 ?_
    refine b_cR (pc := 334) (va_runV (As := [.int (xs (i + 1))]) (rest := []) ⟨hx, hb, hml, hown, hts⟩ (c_X3_mean_ng l D cI cC cZ cG ad f f2 tx n nx sn R SL sv (xs (i + 1)) (by first | omega | assumption) (by first | omega | assumption) (by first | omega | assumption) (by first | omega | assumption)) (cwV 1 hts gL_law_X3_mean rfl rfl rfl hy_X3_mean ⟨Nat.le_of_ble_eq_true rfl, Nat.le_of_ble_eq_true rfl⟩) (b_pRV (wc := [((ad 0), .inr (3, [.ref (ad 1), .ref (ad 3), .ref (ad 5), .ref (ad 7), .ref (ad 15), .ref (ad 18)])), ((ad 1), .inr (0, [.ref (ad 2)])), ((ad 2), .inl (cI, 86, .inl f)), ((ad 3), .inr (0, [.ref (ad 4)])), ((ad 4), .inl (cI, 86, .inl f2)), ((ad 5), .inr (2, [.ref (ad 6), .int (nI n)])), ((ad 6), .inl (cC, 60, .inl tx)), ((ad 7), .inr (1, [.ref (ad 8), .int (nI nx), .int (nI sn)])), ((ad 8), .inl (cG, 6, .inr (.inr (.inr (.inr (fun i => ([(ad 9), (ad 10), (ad 11), (ad 12), (ad 13), (ad 14)] : List Nat)[i]?)))))), ((ad 9), .inl (cI, 86, .inl (R 0))), ((ad 10), .inl (cI, 86, .inl (R 1))), ((ad 11), .inl (cI, 86, .inl (R 2))), ((ad 12), .inl (cI, 86, .inl (R 3))), ((ad 13), .inl (cI, 86, .inl (R 4))), ((ad 14), .inl (cI, 86, .inl (R 5))), ((ad 15), .inl (cG, 2, .inr (.inr (.inr (.inr (fun i => ([(ad 16), (ad 17)] : List Nat)[i]?)))))), ((ad 16), .inl (cI, 86, .inl (SL 0))), ((ad 17), .inl (cI, 86, .inl (SL 1))), ((ad 18), .inl (cZ, 2, .inl sv))]) hK hP [0, 1, 2, 3, 4, 5, 6, 7, 8, 9, 10, 11, 12, 13, 14, 15, 16, 17, 18] rfl (ci := 3) (q0 := 0) rfl rfl) rfl rfl hl.1 rfl (lv_room (Nat.le_of_ble_eq_true rfl)) dL_law_334 ⟨hkc, hks⟩) ?_
    refine lv_aload_n (pc := 337) hx hb dL_law_337 rfl (lv_at hl 2 rfl) ?_
    refine lv_aload_n (pc := 338) hx hb dL_law_338 rfl (lv_at hl 0 rfl) ?_
    refine lv_iload_n (pc := 339) hx hb dL_law_339 rfl (lv_at hl 3 rfl) ?_
    refine lv_iconst (pc := 340) (v := 1) hx hb dL_law_340 (by decide) ?_
    refine lv_iadd (pc := 341) hx hb dL_law_341 ?_
    refine b_re (nI_add i 1) ?_
    refine b_sld (pc := 342) hx hb hXs hbl hbA hS (i + 1) (by omega) (by omega) dL_law_342 ?_
    refine b_cR (pc := 343) (va_runV (As := [.int (xs (i + 1))]) (rest := [.int (-1)]) ⟨hx, hb, hml, hown, hts⟩ (c_X4_mean_ng l D cI cC cZ cG md a kp hs sn sl iv tx n sp nu (xs (i + 1)) (by first | omega | assumption)) (cwV 1 hts gL_law_X4_mean rfl rfl rfl hy_X4_mean ⟨Nat.le_of_ble_eq_true rfl, Nat.le_of_ble_eq_true rfl⟩) (b_pRV (wc := [((md 0), .inr (4, [.ref (md 1), .ref (md 2), .ref (md 3), .int (nI sn), .ref (md 4), .ref (md 5), .ref (md 6), .int (nI n), .int (nI sp), .int nu])), ((md 1), .inl (cI, 86, .inl a)), ((md 2), .inl (cI, 86, .inl kp)), ((md 3), .inl (cI, 516, .inl hs)), ((md 4), .inl (cI, 172, .inl sl)), ((md 5), .inl (cI, 2, .inl iv)), ((md 6), .inl (cI, 60, .inl tx))]) hK hP [19, 20, 21, 22, 23, 24, 25] rfl (ci := 4) (q0 := 0) rfl rfl) rfl rfl hl.1 rfl (lv_room (Nat.le_of_ble_eq_true rfl)) dL_law_343 ⟨hkc, hks⟩) ?_
    refine lv_icmp_eq (pc := 346) (tgt := 571) hx hb dL_law_346 (by decide) (fun c_1 => ?_) (fun c_1 => ?_)
    · skip
      exact kk f f2 tx n nx sn R SL sv a kp hs sl iv sp nu (hB.mono (by omega)) _ _ hP hD hS ls hl
    · skip
      exact absurd c_1 (by decide)
  · skip
    refine lv_aload_n (pc := 328) hx hb dL_law_328 rfl (lv_at hl 1 rfl) ?_
    refine lv_aload_n (pc := 329) hx hb dL_law_329 rfl (lv_at hl 0 rfl) ?_
    refine lv_iload_n (pc := 330) hx hb dL_law_330 rfl (lv_at hl 3 rfl) ?_
    refine lv_iconst (pc := 331) (v := 1) hx hb dL_law_331 (by decide) ?_
    refine lv_iadd (pc := 332) hx hb dL_law_332 ?_
    refine b_re (nI_add i 1) ?_
    refine b_sld (pc := 333) hx hb hXs hbl hbA hS (i + 1) (by omega) (by omega) dL_law_333 ?_
    refine b_re ex ?_
    refine b_cR (pc := 334) (va_runV (As := [.int (nI g)]) (rest := []) ⟨hx, hb, hml, hown, hts⟩ (c_X3_mean_ok l D cI cC cZ cG ad f f2 tx n nx sn R SL sv g (by first | omega | assumption) (by first | omega | assumption) (by first | omega | assumption) (by first | omega | assumption)) (cwV 1 hts gL_law_X3_mean rfl rfl rfl hy_X3_mean ⟨Nat.le_of_ble_eq_true rfl, Nat.le_of_ble_eq_true rfl⟩) (b_pRV (wc := [((ad 0), .inr (3, [.ref (ad 1), .ref (ad 3), .ref (ad 5), .ref (ad 7), .ref (ad 15), .ref (ad 18)])), ((ad 1), .inr (0, [.ref (ad 2)])), ((ad 2), .inl (cI, 86, .inl f)), ((ad 3), .inr (0, [.ref (ad 4)])), ((ad 4), .inl (cI, 86, .inl f2)), ((ad 5), .inr (2, [.ref (ad 6), .int (nI n)])), ((ad 6), .inl (cC, 60, .inl tx)), ((ad 7), .inr (1, [.ref (ad 8), .int (nI nx), .int (nI sn)])), ((ad 8), .inl (cG, 6, .inr (.inr (.inr (.inr (fun i => ([(ad 9), (ad 10), (ad 11), (ad 12), (ad 13), (ad 14)] : List Nat)[i]?)))))), ((ad 9), .inl (cI, 86, .inl (R 0))), ((ad 10), .inl (cI, 86, .inl (R 1))), ((ad 11), .inl (cI, 86, .inl (R 2))), ((ad 12), .inl (cI, 86, .inl (R 3))), ((ad 13), .inl (cI, 86, .inl (R 4))), ((ad 14), .inl (cI, 86, .inl (R 5))), ((ad 15), .inl (cG, 2, .inr (.inr (.inr (.inr (fun i => ([(ad 16), (ad 17)] : List Nat)[i]?)))))), ((ad 16), .inl (cI, 86, .inl (SL 0))), ((ad 17), .inl (cI, 86, .inl (SL 1))), ((ad 18), .inl (cZ, 2, .inl sv))]) hK hP [0, 1, 2, 3, 4, 5, 6, 7, 8, 9, 10, 11, 12, 13, 14, 15, 16, 17, 18] rfl (ci := 3) (q0 := 0) rfl rfl) rfl rfl hl.1 rfl (lv_room (Nat.le_of_ble_eq_true rfl)) dL_law_334 ⟨hkc, hks⟩) ?_
    refine lv_aload_n (pc := 337) hx hb dL_law_337 rfl (lv_at hl 2 rfl) ?_
    refine lv_aload_n (pc := 338) hx hb dL_law_338 rfl (lv_at hl 0 rfl) ?_
    refine lv_iload_n (pc := 339) hx hb dL_law_339 rfl (lv_at hl 3 rfl) ?_
    refine lv_iconst (pc := 340) (v := 1) hx hb dL_law_340 (by decide) ?_
    refine lv_iadd (pc := 341) hx hb dL_law_341 ?_
    refine b_re (nI_add i 1) ?_
    refine b_sld (pc := 342) hx hb hXs hbl hbA hS (i + 1) (by omega) (by omega) dL_law_342 ?_
    refine b_re ex ?_
    refine b_cR (pc := 343) (va_runV (As := [.int (nI g)]) (rest := [.int (h_mean f g)]) ⟨hx, hb, hml, hown, hts⟩ (c_X4_mean_ok l D cI cC cZ cG md a kp hs sn sl iv tx n sp nu g (by first | omega | assumption)) (cwV 1 hts gL_law_X4_mean rfl rfl rfl hy_X4_mean ⟨Nat.le_of_ble_eq_true rfl, Nat.le_of_ble_eq_true rfl⟩) (b_pRV (wc := [((md 0), .inr (4, [.ref (md 1), .ref (md 2), .ref (md 3), .int (nI sn), .ref (md 4), .ref (md 5), .ref (md 6), .int (nI n), .int (nI sp), .int nu])), ((md 1), .inl (cI, 86, .inl a)), ((md 2), .inl (cI, 86, .inl kp)), ((md 3), .inl (cI, 516, .inl hs)), ((md 4), .inl (cI, 172, .inl sl)), ((md 5), .inl (cI, 2, .inl iv)), ((md 6), .inl (cI, 60, .inl tx))]) hK hP [19, 20, 21, 22, 23, 24, 25] rfl (ci := 4) (q0 := 0) rfl rfl) rfl rfl hl.1 rfl (lv_room (Nat.le_of_ble_eq_true rfl)) dL_law_343 ⟨hkc, hks⟩) ?_
    refine lv_icmp_eq (pc := 346) (tgt := 571) hx hb dL_law_346 (by decide) (fun c_1 => ?_) (fun c_1 => ?_)
    · skip
      have c_1 : (h_mean f g) = (m_mean a g) := c_1
      exact kk f f2 tx n nx sn R SL sv a kp hs sl iv sp nu (hB.mono (by omega)) _ _ hP hD hS ls hl
    · skip
      have c_1 : ¬ ((h_mean f g) = (m_mean a g)) := c_1
      exact absurd (e_mean hR hg (by omega)) c_1
set_option maxHeartbeats 4000000 in
set_option maxRecDepth 100000 in
theorem law_busiest {p : Program} {l : Launch} {e : Env} {s : State} {m : MethodId} {below : List Frame} {meth : Method} {c : Code} {D : va_G} {cI cC cZ cG : ClassId} {A : Nat → Prop} {tb lo hi b L : Nat} {xs : Nat → Int32} {ad md : Nat → Nat} {i N : Nat} (C : lw_C p s m meth c D cI cC cZ cG A tb lo hi b L xs) (hi3 : i + 3 ≤ L) (hL : L ≤ 1536) (hN : N + 60 ≤ 1000000) (kk : lw_KK p l e s m below meth c D cI cC cZ cG A b ad md i (N + 60) 571) : lw_KK p l e s m below meth c D cI cC cZ cG A b ad md i N 351 := by
  intro f f2 tx n nx sn R SL sv a kp hs sl iv sp nu hB H locs hP hD hS ls hl
  obtain ⟨hx, hb, hml, hown, hts, hXs, hbl, hbA, hA, hK, hX⟩ := C
  have hn60 : n ≤ 60 := hB.2.1
  have hnx : nx < 6 := hB.2.2.1.1
  have hsn : sn ≤ 6 := hB.2.2.1.2
  have hR := hB.1
  have hkc : 600000 + 0 ≤ room_1.cells := Nat.le_refl _
  have hks : 7302250 + 0 ≤ room_1.slots := Nat.le_refl _
  have hl : lv_has ls 4 [(0, .ref b), (1, .ref (ad 0)), (2, .ref (md 0)), (3, .int (nI i))] := hl
  refine lv_aload_n (pc := 351) hx hb dL_law_351 rfl (lv_at hl 1 rfl) ?_
  refine b_cR (pc := 352) (va_runV (As := []) (rest := []) ⟨hx, hb, hml, hown, hts⟩ (c_X3_busiest l D cI cC cZ cG ad f f2 tx n nx sn R SL sv (by first | omega | assumption) (by first | omega | assumption) (by first | omega | assumption)) (cwV 0 hts gL_law_X3_busiest rfl rfl rfl hy_X3_busiest ⟨Nat.le_of_ble_eq_true rfl, Nat.le_of_ble_eq_true rfl⟩) (b_pRV (wc := [((ad 0), .inr (3, [.ref (ad 1), .ref (ad 3), .ref (ad 5), .ref (ad 7), .ref (ad 15), .ref (ad 18)])), ((ad 1), .inr (0, [.ref (ad 2)])), ((ad 2), .inl (cI, 86, .inl f)), ((ad 3), .inr (0, [.ref (ad 4)])), ((ad 4), .inl (cI, 86, .inl f2)), ((ad 5), .inr (2, [.ref (ad 6), .int (nI n)])), ((ad 6), .inl (cC, 60, .inl tx)), ((ad 7), .inr (1, [.ref (ad 8), .int (nI nx), .int (nI sn)])), ((ad 8), .inl (cG, 6, .inr (.inr (.inr (.inr (fun i => ([(ad 9), (ad 10), (ad 11), (ad 12), (ad 13), (ad 14)] : List Nat)[i]?)))))), ((ad 9), .inl (cI, 86, .inl (R 0))), ((ad 10), .inl (cI, 86, .inl (R 1))), ((ad 11), .inl (cI, 86, .inl (R 2))), ((ad 12), .inl (cI, 86, .inl (R 3))), ((ad 13), .inl (cI, 86, .inl (R 4))), ((ad 14), .inl (cI, 86, .inl (R 5))), ((ad 15), .inl (cG, 2, .inr (.inr (.inr (.inr (fun i => ([(ad 16), (ad 17)] : List Nat)[i]?)))))), ((ad 16), .inl (cI, 86, .inl (SL 0))), ((ad 17), .inl (cI, 86, .inl (SL 1))), ((ad 18), .inl (cZ, 2, .inl sv))]) hK hP [0, 1, 2, 3, 4, 5, 6, 7, 8, 9, 10, 11, 12, 13, 14, 15, 16, 17, 18] rfl (ci := 3) (q0 := 0) rfl rfl) rfl rfl hl.1 rfl (lv_room (Nat.le_of_ble_eq_true rfl)) dL_law_352 ⟨hkc, hks⟩) ?_
  refine lv_aload_n (pc := 355) hx hb dL_law_355 rfl (lv_at hl 2 rfl) ?_
  refine b_cR (pc := 356) (va_runV (As := []) (rest := [.int ((h_bus f 6).1)]) ⟨hx, hb, hml, hown, hts⟩ (c_X4_busiest l D cI cC cZ cG md a kp hs sn sl iv tx n sp nu) (cwV 0 hts gL_law_X4_busiest rfl rfl rfl hy_X4_busiest ⟨Nat.le_of_ble_eq_true rfl, Nat.le_of_ble_eq_true rfl⟩) (b_pRV (wc := [((md 0), .inr (4, [.ref (md 1), .ref (md 2), .ref (md 3), .int (nI sn), .ref (md 4), .ref (md 5), .ref (md 6), .int (nI n), .int (nI sp), .int nu])), ((md 1), .inl (cI, 86, .inl a)), ((md 2), .inl (cI, 86, .inl kp)), ((md 3), .inl (cI, 516, .inl hs)), ((md 4), .inl (cI, 172, .inl sl)), ((md 5), .inl (cI, 2, .inl iv)), ((md 6), .inl (cI, 60, .inl tx))]) hK hP [19, 20, 21, 22, 23, 24, 25] rfl (ci := 4) (q0 := 0) rfl rfl) rfl rfl hl.1 rfl (lv_room (Nat.le_of_ble_eq_true rfl)) dL_law_356 ⟨hkc, hks⟩) ?_
  refine lv_icmp_eq (pc := 359) (tgt := 571) hx hb dL_law_359 (by decide) (fun c_1 => ?_) (fun c_1 => ?_)
  · skip
    have c_1 : ((h_bus f 6).1) = ((m_bus2 a 6).1) := c_1
    exact kk f f2 tx n nx sn R SL sv a kp hs sl iv sp nu (hB.mono (by omega)) _ _ hP hD hS ls hl
  · skip
    have c_1 : ¬ (((h_bus f 6).1) = ((m_bus2 a 6).1)) := c_1
    exact absurd (congrArg (fun q => q.1) (e_bus hR 6 (Nat.le_refl 6))) c_1
