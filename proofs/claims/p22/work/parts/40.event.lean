/-! isEvent -/
set_option maxHeartbeats 4000000 in
set_option maxRecDepth 100000 in
theorem c_L_isEvent (l : Launch) (D : va_G) (cI cC cZ cG : ClassId) (tb lo hi sz : Nat) (ad : Nat → Nat) (σ : HS) (ok : sOk σ) (g bm N : Nat) (hg : g < 6) (hbm : bm < 3) (hN : N ≤ 1000000) (hI : Inv N σ.1) : Met l yL_isEvent wsL_isEvent ({ frames := 5, cells := 0, slots := 0, locals := 109 } : Room) (b_W D (b_T cI cC cZ cG) (b_X tb lo hi) (hc cI cC cZ cG ad σ) sz [.ref (ad 0), .int (nI g), .int (nI bm)]) (b_Qi D 1 (hc cI cC cZ cG ad (sKeep σ (h_change σ.1 g bm) (sN σ))) (va_A (hc cI cC cZ cG ad σ) sz)) 0 0 (va_A (hc cI cC cZ cG ad σ) sz) := by
  refine b_enterW (Qc := fun A => b_Qi D 1 (hc cI cC cZ cG ad (sKeep σ (h_change σ.1 g bm) (sN σ))) A) (cc := cL_isEvent) (maxL := 19) (ret := (some .boolean)) (by decide) rfl (Nat.le_of_ble_eq_true rfl) ?_
  intro p e s m below meth c ls A hx hb hr hml hown hts hlocks hname hP hK hD hA hS hX hl Q hQ
  have hown : s.vm.findClass RL = some m.cls := hown
  have hl : lv_has ls 19 [(0, .ref (ad 0)), (1, .int (nI g)), (2, .int (nI bm))] := hl
  refine lv_aload_n (pc := 0) hx hb dL_isEvent_0 rfl (lv_at hl 0 rfl) ?_
  refine lv_iload_n (pc := 1) hx hb dL_isEvent_1 rfl (lv_at hl 1 rfl) ?_
  refine lv_iconst (pc := 2) (v := 0) hx hb dL_isEvent_2 (by decide) ?_
  refine b_cR (pc := 3) (va_runV (As := [.int (nI g), .int 0]) (rest := []) ⟨hx, hb, hml, hown, hts⟩ (k_gate l D cI cC cZ cG ad σ ok g 0 (by omega) (by omega)) (cwV 2 hts gL_isEvent_X3_gate rfl rfl rfl hy_X3_gate ⟨Nat.le_of_ble_eq_true rfl, Nat.le_of_ble_eq_true rfl⟩) (b_pRc hK hP (hc_0 _ _ _ _ _ _)) rfl rfl hl.1 rfl (lv_room (Nat.le_of_ble_eq_true rfl)) dL_isEvent_3 ⟨Nat.zero_le _, Nat.zero_le _⟩) ?_
  refine b_re (show _ = σ.1 (8 + g * 13 + 0) from rfl) ?_
  refine lv_istore_n (pc := 6) (lv' := [(3, .int (σ.1 (8 + g * 13 + 0))), (0, .ref (ad 0)), (1, .int (nI g)), (2, .int (nI bm))]) hx hb dL_isEvent_6 rfl hl (by decide) rfl (fun ls hl => ?_)
  refine lv_aload_n (pc := 7) hx hb dL_isEvent_7 rfl (lv_at hl 1 rfl) ?_
  refine lv_iload_n (pc := 8) hx hb dL_isEvent_8 rfl (lv_at hl 2 rfl) ?_
  refine lv_iconst (pc := 9) (v := 2) hx hb dL_isEvent_9 (by decide) ?_
  refine b_cR (pc := 10) (va_runV (As := [.int (nI g), .int 2]) (rest := []) ⟨hx, hb, hml, hown, hts⟩ (k_gate l D cI cC cZ cG ad σ ok g 2 (by omega) (by omega)) (cwV 2 hts gL_isEvent_X3_gate rfl rfl rfl hy_X3_gate ⟨Nat.le_of_ble_eq_true rfl, Nat.le_of_ble_eq_true rfl⟩) (b_pRc hK hP (hc_0 _ _ _ _ _ _)) rfl rfl hl.1 rfl (lv_room (Nat.le_of_ble_eq_true rfl)) dL_isEvent_10 ⟨Nat.zero_le _, Nat.zero_le _⟩) ?_
  refine lv_istore (pc := 13) (lv' := [(4, .int (h_tell σ.1 g 2)), (3, .int (σ.1 (8 + g * 13 + 0))), (0, .ref (ad 0)), (1, .int (nI g)), (2, .int (nI bm))]) hx hb dL_isEvent_13 hl (by decide) rfl (fun ls hl => ?_)
  refine lv_aload_n (pc := 15) hx hb dL_isEvent_15 rfl (lv_at hl 2 rfl) ?_
  refine lv_iload_n (pc := 16) hx hb dL_isEvent_16 rfl (lv_at hl 3 rfl) ?_
  refine lv_iconst (pc := 17) (v := 3) hx hb dL_isEvent_17 (by decide) ?_
  refine b_cR (pc := 18) (va_runV (As := [.int (nI g), .int 3]) (rest := []) ⟨hx, hb, hml, hown, hts⟩ (k_gate l D cI cC cZ cG ad σ ok g 3 (by omega) (by omega)) (cwV 2 hts gL_isEvent_X3_gate rfl rfl rfl hy_X3_gate ⟨Nat.le_of_ble_eq_true rfl, Nat.le_of_ble_eq_true rfl⟩) (b_pRc hK hP (hc_0 _ _ _ _ _ _)) rfl rfl hl.1 rfl (lv_room (Nat.le_of_ble_eq_true rfl)) dL_isEvent_18 ⟨Nat.zero_le _, Nat.zero_le _⟩) ?_
  refine lv_istore (pc := 21) (lv' := [(5, .int (h_tell σ.1 g 3)), (4, .int (h_tell σ.1 g 2)), (3, .int (σ.1 (8 + g * 13 + 0))), (0, .ref (ad 0)), (1, .int (nI g)), (2, .int (nI bm))]) hx hb dL_isEvent_21 hl (by decide) rfl (fun ls hl => ?_)
  refine lv_aload_n (pc := 23) hx hb dL_isEvent_23 rfl (lv_at hl 3 rfl) ?_
  refine lv_iload_n (pc := 24) hx hb dL_isEvent_24 rfl (lv_at hl 4 rfl) ?_
  refine lv_iconst (pc := 25) (v := 1) hx hb dL_isEvent_25 (by decide) ?_
  refine b_cR (pc := 26) (va_runV (As := [.int (nI g), .int 1]) (rest := []) ⟨hx, hb, hml, hown, hts⟩ (k_gate l D cI cC cZ cG ad σ ok g 1 (by omega) (by omega)) (cwV 2 hts gL_isEvent_X3_gate rfl rfl rfl hy_X3_gate ⟨Nat.le_of_ble_eq_true rfl, Nat.le_of_ble_eq_true rfl⟩) (b_pRc hK hP (hc_0 _ _ _ _ _ _)) rfl rfl hl.1 rfl (lv_room (Nat.le_of_ble_eq_true rfl)) dL_isEvent_26 ⟨Nat.zero_le _, Nat.zero_le _⟩) ?_
  refine lv_istore (pc := 29) (lv' := [(6, .int (h_tell σ.1 g 1)), (5, .int (h_tell σ.1 g 3)), (4, .int (h_tell σ.1 g 2)), (3, .int (σ.1 (8 + g * 13 + 0))), (0, .ref (ad 0)), (1, .int (nI g)), (2, .int (nI bm))]) hx hb dL_isEvent_29 hl (by decide) rfl (fun ls hl => ?_)
  refine lv_aload_n (pc := 31) hx hb dL_isEvent_31 rfl (lv_at hl 4 rfl) ?_
  refine lv_iload_n (pc := 32) hx hb dL_isEvent_32 rfl (lv_at hl 5 rfl) ?_
  refine lv_iconst (pc := 33) (v := 5) hx hb dL_isEvent_33 (by decide) ?_
  refine b_cR (pc := 34) (va_runV (As := [.int (nI g), .int 5]) (rest := []) ⟨hx, hb, hml, hown, hts⟩ (k_gate l D cI cC cZ cG ad σ ok g 5 (by omega) (by omega)) (cwV 2 hts gL_isEvent_X3_gate rfl rfl rfl hy_X3_gate ⟨Nat.le_of_ble_eq_true rfl, Nat.le_of_ble_eq_true rfl⟩) (b_pRc hK hP (hc_0 _ _ _ _ _ _)) rfl rfl hl.1 rfl (lv_room (Nat.le_of_ble_eq_true rfl)) dL_isEvent_34 ⟨Nat.zero_le _, Nat.zero_le _⟩) ?_
  refine lv_istore (pc := 37) (lv' := [(7, .int (h_tell σ.1 g 5)), (6, .int (h_tell σ.1 g 1)), (5, .int (h_tell σ.1 g 3)), (4, .int (h_tell σ.1 g 2)), (3, .int (σ.1 (8 + g * 13 + 0))), (0, .ref (ad 0)), (1, .int (nI g)), (2, .int (nI bm))]) hx hb dL_isEvent_37 hl (by decide) rfl (fun ls hl => ?_)
  refine lv_aload_n (pc := 39) hx hb dL_isEvent_39 rfl (lv_at hl 5 rfl) ?_
  refine lv_iload_n (pc := 40) hx hb dL_isEvent_40 rfl (lv_at hl 6 rfl) ?_
  refine lv_bipush (pc := 41) (v := 6) hx hb dL_isEvent_41 (by decide) ?_
  refine b_cR (pc := 43) (va_runV (As := [.int (nI g), .int 6]) (rest := []) ⟨hx, hb, hml, hown, hts⟩ (k_gate l D cI cC cZ cG ad σ ok g 6 (by omega) (by omega)) (cwV 2 hts gL_isEvent_X3_gate rfl rfl rfl hy_X3_gate ⟨Nat.le_of_ble_eq_true rfl, Nat.le_of_ble_eq_true rfl⟩) (b_pRc hK hP (hc_0 _ _ _ _ _ _)) rfl rfl hl.1 rfl (lv_room (Nat.le_of_ble_eq_true rfl)) dL_isEvent_43 ⟨Nat.zero_le _, Nat.zero_le _⟩) ?_
  refine lv_istore (pc := 46) (lv' := [(8, .int (h_tell σ.1 g 6)), (7, .int (h_tell σ.1 g 5)), (6, .int (h_tell σ.1 g 1)), (5, .int (h_tell σ.1 g 3)), (4, .int (h_tell σ.1 g 2)), (3, .int (σ.1 (8 + g * 13 + 0))), (0, .ref (ad 0)), (1, .int (nI g)), (2, .int (nI bm))]) hx hb dL_isEvent_46 hl (by decide) rfl (fun ls hl => ?_)
  refine lv_aload_n (pc := 48) hx hb dL_isEvent_48 rfl (lv_at hl 6 rfl) ?_
  refine lv_iconst (pc := 49) (v := 4) hx hb dL_isEvent_49 (by decide) ?_
  refine b_cR (pc := 50) (va_runV (As := [.int 4]) (rest := []) ⟨hx, hb, hml, hown, hts⟩ (k_count_lo l D cI cC cZ cG ad σ ok 4 (by omega)) (cwV 1 hts gL_isEvent_X3_count rfl rfl rfl hy_X3_count ⟨Nat.le_of_ble_eq_true rfl, Nat.le_of_ble_eq_true rfl⟩) (b_pRc hK hP (hc_0 _ _ _ _ _ _)) rfl rfl hl.1 rfl (lv_room (Nat.le_of_ble_eq_true rfl)) dL_isEvent_50 ⟨Nat.zero_le _, Nat.zero_le _⟩) ?_
  refine lv_istore (pc := 53) (lv' := [(9, .int (σ.1 4)), (8, .int (h_tell σ.1 g 6)), (7, .int (h_tell σ.1 g 5)), (6, .int (h_tell σ.1 g 1)), (5, .int (h_tell σ.1 g 3)), (4, .int (h_tell σ.1 g 2)), (3, .int (σ.1 (8 + g * 13 + 0))), (0, .ref (ad 0)), (1, .int (nI g)), (2, .int (nI bm))]) hx hb dL_isEvent_53 hl (by decide) rfl (fun ls hl => ?_)
  refine lv_aload_n (pc := 55) hx hb dL_isEvent_55 rfl (lv_at hl 7 rfl) ?_
  refine lv_bipush (pc := 56) (v := 7) hx hb dL_isEvent_56 (by decide) ?_
  refine b_cR (pc := 58) (va_runV (As := [.int 7]) (rest := []) ⟨hx, hb, hml, hown, hts⟩ (k_count_lo l D cI cC cZ cG ad σ ok 7 (by omega)) (cwV 1 hts gL_isEvent_X3_count rfl rfl rfl hy_X3_count ⟨Nat.le_of_ble_eq_true rfl, Nat.le_of_ble_eq_true rfl⟩) (b_pRc hK hP (hc_0 _ _ _ _ _ _)) rfl rfl hl.1 rfl (lv_room (Nat.le_of_ble_eq_true rfl)) dL_isEvent_58 ⟨Nat.zero_le _, Nat.zero_le _⟩) ?_
  refine lv_istore (pc := 61) (lv' := [(10, .int (σ.1 7)), (9, .int (σ.1 4)), (8, .int (h_tell σ.1 g 6)), (7, .int (h_tell σ.1 g 5)), (6, .int (h_tell σ.1 g 1)), (5, .int (h_tell σ.1 g 3)), (4, .int (h_tell σ.1 g 2)), (3, .int (σ.1 (8 + g * 13 + 0))), (0, .ref (ad 0)), (1, .int (nI g)), (2, .int (nI bm))]) hx hb dL_isEvent_61 hl (by decide) rfl (fun ls hl => ?_)
  refine lv_aload_n (pc := 63) hx hb dL_isEvent_63 rfl (lv_at hl 8 rfl) ?_
  refine lv_bipush (pc := 64) (v := 6) hx hb dL_isEvent_64 (by decide) ?_
  refine b_cR (pc := 66) (va_runV (As := [.int 6]) (rest := []) ⟨hx, hb, hml, hown, hts⟩ (k_count_lo l D cI cC cZ cG ad σ ok 6 (by omega)) (cwV 1 hts gL_isEvent_X3_count rfl rfl rfl hy_X3_count ⟨Nat.le_of_ble_eq_true rfl, Nat.le_of_ble_eq_true rfl⟩) (b_pRc hK hP (hc_0 _ _ _ _ _ _)) rfl rfl hl.1 rfl (lv_room (Nat.le_of_ble_eq_true rfl)) dL_isEvent_66 ⟨Nat.zero_le _, Nat.zero_le _⟩) ?_
  refine lv_istore (pc := 69) (lv' := [(11, .int (σ.1 6)), (10, .int (σ.1 7)), (9, .int (σ.1 4)), (8, .int (h_tell σ.1 g 6)), (7, .int (h_tell σ.1 g 5)), (6, .int (h_tell σ.1 g 1)), (5, .int (h_tell σ.1 g 3)), (4, .int (h_tell σ.1 g 2)), (3, .int (σ.1 (8 + g * 13 + 0))), (0, .ref (ad 0)), (1, .int (nI g)), (2, .int (nI bm))]) hx hb dL_isEvent_69 hl (by decide) rfl (fun ls hl => ?_)
  refine lv_aload_n (pc := 71) hx hb dL_isEvent_71 rfl (lv_at hl 9 rfl) ?_
  refine b_cR (pc := 72) (va_runS (As := [.ref (ad 0)]) (rest := []) ⟨hx, hb, hml, hown, hts⟩ (c_L_ended l D cI cC cZ cG ad σ ok) (va_cwS 1 hts gL_isEvent_L_ended rfl rfl rfl hyS_L_ended ⟨Nat.le_of_ble_eq_true rfl, Nat.le_of_ble_eq_true rfl⟩) (b_pRs hK hP) rfl rfl hl.1 rfl (lv_room (Nat.le_of_ble_eq_true rfl)) dL_isEvent_72 ⟨Nat.zero_le _, Nat.zero_le _⟩) ?_
  refine lv_istore (pc := 75) (lv' := [(12, .int (n_end σ.1)), (11, .int (σ.1 6)), (10, .int (σ.1 7)), (9, .int (σ.1 4)), (8, .int (h_tell σ.1 g 6)), (7, .int (h_tell σ.1 g 5)), (6, .int (h_tell σ.1 g 1)), (5, .int (h_tell σ.1 g 3)), (4, .int (h_tell σ.1 g 2)), (3, .int (σ.1 (8 + g * 13 + 0))), (0, .ref (ad 0)), (1, .int (nI g)), (2, .int (nI bm))]) hx hb dL_isEvent_75 hl (by decide) rfl (fun ls hl => ?_)
  refine lv_aload_n (pc := 77) hx hb dL_isEvent_77 rfl (lv_at hl 10 rfl) ?_
  refine lv_iconst (pc := 78) (v := 3) hx hb dL_isEvent_78 (by decide) ?_
  refine b_cR (pc := 79) (va_runV (As := [.int 3]) (rest := []) ⟨hx, hb, hml, hown, hts⟩ (k_count_lo l D cI cC cZ cG ad σ ok 3 (by omega)) (cwV 1 hts gL_isEvent_X3_count rfl rfl rfl hy_X3_count ⟨Nat.le_of_ble_eq_true rfl, Nat.le_of_ble_eq_true rfl⟩) (b_pRc hK hP (hc_0 _ _ _ _ _ _)) rfl rfl hl.1 rfl (lv_room (Nat.le_of_ble_eq_true rfl)) dL_isEvent_79 ⟨Nat.zero_le _, Nat.zero_le _⟩) ?_
  refine lv_istore (pc := 82) (lv' := [(13, .int (σ.1 3)), (12, .int (n_end σ.1)), (11, .int (σ.1 6)), (10, .int (σ.1 7)), (9, .int (σ.1 4)), (8, .int (h_tell σ.1 g 6)), (7, .int (h_tell σ.1 g 5)), (6, .int (h_tell σ.1 g 1)), (5, .int (h_tell σ.1 g 3)), (4, .int (h_tell σ.1 g 2)), (3, .int (σ.1 (8 + g * 13 + 0))), (0, .ref (ad 0)), (1, .int (nI g)), (2, .int (nI bm))]) hx hb dL_isEvent_82 hl (by decide) rfl (fun ls hl => ?_)
  refine lv_aload_n (pc := 84) hx hb dL_isEvent_84 rfl (lv_at hl 11 rfl) ?_
  refine lv_iload_n (pc := 85) hx hb dL_isEvent_85 rfl (lv_at hl 12 rfl) ?_
  refine lv_iload_n (pc := 86) hx hb dL_isEvent_86 rfl (lv_at hl 13 rfl) ?_
  refine b_cW0 (pc := 87) (w1 := hc cI cC cZ cG ad (sKeep σ (h_change σ.1 g bm) (sN σ))) (va_runV (As := [.int (nI g), .int (nI bm)]) (rest := []) ⟨hx, hb, hml, hown, hts⟩ (k_event l D cI cC cZ cG tb lo hi s.heap.size ad σ ok g bm hg hbm) (cwV 2 hts gL_isEvent_X3_event rfl rfl rfl hy_X3_event ⟨Nat.le_of_ble_eq_true rfl, Nat.le_of_ble_eq_true rfl⟩) (b_pWc hK hP hD (b_Xok_X tb lo hi) (b_Xc0 hX hD hS hA) (hc_0 _ _ _ _ _ _)) rfl rfl hl.1 rfl (lv_room (Nat.le_of_ble_eq_true rfl)) dL_isEvent_87 ⟨Nat.zero_le _, Nat.zero_le _⟩) hP hD hS hA (hc_ad _ _ _ _ _ _ _) (fun H locs hP hD hS => ?_)
  refine lv_istore (pc := 90) (lv' := [(14, .int (h_look σ.1 (8 + g * 13) bm)), (13, .int (σ.1 3)), (12, .int (n_end σ.1)), (11, .int (σ.1 6)), (10, .int (σ.1 7)), (9, .int (σ.1 4)), (8, .int (h_tell σ.1 g 6)), (7, .int (h_tell σ.1 g 5)), (6, .int (h_tell σ.1 g 1)), (5, .int (h_tell σ.1 g 3)), (4, .int (h_tell σ.1 g 2)), (3, .int (σ.1 (8 + g * 13 + 0))), (0, .ref (ad 0)), (1, .int (nI g)), (2, .int (nI bm))]) hx hb dL_isEvent_90 hl (by decide) rfl (fun ls hl => ?_)
  refine lv_iload (pc := 92) hx hb dL_isEvent_92 (lv_at hl 0 rfl) ?_
  refine lv_aload_n (pc := 94) hx hb dL_isEvent_94 rfl (lv_at hl 12 rfl) ?_
  refine lv_iload_n (pc := 95) hx hb dL_isEvent_95 rfl (lv_at hl 13 rfl) ?_
  refine lv_iconst (pc := 96) (v := 0) hx hb dL_isEvent_96 (by decide) ?_
  refine b_cR (pc := 97) (va_runV (As := [.int (nI g), .int 0]) (rest := [.int (h_look σ.1 (8 + g * 13) bm)]) ⟨hx, hb, hml, hown, hts⟩ (k_gate l D cI cC cZ cG ad (sKeep σ (h_change σ.1 g bm) (sN σ)) (ok.keep _ ok.1) g 0 (by omega) (by omega)) (cwV 2 hts gL_isEvent_X3_gate rfl rfl rfl hy_X3_gate ⟨Nat.le_of_ble_eq_true rfl, Nat.le_of_ble_eq_true rfl⟩) (b_pRc hK hP (hc_0 _ _ _ _ _ _)) rfl rfl hl.1 rfl (lv_room (Nat.le_of_ble_eq_true rfl)) dL_isEvent_97 ⟨Nat.zero_le _, Nat.zero_le _⟩) ?_
  refine b_re (show _ = (h_change σ.1 g bm) (8 + g * 13 + 0) from rfl) ?_
  refine lv_icmp_ne (pc := 100) (tgt := 135) hx hb dL_isEvent_100 (by decide) (fun c_1 => ?_) (fun c_1 => ?_)
  · skip
    have c_1 : ¬ ((h_look σ.1 (8 + g * 13) bm) = ((h_change σ.1 g bm) (8 + g * 13 + 0))) := c_1
    exact absurd (ev_then) c_1
  · skip
    have c_1 : (h_look σ.1 (8 + g * 13) bm) = ((h_change σ.1 g bm) (8 + g * 13 + 0)) := c_1
    refine wj_cut (a := W p l e ({ frames := 5, cells := 0, slots := 0, locals := 109 } : Room) s m ([.ref (ad 0), .int (nI g), .int (nI bm)] : List Value).toArray below meth c H locs 0 0 Q (F0 m 131 ls [])) ?_ (fun J_2 => ?_)
    · skip
      refine lv_iconst (pc := 131) (v := 1) hx hb dL_isEvent_131 (by decide) ?_
      refine lv_goto (pc := 132) (tgt := 136) hx hb dL_isEvent_132 (by decide) ?_
      refine lv_istore (pc := 136) (lv' := [(15, .int 1), (14, .int (h_look σ.1 (8 + g * 13) bm)), (13, .int (σ.1 3)), (12, .int (n_end σ.1)), (11, .int (σ.1 6)), (10, .int (σ.1 7)), (9, .int (σ.1 4)), (8, .int (h_tell σ.1 g 6)), (7, .int (h_tell σ.1 g 5)), (6, .int (h_tell σ.1 g 1)), (5, .int (h_tell σ.1 g 3)), (4, .int (h_tell σ.1 g 2)), (3, .int (σ.1 (8 + g * 13 + 0))), (0, .ref (ad 0)), (1, .int (nI g)), (2, .int (nI bm))]) hx hb dL_isEvent_136 hl (by decide) rfl (fun ls hl => ?_)
      refine lv_iload (pc := 138) hx hb dL_isEvent_138 (lv_at hl 1 rfl) ?_
      refine lv_if_eq (pc := 140) (tgt := 287) hx hb dL_isEvent_140 (by decide) (fun c_3 => ?_) (fun c_3 => ?_)
      · skip
        have c_3 : (h_look σ.1 (8 + g * 13) bm) = 0 := c_3
        refine wj_cut (a := W p l e ({ frames := 5, cells := 0, slots := 0, locals := 109 } : Room) s m ([.ref (ad 0), .int (nI g), .int (nI bm)] : List Value).toArray below meth c H locs 0 0 Q (F0 m 302 ls [.int (e_lost σ.1 g bm)])) ?_ (fun J_4 => ?_)
        · skip
          refine lv_istore (pc := 302) (lv' := [(16, .int (e_lost σ.1 g bm)), (15, .int 1), (14, .int (h_look σ.1 (8 + g * 13) bm)), (13, .int (σ.1 3)), (12, .int (n_end σ.1)), (11, .int (σ.1 6)), (10, .int (σ.1 7)), (9, .int (σ.1 4)), (8, .int (h_tell σ.1 g 6)), (7, .int (h_tell σ.1 g 5)), (6, .int (h_tell σ.1 g 1)), (5, .int (h_tell σ.1 g 3)), (4, .int (h_tell σ.1 g 2)), (3, .int (σ.1 (8 + g * 13 + 0))), (0, .ref (ad 0)), (1, .int (nI g)), (2, .int (nI bm))]) hx hb dL_isEvent_302 hl (by decide) rfl (fun ls hl => ?_)
          refine wj_cut (a := W p l e ({ frames := 5, cells := 0, slots := 0, locals := 109 } : Room) s m ([.ref (ad 0), .int (nI g), .int (nI bm)] : List Value).toArray below meth c H locs 0 0 Q (F0 m 321 ls [.int (e_comes σ.1 g bm)])) ?_ (fun J_5 => ?_)
          · skip
            refine lv_istore (pc := 321) (lv' := [(17, .int (e_comes σ.1 g bm)), (16, .int (e_lost σ.1 g bm)), (15, .int 1), (14, .int (h_look σ.1 (8 + g * 13) bm)), (13, .int (σ.1 3)), (12, .int (n_end σ.1)), (11, .int (σ.1 6)), (10, .int (σ.1 7)), (9, .int (σ.1 4)), (8, .int (h_tell σ.1 g 6)), (7, .int (h_tell σ.1 g 5)), (6, .int (h_tell σ.1 g 1)), (5, .int (h_tell σ.1 g 3)), (4, .int (h_tell σ.1 g 2)), (3, .int (σ.1 (8 + g * 13 + 0))), (0, .ref (ad 0)), (1, .int (nI g)), (2, .int (nI bm))]) hx hb dL_isEvent_321 hl (by decide) rfl (fun ls hl => ?_)
            refine wj_cut (a := W p l e ({ frames := 5, cells := 0, slots := 0, locals := 109 } : Room) s m ([.ref (ad 0), .int (nI g), .int (nI bm)] : List Value).toArray below meth c H locs 0 0 Q (F0 m 344 ls [.int (e_goes σ.1 g bm)])) ?_ (fun J_6 => ?_)
            · skip
              refine lv_istore (pc := 344) (lv' := [(18, .int (e_goes σ.1 g bm)), (17, .int (e_comes σ.1 g bm)), (16, .int (e_lost σ.1 g bm)), (15, .int 1), (14, .int (h_look σ.1 (8 + g * 13) bm)), (13, .int (σ.1 3)), (12, .int (n_end σ.1)), (11, .int (σ.1 6)), (10, .int (σ.1 7)), (9, .int (σ.1 4)), (8, .int (h_tell σ.1 g 6)), (7, .int (h_tell σ.1 g 5)), (6, .int (h_tell σ.1 g 1)), (5, .int (h_tell σ.1 g 3)), (4, .int (h_tell σ.1 g 2)), (3, .int (σ.1 (8 + g * 13 + 0))), (0, .ref (ad 0)), (1, .int (nI g)), (2, .int (nI bm))]) hx hb dL_isEvent_344 hl (by decide) rfl (fun ls hl => ?_)
              refine lv_iload (pc := 346) hx hb dL_isEvent_346 (lv_at hl 3 rfl) ?_
              refine lv_if_eq (pc := 348) (tgt := 537) hx hb dL_isEvent_348 (by decide) (fun c_7 => ?_) (fun c_7 => ?_)
              · skip
                exact absurd c_7 (by decide)
              · skip
                refine lv_aload_n (pc := 351) hx hb dL_isEvent_351 rfl (lv_at hl 16 rfl) ?_
                refine b_cR (pc := 352) (va_runS (As := [.ref (ad 0)]) (rest := []) ⟨hx, hb, hml, hown, hts⟩ (c_L_ended l D cI cC cZ cG ad (sKeep σ (h_change σ.1 g bm) (sN σ)) (ok.keep _ ok.1)) (va_cwS 1 hts gL_isEvent_L_ended rfl rfl rfl hyS_L_ended ⟨Nat.le_of_ble_eq_true rfl, Nat.le_of_ble_eq_true rfl⟩) (b_pRs hK hP) rfl rfl hl.1 rfl (lv_room (Nat.le_of_ble_eq_true rfl)) dL_isEvent_352 ⟨Nat.zero_le _, Nat.zero_le _⟩) ?_
                refine b_re (show _ = n_end (h_change σ.1 g bm) from rfl) ?_
                refine lv_iload (pc := 355) hx hb dL_isEvent_355 (lv_at hl 6 rfl) ?_
                refine lv_iconst (pc := 357) (v := 1) hx hb dL_isEvent_357 (by decide) ?_
                refine lv_iadd (pc := 358) hx hb dL_isEvent_358 ?_
                refine lv_icmp_ne (pc := 359) (tgt := 537) hx hb dL_isEvent_359 (by decide) (fun c_8 => ?_) (fun c_8 => ?_)
                · skip
                  have c_8 : ¬ ((n_end (h_change σ.1 g bm)) = ((n_end σ.1) + 1)) := c_8
                  exact absurd (ev_b_end hg (by assumption)) c_8
                · skip
                  have c_8 : (n_end (h_change σ.1 g bm)) = ((n_end σ.1) + 1) := c_8
                  refine lv_aload_n (pc := 362) hx hb dL_isEvent_362 rfl (lv_at hl 16 rfl) ?_
                  refine lv_iload_n (pc := 363) hx hb dL_isEvent_363 rfl (lv_at hl 17 rfl) ?_
                  refine lv_iconst (pc := 364) (v := 1) hx hb dL_isEvent_364 (by decide) ?_
                  refine b_cR (pc := 365) (va_runV (As := [.int (nI g), .int 1]) (rest := []) ⟨hx, hb, hml, hown, hts⟩ (k_gate l D cI cC cZ cG ad (sKeep σ (h_change σ.1 g bm) (sN σ)) (ok.keep _ ok.1) g 1 (by omega) (by omega)) (cwV 2 hts gL_isEvent_X3_gate rfl rfl rfl hy_X3_gate ⟨Nat.le_of_ble_eq_true rfl, Nat.le_of_ble_eq_true rfl⟩) (b_pRc hK hP (hc_0 _ _ _ _ _ _)) rfl rfl hl.1 rfl (lv_room (Nat.le_of_ble_eq_true rfl)) dL_isEvent_365 ⟨Nat.zero_le _, Nat.zero_le _⟩) ?_
                  refine b_re (show _ = h_tell (h_change σ.1 g bm) g 1 from rfl) ?_
                  refine lv_bipush (pc := 368) (v := (-6)) hx hb dL_isEvent_368 (by decide) ?_
                  refine lv_icmp_ne (pc := 370) (tgt := 537) hx hb dL_isEvent_370 (by decide) (fun c_9 => ?_) (fun c_9 => ?_)
                  · skip
                    have c_9 : ¬ ((h_tell (h_change σ.1 g bm) g 1) = (-6)) := c_9
                    exact absurd (ev_b_1 (by assumption)) c_9
                  · skip
                    have c_9 : (h_tell (h_change σ.1 g bm) g 1) = (-6) := c_9
                    refine lv_aload_n (pc := 373) hx hb dL_isEvent_373 rfl (lv_at hl 16 rfl) ?_
                    refine lv_iload_n (pc := 374) hx hb dL_isEvent_374 rfl (lv_at hl 17 rfl) ?_
                    refine lv_iconst (pc := 375) (v := 5) hx hb dL_isEvent_375 (by decide) ?_
                    refine b_cR (pc := 376) (va_runV (As := [.int (nI g), .int 5]) (rest := []) ⟨hx, hb, hml, hown, hts⟩ (k_gate l D cI cC cZ cG ad (sKeep σ (h_change σ.1 g bm) (sN σ)) (ok.keep _ ok.1) g 5 (by omega) (by omega)) (cwV 2 hts gL_isEvent_X3_gate rfl rfl rfl hy_X3_gate ⟨Nat.le_of_ble_eq_true rfl, Nat.le_of_ble_eq_true rfl⟩) (b_pRc hK hP (hc_0 _ _ _ _ _ _)) rfl rfl hl.1 rfl (lv_room (Nat.le_of_ble_eq_true rfl)) dL_isEvent_376 ⟨Nat.zero_le _, Nat.zero_le _⟩) ?_
                    refine b_re (show _ = h_tell (h_change σ.1 g bm) g 5 from rfl) ?_
                    refine lv_iload (pc := 379) hx hb dL_isEvent_379 (lv_at hl 11 rfl) ?_
                    refine lv_isub (pc := 381) hx hb dL_isEvent_381 ?_
                    refine wj_cut (a := W p l e ({ frames := 5, cells := 0, slots := 0, locals := 109 } : Room) s m ([.ref (ad 0), .int (nI g), .int (nI bm)] : List Value).toArray below meth c H locs 0 0 Q (F0 m 397 ls [.int (if e_comes σ.1 g bm = 0 then 0 else if σ.1 (8 + g * 13 + 0) = 3 then 1 else 0), .int ((h_tell (h_change σ.1 g bm) g 5) - (h_tell σ.1 g 5))])) ?_ (fun J_10 => ?_)
                    · skip
                      refine lv_icmp_ne (pc := 397) (tgt := 537) hx hb dL_isEvent_397 (by decide) (fun c_11 => ?_) (fun c_11 => ?_)
                      · skip
                        have c_11 : ¬ (((h_tell (h_change σ.1 g bm) g 5) - (h_tell σ.1 g 5)) = (if e_comes σ.1 g bm = 0 then 0 else if σ.1 (8 + g * 13 + 0) = 3 then 1 else 0)) := c_11
                        exact absurd ((ev_b hg hbm hI (by assumption)).1) c_11
                      · skip
                        have c_11 : ((h_tell (h_change σ.1 g bm) g 5) - (h_tell σ.1 g 5)) = (if e_comes σ.1 g bm = 0 then 0 else if σ.1 (8 + g * 13 + 0) = 3 then 1 else 0) := c_11
                        refine lv_aload_n (pc := 400) hx hb dL_isEvent_400 rfl (lv_at hl 16 rfl) ?_
                        refine lv_iload_n (pc := 401) hx hb dL_isEvent_401 rfl (lv_at hl 17 rfl) ?_
                        refine lv_bipush (pc := 402) (v := 6) hx hb dL_isEvent_402 (by decide) ?_
                        refine b_cR (pc := 404) (va_runV (As := [.int (nI g), .int 6]) (rest := []) ⟨hx, hb, hml, hown, hts⟩ (k_gate l D cI cC cZ cG ad (sKeep σ (h_change σ.1 g bm) (sN σ)) (ok.keep _ ok.1) g 6 (by omega) (by omega)) (cwV 2 hts gL_isEvent_X3_gate rfl rfl rfl hy_X3_gate ⟨Nat.le_of_ble_eq_true rfl, Nat.le_of_ble_eq_true rfl⟩) (b_pRc hK hP (hc_0 _ _ _ _ _ _)) rfl rfl hl.1 rfl (lv_room (Nat.le_of_ble_eq_true rfl)) dL_isEvent_404 ⟨Nat.zero_le _, Nat.zero_le _⟩) ?_
                        refine b_re (show _ = h_tell (h_change σ.1 g bm) g 6 from rfl) ?_
                        refine lv_iload (pc := 407) hx hb dL_isEvent_407 (lv_at hl 10 rfl) ?_
                        refine lv_isub (pc := 409) hx hb dL_isEvent_409 ?_
                        refine wj_cut (a := W p l e ({ frames := 5, cells := 0, slots := 0, locals := 109 } : Room) s m ([.ref (ad 0), .int (nI g), .int (nI bm)] : List Value).toArray below meth c H locs 0 0 Q (F0 m 420 ls [.int (if e_goes σ.1 g bm = 0 then 0 else 1), .int ((h_tell (h_change σ.1 g bm) g 6) - (h_tell σ.1 g 6))])) ?_ (fun J_12 => ?_)
                        · skip
                          refine lv_icmp_ne (pc := 420) (tgt := 537) hx hb dL_isEvent_420 (by decide) (fun c_13 => ?_) (fun c_13 => ?_)
                          · skip
                            have c_13 : ¬ (((h_tell (h_change σ.1 g bm) g 6) - (h_tell σ.1 g 6)) = (if e_goes σ.1 g bm = 0 then 0 else 1)) := c_13
                            exact absurd ((ev_b hg hbm hI (by assumption)).2.1) c_13
                          · skip
                            have c_13 : ((h_tell (h_change σ.1 g bm) g 6) - (h_tell σ.1 g 6)) = (if e_goes σ.1 g bm = 0 then 0 else 1) := c_13
                            refine lv_aload_n (pc := 423) hx hb dL_isEvent_423 rfl (lv_at hl 16 rfl) ?_
                            refine lv_iconst (pc := 424) (v := 4) hx hb dL_isEvent_424 (by decide) ?_
                            refine b_cR (pc := 425) (va_runV (As := [.int 4]) (rest := []) ⟨hx, hb, hml, hown, hts⟩ (k_count_lo l D cI cC cZ cG ad (sKeep σ (h_change σ.1 g bm) (sN σ)) (ok.keep _ ok.1) 4 (by omega)) (cwV 1 hts gL_isEvent_X3_count rfl rfl rfl hy_X3_count ⟨Nat.le_of_ble_eq_true rfl, Nat.le_of_ble_eq_true rfl⟩) (b_pRc hK hP (hc_0 _ _ _ _ _ _)) rfl rfl hl.1 rfl (lv_room (Nat.le_of_ble_eq_true rfl)) dL_isEvent_425 ⟨Nat.zero_le _, Nat.zero_le _⟩) ?_
                            refine b_re (show _ = (h_change σ.1 g bm) 4 from rfl) ?_
                            refine wj_cut (a := W p l e ({ frames := 5, cells := 0, slots := 0, locals := 109 } : Room) s m ([.ref (ad 0), .int (nI g), .int (nI bm)] : List Value).toArray below meth c H locs 0 0 Q (F0 m 464 ls [.int (if e_comes σ.1 g bm = 0 then (if e_goes σ.1 g bm = 0 then σ.1 4 else if σ.1 4 ≤ 0 then σ.1 4 else σ.1 4 - 1) else if σ.1 (8 + g * 13 + 0) = 3 then σ.1 4 + 1 else (if e_goes σ.1 g bm = 0 then σ.1 4 else if σ.1 4 ≤ 0 then σ.1 4 else σ.1 4 - 1)), .int ((h_change σ.1 g bm) 4)])) ?_ (fun J_14 => ?_)
                            · skip
                              refine lv_icmp_ne (pc := 464) (tgt := 537) hx hb dL_isEvent_464 (by decide) (fun c_15 => ?_) (fun c_15 => ?_)
                              · skip
                                have c_15 : ¬ (((h_change σ.1 g bm) 4) = (if e_comes σ.1 g bm = 0 then (if e_goes σ.1 g bm = 0 then σ.1 4 else if σ.1 4 ≤ 0 then σ.1 4 else σ.1 4 - 1) else if σ.1 (8 + g * 13 + 0) = 3 then σ.1 4 + 1 else (if e_goes σ.1 g bm = 0 then σ.1 4 else if σ.1 4 ≤ 0 then σ.1 4 else σ.1 4 - 1))) := c_15
                                exact absurd ((ev_b hg hbm hI (by assumption)).2.2.1) c_15
                              · skip
                                have c_15 : ((h_change σ.1 g bm) 4) = (if e_comes σ.1 g bm = 0 then (if e_goes σ.1 g bm = 0 then σ.1 4 else if σ.1 4 ≤ 0 then σ.1 4 else σ.1 4 - 1) else if σ.1 (8 + g * 13 + 0) = 3 then σ.1 4 + 1 else (if e_goes σ.1 g bm = 0 then σ.1 4 else if σ.1 4 ≤ 0 then σ.1 4 else σ.1 4 - 1)) := c_15
                                refine lv_aload_n (pc := 467) hx hb dL_isEvent_467 rfl (lv_at hl 16 rfl) ?_
                                refine lv_bipush (pc := 468) (v := 7) hx hb dL_isEvent_468 (by decide) ?_
                                refine b_cR (pc := 470) (va_runV (As := [.int 7]) (rest := []) ⟨hx, hb, hml, hown, hts⟩ (k_count_lo l D cI cC cZ cG ad (sKeep σ (h_change σ.1 g bm) (sN σ)) (ok.keep _ ok.1) 7 (by omega)) (cwV 1 hts gL_isEvent_X3_count rfl rfl rfl hy_X3_count ⟨Nat.le_of_ble_eq_true rfl, Nat.le_of_ble_eq_true rfl⟩) (b_pRc hK hP (hc_0 _ _ _ _ _ _)) rfl rfl hl.1 rfl (lv_room (Nat.le_of_ble_eq_true rfl)) dL_isEvent_470 ⟨Nat.zero_le _, Nat.zero_le _⟩) ?_
                                refine b_re (show _ = (h_change σ.1 g bm) 7 from rfl) ?_
                                refine lv_iload (pc := 473) hx hb dL_isEvent_473 (lv_at hl 8 rfl) ?_
                                refine lv_isub (pc := 475) hx hb dL_isEvent_475 ?_
                                refine wj_cut (a := W p l e ({ frames := 5, cells := 0, slots := 0, locals := 109 } : Room) s m ([.ref (ad 0), .int (nI g), .int (nI bm)] : List Value).toArray below meth c H locs 0 0 Q (F0 m 491 ls [.int (if e_goes σ.1 g bm = 0 then 0 else if σ.1 4 = 0 then 1 else 0), .int (((h_change σ.1 g bm) 7) - (σ.1 7))])) ?_ (fun J_16 => ?_)
                                · skip
                                  refine lv_icmp_ne (pc := 491) (tgt := 537) hx hb dL_isEvent_491 (by decide) (fun c_17 => ?_) (fun c_17 => ?_)
                                  · skip
                                    have c_17 : ¬ ((((h_change σ.1 g bm) 7) - (σ.1 7)) = (if e_goes σ.1 g bm = 0 then 0 else if σ.1 4 = 0 then 1 else 0)) := c_17
                                    exact absurd ((ev_b hg hbm hI (by assumption)).2.2.2.1) c_17
                                  · skip
                                    have c_17 : (((h_change σ.1 g bm) 7) - (σ.1 7)) = (if e_goes σ.1 g bm = 0 then 0 else if σ.1 4 = 0 then 1 else 0) := c_17
                                    refine lv_aload_n (pc := 494) hx hb dL_isEvent_494 rfl (lv_at hl 16 rfl) ?_
                                    refine lv_bipush (pc := 495) (v := 6) hx hb dL_isEvent_495 (by decide) ?_
                                    refine b_cR (pc := 497) (va_runV (As := [.int 6]) (rest := []) ⟨hx, hb, hml, hown, hts⟩ (k_count_lo l D cI cC cZ cG ad (sKeep σ (h_change σ.1 g bm) (sN σ)) (ok.keep _ ok.1) 6 (by omega)) (cwV 1 hts gL_isEvent_X3_count rfl rfl rfl hy_X3_count ⟨Nat.le_of_ble_eq_true rfl, Nat.le_of_ble_eq_true rfl⟩) (b_pRc hK hP (hc_0 _ _ _ _ _ _)) rfl rfl hl.1 rfl (lv_room (Nat.le_of_ble_eq_true rfl)) dL_isEvent_497 ⟨Nat.zero_le _, Nat.zero_le _⟩) ?_
                                    refine b_re (show _ = (h_change σ.1 g bm) 6 from rfl) ?_
                                    refine lv_iload (pc := 500) hx hb dL_isEvent_500 (lv_at hl 7 rfl) ?_
                                    refine lv_isub (pc := 502) hx hb dL_isEvent_502 ?_
                                    refine wj_cut (a := W p l e ({ frames := 5, cells := 0, slots := 0, locals := 109 } : Room) s m ([.ref (ad 0), .int (nI g), .int (nI bm)] : List Value).toArray below meth c H locs 0 0 Q (F0 m 530 ls [.int (if e_comes σ.1 g bm = 0 then 0 else if σ.1 (8 + g * 13 + 0) = 3 then (if σ.1 4 + 1 ≤ (h_change σ.1 g bm) 2 then 0 else 1) else 0), .int (((h_change σ.1 g bm) 6) - (σ.1 6))])) ?_ (fun J_18 => ?_)
                                    · skip
                                      refine lv_icmp_ne (pc := 530) (tgt := 537) hx hb dL_isEvent_530 (by decide) (fun c_19 => ?_) (fun c_19 => ?_)
                                      · skip
                                        have c_19 : ¬ ((((h_change σ.1 g bm) 6) - (σ.1 6)) = (if e_comes σ.1 g bm = 0 then 0 else if σ.1 (8 + g * 13 + 0) = 3 then (if σ.1 4 + 1 ≤ (h_change σ.1 g bm) 2 then 0 else 1) else 0)) := c_19
                                        exact absurd ((ev_b hg hbm hI (by assumption)).2.2.2.2) c_19
                                      · skip
                                        have c_19 : (((h_change σ.1 g bm) 6) - (σ.1 6)) = (if e_comes σ.1 g bm = 0 then 0 else if σ.1 (8 + g * 13 + 0) = 3 then (if σ.1 4 + 1 ≤ (h_change σ.1 g bm) 2 then 0 else 1) else 0) := c_19
                                        refine lv_iconst (pc := 533) (v := 1) hx hb dL_isEvent_533 (by decide) ?_
                                        refine lv_goto (pc := 534) (tgt := 538) hx hb dL_isEvent_534 (by decide) ?_
                                        subst hQ
                                        exact b_retWZ hx hb hr hlocks rfl hS rfl (hP) dL_isEvent_538
                                    · skip
                                      refine lv_iload (pc := 503) hx hb dL_isEvent_503 (lv_at hl 1 rfl) ?_
                                      refine lv_if_eq (pc := 505) (tgt := 529) hx hb dL_isEvent_505 (by decide) (fun c_20 => ?_) (fun c_20 => ?_)
                                      · skip
                                        have c_20 : (e_comes σ.1 g bm) = 0 := c_20
                                        refine lv_iconst (pc := 529) (v := 0) hx hb dL_isEvent_529 (by decide) ?_
                                        exact b_re (by rw [if_pos c_20]) J_18
                                      · skip
                                        have c_20 : ¬ ((e_comes σ.1 g bm) = 0) := c_20
                                        refine lv_iload_n (pc := 508) hx hb dL_isEvent_508 rfl (lv_at hl 15 rfl) ?_
                                        refine lv_iconst (pc := 509) (v := 3) hx hb dL_isEvent_509 (by decide) ?_
                                        refine lv_icmp_ne (pc := 510) (tgt := 529) hx hb dL_isEvent_510 (by decide) (fun c_21 => ?_) (fun c_21 => ?_)
                                        · skip
                                          have c_21 : ¬ ((σ.1 (8 + g * 13 + 0)) = 3) := c_21
                                          refine lv_iconst (pc := 529) (v := 0) hx hb dL_isEvent_529 (by decide) ?_
                                          exact b_re (by rw [if_neg c_20, if_neg c_21]) J_18
                                        · skip
                                          have c_21 : (σ.1 (8 + g * 13 + 0)) = 3 := c_21
                                          refine lv_iload (pc := 513) hx hb dL_isEvent_513 (lv_at hl 9 rfl) ?_
                                          refine lv_iconst (pc := 515) (v := 1) hx hb dL_isEvent_515 (by decide) ?_
                                          refine lv_iadd (pc := 516) hx hb dL_isEvent_516 ?_
                                          refine lv_aload_n (pc := 517) hx hb dL_isEvent_517 rfl (lv_at hl 16 rfl) ?_
                                          refine lv_iconst (pc := 518) (v := 2) hx hb dL_isEvent_518 (by decide) ?_
                                          refine b_cR (pc := 519) (va_runV (As := [.int 2]) (rest := [.int ((σ.1 4) + 1), .int (((h_change σ.1 g bm) 6) - (σ.1 6))]) ⟨hx, hb, hml, hown, hts⟩ (k_count_lo l D cI cC cZ cG ad (sKeep σ (h_change σ.1 g bm) (sN σ)) (ok.keep _ ok.1) 2 (by omega)) (cwV 1 hts gL_isEvent_X3_count rfl rfl rfl hy_X3_count ⟨Nat.le_of_ble_eq_true rfl, Nat.le_of_ble_eq_true rfl⟩) (b_pRc hK hP (hc_0 _ _ _ _ _ _)) rfl rfl hl.1 rfl (lv_room (Nat.le_of_ble_eq_true rfl)) dL_isEvent_519 ⟨Nat.zero_le _, Nat.zero_le _⟩) ?_
                                          refine b_re (show _ = (h_change σ.1 g bm) 2 from rfl) ?_
                                          refine lv_icmp_le (pc := 522) (tgt := 529) hx hb dL_isEvent_522 (by decide) (fun c_22 => ?_) (fun c_22 => ?_)
                                          · skip
                                            have c_22 : ((σ.1 4) + 1) ≤ ((h_change σ.1 g bm) 2) := c_22
                                            refine lv_iconst (pc := 529) (v := 0) hx hb dL_isEvent_529 (by decide) ?_
                                            exact b_re (by rw [if_neg c_20, if_pos c_21, if_pos c_22]) J_18
                                          · skip
                                            have c_22 : ¬ (((σ.1 4) + 1) ≤ ((h_change σ.1 g bm) 2)) := c_22
                                            refine lv_iconst (pc := 525) (v := 1) hx hb dL_isEvent_525 (by decide) ?_
                                            refine lv_goto (pc := 526) (tgt := 530) hx hb dL_isEvent_526 (by decide) ?_
                                            exact b_re (by rw [if_neg c_20, if_pos c_21, if_neg c_22]) J_18
                                · skip
                                  refine lv_iload (pc := 476) hx hb dL_isEvent_476 (lv_at hl 0 rfl) ?_
                                  refine lv_if_eq (pc := 478) (tgt := 490) hx hb dL_isEvent_478 (by decide) (fun c_23 => ?_) (fun c_23 => ?_)
                                  · skip
                                    have c_23 : (e_goes σ.1 g bm) = 0 := c_23
                                    refine lv_iconst (pc := 490) (v := 0) hx hb dL_isEvent_490 (by decide) ?_
                                    exact b_re (by rw [if_pos c_23]) J_16
                                  · skip
                                    have c_23 : ¬ ((e_goes σ.1 g bm) = 0) := c_23
                                    refine lv_iload (pc := 481) hx hb dL_isEvent_481 (lv_at hl 9 rfl) ?_
                                    refine lv_if_ne (pc := 483) (tgt := 490) hx hb dL_isEvent_483 (by decide) (fun c_24 => ?_) (fun c_24 => ?_)
                                    · skip
                                      have c_24 : ¬ ((σ.1 4) = 0) := c_24
                                      refine lv_iconst (pc := 490) (v := 0) hx hb dL_isEvent_490 (by decide) ?_
                                      exact b_re (by rw [if_neg c_23, if_neg c_24]) J_16
                                    · skip
                                      have c_24 : (σ.1 4) = 0 := c_24
                                      refine lv_iconst (pc := 486) (v := 1) hx hb dL_isEvent_486 (by decide) ?_
                                      refine lv_goto (pc := 487) (tgt := 491) hx hb dL_isEvent_487 (by decide) ?_
                                      exact b_re (by rw [if_neg c_23, if_pos c_24]) J_16
                            · skip
                              refine lv_iload (pc := 428) hx hb dL_isEvent_428 (lv_at hl 1 rfl) ?_
                              refine lv_if_eq (pc := 430) (tgt := 445) hx hb dL_isEvent_430 (by decide) (fun c_25 => ?_) (fun c_25 => ?_)
                              · skip
                                have c_25 : (e_comes σ.1 g bm) = 0 := c_25
                                refine lv_iload (pc := 445) hx hb dL_isEvent_445 (lv_at hl 0 rfl) ?_
                                refine lv_if_eq (pc := 447) (tgt := 462) hx hb dL_isEvent_447 (by decide) (fun c_26 => ?_) (fun c_26 => ?_)
                                · skip
                                  have c_26 : (e_goes σ.1 g bm) = 0 := c_26
                                  refine lv_iload (pc := 462) hx hb dL_isEvent_462 (lv_at hl 9 rfl) ?_
                                  exact b_re (by rw [if_pos c_25, if_pos c_26]) J_14
                                · skip
                                  have c_26 : ¬ ((e_goes σ.1 g bm) = 0) := c_26
                                  refine lv_iload (pc := 450) hx hb dL_isEvent_450 (lv_at hl 9 rfl) ?_
                                  refine lv_if_le (pc := 452) (tgt := 462) hx hb dL_isEvent_452 (by decide) (fun c_27 => ?_) (fun c_27 => ?_)
                                  · skip
                                    have c_27 : (σ.1 4) ≤ 0 := c_27
                                    refine lv_iload (pc := 462) hx hb dL_isEvent_462 (lv_at hl 9 rfl) ?_
                                    exact b_re (by rw [if_pos c_25, if_neg c_26, if_pos c_27]) J_14
                                  · skip
                                    have c_27 : ¬ ((σ.1 4) ≤ 0) := c_27
                                    refine lv_iload (pc := 455) hx hb dL_isEvent_455 (lv_at hl 9 rfl) ?_
                                    refine lv_iconst (pc := 457) (v := 1) hx hb dL_isEvent_457 (by decide) ?_
                                    refine lv_isub (pc := 458) hx hb dL_isEvent_458 ?_
                                    refine lv_goto (pc := 459) (tgt := 464) hx hb dL_isEvent_459 (by decide) ?_
                                    exact b_re (by rw [if_pos c_25, if_neg c_26, if_neg c_27]) J_14
                              · skip
                                have c_25 : ¬ ((e_comes σ.1 g bm) = 0) := c_25
                                refine lv_iload_n (pc := 433) hx hb dL_isEvent_433 rfl (lv_at hl 15 rfl) ?_
                                refine lv_iconst (pc := 434) (v := 3) hx hb dL_isEvent_434 (by decide) ?_
                                refine lv_icmp_ne (pc := 435) (tgt := 445) hx hb dL_isEvent_435 (by decide) (fun c_28 => ?_) (fun c_28 => ?_)
                                · skip
                                  have c_28 : ¬ ((σ.1 (8 + g * 13 + 0)) = 3) := c_28
                                  refine lv_iload (pc := 445) hx hb dL_isEvent_445 (lv_at hl 0 rfl) ?_
                                  refine lv_if_eq (pc := 447) (tgt := 462) hx hb dL_isEvent_447 (by decide) (fun c_29 => ?_) (fun c_29 => ?_)
                                  · skip
                                    have c_29 : (e_goes σ.1 g bm) = 0 := c_29
                                    refine lv_iload (pc := 462) hx hb dL_isEvent_462 (lv_at hl 9 rfl) ?_
                                    exact b_re (by rw [if_neg c_25, if_neg c_28, if_pos c_29]) J_14
                                  · skip
                                    have c_29 : ¬ ((e_goes σ.1 g bm) = 0) := c_29
                                    refine lv_iload (pc := 450) hx hb dL_isEvent_450 (lv_at hl 9 rfl) ?_
                                    refine lv_if_le (pc := 452) (tgt := 462) hx hb dL_isEvent_452 (by decide) (fun c_30 => ?_) (fun c_30 => ?_)
                                    · skip
                                      have c_30 : (σ.1 4) ≤ 0 := c_30
                                      refine lv_iload (pc := 462) hx hb dL_isEvent_462 (lv_at hl 9 rfl) ?_
                                      exact b_re (by rw [if_neg c_25, if_neg c_28, if_neg c_29, if_pos c_30]) J_14
                                    · skip
                                      have c_30 : ¬ ((σ.1 4) ≤ 0) := c_30
                                      refine lv_iload (pc := 455) hx hb dL_isEvent_455 (lv_at hl 9 rfl) ?_
                                      refine lv_iconst (pc := 457) (v := 1) hx hb dL_isEvent_457 (by decide) ?_
                                      refine lv_isub (pc := 458) hx hb dL_isEvent_458 ?_
                                      refine lv_goto (pc := 459) (tgt := 464) hx hb dL_isEvent_459 (by decide) ?_
                                      exact b_re (by rw [if_neg c_25, if_neg c_28, if_neg c_29, if_neg c_30]) J_14
                                · skip
                                  have c_28 : (σ.1 (8 + g * 13 + 0)) = 3 := c_28
                                  refine lv_iload (pc := 438) hx hb dL_isEvent_438 (lv_at hl 9 rfl) ?_
                                  refine lv_iconst (pc := 440) (v := 1) hx hb dL_isEvent_440 (by decide) ?_
                                  refine lv_iadd (pc := 441) hx hb dL_isEvent_441 ?_
                                  refine lv_goto (pc := 442) (tgt := 464) hx hb dL_isEvent_442 (by decide) ?_
                                  exact b_re (by rw [if_neg c_25, if_pos c_28]) J_14
                        · skip
                          refine lv_iload (pc := 410) hx hb dL_isEvent_410 (lv_at hl 0 rfl) ?_
                          refine lv_if_eq (pc := 412) (tgt := 419) hx hb dL_isEvent_412 (by decide) (fun c_31 => ?_) (fun c_31 => ?_)
                          · skip
                            have c_31 : (e_goes σ.1 g bm) = 0 := c_31
                            refine lv_iconst (pc := 419) (v := 0) hx hb dL_isEvent_419 (by decide) ?_
                            exact b_re (by rw [if_pos c_31]) J_12
                          · skip
                            have c_31 : ¬ ((e_goes σ.1 g bm) = 0) := c_31
                            refine lv_iconst (pc := 415) (v := 1) hx hb dL_isEvent_415 (by decide) ?_
                            refine lv_goto (pc := 416) (tgt := 420) hx hb dL_isEvent_416 (by decide) ?_
                            exact b_re (by rw [if_neg c_31]) J_12
                    · skip
                      refine lv_iload (pc := 382) hx hb dL_isEvent_382 (lv_at hl 1 rfl) ?_
                      refine lv_if_eq (pc := 384) (tgt := 396) hx hb dL_isEvent_384 (by decide) (fun c_32 => ?_) (fun c_32 => ?_)
                      · skip
                        have c_32 : (e_comes σ.1 g bm) = 0 := c_32
                        refine lv_iconst (pc := 396) (v := 0) hx hb dL_isEvent_396 (by decide) ?_
                        exact b_re (by rw [if_pos c_32]) J_10
                      · skip
                        have c_32 : ¬ ((e_comes σ.1 g bm) = 0) := c_32
                        refine lv_iload_n (pc := 387) hx hb dL_isEvent_387 rfl (lv_at hl 15 rfl) ?_
                        refine lv_iconst (pc := 388) (v := 3) hx hb dL_isEvent_388 (by decide) ?_
                        refine lv_icmp_ne (pc := 389) (tgt := 396) hx hb dL_isEvent_389 (by decide) (fun c_33 => ?_) (fun c_33 => ?_)
                        · skip
                          have c_33 : ¬ ((σ.1 (8 + g * 13 + 0)) = 3) := c_33
                          refine lv_iconst (pc := 396) (v := 0) hx hb dL_isEvent_396 (by decide) ?_
                          exact b_re (by rw [if_neg c_32, if_neg c_33]) J_10
                        · skip
                          have c_33 : (σ.1 (8 + g * 13 + 0)) = 3 := c_33
                          refine lv_iconst (pc := 392) (v := 1) hx hb dL_isEvent_392 (by decide) ?_
                          refine lv_goto (pc := 393) (tgt := 397) hx hb dL_isEvent_393 (by decide) ?_
                          exact b_re (by rw [if_neg c_32, if_pos c_33]) J_10
            · skip
              refine lv_iload (pc := 323) hx hb dL_isEvent_323 (lv_at hl 1 rfl) ?_
              refine lv_if_ne (pc := 325) (tgt := 343) hx hb dL_isEvent_325 (by decide) (fun c_34 => ?_) (fun c_34 => ?_)
              · skip
                have c_34 : ¬ ((e_lost σ.1 g bm) = 0) := c_34
                refine lv_iconst (pc := 343) (v := 0) hx hb dL_isEvent_343 (by decide) ?_
                exact b_re (by unfold e_goes; rw [if_neg c_34]) J_6
              · skip
                have c_34 : (e_lost σ.1 g bm) = 0 := c_34
                refine lv_iload (pc := 328) hx hb dL_isEvent_328 (lv_at hl 13 rfl) ?_
                refine lv_iconst (pc := 330) (v := 1) hx hb dL_isEvent_330 (by decide) ?_
                refine lv_icmp_ne (pc := 331) (tgt := 343) hx hb dL_isEvent_331 (by decide) (fun c_35 => ?_) (fun c_35 => ?_)
                · skip
                  have c_35 : ¬ ((h_tell σ.1 g 2) = 1) := c_35
                  refine lv_iconst (pc := 343) (v := 0) hx hb dL_isEvent_343 (by decide) ?_
                  exact b_re (by unfold e_goes; rw [if_pos c_34, if_neg c_35]) J_6
                · skip
                  have c_35 : (h_tell σ.1 g 2) = 1 := c_35
                  refine lv_iload_n (pc := 334) hx hb dL_isEvent_334 rfl (lv_at hl 14 rfl) ?_
                  refine lv_iconst (pc := 335) (v := 1) hx hb dL_isEvent_335 (by decide) ?_
                  refine lv_icmp_ne (pc := 336) (tgt := 343) hx hb dL_isEvent_336 (by decide) (fun c_36 => ?_) (fun c_36 => ?_)
                  · skip
                    have c_36 : ¬ ((σ.1 (8 + g * 13 + 0)) = 1) := c_36
                    refine lv_iconst (pc := 343) (v := 0) hx hb dL_isEvent_343 (by decide) ?_
                    exact b_re (by unfold e_goes; rw [if_pos c_34, if_pos c_35, if_neg c_36]) J_6
                  · skip
                    have c_36 : (σ.1 (8 + g * 13 + 0)) = 1 := c_36
                    refine lv_iconst (pc := 339) (v := 1) hx hb dL_isEvent_339 (by decide) ?_
                    refine lv_goto (pc := 340) (tgt := 344) hx hb dL_isEvent_340 (by decide) ?_
                    exact b_re (by unfold e_goes; rw [if_pos c_34, if_pos c_35, if_pos c_36]) J_6
          · skip
            refine lv_iload (pc := 304) hx hb dL_isEvent_304 (lv_at hl 0 rfl) ?_
            refine lv_if_ne (pc := 306) (tgt := 320) hx hb dL_isEvent_306 (by decide) (fun c_37 => ?_) (fun c_37 => ?_)
            · skip
              have c_37 : ¬ ((e_lost σ.1 g bm) = 0) := c_37
              refine lv_iconst (pc := 320) (v := 0) hx hb dL_isEvent_320 (by decide) ?_
              exact b_re (by unfold e_comes; rw [if_neg c_37]) J_5
            · skip
              have c_37 : (e_lost σ.1 g bm) = 0 := c_37
              refine lv_iload (pc := 309) hx hb dL_isEvent_309 (lv_at hl 12 rfl) ?_
              refine lv_bipush (pc := 311) (v := 7) hx hb dL_isEvent_311 (by decide) ?_
              refine lv_icmp_ne (pc := 313) (tgt := 320) hx hb dL_isEvent_313 (by decide) (fun c_38 => ?_) (fun c_38 => ?_)
              · skip
                have c_38 : ¬ ((h_tell σ.1 g 2) = 7) := c_38
                refine lv_iconst (pc := 320) (v := 0) hx hb dL_isEvent_320 (by decide) ?_
                exact b_re (by unfold e_comes; rw [if_pos c_37, if_neg c_38]) J_5
              · skip
                have c_38 : (h_tell σ.1 g 2) = 7 := c_38
                refine lv_iconst (pc := 316) (v := 1) hx hb dL_isEvent_316 (by decide) ?_
                refine lv_goto (pc := 317) (tgt := 321) hx hb dL_isEvent_317 (by decide) ?_
                exact b_re (by unfold e_comes; rw [if_pos c_37, if_pos c_38]) J_5
        · skip
          refine lv_iload (pc := 287) hx hb dL_isEvent_287 (lv_at hl 10 rfl) ?_
          refine lv_if_eq (pc := 289) (tgt := 297) hx hb dL_isEvent_289 (by decide) (fun c_39 => ?_) (fun c_39 => ?_)
          · skip
            have c_39 : (h_tell σ.1 g 3) = 0 := c_39
            refine lv_iconst (pc := 297) (v := 1) hx hb dL_isEvent_297 (by decide) ?_
            refine lv_goto (pc := 298) (tgt := 302) hx hb dL_isEvent_298 (by decide) ?_
            exact b_re (by unfold e_lost; rw [if_pos c_39]) J_4
          · skip
            have c_39 : ¬ ((h_tell σ.1 g 3) = 0) := c_39
            refine lv_iload_n (pc := 292) hx hb dL_isEvent_292 rfl (lv_at hl 15 rfl) ?_
            refine lv_iconst (pc := 293) (v := 2) hx hb dL_isEvent_293 (by decide) ?_
            refine lv_icmp_ne (pc := 294) (tgt := 301) hx hb dL_isEvent_294 (by decide) (fun c_40 => ?_) (fun c_40 => ?_)
            · skip
              have c_40 : ¬ (bm = 2) := fun h9 => c_40 ((nI_eq (a := bm) (b := 2) (by omega) (by omega)).mpr h9)
              refine lv_iconst (pc := 301) (v := 0) hx hb dL_isEvent_301 (by decide) ?_
              exact b_re (by unfold e_lost; rw [if_neg c_39, if_neg c_40]) J_4
            · skip
              have c_40 : bm = 2 := (nI_eq (a := bm) (b := 2) (by omega) (by omega)).mp c_40
              refine lv_iconst (pc := 297) (v := 1) hx hb dL_isEvent_297 (by decide) ?_
              refine lv_goto (pc := 298) (tgt := 302) hx hb dL_isEvent_298 (by decide) ?_
              exact b_re (by unfold e_lost; rw [if_neg c_39, if_pos c_40]) J_4
      · skip
        have c_3 : ¬ ((h_look σ.1 (8 + g * 13) bm) = 0) := c_3
        refine wj_cut (a := W p l e ({ frames := 5, cells := 0, slots := 0, locals := 109 } : Room) s m ([.ref (ad 0), .int (nI g), .int (nI bm)] : List Value).toArray below meth c H locs 0 0 Q (F0 m 163 ls [.int (e_st σ.1 g bm)])) ?_ (fun J_41 => ?_)
        · skip
          refine lv_istore (pc := 163) (lv' := [(16, .int (e_st σ.1 g bm)), (15, .int 1), (14, .int (h_look σ.1 (8 + g * 13) bm)), (13, .int (σ.1 3)), (12, .int (n_end σ.1)), (11, .int (σ.1 6)), (10, .int (σ.1 7)), (9, .int (σ.1 4)), (8, .int (h_tell σ.1 g 6)), (7, .int (h_tell σ.1 g 5)), (6, .int (h_tell σ.1 g 1)), (5, .int (h_tell σ.1 g 3)), (4, .int (h_tell σ.1 g 2)), (3, .int (σ.1 (8 + g * 13 + 0))), (0, .ref (ad 0)), (1, .int (nI g)), (2, .int (nI bm))]) hx hb dL_isEvent_163 hl (by decide) rfl (fun ls hl => ?_)
          refine wj_cut (a := W p l e ({ frames := 5, cells := 0, slots := 0, locals := 109 } : Room) s m ([.ref (ad 0), .int (nI g), .int (nI bm)] : List Value).toArray below meth c H locs 0 0 Q (F0 m 175 ls [.int (e_was σ.1 g)])) ?_ (fun J_42 => ?_)
          · skip
            refine lv_istore (pc := 175) (lv' := [(17, .int (e_was σ.1 g)), (16, .int (e_st σ.1 g bm)), (15, .int 1), (14, .int (h_look σ.1 (8 + g * 13) bm)), (13, .int (σ.1 3)), (12, .int (n_end σ.1)), (11, .int (σ.1 6)), (10, .int (σ.1 7)), (9, .int (σ.1 4)), (8, .int (h_tell σ.1 g 6)), (7, .int (h_tell σ.1 g 5)), (6, .int (h_tell σ.1 g 1)), (5, .int (h_tell σ.1 g 3)), (4, .int (h_tell σ.1 g 2)), (3, .int (σ.1 (8 + g * 13 + 0))), (0, .ref (ad 0)), (1, .int (nI g)), (2, .int (nI bm))]) hx hb dL_isEvent_175 hl (by decide) rfl (fun ls hl => ?_)
            refine wj_cut (a := W p l e ({ frames := 5, cells := 0, slots := 0, locals := 109 } : Room) s m ([.ref (ad 0), .int (nI g), .int (nI bm)] : List Value).toArray below meth c H locs 0 0 Q (F0 m 192 ls [.int (e_mv (h_look σ.1 (8 + g * 13) bm) (σ.1 (8 + g * 13 + 0)))])) ?_ (fun J_43 => ?_)
            · skip
              refine lv_istore (pc := 192) (lv' := [(18, .int (e_mv (h_look σ.1 (8 + g * 13) bm) (σ.1 (8 + g * 13 + 0)))), (17, .int (e_was σ.1 g)), (16, .int (e_st σ.1 g bm)), (15, .int 1), (14, .int (h_look σ.1 (8 + g * 13) bm)), (13, .int (σ.1 3)), (12, .int (n_end σ.1)), (11, .int (σ.1 6)), (10, .int (σ.1 7)), (9, .int (σ.1 4)), (8, .int (h_tell σ.1 g 6)), (7, .int (h_tell σ.1 g 5)), (6, .int (h_tell σ.1 g 1)), (5, .int (h_tell σ.1 g 3)), (4, .int (h_tell σ.1 g 2)), (3, .int (σ.1 (8 + g * 13 + 0))), (0, .ref (ad 0)), (1, .int (nI g)), (2, .int (nI bm))]) hx hb dL_isEvent_192 hl (by decide) rfl (fun ls hl => ?_)
              refine lv_iload (pc := 194) hx hb dL_isEvent_194 (lv_at hl 3 rfl) ?_
              refine lv_if_eq (pc := 196) (tgt := 285) hx hb dL_isEvent_196 (by decide) (fun c_44 => ?_) (fun c_44 => ?_)
              · skip
                exact absurd c_44 (by decide)
              · skip
                refine lv_aload_n (pc := 199) hx hb dL_isEvent_199 rfl (lv_at hl 16 rfl) ?_
                refine b_cR (pc := 200) (va_runS (As := [.ref (ad 0)]) (rest := []) ⟨hx, hb, hml, hown, hts⟩ (c_L_ended l D cI cC cZ cG ad (sKeep σ (h_change σ.1 g bm) (sN σ)) (ok.keep _ ok.1)) (va_cwS 1 hts gL_isEvent_L_ended rfl rfl rfl hyS_L_ended ⟨Nat.le_of_ble_eq_true rfl, Nat.le_of_ble_eq_true rfl⟩) (b_pRs hK hP) rfl rfl hl.1 rfl (lv_room (Nat.le_of_ble_eq_true rfl)) dL_isEvent_200 ⟨Nat.zero_le _, Nat.zero_le _⟩) ?_
                refine b_re (show _ = n_end (h_change σ.1 g bm) from rfl) ?_
                refine lv_iload (pc := 203) hx hb dL_isEvent_203 (lv_at hl 6 rfl) ?_
                refine lv_icmp_ne (pc := 205) (tgt := 285) hx hb dL_isEvent_205 (by decide) (fun c_45 => ?_) (fun c_45 => ?_)
                · skip
                  have c_45 : ¬ ((n_end (h_change σ.1 g bm)) = (n_end σ.1)) := c_45
                  exact absurd (ev_a_end hg (by assumption)) c_45
                · skip
                  have c_45 : (n_end (h_change σ.1 g bm)) = (n_end σ.1) := c_45
                  refine lv_aload_n (pc := 208) hx hb dL_isEvent_208 rfl (lv_at hl 16 rfl) ?_
                  refine lv_iload_n (pc := 209) hx hb dL_isEvent_209 rfl (lv_at hl 17 rfl) ?_
                  refine lv_iconst (pc := 210) (v := 1) hx hb dL_isEvent_210 (by decide) ?_
                  refine b_cR (pc := 211) (va_runV (As := [.int (nI g), .int 1]) (rest := []) ⟨hx, hb, hml, hown, hts⟩ (k_gate l D cI cC cZ cG ad (sKeep σ (h_change σ.1 g bm) (sN σ)) (ok.keep _ ok.1) g 1 (by omega) (by omega)) (cwV 2 hts gL_isEvent_X3_gate rfl rfl rfl hy_X3_gate ⟨Nat.le_of_ble_eq_true rfl, Nat.le_of_ble_eq_true rfl⟩) (b_pRc hK hP (hc_0 _ _ _ _ _ _)) rfl rfl hl.1 rfl (lv_room (Nat.le_of_ble_eq_true rfl)) dL_isEvent_211 ⟨Nat.zero_le _, Nat.zero_le _⟩) ?_
                  refine b_re (show _ = h_tell (h_change σ.1 g bm) g 1 from rfl) ?_
                  refine wj_cut (a := W p l e ({ frames := 5, cells := 0, slots := 0, locals := 109 } : Room) s m ([.ref (ad 0), .int (nI g), .int (nI bm)] : List Value).toArray below meth c H locs 0 0 Q (F0 m 225 ls [.int (if σ.1 (8 + g * 13 + 0) = 0 then σ.1 3 else h_tell σ.1 g 1), .int (h_tell (h_change σ.1 g bm) g 1)])) ?_ (fun J_46 => ?_)
                  · skip
                    refine lv_icmp_ne (pc := 225) (tgt := 285) hx hb dL_isEvent_225 (by decide) (fun c_47 => ?_) (fun c_47 => ?_)
                    · skip
                      have c_47 : ¬ ((h_tell (h_change σ.1 g bm) g 1) = (if σ.1 (8 + g * 13 + 0) = 0 then σ.1 3 else h_tell σ.1 g 1)) := c_47
                      exact absurd (ev_a_1 (by assumption)) c_47
                    · skip
                      have c_47 : (h_tell (h_change σ.1 g bm) g 1) = (if σ.1 (8 + g * 13 + 0) = 0 then σ.1 3 else h_tell σ.1 g 1) := c_47
                      refine lv_aload_n (pc := 228) hx hb dL_isEvent_228 rfl (lv_at hl 16 rfl) ?_
                      refine lv_iload_n (pc := 229) hx hb dL_isEvent_229 rfl (lv_at hl 17 rfl) ?_
                      refine lv_iconst (pc := 230) (v := 3) hx hb dL_isEvent_230 (by decide) ?_
                      refine b_cR (pc := 231) (va_runV (As := [.int (nI g), .int 3]) (rest := []) ⟨hx, hb, hml, hown, hts⟩ (k_gate l D cI cC cZ cG ad (sKeep σ (h_change σ.1 g bm) (sN σ)) (ok.keep _ ok.1) g 3 (by omega) (by omega)) (cwV 2 hts gL_isEvent_X3_gate rfl rfl rfl hy_X3_gate ⟨Nat.le_of_ble_eq_true rfl, Nat.le_of_ble_eq_true rfl⟩) (b_pRc hK hP (hc_0 _ _ _ _ _ _)) rfl rfl hl.1 rfl (lv_room (Nat.le_of_ble_eq_true rfl)) dL_isEvent_231 ⟨Nat.zero_le _, Nat.zero_le _⟩) ?_
                      refine b_re (show _ = h_tell (h_change σ.1 g bm) g 3 from rfl) ?_
                      refine wj_cut (a := W p l e ({ frames := 5, cells := 0, slots := 0, locals := 109 } : Room) s m ([.ref (ad 0), .int (nI g), .int (nI bm)] : List Value).toArray below meth c H locs 0 0 Q (F0 m 244 ls [.int (if e_st σ.1 g bm = 0 then 0 else 1), .int (h_tell (h_change σ.1 g bm) g 3)])) ?_ (fun J_48 => ?_)
                      · skip
                        refine lv_icmp_ne (pc := 244) (tgt := 285) hx hb dL_isEvent_244 (by decide) (fun c_49 => ?_) (fun c_49 => ?_)
                        · skip
                          have c_49 : ¬ ((h_tell (h_change σ.1 g bm) g 3) = (if e_st σ.1 g bm = 0 then 0 else 1)) := c_49
                          exact absurd (ev_a_3 hg hI (by assumption)) c_49
                        · skip
                          have c_49 : (h_tell (h_change σ.1 g bm) g 3) = (if e_st σ.1 g bm = 0 then 0 else 1) := c_49
                          refine lv_aload_n (pc := 247) hx hb dL_isEvent_247 rfl (lv_at hl 16 rfl) ?_
                          refine lv_iload_n (pc := 248) hx hb dL_isEvent_248 rfl (lv_at hl 17 rfl) ?_
                          refine lv_iconst (pc := 249) (v := 2) hx hb dL_isEvent_249 (by decide) ?_
                          refine b_cR (pc := 250) (va_runV (As := [.int (nI g), .int 2]) (rest := []) ⟨hx, hb, hml, hown, hts⟩ (k_gate l D cI cC cZ cG ad (sKeep σ (h_change σ.1 g bm) (sN σ)) (ok.keep _ ok.1) g 2 (by omega) (by omega)) (cwV 2 hts gL_isEvent_X3_gate rfl rfl rfl hy_X3_gate ⟨Nat.le_of_ble_eq_true rfl, Nat.le_of_ble_eq_true rfl⟩) (b_pRc hK hP (hc_0 _ _ _ _ _ _)) rfl rfl hl.1 rfl (lv_room (Nat.le_of_ble_eq_true rfl)) dL_isEvent_250 ⟨Nat.zero_le _, Nat.zero_le _⟩) ?_
                          refine b_re (show _ = h_tell (h_change σ.1 g bm) g 2 from rfl) ?_
                          refine wj_cut (a := W p l e ({ frames := 5, cells := 0, slots := 0, locals := 109 } : Room) s m ([.ref (ad 0), .int (nI g), .int (nI bm)] : List Value).toArray below meth c H locs 0 0 Q (F0 m 268 ls [.int (if e_st σ.1 g bm = 0 then -6 else e_was σ.1 g + e_mv (h_look σ.1 (8 + g * 13) bm) (σ.1 (8 + g * 13 + 0))), .int (h_tell (h_change σ.1 g bm) g 2)])) ?_ (fun J_50 => ?_)
                          · skip
                            refine lv_icmp_ne (pc := 268) (tgt := 285) hx hb dL_isEvent_268 (by decide) (fun c_51 => ?_) (fun c_51 => ?_)
                            · skip
                              have c_51 : ¬ ((h_tell (h_change σ.1 g bm) g 2) = (if e_st σ.1 g bm = 0 then -6 else e_was σ.1 g + e_mv (h_look σ.1 (8 + g * 13) bm) (σ.1 (8 + g * 13 + 0)))) := c_51
                              exact absurd (ev_a_2 hg hbm hI (by assumption)) c_51
                            · skip
                              have c_51 : (h_tell (h_change σ.1 g bm) g 2) = (if e_st σ.1 g bm = 0 then -6 else e_was σ.1 g + e_mv (h_look σ.1 (8 + g * 13) bm) (σ.1 (8 + g * 13 + 0))) := c_51
                              refine lv_aload_n (pc := 271) hx hb dL_isEvent_271 rfl (lv_at hl 16 rfl) ?_
                              refine lv_iconst (pc := 272) (v := 4) hx hb dL_isEvent_272 (by decide) ?_
                              refine b_cR (pc := 273) (va_runV (As := [.int 4]) (rest := []) ⟨hx, hb, hml, hown, hts⟩ (k_count_lo l D cI cC cZ cG ad (sKeep σ (h_change σ.1 g bm) (sN σ)) (ok.keep _ ok.1) 4 (by omega)) (cwV 1 hts gL_isEvent_X3_count rfl rfl rfl hy_X3_count ⟨Nat.le_of_ble_eq_true rfl, Nat.le_of_ble_eq_true rfl⟩) (b_pRc hK hP (hc_0 _ _ _ _ _ _)) rfl rfl hl.1 rfl (lv_room (Nat.le_of_ble_eq_true rfl)) dL_isEvent_273 ⟨Nat.zero_le _, Nat.zero_le _⟩) ?_
                              refine b_re (show _ = (h_change σ.1 g bm) 4 from rfl) ?_
                              refine lv_iload (pc := 276) hx hb dL_isEvent_276 (lv_at hl 9 rfl) ?_
                              refine lv_icmp_ne (pc := 278) (tgt := 285) hx hb dL_isEvent_278 (by decide) (fun c_52 => ?_) (fun c_52 => ?_)
                              · skip
                                have c_52 : ¬ (((h_change σ.1 g bm) 4) = (σ.1 4)) := c_52
                                exact absurd (ev_a_4 (by assumption)) c_52
                              · skip
                                have c_52 : ((h_change σ.1 g bm) 4) = (σ.1 4) := c_52
                                refine lv_iconst (pc := 281) (v := 1) hx hb dL_isEvent_281 (by decide) ?_
                                refine lv_goto (pc := 282) (tgt := 286) hx hb dL_isEvent_282 (by decide) ?_
                                subst hQ
                                exact b_retWZ hx hb hr hlocks rfl hS rfl (hP) dL_isEvent_286
                          · skip
                            refine lv_iload (pc := 253) hx hb dL_isEvent_253 (lv_at hl 2 rfl) ?_
                            refine lv_if_eq (pc := 255) (tgt := 266) hx hb dL_isEvent_255 (by decide) (fun c_53 => ?_) (fun c_53 => ?_)
                            · skip
                              have c_53 : (e_st σ.1 g bm) = 0 := c_53
                              refine lv_bipush (pc := 266) (v := (-6)) hx hb dL_isEvent_266 (by decide) ?_
                              exact b_re (by rw [if_pos c_53]) J_50
                            · skip
                              have c_53 : ¬ ((e_st σ.1 g bm) = 0) := c_53
                              refine lv_iload (pc := 258) hx hb dL_isEvent_258 (lv_at hl 1 rfl) ?_
                              refine lv_iload (pc := 260) hx hb dL_isEvent_260 (lv_at hl 0 rfl) ?_
                              refine lv_iadd (pc := 262) hx hb dL_isEvent_262 ?_
                              refine lv_goto (pc := 263) (tgt := 268) hx hb dL_isEvent_263 (by decide) ?_
                              exact b_re (by rw [if_neg c_53]) J_50
                      · skip
                        refine lv_iload (pc := 234) hx hb dL_isEvent_234 (lv_at hl 2 rfl) ?_
                        refine lv_if_eq (pc := 236) (tgt := 243) hx hb dL_isEvent_236 (by decide) (fun c_54 => ?_) (fun c_54 => ?_)
                        · skip
                          have c_54 : (e_st σ.1 g bm) = 0 := c_54
                          refine lv_iconst (pc := 243) (v := 0) hx hb dL_isEvent_243 (by decide) ?_
                          exact b_re (by rw [if_pos c_54]) J_48
                        · skip
                          have c_54 : ¬ ((e_st σ.1 g bm) = 0) := c_54
                          refine lv_iconst (pc := 239) (v := 1) hx hb dL_isEvent_239 (by decide) ?_
                          refine lv_goto (pc := 240) (tgt := 244) hx hb dL_isEvent_240 (by decide) ?_
                          exact b_re (by rw [if_neg c_54]) J_48
                  · skip
                    refine lv_iload_n (pc := 214) hx hb dL_isEvent_214 rfl (lv_at hl 15 rfl) ?_
                    refine lv_if_ne (pc := 215) (tgt := 223) hx hb dL_isEvent_215 (by decide) (fun c_55 => ?_) (fun c_55 => ?_)
                    · skip
                      have c_55 : ¬ ((σ.1 (8 + g * 13 + 0)) = 0) := c_55
                      refine lv_iload (pc := 223) hx hb dL_isEvent_223 (lv_at hl 12 rfl) ?_
                      exact b_re (by rw [if_neg c_55]) J_46
                    · skip
                      have c_55 : (σ.1 (8 + g * 13 + 0)) = 0 := c_55
                      refine lv_iload (pc := 218) hx hb dL_isEvent_218 (lv_at hl 5 rfl) ?_
                      refine lv_goto (pc := 220) (tgt := 225) hx hb dL_isEvent_220 (by decide) ?_
                      exact b_re (by rw [if_pos c_55]) J_46
            · skip
              refine lv_iload (pc := 177) hx hb dL_isEvent_177 (lv_at hl 3 rfl) ?_
              refine lv_iload_n (pc := 179) hx hb dL_isEvent_179 rfl (lv_at hl 14 rfl) ?_
              refine lv_isub (pc := 180) hx hb dL_isEvent_180 ?_
              refine lv_iconst (pc := 181) (v := 3) hx hb dL_isEvent_181 (by decide) ?_
              refine lv_iand (pc := 182) hx hb dL_isEvent_182 ?_
              refine lv_iconst (pc := 183) (v := 1) hx hb dL_isEvent_183 (by decide) ?_
              refine lv_icmp_ne (pc := 184) (tgt := 191) hx hb dL_isEvent_184 (by decide) (fun c_56 => ?_) (fun c_56 => ?_)
              · skip
                have c_56 : ¬ ((((h_look σ.1 (8 + g * 13) bm) - (σ.1 (8 + g * 13 + 0))) &&& 3) = 1) := c_56
                refine lv_iconst (pc := 191) (v := (-1)) hx hb dL_isEvent_191 (by decide) ?_
                exact b_re (by unfold e_mv; rw [if_neg c_56]) J_43
              · skip
                have c_56 : (((h_look σ.1 (8 + g * 13) bm) - (σ.1 (8 + g * 13 + 0))) &&& 3) = 1 := c_56
                refine lv_iconst (pc := 187) (v := 1) hx hb dL_isEvent_187 (by decide) ?_
                refine lv_goto (pc := 188) (tgt := 192) hx hb dL_isEvent_188 (by decide) ?_
                exact b_re (by unfold e_mv; rw [if_pos c_56]) J_43
          · skip
            refine lv_iload_n (pc := 165) hx hb dL_isEvent_165 rfl (lv_at hl 13 rfl) ?_
            refine lv_if_ne (pc := 166) (tgt := 173) hx hb dL_isEvent_166 (by decide) (fun c_57 => ?_) (fun c_57 => ?_)
            · skip
              have c_57 : ¬ ((σ.1 (8 + g * 13 + 0)) = 0) := c_57
              refine lv_iload (pc := 173) hx hb dL_isEvent_173 (lv_at hl 12 rfl) ?_
              exact b_re (by unfold e_was; rw [if_neg c_57]) J_42
            · skip
              have c_57 : (σ.1 (8 + g * 13 + 0)) = 0 := c_57
              refine lv_iconst (pc := 169) (v := 4) hx hb dL_isEvent_169 (by decide) ?_
              refine lv_goto (pc := 170) (tgt := 175) hx hb dL_isEvent_170 (by decide) ?_
              exact b_re (by unfold e_was; rw [if_pos c_57]) J_42
        · skip
          refine lv_iload_n (pc := 143) hx hb dL_isEvent_143 rfl (lv_at hl 15 rfl) ?_
          refine lv_iconst (pc := 144) (v := 2) hx hb dL_isEvent_144 (by decide) ?_
          refine lv_icmp_eq (pc := 145) (tgt := 162) hx hb dL_isEvent_145 (by decide) (fun c_58 => ?_) (fun c_58 => ?_)
          · skip
            have c_58 : bm = 2 := (nI_eq (a := bm) (b := 2) (by omega) (by omega)).mp c_58
            refine lv_iconst (pc := 162) (v := 0) hx hb dL_isEvent_162 (by decide) ?_
            exact b_re (by unfold e_st; rw [if_pos c_58]) J_41
          · skip
            have c_58 : ¬ (bm = 2) := fun h9 => c_58 ((nI_eq (a := bm) (b := 2) (by omega) (by omega)).mpr h9)
            refine lv_iload_n (pc := 148) hx hb dL_isEvent_148 rfl (lv_at hl 12 rfl) ?_
            refine lv_if_eq (pc := 149) (tgt := 158) hx hb dL_isEvent_149 (by decide) (fun c_59 => ?_) (fun c_59 => ?_)
            · skip
              have c_59 : (σ.1 (8 + g * 13 + 0)) = 0 := c_59
              refine lv_iconst (pc := 158) (v := 1) hx hb dL_isEvent_158 (by decide) ?_
              refine lv_goto (pc := 159) (tgt := 163) hx hb dL_isEvent_159 (by decide) ?_
              exact b_re (by unfold e_st; rw [if_neg c_58, if_pos c_59]) J_41
            · skip
              have c_59 : ¬ ((σ.1 (8 + g * 13 + 0)) = 0) := c_59
              refine lv_iload (pc := 152) hx hb dL_isEvent_152 (lv_at hl 10 rfl) ?_
              refine lv_iconst (pc := 154) (v := 1) hx hb dL_isEvent_154 (by decide) ?_
              refine lv_icmp_ne (pc := 155) (tgt := 162) hx hb dL_isEvent_155 (by decide) (fun c_60 => ?_) (fun c_60 => ?_)
              · skip
                have c_60 : ¬ ((h_tell σ.1 g 3) = 1) := c_60
                refine lv_iconst (pc := 162) (v := 0) hx hb dL_isEvent_162 (by decide) ?_
                exact b_re (by unfold e_st; rw [if_neg c_58, if_neg c_59, if_neg c_60]) J_41
              · skip
                have c_60 : (h_tell σ.1 g 3) = 1 := c_60
                refine lv_iconst (pc := 158) (v := 1) hx hb dL_isEvent_158 (by decide) ?_
                refine lv_goto (pc := 159) (tgt := 163) hx hb dL_isEvent_159 (by decide) ?_
                exact b_re (by unfold e_st; rw [if_neg c_58, if_neg c_59, if_pos c_60]) J_41
    · skip
      refine lv_iload_n (pc := 103) hx hb dL_isEvent_103 rfl (lv_at hl 14 rfl) ?_
      refine lv_iconst (pc := 104) (v := 2) hx hb dL_isEvent_104 (by decide) ?_
      refine lv_icmp_ne (pc := 105) (tgt := 121) hx hb dL_isEvent_105 (by decide) (fun c_61 => ?_) (fun c_61 => ?_)
      · skip
        have c_61 : ¬ (bm = 2) := fun h9 => c_61 ((nI_eq (a := bm) (b := 2) (by omega) (by omega)).mpr h9)
        refine lv_iload (pc := 121) hx hb dL_isEvent_121 (lv_at hl 0 rfl) ?_
        refine lv_iload_n (pc := 123) hx hb dL_isEvent_123 rfl (lv_at hl 11 rfl) ?_
        refine lv_isub (pc := 124) hx hb dL_isEvent_124 ?_
        refine lv_iconst (pc := 125) (v := 1) hx hb dL_isEvent_125 (by decide) ?_
        refine lv_iand (pc := 126) hx hb dL_isEvent_126 ?_
        refine lv_iconst (pc := 127) (v := 1) hx hb dL_isEvent_127 (by decide) ?_
        refine lv_icmp_ne (pc := 128) (tgt := 135) hx hb dL_isEvent_128 (by decide) (fun c_62 => ?_) (fun c_62 => ?_)
        · skip
          have c_62 : ¬ ((((h_look σ.1 (8 + g * 13) bm) - (σ.1 (8 + g * 13 + 0))) &&& 1) = 1) := c_62
          exact absurd (ev_one hg hbm hI (by assumption)) c_62
        · skip
          have c_62 : (((h_look σ.1 (8 + g * 13) bm) - (σ.1 (8 + g * 13 + 0))) &&& 1) = 1 := c_62
          exact J_2
      · skip
        have c_61 : bm = 2 := (nI_eq (a := bm) (b := 2) (by omega) (by omega)).mp c_61
        refine lv_iload (pc := 108) hx hb dL_isEvent_108 (lv_at hl 0 rfl) ?_
        refine lv_iload_n (pc := 110) hx hb dL_isEvent_110 rfl (lv_at hl 11 rfl) ?_
        refine lv_iconst (pc := 111) (v := 2) hx hb dL_isEvent_111 (by decide) ?_
        refine lv_iadd (pc := 112) hx hb dL_isEvent_112 ?_
        refine lv_iconst (pc := 113) (v := 4) hx hb dL_isEvent_113 (by decide) ?_
        refine lv_irem (pc := 114) hx hb dL_isEvent_114 (by decide) ?_
        refine lv_icmp_ne (pc := 115) (tgt := 135) hx hb dL_isEvent_115 (by decide) (fun c_63 => ?_) (fun c_63 => ?_)
        · skip
          have c_63 : ¬ ((h_look σ.1 (8 + g * 13) bm) = (((σ.1 (8 + g * 13 + 0)) + 2) - ((σ.1 (8 + g * 13 + 0)) + 2) / 4 * 4)) := c_63
          exact absurd (ev_both hg hI (by assumption)) c_63
        · skip
          have c_63 : (h_look σ.1 (8 + g * 13) bm) = (((σ.1 (8 + g * 13 + 0)) + 2) - ((σ.1 (8 + g * 13 + 0)) + 2) / 4 * 4) := c_63
          refine lv_goto (pc := 118) (tgt := 131) hx hb dL_isEvent_118 (by decide) ?_
          exact J_2
