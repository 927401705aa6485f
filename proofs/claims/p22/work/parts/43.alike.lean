/-! areAlike -/
set_option maxHeartbeats 4000000 in
set_option maxRecDepth 100000 in
theorem c_L_areAlike (l : Launch) (D : va_G) (cI cC cZ cG : ClassId) (ad bd : Nat → Nat) (σ ρ : HS) (ok : sOk σ) (ok2 : sOk ρ) (N : Nat) (hN : N ≤ 1000000) (hI : Inv N σ.1) (hI2 : Inv N ρ.1) (hM : Mir σ.1 ρ.1) : Met l yL_areAlike wsL_areAlike ({ frames := 6, cells := 0, slots := 0, locals := 127 } : Room) (b_R D (b_T cI cC cZ cG) (hc cI cC cZ cG ad σ ++ hc cI cC cZ cG bd ρ) [.ref (ad 0), .ref (bd 0)]) (vp_Si (fun r => r = 1)) 0 0 (fun _ => False) := by
  refine b_enterR (cc := cL_areAlike) (maxL := 7) (ret := (some .boolean)) (by decide) rfl (Nat.le_of_ble_eq_true rfl) ?_
  intro p e s m below meth c ls hx hb hr hml hown hts hlocks hP hK hl Q hQ
  have hown : s.vm.findClass RL = some m.cls := hown
  have hl : lv_has ls 7 [(0, .ref (ad 0)), (1, .ref (bd 0))] := hl
  refine lv_aload_n (pc := 0) hx hb dL_areAlike_0 rfl (lv_at hl 0 rfl) ?_
  refine b_cR (pc := 1) (va_runV (As := []) (rest := []) ⟨hx, hb, hml, hown, hts⟩ (k_ub l D cI cC cZ cG ad σ ok) (cwV 0 hts gL_areAlike_X3_untilBlocked rfl rfl rfl hy_X3_untilBlocked ⟨Nat.le_of_ble_eq_true rfl, Nat.le_of_ble_eq_true rfl⟩) (b_pRc hK (b_PL hP) (hc_0 _ _ _ _ _ _)) rfl rfl hl.1 rfl (lv_room (Nat.le_of_ble_eq_true rfl)) dL_areAlike_1 ⟨Nat.zero_le _, Nat.zero_le _⟩) ?_
  refine lv_aload_n (pc := 4) hx hb dL_areAlike_4 rfl (lv_at hl 1 rfl) ?_
  refine b_cR (pc := 5) (va_runV (As := []) (rest := [.int (h_ub σ.1 6)]) ⟨hx, hb, hml, hown, hts⟩ (k_ub l D cI cC cZ cG bd ρ ok2) (cwV 0 hts gL_areAlike_X3_untilBlocked rfl rfl rfl hy_X3_untilBlocked ⟨Nat.le_of_ble_eq_true rfl, Nat.le_of_ble_eq_true rfl⟩) (b_pRc hK (b_PR hP) (hc_0 _ _ _ _ _ _)) rfl rfl hl.1 rfl (lv_room (Nat.le_of_ble_eq_true rfl)) dL_areAlike_5 ⟨Nat.zero_le _, Nat.zero_le _⟩) ?_
  refine lv_icmp_ne (pc := 8) (tgt := 15) hx hb dL_areAlike_8 (by decide) (fun c_1 => ?_) (fun c_1 => ?_)
  · skip
    have c_1 : ¬ ((h_ub σ.1 6) = (h_ub ρ.1 6)) := c_1
    exact absurd (mir_ub hN hI hI2 hM) c_1
  · skip
    have c_1 : (h_ub σ.1 6) = (h_ub ρ.1 6) := c_1
    refine lv_iconst (pc := 11) (v := 1) hx hb dL_areAlike_11 (by decide) ?_
    refine lv_goto (pc := 12) (tgt := 16) hx hb dL_areAlike_12 (by decide) ?_
    refine lv_istore_n (pc := 16) (lv' := [(2, .int 1), (0, .ref (ad 0)), (1, .ref (bd 0))]) hx hb dL_areAlike_16 rfl hl (by decide) rfl (fun ls hl => ?_)
    refine lv_iconst (pc := 17) (v := 0) hx hb dL_areAlike_17 (by decide) ?_
    refine lv_istore_n (pc := 18) (lv' := [(3, .int 0), (2, .int 1), (0, .ref (ad 0)), (1, .ref (bd 0))]) hx hb dL_areAlike_18 rfl hl (by decide) rfl (fun ls hl => ?_)
    have loop_19 : ∀ (fu : Nat) (w : Nat), (w ≤ 14) → 14 - w < fu → ∀ (ls : Array Slot), lv_has ls 7 [(3, .int (nI w)), (2, .int 1), (1, .ref (bd 0)), (0, .ref (ad 0))] → W p l e ({ frames := 6, cells := 0, slots := 0, locals := 127 } : Room) s m ([.ref (ad 0), .ref (bd 0)] : List Value).toArray below meth c s.heap [] 0 0 Q (F0 m 19 ls []) := by
      intro fu
      induction fu with
      | zero => intro w hw hfu ls hl; exact absurd hfu (Nat.not_lt_zero _)
      | succ fu ih_19 =>
        intro w hw hfu ls hl
        refine lv_iload_n (pc := 19) hx hb dL_areAlike_19 rfl (lv_at hl 0 rfl) ?_
        refine lv_bipush (pc := 20) (v := 14) hx hb dL_areAlike_20 (by decide) ?_
        refine lv_icmp_ge (pc := 22) (tgt := 54) hx hb dL_areAlike_22 (by decide) (fun c_2 => ?_) (fun c_2 => ?_)
        · skip
          have c_2 : 14 ≤ w := (nI_leI (a := 14) (b := w) (by omega) (by omega)).mp c_2
          refine lv_iconst (pc := 54) (v := 0) hx hb dL_areAlike_54 (by decide) ?_
          refine lv_istore_n (pc := 55) (lv' := [(3, .int 0), (2, .int 1), (1, .ref (bd 0)), (0, .ref (ad 0))]) hx hb dL_areAlike_55 rfl hl (by decide) rfl (fun ls hl => ?_)
          refine lv_iconst (pc := 56) (v := 0) hx hb dL_areAlike_56 (by decide) ?_
          refine lv_istore (pc := 57) (lv' := [(4, .int 0), (3, .int 0), (2, .int 1), (1, .ref (bd 0)), (0, .ref (ad 0))]) hx hb dL_areAlike_57 hl (by decide) rfl (fun ls hl => ?_)
          refine lv_iconst (pc := 59) (v := 0) hx hb dL_areAlike_59 (by decide) ?_
          refine lv_istore (pc := 60) (lv' := [(5, .int 0), (4, .int 0), (3, .int 0), (2, .int 1), (1, .ref (bd 0)), (0, .ref (ad 0))]) hx hb dL_areAlike_60 hl (by decide) rfl (fun ls hl => ?_)
          have loop_62 : ∀ (fu : Nat) (g : Nat), (g ≤ 6) → 6 - g < fu → ∀ (ls : Array Slot), lv_has ls 7 [(5, .int (nI g)), (4, .int (rv (h_um ρ.1 6) g)), (3, .int (rv (h_bm ρ.1 6) g)), (2, .int 1), (1, .ref (bd 0)), (0, .ref (ad 0))] → W p l e ({ frames := 6, cells := 0, slots := 0, locals := 127 } : Room) s m ([.ref (ad 0), .ref (bd 0)] : List Value).toArray below meth c s.heap [] 0 0 Q (F0 m 62 ls []) := by
            intro fu
            induction fu with
            | zero => intro g hg6 hfu ls hl; exact absurd hfu (Nat.not_lt_zero _)
            | succ fu ih_62 =>
              intro g hg6 hfu ls hl
              refine lv_iload (pc := 62) hx hb dL_areAlike_62 (lv_at hl 0 rfl) ?_
              refine lv_bipush (pc := 64) (v := 6) hx hb dL_areAlike_64 (by decide) ?_
              refine lv_icmp_ge (pc := 66) (tgt := 214) hx hb dL_areAlike_66 (by decide) (fun c_3 => ?_) (fun c_3 => ?_)
              · skip
                have c_3 : 6 ≤ g := (nI_leI (a := 6) (b := g) (by omega) (by omega)).mp c_3
                have e6 : g = 6 := by omega
                subst e6
                have hl : lv_has ls 7 [(4, .int (rv (h_um ρ.1 6) 6)), (3, .int (rv (h_bm ρ.1 6) 6)), (2, .int 1), (1, .ref (bd 0)), (0, .ref (ad 0))] := lv_sub hl [1, 2, 3, 4, 5] rfl
                refine lv_iload_n (pc := 214) hx hb dL_areAlike_214 rfl (lv_at hl 2 rfl) ?_
                refine lv_if_eq (pc := 215) (tgt := 283) hx hb dL_areAlike_215 (by decide) (fun c_4 => ?_) (fun c_4 => ?_)
                · skip
                  exact absurd c_4 (by decide)
                · skip
                  refine lv_iload_n (pc := 218) hx hb dL_areAlike_218 rfl (lv_at hl 1 rfl) ?_
                  refine lv_aload_n (pc := 219) hx hb dL_areAlike_219 rfl (lv_at hl 4 rfl) ?_
                  refine lv_bipush (pc := 220) (v := 14) hx hb dL_areAlike_220 (by decide) ?_
                  refine b_cR (pc := 222) (va_runV (As := [.int 14]) (rest := [.int (rv (h_bm ρ.1 6) 6)]) ⟨hx, hb, hml, hown, hts⟩ (k_count_14 l D cI cC cZ cG ad σ ok) (cwV 1 hts gL_areAlike_X3_count rfl rfl rfl hy_X3_count ⟨Nat.le_of_ble_eq_true rfl, Nat.le_of_ble_eq_true rfl⟩) (b_pRc hK (b_PL hP) (hc_0 _ _ _ _ _ _)) rfl rfl hl.1 rfl (lv_room (Nat.le_of_ble_eq_true rfl)) dL_areAlike_222 ⟨Nat.zero_le _, Nat.zero_le _⟩) ?_
                  refine lv_icmp_ne (pc := 225) (tgt := 283) hx hb dL_areAlike_225 (by decide) (fun c_5 => ?_) (fun c_5 => ?_)
                  · skip
                    have c_5 : ¬ ((rv (h_bm ρ.1 6) 6) = (h_bm σ.1 6)) := c_5
                    exact absurd (mir_bm hM) c_5
                  · skip
                    have c_5 : (rv (h_bm ρ.1 6) 6) = (h_bm σ.1 6) := c_5
                    refine lv_iload (pc := 228) hx hb dL_areAlike_228 (lv_at hl 0 rfl) ?_
                    refine lv_aload_n (pc := 230) hx hb dL_areAlike_230 rfl (lv_at hl 4 rfl) ?_
                    refine lv_bipush (pc := 231) (v := 15) hx hb dL_areAlike_231 (by decide) ?_
                    refine b_cR (pc := 233) (va_runV (As := [.int 15]) (rest := [.int (rv (h_um ρ.1 6) 6)]) ⟨hx, hb, hml, hown, hts⟩ (k_count_15 l D cI cC cZ cG ad σ ok) (cwV 1 hts gL_areAlike_X3_count rfl rfl rfl hy_X3_count ⟨Nat.le_of_ble_eq_true rfl, Nat.le_of_ble_eq_true rfl⟩) (b_pRc hK (b_PL hP) (hc_0 _ _ _ _ _ _)) rfl rfl hl.1 rfl (lv_room (Nat.le_of_ble_eq_true rfl)) dL_areAlike_233 ⟨Nat.zero_le _, Nat.zero_le _⟩) ?_
                    refine lv_icmp_ne (pc := 236) (tgt := 283) hx hb dL_areAlike_236 (by decide) (fun c_6 => ?_) (fun c_6 => ?_)
                    · skip
                      have c_6 : ¬ ((rv (h_um ρ.1 6) 6) = (h_um σ.1 6)) := c_6
                      exact absurd (mir_um hM) c_6
                    · skip
                      have c_6 : (rv (h_um ρ.1 6) 6) = (h_um σ.1 6) := c_6
                      refine wj_cut (a := W p l e ({ frames := 6, cells := 0, slots := 0, locals := 127 } : Room) s m ([.ref (ad 0), .ref (bd 0)] : List Value).toArray below meth c s.heap [] 0 0 Q (F0 m 279 ls [])) ?_ (fun J_7 => ?_)
                      · skip
                        refine lv_iconst (pc := 279) (v := 1) hx hb dL_areAlike_279 (by decide) ?_
                        refine lv_goto (pc := 280) (tgt := 284) hx hb dL_areAlike_280 (by decide) ?_
                        subst hQ
                        exact b_retRZ hx hb hr hlocks rfl rfl dL_areAlike_284
                      · skip
                        refine lv_aload_n (pc := 239) hx hb dL_areAlike_239 rfl (lv_at hl 4 rfl) ?_
                        refine b_cR (pc := 240) (va_runV (As := []) (rest := []) ⟨hx, hb, hml, hown, hts⟩ (k_bus l D cI cC cZ cG ad σ ok) (cwV 0 hts gL_areAlike_X3_busiest rfl rfl rfl hy_X3_busiest ⟨Nat.le_of_ble_eq_true rfl, Nat.le_of_ble_eq_true rfl⟩) (b_pRc hK (b_PL hP) (hc_0 _ _ _ _ _ _)) rfl rfl hl.1 rfl (lv_room (Nat.le_of_ble_eq_true rfl)) dL_areAlike_240 ⟨Nat.zero_le _, Nat.zero_le _⟩) ?_
                        refine lv_bipush (pc := 243) (v := (-6)) hx hb dL_areAlike_243 (by decide) ?_
                        refine lv_icmp_ne (pc := 245) (tgt := 260) hx hb dL_areAlike_245 (by decide) (fun c_8 => ?_) (fun c_8 => ?_)
                        · skip
                          have c_8 : ¬ (((h_bus σ.1 6).1) = (-6)) := c_8
                          refine lv_aload_n (pc := 260) hx hb dL_areAlike_260 rfl (lv_at hl 4 rfl) ?_
                          refine lv_aload_n (pc := 261) hx hb dL_areAlike_261 rfl (lv_at hl 4 rfl) ?_
                          refine b_cR (pc := 262) (va_runV (As := []) (rest := [.ref (ad 0)]) ⟨hx, hb, hml, hown, hts⟩ (k_bus l D cI cC cZ cG ad σ ok) (cwV 0 hts gL_areAlike_X3_busiest rfl rfl rfl hy_X3_busiest ⟨Nat.le_of_ble_eq_true rfl, Nat.le_of_ble_eq_true rfl⟩) (b_pRc hK (b_PL hP) (hc_0 _ _ _ _ _ _)) rfl rfl hl.1 rfl (lv_room (Nat.le_of_ble_eq_true rfl)) dL_areAlike_262 ⟨Nat.zero_le _, Nat.zero_le _⟩) ?_
                          obtain ⟨bz, bz2, ez0, ez00, ez1, ez2, ez3⟩ := al_2 hM c_8
                          refine b_re (ez1) ?_
                          refine b_cR (pc := 265) (va_runS (As := [.ref (ad 0), .int (nI bz)]) (rest := []) ⟨hx, hb, hml, hown, hts⟩ (c_L_through l D cI cC cZ cG ad σ ok bz (by omega)) (va_cwS 2 hts gL_areAlike_L_through rfl rfl rfl hyS_L_through ⟨Nat.le_of_ble_eq_true rfl, Nat.le_of_ble_eq_true rfl⟩) (b_pRs hK (b_PL hP)) rfl rfl hl.1 rfl (lv_room (Nat.le_of_ble_eq_true rfl)) dL_areAlike_265 ⟨Nat.zero_le _, Nat.zero_le _⟩) ?_
                          refine lv_aload_n (pc := 268) hx hb dL_areAlike_268 rfl (lv_at hl 3 rfl) ?_
                          refine lv_aload_n (pc := 269) hx hb dL_areAlike_269 rfl (lv_at hl 3 rfl) ?_
                          refine b_cR (pc := 270) (va_runV (As := []) (rest := [.ref (bd 0), .int (h_thr σ.1 bz)]) ⟨hx, hb, hml, hown, hts⟩ (k_bus l D cI cC cZ cG bd ρ ok2) (cwV 0 hts gL_areAlike_X3_busiest rfl rfl rfl hy_X3_busiest ⟨Nat.le_of_ble_eq_true rfl, Nat.le_of_ble_eq_true rfl⟩) (b_pRc hK (b_PR hP) (hc_0 _ _ _ _ _ _)) rfl rfl hl.1 rfl (lv_room (Nat.le_of_ble_eq_true rfl)) dL_areAlike_270 ⟨Nat.zero_le _, Nat.zero_le _⟩) ?_
                          refine b_re (ez2) ?_
                          refine b_cR (pc := 273) (va_runS (As := [.ref (bd 0), .int (nI bz2)]) (rest := [.int (h_thr σ.1 bz)]) ⟨hx, hb, hml, hown, hts⟩ (c_L_through l D cI cC cZ cG bd ρ ok2 bz2 (by omega)) (va_cwS 2 hts gL_areAlike_L_through rfl rfl rfl hyS_L_through ⟨Nat.le_of_ble_eq_true rfl, Nat.le_of_ble_eq_true rfl⟩) (b_pRs hK (b_PR hP)) rfl rfl hl.1 rfl (lv_room (Nat.le_of_ble_eq_true rfl)) dL_areAlike_273 ⟨Nat.zero_le _, Nat.zero_le _⟩) ?_
                          refine lv_icmp_ne (pc := 276) (tgt := 283) hx hb dL_areAlike_276 (by decide) (fun c_9 => ?_) (fun c_9 => ?_)
                          · skip
                            have c_9 : ¬ ((h_thr σ.1 bz) = (h_thr ρ.1 bz2)) := c_9
                            exact absurd (ez3) c_9
                          · skip
                            have c_9 : (h_thr σ.1 bz) = (h_thr ρ.1 bz2) := c_9
                            exact J_7
                        · skip
                          have c_8 : ((h_bus σ.1 6).1) = (-6) := c_8
                          refine lv_aload_n (pc := 248) hx hb dL_areAlike_248 rfl (lv_at hl 3 rfl) ?_
                          refine b_cR (pc := 249) (va_runV (As := []) (rest := []) ⟨hx, hb, hml, hown, hts⟩ (k_bus l D cI cC cZ cG bd ρ ok2) (cwV 0 hts gL_areAlike_X3_busiest rfl rfl rfl hy_X3_busiest ⟨Nat.le_of_ble_eq_true rfl, Nat.le_of_ble_eq_true rfl⟩) (b_pRc hK (b_PR hP) (hc_0 _ _ _ _ _ _)) rfl rfl hl.1 rfl (lv_room (Nat.le_of_ble_eq_true rfl)) dL_areAlike_249 ⟨Nat.zero_le _, Nat.zero_le _⟩) ?_
                          refine lv_bipush (pc := 252) (v := (-6)) hx hb dL_areAlike_252 (by decide) ?_
                          refine lv_icmp_ne (pc := 254) (tgt := 283) hx hb dL_areAlike_254 (by decide) (fun c_10 => ?_) (fun c_10 => ?_)
                          · skip
                            have c_10 : ¬ (((h_bus ρ.1 6).1) = (-6)) := c_10
                            exact absurd (al_1 hM (by assumption)) c_10
                          · skip
                            have c_10 : ((h_bus ρ.1 6).1) = (-6) := c_10
                            refine lv_goto (pc := 257) (tgt := 279) hx hb dL_areAlike_257 (by decide) ?_
                            exact J_7
              · skip
                have c_3 : ¬ (6 ≤ g) := fun h9 => c_3 ((nI_leI (a := 6) (b := g) (by omega) (by omega)).mpr h9)
                have hg : g < 6 := by omega
                refine lv_iload_n (pc := 69) hx hb dL_areAlike_69 rfl (lv_at hl 2 rfl) ?_
                refine lv_aload_n (pc := 70) hx hb dL_areAlike_70 rfl (lv_at hl 4 rfl) ?_
                refine lv_bipush (pc := 71) (v := 14) hx hb dL_areAlike_71 (by decide) ?_
                refine b_cR (pc := 73) (va_runV (As := [.int 14]) (rest := [.int (rv (h_bm ρ.1 6) g)]) ⟨hx, hb, hml, hown, hts⟩ (k_count_14 l D cI cC cZ cG bd ρ ok2) (cwV 1 hts gL_areAlike_X3_count rfl rfl rfl hy_X3_count ⟨Nat.le_of_ble_eq_true rfl, Nat.le_of_ble_eq_true rfl⟩) (b_pRc hK (b_PR hP) (hc_0 _ _ _ _ _ _)) rfl rfl hl.1 rfl (lv_room (Nat.le_of_ble_eq_true rfl)) dL_areAlike_73 ⟨Nat.zero_le _, Nat.zero_le _⟩) ?_
                refine lv_iload (pc := 76) hx hb dL_areAlike_76 (lv_at hl 0 rfl) ?_
                refine lv_ishr (pc := 78) hx hb dL_areAlike_78 ?_
                refine lv_iconst (pc := 79) (v := 1) hx hb dL_areAlike_79 (by decide) ?_
                refine lv_iand (pc := 80) hx hb dL_areAlike_80 ?_
                refine lv_iconst (pc := 81) (v := 5) hx hb dL_areAlike_81 (by decide) ?_
                refine lv_iload (pc := 82) hx hb dL_areAlike_82 (lv_at hl 0 rfl) ?_
                refine lv_isub (pc := 84) hx hb dL_areAlike_84 ?_
                refine b_re (pk_sub (a := 5) (b := g) (by omega)) ?_
                refine lv_ishl (pc := 85) hx hb dL_areAlike_85 ?_
                refine lv_ior (pc := 86) hx hb dL_areAlike_86 ?_
                refine b_re (show _ = rv (h_bm ρ.1 6) (g + 1) from rfl) ?_
                refine lv_istore_n (pc := 87) (lv' := [(3, .int (rv (h_bm ρ.1 6) (g + 1))), (5, .int (nI g)), (4, .int (rv (h_um ρ.1 6) g)), (2, .int 1), (1, .ref (bd 0)), (0, .ref (ad 0))]) hx hb dL_areAlike_87 rfl hl (by decide) rfl (fun ls hl => ?_)
                refine lv_iload (pc := 88) hx hb dL_areAlike_88 (lv_at hl 2 rfl) ?_
                refine lv_aload_n (pc := 90) hx hb dL_areAlike_90 rfl (lv_at hl 4 rfl) ?_
                refine lv_bipush (pc := 91) (v := 15) hx hb dL_areAlike_91 (by decide) ?_
                refine b_cR (pc := 93) (va_runV (As := [.int 15]) (rest := [.int (rv (h_um ρ.1 6) g)]) ⟨hx, hb, hml, hown, hts⟩ (k_count_15 l D cI cC cZ cG bd ρ ok2) (cwV 1 hts gL_areAlike_X3_count rfl rfl rfl hy_X3_count ⟨Nat.le_of_ble_eq_true rfl, Nat.le_of_ble_eq_true rfl⟩) (b_pRc hK (b_PR hP) (hc_0 _ _ _ _ _ _)) rfl rfl hl.1 rfl (lv_room (Nat.le_of_ble_eq_true rfl)) dL_areAlike_93 ⟨Nat.zero_le _, Nat.zero_le _⟩) ?_
                refine lv_iload (pc := 96) hx hb dL_areAlike_96 (lv_at hl 1 rfl) ?_
                refine lv_ishr (pc := 98) hx hb dL_areAlike_98 ?_
                refine lv_iconst (pc := 99) (v := 1) hx hb dL_areAlike_99 (by decide) ?_
                refine lv_iand (pc := 100) hx hb dL_areAlike_100 ?_
                refine lv_iconst (pc := 101) (v := 5) hx hb dL_areAlike_101 (by decide) ?_
                refine lv_iload (pc := 102) hx hb dL_areAlike_102 (lv_at hl 1 rfl) ?_
                refine lv_isub (pc := 104) hx hb dL_areAlike_104 ?_
                refine b_re (pk_sub (a := 5) (b := g) (by omega)) ?_
                refine lv_ishl (pc := 105) hx hb dL_areAlike_105 ?_
                refine lv_ior (pc := 106) hx hb dL_areAlike_106 ?_
                refine b_re (show _ = rv (h_um ρ.1 6) (g + 1) from rfl) ?_
                refine lv_istore (pc := 107) (lv' := [(4, .int (rv (h_um ρ.1 6) (g + 1))), (3, .int (rv (h_bm ρ.1 6) (g + 1))), (5, .int (nI g)), (2, .int 1), (1, .ref (bd 0)), (0, .ref (ad 0))]) hx hb dL_areAlike_107 hl (by decide) rfl (fun ls hl => ?_)
                refine lv_iload_n (pc := 109) hx hb dL_areAlike_109 rfl (lv_at hl 3 rfl) ?_
                refine lv_if_eq (pc := 110) (tgt := 134) hx hb dL_areAlike_110 (by decide) (fun c_11 => ?_) (fun c_11 => ?_)
                · skip
                  exact absurd c_11 (by decide)
                · skip
                  refine lv_aload_n (pc := 113) hx hb dL_areAlike_113 rfl (lv_at hl 5 rfl) ?_
                  refine lv_iload (pc := 114) hx hb dL_areAlike_114 (lv_at hl 2 rfl) ?_
                  refine b_cR (pc := 116) (va_runV (As := [.int (nI g)]) (rest := []) ⟨hx, hb, hml, hown, hts⟩ (k_mean l D cI cC cZ cG ad σ ok g (by omega)) (cwV 1 hts gL_areAlike_X3_mean rfl rfl rfl hy_X3_mean ⟨Nat.le_of_ble_eq_true rfl, Nat.le_of_ble_eq_true rfl⟩) (b_pRc hK (b_PL hP) (hc_0 _ _ _ _ _ _)) rfl rfl hl.1 rfl (lv_room (Nat.le_of_ble_eq_true rfl)) dL_areAlike_116 ⟨Nat.zero_le _, Nat.zero_le _⟩) ?_
                  refine lv_aload_n (pc := 119) hx hb dL_areAlike_119 rfl (lv_at hl 4 rfl) ?_
                  refine lv_iconst (pc := 120) (v := 5) hx hb dL_areAlike_120 (by decide) ?_
                  refine lv_iload (pc := 121) hx hb dL_areAlike_121 (lv_at hl 2 rfl) ?_
                  refine lv_isub (pc := 123) hx hb dL_areAlike_123 ?_
                  refine b_re (pk_sub (a := 5) (b := g) (by omega)) ?_
                  refine b_cR (pc := 124) (va_runV (As := [.int (nI (5 - g))]) (rest := [.int (h_mean σ.1 g)]) ⟨hx, hb, hml, hown, hts⟩ (k_mean l D cI cC cZ cG bd ρ ok2 (5 - g) (by omega)) (cwV 1 hts gL_areAlike_X3_mean rfl rfl rfl hy_X3_mean ⟨Nat.le_of_ble_eq_true rfl, Nat.le_of_ble_eq_true rfl⟩) (b_pRc hK (b_PR hP) (hc_0 _ _ _ _ _ _)) rfl rfl hl.1 rfl (lv_room (Nat.le_of_ble_eq_true rfl)) dL_areAlike_124 ⟨Nat.zero_le _, Nat.zero_le _⟩) ?_
                  refine lv_icmp_ne (pc := 127) (tgt := 134) hx hb dL_areAlike_127 (by decide) (fun c_12 => ?_) (fun c_12 => ?_)
                  · skip
                    have c_12 : ¬ ((h_mean σ.1 g) = (h_mean ρ.1 (5 - g))) := c_12
                    exact absurd ((mir_mean hM hg).symm) c_12
                  · skip
                    have c_12 : (h_mean σ.1 g) = (h_mean ρ.1 (5 - g)) := c_12
                    refine lv_iconst (pc := 130) (v := 1) hx hb dL_areAlike_130 (by decide) ?_
                    refine lv_goto (pc := 131) (tgt := 135) hx hb dL_areAlike_131 (by decide) ?_
                    refine lv_istore_n (pc := 135) (lv' := [(2, .int 1), (4, .int (rv (h_um ρ.1 6) (g + 1))), (3, .int (rv (h_bm ρ.1 6) (g + 1))), (5, .int (nI g)), (1, .ref (bd 0)), (0, .ref (ad 0))]) hx hb dL_areAlike_135 rfl hl (by decide) rfl (fun ls hl => ?_)
                    refine lv_iconst (pc := 136) (v := 0) hx hb dL_areAlike_136 (by decide) ?_
                    refine lv_istore (pc := 137) (lv' := [(6, .int 0), (2, .int 1), (4, .int (rv (h_um ρ.1 6) (g + 1))), (3, .int (rv (h_bm ρ.1 6) (g + 1))), (5, .int (nI g)), (1, .ref (bd 0)), (0, .ref (ad 0))]) hx hb dL_areAlike_137 hl (by decide) rfl (fun ls hl => ?_)
                    have loop_139 : ∀ (fu : Nat) (k : Nat), (k ≤ 13) → 13 - k < fu → ∀ (ls : Array Slot), lv_has ls 7 [(6, .int (nI k)), (5, .int (nI g)), (4, .int (rv (h_um ρ.1 6) (g + 1))), (3, .int (rv (h_bm ρ.1 6) (g + 1))), (2, .int 1), (1, .ref (bd 0)), (0, .ref (ad 0))] → W p l e ({ frames := 6, cells := 0, slots := 0, locals := 127 } : Room) s m ([.ref (ad 0), .ref (bd 0)] : List Value).toArray below meth c s.heap [] 0 0 Q (F0 m 139 ls []) := by
                      intro fu
                      induction fu with
                      | zero => intro k hk hfu ls hl; exact absurd hfu (Nat.not_lt_zero _)
                      | succ fu ih_139 =>
                        intro k hk hfu ls hl
                        refine lv_iload (pc := 139) hx hb dL_areAlike_139 (lv_at hl 0 rfl) ?_
                        refine lv_bipush (pc := 141) (v := 13) hx hb dL_areAlike_141 (by decide) ?_
                        refine lv_icmp_ge (pc := 143) (tgt := 208) hx hb dL_areAlike_143 (by decide) (fun c_13 => ?_) (fun c_13 => ?_)
                        · skip
                          have c_13 : 13 ≤ k := (nI_leI (a := 13) (b := k) (by omega) (by omega)).mp c_13
                          refine lv_iinc (pc := 208) (v := nI (g + 1)) (lv' := [(5, .int (nI (g + 1))), (6, .int (nI k)), (4, .int (rv (h_um ρ.1 6) (g + 1))), (3, .int (rv (h_bm ρ.1 6) (g + 1))), (2, .int 1), (1, .ref (bd 0)), (0, .ref (ad 0))]) hx hb dL_areAlike_208 hl (k := 1) rfl (nI_add g 1) (by decide) rfl (fun ls hl => ?_)
                          refine lv_goto (pc := 211) (tgt := 62) hx hb dL_areAlike_211 (by decide) ?_
                          exact ih_62 (g + 1) (by omega) (by omega) ls (lv_sub hl [0, 2, 3, 4, 5, 6] rfl)
                        · skip
                          have c_13 : ¬ (13 ≤ k) := fun h9 => c_13 ((nI_leI (a := 13) (b := k) (by omega) (by omega)).mpr h9)
                          refine lv_iload_n (pc := 146) hx hb dL_areAlike_146 rfl (lv_at hl 4 rfl) ?_
                          refine lv_if_eq (pc := 147) (tgt := 200) hx hb dL_areAlike_147 (by decide) (fun c_14 => ?_) (fun c_14 => ?_)
                          · skip
                            exact absurd c_14 (by decide)
                          · skip
                            refine lv_aload_n (pc := 150) hx hb dL_areAlike_150 rfl (lv_at hl 6 rfl) ?_
                            refine lv_iload (pc := 151) hx hb dL_areAlike_151 (lv_at hl 1 rfl) ?_
                            refine lv_iload (pc := 153) hx hb dL_areAlike_153 (lv_at hl 0 rfl) ?_
                            refine b_cR (pc := 155) (va_runV (As := [.int (nI g), .int (nI k)]) (rest := []) ⟨hx, hb, hml, hown, hts⟩ (k_gate l D cI cC cZ cG ad σ ok g k (by omega) (by omega)) (cwV 2 hts gL_areAlike_X3_gate rfl rfl rfl hy_X3_gate ⟨Nat.le_of_ble_eq_true rfl, Nat.le_of_ble_eq_true rfl⟩) (b_pRc hK (b_PL hP) (hc_0 _ _ _ _ _ _)) rfl rfl hl.1 rfl (lv_room (Nat.le_of_ble_eq_true rfl)) dL_areAlike_155 ⟨Nat.zero_le _, Nat.zero_le _⟩) ?_
                            refine lv_aload_n (pc := 158) hx hb dL_areAlike_158 rfl (lv_at hl 5 rfl) ?_
                            refine lv_iconst (pc := 159) (v := 5) hx hb dL_areAlike_159 (by decide) ?_
                            refine lv_iload (pc := 160) hx hb dL_areAlike_160 (lv_at hl 1 rfl) ?_
                            refine lv_isub (pc := 162) hx hb dL_areAlike_162 ?_
                            refine b_re (pk_sub (a := 5) (b := g) (by omega)) ?_
                            refine lv_iload (pc := 163) hx hb dL_areAlike_163 (lv_at hl 0 rfl) ?_
                            refine b_cR (pc := 165) (va_runV (As := [.int (nI (5 - g)), .int (nI k)]) (rest := [.int (h_tell σ.1 g k)]) ⟨hx, hb, hml, hown, hts⟩ (k_gate l D cI cC cZ cG bd ρ ok2 (5 - g) k (by omega) (by omega)) (cwV 2 hts gL_areAlike_X3_gate rfl rfl rfl hy_X3_gate ⟨Nat.le_of_ble_eq_true rfl, Nat.le_of_ble_eq_true rfl⟩) (b_pRc hK (b_PR hP) (hc_0 _ _ _ _ _ _)) rfl rfl hl.1 rfl (lv_room (Nat.le_of_ble_eq_true rfl)) dL_areAlike_165 ⟨Nat.zero_le _, Nat.zero_le _⟩) ?_
                            refine lv_icmp_ne (pc := 168) (tgt := 200) hx hb dL_areAlike_168 (by decide) (fun c_15 => ?_) (fun c_15 => ?_)
                            · skip
                              have c_15 : ¬ ((h_tell σ.1 g k) = (h_tell ρ.1 (5 - g) k)) := c_15
                              exact absurd ((mir_tell hM hg (by omega)).symm) c_15
                            · skip
                              have c_15 : (h_tell σ.1 g k) = (h_tell ρ.1 (5 - g) k) := c_15
                              refine lv_aload_n (pc := 171) hx hb dL_areAlike_171 rfl (lv_at hl 6 rfl) ?_
                              refine lv_iload (pc := 172) hx hb dL_areAlike_172 (lv_at hl 1 rfl) ?_
                              refine lv_iload (pc := 174) hx hb dL_areAlike_174 (lv_at hl 0 rfl) ?_
                              refine lv_iconst (pc := 176) (v := 3) hx hb dL_areAlike_176 (by decide) ?_
                              refine lv_irem (pc := 177) hx hb dL_areAlike_177 (nI_ne0 (n := 3) (by omega) (by omega)) ?_
                              refine b_re (nI_rem (a := k) (n := 3) (by omega) (by omega) (by omega)) ?_
                              refine b_cR (pc := 178) (va_runV (As := [.int (nI g), .int (nI (k % 3))]) (rest := []) ⟨hx, hb, hml, hown, hts⟩ (k_evto l D cI cC cZ cG ad σ ok g (k % 3) (by omega) (by omega)) (cwV 2 hts gL_areAlike_X3_eventsTo rfl rfl rfl hy_X3_eventsTo ⟨Nat.le_of_ble_eq_true rfl, Nat.le_of_ble_eq_true rfl⟩) (b_pRc hK (b_PL hP) (hc_0 _ _ _ _ _ _)) rfl rfl hl.1 rfl (lv_room (Nat.le_of_ble_eq_true rfl)) dL_areAlike_178 ⟨Nat.zero_le _, Nat.zero_le _⟩) ?_
                              refine lv_aload_n (pc := 181) hx hb dL_areAlike_181 rfl (lv_at hl 5 rfl) ?_
                              refine lv_iconst (pc := 182) (v := 5) hx hb dL_areAlike_182 (by decide) ?_
                              refine lv_iload (pc := 183) hx hb dL_areAlike_183 (lv_at hl 1 rfl) ?_
                              refine lv_isub (pc := 185) hx hb dL_areAlike_185 ?_
                              refine b_re (pk_sub (a := 5) (b := g) (by omega)) ?_
                              refine lv_iload (pc := 186) hx hb dL_areAlike_186 (lv_at hl 0 rfl) ?_
                              refine lv_iconst (pc := 188) (v := 3) hx hb dL_areAlike_188 (by decide) ?_
                              refine lv_irem (pc := 189) hx hb dL_areAlike_189 (nI_ne0 (n := 3) (by omega) (by omega)) ?_
                              refine b_re (nI_rem (a := k) (n := 3) (by omega) (by omega) (by omega)) ?_
                              refine b_cR (pc := 190) (va_runV (As := [.int (nI (5 - g)), .int (nI (k % 3))]) (rest := [.int (h_evs σ.1 g (k % 3))]) ⟨hx, hb, hml, hown, hts⟩ (k_evto l D cI cC cZ cG bd ρ ok2 (5 - g) (k % 3) (by omega) (by omega)) (cwV 2 hts gL_areAlike_X3_eventsTo rfl rfl rfl hy_X3_eventsTo ⟨Nat.le_of_ble_eq_true rfl, Nat.le_of_ble_eq_true rfl⟩) (b_pRc hK (b_PR hP) (hc_0 _ _ _ _ _ _)) rfl rfl hl.1 rfl (lv_room (Nat.le_of_ble_eq_true rfl)) dL_areAlike_190 ⟨Nat.zero_le _, Nat.zero_le _⟩) ?_
                              refine lv_icmp_ne (pc := 193) (tgt := 200) hx hb dL_areAlike_193 (by decide) (fun c_16 => ?_) (fun c_16 => ?_)
                              · skip
                                have c_16 : ¬ ((h_evs σ.1 g (k % 3)) = (h_evs ρ.1 (5 - g) (k % 3))) := c_16
                                exact absurd (mir_evs hM hg) c_16
                              · skip
                                have c_16 : (h_evs σ.1 g (k % 3)) = (h_evs ρ.1 (5 - g) (k % 3)) := c_16
                                refine lv_iconst (pc := 196) (v := 1) hx hb dL_areAlike_196 (by decide) ?_
                                refine lv_goto (pc := 197) (tgt := 201) hx hb dL_areAlike_197 (by decide) ?_
                                refine lv_istore_n (pc := 201) (lv' := [(2, .int 1), (6, .int (nI k)), (5, .int (nI g)), (4, .int (rv (h_um ρ.1 6) (g + 1))), (3, .int (rv (h_bm ρ.1 6) (g + 1))), (1, .ref (bd 0)), (0, .ref (ad 0))]) hx hb dL_areAlike_201 rfl hl (by decide) rfl (fun ls hl => ?_)
                                refine lv_iinc (pc := 202) (v := nI (k + 1)) (lv' := [(6, .int (nI (k + 1))), (2, .int 1), (5, .int (nI g)), (4, .int (rv (h_um ρ.1 6) (g + 1))), (3, .int (rv (h_bm ρ.1 6) (g + 1))), (1, .ref (bd 0)), (0, .ref (ad 0))]) hx hb dL_areAlike_202 hl (k := 1) rfl (nI_add k 1) (by decide) rfl (fun ls hl => ?_)
                                refine lv_goto (pc := 205) (tgt := 139) hx hb dL_areAlike_205 (by decide) ?_
                                exact ih_139 (k + 1) (by omega) (by omega) ls (lv_sub hl [0, 2, 3, 4, 1, 5, 6] rfl)
                    exact loop_139 14 0 (Nat.zero_le _) (by omega) ls (lv_sub hl [0, 4, 2, 3, 1, 5, 6] rfl)
          exact loop_62 7 0 (Nat.zero_le _) (by omega) ls (lv_sub hl [0, 1, 2, 3, 4, 5] rfl)
        · skip
          have c_2 : ¬ (14 ≤ w) := fun h9 => c_2 ((nI_leI (a := 14) (b := w) (by omega) (by omega)).mpr h9)
          refine lv_iload_n (pc := 25) hx hb dL_areAlike_25 rfl (lv_at hl 1 rfl) ?_
          refine lv_if_eq (pc := 26) (tgt := 46) hx hb dL_areAlike_26 (by decide) (fun c_17 => ?_) (fun c_17 => ?_)
          · skip
            exact absurd c_17 (by decide)
          · skip
            rcases Nat.lt_or_ge w 8 with hw8 | hw8
            · skip
              refine lv_aload_n (pc := 29) hx hb dL_areAlike_29 rfl (lv_at hl 3 rfl) ?_
              refine lv_iload_n (pc := 30) hx hb dL_areAlike_30 rfl (lv_at hl 0 rfl) ?_
              refine b_cR (pc := 31) (va_runV (As := [.int (nI w)]) (rest := []) ⟨hx, hb, hml, hown, hts⟩ (k_count_lo l D cI cC cZ cG ad σ ok w (by omega)) (cwV 1 hts gL_areAlike_X3_count rfl rfl rfl hy_X3_count ⟨Nat.le_of_ble_eq_true rfl, Nat.le_of_ble_eq_true rfl⟩) (b_pRc hK (b_PL hP) (hc_0 _ _ _ _ _ _)) rfl rfl hl.1 rfl (lv_room (Nat.le_of_ble_eq_true rfl)) dL_areAlike_31 ⟨Nat.zero_le _, Nat.zero_le _⟩) ?_
              refine lv_aload_n (pc := 34) hx hb dL_areAlike_34 rfl (lv_at hl 2 rfl) ?_
              refine lv_iload_n (pc := 35) hx hb dL_areAlike_35 rfl (lv_at hl 0 rfl) ?_
              refine b_cR (pc := 36) (va_runV (As := [.int (nI w)]) (rest := [.int (σ.1 w)]) ⟨hx, hb, hml, hown, hts⟩ (k_count_lo l D cI cC cZ cG bd ρ ok2 w (by omega)) (cwV 1 hts gL_areAlike_X3_count rfl rfl rfl hy_X3_count ⟨Nat.le_of_ble_eq_true rfl, Nat.le_of_ble_eq_true rfl⟩) (b_pRc hK (b_PR hP) (hc_0 _ _ _ _ _ _)) rfl rfl hl.1 rfl (lv_room (Nat.le_of_ble_eq_true rfl)) dL_areAlike_36 ⟨Nat.zero_le _, Nat.zero_le _⟩) ?_
              refine lv_icmp_ne (pc := 39) (tgt := 46) hx hb dL_areAlike_39 (by decide) (fun c_18 => ?_) (fun c_18 => ?_)
              · skip
                have c_18 : ¬ ((σ.1 w) = (ρ.1 w)) := c_18
                exact absurd ((hM.1 w hw8).symm) c_18
              · skip
                have c_18 : (σ.1 w) = (ρ.1 w) := c_18
                refine lv_iconst (pc := 42) (v := 1) hx hb dL_areAlike_42 (by decide) ?_
                refine lv_goto (pc := 43) (tgt := 47) hx hb dL_areAlike_43 (by decide) ?_
                refine lv_istore_n (pc := 47) (lv' := [(2, .int 1), (3, .int (nI w)), (1, .ref (bd 0)), (0, .ref (ad 0))]) hx hb dL_areAlike_47 rfl hl (by decide) rfl (fun ls hl => ?_)
                refine lv_iinc (pc := 48) (v := nI (w + 1)) (lv' := [(3, .int (nI (w + 1))), (2, .int 1), (1, .ref (bd 0)), (0, .ref (ad 0))]) hx hb dL_areAlike_48 hl (k := 1) rfl (nI_add w 1) (by decide) rfl (fun ls hl => ?_)
                refine lv_goto (pc := 51) (tgt := 19) hx hb dL_areAlike_51 (by decide) ?_
                exact ih_19 (w + 1) (by omega) (by omega) ls (lv_sub hl [0, 1, 2, 3] rfl)
            · skip
              refine lv_aload_n (pc := 29) hx hb dL_areAlike_29 rfl (lv_at hl 3 rfl) ?_
              refine lv_iload_n (pc := 30) hx hb dL_areAlike_30 rfl (lv_at hl 0 rfl) ?_
              refine b_cR (pc := 31) (va_runV (As := [.int (nI w)]) (rest := []) ⟨hx, hb, hml, hown, hts⟩ (k_count_mid l D cI cC cZ cG ad σ ok w (by omega)) (cwV 1 hts gL_areAlike_X3_count rfl rfl rfl hy_X3_count ⟨Nat.le_of_ble_eq_true rfl, Nat.le_of_ble_eq_true rfl⟩) (b_pRc hK (b_PL hP) (hc_0 _ _ _ _ _ _)) rfl rfl hl.1 rfl (lv_room (Nat.le_of_ble_eq_true rfl)) dL_areAlike_31 ⟨Nat.zero_le _, Nat.zero_le _⟩) ?_
              refine b_re (show _ = h_sum σ.1 (w - 8 + 5) 6 from rfl) ?_
              refine lv_aload_n (pc := 34) hx hb dL_areAlike_34 rfl (lv_at hl 2 rfl) ?_
              refine lv_iload_n (pc := 35) hx hb dL_areAlike_35 rfl (lv_at hl 0 rfl) ?_
              refine b_cR (pc := 36) (va_runV (As := [.int (nI w)]) (rest := [.int (h_sum σ.1 (w - 8 + 5) 6)]) ⟨hx, hb, hml, hown, hts⟩ (k_count_mid l D cI cC cZ cG bd ρ ok2 w (by omega)) (cwV 1 hts gL_areAlike_X3_count rfl rfl rfl hy_X3_count ⟨Nat.le_of_ble_eq_true rfl, Nat.le_of_ble_eq_true rfl⟩) (b_pRc hK (b_PR hP) (hc_0 _ _ _ _ _ _)) rfl rfl hl.1 rfl (lv_room (Nat.le_of_ble_eq_true rfl)) dL_areAlike_36 ⟨Nat.zero_le _, Nat.zero_le _⟩) ?_
              refine b_re (show _ = h_sum ρ.1 (w - 8 + 5) 6 from rfl) ?_
              refine lv_icmp_ne (pc := 39) (tgt := 46) hx hb dL_areAlike_39 (by decide) (fun c_19 => ?_) (fun c_19 => ?_)
              · skip
                have c_19 : ¬ ((h_sum σ.1 (w - 8 + 5) 6) = (h_sum ρ.1 (w - 8 + 5) 6)) := c_19
                exact absurd ((mir_sum hM (by omega)).symm) c_19
              · skip
                have c_19 : (h_sum σ.1 (w - 8 + 5) 6) = (h_sum ρ.1 (w - 8 + 5) 6) := c_19
                refine lv_iconst (pc := 42) (v := 1) hx hb dL_areAlike_42 (by decide) ?_
                refine lv_goto (pc := 43) (tgt := 47) hx hb dL_areAlike_43 (by decide) ?_
                refine lv_istore_n (pc := 47) (lv' := [(2, .int 1), (3, .int (nI w)), (1, .ref (bd 0)), (0, .ref (ad 0))]) hx hb dL_areAlike_47 rfl hl (by decide) rfl (fun ls hl => ?_)
                refine lv_iinc (pc := 48) (v := nI (w + 1)) (lv' := [(3, .int (nI (w + 1))), (2, .int 1), (1, .ref (bd 0)), (0, .ref (ad 0))]) hx hb dL_areAlike_48 hl (k := 1) rfl (nI_add w 1) (by decide) rfl (fun ls hl => ?_)
                refine lv_goto (pc := 51) (tgt := 19) hx hb dL_areAlike_51 (by decide) ?_
                exact ih_19 (w + 1) (by omega) (by omega) ls (lv_sub hl [0, 1, 2, 3] rfl)
    exact loop_19 15 0 (Nat.zero_le _) (by omega) ls (lv_sub hl [0, 1, 3, 2] rfl)
