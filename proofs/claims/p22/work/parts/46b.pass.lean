/-! isStep: a case -/
theorem hw_st_c1_0 : (.constantLong RL 41 (46) : Cond) ∈ wsL_isStep := by decide +kernel
set_option maxHeartbeats 4000000 in
set_option maxRecDepth 100000 in
theorem st_c1 {p : Program} {l : Launch} {e : Env} {s : State} {m : MethodId} {below : List Frame} {meth : Method} {c : Code} {D : va_G} {cI cC cZ cG : ClassId} {A : Nat → Prop} {tb lo hi : Nat} {ad bd : Nat → Nat} {x y : Int32} (C : st_C p s m meth c D cI cC cZ cG A tb lo hi ad bd x y) {N : Nat} {σ ρ : HS} (hR : Rel N σ ρ) (hN : N ≤ 50000) {Q : State → Prop} (hQ : Q = MQ below (st_Qc D cI cC cZ cG N ad bd A) (st_av ad bd x y) s 0 0 A) {H : Heap} {locs : List Loc} (hP : va_P D vwCl (hc cI cC cZ cG ad σ ++ hc cI cC cZ cG bd ρ) H) (hD : va_D A (hc cI cC cZ cG ad σ ++ hc cI cC cZ cG bd ρ)) (hS : va_S A s.heap H locs) {ls : Array Slot} (hl : lv_has ls 13 [(0, .ref (ad 0)), (1, .ref (bd 0)), (2, .int x), (3, .int y), (4, .int (x >>> (4 &&& 31)))]) : W p l e ({ frames := 7, cells := 0, slots := 0, locals := 160 } : Room) s m (st_av ad bd x y) below meth c H locs 0 0 Q (F0 m 209 ls []) := by
  obtain ⟨hx, hb, hr, hml, hown, hts, hlocks, hK, hA, hX⟩ := C
  obtain ⟨⟨ok, ok2⟩, ⟨hI, hI2, hM⟩, -⟩ := id hR
  have hn60 : sN σ ≤ 60 := ok.1
  have hm60 : sN ρ ≤ 60 := ok2.1
  refine lv_iconst (pc := 209) (v := 1) hx hb dL_isStep_209 (by decide) ?_
  refine lv_iload_n (pc := 210) hx hb dL_isStep_210 rfl (lv_at hl 3 rfl) ?_
  refine wj_cut (a := ∀ (n : Nat), (0 < n ∧ n ≤ 99) → W p l e ({ frames := 7, cells := 0, slots := 0, locals := 160 } : Room) s m (st_av ad bd x y) below meth c H locs 0 0 Q (F0 m 227 ls [.int (nI n), .int y, .int 1])) ?_ (fun J_1 => ?_)
  · skip
    intro n hjJ_1
    refine b_cR (pc := 227) (va_runS (As := [.int y, .int (nI n)]) (rest := [.int 1]) ⟨hx, hb, hml, hown, hts⟩ (c_L_up l D cI cC cZ cG y n (by omega) (by omega)) (va_cwS 2 hts gL_isStep_L_up rfl rfl rfl hyS_L_up ⟨Nat.le_of_ble_eq_true rfl, Nat.le_of_ble_eq_true rfl⟩) (b_pRs hK (fun k q hk => by simp at hk)) rfl rfl hl.1 rfl (lv_room (Nat.le_of_ble_eq_true rfl)) dL_isStep_227 ⟨Nat.zero_le _, Nat.zero_le _⟩) ?_
    obtain ⟨u0, eu0⟩ : ∃ z : Nat, u_up y n = z := ⟨_, rfl⟩
    have hu0 : u0 < n := eu0 ▸ u_lt _ (by omega)
    refine b_re (congrArg nI eu0) ?_
    refine lv_iadd (pc := 230) hx hb dL_isStep_230 ?_
    refine b_re (nI_add 1 u0) ?_
    obtain ⟨t, et⟩ : ∃ z : Nat, 1 + u0 = z := ⟨_, rfl⟩
    have ht : 0 < t ∧ t ≤ 99 := by omega
    refine b_re (congrArg nI et) ?_
    refine lv_istore (pc := 231) (lv' := [(6, .int (nI t)), (0, .ref (ad 0)), (1, .ref (bd 0)), (2, .int x), (3, .int y), (4, .int (x >>> (4 &&& 31)))]) hx hb dL_isStep_231 hl (by decide) rfl (fun ls hl => ?_)
    refine lv_aload_n (pc := 233) hx hb dL_isStep_233 rfl (lv_at hl 1 rfl) ?_
    refine lv_iconst (pc := 234) (v := 3) hx hb dL_isStep_234 (by decide) ?_
    refine b_cR (pc := 235) (va_runV (As := [.int 3]) (rest := []) ⟨hx, hb, hml, hown, hts⟩ (k_count_lo l D cI cC cZ cG ad σ ok 3 (by omega)) (cwV 1 hts gL_isStep_X3_count rfl rfl rfl hy_X3_count ⟨Nat.le_of_ble_eq_true rfl, Nat.le_of_ble_eq_true rfl⟩) (b_pRc hK (b_PL hP) (hc_0 _ _ _ _ _ _)) rfl rfl hl.1 rfl (lv_room (Nat.le_of_ble_eq_true rfl)) dL_isStep_235 ⟨Nat.zero_le _, Nat.zero_le _⟩) ?_
    refine lv_istore (pc := 238) (lv' := [(7, .int (σ.1 3)), (6, .int (nI t)), (0, .ref (ad 0)), (1, .ref (bd 0)), (2, .int x), (3, .int y), (4, .int (x >>> (4 &&& 31)))]) hx hb dL_isStep_238 hl (by decide) rfl (fun ls hl => ?_)
    refine lv_aload_n (pc := 240) hx hb dL_isStep_240 rfl (lv_at hl 2 rfl) ?_
    refine b_cR (pc := 241) (va_runV (As := []) (rest := []) ⟨hx, hb, hml, hown, hts⟩ (k_ub l D cI cC cZ cG ad σ ok) (cwV 0 hts gL_isStep_X3_untilBlocked rfl rfl rfl hy_X3_untilBlocked ⟨Nat.le_of_ble_eq_true rfl, Nat.le_of_ble_eq_true rfl⟩) (b_pRc hK (b_PL hP) (hc_0 _ _ _ _ _ _)) rfl rfl hl.1 rfl (lv_room (Nat.le_of_ble_eq_true rfl)) dL_isStep_241 ⟨Nat.zero_le _, Nat.zero_le _⟩) ?_
    refine lv_istore (pc := 244) (lv' := [(8, .int (h_ub σ.1 6)), (7, .int (σ.1 3)), (6, .int (nI t)), (0, .ref (ad 0)), (1, .ref (bd 0)), (2, .int x), (3, .int y), (4, .int (x >>> (4 &&& 31)))]) hx hb dL_isStep_244 hl (by decide) rfl (fun ls hl => ?_)
    refine lv_aload_n (pc := 246) hx hb dL_isStep_246 rfl (lv_at hl 3 rfl) ?_
    refine lv_bipush (pc := 247) (v := 14) hx hb dL_isStep_247 (by decide) ?_
    refine b_cR (pc := 249) (va_runV (As := [.int 14]) (rest := []) ⟨hx, hb, hml, hown, hts⟩ (k_count_14 l D cI cC cZ cG ad σ ok) (cwV 1 hts gL_isStep_X3_count rfl rfl rfl hy_X3_count ⟨Nat.le_of_ble_eq_true rfl, Nat.le_of_ble_eq_true rfl⟩) (b_pRc hK (b_PL hP) (hc_0 _ _ _ _ _ _)) rfl rfl hl.1 rfl (lv_room (Nat.le_of_ble_eq_true rfl)) dL_isStep_249 ⟨Nat.zero_le _, Nat.zero_le _⟩) ?_
    refine lv_istore (pc := 252) (lv' := [(9, .int (h_bm σ.1 6)), (8, .int (h_ub σ.1 6)), (7, .int (σ.1 3)), (6, .int (nI t)), (0, .ref (ad 0)), (1, .ref (bd 0)), (2, .int x), (3, .int y), (4, .int (x >>> (4 &&& 31)))]) hx hb dL_isStep_252 hl (by decide) rfl (fun ls hl => ?_)
    refine lv_aload_n (pc := 254) hx hb dL_isStep_254 rfl (lv_at hl 4 rfl) ?_
    refine lv_iload (pc := 255) hx hb dL_isStep_255 (lv_at hl 3 rfl) ?_
    refine b_cWl (pc := 257) (w1 := hc cI cC cZ cG ad (sKeep σ (h_goBy σ.1 (nI t)) (sN σ))) (va_runV (As := [.int (nI t)]) (rest := []) ⟨hx, hb, hml, hown, hts⟩ (k_pass l D cI cC cZ cG tb lo hi H.size ad σ ok (nI t) (tk_rng ht).2.1 (tk_rng ht).2.2 (tk_big hN hI ht)) (cwV 1 hts gL_isStep_X3_pass rfl rfl rfl hy_X3_pass ⟨Nat.le_of_ble_eq_true rfl, Nat.le_of_ble_eq_true rfl⟩) (b_pWc hK (b_PL hP) (b_DL hD) (b_Xok_X tb lo hi) (b_Xc0 hX (b_DL hD) hS hA) (hc_0 _ _ _ _ _ _)) rfl rfl hl.1 rfl (lv_room (Nat.le_of_ble_eq_true rfl)) dL_isStep_257 ⟨Nat.zero_le _, Nat.zero_le _⟩) hP hD hS hA (hc_ad _ _ _ _ _ _ _) (fun H locs hP hD hS => ?_)
    refine lv_istore (pc := 260) (lv' := [(10, .int (b_bc (h_bm (h_goBy σ.1 (nI t)) 6))), (9, .int (h_bm σ.1 6)), (8, .int (h_ub σ.1 6)), (7, .int (σ.1 3)), (6, .int (nI t)), (0, .ref (ad 0)), (1, .ref (bd 0)), (2, .int x), (3, .int y), (4, .int (x >>> (4 &&& 31)))]) hx hb dL_isStep_260 hl (by decide) rfl (fun ls hl => ?_)
    refine lv_iconst (pc := 262) (v := 0) hx hb dL_isStep_262 (by decide) ?_
    refine lv_istore (pc := 263) (lv' := [(11, .int 0), (10, .int (b_bc (h_bm (h_goBy σ.1 (nI t)) 6))), (9, .int (h_bm σ.1 6)), (8, .int (h_ub σ.1 6)), (7, .int (σ.1 3)), (6, .int (nI t)), (0, .ref (ad 0)), (1, .ref (bd 0)), (2, .int x), (3, .int y), (4, .int (x >>> (4 &&& 31)))]) hx hb dL_isStep_263 hl (by decide) rfl (fun ls hl => ?_)
    refine lv_iconst (pc := 265) (v := 0) hx hb dL_isStep_265 (by decide) ?_
    refine lv_istore (pc := 266) (lv' := [(12, .int 0), (11, .int 0), (10, .int (b_bc (h_bm (h_goBy σ.1 (nI t)) 6))), (9, .int (h_bm σ.1 6)), (8, .int (h_ub σ.1 6)), (7, .int (σ.1 3)), (6, .int (nI t)), (0, .ref (ad 0)), (1, .ref (bd 0)), (2, .int x), (3, .int y), (4, .int (x >>> (4 &&& 31)))]) hx hb dL_isStep_266 hl (by decide) rfl (fun ls hl => ?_)
    have loop_268 : ∀ (fu : Nat) (k : Nat), (k ≤ 6) → 6 - k < fu → ∀ (H : Heap) (locs : List Loc), va_P D vwCl (hc cI cC cZ cG ad (sKeep σ (h_goBy σ.1 (nI t)) (sN σ)) ++ hc cI cC cZ cG bd ρ) H → va_D A (hc cI cC cZ cG ad (sKeep σ (h_goBy σ.1 (nI t)) (sN σ)) ++ hc cI cC cZ cG bd ρ) → va_S A s.heap H locs → ∀ (ls : Array Slot), lv_has ls 13 [(12, .int (nI k)), (11, .int (h_bits (h_goBy σ.1 (nI t)) k)), (10, .int (b_bc (h_bm (h_goBy σ.1 (nI t)) 6))), (9, .int (h_bm σ.1 6)), (8, .int (h_ub σ.1 6)), (7, .int (σ.1 3)), (6, .int (nI t)), (1, .ref (bd 0)), (0, .ref (ad 0))] → W p l e ({ frames := 7, cells := 0, slots := 0, locals := 160 } : Room) s m (st_av ad bd x y) below meth c H locs 0 0 Q (F0 m 268 ls []) := by
      intro fu
      induction fu with
      | zero => intro k hk hfu H locs hP hD hS ls hl; exact absurd hfu (Nat.not_lt_zero _)
      | succ fu ih_268 =>
        intro k hk hfu H locs hP hD hS ls hl
        refine lv_iload (pc := 268) hx hb dL_isStep_268 (lv_at hl 0 rfl) ?_
        refine lv_bipush (pc := 270) (v := 6) hx hb dL_isStep_270 (by decide) ?_
        refine lv_icmp_ge (pc := 272) (tgt := 293) hx hb dL_isStep_272 (by decide) (fun c_2 => ?_) (fun c_2 => ?_)
        · skip
          have c_2 : 6 ≤ k := (nI_leI (a := 6) (b := k) (by omega) (by omega)).mp c_2
          have e6 : k = 6 := by omega
          subst e6
          have hl : lv_has ls 13 [(11, .int (h_bits (h_goBy σ.1 (nI t)) 6)), (10, .int (b_bc (h_bm (h_goBy σ.1 (nI t)) 6))), (9, .int (h_bm σ.1 6)), (8, .int (h_ub σ.1 6)), (7, .int (σ.1 3)), (6, .int (nI t)), (1, .ref (bd 0)), (0, .ref (ad 0))] := lv_sub hl [1, 2, 3, 4, 5, 6, 7, 8] rfl
          refine lv_aload_n (pc := 293) hx hb dL_isStep_293 rfl (lv_at hl 6 rfl) ?_
          refine b_cWr (pc := 294) (w1 := hc cI cC cZ cG bd (sText ρ 0 (sT ρ))) (va_runV (As := []) (rest := []) ⟨hx, hb, hml, hown, hts⟩ (k_wipe l D cI cC cZ cG tb lo hi H.size bd ρ ok2) (cwV 0 hts gL_isStep_X3_wipe rfl rfl rfl hy_X3_wipe ⟨Nat.le_of_ble_eq_true rfl, Nat.le_of_ble_eq_true rfl⟩) (b_pWc hK (b_PR hP) (b_DR hD) (b_Xok_X tb lo hi) (b_Xc0 hX (b_DR hD) hS hA) (hc_0 _ _ _ _ _ _)) rfl rfl hl.1 rfl (lv_room (Nat.le_of_ble_eq_true rfl)) dL_isStep_294 ⟨Nat.zero_le _, Nat.zero_le _⟩) hP hD hS hA (hc_ad _ _ _ _ _ _ _) (fun H locs hP hD hS => ?_)
          refine lv_if_lt (pc := 297) (tgt := 400) hx hb dL_isStep_297 (by decide) (fun c_3 => ?_) (fun c_3 => ?_)
          · skip
            have c_3 : sN ρ < 0 := (nI_ltI (a := sN ρ) (b := 0) (by omega) (by omega)).mp c_3
            exact absurd c_3 (by omega)
          · skip
            have c_3 : ¬ (sN ρ < 0) := fun h9 => c_3 ((nI_ltI (a := sN ρ) (b := 0) (by omega) (by omega)).mpr h9)
            refine lv_aload_n (pc := 300) hx hb dL_isStep_300 rfl (lv_at hl 6 rfl) ?_
            refine lv_ldc2 (pc := 301) hx hb hown (hts _ hw_st_c1_0) dL_isStep_301 ?_
            refine b_rl (show (46 : Int64) = (nI 46).toInt64 from by decide) ?_
            refine b_cWr (pc := 304) (w1 := hc cI cC cZ cG bd (sPut (sText ρ 0 (sT ρ)) 46)) (va_runV (As := [.long ((nI 46).toInt64)]) (rest := []) ⟨hx, hb, hml, hown, hts⟩ (k_put0 l D cI cC cZ cG tb lo hi H.size bd (sText ρ 0 (sT ρ)) (ok2.text _ (by omega)) (nI 46).toInt64 (ch_num 46 (by omega) (by omega)).1 (show 0 + 1 ≤ 60 by omega)) (cwV 1 hts gL_isStep_X3_put rfl rfl rfl hy_X3_put ⟨Nat.le_of_ble_eq_true rfl, Nat.le_of_ble_eq_true rfl⟩) (b_pWc hK (b_PR hP) (b_DR hD) (b_Xok_X tb lo hi) (b_Xc0 hX (b_DR hD) hS hA) (hc_0 _ _ _ _ _ _)) rfl rfl hl.1 rfl (lv_room (Nat.le_of_ble_eq_true rfl)) dL_isStep_304 ⟨Nat.zero_le _, Nat.zero_le _⟩) hP hD hS hA (hc_ad _ _ _ _ _ _ _) (fun H locs hP hD hS => ?_)
            have okp : sOk (sPut (sText ρ 0 (sT ρ)) 46) := sOk.text (ok2.text _ (by omega)) _ (show 0 + 1 ≤ 60 by omega)
            refine b_re (show _ = nI 1 from rfl) ?_
            refine lv_if_le (pc := 307) (tgt := 400) hx hb dL_isStep_307 (by decide) (fun c_4 => ?_) (fun c_4 => ?_)
            · skip
              have c_4 : 1 ≤ 0 := (nI_leI (a := 1) (b := 0) (by omega) (by omega)).mp c_4
              exact absurd c_4 (by omega)
            · skip
              have c_4 : ¬ (1 ≤ 0) := fun h9 => c_4 ((nI_leI (a := 1) (b := 0) (by omega) (by omega)).mpr h9)
              refine lv_aload_n (pc := 310) hx hb dL_isStep_310 rfl (lv_at hl 6 rfl) ?_
              refine lv_iload (pc := 311) hx hb dL_isStep_311 (lv_at hl 5 rfl) ?_
              refine b_cWr (pc := 313) (w1 := hc cI cC cZ cG bd (sTk ρ t)) (va_runS (As := [.ref (bd 0), .int (nI t)]) (rest := []) ⟨hx, hb, hml, hown, hts⟩ (c_L_number l D cI cC cZ cG tb lo hi H.size bd (sPut (sText ρ 0 (sT ρ)) 46) okp t (show 1 + 2 ≤ 60 by omega) (by omega)) (va_cwS 2 hts gL_isStep_L_number rfl rfl rfl hyS_L_number ⟨Nat.le_of_ble_eq_true rfl, Nat.le_of_ble_eq_true rfl⟩) (b_pWs hK (b_PR hP) (b_DR hD) (b_Xok_X tb lo hi) (b_Xc0 hX (b_DR hD) hS hA)) rfl rfl hl.1 rfl (lv_room (Nat.le_of_ble_eq_true rfl)) dL_isStep_313 ⟨Nat.zero_le _, Nat.zero_le _⟩) hP hD hS hA (hc_ad _ _ _ _ _ _ _) (fun H locs hP hD hS => ?_)
              have oktk : sOk (sTk ρ t) := sTk_ok ok2 ht
              refine lv_if_eq (pc := 316) (tgt := 400) hx hb dL_isStep_316 (by decide) (fun c_5 => ?_) (fun c_5 => ?_)
              · skip
                exact absurd c_5 (by decide)
              · skip
                refine lv_aload_n (pc := 319) hx hb dL_isStep_319 rfl (lv_at hl 6 rfl) ?_
                refine b_cWr (pc := 320) (w1 := hc cI cC cZ cG bd (sKeep (sTk ρ t) (p_hap (sT (sTk ρ t)) (sN (sTk ρ t)) (sN (sTk ρ t) + 1) 0 0 (sTk ρ t).1 0).1 0)) (va_runV (As := []) (rest := []) ⟨hx, hb, hml, hown, hts⟩ (k_read l D cI cC cZ cG tb lo hi H.size bd (sTk ρ t) oktk (sTk_ff ht)) (cwV 0 hts gL_isStep_X3_read rfl rfl rfl hy_X3_read ⟨Nat.le_of_ble_eq_true rfl, Nat.le_of_ble_eq_true rfl⟩) (b_pWc hK (b_PR hP) (b_DR hD) (b_Xok_X tb lo hi) (b_Xc0 hX (b_DR hD) hS hA) (hc_0 _ _ _ _ _ _)) rfl rfl hl.1 rfl (lv_room (Nat.le_of_ble_eq_true rfl)) dL_isStep_320 ⟨Nat.zero_le _, Nat.zero_le _⟩) hP hD hS hA (hc_ad _ _ _ _ _ _ _) (fun H locs hP hD hS => ?_)
                refine b_re (show _ = (0 : Int32) from congrArg Prod.snd (sTk_hap ht _)) ?_
                have eF : (p_hap (sT (sTk ρ t)) (sN (sTk ρ t)) (sN (sTk ρ t) + 1) 0 0 (sTk ρ t).1 0).1 = h_goBy ρ.1 (nI t) := by rw [sTk_hap ht, sTk_F]; exact tk_let hN hI2 ht
                rw [eF] at hP hD
                refine lv_if_ne (pc := 323) (tgt := 400) hx hb dL_isStep_323 (by decide) (fun c_6 => ?_) (fun c_6 => ?_)
                · skip
                  exact absurd c_6 (by decide)
                · skip
                  refine lv_aload_n (pc := 326) hx hb dL_isStep_326 rfl (lv_at hl 7 rfl) ?_
                  refine lv_iconst (pc := 327) (v := 3) hx hb dL_isStep_327 (by decide) ?_
                  refine b_cR (pc := 328) (va_runV (As := [.int 3]) (rest := []) ⟨hx, hb, hml, hown, hts⟩ (k_count_lo l D cI cC cZ cG ad (sKeep σ (h_goBy σ.1 (nI t)) (sN σ)) (ok.keep _ ok.1) 3 (by omega)) (cwV 1 hts gL_isStep_X3_count rfl rfl rfl hy_X3_count ⟨Nat.le_of_ble_eq_true rfl, Nat.le_of_ble_eq_true rfl⟩) (b_pRc hK (b_PL hP) (hc_0 _ _ _ _ _ _)) rfl rfl hl.1 rfl (lv_room (Nat.le_of_ble_eq_true rfl)) dL_isStep_328 ⟨Nat.zero_le _, Nat.zero_le _⟩) ?_
                  refine b_re (show _ = (h_goBy σ.1 (nI t)) 3 from rfl) ?_
                  refine lv_iload (pc := 331) hx hb dL_isStep_331 (lv_at hl 4 rfl) ?_
                  refine lv_iload (pc := 333) hx hb dL_isStep_333 (lv_at hl 5 rfl) ?_
                  refine lv_iadd (pc := 335) hx hb dL_isStep_335 ?_
                  refine lv_icmp_ne (pc := 336) (tgt := 400) hx hb dL_isStep_336 (by decide) (fun c_7 => ?_) (fun c_7 => ?_)
                  · skip
                    have c_7 : ¬ (((h_goBy σ.1 (nI t)) 3) = ((σ.1 3) + (nI t))) := c_7
                    exact absurd (go_3 σ.1 (nI t)) c_7
                  · skip
                    have c_7 : ((h_goBy σ.1 (nI t)) 3) = ((σ.1 3) + (nI t)) := c_7
                    refine lv_iload (pc := 339) hx hb dL_isStep_339 (lv_at hl 1 rfl) ?_
                    refine lv_iload (pc := 341) hx hb dL_isStep_341 (lv_at hl 0 rfl) ?_
                    refine lv_icmp_ne (pc := 343) (tgt := 400) hx hb dL_isStep_343 (by decide) (fun c_8 => ?_) (fun c_8 => ?_)
                    · skip
                      have c_8 : ¬ ((b_bc (h_bm (h_goBy σ.1 (nI t)) 6)) = (h_bits (h_goBy σ.1 (nI t)) 6)) := c_8
                      exact absurd (ps_bits _) c_8
                    · skip
                      have c_8 : (b_bc (h_bm (h_goBy σ.1 (nI t)) 6)) = (h_bits (h_goBy σ.1 (nI t)) 6) := c_8
                      refine wj_cut (a := W p l e ({ frames := 7, cells := 0, slots := 0, locals := 160 } : Room) s m (st_av ad bd x y) below meth c H locs 0 0 Q (F0 m 362 ls [.int (if h_bm (h_goBy σ.1 (nI t)) 6 = h_bm σ.1 6 then (1 : Int32) else 0)])) ?_ (fun J_9 => ?_)
                      · skip
                        refine wj_cut (a := W p l e ({ frames := 7, cells := 0, slots := 0, locals := 160 } : Room) s m (st_av ad bd x y) below meth c H locs 0 0 Q (F0 m 379 ls [.int (if h_ub σ.1 6 < 0 then 1 else if h_ub σ.1 6 ≤ nI t then 0 else 1), .int (if h_bm (h_goBy σ.1 (nI t)) 6 = h_bm σ.1 6 then (1 : Int32) else 0)])) ?_ (fun J_10 => ?_)
                        · skip
                          refine lv_icmp_ne (pc := 379) (tgt := 400) hx hb dL_isStep_379 (by decide) (fun c_11 => ?_) (fun c_11 => ?_)
                          · skip
                            have c_11 : ¬ ((if h_bm (h_goBy σ.1 (nI t)) 6 = h_bm σ.1 6 then (1 : Int32) else 0) = (if h_ub σ.1 6 < 0 then 1 else if h_ub σ.1 6 ≤ nI t then 0 else 1)) := c_11
                            exact absurd (ps_bool hN hI ht) c_11
                          · skip
                            have c_11 : (if h_bm (h_goBy σ.1 (nI t)) 6 = h_bm σ.1 6 then (1 : Int32) else 0) = (if h_ub σ.1 6 < 0 then 1 else if h_ub σ.1 6 ≤ nI t then 0 else 1) := c_11
                            refine lv_aload_n (pc := 382) hx hb dL_isStep_382 rfl (lv_at hl 7 rfl) ?_
                            refine lv_bipush (pc := 383) (v := 14) hx hb dL_isStep_383 (by decide) ?_
                            refine b_cR (pc := 385) (va_runV (As := [.int 14]) (rest := []) ⟨hx, hb, hml, hown, hts⟩ (k_count_14 l D cI cC cZ cG ad (sKeep σ (h_goBy σ.1 (nI t)) (sN σ)) (ok.keep _ ok.1)) (cwV 1 hts gL_isStep_X3_count rfl rfl rfl hy_X3_count ⟨Nat.le_of_ble_eq_true rfl, Nat.le_of_ble_eq_true rfl⟩) (b_pRc hK (b_PL hP) (hc_0 _ _ _ _ _ _)) rfl rfl hl.1 rfl (lv_room (Nat.le_of_ble_eq_true rfl)) dL_isStep_385 ⟨Nat.zero_le _, Nat.zero_le _⟩) ?_
                            refine b_re (show _ = h_bm (h_goBy σ.1 (nI t)) 6 from rfl) ?_
                            refine lv_iload (pc := 388) hx hb dL_isStep_388 (lv_at hl 2 rfl) ?_
                            refine lv_iand (pc := 390) hx hb dL_isStep_390 ?_
                            refine lv_iload (pc := 391) hx hb dL_isStep_391 (lv_at hl 2 rfl) ?_
                            refine lv_icmp_ne (pc := 393) (tgt := 400) hx hb dL_isStep_393 (by decide) (fun c_12 => ?_) (fun c_12 => ?_)
                            · skip
                              have c_12 : ¬ (((h_bm (h_goBy σ.1 (nI t)) 6) &&& (h_bm σ.1 6)) = (h_bm σ.1 6)) := c_12
                              exact absurd (ps_and (N := N) (by omega) (by have := (tk_rng ht).1; omega) hI) c_12
                            · skip
                              have c_12 : ((h_bm (h_goBy σ.1 (nI t)) 6) &&& (h_bm σ.1 6)) = (h_bm σ.1 6) := c_12
                              refine lv_iconst (pc := 396) (v := 1) hx hb dL_isStep_396 (by decide) ?_
                              refine lv_goto (pc := 397) (tgt := 401) hx hb dL_isStep_397 (by decide) ?_
                              subst hQ
                              exact st_ret hx hb hr hlocks hS (hR.ticks hN ht oktk (sTk_F ρ t) (sTk_R ρ t)) hP dL_isStep_401
                        · skip
                          refine lv_iload (pc := 362) hx hb dL_isStep_362 (lv_at hl 3 rfl) ?_
                          refine lv_if_lt (pc := 364) (tgt := 374) hx hb dL_isStep_364 (by decide) (fun c_13 => ?_) (fun c_13 => ?_)
                          · skip
                            have c_13 : (h_ub σ.1 6) < 0 := c_13
                            refine lv_iconst (pc := 374) (v := 1) hx hb dL_isStep_374 (by decide) ?_
                            refine lv_goto (pc := 375) (tgt := 379) hx hb dL_isStep_375 (by decide) ?_
                            exact b_re (by rw [if_pos c_13]) J_10
                          · skip
                            have c_13 : ¬ ((h_ub σ.1 6) < 0) := c_13
                            refine lv_iload (pc := 367) hx hb dL_isStep_367 (lv_at hl 3 rfl) ?_
                            refine lv_iload (pc := 369) hx hb dL_isStep_369 (lv_at hl 5 rfl) ?_
                            refine lv_icmp_le (pc := 371) (tgt := 378) hx hb dL_isStep_371 (by decide) (fun c_14 => ?_) (fun c_14 => ?_)
                            · skip
                              have c_14 : (h_ub σ.1 6) ≤ (nI t) := c_14
                              refine lv_iconst (pc := 378) (v := 0) hx hb dL_isStep_378 (by decide) ?_
                              exact b_re (by rw [if_neg c_13, if_pos c_14]) J_10
                            · skip
                              have c_14 : ¬ ((h_ub σ.1 6) ≤ (nI t)) := c_14
                              refine lv_iconst (pc := 374) (v := 1) hx hb dL_isStep_374 (by decide) ?_
                              refine lv_goto (pc := 375) (tgt := 379) hx hb dL_isStep_375 (by decide) ?_
                              exact b_re (by rw [if_neg c_13, if_neg c_14]) J_10
                      · skip
                        refine lv_aload_n (pc := 346) hx hb dL_isStep_346 rfl (lv_at hl 7 rfl) ?_
                        refine lv_bipush (pc := 347) (v := 14) hx hb dL_isStep_347 (by decide) ?_
                        refine b_cR (pc := 349) (va_runV (As := [.int 14]) (rest := []) ⟨hx, hb, hml, hown, hts⟩ (k_count_14 l D cI cC cZ cG ad (sKeep σ (h_goBy σ.1 (nI t)) (sN σ)) (ok.keep _ ok.1)) (cwV 1 hts gL_isStep_X3_count rfl rfl rfl hy_X3_count ⟨Nat.le_of_ble_eq_true rfl, Nat.le_of_ble_eq_true rfl⟩) (b_pRc hK (b_PL hP) (hc_0 _ _ _ _ _ _)) rfl rfl hl.1 rfl (lv_room (Nat.le_of_ble_eq_true rfl)) dL_isStep_349 ⟨Nat.zero_le _, Nat.zero_le _⟩) ?_
                        refine b_re (show _ = h_bm (h_goBy σ.1 (nI t)) 6 from rfl) ?_
                        refine lv_iload (pc := 352) hx hb dL_isStep_352 (lv_at hl 2 rfl) ?_
                        refine lv_icmp_ne (pc := 354) (tgt := 361) hx hb dL_isStep_354 (by decide) (fun c_15 => ?_) (fun c_15 => ?_)
                        · skip
                          have c_15 : ¬ ((h_bm (h_goBy σ.1 (nI t)) 6) = (h_bm σ.1 6)) := c_15
                          refine lv_iconst (pc := 361) (v := 0) hx hb dL_isStep_361 (by decide) ?_
                          exact b_re (by rw [if_neg c_15]) J_9
                        · skip
                          have c_15 : (h_bm (h_goBy σ.1 (nI t)) 6) = (h_bm σ.1 6) := c_15
                          refine lv_iconst (pc := 357) (v := 1) hx hb dL_isStep_357 (by decide) ?_
                          refine lv_goto (pc := 358) (tgt := 362) hx hb dL_isStep_358 (by decide) ?_
                          exact b_re (by rw [if_pos c_15]) J_9
        · skip
          have c_2 : ¬ (6 ≤ k) := fun h9 => c_2 ((nI_leI (a := 6) (b := k) (by omega) (by omega)).mpr h9)
          refine lv_iload (pc := 275) hx hb dL_isStep_275 (lv_at hl 1 rfl) ?_
          refine lv_aload_n (pc := 277) hx hb dL_isStep_277 rfl (lv_at hl 8 rfl) ?_
          refine lv_iload (pc := 278) hx hb dL_isStep_278 (lv_at hl 0 rfl) ?_
          refine lv_iconst (pc := 280) (v := 4) hx hb dL_isStep_280 (by decide) ?_
          refine b_cR (pc := 281) (va_runV (As := [.int (nI k), .int 4]) (rest := [.int (h_bits (h_goBy σ.1 (nI t)) k)]) ⟨hx, hb, hml, hown, hts⟩ (k_gate l D cI cC cZ cG ad (sKeep σ (h_goBy σ.1 (nI t)) (sN σ)) (ok.keep _ ok.1) k 4 (by omega) (by omega)) (cwV 2 hts gL_isStep_X3_gate rfl rfl rfl hy_X3_gate ⟨Nat.le_of_ble_eq_true rfl, Nat.le_of_ble_eq_true rfl⟩) (b_pRc hK (b_PL hP) (hc_0 _ _ _ _ _ _)) rfl rfl hl.1 rfl (lv_room (Nat.le_of_ble_eq_true rfl)) dL_isStep_281 ⟨Nat.zero_le _, Nat.zero_le _⟩) ?_
          refine b_re (show _ = h_tell (h_goBy σ.1 (nI t)) k 4 from rfl) ?_
          refine lv_iadd (pc := 284) hx hb dL_isStep_284 ?_
          refine b_re (show _ = h_bits (h_goBy σ.1 (nI t)) (k + 1) from rfl) ?_
          refine lv_istore (pc := 285) (lv' := [(11, .int (h_bits (h_goBy σ.1 (nI t)) (k + 1))), (12, .int (nI k)), (10, .int (b_bc (h_bm (h_goBy σ.1 (nI t)) 6))), (9, .int (h_bm σ.1 6)), (8, .int (h_ub σ.1 6)), (7, .int (σ.1 3)), (6, .int (nI t)), (1, .ref (bd 0)), (0, .ref (ad 0))]) hx hb dL_isStep_285 hl (by decide) rfl (fun ls hl => ?_)
          refine lv_iinc (pc := 287) (v := nI (k + 1)) (lv' := [(12, .int (nI (k + 1))), (11, .int (h_bits (h_goBy σ.1 (nI t)) (k + 1))), (10, .int (b_bc (h_bm (h_goBy σ.1 (nI t)) 6))), (9, .int (h_bm σ.1 6)), (8, .int (h_ub σ.1 6)), (7, .int (σ.1 3)), (6, .int (nI t)), (1, .ref (bd 0)), (0, .ref (ad 0))]) hx hb dL_isStep_287 hl (k := 1) rfl (nI_add k 1) (by decide) rfl (fun ls hl => ?_)
          refine lv_goto (pc := 290) (tgt := 268) hx hb dL_isStep_290 (by decide) ?_
          exact ih_268 (k + 1) (by omega) (by omega) _ _ hP hD hS ls (lv_sub hl [0, 1, 2, 3, 4, 5, 6, 7, 8] rfl)
    exact loop_268 7 0 (Nat.zero_le _) (by omega) _ _ hP hD hS ls (lv_sub hl [0, 1, 2, 3, 4, 5, 6, 8, 7] rfl)
  · skip
    refine lv_iload (pc := 211) hx hb dL_isStep_211 (lv_at hl 4 rfl) ?_
    refine lv_iconst (pc := 213) (v := 5) hx hb dL_isStep_213 (by decide) ?_
    refine b_cR (pc := 214) (va_runS (As := [.int (x >>> (4 &&& 31)), .int 5]) (rest := [.int y, .int 1]) ⟨hx, hb, hml, hown, hts⟩ (c_L_up l D cI cC cZ cG (x >>> (4 &&& 31)) 5 (by omega) (by omega)) (va_cwS 2 hts gL_isStep_L_up rfl rfl rfl hyS_L_up ⟨Nat.le_of_ble_eq_true rfl, Nat.le_of_ble_eq_true rfl⟩) (b_pRs hK (fun k q hk => by simp at hk)) rfl rfl hl.1 rfl (lv_room (Nat.le_of_ble_eq_true rfl)) dL_isStep_214 ⟨Nat.zero_le _, Nat.zero_le _⟩) ?_
    obtain ⟨u1, eu1⟩ : ∃ z : Nat, u_up (x >>> (4 &&& 31)) 5 = z := ⟨_, rfl⟩
    have hu1 : u1 < 5 := eu1 ▸ u_lt _ (by omega)
    refine b_re (congrArg nI eu1) ?_
    refine lv_if_ne (pc := 217) (tgt := 225) hx hb dL_isStep_217 (by decide) (fun c_16 => ?_) (fun c_16 => ?_)
    · skip
      have c_16 : ¬ (u1 = 0) := fun h9 => c_16 ((nI_eq (a := u1) (b := 0) (by omega) (by omega)).mpr h9)
      refine lv_bipush (pc := 225) (v := 6) hx hb dL_isStep_225 (by decide) ?_
      exact b_re (show _ = nI 6 from by decide) (J_1 6 (by omega))
    · skip
      have c_16 : u1 = 0 := (nI_eq (a := u1) (b := 0) (by omega) (by omega)).mp c_16
      refine lv_bipush (pc := 220) (v := 99) hx hb dL_isStep_220 (by decide) ?_
      refine lv_goto (pc := 222) (tgt := 227) hx hb dL_isStep_222 (by decide) ?_
      exact b_re (show _ = nI 99 from by decide) (J_1 99 (by omega))
