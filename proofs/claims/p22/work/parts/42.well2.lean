/-! isWell -/
theorem hw_c_L_isWell_0 : (.arrayClass .int : Cond) ∈ wsL_isWell := by decide +kernel
set_option maxHeartbeats 4000000 in
set_option maxRecDepth 100000 in
theorem c_L_isWell (l : Launch) (D : va_G) (cI cC cZ cG : ClassId) (tb lo hi sz : Nat) (ad : Nat → Nat) (σ : HS) (ok : sOk σ) (N : Nat) (hN : N ≤ 1000000) (hI : Inv N σ.1) : Met l yL_isWell wsL_isWell ({ frames := 6, cells := 1, slots := 6, locals := 127 } : Room) (b_W D (b_T cI cC cZ cG) (b_X tb lo hi) (hc cI cC cZ cG ad σ) sz [.ref (ad 0)]) (b_Qi D 1 (hc cI cC cZ cG ad σ) (va_A (hc cI cC cZ cG ad σ) sz)) 1 6 (va_A (hc cI cC cZ cG ad σ) sz) := by
  refine b_enterW (Qc := fun A => b_Qi D 1 (hc cI cC cZ cG ad σ) A) (cc := cL_isWell) (maxL := 7) (ret := (some .boolean)) (by decide) rfl (Nat.le_of_ble_eq_true rfl) ?_
  intro p e s m below meth c ls A hx hb hr hml hown hts hlocks hname hP hK hD hA hS hX hl Q hQ
  have hown : s.vm.findClass RL = some m.cls := hown
  have hl : lv_has ls 7 [(0, .ref (ad 0))] := hl
  refine lv_bipush (pc := 0) (v := 6) hx hb dL_isWell_0 (by decide) ?_
  refine b_newa (pc := 2) (atype := .int) (ty := .int) (N' := 6) (a0 := (6, .inl (fun _ => 0))) hx hb (hts _ hw_c_L_isWell_0) hK 0 rfl rfl (fun h9 => h9) hP hD hS hA (fun _ => rfl) (by decide) (by decide) (by decide) (Nat.le_of_ble_eq_true rfl) (Nat.le_of_ble_eq_true rfl) dL_isWell_2 (fun qa H hP hD hS => ?_)
  have hP : va_P D vwCl (hc cI cC cZ cG ad σ ++ [(qa, .inl (cI, 6, .inl (fun _ => 0)))]) H := hP
  have hD : va_D A (hc cI cC cZ cG ad σ ++ [(qa, .inl (cI, 6, .inl (fun _ => 0)))]) := hD
  refine lv_astore_n (pc := 4) (lv' := [(1, .ref qa), (0, .ref (ad 0))]) hx hb dL_isWell_4 rfl hl (by decide) rfl (fun ls hl => ?_)
  refine lv_iconst (pc := 5) (v := 0) hx hb dL_isWell_5 (by decide) ?_
  refine lv_istore_n (pc := 6) (lv' := [(2, .int 0), (1, .ref qa), (0, .ref (ad 0))]) hx hb dL_isWell_6 rfl hl (by decide) rfl (fun ls hl => ?_)
  refine lv_aload_n (pc := 7) hx hb dL_isWell_7 rfl (lv_at hl 2 rfl) ?_
  refine lv_iconst (pc := 8) (v := 4) hx hb dL_isWell_8 (by decide) ?_
  refine b_cR (pc := 9) (va_runV (As := [.int 4]) (rest := []) ⟨hx, hb, hml, hown, hts⟩ (k_count_lo l D cI cC cZ cG ad σ ok 4 (by omega)) (cwV 1 hts gL_isWell_X3_count rfl rfl rfl hy_X3_count ⟨Nat.le_of_ble_eq_true rfl, Nat.le_of_ble_eq_true rfl⟩) (b_pRc hK (b_PL hP) (hc_0 _ _ _ _ _ _)) rfl rfl hl.1 rfl (lv_room (Nat.le_of_ble_eq_true rfl)) dL_isWell_9 ⟨Nat.le_of_ble_eq_true rfl, Nat.le_of_ble_eq_true rfl⟩) ?_
  refine lv_if_lt (pc := 12) (tgt := 32) hx hb dL_isWell_12 (by decide) (fun c_1 => ?_) (fun c_1 => ?_)
  · skip
    have c_1 : (σ.1 4) < 0 := c_1
    exact absurd c_1 (w_a hI)
  · skip
    have c_1 : ¬ ((σ.1 4) < 0) := c_1
    refine lv_aload_n (pc := 15) hx hb dL_isWell_15 rfl (lv_at hl 2 rfl) ?_
    refine lv_iconst (pc := 16) (v := 4) hx hb dL_isWell_16 (by decide) ?_
    refine b_cR (pc := 17) (va_runV (As := [.int 4]) (rest := []) ⟨hx, hb, hml, hown, hts⟩ (k_count_lo l D cI cC cZ cG ad σ ok 4 (by omega)) (cwV 1 hts gL_isWell_X3_count rfl rfl rfl hy_X3_count ⟨Nat.le_of_ble_eq_true rfl, Nat.le_of_ble_eq_true rfl⟩) (b_pRc hK (b_PL hP) (hc_0 _ _ _ _ _ _)) rfl rfl hl.1 rfl (lv_room (Nat.le_of_ble_eq_true rfl)) dL_isWell_17 ⟨Nat.le_of_ble_eq_true rfl, Nat.le_of_ble_eq_true rfl⟩) ?_
    refine lv_aload_n (pc := 20) hx hb dL_isWell_20 rfl (lv_at hl 2 rfl) ?_
    refine lv_iconst (pc := 21) (v := 5) hx hb dL_isWell_21 (by decide) ?_
    refine b_cR (pc := 22) (va_runV (As := [.int 5]) (rest := [.int (σ.1 4)]) ⟨hx, hb, hml, hown, hts⟩ (k_count_lo l D cI cC cZ cG ad σ ok 5 (by omega)) (cwV 1 hts gL_isWell_X3_count rfl rfl rfl hy_X3_count ⟨Nat.le_of_ble_eq_true rfl, Nat.le_of_ble_eq_true rfl⟩) (b_pRc hK (b_PL hP) (hc_0 _ _ _ _ _ _)) rfl rfl hl.1 rfl (lv_room (Nat.le_of_ble_eq_true rfl)) dL_isWell_22 ⟨Nat.le_of_ble_eq_true rfl, Nat.le_of_ble_eq_true rfl⟩) ?_
    refine lv_icmp_gt (pc := 25) (tgt := 32) hx hb dL_isWell_25 (by decide) (fun c_2 => ?_) (fun c_2 => ?_)
    · skip
      have c_2 : (σ.1 5) < (σ.1 4) := c_2
      exact absurd c_2 (w_b hI)
    · skip
      have c_2 : ¬ ((σ.1 5) < (σ.1 4)) := c_2
      refine lv_iconst (pc := 28) (v := 1) hx hb dL_isWell_28 (by decide) ?_
      refine lv_goto (pc := 29) (tgt := 33) hx hb dL_isWell_29 (by decide) ?_
      refine lv_istore_n (pc := 33) (lv' := [(3, .int 1), (2, .int 0), (1, .ref qa), (0, .ref (ad 0))]) hx hb dL_isWell_33 rfl hl (by decide) rfl (fun ls hl => ?_)
      refine lv_iconst (pc := 34) (v := 0) hx hb dL_isWell_34 (by decide) ?_
      refine lv_istore (pc := 35) (lv' := [(4, .int 0), (3, .int 1), (2, .int 0), (1, .ref qa), (0, .ref (ad 0))]) hx hb dL_isWell_35 hl (by decide) rfl (fun ls hl => ?_)
      have loop_37 : ∀ (fu : Nat) (g : Nat) (S : Nat → Int32), (g ≤ 6) → (∀ j, j < 6 → S j = h_sum σ.1 (5 + j) g) → 6 - g < fu → ∀ (H : Heap) (locs : List Loc), va_P D vwCl (hc cI cC cZ cG ad σ ++ [(qa, .inl (cI, 6, .inl S))]) H → va_D A (hc cI cC cZ cG ad σ ++ [(qa, .inl (cI, 6, .inl S))]) → va_S A s.heap H locs → ∀ (ls : Array Slot), lv_has ls 7 [(4, .int (nI g)), (3, .int 1), (2, .int ((h_bus σ.1 g).2)), (1, .ref qa), (0, .ref (ad 0))] → W p l e ({ frames := 6, cells := 1, slots := 6, locals := 127 } : Room) s m ([.ref (ad 0)] : List Value).toArray below meth c H locs (0 + 1) (0 + 6) Q (F0 m 37 ls []) := by
        intro fu
        induction fu with
        | zero => intro g S hg6 hS0 hfu H locs hP hD hS ls hl; exact absurd hfu (Nat.not_lt_zero _)
        | succ fu ih_37 =>
          intro g S hg6 hS0 hfu H locs hP hD hS ls hl
          refine lv_iload (pc := 37) hx hb dL_isWell_37 (lv_at hl 0 rfl) ?_
          refine lv_bipush (pc := 39) (v := 6) hx hb dL_isWell_39 (by decide) ?_
          refine lv_icmp_ge (pc := 41) (tgt := 337) hx hb dL_isWell_41 (by decide) (fun c_3 => ?_) (fun c_3 => ?_)
          · skip
            have c_3 : 6 ≤ g := (nI_leI (a := 6) (b := g) (by omega) (by omega)).mp c_3
            have e6 : g = 6 := by omega
            subst e6
            have hl : lv_has ls 7 [(3, .int 1), (2, .int ((h_bus σ.1 6).2)), (1, .ref qa), (0, .ref (ad 0))] := lv_sub hl [1, 2, 3, 4] rfl
            refine lv_iconst (pc := 337) (v := 0) hx hb dL_isWell_337 (by decide) ?_
            refine lv_istore (pc := 338) (lv' := [(4, .int 0), (3, .int 1), (2, .int ((h_bus σ.1 6).2)), (1, .ref qa), (0, .ref (ad 0))]) hx hb dL_isWell_338 hl (by decide) rfl (fun ls hl => ?_)
            have loop_340 : ∀ (fu : Nat) (k : Nat), (k ≤ 6) → 6 - k < fu → ∀ (H : Heap) (locs : List Loc), va_P D vwCl (hc cI cC cZ cG ad σ ++ [(qa, .inl (cI, 6, .inl S))]) H → va_D A (hc cI cC cZ cG ad σ ++ [(qa, .inl (cI, 6, .inl S))]) → va_S A s.heap H locs → ∀ (ls : Array Slot), lv_has ls 7 [(4, .int (nI k)), (3, .int 1), (2, .int ((h_bus σ.1 6).2)), (1, .ref qa), (0, .ref (ad 0))] → W p l e ({ frames := 6, cells := 1, slots := 6, locals := 127 } : Room) s m ([.ref (ad 0)] : List Value).toArray below meth c H locs (0 + 1) (0 + 6) Q (F0 m 340 ls []) := by
              intro fu
              induction fu with
              | zero => intro k hk hfu H locs hP hD hS ls hl; exact absurd hfu (Nat.not_lt_zero _)
              | succ fu ih_340 =>
                intro k hk hfu H locs hP hD hS ls hl
                refine lv_iload (pc := 340) hx hb dL_isWell_340 (lv_at hl 0 rfl) ?_
                refine lv_bipush (pc := 342) (v := 6) hx hb dL_isWell_342 (by decide) ?_
                refine lv_icmp_ge (pc := 344) (tgt := 379) hx hb dL_isWell_344 (by decide) (fun c_4 => ?_) (fun c_4 => ?_)
                · skip
                  have c_4 : 6 ≤ k := (nI_leI (a := 6) (b := k) (by omega) (by omega)).mp c_4
                  refine lv_iload_n (pc := 379) hx hb dL_isWell_379 rfl (lv_at hl 1 rfl) ?_
                  refine lv_if_eq (pc := 380) (tgt := 415) hx hb dL_isWell_380 (by decide) (fun c_5 => ?_) (fun c_5 => ?_)
                  · skip
                    exact absurd c_5 (by decide)
                  · skip
                    refine wj_cut (a := W p l e ({ frames := 6, cells := 1, slots := 6, locals := 127 } : Room) s m ([.ref (ad 0)] : List Value).toArray below meth c H locs (0 + 1) (0 + 6) Q (F0 m 411 ls [])) ?_ (fun J_6 => ?_)
                    · skip
                      refine lv_iconst (pc := 411) (v := 1) hx hb dL_isWell_411 (by decide) ?_
                      refine lv_goto (pc := 412) (tgt := 416) hx hb dL_isWell_412 (by decide) ?_
                      subst hQ
                      exact b_retWZc hx hb hr hlocks rfl hS rfl (b_PL hP) dL_isWell_416
                    · skip
                      refine lv_iload_n (pc := 383) hx hb dL_isWell_383 rfl (lv_at hl 2 rfl) ?_
                      refine lv_if_ne (pc := 384) (tgt := 399) hx hb dL_isWell_384 (by decide) (fun c_7 => ?_) (fun c_7 => ?_)
                      · skip
                        have c_7 : ¬ (((h_bus σ.1 6).2) = 0) := c_7
                        refine lv_aload_n (pc := 399) hx hb dL_isWell_399 rfl (lv_at hl 4 rfl) ?_
                        refine lv_aload_n (pc := 400) hx hb dL_isWell_400 rfl (lv_at hl 4 rfl) ?_
                        refine b_cR (pc := 401) (va_runV (As := []) (rest := [.ref (ad 0)]) ⟨hx, hb, hml, hown, hts⟩ (k_bus l D cI cC cZ cG ad σ ok) (cwV 0 hts gL_isWell_X3_busiest rfl rfl rfl hy_X3_busiest ⟨Nat.le_of_ble_eq_true rfl, Nat.le_of_ble_eq_true rfl⟩) (b_pRc hK (b_PL hP) (hc_0 _ _ _ _ _ _)) rfl rfl hl.1 rfl (lv_room (Nat.le_of_ble_eq_true rfl)) dL_isWell_401 ⟨Nat.le_of_ble_eq_true rfl, Nat.le_of_ble_eq_true rfl⟩) ?_
                        obtain ⟨bz, ez1, ez2, ez3⟩ := w_10 c_7
                        refine b_re (ez2) ?_
                        refine b_cR (pc := 404) (va_runS (As := [.ref (ad 0), .int (nI bz)]) (rest := []) ⟨hx, hb, hml, hown, hts⟩ (c_L_through l D cI cC cZ cG ad σ ok bz (by omega)) (va_cwS 2 hts gL_isWell_L_through rfl rfl rfl hyS_L_through ⟨Nat.le_of_ble_eq_true rfl, Nat.le_of_ble_eq_true rfl⟩) (b_pRs hK (b_PL hP)) rfl rfl hl.1 rfl (lv_room (Nat.le_of_ble_eq_true rfl)) dL_isWell_404 ⟨Nat.le_of_ble_eq_true rfl, Nat.le_of_ble_eq_true rfl⟩) ?_
                        refine lv_iload_n (pc := 407) hx hb dL_isWell_407 rfl (lv_at hl 2 rfl) ?_
                        refine lv_icmp_ne (pc := 408) (tgt := 415) hx hb dL_isWell_408 (by decide) (fun c_8 => ?_) (fun c_8 => ?_)
                        · skip
                          have c_8 : ¬ ((h_thr σ.1 bz) = ((h_bus σ.1 6).2)) := c_8
                          exact absurd (ez3) c_8
                        · skip
                          have c_8 : (h_thr σ.1 bz) = ((h_bus σ.1 6).2) := c_8
                          exact J_6
                      · skip
                        have c_7 : ((h_bus σ.1 6).2) = 0 := c_7
                        refine lv_aload_n (pc := 387) hx hb dL_isWell_387 rfl (lv_at hl 4 rfl) ?_
                        refine b_cR (pc := 388) (va_runV (As := []) (rest := []) ⟨hx, hb, hml, hown, hts⟩ (k_bus l D cI cC cZ cG ad σ ok) (cwV 0 hts gL_isWell_X3_busiest rfl rfl rfl hy_X3_busiest ⟨Nat.le_of_ble_eq_true rfl, Nat.le_of_ble_eq_true rfl⟩) (b_pRc hK (b_PL hP) (hc_0 _ _ _ _ _ _)) rfl rfl hl.1 rfl (lv_room (Nat.le_of_ble_eq_true rfl)) dL_isWell_388 ⟨Nat.le_of_ble_eq_true rfl, Nat.le_of_ble_eq_true rfl⟩) ?_
                        refine lv_bipush (pc := 391) (v := (-6)) hx hb dL_isWell_391 (by decide) ?_
                        refine lv_icmp_ne (pc := 393) (tgt := 415) hx hb dL_isWell_393 (by decide) (fun c_9 => ?_) (fun c_9 => ?_)
                        · skip
                          have c_9 : ¬ (((h_bus σ.1 6).1) = (-6)) := c_9
                          exact absurd (w_9 (by assumption)) c_9
                        · skip
                          have c_9 : ((h_bus σ.1 6).1) = (-6) := c_9
                          refine lv_goto (pc := 396) (tgt := 411) hx hb dL_isWell_396 (by decide) ?_
                          exact J_6
                · skip
                  have c_4 : ¬ (6 ≤ k) := fun h9 => c_4 ((nI_leI (a := 6) (b := k) (by omega) (by omega)).mpr h9)
                  refine lv_iload_n (pc := 347) hx hb dL_isWell_347 rfl (lv_at hl 1 rfl) ?_
                  refine lv_if_eq (pc := 348) (tgt := 371) hx hb dL_isWell_348 (by decide) (fun c_10 => ?_) (fun c_10 => ?_)
                  · skip
                    exact absurd c_10 (by decide)
                  · skip
                    refine lv_aload_n (pc := 351) hx hb dL_isWell_351 rfl (lv_at hl 3 rfl) ?_
                    refine lv_iload (pc := 352) hx hb dL_isWell_352 (lv_at hl 0 rfl) ?_
                    refine b_iald (pc := 354) hx hb hK hP 19 0 rfl rfl k rfl (by omega) (by decide) dL_isWell_354 ?_
                    refine b_re (hS0 k (by omega)) ?_
                    refine lv_aload_n (pc := 355) hx hb dL_isWell_355 rfl (lv_at hl 4 rfl) ?_
                    refine lv_bipush (pc := 356) (v := 8) hx hb dL_isWell_356 (by decide) ?_
                    refine lv_iload (pc := 358) hx hb dL_isWell_358 (lv_at hl 0 rfl) ?_
                    refine lv_iadd (pc := 360) hx hb dL_isWell_360 ?_
                    refine b_re (nI_add 8 k) ?_
                    refine b_cR (pc := 361) (va_runV (As := [.int (nI (8 + k))]) (rest := [.int (h_sum σ.1 (5 + k) 6)]) ⟨hx, hb, hml, hown, hts⟩ (k_count_mid l D cI cC cZ cG ad σ ok (8 + k) (by omega)) (cwV 1 hts gL_isWell_X3_count rfl rfl rfl hy_X3_count ⟨Nat.le_of_ble_eq_true rfl, Nat.le_of_ble_eq_true rfl⟩) (b_pRc hK (b_PL hP) (hc_0 _ _ _ _ _ _)) rfl rfl hl.1 rfl (lv_room (Nat.le_of_ble_eq_true rfl)) dL_isWell_361 ⟨Nat.le_of_ble_eq_true rfl, Nat.le_of_ble_eq_true rfl⟩) ?_
                    refine b_re (show _ = h_sum σ.1 (8 + k - 8 + 5) 6 from rfl) ?_
                    refine lv_icmp_ne (pc := 364) (tgt := 371) hx hb dL_isWell_364 (by decide) (fun c_11 => ?_) (fun c_11 => ?_)
                    · skip
                      have c_11 : ¬ ((h_sum σ.1 (5 + k) 6) = (h_sum σ.1 (8 + k - 8 + 5) 6)) := c_11
                      exact absurd (show h_sum σ.1 (5 + k) 6 = h_sum σ.1 (8 + k - 8 + 5) 6 by rw [show 8 + k - 8 + 5 = 5 + k by omega]) c_11
                    · skip
                      have c_11 : (h_sum σ.1 (5 + k) 6) = (h_sum σ.1 (8 + k - 8 + 5) 6) := c_11
                      refine lv_iconst (pc := 367) (v := 1) hx hb dL_isWell_367 (by decide) ?_
                      refine lv_goto (pc := 368) (tgt := 372) hx hb dL_isWell_368 (by decide) ?_
                      refine lv_istore_n (pc := 372) (lv' := [(3, .int 1), (4, .int (nI k)), (2, .int ((h_bus σ.1 6).2)), (1, .ref qa), (0, .ref (ad 0))]) hx hb dL_isWell_372 rfl hl (by decide) rfl (fun ls hl => ?_)
                      refine lv_iinc (pc := 373) (v := nI (k + 1)) (lv' := [(4, .int (nI (k + 1))), (3, .int 1), (2, .int ((h_bus σ.1 6).2)), (1, .ref qa), (0, .ref (ad 0))]) hx hb dL_isWell_373 hl (k := 1) rfl (nI_add k 1) (by decide) rfl (fun ls hl => ?_)
                      refine lv_goto (pc := 376) (tgt := 340) hx hb dL_isWell_376 (by decide) ?_
                      exact ih_340 (k + 1) (by omega) (by omega) _ _ hP hD hS ls (lv_sub hl [0, 1, 2, 3, 4] rfl)
            exact loop_340 7 0 (Nat.zero_le _) (by omega) _ _ hP hD hS ls (lv_sub hl [0, 1, 2, 3, 4] rfl)
          · skip
            have c_3 : ¬ (6 ≤ g) := fun h9 => c_3 ((nI_leI (a := 6) (b := g) (by omega) (by omega)).mpr h9)
            have hg : g < 6 := by omega
            refine lv_aload_n (pc := 44) hx hb dL_isWell_44 rfl (lv_at hl 4 rfl) ?_
            refine lv_iload (pc := 45) hx hb dL_isWell_45 (lv_at hl 0 rfl) ?_
            refine lv_iconst (pc := 47) (v := 0) hx hb dL_isWell_47 (by decide) ?_
            refine b_cR (pc := 48) (va_runV (As := [.int (nI g), .int 0]) (rest := []) ⟨hx, hb, hml, hown, hts⟩ (k_gate l D cI cC cZ cG ad σ ok g 0 (by omega) (by omega)) (cwV 2 hts gL_isWell_X3_gate rfl rfl rfl hy_X3_gate ⟨Nat.le_of_ble_eq_true rfl, Nat.le_of_ble_eq_true rfl⟩) (b_pRc hK (b_PL hP) (hc_0 _ _ _ _ _ _)) rfl rfl hl.1 rfl (lv_room (Nat.le_of_ble_eq_true rfl)) dL_isWell_48 ⟨Nat.le_of_ble_eq_true rfl, Nat.le_of_ble_eq_true rfl⟩) ?_
            refine b_re (show _ = σ.1 (8 + g * 13 + 0) from rfl) ?_
            refine wj_cut (a := W p l e ({ frames := 6, cells := 1, slots := 6, locals := 127 } : Room) s m ([.ref (ad 0)] : List Value).toArray below meth c H locs (0 + 1) (0 + 6) Q (F0 m 59 ls [.int (w_way σ.1 g)])) ?_ (fun J_12 => ?_)
            · skip
              refine lv_istore (pc := 59) (lv' := [(5, .int (w_way σ.1 g)), (4, .int (nI g)), (3, .int 1), (2, .int ((h_bus σ.1 g).2)), (1, .ref qa), (0, .ref (ad 0))]) hx hb dL_isWell_59 hl (by decide) rfl (fun ls hl => ?_)
              refine lv_iconst (pc := 61) (v := 0) hx hb dL_isWell_61 (by decide) ?_
              refine lv_istore (pc := 62) (lv' := [(6, .int 0), (5, .int (w_way σ.1 g)), (4, .int (nI g)), (3, .int 1), (2, .int ((h_bus σ.1 g).2)), (1, .ref qa), (0, .ref (ad 0))]) hx hb dL_isWell_62 hl (by decide) rfl (fun ls hl => ?_)
              have loop_64 : ∀ (fu : Nat) (k : Nat) (S2 : Nat → Int32), (k ≤ 6) → (∀ j, j < 6 → S2 j = h_sum σ.1 (5 + j) (if j < k then g + 1 else g)) → 6 - k < fu → ∀ (H : Heap) (locs : List Loc), va_P D vwCl (hc cI cC cZ cG ad σ ++ [(qa, .inl (cI, 6, .inl S2))]) H → va_D A (hc cI cC cZ cG ad σ ++ [(qa, .inl (cI, 6, .inl S2))]) → va_S A s.heap H locs → ∀ (ls : Array Slot), lv_has ls 7 [(6, .int (nI k)), (5, .int (w_way σ.1 g)), (4, .int (nI g)), (3, .int 1), (2, .int ((h_bus σ.1 g).2)), (1, .ref qa), (0, .ref (ad 0))] → W p l e ({ frames := 6, cells := 1, slots := 6, locals := 127 } : Room) s m ([.ref (ad 0)] : List Value).toArray below meth c H locs (0 + 1) (0 + 6) Q (F0 m 64 ls []) := by
                intro fu
                induction fu with
                | zero => intro k S2 hk hS2 hfu H locs hP hD hS ls hl; exact absurd hfu (Nat.not_lt_zero _)
                | succ fu ih_64 =>
                  intro k S2 hk hS2 hfu H locs hP hD hS ls hl
                  refine lv_iload (pc := 64) hx hb dL_isWell_64 (lv_at hl 0 rfl) ?_
                  refine lv_bipush (pc := 66) (v := 6) hx hb dL_isWell_66 (by decide) ?_
                  refine lv_icmp_ge (pc := 68) (tgt := 94) hx hb dL_isWell_68 (by decide) (fun c_13 => ?_) (fun c_13 => ?_)
                  · skip
                    have c_13 : 6 ≤ k := (nI_leI (a := 6) (b := k) (by omega) (by omega)).mp c_13
                    have hS3 : ∀ j, j < 6 → S2 j = h_sum σ.1 (5 + j) (g + 1) := fun j hj => by rw [hS2 j hj, if_pos (by omega)]
                    have hg : g < 6 := by omega
                    refine wj_cut (a := W p l e ({ frames := 6, cells := 1, slots := 6, locals := 127 } : Room) s m ([.ref (ad 0)] : List Value).toArray below meth c H locs (0 + 1) (0 + 6) Q (F0 m 114 ls [.int ((h_bus σ.1 (g + 1)).2)])) ?_ (fun J_14 => ?_)
                    · skip
                      refine lv_istore_n (pc := 114) (lv' := [(2, .int ((h_bus σ.1 (g + 1)).2)), (6, .int (nI k)), (5, .int (w_way σ.1 g)), (4, .int (nI g)), (3, .int 1), (1, .ref qa), (0, .ref (ad 0))]) hx hb dL_isWell_114 rfl hl (by decide) rfl (fun ls hl => ?_)
                      refine lv_iload_n (pc := 115) hx hb dL_isWell_115 rfl (lv_at hl 4 rfl) ?_
                      refine lv_if_eq (pc := 116) (tgt := 329) hx hb dL_isWell_116 (by decide) (fun c_15 => ?_) (fun c_15 => ?_)
                      · skip
                        exact absurd c_15 (by decide)
                      · skip
                        refine lv_iload (pc := 119) hx hb dL_isWell_119 (lv_at hl 2 rfl) ?_
                        refine wj_cut (a := W p l e ({ frames := 6, cells := 1, slots := 6, locals := 127 } : Room) s m ([.ref (ad 0)] : List Value).toArray below meth c H locs (0 + 1) (0 + 6) Q (F0 m 138 ls [.int (if h_tell σ.1 g 1 = -6 then 0 else 1), .int (w_way σ.1 g)])) ?_ (fun J_16 => ?_)
                        · skip
                          refine lv_icmp_ne (pc := 138) (tgt := 329) hx hb dL_isWell_138 (by decide) (fun c_17 => ?_) (fun c_17 => ?_)
                          · skip
                            have c_17 : ¬ ((w_way σ.1 g) = (if h_tell σ.1 g 1 = -6 then 0 else 1)) := c_17
                            exact absurd (w_1 hg hI) c_17
                          · skip
                            have c_17 : (w_way σ.1 g) = (if h_tell σ.1 g 1 = -6 then 0 else 1) := c_17
                            refine lv_iload (pc := 141) hx hb dL_isWell_141 (lv_at hl 2 rfl) ?_
                            refine wj_cut (a := W p l e ({ frames := 6, cells := 1, slots := 6, locals := 127 } : Room) s m ([.ref (ad 0)] : List Value).toArray below meth c H locs (0 + 1) (0 + 6) Q (F0 m 163 ls [.int (if ((h_um σ.1 6 >>> (nI g &&& 31)) &&& 1) = 1 then 1 else 0), .int (w_way σ.1 g)])) ?_ (fun J_18 => ?_)
                            · skip
                              refine lv_icmp_ne (pc := 163) (tgt := 329) hx hb dL_isWell_163 (by decide) (fun c_19 => ?_) (fun c_19 => ?_)
                              · skip
                                have c_19 : ¬ ((w_way σ.1 g) = (if ((h_um σ.1 6 >>> (nI g &&& 31)) &&& 1) = 1 then 1 else 0)) := c_19
                                exact absurd (w_2 hg) c_19
                              · skip
                                have c_19 : (w_way σ.1 g) = (if ((h_um σ.1 6 >>> (nI g &&& 31)) &&& 1) = 1 then 1 else 0) := c_19
                                refine lv_aload_n (pc := 166) hx hb dL_isWell_166 rfl (lv_at hl 6 rfl) ?_
                                refine lv_bipush (pc := 167) (v := 14) hx hb dL_isWell_167 (by decide) ?_
                                refine b_cR (pc := 169) (va_runV (As := [.int 14]) (rest := []) ⟨hx, hb, hml, hown, hts⟩ (k_count_14 l D cI cC cZ cG ad σ ok) (cwV 1 hts gL_isWell_X3_count rfl rfl rfl hy_X3_count ⟨Nat.le_of_ble_eq_true rfl, Nat.le_of_ble_eq_true rfl⟩) (b_pRc hK (b_PL hP) (hc_0 _ _ _ _ _ _)) rfl rfl hl.1 rfl (lv_room (Nat.le_of_ble_eq_true rfl)) dL_isWell_169 ⟨Nat.le_of_ble_eq_true rfl, Nat.le_of_ble_eq_true rfl⟩) ?_
                                refine lv_iload (pc := 172) hx hb dL_isWell_172 (lv_at hl 3 rfl) ?_
                                refine lv_ishr (pc := 174) hx hb dL_isWell_174 ?_
                                refine lv_iconst (pc := 175) (v := 1) hx hb dL_isWell_175 (by decide) ?_
                                refine lv_iand (pc := 176) hx hb dL_isWell_176 ?_
                                refine lv_aload_n (pc := 177) hx hb dL_isWell_177 rfl (lv_at hl 6 rfl) ?_
                                refine lv_iload (pc := 178) hx hb dL_isWell_178 (lv_at hl 3 rfl) ?_
                                refine lv_iconst (pc := 180) (v := 4) hx hb dL_isWell_180 (by decide) ?_
                                refine b_cR (pc := 181) (va_runV (As := [.int (nI g), .int 4]) (rest := [.int (((h_bm σ.1 6) >>> ((nI g) &&& 31)) &&& 1)]) ⟨hx, hb, hml, hown, hts⟩ (k_gate l D cI cC cZ cG ad σ ok g 4 (by omega) (by omega)) (cwV 2 hts gL_isWell_X3_gate rfl rfl rfl hy_X3_gate ⟨Nat.le_of_ble_eq_true rfl, Nat.le_of_ble_eq_true rfl⟩) (b_pRc hK (b_PL hP) (hc_0 _ _ _ _ _ _)) rfl rfl hl.1 rfl (lv_room (Nat.le_of_ble_eq_true rfl)) dL_isWell_181 ⟨Nat.le_of_ble_eq_true rfl, Nat.le_of_ble_eq_true rfl⟩) ?_
                                refine lv_icmp_ne (pc := 184) (tgt := 329) hx hb dL_isWell_184 (by decide) (fun c_20 => ?_) (fun c_20 => ?_)
                                · skip
                                  have c_20 : ¬ ((((h_bm σ.1 6) >>> ((nI g) &&& 31)) &&& 1) = (h_tell σ.1 g 4)) := c_20
                                  exact absurd (w_3 hg) c_20
                                · skip
                                  have c_20 : (((h_bm σ.1 6) >>> ((nI g) &&& 31)) &&& 1) = (h_tell σ.1 g 4) := c_20
                                  refine wj_cut (a := W p l e ({ frames := 6, cells := 1, slots := 6, locals := 127 } : Room) s m ([.ref (ad 0)] : List Value).toArray below meth c H locs (0 + 1) (0 + 6) Q (F0 m 228 ls [])) ?_ (fun J_21 => ?_)
                                  · skip
                                    refine wj_cut (a := W p l e ({ frames := 6, cells := 1, slots := 6, locals := 127 } : Room) s m ([.ref (ad 0)] : List Value).toArray below meth c H locs (0 + 1) (0 + 6) Q (F0 m 243 ls [])) ?_ (fun J_22 => ?_)
                                    · skip
                                      refine wj_cut (a := W p l e ({ frames := 6, cells := 1, slots := 6, locals := 127 } : Room) s m ([.ref (ad 0)] : List Value).toArray below meth c H locs (0 + 1) (0 + 6) Q (F0 m 261 ls [.int (if h_tell σ.1 g 12 = -6 then (1 : Int32) else 0)])) ?_ (fun J_23 => ?_)
                                      · skip
                                        refine wj_cut (a := W p l e ({ frames := 6, cells := 1, slots := 6, locals := 127 } : Room) s m ([.ref (ad 0)] : List Value).toArray below meth c H locs (0 + 1) (0 + 6) Q (F0 m 275 ls [.int (if h_thr σ.1 g = 0 then 1 else 0), .int (if h_tell σ.1 g 12 = -6 then (1 : Int32) else 0)])) ?_ (fun J_24 => ?_)
                                        · skip
                                          refine lv_icmp_ne (pc := 275) (tgt := 329) hx hb dL_isWell_275 (by decide) (fun c_25 => ?_) (fun c_25 => ?_)
                                          · skip
                                            have c_25 : ¬ ((if h_tell σ.1 g 12 = -6 then (1 : Int32) else 0) = (if h_thr σ.1 g = 0 then 1 else 0)) := c_25
                                            exact absurd (w_6 hg hN hI) c_25
                                          · skip
                                            have c_25 : (if h_tell σ.1 g 12 = -6 then (1 : Int32) else 0) = (if h_thr σ.1 g = 0 then 1 else 0) := c_25
                                            refine lv_aload_n (pc := 278) hx hb dL_isWell_278 rfl (lv_at hl 6 rfl) ?_
                                            refine lv_iload (pc := 279) hx hb dL_isWell_279 (lv_at hl 3 rfl) ?_
                                            refine lv_bipush (pc := 281) (v := 10) hx hb dL_isWell_281 (by decide) ?_
                                            refine b_cR (pc := 283) (va_runV (As := [.int (nI g), .int 10]) (rest := []) ⟨hx, hb, hml, hown, hts⟩ (k_gate l D cI cC cZ cG ad σ ok g 10 (by omega) (by omega)) (cwV 2 hts gL_isWell_X3_gate rfl rfl rfl hy_X3_gate ⟨Nat.le_of_ble_eq_true rfl, Nat.le_of_ble_eq_true rfl⟩) (b_pRc hK (b_PL hP) (hc_0 _ _ _ _ _ _)) rfl rfl hl.1 rfl (lv_room (Nat.le_of_ble_eq_true rfl)) dL_isWell_283 ⟨Nat.le_of_ble_eq_true rfl, Nat.le_of_ble_eq_true rfl⟩) ?_
                                            refine lv_aload_n (pc := 286) hx hb dL_isWell_286 rfl (lv_at hl 6 rfl) ?_
                                            refine lv_iload (pc := 287) hx hb dL_isWell_287 (lv_at hl 3 rfl) ?_
                                            refine b_cR (pc := 289) (va_runS (As := [.ref (ad 0), .int (nI g)]) (rest := [.int (h_tell σ.1 g 10)]) ⟨hx, hb, hml, hown, hts⟩ (c_L_through l D cI cC cZ cG ad σ ok g (by omega)) (va_cwS 2 hts gL_isWell_L_through rfl rfl rfl hyS_L_through ⟨Nat.le_of_ble_eq_true rfl, Nat.le_of_ble_eq_true rfl⟩) (b_pRs hK (b_PL hP)) rfl rfl hl.1 rfl (lv_room (Nat.le_of_ble_eq_true rfl)) dL_isWell_289 ⟨Nat.le_of_ble_eq_true rfl, Nat.le_of_ble_eq_true rfl⟩) ?_
                                            refine lv_icmp_gt (pc := 292) (tgt := 329) hx hb dL_isWell_292 (by decide) (fun c_26 => ?_) (fun c_26 => ?_)
                                            · skip
                                              have c_26 : (h_thr σ.1 g) < (h_tell σ.1 g 10) := c_26
                                              exact absurd c_26 (w_7 hg hN hI)
                                            · skip
                                              have c_26 : ¬ ((h_thr σ.1 g) < (h_tell σ.1 g 10)) := c_26
                                              refine wj_cut (a := W p l e ({ frames := 6, cells := 1, slots := 6, locals := 127 } : Room) s m ([.ref (ad 0)] : List Value).toArray below meth c H locs (0 + 1) (0 + 6) Q (F0 m 325 ls [])) ?_ (fun J_27 => ?_)
                                              · skip
                                                refine lv_iconst (pc := 325) (v := 1) hx hb dL_isWell_325 (by decide) ?_
                                                refine lv_goto (pc := 326) (tgt := 330) hx hb dL_isWell_326 (by decide) ?_
                                                refine lv_istore_n (pc := 330) (lv' := [(3, .int 1), (2, .int ((h_bus σ.1 (g + 1)).2)), (6, .int (nI k)), (5, .int (w_way σ.1 g)), (4, .int (nI g)), (1, .ref qa), (0, .ref (ad 0))]) hx hb dL_isWell_330 rfl hl (by decide) rfl (fun ls hl => ?_)
                                                refine lv_iinc (pc := 331) (v := nI (g + 1)) (lv' := [(4, .int (nI (g + 1))), (3, .int 1), (2, .int ((h_bus σ.1 (g + 1)).2)), (6, .int (nI k)), (5, .int (w_way σ.1 g)), (1, .ref qa), (0, .ref (ad 0))]) hx hb dL_isWell_331 hl (k := 4) rfl (nI_add g 1) (by decide) rfl (fun ls hl => ?_)
                                                refine lv_goto (pc := 334) (tgt := 37) hx hb dL_isWell_334 (by decide) ?_
                                                exact ih_37 (g + 1) S2 (by omega) hS3 (by omega) _ _ hP hD hS ls (lv_sub hl [0, 1, 2, 5, 6] rfl)
                                              · skip
                                                refine lv_aload_n (pc := 295) hx hb dL_isWell_295 rfl (lv_at hl 6 rfl) ?_
                                                refine lv_iload (pc := 296) hx hb dL_isWell_296 (lv_at hl 3 rfl) ?_
                                                refine lv_iconst (pc := 298) (v := 3) hx hb dL_isWell_298 (by decide) ?_
                                                refine b_cR (pc := 299) (va_runV (As := [.int (nI g), .int 3]) (rest := []) ⟨hx, hb, hml, hown, hts⟩ (k_gate l D cI cC cZ cG ad σ ok g 3 (by omega) (by omega)) (cwV 2 hts gL_isWell_X3_gate rfl rfl rfl hy_X3_gate ⟨Nat.le_of_ble_eq_true rfl, Nat.le_of_ble_eq_true rfl⟩) (b_pRc hK (b_PL hP) (hc_0 _ _ _ _ _ _)) rfl rfl hl.1 rfl (lv_room (Nat.le_of_ble_eq_true rfl)) dL_isWell_299 ⟨Nat.le_of_ble_eq_true rfl, Nat.le_of_ble_eq_true rfl⟩) ?_
                                                refine lv_iconst (pc := 302) (v := 1) hx hb dL_isWell_302 (by decide) ?_
                                                refine lv_icmp_ne (pc := 303) (tgt := 325) hx hb dL_isWell_303 (by decide) (fun c_28 => ?_) (fun c_28 => ?_)
                                                · skip
                                                  have c_28 : ¬ ((h_tell σ.1 g 3) = 1) := c_28
                                                  exact J_27
                                                · skip
                                                  have c_28 : (h_tell σ.1 g 3) = 1 := c_28
                                                  refine lv_aload_n (pc := 306) hx hb dL_isWell_306 rfl (lv_at hl 6 rfl) ?_
                                                  refine lv_iload (pc := 307) hx hb dL_isWell_307 (lv_at hl 3 rfl) ?_
                                                  refine lv_iconst (pc := 309) (v := 2) hx hb dL_isWell_309 (by decide) ?_
                                                  refine b_cR (pc := 310) (va_runV (As := [.int (nI g), .int 2]) (rest := []) ⟨hx, hb, hml, hown, hts⟩ (k_gate l D cI cC cZ cG ad σ ok g 2 (by omega) (by omega)) (cwV 2 hts gL_isWell_X3_gate rfl rfl rfl hy_X3_gate ⟨Nat.le_of_ble_eq_true rfl, Nat.le_of_ble_eq_true rfl⟩) (b_pRc hK (b_PL hP) (hc_0 _ _ _ _ _ _)) rfl rfl hl.1 rfl (lv_room (Nat.le_of_ble_eq_true rfl)) dL_isWell_310 ⟨Nat.le_of_ble_eq_true rfl, Nat.le_of_ble_eq_true rfl⟩) ?_
                                                  refine lv_iconst (pc := 313) (v := 3) hx hb dL_isWell_313 (by decide) ?_
                                                  refine lv_iand (pc := 314) hx hb dL_isWell_314 ?_
                                                  refine lv_aload_n (pc := 315) hx hb dL_isWell_315 rfl (lv_at hl 6 rfl) ?_
                                                  refine lv_iload (pc := 316) hx hb dL_isWell_316 (lv_at hl 3 rfl) ?_
                                                  refine lv_iconst (pc := 318) (v := 0) hx hb dL_isWell_318 (by decide) ?_
                                                  refine b_cR (pc := 319) (va_runV (As := [.int (nI g), .int 0]) (rest := [.int ((h_tell σ.1 g 2) &&& 3)]) ⟨hx, hb, hml, hown, hts⟩ (k_gate l D cI cC cZ cG ad σ ok g 0 (by omega) (by omega)) (cwV 2 hts gL_isWell_X3_gate rfl rfl rfl hy_X3_gate ⟨Nat.le_of_ble_eq_true rfl, Nat.le_of_ble_eq_true rfl⟩) (b_pRc hK (b_PL hP) (hc_0 _ _ _ _ _ _)) rfl rfl hl.1 rfl (lv_room (Nat.le_of_ble_eq_true rfl)) dL_isWell_319 ⟨Nat.le_of_ble_eq_true rfl, Nat.le_of_ble_eq_true rfl⟩) ?_
                                                  refine b_re (show _ = σ.1 (8 + g * 13 + 0) from rfl) ?_
                                                  refine lv_icmp_ne (pc := 322) (tgt := 329) hx hb dL_isWell_322 (by decide) (fun c_29 => ?_) (fun c_29 => ?_)
                                                  · skip
                                                    have c_29 : ¬ (((h_tell σ.1 g 2) &&& 3) = (σ.1 (8 + g * 13 + 0))) := c_29
                                                    exact absurd (w_8 hg hI (by assumption)) c_29
                                                  · skip
                                                    have c_29 : ((h_tell σ.1 g 2) &&& 3) = (σ.1 (8 + g * 13 + 0)) := c_29
                                                    exact J_27
                                        · skip
                                          refine lv_aload_n (pc := 261) hx hb dL_isWell_261 rfl (lv_at hl 6 rfl) ?_
                                          refine lv_iload (pc := 262) hx hb dL_isWell_262 (lv_at hl 3 rfl) ?_
                                          refine b_cR (pc := 264) (va_runS (As := [.ref (ad 0), .int (nI g)]) (rest := [.int (if h_tell σ.1 g 12 = -6 then (1 : Int32) else 0)]) ⟨hx, hb, hml, hown, hts⟩ (c_L_through l D cI cC cZ cG ad σ ok g (by omega)) (va_cwS 2 hts gL_isWell_L_through rfl rfl rfl hyS_L_through ⟨Nat.le_of_ble_eq_true rfl, Nat.le_of_ble_eq_true rfl⟩) (b_pRs hK (b_PL hP)) rfl rfl hl.1 rfl (lv_room (Nat.le_of_ble_eq_true rfl)) dL_isWell_264 ⟨Nat.le_of_ble_eq_true rfl, Nat.le_of_ble_eq_true rfl⟩) ?_
                                          refine lv_if_ne (pc := 267) (tgt := 274) hx hb dL_isWell_267 (by decide) (fun c_30 => ?_) (fun c_30 => ?_)
                                          · skip
                                            have c_30 : ¬ ((h_thr σ.1 g) = 0) := c_30
                                            refine lv_iconst (pc := 274) (v := 0) hx hb dL_isWell_274 (by decide) ?_
                                            exact b_re (by rw [if_neg c_30]) J_24
                                          · skip
                                            have c_30 : (h_thr σ.1 g) = 0 := c_30
                                            refine lv_iconst (pc := 270) (v := 1) hx hb dL_isWell_270 (by decide) ?_
                                            refine lv_goto (pc := 271) (tgt := 275) hx hb dL_isWell_271 (by decide) ?_
                                            exact b_re (by rw [if_pos c_30]) J_24
                                      · skip
                                        refine lv_aload_n (pc := 243) hx hb dL_isWell_243 rfl (lv_at hl 6 rfl) ?_
                                        refine lv_iload (pc := 244) hx hb dL_isWell_244 (lv_at hl 3 rfl) ?_
                                        refine lv_bipush (pc := 246) (v := 12) hx hb dL_isWell_246 (by decide) ?_
                                        refine b_cR (pc := 248) (va_runV (As := [.int (nI g), .int 12]) (rest := []) ⟨hx, hb, hml, hown, hts⟩ (k_gate l D cI cC cZ cG ad σ ok g 12 (by omega) (by omega)) (cwV 2 hts gL_isWell_X3_gate rfl rfl rfl hy_X3_gate ⟨Nat.le_of_ble_eq_true rfl, Nat.le_of_ble_eq_true rfl⟩) (b_pRc hK (b_PL hP) (hc_0 _ _ _ _ _ _)) rfl rfl hl.1 rfl (lv_room (Nat.le_of_ble_eq_true rfl)) dL_isWell_248 ⟨Nat.le_of_ble_eq_true rfl, Nat.le_of_ble_eq_true rfl⟩) ?_
                                        refine lv_bipush (pc := 251) (v := (-6)) hx hb dL_isWell_251 (by decide) ?_
                                        refine lv_icmp_ne (pc := 253) (tgt := 260) hx hb dL_isWell_253 (by decide) (fun c_31 => ?_) (fun c_31 => ?_)
                                        · skip
                                          have c_31 : ¬ ((h_tell σ.1 g 12) = (-6)) := c_31
                                          refine lv_iconst (pc := 260) (v := 0) hx hb dL_isWell_260 (by decide) ?_
                                          exact b_re (by rw [if_neg c_31]) J_23
                                        · skip
                                          have c_31 : (h_tell σ.1 g 12) = (-6) := c_31
                                          refine lv_iconst (pc := 256) (v := 1) hx hb dL_isWell_256 (by decide) ?_
                                          refine lv_goto (pc := 257) (tgt := 261) hx hb dL_isWell_257 (by decide) ?_
                                          exact b_re (by rw [if_pos c_31]) J_23
                                    · skip
                                      refine lv_iload (pc := 228) hx hb dL_isWell_228 (lv_at hl 2 rfl) ?_
                                      refine lv_if_ne (pc := 230) (tgt := 243) hx hb dL_isWell_230 (by decide) (fun c_32 => ?_) (fun c_32 => ?_)
                                      · skip
                                        have c_32 : ¬ ((w_way σ.1 g) = 0) := c_32
                                        exact J_22
                                      · skip
                                        have c_32 : (w_way σ.1 g) = 0 := c_32
                                        refine lv_aload_n (pc := 233) hx hb dL_isWell_233 rfl (lv_at hl 6 rfl) ?_
                                        refine lv_iload (pc := 234) hx hb dL_isWell_234 (lv_at hl 3 rfl) ?_
                                        refine lv_iconst (pc := 236) (v := 4) hx hb dL_isWell_236 (by decide) ?_
                                        refine b_cR (pc := 237) (va_runV (As := [.int (nI g), .int 4]) (rest := []) ⟨hx, hb, hml, hown, hts⟩ (k_gate l D cI cC cZ cG ad σ ok g 4 (by omega) (by omega)) (cwV 2 hts gL_isWell_X3_gate rfl rfl rfl hy_X3_gate ⟨Nat.le_of_ble_eq_true rfl, Nat.le_of_ble_eq_true rfl⟩) (b_pRc hK (b_PL hP) (hc_0 _ _ _ _ _ _)) rfl rfl hl.1 rfl (lv_room (Nat.le_of_ble_eq_true rfl)) dL_isWell_237 ⟨Nat.le_of_ble_eq_true rfl, Nat.le_of_ble_eq_true rfl⟩) ?_
                                        refine lv_if_ne (pc := 240) (tgt := 329) hx hb dL_isWell_240 (by decide) (fun c_33 => ?_) (fun c_33 => ?_)
                                        · skip
                                          have c_33 : ¬ ((h_tell σ.1 g 4) = 0) := c_33
                                          exact absurd (w_5 (by assumption)) c_33
                                        · skip
                                          have c_33 : (h_tell σ.1 g 4) = 0 := c_33
                                          exact J_22
                                  · skip
                                    refine lv_iload (pc := 187) hx hb dL_isWell_187 (lv_at hl 2 rfl) ?_
                                    refine lv_if_eq (pc := 189) (tgt := 228) hx hb dL_isWell_189 (by decide) (fun c_34 => ?_) (fun c_34 => ?_)
                                    · skip
                                      have c_34 : (w_way σ.1 g) = 0 := c_34
                                      exact J_21
                                    · skip
                                      have c_34 : ¬ ((w_way σ.1 g) = 0) := c_34
                                      refine lv_aload_n (pc := 192) hx hb dL_isWell_192 rfl (lv_at hl 6 rfl) ?_
                                      refine lv_iload (pc := 193) hx hb dL_isWell_193 (lv_at hl 3 rfl) ?_
                                      refine lv_iconst (pc := 195) (v := 4) hx hb dL_isWell_195 (by decide) ?_
                                      refine b_cR (pc := 196) (va_runV (As := [.int (nI g), .int 4]) (rest := []) ⟨hx, hb, hml, hown, hts⟩ (k_gate l D cI cC cZ cG ad σ ok g 4 (by omega) (by omega)) (cwV 2 hts gL_isWell_X3_gate rfl rfl rfl hy_X3_gate ⟨Nat.le_of_ble_eq_true rfl, Nat.le_of_ble_eq_true rfl⟩) (b_pRc hK (b_PL hP) (hc_0 _ _ _ _ _ _)) rfl rfl hl.1 rfl (lv_room (Nat.le_of_ble_eq_true rfl)) dL_isWell_196 ⟨Nat.le_of_ble_eq_true rfl, Nat.le_of_ble_eq_true rfl⟩) ?_
                                      refine wj_cut (a := W p l e ({ frames := 6, cells := 1, slots := 6, locals := 127 } : Room) s m ([.ref (ad 0)] : List Value).toArray below meth c H locs (0 + 1) (0 + 6) Q (F0 m 225 ls [.int (if σ.1 3 - h_tell σ.1 g 1 < σ.1 0 then 0 else 1), .int (h_tell σ.1 g 4)])) ?_ (fun J_35 => ?_)
                                      · skip
                                        refine lv_icmp_ne (pc := 225) (tgt := 329) hx hb dL_isWell_225 (by decide) (fun c_36 => ?_) (fun c_36 => ?_)
                                        · skip
                                          have c_36 : ¬ ((h_tell σ.1 g 4) = (if σ.1 3 - h_tell σ.1 g 1 < σ.1 0 then 0 else 1)) := c_36
                                          exact absurd (w_4 (by assumption)) c_36
                                        · skip
                                          have c_36 : (h_tell σ.1 g 4) = (if σ.1 3 - h_tell σ.1 g 1 < σ.1 0 then 0 else 1) := c_36
                                          exact J_21
                                      · skip
                                        refine lv_aload_n (pc := 199) hx hb dL_isWell_199 rfl (lv_at hl 6 rfl) ?_
                                        refine lv_iconst (pc := 200) (v := 3) hx hb dL_isWell_200 (by decide) ?_
                                        refine b_cR (pc := 201) (va_runV (As := [.int 3]) (rest := [.int (h_tell σ.1 g 4)]) ⟨hx, hb, hml, hown, hts⟩ (k_count_lo l D cI cC cZ cG ad σ ok 3 (by omega)) (cwV 1 hts gL_isWell_X3_count rfl rfl rfl hy_X3_count ⟨Nat.le_of_ble_eq_true rfl, Nat.le_of_ble_eq_true rfl⟩) (b_pRc hK (b_PL hP) (hc_0 _ _ _ _ _ _)) rfl rfl hl.1 rfl (lv_room (Nat.le_of_ble_eq_true rfl)) dL_isWell_201 ⟨Nat.le_of_ble_eq_true rfl, Nat.le_of_ble_eq_true rfl⟩) ?_
                                        refine lv_aload_n (pc := 204) hx hb dL_isWell_204 rfl (lv_at hl 6 rfl) ?_
                                        refine lv_iload (pc := 205) hx hb dL_isWell_205 (lv_at hl 3 rfl) ?_
                                        refine lv_iconst (pc := 207) (v := 1) hx hb dL_isWell_207 (by decide) ?_
                                        refine b_cR (pc := 208) (va_runV (As := [.int (nI g), .int 1]) (rest := [.int (σ.1 3), .int (h_tell σ.1 g 4)]) ⟨hx, hb, hml, hown, hts⟩ (k_gate l D cI cC cZ cG ad σ ok g 1 (by omega) (by omega)) (cwV 2 hts gL_isWell_X3_gate rfl rfl rfl hy_X3_gate ⟨Nat.le_of_ble_eq_true rfl, Nat.le_of_ble_eq_true rfl⟩) (b_pRc hK (b_PL hP) (hc_0 _ _ _ _ _ _)) rfl rfl hl.1 rfl (lv_room (Nat.le_of_ble_eq_true rfl)) dL_isWell_208 ⟨Nat.le_of_ble_eq_true rfl, Nat.le_of_ble_eq_true rfl⟩) ?_
                                        refine lv_isub (pc := 211) hx hb dL_isWell_211 ?_
                                        refine lv_aload_n (pc := 212) hx hb dL_isWell_212 rfl (lv_at hl 6 rfl) ?_
                                        refine lv_iconst (pc := 213) (v := 0) hx hb dL_isWell_213 (by decide) ?_
                                        refine b_cR (pc := 214) (va_runV (As := [.int 0]) (rest := [.int ((σ.1 3) - (h_tell σ.1 g 1)), .int (h_tell σ.1 g 4)]) ⟨hx, hb, hml, hown, hts⟩ (k_count_lo l D cI cC cZ cG ad σ ok 0 (by omega)) (cwV 1 hts gL_isWell_X3_count rfl rfl rfl hy_X3_count ⟨Nat.le_of_ble_eq_true rfl, Nat.le_of_ble_eq_true rfl⟩) (b_pRc hK (b_PL hP) (hc_0 _ _ _ _ _ _)) rfl rfl hl.1 rfl (lv_room (Nat.le_of_ble_eq_true rfl)) dL_isWell_214 ⟨Nat.le_of_ble_eq_true rfl, Nat.le_of_ble_eq_true rfl⟩) ?_
                                        refine lv_icmp_lt (pc := 217) (tgt := 224) hx hb dL_isWell_217 (by decide) (fun c_37 => ?_) (fun c_37 => ?_)
                                        · skip
                                          have c_37 : ((σ.1 3) - (h_tell σ.1 g 1)) < (σ.1 0) := c_37
                                          refine lv_iconst (pc := 224) (v := 0) hx hb dL_isWell_224 (by decide) ?_
                                          exact b_re (by rw [if_pos c_37]) J_35
                                        · skip
                                          have c_37 : ¬ (((σ.1 3) - (h_tell σ.1 g 1)) < (σ.1 0)) := c_37
                                          refine lv_iconst (pc := 220) (v := 1) hx hb dL_isWell_220 (by decide) ?_
                                          refine lv_goto (pc := 221) (tgt := 225) hx hb dL_isWell_221 (by decide) ?_
                                          exact b_re (by rw [if_neg c_37]) J_35
                            · skip
                              refine lv_aload_n (pc := 143) hx hb dL_isWell_143 rfl (lv_at hl 6 rfl) ?_
                              refine lv_bipush (pc := 144) (v := 15) hx hb dL_isWell_144 (by decide) ?_
                              refine b_cR (pc := 146) (va_runV (As := [.int 15]) (rest := [.int (w_way σ.1 g)]) ⟨hx, hb, hml, hown, hts⟩ (k_count_15 l D cI cC cZ cG ad σ ok) (cwV 1 hts gL_isWell_X3_count rfl rfl rfl hy_X3_count ⟨Nat.le_of_ble_eq_true rfl, Nat.le_of_ble_eq_true rfl⟩) (b_pRc hK (b_PL hP) (hc_0 _ _ _ _ _ _)) rfl rfl hl.1 rfl (lv_room (Nat.le_of_ble_eq_true rfl)) dL_isWell_146 ⟨Nat.le_of_ble_eq_true rfl, Nat.le_of_ble_eq_true rfl⟩) ?_
                              refine lv_iload (pc := 149) hx hb dL_isWell_149 (lv_at hl 3 rfl) ?_
                              refine lv_ishr (pc := 151) hx hb dL_isWell_151 ?_
                              refine lv_iconst (pc := 152) (v := 1) hx hb dL_isWell_152 (by decide) ?_
                              refine lv_iand (pc := 153) hx hb dL_isWell_153 ?_
                              refine lv_iconst (pc := 154) (v := 1) hx hb dL_isWell_154 (by decide) ?_
                              refine lv_icmp_ne (pc := 155) (tgt := 162) hx hb dL_isWell_155 (by decide) (fun c_38 => ?_) (fun c_38 => ?_)
                              · skip
                                have c_38 : ¬ ((((h_um σ.1 6) >>> ((nI g) &&& 31)) &&& 1) = 1) := c_38
                                refine lv_iconst (pc := 162) (v := 0) hx hb dL_isWell_162 (by decide) ?_
                                exact b_re (by rw [if_neg c_38]) J_18
                              · skip
                                have c_38 : (((h_um σ.1 6) >>> ((nI g) &&& 31)) &&& 1) = 1 := c_38
                                refine lv_iconst (pc := 158) (v := 1) hx hb dL_isWell_158 (by decide) ?_
                                refine lv_goto (pc := 159) (tgt := 163) hx hb dL_isWell_159 (by decide) ?_
                                exact b_re (by rw [if_pos c_38]) J_18
                        · skip
                          refine lv_aload_n (pc := 121) hx hb dL_isWell_121 rfl (lv_at hl 6 rfl) ?_
                          refine lv_iload (pc := 122) hx hb dL_isWell_122 (lv_at hl 3 rfl) ?_
                          refine lv_iconst (pc := 124) (v := 1) hx hb dL_isWell_124 (by decide) ?_
                          refine b_cR (pc := 125) (va_runV (As := [.int (nI g), .int 1]) (rest := [.int (w_way σ.1 g)]) ⟨hx, hb, hml, hown, hts⟩ (k_gate l D cI cC cZ cG ad σ ok g 1 (by omega) (by omega)) (cwV 2 hts gL_isWell_X3_gate rfl rfl rfl hy_X3_gate ⟨Nat.le_of_ble_eq_true rfl, Nat.le_of_ble_eq_true rfl⟩) (b_pRc hK (b_PL hP) (hc_0 _ _ _ _ _ _)) rfl rfl hl.1 rfl (lv_room (Nat.le_of_ble_eq_true rfl)) dL_isWell_125 ⟨Nat.le_of_ble_eq_true rfl, Nat.le_of_ble_eq_true rfl⟩) ?_
                          refine lv_bipush (pc := 128) (v := (-6)) hx hb dL_isWell_128 (by decide) ?_
                          refine lv_icmp_eq (pc := 130) (tgt := 137) hx hb dL_isWell_130 (by decide) (fun c_39 => ?_) (fun c_39 => ?_)
                          · skip
                            have c_39 : (h_tell σ.1 g 1) = (-6) := c_39
                            refine lv_iconst (pc := 137) (v := 0) hx hb dL_isWell_137 (by decide) ?_
                            exact b_re (by rw [if_pos c_39]) J_16
                          · skip
                            have c_39 : ¬ ((h_tell σ.1 g 1) = (-6)) := c_39
                            refine lv_iconst (pc := 133) (v := 1) hx hb dL_isWell_133 (by decide) ?_
                            refine lv_goto (pc := 134) (tgt := 138) hx hb dL_isWell_134 (by decide) ?_
                            exact b_re (by rw [if_neg c_39]) J_16
                    · skip
                      refine lv_aload_n (pc := 94) hx hb dL_isWell_94 rfl (lv_at hl 6 rfl) ?_
                      refine lv_iload (pc := 95) hx hb dL_isWell_95 (lv_at hl 2 rfl) ?_
                      refine b_cR (pc := 97) (va_runS (As := [.ref (ad 0), .int (nI g)]) (rest := []) ⟨hx, hb, hml, hown, hts⟩ (c_L_through l D cI cC cZ cG ad σ ok g (by omega)) (va_cwS 2 hts gL_isWell_L_through rfl rfl rfl hyS_L_through ⟨Nat.le_of_ble_eq_true rfl, Nat.le_of_ble_eq_true rfl⟩) (b_pRs hK (b_PL hP)) rfl rfl hl.1 rfl (lv_room (Nat.le_of_ble_eq_true rfl)) dL_isWell_97 ⟨Nat.le_of_ble_eq_true rfl, Nat.le_of_ble_eq_true rfl⟩) ?_
                      refine lv_iload_n (pc := 100) hx hb dL_isWell_100 rfl (lv_at hl 4 rfl) ?_
                      refine lv_icmp_le (pc := 101) (tgt := 113) hx hb dL_isWell_101 (by decide) (fun c_40 => ?_) (fun c_40 => ?_)
                      · skip
                        have c_40 : (h_thr σ.1 g) ≤ ((h_bus σ.1 g).2) := c_40
                        refine lv_iload_n (pc := 113) hx hb dL_isWell_113 rfl (lv_at hl 4 rfl) ?_
                        exact b_re (w_m1 c_40) J_14
                      · skip
                        have c_40 : ¬ ((h_thr σ.1 g) ≤ ((h_bus σ.1 g).2)) := c_40
                        refine lv_aload_n (pc := 104) hx hb dL_isWell_104 rfl (lv_at hl 6 rfl) ?_
                        refine lv_iload (pc := 105) hx hb dL_isWell_105 (lv_at hl 2 rfl) ?_
                        refine b_cR (pc := 107) (va_runS (As := [.ref (ad 0), .int (nI g)]) (rest := []) ⟨hx, hb, hml, hown, hts⟩ (c_L_through l D cI cC cZ cG ad σ ok g (by omega)) (va_cwS 2 hts gL_isWell_L_through rfl rfl rfl hyS_L_through ⟨Nat.le_of_ble_eq_true rfl, Nat.le_of_ble_eq_true rfl⟩) (b_pRs hK (b_PL hP)) rfl rfl hl.1 rfl (lv_room (Nat.le_of_ble_eq_true rfl)) dL_isWell_107 ⟨Nat.le_of_ble_eq_true rfl, Nat.le_of_ble_eq_true rfl⟩) ?_
                        refine lv_goto (pc := 110) (tgt := 114) hx hb dL_isWell_110 (by decide) ?_
                        exact b_re (w_m2 c_40) J_14
                  · skip
                    have c_13 : ¬ (6 ≤ k) := fun h9 => c_13 ((nI_leI (a := 6) (b := k) (by omega) (by omega)).mpr h9)
                    refine lv_aload_n (pc := 71) hx hb dL_isWell_71 rfl (lv_at hl 5 rfl) ?_
                    refine lv_iload (pc := 72) hx hb dL_isWell_72 (lv_at hl 0 rfl) ?_
                    refine lv_dup2_11 (pc := 74) hx hb dL_isWell_74 rfl rfl ?_
                    refine b_iald (pc := 75) hx hb hK hP 19 0 rfl rfl k rfl (by omega) (by decide) dL_isWell_75 ?_
                    refine b_re (w_s1 hS2 (by omega)) ?_
                    refine lv_aload_n (pc := 76) hx hb dL_isWell_76 rfl (lv_at hl 6 rfl) ?_
                    refine lv_iload (pc := 77) hx hb dL_isWell_77 (lv_at hl 2 rfl) ?_
                    refine lv_iconst (pc := 79) (v := 5) hx hb dL_isWell_79 (by decide) ?_
                    refine lv_iload (pc := 80) hx hb dL_isWell_80 (lv_at hl 0 rfl) ?_
                    refine lv_iadd (pc := 82) hx hb dL_isWell_82 ?_
                    refine b_re (nI_add 5 k) ?_
                    refine b_cR (pc := 83) (va_runV (As := [.int (nI g), .int (nI (5 + k))]) (rest := [.int (h_sum σ.1 (5 + k) g), .int (nI k), .ref qa]) ⟨hx, hb, hml, hown, hts⟩ (k_gate l D cI cC cZ cG ad σ ok g (5 + k) (by omega) (by omega)) (cwV 2 hts gL_isWell_X3_gate rfl rfl rfl hy_X3_gate ⟨Nat.le_of_ble_eq_true rfl, Nat.le_of_ble_eq_true rfl⟩) (b_pRc hK (b_PL hP) (hc_0 _ _ _ _ _ _)) rfl rfl hl.1 rfl (lv_room (Nat.le_of_ble_eq_true rfl)) dL_isWell_83 ⟨Nat.le_of_ble_eq_true rfl, Nat.le_of_ble_eq_true rfl⟩) ?_
                    refine lv_iadd (pc := 86) hx hb dL_isWell_86 ?_
                    refine b_re (w_s2) ?_
                    refine b_iast (pc := 87) hx hb hK hP hD hS 19 0 rfl rfl k rfl (by omega) (by decide) dL_isWell_87 (fun H locs hP hD hS => ?_)
                    have hP : va_P D vwCl (hc cI cC cZ cG ad σ ++ [(qa, .inl (cI, 6, .inl (upd S2 k (h_sum σ.1 (5 + k) (g + 1)))))]) H := hP
                    have hD : va_D A (hc cI cC cZ cG ad σ ++ [(qa, .inl (cI, 6, .inl (upd S2 k (h_sum σ.1 (5 + k) (g + 1)))))]) := hD
                    refine lv_iinc (pc := 88) (v := nI (k + 1)) (lv' := [(6, .int (nI (k + 1))), (5, .int (w_way σ.1 g)), (4, .int (nI g)), (3, .int 1), (2, .int ((h_bus σ.1 g).2)), (1, .ref qa), (0, .ref (ad 0))]) hx hb dL_isWell_88 hl (k := 0) rfl (nI_add k 1) (by decide) rfl (fun ls hl => ?_)
                    refine lv_goto (pc := 91) (tgt := 64) hx hb dL_isWell_91 (by decide) ?_
                    exact ih_64 (k + 1) (upd S2 k (h_sum σ.1 (5 + k) (g + 1))) (by omega) (w_s3 hS2 (by omega)) (by omega) _ _ hP hD hS ls (lv_sub hl [0, 1, 2, 3, 4, 5, 6] rfl)
              exact loop_64 7 0 S (Nat.zero_le _) (fun j hj => (hS0 j hj).trans (by rw [if_neg (by omega)])) (by omega) _ _ hP hD hS ls (lv_sub hl [0, 1, 2, 3, 4, 5, 6] rfl)
            · skip
              refine lv_if_eq (pc := 51) (tgt := 58) hx hb dL_isWell_51 (by decide) (fun c_41 => ?_) (fun c_41 => ?_)
              · skip
                have c_41 : (σ.1 (8 + g * 13 + 0)) = 0 := c_41
                refine lv_iconst (pc := 58) (v := 0) hx hb dL_isWell_58 (by decide) ?_
                exact b_re (by unfold w_way; rw [if_pos c_41]) J_12
              · skip
                have c_41 : ¬ ((σ.1 (8 + g * 13 + 0)) = 0) := c_41
                refine lv_iconst (pc := 54) (v := 1) hx hb dL_isWell_54 (by decide) ?_
                refine lv_goto (pc := 55) (tgt := 59) hx hb dL_isWell_55 (by decide) ?_
                exact b_re (by unfold w_way; rw [if_neg c_41]) J_12
      exact loop_37 7 0 (fun _ => 0) (Nat.zero_le _) (fun _ _ => rfl) (by omega) _ _ hP hD hS ls (lv_sub hl [0, 1, 2, 3, 4] rfl)
