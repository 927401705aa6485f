/-! isStep: a case -/
set_option maxHeartbeats 4000000 in
set_option maxRecDepth 100000 in
theorem st_c4 {p : Program} {l : Launch} {e : Env} {s : State} {m : MethodId} {below : List Frame} {meth : Method} {c : Code} {D : va_G} {cI cC cZ cG : ClassId} {A : Nat → Prop} {tb lo hi : Nat} {ad bd : Nat → Nat} {x y : Int32} (C : st_C p s m meth c D cI cC cZ cG A tb lo hi ad bd x y) {N : Nat} {σ ρ : HS} (hR : Rel N σ ρ) (hN : N ≤ 50000) {Q : State → Prop} (hQ : Q = MQ below (st_Qc D cI cC cZ cG N ad bd A) (st_av ad bd x y) s 0 0 A) {H : Heap} {locs : List Loc} (hP : va_P D vwCl (hc cI cC cZ cG ad σ ++ hc cI cC cZ cG bd ρ) H) (hD : va_D A (hc cI cC cZ cG ad σ ++ hc cI cC cZ cG bd ρ)) (hS : va_S A s.heap H locs) {ls : Array Slot} (hl : lv_has ls 13 [(0, .ref (ad 0)), (1, .ref (bd 0)), (2, .int x), (3, .int y), (4, .int (x >>> (4 &&& 31)))]) : W p l e ({ frames := 7, cells := 0, slots := 0, locals := 160 } : Room) s m (st_av ad bd x y) below meth c H locs 0 0 Q (F0 m 402 ls []) := by
  obtain ⟨hx, hb, hr, hml, hown, hts, hlocks, hK, hA, hX⟩ := C
  obtain ⟨⟨ok, ok2⟩, ⟨hI, hI2, hM⟩, -⟩ := id hR
  have hn60 : sN σ ≤ 60 := ok.1
  have hm60 : sN ρ ≤ 60 := ok2.1
  refine lv_iload_n (pc := 402) hx hb dL_isStep_402 rfl (lv_at hl 3 rfl) ?_
  refine wj_cut (a := ∀ (n : Nat), (0 < n ∧ n ≤ 1000) → W p l e ({ frames := 7, cells := 0, slots := 0, locals := 160 } : Room) s m (st_av ad bd x y) below meth c H locs 0 0 Q (F0 m 419 ls [.int (nI n), .int y])) ?_ (fun J_1 => ?_)
  · skip
    intro n hjJ_1
    refine b_cR (pc := 419) (va_runS (As := [.int y, .int (nI n)]) (rest := []) ⟨hx, hb, hml, hown, hts⟩ (c_L_up l D cI cC cZ cG y n (by omega) (by omega)) (va_cwS 2 hts gL_isStep_L_up rfl rfl rfl hyS_L_up ⟨Nat.le_of_ble_eq_true rfl, Nat.le_of_ble_eq_true rfl⟩) (b_pRs hK (fun k q hk => by simp at hk)) rfl rfl hl.1 rfl (lv_room (Nat.le_of_ble_eq_true rfl)) dL_isStep_419 ⟨Nat.zero_le _, Nat.zero_le _⟩) ?_
    obtain ⟨u0, eu0⟩ : ∃ z : Nat, u_up y n = z := ⟨_, rfl⟩
    have hu0 : u0 < n := eu0 ▸ u_lt _ (by omega)
    refine b_re (congrArg nI eu0) ?_
    have hco := co_rng (v := u0) (by omega)
    refine lv_istore (pc := 422) (lv' := [(6, .int (nI u0)), (0, .ref (ad 0)), (1, .ref (bd 0)), (2, .int x), (3, .int y), (4, .int (x >>> (4 &&& 31)))]) hx hb dL_isStep_422 hl (by decide) rfl (fun ls hl => ?_)
    refine lv_aload_n (pc := 424) hx hb dL_isStep_424 rfl (lv_at hl 1 rfl) ?_
    refine lv_iconst (pc := 425) (v := 4) hx hb dL_isStep_425 (by decide) ?_
    refine b_cR (pc := 426) (va_runV (As := [.int 4]) (rest := []) ⟨hx, hb, hml, hown, hts⟩ (k_count_lo l D cI cC cZ cG ad σ ok 4 (by omega)) (cwV 1 hts gL_isStep_X3_count rfl rfl rfl hy_X3_count ⟨Nat.le_of_ble_eq_true rfl, Nat.le_of_ble_eq_true rfl⟩) (b_pRc hK (b_PL hP) (hc_0 _ _ _ _ _ _)) rfl rfl hl.1 rfl (lv_room (Nat.le_of_ble_eq_true rfl)) dL_isStep_426 ⟨Nat.zero_le _, Nat.zero_le _⟩) ?_
    refine lv_istore (pc := 429) (lv' := [(7, .int (σ.1 4)), (6, .int (nI u0)), (0, .ref (ad 0)), (1, .ref (bd 0)), (2, .int x), (3, .int y), (4, .int (x >>> (4 &&& 31)))]) hx hb dL_isStep_429 hl (by decide) rfl (fun ls hl => ?_)
    refine lv_aload_n (pc := 431) hx hb dL_isStep_431 rfl (lv_at hl 2 rfl) ?_
    refine lv_iconst (pc := 432) (v := 5) hx hb dL_isStep_432 (by decide) ?_
    refine b_cR (pc := 433) (va_runV (As := [.int 5]) (rest := []) ⟨hx, hb, hml, hown, hts⟩ (k_count_lo l D cI cC cZ cG ad σ ok 5 (by omega)) (cwV 1 hts gL_isStep_X3_count rfl rfl rfl hy_X3_count ⟨Nat.le_of_ble_eq_true rfl, Nat.le_of_ble_eq_true rfl⟩) (b_pRc hK (b_PL hP) (hc_0 _ _ _ _ _ _)) rfl rfl hl.1 rfl (lv_room (Nat.le_of_ble_eq_true rfl)) dL_isStep_433 ⟨Nat.zero_le _, Nat.zero_le _⟩) ?_
    refine lv_istore (pc := 436) (lv' := [(8, .int (σ.1 5)), (7, .int (σ.1 4)), (6, .int (nI u0)), (0, .ref (ad 0)), (1, .ref (bd 0)), (2, .int x), (3, .int y), (4, .int (x >>> (4 &&& 31)))]) hx hb dL_isStep_436 hl (by decide) rfl (fun ls hl => ?_)
    refine lv_aload_n (pc := 438) hx hb dL_isStep_438 rfl (lv_at hl 3 rfl) ?_
    refine lv_bipush (pc := 439) (v := 6) hx hb dL_isStep_439 (by decide) ?_
    refine b_cR (pc := 441) (va_runV (As := [.int 6]) (rest := []) ⟨hx, hb, hml, hown, hts⟩ (k_count_lo l D cI cC cZ cG ad σ ok 6 (by omega)) (cwV 1 hts gL_isStep_X3_count rfl rfl rfl hy_X3_count ⟨Nat.le_of_ble_eq_true rfl, Nat.le_of_ble_eq_true rfl⟩) (b_pRc hK (b_PL hP) (hc_0 _ _ _ _ _ _)) rfl rfl hl.1 rfl (lv_room (Nat.le_of_ble_eq_true rfl)) dL_isStep_441 ⟨Nat.zero_le _, Nat.zero_le _⟩) ?_
    refine lv_istore (pc := 444) (lv' := [(9, .int (σ.1 6)), (8, .int (σ.1 5)), (7, .int (σ.1 4)), (6, .int (nI u0)), (0, .ref (ad 0)), (1, .ref (bd 0)), (2, .int x), (3, .int y), (4, .int (x >>> (4 &&& 31)))]) hx hb dL_isStep_444 hl (by decide) rfl (fun ls hl => ?_)
    refine lv_aload_n (pc := 446) hx hb dL_isStep_446 rfl (lv_at hl 4 rfl) ?_
    refine lv_iload (pc := 447) hx hb dL_isStep_447 (lv_at hl 3 rfl) ?_
    refine b_cWl (pc := 449) (w1 := hc cI cC cZ cG ad (sKeep σ (h_become σ.1 (nI u0)) (sN σ))) (va_runV (As := [.int (nI u0)]) (rest := []) ⟨hx, hb, hml, hown, hts⟩ (k_correct l D cI cC cZ cG tb lo hi H.size ad σ ok (nI u0) hco.2.1 hco.2.2) (cwV 1 hts gL_isStep_X3_correct rfl rfl rfl hy_X3_correct ⟨Nat.le_of_ble_eq_true rfl, Nat.le_of_ble_eq_true rfl⟩) (b_pWc hK (b_PL hP) (b_DL hD) (b_Xok_X tb lo hi) (b_Xc0 hX (b_DL hD) hS hA) (hc_0 _ _ _ _ _ _)) rfl rfl hl.1 rfl (lv_room (Nat.le_of_ble_eq_true rfl)) dL_isStep_449 ⟨Nat.zero_le _, Nat.zero_le _⟩) hP hD hS hA (hc_ad _ _ _ _ _ _ _) (fun H locs hP hD hS => ?_)
    refine lv_iload (pc := 452) hx hb dL_isStep_452 (lv_at hl 2 rfl) ?_
    refine lv_icmp_ne (pc := 454) (tgt := 515) hx hb dL_isStep_454 (by decide) (fun c_2 => ?_) (fun c_2 => ?_)
    · skip
      have c_2 : ¬ ((σ.1 4) = (σ.1 4)) := c_2
      exact absurd rfl c_2
    · skip
      have c_2 : (σ.1 4) = (σ.1 4) := c_2
      refine lv_aload_n (pc := 457) hx hb dL_isStep_457 rfl (lv_at hl 5 rfl) ?_
      refine lv_iload (pc := 458) hx hb dL_isStep_458 (lv_at hl 3 rfl) ?_
      refine b_cWr (pc := 460) (w1 := hc cI cC cZ cG bd (sKeep ρ (h_become ρ.1 (nI u0)) (sN ρ))) (va_runV (As := [.int (nI u0)]) (rest := []) ⟨hx, hb, hml, hown, hts⟩ (k_correct l D cI cC cZ cG tb lo hi H.size bd ρ ok2 (nI u0) hco.2.1 hco.2.2) (cwV 1 hts gL_isStep_X3_correct rfl rfl rfl hy_X3_correct ⟨Nat.le_of_ble_eq_true rfl, Nat.le_of_ble_eq_true rfl⟩) (b_pWc hK (b_PR hP) (b_DR hD) (b_Xok_X tb lo hi) (b_Xc0 hX (b_DR hD) hS hA) (hc_0 _ _ _ _ _ _)) rfl rfl hl.1 rfl (lv_room (Nat.le_of_ble_eq_true rfl)) dL_isStep_460 ⟨Nat.zero_le _, Nat.zero_le _⟩) hP hD hS hA (hc_ad _ _ _ _ _ _ _) (fun H locs hP hD hS => ?_)
      refine lv_iload (pc := 463) hx hb dL_isStep_463 (lv_at hl 2 rfl) ?_
      refine lv_icmp_ne (pc := 465) (tgt := 515) hx hb dL_isStep_465 (by decide) (fun c_3 => ?_) (fun c_3 => ?_)
      · skip
        have c_3 : ¬ ((ρ.1 4) = (σ.1 4)) := c_3
        exact absurd (hM.1 4 (by omega)) c_3
      · skip
        have c_3 : (ρ.1 4) = (σ.1 4) := c_3
        refine lv_aload_n (pc := 468) hx hb dL_isStep_468 rfl (lv_at hl 4 rfl) ?_
        refine lv_iconst (pc := 469) (v := 4) hx hb dL_isStep_469 (by decide) ?_
        refine b_cR (pc := 470) (va_runV (As := [.int 4]) (rest := []) ⟨hx, hb, hml, hown, hts⟩ (k_count_lo l D cI cC cZ cG ad (sKeep σ (h_become σ.1 (nI u0)) (sN σ)) (ok.keep _ ok.1) 4 (by omega)) (cwV 1 hts gL_isStep_X3_count rfl rfl rfl hy_X3_count ⟨Nat.le_of_ble_eq_true rfl, Nat.le_of_ble_eq_true rfl⟩) (b_pRc hK (b_PL hP) (hc_0 _ _ _ _ _ _)) rfl rfl hl.1 rfl (lv_room (Nat.le_of_ble_eq_true rfl)) dL_isStep_470 ⟨Nat.zero_le _, Nat.zero_le _⟩) ?_
        refine b_re (show _ = (h_become σ.1 (nI u0)) 4 from rfl) ?_
        refine lv_iload (pc := 473) hx hb dL_isStep_473 (lv_at hl 3 rfl) ?_
        refine lv_icmp_ne (pc := 475) (tgt := 515) hx hb dL_isStep_475 (by decide) (fun c_4 => ?_) (fun c_4 => ?_)
        · skip
          have c_4 : ¬ (((h_become σ.1 (nI u0)) 4) = (nI u0)) := c_4
          exact absurd (v_bec4 _ _) c_4
        · skip
          have c_4 : ((h_become σ.1 (nI u0)) 4) = (nI u0) := c_4
          refine lv_aload_n (pc := 478) hx hb dL_isStep_478 rfl (lv_at hl 4 rfl) ?_
          refine lv_iconst (pc := 479) (v := 5) hx hb dL_isStep_479 (by decide) ?_
          refine b_cR (pc := 480) (va_runV (As := [.int 5]) (rest := []) ⟨hx, hb, hml, hown, hts⟩ (k_count_lo l D cI cC cZ cG ad (sKeep σ (h_become σ.1 (nI u0)) (sN σ)) (ok.keep _ ok.1) 5 (by omega)) (cwV 1 hts gL_isStep_X3_count rfl rfl rfl hy_X3_count ⟨Nat.le_of_ble_eq_true rfl, Nat.le_of_ble_eq_true rfl⟩) (b_pRc hK (b_PL hP) (hc_0 _ _ _ _ _ _)) rfl rfl hl.1 rfl (lv_room (Nat.le_of_ble_eq_true rfl)) dL_isStep_480 ⟨Nat.zero_le _, Nat.zero_le _⟩) ?_
          refine b_re (show _ = (h_become σ.1 (nI u0)) 5 from rfl) ?_
          refine wj_cut (a := W p l e ({ frames := 7, cells := 0, slots := 0, locals := 160 } : Room) s m (st_av ad bd x y) below meth c H locs 0 0 Q (F0 m 497 ls [.int (if nI u0 ≤ σ.1 5 then σ.1 5 else nI u0), .int ((h_become σ.1 (nI u0)) 5)])) ?_ (fun J_5 => ?_)
          · skip
            refine lv_icmp_ne (pc := 497) (tgt := 515) hx hb dL_isStep_497 (by decide) (fun c_6 => ?_) (fun c_6 => ?_)
            · skip
              have c_6 : ¬ (((h_become σ.1 (nI u0)) 5) = (if nI u0 ≤ σ.1 5 then σ.1 5 else nI u0)) := c_6
              exact absurd (v_bec5 _ _) c_6
            · skip
              have c_6 : ((h_become σ.1 (nI u0)) 5) = (if nI u0 ≤ σ.1 5 then σ.1 5 else nI u0) := c_6
              refine lv_aload_n (pc := 500) hx hb dL_isStep_500 rfl (lv_at hl 4 rfl) ?_
              refine lv_bipush (pc := 501) (v := 6) hx hb dL_isStep_501 (by decide) ?_
              refine b_cR (pc := 503) (va_runV (As := [.int 6]) (rest := []) ⟨hx, hb, hml, hown, hts⟩ (k_count_lo l D cI cC cZ cG ad (sKeep σ (h_become σ.1 (nI u0)) (sN σ)) (ok.keep _ ok.1) 6 (by omega)) (cwV 1 hts gL_isStep_X3_count rfl rfl rfl hy_X3_count ⟨Nat.le_of_ble_eq_true rfl, Nat.le_of_ble_eq_true rfl⟩) (b_pRc hK (b_PL hP) (hc_0 _ _ _ _ _ _)) rfl rfl hl.1 rfl (lv_room (Nat.le_of_ble_eq_true rfl)) dL_isStep_503 ⟨Nat.zero_le _, Nat.zero_le _⟩) ?_
              refine b_re (show _ = (h_become σ.1 (nI u0)) 6 from rfl) ?_
              refine lv_iload (pc := 506) hx hb dL_isStep_506 (lv_at hl 0 rfl) ?_
              refine lv_icmp_ne (pc := 508) (tgt := 515) hx hb dL_isStep_508 (by decide) (fun c_7 => ?_) (fun c_7 => ?_)
              · skip
                have c_7 : ¬ (((h_become σ.1 (nI u0)) 6) = (σ.1 6)) := c_7
                exact absurd (v_bec_o (by omega) (by omega)) c_7
              · skip
                have c_7 : ((h_become σ.1 (nI u0)) 6) = (σ.1 6) := c_7
                refine lv_iconst (pc := 511) (v := 1) hx hb dL_isStep_511 (by decide) ?_
                refine lv_goto (pc := 512) (tgt := 516) hx hb dL_isStep_512 (by decide) ?_
                subst hQ
                exact st_ret hx hb hr hlocks hS (hR.correct (by omega) hco.1) hP dL_isStep_516
          · skip
            refine lv_iload (pc := 483) hx hb dL_isStep_483 (lv_at hl 3 rfl) ?_
            refine lv_iload (pc := 485) hx hb dL_isStep_485 (lv_at hl 1 rfl) ?_
            refine lv_icmp_le (pc := 487) (tgt := 495) hx hb dL_isStep_487 (by decide) (fun c_8 => ?_) (fun c_8 => ?_)
            · skip
              have c_8 : (nI u0) ≤ (σ.1 5) := c_8
              refine lv_iload (pc := 495) hx hb dL_isStep_495 (lv_at hl 1 rfl) ?_
              exact b_re (by rw [if_pos c_8]) J_5
            · skip
              have c_8 : ¬ ((nI u0) ≤ (σ.1 5)) := c_8
              refine lv_iload (pc := 490) hx hb dL_isStep_490 (lv_at hl 3 rfl) ?_
              refine lv_goto (pc := 492) (tgt := 497) hx hb dL_isStep_492 (by decide) ?_
              exact b_re (by rw [if_neg c_8]) J_5
  · skip
    refine lv_iload (pc := 403) hx hb dL_isStep_403 (lv_at hl 4 rfl) ?_
    refine lv_iconst (pc := 405) (v := 2) hx hb dL_isStep_405 (by decide) ?_
    refine b_cR (pc := 406) (va_runS (As := [.int (x >>> (4 &&& 31)), .int 2]) (rest := [.int y]) ⟨hx, hb, hml, hown, hts⟩ (c_L_up l D cI cC cZ cG (x >>> (4 &&& 31)) 2 (by omega) (by omega)) (va_cwS 2 hts gL_isStep_L_up rfl rfl rfl hyS_L_up ⟨Nat.le_of_ble_eq_true rfl, Nat.le_of_ble_eq_true rfl⟩) (b_pRs hK (fun k q hk => by simp at hk)) rfl rfl hl.1 rfl (lv_room (Nat.le_of_ble_eq_true rfl)) dL_isStep_406 ⟨Nat.zero_le _, Nat.zero_le _⟩) ?_
    obtain ⟨u1, eu1⟩ : ∃ z : Nat, u_up (x >>> (4 &&& 31)) 2 = z := ⟨_, rfl⟩
    have hu1 : u1 < 2 := eu1 ▸ u_lt _ (by omega)
    refine b_re (congrArg nI eu1) ?_
    refine lv_if_ne (pc := 409) (tgt := 418) hx hb dL_isStep_409 (by decide) (fun c_9 => ?_) (fun c_9 => ?_)
    · skip
      have c_9 : ¬ (u1 = 0) := fun h9 => c_9 ((nI_eq (a := u1) (b := 0) (by omega) (by omega)).mpr h9)
      refine lv_iconst (pc := 418) (v := 4) hx hb dL_isStep_418 (by decide) ?_
      exact b_re (show _ = nI 4 from by decide) (J_1 4 (by omega))
    · skip
      have c_9 : u1 = 0 := (nI_eq (a := u1) (b := 0) (by omega) (by omega)).mp c_9
      refine lv_sipush (pc := 412) (v := 1000) hx hb dL_isStep_412 (by decide) ?_
      refine lv_goto (pc := 415) (tgt := 419) hx hb dL_isStep_415 (by decide) ?_
      exact b_re (show _ = nI 1000 from by decide) (J_1 1000 (by omega))
