/-! isStep: a case -/
set_option maxHeartbeats 4000000 in
set_option maxRecDepth 100000 in
theorem st_c5 {p : Program} {l : Launch} {e : Env} {s : State} {m : MethodId} {below : List Frame} {meth : Method} {c : Code} {D : va_G} {cI cC cZ cG : ClassId} {A : Nat → Prop} {tb lo hi : Nat} {ad bd : Nat → Nat} {x y : Int32} (C : st_C p s m meth c D cI cC cZ cG A tb lo hi ad bd x y) {N : Nat} {σ ρ : HS} (hR : Rel N σ ρ) (hN : N ≤ 50000) {Q : State → Prop} (hQ : Q = MQ below (st_Qc D cI cC cZ cG N ad bd A) (st_av ad bd x y) s 0 0 A) {g : Nat} (hg : g < 6) {H : Heap} {locs : List Loc} (hP : va_P D vwCl (hc cI cC cZ cG ad σ ++ hc cI cC cZ cG bd ρ) H) (hD : va_D A (hc cI cC cZ cG ad σ ++ hc cI cC cZ cG bd ρ)) (hS : va_S A s.heap H locs) {ls : Array Slot} (hl : lv_has ls 13 [(0, .ref (ad 0)), (1, .ref (bd 0)), (2, .int x), (3, .int y), (4, .int (x >>> (4 &&& 31))), (5, .int (nI g))]) : W p l e ({ frames := 7, cells := 0, slots := 0, locals := 160 } : Room) s m (st_av ad bd x y) below meth c H locs 0 0 Q (F0 m 517 ls []) := by
  obtain ⟨hx, hb, hr, hml, hown, hts, hlocks, hK, hA, hX⟩ := C
  obtain ⟨⟨ok, ok2⟩, ⟨hI, hI2, hM⟩, -⟩ := id hR
  have hn60 : sN σ ≤ 60 := ok.1
  have hm60 : sN ρ ≤ 60 := ok2.1
  refine lv_aload_n (pc := 517) hx hb dL_isStep_517 rfl (lv_at hl 0 rfl) ?_
  refine lv_iload (pc := 518) hx hb dL_isStep_518 (lv_at hl 5 rfl) ?_
  refine lv_iconst (pc := 520) (v := 0) hx hb dL_isStep_520 (by decide) ?_
  refine b_cR (pc := 521) (va_runV (As := [.int (nI g), .int 0]) (rest := []) ⟨hx, hb, hml, hown, hts⟩ (k_gate l D cI cC cZ cG ad σ ok g 0 (by omega) (by omega)) (cwV 2 hts gL_isStep_X3_gate rfl rfl rfl hy_X3_gate ⟨Nat.le_of_ble_eq_true rfl, Nat.le_of_ble_eq_true rfl⟩) (b_pRc hK (b_PL hP) (hc_0 _ _ _ _ _ _)) rfl rfl hl.1 rfl (lv_room (Nat.le_of_ble_eq_true rfl)) dL_isStep_521 ⟨Nat.zero_le _, Nat.zero_le _⟩) ?_
  refine b_re (show _ = σ.1 (8 + g * 13 + 0) from rfl) ?_
  refine lv_istore (pc := 524) (lv' := [(6, .int (σ.1 (8 + g * 13 + 0))), (0, .ref (ad 0)), (1, .ref (bd 0)), (2, .int x), (3, .int y), (4, .int (x >>> (4 &&& 31))), (5, .int (nI g))]) hx hb dL_isStep_524 hl (by decide) rfl (fun ls hl => ?_)
  refine lv_aload_n (pc := 526) hx hb dL_isStep_526 rfl (lv_at hl 1 rfl) ?_
  refine lv_iload (pc := 527) hx hb dL_isStep_527 (lv_at hl 6 rfl) ?_
  refine lv_bipush (pc := 529) (v := 8) hx hb dL_isStep_529 (by decide) ?_
  refine b_cR (pc := 531) (va_runV (As := [.int (nI g), .int 8]) (rest := []) ⟨hx, hb, hml, hown, hts⟩ (k_gate l D cI cC cZ cG ad σ ok g 8 (by omega) (by omega)) (cwV 2 hts gL_isStep_X3_gate rfl rfl rfl hy_X3_gate ⟨Nat.le_of_ble_eq_true rfl, Nat.le_of_ble_eq_true rfl⟩) (b_pRc hK (b_PL hP) (hc_0 _ _ _ _ _ _)) rfl rfl hl.1 rfl (lv_room (Nat.le_of_ble_eq_true rfl)) dL_isStep_531 ⟨Nat.zero_le _, Nat.zero_le _⟩) ?_
  refine lv_istore (pc := 534) (lv' := [(7, .int (h_tell σ.1 g 8)), (6, .int (σ.1 (8 + g * 13 + 0))), (0, .ref (ad 0)), (1, .ref (bd 0)), (2, .int x), (3, .int y), (4, .int (x >>> (4 &&& 31))), (5, .int (nI g))]) hx hb dL_isStep_534 hl (by decide) rfl (fun ls hl => ?_)
  refine lv_aload_n (pc := 536) hx hb dL_isStep_536 rfl (lv_at hl 2 rfl) ?_
  refine lv_iconst (pc := 537) (v := 4) hx hb dL_isStep_537 (by decide) ?_
  refine b_cR (pc := 538) (va_runV (As := [.int 4]) (rest := []) ⟨hx, hb, hml, hown, hts⟩ (k_count_lo l D cI cC cZ cG ad σ ok 4 (by omega)) (cwV 1 hts gL_isStep_X3_count rfl rfl rfl hy_X3_count ⟨Nat.le_of_ble_eq_true rfl, Nat.le_of_ble_eq_true rfl⟩) (b_pRc hK (b_PL hP) (hc_0 _ _ _ _ _ _)) rfl rfl hl.1 rfl (lv_room (Nat.le_of_ble_eq_true rfl)) dL_isStep_538 ⟨Nat.zero_le _, Nat.zero_le _⟩) ?_
  refine lv_istore (pc := 541) (lv' := [(8, .int (σ.1 4)), (7, .int (h_tell σ.1 g 8)), (6, .int (σ.1 (8 + g * 13 + 0))), (0, .ref (ad 0)), (1, .ref (bd 0)), (2, .int x), (3, .int y), (4, .int (x >>> (4 &&& 31))), (5, .int (nI g))]) hx hb dL_isStep_541 hl (by decide) rfl (fun ls hl => ?_)
  refine lv_aload_n (pc := 543) hx hb dL_isStep_543 rfl (lv_at hl 3 rfl) ?_
  refine lv_iload (pc := 544) hx hb dL_isStep_544 (lv_at hl 8 rfl) ?_
  by_cases hz : σ.1 (8 + g * 13 + 0) = 0
  · skip
    refine b_cR (pc := 546) (va_runV (As := [.int (nI g)]) (rest := []) ⟨hx, hb, hml, hown, hts⟩ (k_clear_np l D cI cC cZ cG ad σ ok g hg hz) (cwV 1 hts gL_isStep_X3_clear rfl rfl rfl hy_X3_clear ⟨Nat.le_of_ble_eq_true rfl, Nat.le_of_ble_eq_true rfl⟩) (b_pRc hK (b_PL hP) (hc_0 _ _ _ _ _ _)) rfl rfl hl.1 rfl (lv_room (Nat.le_of_ble_eq_true rfl)) dL_isStep_546 ⟨Nat.zero_le _, Nat.zero_le _⟩) ?_
    refine lv_istore (pc := 549) (lv' := [(9, .int (-5)), (8, .int (σ.1 4)), (7, .int (h_tell σ.1 g 8)), (6, .int (σ.1 (8 + g * 13 + 0))), (0, .ref (ad 0)), (1, .ref (bd 0)), (2, .int x), (3, .int y), (4, .int (x >>> (4 &&& 31))), (5, .int (nI g))]) hx hb dL_isStep_549 hl (by decide) rfl (fun ls hl => ?_)
    refine lv_iload (pc := 551) hx hb dL_isStep_551 (lv_at hl 0 rfl) ?_
    refine lv_aload_n (pc := 553) hx hb dL_isStep_553 rfl (lv_at hl 5 rfl) ?_
    refine lv_iconst (pc := 554) (v := 5) hx hb dL_isStep_554 (by decide) ?_
    refine lv_iload (pc := 555) hx hb dL_isStep_555 (lv_at hl 9 rfl) ?_
    refine lv_isub (pc := 557) hx hb dL_isStep_557 ?_
    refine b_re (pk_sub (a := 5) (b := g) (by omega)) ?_
    refine b_cR (pc := 558) (va_runV (As := [.int (nI (5 - g))]) (rest := [.int (-5)]) ⟨hx, hb, hml, hown, hts⟩ (k_clear_np l D cI cC cZ cG bd ρ ok2 (5 - g) (by omega) ((hM.2 g hg 0 (by omega)).trans hz)) (cwV 1 hts gL_isStep_X3_clear rfl rfl rfl hy_X3_clear ⟨Nat.le_of_ble_eq_true rfl, Nat.le_of_ble_eq_true rfl⟩) (b_pRc hK (b_PR hP) (hc_0 _ _ _ _ _ _)) rfl rfl hl.1 rfl (lv_room (Nat.le_of_ble_eq_true rfl)) dL_isStep_558 ⟨Nat.zero_le _, Nat.zero_le _⟩) ?_
    refine lv_icmp_ne (pc := 561) (tgt := 625) hx hb dL_isStep_561 (by decide) (fun c_1 => ?_) (fun c_1 => ?_)
    · skip
      exact absurd c_1 (by decide)
    · skip
      refine lv_iload (pc := 564) hx hb dL_isStep_564 (lv_at hl 3 rfl) ?_
      refine lv_if_ne (pc := 566) (tgt := 579) hx hb dL_isStep_566 (by decide) (fun c_2 => ?_) (fun c_2 => ?_)
      · skip
        have c_2 : ¬ ((σ.1 (8 + g * 13 + 0)) = 0) := c_2
        exact absurd (hz) c_2
      · skip
        have c_2 : (σ.1 (8 + g * 13 + 0)) = 0 := c_2
        refine lv_iload (pc := 569) hx hb dL_isStep_569 (lv_at hl 0 rfl) ?_
        refine lv_bipush (pc := 571) (v := (-5)) hx hb dL_isStep_571 (by decide) ?_
        refine lv_icmp_ne (pc := 573) (tgt := 625) hx hb dL_isStep_573 (by decide) (fun c_3 => ?_) (fun c_3 => ?_)
        · skip
          exact absurd c_3 (by decide)
        · skip
          refine lv_goto (pc := 576) (tgt := 621) hx hb dL_isStep_576 (by decide) ?_
          refine lv_iconst (pc := 621) (v := 1) hx hb dL_isStep_621 (by decide) ?_
          refine lv_goto (pc := 622) (tgt := 626) hx hb dL_isStep_622 (by decide) ?_
          subst hQ
          exact st_ret hx hb hr hlocks hS (hR.mono (by omega)) hP dL_isStep_626
  · skip
    refine b_cWl (pc := 546) (w1 := hc cI cC cZ cG ad (sKeep σ (h_free σ.1 g) (sN σ))) (va_runV (As := [.int (nI g)]) (rest := []) ⟨hx, hb, hml, hown, hts⟩ (k_clear l D cI cC cZ cG tb lo hi H.size ad σ ok g hg hz) (cwV 1 hts gL_isStep_X3_clear rfl rfl rfl hy_X3_clear ⟨Nat.le_of_ble_eq_true rfl, Nat.le_of_ble_eq_true rfl⟩) (b_pWc hK (b_PL hP) (b_DL hD) (b_Xok_X tb lo hi) (b_Xc0 hX (b_DL hD) hS hA) (hc_0 _ _ _ _ _ _)) rfl rfl hl.1 rfl (lv_room (Nat.le_of_ble_eq_true rfl)) dL_isStep_546 ⟨Nat.zero_le _, Nat.zero_le _⟩) hP hD hS hA (hc_ad _ _ _ _ _ _ _) (fun H locs hP hD hS => ?_)
    refine lv_istore (pc := 549) (lv' := [(9, .int (σ.1 (8 + g * 13 + 0))), (8, .int (σ.1 4)), (7, .int (h_tell σ.1 g 8)), (6, .int (σ.1 (8 + g * 13 + 0))), (0, .ref (ad 0)), (1, .ref (bd 0)), (2, .int x), (3, .int y), (4, .int (x >>> (4 &&& 31))), (5, .int (nI g))]) hx hb dL_isStep_549 hl (by decide) rfl (fun ls hl => ?_)
    refine lv_iload (pc := 551) hx hb dL_isStep_551 (lv_at hl 0 rfl) ?_
    refine lv_aload_n (pc := 553) hx hb dL_isStep_553 rfl (lv_at hl 5 rfl) ?_
    refine lv_iconst (pc := 554) (v := 5) hx hb dL_isStep_554 (by decide) ?_
    refine lv_iload (pc := 555) hx hb dL_isStep_555 (lv_at hl 9 rfl) ?_
    refine lv_isub (pc := 557) hx hb dL_isStep_557 ?_
    refine b_re (pk_sub (a := 5) (b := g) (by omega)) ?_
    refine b_cWr (pc := 558) (w1 := hc cI cC cZ cG bd (sKeep ρ (h_free ρ.1 (5 - g)) (sN ρ))) (va_runV (As := [.int (nI (5 - g))]) (rest := [.int (σ.1 (8 + g * 13 + 0))]) ⟨hx, hb, hml, hown, hts⟩ (k_clear l D cI cC cZ cG tb lo hi H.size bd ρ ok2 (5 - g) (by omega) (fun z => hz ((hM.2 g hg 0 (by omega)).symm.trans z))) (cwV 1 hts gL_isStep_X3_clear rfl rfl rfl hy_X3_clear ⟨Nat.le_of_ble_eq_true rfl, Nat.le_of_ble_eq_true rfl⟩) (b_pWc hK (b_PR hP) (b_DR hD) (b_Xok_X tb lo hi) (b_Xc0 hX (b_DR hD) hS hA) (hc_0 _ _ _ _ _ _)) rfl rfl hl.1 rfl (lv_room (Nat.le_of_ble_eq_true rfl)) dL_isStep_558 ⟨Nat.zero_le _, Nat.zero_le _⟩) hP hD hS hA (hc_ad _ _ _ _ _ _ _) (fun H locs hP hD hS => ?_)
    refine b_re (hM.2 g hg 0 (by omega)) ?_
    refine lv_icmp_ne (pc := 561) (tgt := 625) hx hb dL_isStep_561 (by decide) (fun c_4 => ?_) (fun c_4 => ?_)
    · skip
      have c_4 : ¬ ((σ.1 (8 + g * 13 + 0)) = (σ.1 (8 + g * 13 + 0))) := c_4
      exact absurd rfl c_4
    · skip
      have c_4 : (σ.1 (8 + g * 13 + 0)) = (σ.1 (8 + g * 13 + 0)) := c_4
      refine lv_iload (pc := 564) hx hb dL_isStep_564 (lv_at hl 3 rfl) ?_
      refine lv_if_ne (pc := 566) (tgt := 579) hx hb dL_isStep_566 (by decide) (fun c_5 => ?_) (fun c_5 => ?_)
      · skip
        have c_5 : ¬ ((σ.1 (8 + g * 13 + 0)) = 0) := c_5
        refine lv_iload (pc := 579) hx hb dL_isStep_579 (lv_at hl 0 rfl) ?_
        refine lv_iload (pc := 581) hx hb dL_isStep_581 (lv_at hl 3 rfl) ?_
        refine lv_icmp_ne (pc := 583) (tgt := 625) hx hb dL_isStep_583 (by decide) (fun c_6 => ?_) (fun c_6 => ?_)
        · skip
          have c_6 : ¬ ((σ.1 (8 + g * 13 + 0)) = (σ.1 (8 + g * 13 + 0))) := c_6
          exact absurd rfl c_6
        · skip
          have c_6 : (σ.1 (8 + g * 13 + 0)) = (σ.1 (8 + g * 13 + 0)) := c_6
          refine lv_aload_n (pc := 586) hx hb dL_isStep_586 rfl (lv_at hl 4 rfl) ?_
          refine lv_iload (pc := 587) hx hb dL_isStep_587 (lv_at hl 9 rfl) ?_
          refine lv_bipush (pc := 589) (v := 8) hx hb dL_isStep_589 (by decide) ?_
          refine b_cR (pc := 591) (va_runV (As := [.int (nI g), .int 8]) (rest := []) ⟨hx, hb, hml, hown, hts⟩ (k_gate l D cI cC cZ cG ad (sKeep σ (h_free σ.1 g) (sN σ)) (ok.keep _ ok.1) g 8 (by omega) (by omega)) (cwV 2 hts gL_isStep_X3_gate rfl rfl rfl hy_X3_gate ⟨Nat.le_of_ble_eq_true rfl, Nat.le_of_ble_eq_true rfl⟩) (b_pRc hK (b_PL hP) (hc_0 _ _ _ _ _ _)) rfl rfl hl.1 rfl (lv_room (Nat.le_of_ble_eq_true rfl)) dL_isStep_591 ⟨Nat.zero_le _, Nat.zero_le _⟩) ?_
          refine b_re (show _ = h_tell (h_free σ.1 g) g 8 from rfl) ?_
          refine lv_iload (pc := 594) hx hb dL_isStep_594 (lv_at hl 2 rfl) ?_
          refine lv_iconst (pc := 596) (v := 1) hx hb dL_isStep_596 (by decide) ?_
          refine lv_iadd (pc := 597) hx hb dL_isStep_597 ?_
          refine lv_icmp_ne (pc := 598) (tgt := 625) hx hb dL_isStep_598 (by decide) (fun c_7 => ?_) (fun c_7 => ?_)
          · skip
            have c_7 : ¬ ((h_tell (h_free σ.1 g) g 8) = ((h_tell σ.1 g 8) + 1)) := c_7
            exact absurd (fr_8 _) c_7
          · skip
            have c_7 : (h_tell (h_free σ.1 g) g 8) = ((h_tell σ.1 g 8) + 1) := c_7
            refine lv_aload_n (pc := 601) hx hb dL_isStep_601 rfl (lv_at hl 4 rfl) ?_
            refine lv_iload (pc := 602) hx hb dL_isStep_602 (lv_at hl 9 rfl) ?_
            refine lv_iconst (pc := 604) (v := 0) hx hb dL_isStep_604 (by decide) ?_
            refine b_cR (pc := 605) (va_runV (As := [.int (nI g), .int 0]) (rest := []) ⟨hx, hb, hml, hown, hts⟩ (k_gate l D cI cC cZ cG ad (sKeep σ (h_free σ.1 g) (sN σ)) (ok.keep _ ok.1) g 0 (by omega) (by omega)) (cwV 2 hts gL_isStep_X3_gate rfl rfl rfl hy_X3_gate ⟨Nat.le_of_ble_eq_true rfl, Nat.le_of_ble_eq_true rfl⟩) (b_pRc hK (b_PL hP) (hc_0 _ _ _ _ _ _)) rfl rfl hl.1 rfl (lv_room (Nat.le_of_ble_eq_true rfl)) dL_isStep_605 ⟨Nat.zero_le _, Nat.zero_le _⟩) ?_
            refine b_re (show _ = (h_free σ.1 g) (8 + g * 13 + 0) from rfl) ?_
            refine lv_if_ne (pc := 608) (tgt := 625) hx hb dL_isStep_608 (by decide) (fun c_8 => ?_) (fun c_8 => ?_)
            · skip
              have c_8 : ¬ (((h_free σ.1 g) (8 + g * 13 + 0)) = 0) := c_8
              exact absurd (fr_0 _) c_8
            · skip
              have c_8 : ((h_free σ.1 g) (8 + g * 13 + 0)) = 0 := c_8
              refine lv_aload_n (pc := 611) hx hb dL_isStep_611 rfl (lv_at hl 4 rfl) ?_
              refine lv_iconst (pc := 612) (v := 4) hx hb dL_isStep_612 (by decide) ?_
              refine b_cR (pc := 613) (va_runV (As := [.int 4]) (rest := []) ⟨hx, hb, hml, hown, hts⟩ (k_count_lo l D cI cC cZ cG ad (sKeep σ (h_free σ.1 g) (sN σ)) (ok.keep _ ok.1) 4 (by omega)) (cwV 1 hts gL_isStep_X3_count rfl rfl rfl hy_X3_count ⟨Nat.le_of_ble_eq_true rfl, Nat.le_of_ble_eq_true rfl⟩) (b_pRc hK (b_PL hP) (hc_0 _ _ _ _ _ _)) rfl rfl hl.1 rfl (lv_room (Nat.le_of_ble_eq_true rfl)) dL_isStep_613 ⟨Nat.zero_le _, Nat.zero_le _⟩) ?_
              refine b_re (show _ = (h_free σ.1 g) 4 from rfl) ?_
              refine lv_iload (pc := 616) hx hb dL_isStep_616 (lv_at hl 1 rfl) ?_
              refine lv_icmp_ne (pc := 618) (tgt := 625) hx hb dL_isStep_618 (by decide) (fun c_9 => ?_) (fun c_9 => ?_)
              · skip
                have c_9 : ¬ (((h_free σ.1 g) 4) = (σ.1 4)) := c_9
                exact absurd (fr_4 _) c_9
              · skip
                have c_9 : ((h_free σ.1 g) 4) = (σ.1 4) := c_9
                refine lv_iconst (pc := 621) (v := 1) hx hb dL_isStep_621 (by decide) ?_
                refine lv_goto (pc := 622) (tgt := 626) hx hb dL_isStep_622 (by decide) ?_
                subst hQ
                exact st_ret hx hb hr hlocks hS (hR.clear (by omega) hN hg) hP dL_isStep_626
      · skip
        have c_5 : (σ.1 (8 + g * 13 + 0)) = 0 := c_5
        exact absurd c_5 hz
