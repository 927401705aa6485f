/-! isStep: a case -/
set_option maxHeartbeats 4000000 in
set_option maxRecDepth 100000 in
theorem st_c6 {p : Program} {l : Launch} {e : Env} {s : State} {m : MethodId} {below : List Frame} {meth : Method} {c : Code} {D : va_G} {cI cC cZ cG : ClassId} {A : Nat → Prop} {tb lo hi : Nat} {ad bd : Nat → Nat} {x y : Int32} (C : st_C p s m meth c D cI cC cZ cG A tb lo hi ad bd x y) {N : Nat} {σ ρ : HS} (hR : Rel N σ ρ) (hN : N ≤ 50000) {Q : State → Prop} (hQ : Q = MQ below (st_Qc D cI cC cZ cG N ad bd A) (st_av ad bd x y) s 0 0 A) {H : Heap} {locs : List Loc} (hP : va_P D vwCl (hc cI cC cZ cG ad σ ++ hc cI cC cZ cG bd ρ) H) (hD : va_D A (hc cI cC cZ cG ad σ ++ hc cI cC cZ cG bd ρ)) (hS : va_S A s.heap H locs) {ls : Array Slot} (hl : lv_has ls 13 [(0, .ref (ad 0)), (1, .ref (bd 0)), (2, .int x), (3, .int y), (4, .int (x >>> (4 &&& 31)))]) : W p l e ({ frames := 7, cells := 0, slots := 0, locals := 160 } : Room) s m (st_av ad bd x y) below meth c H locs 0 0 Q (F0 m 627 ls []) := by
  obtain ⟨hx, hb, hr, hml, hown, hts, hlocks, hK, hA, hX⟩ := C
  obtain ⟨⟨ok, ok2⟩, ⟨hI, hI2, hM⟩, -⟩ := id hR
  have hn60 : sN σ ≤ 60 := ok.1
  have hm60 : sN ρ ≤ 60 := ok2.1
  refine lv_iload_n (pc := 627) hx hb dL_isStep_627 rfl (lv_at hl 3 rfl) ?_
  refine lv_iconst (pc := 628) (v := 2) hx hb dL_isStep_628 (by decide) ?_
  refine b_cR (pc := 629) (va_runS (As := [.int y, .int 2]) (rest := []) ⟨hx, hb, hml, hown, hts⟩ (c_L_up l D cI cC cZ cG y 2 (by omega) (by omega)) (va_cwS 2 hts gL_isStep_L_up rfl rfl rfl hyS_L_up ⟨Nat.le_of_ble_eq_true rfl, Nat.le_of_ble_eq_true rfl⟩) (b_pRs hK (fun k q hk => by simp at hk)) rfl rfl hl.1 rfl (lv_room (Nat.le_of_ble_eq_true rfl)) dL_isStep_629 ⟨Nat.zero_le _, Nat.zero_le _⟩) ?_
  obtain ⟨u0, eu0⟩ : ∃ z : Nat, u_up y 2 = z := ⟨_, rfl⟩
  have hu0 : u0 < 2 := eu0 ▸ u_lt _ (by omega)
  refine b_re (congrArg nI eu0) ?_
  refine lv_if_ne (pc := 632) (tgt := 666) hx hb dL_isStep_632 (by decide) (fun c_1 => ?_) (fun c_1 => ?_)
  · skip
    have c_1 : ¬ (u0 = 0) := fun h9 => c_1 ((nI_eq (a := u0) (b := 0) (by omega) (by omega)).mpr h9)
    refine lv_aload_n (pc := 666) hx hb dL_isStep_666 rfl (lv_at hl 0 rfl) ?_
    refine lv_iload (pc := 667) hx hb dL_isStep_667 (lv_at hl 4 rfl) ?_
    refine lv_iconst (pc := 669) (v := 2) hx hb dL_isStep_669 (by decide) ?_
    refine b_cR (pc := 670) (va_runS (As := [.int (x >>> (4 &&& 31)), .int 2]) (rest := [.ref (ad 0)]) ⟨hx, hb, hml, hown, hts⟩ (c_L_up l D cI cC cZ cG (x >>> (4 &&& 31)) 2 (by omega) (by omega)) (va_cwS 2 hts gL_isStep_L_up rfl rfl rfl hyS_L_up ⟨Nat.le_of_ble_eq_true rfl, Nat.le_of_ble_eq_true rfl⟩) (b_pRs hK (fun k q hk => by simp at hk)) rfl rfl hl.1 rfl (lv_room (Nat.le_of_ble_eq_true rfl)) dL_isStep_670 ⟨Nat.zero_le _, Nat.zero_le _⟩) ?_
    obtain ⟨u1, eu1⟩ : ∃ z : Nat, u_up (x >>> (4 &&& 31)) 2 = z := ⟨_, rfl⟩
    have hu1 : u1 < 2 := eu1 ▸ u_lt _ (by omega)
    refine b_re (congrArg nI eu1) ?_
    by_cases hz : sSv σ u1 = 0
    · skip
      refine b_cR (pc := 673) (va_runV (As := [.int (nI u1)]) (rest := []) ⟨hx, hb, hml, hown, hts⟩ (k_rest_none l D cI cC cZ cG ad σ ok u1 hu1 hz) (cwV 1 hts gL_isStep_X3_restore rfl rfl rfl hy_X3_restore ⟨Nat.le_of_ble_eq_true rfl, Nat.le_of_ble_eq_true rfl⟩) (b_pRc hK (b_PL hP) (hc_0 _ _ _ _ _ _)) rfl rfl hl.1 rfl (lv_room (Nat.le_of_ble_eq_true rfl)) dL_isStep_673 ⟨Nat.zero_le _, Nat.zero_le _⟩) ?_
      refine lv_aload_n (pc := 676) hx hb dL_isStep_676 rfl (lv_at hl 1 rfl) ?_
      refine lv_iload (pc := 677) hx hb dL_isStep_677 (lv_at hl 4 rfl) ?_
      refine lv_iconst (pc := 679) (v := 2) hx hb dL_isStep_679 (by decide) ?_
      refine b_cR (pc := 680) (va_runS (As := [.int (x >>> (4 &&& 31)), .int 2]) (rest := [.ref (bd 0), .int (-5)]) ⟨hx, hb, hml, hown, hts⟩ (c_L_up l D cI cC cZ cG (x >>> (4 &&& 31)) 2 (by omega) (by omega)) (va_cwS 2 hts gL_isStep_L_up rfl rfl rfl hyS_L_up ⟨Nat.le_of_ble_eq_true rfl, Nat.le_of_ble_eq_true rfl⟩) (b_pRs hK (fun k q hk => by simp at hk)) rfl rfl hl.1 rfl (lv_room (Nat.le_of_ble_eq_true rfl)) dL_isStep_680 ⟨Nat.zero_le _, Nat.zero_le _⟩) ?_
      refine b_re (congrArg nI eu1) ?_
      refine b_cR (pc := 683) (va_runV (As := [.int (nI u1)]) (rest := [.int (-5)]) ⟨hx, hb, hml, hown, hts⟩ (k_rest_none l D cI cC cZ cG bd ρ ok2 u1 hu1 (hR.slot0 hu1 hz)) (cwV 1 hts gL_isStep_X3_restore rfl rfl rfl hy_X3_restore ⟨Nat.le_of_ble_eq_true rfl, Nat.le_of_ble_eq_true rfl⟩) (b_pRc hK (b_PR hP) (hc_0 _ _ _ _ _ _)) rfl rfl hl.1 rfl (lv_room (Nat.le_of_ble_eq_true rfl)) dL_isStep_683 ⟨Nat.zero_le _, Nat.zero_le _⟩) ?_
      refine lv_icmp_ne (pc := 686) (tgt := 693) hx hb dL_isStep_686 (by decide) (fun c_2 => ?_) (fun c_2 => ?_)
      · skip
        exact absurd c_2 (by decide)
      · skip
        refine lv_iconst (pc := 689) (v := 1) hx hb dL_isStep_689 (by decide) ?_
        refine lv_goto (pc := 690) (tgt := 694) hx hb dL_isStep_690 (by decide) ?_
        subst hQ
        exact st_ret hx hb hr hlocks hS (hR.mono (by omega)) hP dL_isStep_694
    · skip
      refine b_cWl (pc := 673) (w1 := hc cI cC cZ cG ad (sKeep σ (va_cpy (sSL σ u1) σ.1 0 0 86) (sN σ))) (va_runV (As := [.int (nI u1)]) (rest := []) ⟨hx, hb, hml, hown, hts⟩ (k_rest l D cI cC cZ cG tb lo hi H.size ad σ ok u1 hu1 hz) (cwV 1 hts gL_isStep_X3_restore rfl rfl rfl hy_X3_restore ⟨Nat.le_of_ble_eq_true rfl, Nat.le_of_ble_eq_true rfl⟩) (b_pWc hK (b_PL hP) (b_DL hD) (b_Xok_X tb lo hi) (b_Xc0 hX (b_DL hD) hS hA) (hc_0 _ _ _ _ _ _)) rfl rfl hl.1 rfl (lv_room (Nat.le_of_ble_eq_true rfl)) dL_isStep_673 ⟨Nat.zero_le _, Nat.zero_le _⟩) hP hD hS hA (hc_ad _ _ _ _ _ _ _) (fun H locs hP hD hS => ?_)
      refine lv_aload_n (pc := 676) hx hb dL_isStep_676 rfl (lv_at hl 1 rfl) ?_
      refine lv_iload (pc := 677) hx hb dL_isStep_677 (lv_at hl 4 rfl) ?_
      refine lv_iconst (pc := 679) (v := 2) hx hb dL_isStep_679 (by decide) ?_
      refine b_cR (pc := 680) (va_runS (As := [.int (x >>> (4 &&& 31)), .int 2]) (rest := [.ref (bd 0), .int (va_cpy (sSL σ u1) σ.1 0 0 86 4)]) ⟨hx, hb, hml, hown, hts⟩ (c_L_up l D cI cC cZ cG (x >>> (4 &&& 31)) 2 (by omega) (by omega)) (va_cwS 2 hts gL_isStep_L_up rfl rfl rfl hyS_L_up ⟨Nat.le_of_ble_eq_true rfl, Nat.le_of_ble_eq_true rfl⟩) (b_pRs hK (fun k q hk => by simp at hk)) rfl rfl hl.1 rfl (lv_room (Nat.le_of_ble_eq_true rfl)) dL_isStep_680 ⟨Nat.zero_le _, Nat.zero_le _⟩) ?_
      refine b_re (congrArg nI eu1) ?_
      refine b_cWr (pc := 683) (w1 := hc cI cC cZ cG bd (sKeep ρ (va_cpy (sSL ρ u1) ρ.1 0 0 86) (sN ρ))) (va_runV (As := [.int (nI u1)]) (rest := [.int (va_cpy (sSL σ u1) σ.1 0 0 86 4)]) ⟨hx, hb, hml, hown, hts⟩ (k_rest l D cI cC cZ cG tb lo hi H.size bd ρ ok2 u1 hu1 (hR.slot hu1 hz).1) (cwV 1 hts gL_isStep_X3_restore rfl rfl rfl hy_X3_restore ⟨Nat.le_of_ble_eq_true rfl, Nat.le_of_ble_eq_true rfl⟩) (b_pWc hK (b_PR hP) (b_DR hD) (b_Xok_X tb lo hi) (b_Xc0 hX (b_DR hD) hS hA) (hc_0 _ _ _ _ _ _)) rfl rfl hl.1 rfl (lv_room (Nat.le_of_ble_eq_true rfl)) dL_isStep_683 ⟨Nat.zero_le _, Nat.zero_le _⟩) hP hD hS hA (hc_ad _ _ _ _ _ _ _) (fun H locs hP hD hS => ?_)
      refine lv_icmp_ne (pc := 686) (tgt := 693) hx hb dL_isStep_686 (by decide) (fun c_3 => ?_) (fun c_3 => ?_)
      · skip
        have c_3 : ¬ ((va_cpy (sSL σ u1) σ.1 0 0 86 4) = (va_cpy (sSL ρ u1) ρ.1 0 0 86 4)) := c_3
        exact absurd (rs_4 (hR.slot hu1 hz).2.2.2) c_3
      · skip
        have c_3 : (va_cpy (sSL σ u1) σ.1 0 0 86 4) = (va_cpy (sSL ρ u1) ρ.1 0 0 86 4) := c_3
        refine lv_iconst (pc := 689) (v := 1) hx hb dL_isStep_689 (by decide) ?_
        refine lv_goto (pc := 690) (tgt := 694) hx hb dL_isStep_690 (by decide) ?_
        subst hQ
        exact st_ret hx hb hr hlocks hS (hR.restore (by omega) hu1 hz) hP dL_isStep_694
  · skip
    have c_1 : u0 = 0 := (nI_eq (a := u0) (b := 0) (by omega) (by omega)).mp c_1
    refine lv_aload_n (pc := 635) hx hb dL_isStep_635 rfl (lv_at hl 0 rfl) ?_
    refine lv_iload (pc := 636) hx hb dL_isStep_636 (lv_at hl 4 rfl) ?_
    refine lv_iconst (pc := 638) (v := 2) hx hb dL_isStep_638 (by decide) ?_
    refine b_cR (pc := 639) (va_runS (As := [.int (x >>> (4 &&& 31)), .int 2]) (rest := [.ref (ad 0)]) ⟨hx, hb, hml, hown, hts⟩ (c_L_up l D cI cC cZ cG (x >>> (4 &&& 31)) 2 (by omega) (by omega)) (va_cwS 2 hts gL_isStep_L_up rfl rfl rfl hyS_L_up ⟨Nat.le_of_ble_eq_true rfl, Nat.le_of_ble_eq_true rfl⟩) (b_pRs hK (fun k q hk => by simp at hk)) rfl rfl hl.1 rfl (lv_room (Nat.le_of_ble_eq_true rfl)) dL_isStep_639 ⟨Nat.zero_le _, Nat.zero_le _⟩) ?_
    obtain ⟨u2, eu2⟩ : ∃ z : Nat, u_up (x >>> (4 &&& 31)) 2 = z := ⟨_, rfl⟩
    have hu2 : u2 < 2 := eu2 ▸ u_lt _ (by omega)
    refine b_re (congrArg nI eu2) ?_
    refine b_cWl (pc := 642) (w1 := hc cI cC cZ cG ad (sSave σ u2)) (va_runV (As := [.int (nI u2)]) (rest := []) ⟨hx, hb, hml, hown, hts⟩ (k_save l D cI cC cZ cG tb lo hi H.size ad σ ok u2 hu2) (cwV 1 hts gL_isStep_X3_save rfl rfl rfl hy_X3_save ⟨Nat.le_of_ble_eq_true rfl, Nat.le_of_ble_eq_true rfl⟩) (b_pWc hK (b_PL hP) (b_DL hD) (b_Xok_X tb lo hi) (b_Xc0 hX (b_DL hD) hS hA) (hc_0 _ _ _ _ _ _)) rfl rfl hl.1 rfl (lv_room (Nat.le_of_ble_eq_true rfl)) dL_isStep_642 ⟨Nat.zero_le _, Nat.zero_le _⟩) hP hD hS hA (hc_ad _ _ _ _ _ _ _) (fun H locs hP hD hS => ?_)
    refine lv_aload_n (pc := 645) hx hb dL_isStep_645 rfl (lv_at hl 1 rfl) ?_
    refine lv_iload (pc := 646) hx hb dL_isStep_646 (lv_at hl 4 rfl) ?_
    refine lv_iconst (pc := 648) (v := 2) hx hb dL_isStep_648 (by decide) ?_
    refine b_cR (pc := 649) (va_runS (As := [.int (x >>> (4 &&& 31)), .int 2]) (rest := [.ref (bd 0), .int (σ.1 4)]) ⟨hx, hb, hml, hown, hts⟩ (c_L_up l D cI cC cZ cG (x >>> (4 &&& 31)) 2 (by omega) (by omega)) (va_cwS 2 hts gL_isStep_L_up rfl rfl rfl hyS_L_up ⟨Nat.le_of_ble_eq_true rfl, Nat.le_of_ble_eq_true rfl⟩) (b_pRs hK (fun k q hk => by simp at hk)) rfl rfl hl.1 rfl (lv_room (Nat.le_of_ble_eq_true rfl)) dL_isStep_649 ⟨Nat.zero_le _, Nat.zero_le _⟩) ?_
    refine b_re (congrArg nI eu2) ?_
    refine b_cWr (pc := 652) (w1 := hc cI cC cZ cG bd (sSave ρ u2)) (va_runV (As := [.int (nI u2)]) (rest := [.int (σ.1 4)]) ⟨hx, hb, hml, hown, hts⟩ (k_save l D cI cC cZ cG tb lo hi H.size bd ρ ok2 u2 hu2) (cwV 1 hts gL_isStep_X3_save rfl rfl rfl hy_X3_save ⟨Nat.le_of_ble_eq_true rfl, Nat.le_of_ble_eq_true rfl⟩) (b_pWc hK (b_PR hP) (b_DR hD) (b_Xok_X tb lo hi) (b_Xc0 hX (b_DR hD) hS hA) (hc_0 _ _ _ _ _ _)) rfl rfl hl.1 rfl (lv_room (Nat.le_of_ble_eq_true rfl)) dL_isStep_652 ⟨Nat.zero_le _, Nat.zero_le _⟩) hP hD hS hA (hc_ad _ _ _ _ _ _ _) (fun H locs hP hD hS => ?_)
    refine lv_icmp_ne (pc := 655) (tgt := 662) hx hb dL_isStep_655 (by decide) (fun c_4 => ?_) (fun c_4 => ?_)
    · skip
      have c_4 : ¬ ((σ.1 4) = (ρ.1 4)) := c_4
      exact absurd ((hM.1 4 (by omega)).symm) c_4
    · skip
      have c_4 : (σ.1 4) = (ρ.1 4) := c_4
      refine lv_iconst (pc := 658) (v := 1) hx hb dL_isStep_658 (by decide) ?_
      refine lv_goto (pc := 659) (tgt := 694) hx hb dL_isStep_659 (by decide) ?_
      subst hQ
      exact st_ret hx hb hr hlocks hS ((hR.save hu2).mono (by omega)) hP dL_isStep_694
