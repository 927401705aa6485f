/-! isStep: a case -/
theorem hw_st_c7_0 : (.constantLong RL 74 (98) : Cond) ∈ wsL_isStep := by decide +kernel
theorem hw_st_c7_1 : (.constantLong RL 72 (105) : Cond) ∈ wsL_isStep := by decide +kernel
theorem hw_st_c7_2 : (.constantLong RL 70 (111) : Cond) ∈ wsL_isStep := by decide +kernel
set_option maxHeartbeats 4000000 in
set_option maxRecDepth 100000 in
theorem st_c7 {p : Program} {l : Launch} {e : Env} {s : State} {m : MethodId} {below : List Frame} {meth : Method} {c : Code} {D : va_G} {cI cC cZ cG : ClassId} {A : Nat → Prop} {tb lo hi : Nat} {ad bd : Nat → Nat} {x y : Int32} (C : st_C p s m meth c D cI cC cZ cG A tb lo hi ad bd x y) {N : Nat} {σ ρ : HS} (hR : Rel N σ ρ) (hN : N ≤ 50000) {Q : State → Prop} (hQ : Q = MQ below (st_Qc D cI cC cZ cG N ad bd A) (st_av ad bd x y) s 0 0 A) {g : Nat} (hg : g < 6) {H : Heap} {locs : List Loc} (hP : va_P D vwCl (hc cI cC cZ cG ad σ ++ hc cI cC cZ cG bd ρ) H) (hD : va_D A (hc cI cC cZ cG ad σ ++ hc cI cC cZ cG bd ρ)) (hS : va_S A s.heap H locs) {ls : Array Slot} (hl : lv_has ls 13 [(0, .ref (ad 0)), (1, .ref (bd 0)), (2, .int x), (3, .int y), (4, .int (x >>> (4 &&& 31))), (5, .int (nI g))]) : W p l e ({ frames := 7, cells := 0, slots := 0, locals := 160 } : Room) s m (st_av ad bd x y) below meth c H locs 0 0 Q (F0 m 695 ls []) := by
  obtain ⟨hx, hb, hr, hml, hown, hts, hlocks, hK, hA, hX⟩ := C
  obtain ⟨⟨ok, ok2⟩, ⟨hI, hI2, hM⟩, -⟩ := id hR
  have hn60 : sN σ ≤ 60 := ok.1
  have hm60 : sN ρ ≤ 60 := ok2.1
  refine wj_cut (a := ∀ (n : Nat), (0 < n ∧ n ≤ 4) → W p l e ({ frames := 7, cells := 0, slots := 0, locals := 160 } : Room) s m (st_av ad bd x y) below meth c H locs 0 0 Q (F0 m 711 ls [.int (nI n)])) ?_ (fun J_1 => ?_)
  · skip
    intro n hjJ_1
    have hn4 : 0 < n ∧ n ≤ 4 := hjJ_1
    refine lv_istore (pc := 711) (lv' := [(6, .int (nI n)), (0, .ref (ad 0)), (1, .ref (bd 0)), (2, .int x), (3, .int y), (4, .int (x >>> (4 &&& 31))), (5, .int (nI g))]) hx hb dL_isStep_711 hl (by decide) rfl (fun ls hl => ?_)
    refine lv_aload_n (pc := 713) hx hb dL_isStep_713 rfl (lv_at hl 2 rfl) ?_
    refine b_cWr (pc := 714) (w1 := hc cI cC cZ cG bd (sText ρ 0 (sT ρ))) (va_runV (As := []) (rest := []) ⟨hx, hb, hml, hown, hts⟩ (k_wipe l D cI cC cZ cG tb lo hi H.size bd ρ ok2) (cwV 0 hts gL_isStep_X3_wipe rfl rfl rfl hy_X3_wipe ⟨Nat.le_of_ble_eq_true rfl, Nat.le_of_ble_eq_true rfl⟩) (b_pWc hK (b_PR hP) (b_DR hD) (b_Xok_X tb lo hi) (b_Xc0 hX (b_DR hD) hS hA) (hc_0 _ _ _ _ _ _)) rfl rfl hl.1 rfl (lv_room (Nat.le_of_ble_eq_true rfl)) dL_isStep_714 ⟨Nat.zero_le _, Nat.zero_le _⟩) hP hD hS hA (hc_ad _ _ _ _ _ _ _) (fun H locs hP hD hS => ?_)
    refine lv_if_lt (pc := 717) (tgt := 737) hx hb dL_isStep_717 (by decide) (fun c_2 => ?_) (fun c_2 => ?_)
    · skip
      have c_2 : sN ρ < 0 := (nI_ltI (a := sN ρ) (b := 0) (by omega) (by omega)).mp c_2
      exact absurd c_2 (by omega)
    · skip
      have c_2 : ¬ (sN ρ < 0) := fun h9 => c_2 ((nI_ltI (a := sN ρ) (b := 0) (by omega) (by omega)).mpr h9)
      refine lv_aload_n (pc := 720) hx hb dL_isStep_720 rfl (lv_at hl 2 rfl) ?_
      refine lv_bipush (pc := 721) (v := 53) hx hb dL_isStep_721 (by decide) ?_
      refine lv_iload (pc := 723) hx hb dL_isStep_723 (lv_at hl 6 rfl) ?_
      refine lv_isub (pc := 725) hx hb dL_isStep_725 ?_
      refine b_re (pk_sub (a := 53) (b := g) (by omega)) ?_
      refine b_re (show nI (53 - g) = nI (48 + (5 - g)) by rw [show 53 - g = 48 + (5 - g) by omega]) ?_
      refine lv_i2l (pc := 726) hx hb dL_isStep_726 rfl ?_
      refine b_cWr (pc := 727) (w1 := hc cI cC cZ cG bd (sText ρ (0 + 1) (upd (sT ρ) 0 (p_code (nI (48 + (5 - g))).toInt64 0)))) (va_runV (As := [.long ((nI (48 + (5 - g))).toInt64)]) (rest := []) ⟨hx, hb, hml, hown, hts⟩ (k_put0 l D cI cC cZ cG tb lo hi H.size bd (sText ρ 0 (sT ρ)) (ok2.text _ (by omega)) (nI (48 + (5 - g))).toInt64 (ch_num _ (by omega) (by omega)).1 (show 0 + 1 ≤ 60 by omega)) (cwV 1 hts gL_isStep_X3_put rfl rfl rfl hy_X3_put ⟨Nat.le_of_ble_eq_true rfl, Nat.le_of_ble_eq_true rfl⟩) (b_pWc hK (b_PR hP) (b_DR hD) (b_Xok_X tb lo hi) (b_Xc0 hX (b_DR hD) hS hA) (hc_0 _ _ _ _ _ _)) rfl rfl hl.1 rfl (lv_room (Nat.le_of_ble_eq_true rfl)) dL_isStep_727 ⟨Nat.zero_le _, Nat.zero_le _⟩) hP hD hS hA (hc_ad _ _ _ _ _ _ _) (fun H locs hP hD hS => ?_)
      refine b_re (show _ = nI 1 from rfl) ?_
      refine lv_if_le (pc := 730) (tgt := 737) hx hb dL_isStep_730 (by decide) (fun c_3 => ?_) (fun c_3 => ?_)
      · skip
        have c_3 : 1 ≤ 0 := (nI_leI (a := 1) (b := 0) (by omega) (by omega)).mp c_3
        exact absurd c_3 (by omega)
      · skip
        have c_3 : ¬ (1 ≤ 0) := fun h9 => c_3 ((nI_leI (a := 1) (b := 0) (by omega) (by omega)).mpr h9)
        refine lv_iconst (pc := 733) (v := 1) hx hb dL_isStep_733 (by decide) ?_
        refine lv_goto (pc := 734) (tgt := 738) hx hb dL_isStep_734 (by decide) ?_
        refine lv_istore (pc := 738) (lv' := [(7, .int 1), (6, .int (nI n)), (0, .ref (ad 0)), (1, .ref (bd 0)), (2, .int x), (3, .int y), (4, .int (x >>> (4 &&& 31))), (5, .int (nI g))]) hx hb dL_isStep_738 hl (by decide) rfl (fun ls hl => ?_)
        refine lv_aload_n (pc := 740) hx hb dL_isStep_740 rfl (lv_at hl 2 rfl) ?_
        refine b_cR (pc := 741) (va_runS (As := [.ref (ad 0)]) (rest := []) ⟨hx, hb, hml, hown, hts⟩ (c_L_ended l D cI cC cZ cG ad σ ok) (va_cwS 1 hts gL_isStep_L_ended rfl rfl rfl hyS_L_ended ⟨Nat.le_of_ble_eq_true rfl, Nat.le_of_ble_eq_true rfl⟩) (b_pRs hK (b_PL hP)) rfl rfl hl.1 rfl (lv_room (Nat.le_of_ble_eq_true rfl)) dL_isStep_741 ⟨Nat.zero_le _, Nat.zero_le _⟩) ?_
        refine lv_istore (pc := 744) (lv' := [(8, .int (n_end σ.1)), (7, .int 1), (6, .int (nI n)), (0, .ref (ad 0)), (1, .ref (bd 0)), (2, .int x), (3, .int y), (4, .int (x >>> (4 &&& 31))), (5, .int (nI g))]) hx hb dL_isStep_744 hl (by decide) rfl (fun ls hl => ?_)
        refine lv_iconst (pc := 746) (v := 0) hx hb dL_isStep_746 (by decide) ?_
        refine lv_istore (pc := 747) (lv' := [(9, .int 0), (8, .int (n_end σ.1)), (7, .int 1), (6, .int (nI n)), (0, .ref (ad 0)), (1, .ref (bd 0)), (2, .int x), (3, .int y), (4, .int (x >>> (4 &&& 31))), (5, .int (nI g))]) hx hb dL_isStep_747 hl (by decide) rfl (fun ls hl => ?_)
        have loop_749 : ∀ (fu : Nat) (k : Nat) (τ : HS) (tx : Nat → Int32) (b : Nat → Nat), (k ≤ n) → (sOk τ) → (τ.1 = evs g b k σ.1) → (sSL τ = sSL σ) → (sSv τ = sSv σ) → (EvT tx (5 - g) b k) → (∀ j, j < k → b j < 3) → n - k < fu → ∀ (H : Heap) (locs : List Loc), va_P D vwCl (hc cI cC cZ cG ad τ ++ hc cI cC cZ cG bd (sText ρ (k + 1) tx)) H → va_D A (hc cI cC cZ cG ad τ ++ hc cI cC cZ cG bd (sText ρ (k + 1) tx)) → va_S A s.heap H locs → ∀ (ls : Array Slot), lv_has ls 13 [(9, .int (nI k)), (8, .int (n_end σ.1)), (7, .int 1), (6, .int (nI n)), (5, .int (nI g)), (3, .int y), (1, .ref (bd 0)), (0, .ref (ad 0))] → W p l e ({ frames := 7, cells := 0, slots := 0, locals := 160 } : Room) s m (st_av ad bd x y) below meth c H locs 0 0 Q (F0 m 749 ls []) := by
          intro fu
          induction fu with
          | zero => intro k τ tx b hk ho hτ h1 h2 ht hb3 hfu H locs hP hD hS ls hl; exact absurd hfu (Nat.not_lt_zero _)
          | succ fu ih_749 =>
            intro k τ tx b hk ho hτ h1 h2 ht hb3 hfu H locs hP hD hS ls hl
            refine lv_iload (pc := 749) hx hb dL_isStep_749 (lv_at hl 0 rfl) ?_
            refine lv_iload (pc := 751) hx hb dL_isStep_751 (lv_at hl 3 rfl) ?_
            refine lv_icmp_ge (pc := 753) (tgt := 864) hx hb dL_isStep_753 (by decide) (fun c_4 => ?_) (fun c_4 => ?_)
            · skip
              have c_4 : n ≤ k := (nI_leI (a := n) (b := k) (by omega) (by omega)).mp c_4
              have hkn : k = n := by omega
              refine lv_iload (pc := 864) hx hb dL_isStep_864 (lv_at hl 2 rfl) ?_
              refine lv_if_eq (pc := 866) (tgt := 887) hx hb dL_isStep_866 (by decide) (fun c_5 => ?_) (fun c_5 => ?_)
              · skip
                exact absurd c_5 (by decide)
              · skip
                refine lv_aload_n (pc := 869) hx hb dL_isStep_869 rfl (lv_at hl 6 rfl) ?_
                refine b_cWr (pc := 870) (w1 := hc cI cC cZ cG bd (sKeep (sText ρ (k + 1) tx) (p_hap (sT (sText ρ (k + 1) tx)) (sN (sText ρ (k + 1) tx)) (sN (sText ρ (k + 1) tx) + 1) 0 0 (sText ρ (k + 1) tx).1 0).1 0)) (va_runV (As := []) (rest := []) ⟨hx, hb, hml, hown, hts⟩ (k_read l D cI cC cZ cG tb lo hi H.size bd (sText ρ (k + 1) tx) (ok2.text tx (show k + 1 ≤ 60 by omega)) (ev_ff (by omega) (by omega) hb3 ht)) (cwV 0 hts gL_isStep_X3_read rfl rfl rfl hy_X3_read ⟨Nat.le_of_ble_eq_true rfl, Nat.le_of_ble_eq_true rfl⟩) (b_pWc hK (b_PR hP) (b_DR hD) (b_Xok_X tb lo hi) (b_Xc0 hX (b_DR hD) hS hA) (hc_0 _ _ _ _ _ _)) rfl rfl hl.1 rfl (lv_room (Nat.le_of_ble_eq_true rfl)) dL_isStep_870 ⟨Nat.zero_le _, Nat.zero_le _⟩) hP hD hS hA (hc_ad _ _ _ _ _ _ _) (fun H locs hP hD hS => ?_)
                have eh : (p_hap (sT (sText ρ (k + 1) tx)) (sN (sText ρ (k + 1) tx)) (sN (sText ρ (k + 1) tx) + 1) 0 0 (sText ρ (k + 1) tx).1 0) = (evs (5 - g) b k ρ.1, evc (5 - g) b k ρ.1) := ev_hap (by omega) hb3 ht
                refine b_re (show _ = evc (5 - g) b k ρ.1 from congrArg Prod.snd eh) ?_
                have eF : (p_hap (sT (sText ρ (k + 1) tx)) (sN (sText ρ (k + 1) tx)) (sN (sText ρ (k + 1) tx) + 1) 0 0 (sText ρ (k + 1) tx).1 0).1 = evs (5 - g) b k ρ.1 := congrArg Prod.fst eh
                rw [eF] at hP hD
                refine lv_aload_n (pc := 873) hx hb dL_isStep_873 rfl (lv_at hl 7 rfl) ?_
                refine b_cR (pc := 874) (va_runS (As := [.ref (ad 0)]) (rest := [.int (evc (5 - g) b k ρ.1)]) ⟨hx, hb, hml, hown, hts⟩ (c_L_ended l D cI cC cZ cG ad τ ho) (va_cwS 1 hts gL_isStep_L_ended rfl rfl rfl hyS_L_ended ⟨Nat.le_of_ble_eq_true rfl, Nat.le_of_ble_eq_true rfl⟩) (b_pRs hK (b_PL hP)) rfl rfl hl.1 rfl (lv_room (Nat.le_of_ble_eq_true rfl)) dL_isStep_874 ⟨Nat.zero_le _, Nat.zero_le _⟩) ?_
                refine lv_iload (pc := 877) hx hb dL_isStep_877 (lv_at hl 1 rfl) ?_
                refine lv_isub (pc := 879) hx hb dL_isStep_879 ?_
                refine lv_icmp_ne (pc := 880) (tgt := 887) hx hb dL_isStep_880 (by decide) (fun c_6 => ?_) (fun c_6 => ?_)
                · skip
                  have c_6 : ¬ ((evc (5 - g) b k ρ.1) = ((n_end τ.1) - (n_end σ.1))) := c_6
                  exact absurd (by rw [hτ]; exact ev_told hg hM) c_6
                · skip
                  have c_6 : (evc (5 - g) b k ρ.1) = ((n_end τ.1) - (n_end σ.1)) := c_6
                  refine lv_iconst (pc := 883) (v := 1) hx hb dL_isStep_883 (by decide) ?_
                  refine lv_goto (pc := 884) (tgt := 888) hx hb dL_isStep_884 (by decide) ?_
                  subst hQ
                  exact st_ret hx hb hr hlocks hS (hR.events hN hg (by omega) hb3 ho (sOk.keep (ok2.text tx (show k + 1 ≤ 60 by omega)) _ (by omega)) hτ rfl h1 h2 rfl rfl) hP dL_isStep_888
            · skip
              have c_4 : ¬ (n ≤ k) := fun h9 => c_4 ((nI_leI (a := n) (b := k) (by omega) (by omega)).mpr h9)
              refine lv_iload (pc := 756) hx hb dL_isStep_756 (lv_at hl 2 rfl) ?_
              refine lv_if_eq (pc := 758) (tgt := 864) hx hb dL_isStep_758 (by decide) (fun c_7 => ?_) (fun c_7 => ?_)
              · skip
                exact absurd c_7 (by decide)
              · skip
                refine wj_cut (a := ∀ (bm : Nat), (bm < 3) → W p l e ({ frames := 7, cells := 0, slots := 0, locals := 160 } : Room) s m (st_av ad bd x y) below meth c H locs 0 0 Q (F0 m 805 ls [.int (nI bm)])) ?_ (fun J_8 => ?_)
                · skip
                  intro bm hjJ_8
                  have hbm : bm < 3 := hjJ_8
                  refine lv_istore (pc := 805) (lv' := [(10, .int (nI bm)), (9, .int (nI k)), (8, .int (n_end σ.1)), (7, .int 1), (6, .int (nI n)), (5, .int (nI g)), (3, .int y), (1, .ref (bd 0)), (0, .ref (ad 0))]) hx hb dL_isStep_805 hl (by decide) rfl (fun ls hl => ?_)
                  refine lv_aload_n (pc := 807) hx hb dL_isStep_807 rfl (lv_at hl 8 rfl) ?_
                  refine lv_iload (pc := 808) hx hb dL_isStep_808 (lv_at hl 5 rfl) ?_
                  refine lv_iload (pc := 810) hx hb dL_isStep_810 (lv_at hl 0 rfl) ?_
                  refine b_cWl (pc := 812) (w1 := hc cI cC cZ cG ad (sKeep τ (h_change τ.1 g bm) (sN τ))) (va_runS (As := [.ref (ad 0), .int (nI g), .int (nI bm)]) (rest := []) ⟨hx, hb, hml, hown, hts⟩ (c_L_isEvent l D cI cC cZ cG tb lo hi H.size ad τ ho g bm (N + k) hg hbm (by omega) (by rw [hτ]; exact evs_inv hg (by omega) hI k (by omega) hb3)) (va_cwS 3 hts gL_isStep_L_isEvent rfl rfl rfl hyS_L_isEvent ⟨Nat.le_of_ble_eq_true rfl, Nat.le_of_ble_eq_true rfl⟩) (b_pWs hK (b_PL hP) (b_DL hD) (b_Xok_X tb lo hi) (b_Xc0 hX (b_DL hD) hS hA)) rfl rfl hl.1 rfl (lv_room (Nat.le_of_ble_eq_true rfl)) dL_isStep_812 ⟨Nat.zero_le _, Nat.zero_le _⟩) hP hD hS hA (hc_ad _ _ _ _ _ _ _) (fun H locs hP hD hS => ?_)
                  refine lv_if_eq (pc := 815) (tgt := 855) hx hb dL_isStep_815 (by decide) (fun c_9 => ?_) (fun c_9 => ?_)
                  · skip
                    exact absurd c_9 (by decide)
                  · skip
                    refine lv_aload_n (pc := 818) hx hb dL_isStep_818 rfl (lv_at hl 7 rfl) ?_
                    refine wj_cut (a := W p l e ({ frames := 7, cells := 0, slots := 0, locals := 160 } : Room) s m (st_av ad bd x y) below meth c H locs 0 0 Q (F0 m 845 ls [.long ((nI (ltr bm)).toInt64), .ref (bd 0)])) ?_ (fun J_10 => ?_)
                    · skip
                      refine b_cWr (pc := 845) (w1 := hc cI cC cZ cG bd (sText ρ (k + 1 + 1) (upd tx (k + 1) (p_code (nI (ltr bm)).toInt64 0)))) (va_runV (As := [.long ((nI (ltr bm)).toInt64)]) (rest := []) ⟨hx, hb, hml, hown, hts⟩ (k_put0 l D cI cC cZ cG tb lo hi H.size bd (sText ρ (k + 1) tx) (ok2.text tx (show k + 1 ≤ 60 by omega)) (nI (ltr bm)).toInt64 (ch_num _ (ltr_rng hbm).2 (ltr_rng hbm).1).1 (show k + 1 + 1 ≤ 60 by omega)) (cwV 1 hts gL_isStep_X3_put rfl rfl rfl hy_X3_put ⟨Nat.le_of_ble_eq_true rfl, Nat.le_of_ble_eq_true rfl⟩) (b_pWc hK (b_PR hP) (b_DR hD) (b_Xok_X tb lo hi) (b_Xc0 hX (b_DR hD) hS hA) (hc_0 _ _ _ _ _ _)) rfl rfl hl.1 rfl (lv_room (Nat.le_of_ble_eq_true rfl)) dL_isStep_845 ⟨Nat.zero_le _, Nat.zero_le _⟩) hP hD hS hA (hc_ad _ _ _ _ _ _ _) (fun H locs hP hD hS => ?_)
                      refine b_re (show _ = nI (k + 1 + 1) from rfl) ?_
                      refine lv_if_le (pc := 848) (tgt := 855) hx hb dL_isStep_848 (by decide) (fun c_11 => ?_) (fun c_11 => ?_)
                      · skip
                        have c_11 : k + 1 + 1 ≤ 0 := (nI_leI (a := k + 1 + 1) (b := 0) (by omega) (by omega)).mp c_11
                        exact absurd c_11 (by omega)
                      · skip
                        have c_11 : ¬ (k + 1 + 1 ≤ 0) := fun h9 => c_11 ((nI_leI (a := k + 1 + 1) (b := 0) (by omega) (by omega)).mpr h9)
                        refine lv_iconst (pc := 851) (v := 1) hx hb dL_isStep_851 (by decide) ?_
                        refine lv_goto (pc := 852) (tgt := 856) hx hb dL_isStep_852 (by decide) ?_
                        refine lv_istore (pc := 856) (lv' := [(7, .int 1), (10, .int (nI bm)), (9, .int (nI k)), (8, .int (n_end σ.1)), (6, .int (nI n)), (5, .int (nI g)), (3, .int y), (1, .ref (bd 0)), (0, .ref (ad 0))]) hx hb dL_isStep_856 hl (by decide) rfl (fun ls hl => ?_)
                        refine lv_iinc (pc := 858) (v := nI (k + 1)) (lv' := [(9, .int (nI (k + 1))), (7, .int 1), (10, .int (nI bm)), (8, .int (n_end σ.1)), (6, .int (nI n)), (5, .int (nI g)), (3, .int y), (1, .ref (bd 0)), (0, .ref (ad 0))]) hx hb dL_isStep_858 hl (k := 2) rfl (nI_add k 1) (by decide) rfl (fun ls hl => ?_)
                        refine lv_goto (pc := 861) (tgt := 749) hx hb dL_isStep_861 (by decide) ?_
                        exact ih_749 (k + 1) (sKeep τ (h_change τ.1 g bm) (sN τ)) (upd tx (k + 1) (p_code (nI (ltr bm)).toInt64 0)) (bput b k bm) (by omega) (ho.keep _ ho.1) (by show h_change τ.1 g bm = _; rw [hτ]; exact evs_put.symm) h1 h2 (ht.put hbm) (bput_lt hb3 hbm) (by omega) _ _ hP hD hS ls (lv_sub hl [0, 3, 1, 4, 5, 6, 7, 8] rfl)
                    · skip
                      refine lv_iload (pc := 819) hx hb dL_isStep_819 (lv_at hl 0 rfl) ?_
                      refine lv_if_ne (pc := 821) (tgt := 830) hx hb dL_isStep_821 (by decide) (fun c_12 => ?_) (fun c_12 => ?_)
                      · skip
                        have c_12 : ¬ (bm = 0) := fun h9 => c_12 ((nI_eq (a := bm) (b := 0) (by omega) (by omega)).mpr h9)
                        refine lv_iload (pc := 830) hx hb dL_isStep_830 (lv_at hl 0 rfl) ?_
                        refine lv_iconst (pc := 832) (v := 1) hx hb dL_isStep_832 (by decide) ?_
                        refine lv_icmp_ne (pc := 833) (tgt := 842) hx hb dL_isStep_833 (by decide) (fun c_13 => ?_) (fun c_13 => ?_)
                        · skip
                          have c_13 : ¬ (bm = 1) := fun h9 => c_13 ((nI_eq (a := bm) (b := 1) (by omega) (by omega)).mpr h9)
                          refine lv_ldc2 (pc := 842) hx hb hown (hts _ hw_st_c7_0) dL_isStep_842 ?_
                          exact b_rl (by rw [show bm = 2 by omega]; decide) J_10
                        · skip
                          have c_13 : bm = 1 := (nI_eq (a := bm) (b := 1) (by omega) (by omega)).mp c_13
                          refine lv_ldc2 (pc := 836) hx hb hown (hts _ hw_st_c7_1) dL_isStep_836 ?_
                          refine lv_goto (pc := 839) (tgt := 845) hx hb dL_isStep_839 (by decide) ?_
                          exact b_rl (by rw [show bm = 1 by omega]; decide) J_10
                      · skip
                        have c_12 : bm = 0 := (nI_eq (a := bm) (b := 0) (by omega) (by omega)).mp c_12
                        refine lv_ldc2 (pc := 824) hx hb hown (hts _ hw_st_c7_2) dL_isStep_824 ?_
                        refine lv_goto (pc := 827) (tgt := 845) hx hb dL_isStep_827 (by decide) ?_
                        exact b_rl (by rw [show bm = 0 by omega]; decide) J_10
                · skip
                  refine lv_iload_n (pc := 761) hx hb dL_isStep_761 rfl (lv_at hl 5 rfl) ?_
                  refine lv_iconst (pc := 762) (v := 2) hx hb dL_isStep_762 (by decide) ?_
                  refine lv_iload (pc := 763) hx hb dL_isStep_763 (lv_at hl 0 rfl) ?_
                  refine lv_iadd (pc := 765) hx hb dL_isStep_765 ?_
                  refine b_re (nI_add 2 k) ?_
                  refine lv_ishr (pc := 766) hx hb dL_isStep_766 ?_
                  refine lv_bipush (pc := 767) (v := 11) hx hb dL_isStep_767 (by decide) ?_
                  refine b_cR (pc := 769) (va_runS (As := [.int (y >>> ((nI (2 + k)) &&& 31)), .int 11]) (rest := []) ⟨hx, hb, hml, hown, hts⟩ (c_L_up l D cI cC cZ cG (y >>> ((nI (2 + k)) &&& 31)) 11 (by omega) (by omega)) (va_cwS 2 hts gL_isStep_L_up rfl rfl rfl hyS_L_up ⟨Nat.le_of_ble_eq_true rfl, Nat.le_of_ble_eq_true rfl⟩) (b_pRs hK (fun k q hk => by simp at hk)) rfl rfl hl.1 rfl (lv_room (Nat.le_of_ble_eq_true rfl)) dL_isStep_769 ⟨Nat.zero_le _, Nat.zero_le _⟩) ?_
                  obtain ⟨u0, eu0⟩ : ∃ z : Nat, u_up (y >>> ((nI (2 + k)) &&& 31)) 11 = z := ⟨_, rfl⟩
                  have hu0 : u0 < 11 := eu0 ▸ u_lt _ (by omega)
                  refine b_re (congrArg nI eu0) ?_
                  refine lv_if_ne (pc := 772) (tgt := 779) hx hb dL_isStep_772 (by decide) (fun c_14 => ?_) (fun c_14 => ?_)
                  · skip
                    have c_14 : ¬ (u0 = 0) := fun h9 => c_14 ((nI_eq (a := u0) (b := 0) (by omega) (by omega)).mpr h9)
                    refine lv_iload (pc := 779) hx hb dL_isStep_779 (lv_at hl 3 rfl) ?_
                    refine lv_iconst (pc := 781) (v := 1) hx hb dL_isStep_781 (by decide) ?_
                    refine lv_icmp_ne (pc := 782) (tgt := 795) hx hb dL_isStep_782 (by decide) (fun c_15 => ?_) (fun c_15 => ?_)
                    · skip
                      have c_15 : ¬ (n = 1) := fun h9 => c_15 ((nI_eq (a := n) (b := 1) (by omega) (by omega)).mpr h9)
                      refine lv_iload (pc := 795) hx hb dL_isStep_795 (lv_at hl 0 rfl) ?_
                      refine lv_iload_n (pc := 797) hx hb dL_isStep_797 rfl (lv_at hl 5 rfl) ?_
                      refine lv_iconst (pc := 798) (v := 2) hx hb dL_isStep_798 (by decide) ?_
                      refine b_cR (pc := 799) (va_runS (As := [.int y, .int 2]) (rest := [.int (nI k)]) ⟨hx, hb, hml, hown, hts⟩ (c_L_up l D cI cC cZ cG y 2 (by omega) (by omega)) (va_cwS 2 hts gL_isStep_L_up rfl rfl rfl hyS_L_up ⟨Nat.le_of_ble_eq_true rfl, Nat.le_of_ble_eq_true rfl⟩) (b_pRs hK (fun k q hk => by simp at hk)) rfl rfl hl.1 rfl (lv_room (Nat.le_of_ble_eq_true rfl)) dL_isStep_799 ⟨Nat.zero_le _, Nat.zero_le _⟩) ?_
                      obtain ⟨u1, eu1⟩ : ∃ z : Nat, u_up y 2 = z := ⟨_, rfl⟩
                      have hu1 : u1 < 2 := eu1 ▸ u_lt _ (by omega)
                      refine b_re (congrArg nI eu1) ?_
                      refine lv_iadd (pc := 802) hx hb dL_isStep_802 ?_
                      refine b_re (nI_add k u1) ?_
                      refine lv_iconst (pc := 803) (v := 2) hx hb dL_isStep_803 (by decide) ?_
                      refine lv_irem (pc := 804) hx hb dL_isStep_804 (nI_ne0 (n := 2) (by omega) (by omega)) ?_
                      refine b_re (nI_rem (a := k + u1) (n := 2) (by omega) (by omega) (by omega)) ?_
                      exact J_8 ((k + u1) % 2) (by omega)
                    · skip
                      have c_15 : n = 1 := (nI_eq (a := n) (b := 1) (by omega) (by omega)).mp c_15
                      refine lv_iload_n (pc := 785) hx hb dL_isStep_785 rfl (lv_at hl 5 rfl) ?_
                      refine lv_iconst (pc := 786) (v := 5) hx hb dL_isStep_786 (by decide) ?_
                      refine lv_ishr (pc := 787) hx hb dL_isStep_787 ?_
                      refine lv_iconst (pc := 788) (v := 2) hx hb dL_isStep_788 (by decide) ?_
                      refine b_cR (pc := 789) (va_runS (As := [.int (y >>> (5 &&& 31)), .int 2]) (rest := []) ⟨hx, hb, hml, hown, hts⟩ (c_L_up l D cI cC cZ cG (y >>> (5 &&& 31)) 2 (by omega) (by omega)) (va_cwS 2 hts gL_isStep_L_up rfl rfl rfl hyS_L_up ⟨Nat.le_of_ble_eq_true rfl, Nat.le_of_ble_eq_true rfl⟩) (b_pRs hK (fun k q hk => by simp at hk)) rfl rfl hl.1 rfl (lv_room (Nat.le_of_ble_eq_true rfl)) dL_isStep_789 ⟨Nat.zero_le _, Nat.zero_le _⟩) ?_
                      obtain ⟨u2, eu2⟩ : ∃ z : Nat, u_up (y >>> (5 &&& 31)) 2 = z := ⟨_, rfl⟩
                      have hu2 : u2 < 2 := eu2 ▸ u_lt _ (by omega)
                      refine b_re (congrArg nI eu2) ?_
                      refine lv_goto (pc := 792) (tgt := 805) hx hb dL_isStep_792 (by decide) ?_
                      exact J_8 u2 (by omega)
                  · skip
                    have c_14 : u0 = 0 := (nI_eq (a := u0) (b := 0) (by omega) (by omega)).mp c_14
                    refine lv_iconst (pc := 775) (v := 2) hx hb dL_isStep_775 (by decide) ?_
                    refine lv_goto (pc := 776) (tgt := 805) hx hb dL_isStep_776 (by decide) ?_
                    exact b_re (show _ = nI 2 from by decide) (J_8 2 (by omega))
        exact loop_749 (n + 1) 0 σ (upd (sT ρ) 0 (p_code (nI (48 + (5 - g))).toInt64 0)) (fun _ => 0) (Nat.zero_le _) ok rfl rfl rfl (EvT.new (by omega)) (fun j hj => absurd hj (by omega)) (by omega) _ _ hP hD hS ls (lv_sub hl [0, 1, 2, 3, 9, 7, 5, 4] rfl)
  · skip
    refine lv_iload_n (pc := 695) hx hb dL_isStep_695 rfl (lv_at hl 2 rfl) ?_
    refine lv_bipush (pc := 696) (v := 18) hx hb dL_isStep_696 (by decide) ?_
    refine b_cR (pc := 698) (va_runS (As := [.int x, .int 18]) (rest := []) ⟨hx, hb, hml, hown, hts⟩ (c_L_up l D cI cC cZ cG x 18 (by omega) (by omega)) (va_cwS 2 hts gL_isStep_L_up rfl rfl rfl hyS_L_up ⟨Nat.le_of_ble_eq_true rfl, Nat.le_of_ble_eq_true rfl⟩) (b_pRs hK (fun k q hk => by simp at hk)) rfl rfl hl.1 rfl (lv_room (Nat.le_of_ble_eq_true rfl)) dL_isStep_698 ⟨Nat.zero_le _, Nat.zero_le _⟩) ?_
    obtain ⟨u3, eu3⟩ : ∃ z : Nat, u_up x 18 = z := ⟨_, rfl⟩
    have hu3 : u3 < 18 := eu3 ▸ u_lt _ (by omega)
    refine b_re (congrArg nI eu3) ?_
    refine lv_bipush (pc := 701) (v := 11) hx hb dL_isStep_701 (by decide) ?_
    refine lv_icmp_ge (pc := 703) (tgt := 710) hx hb dL_isStep_703 (by decide) (fun c_16 => ?_) (fun c_16 => ?_)
    · skip
      have c_16 : 11 ≤ u3 := (nI_leI (a := 11) (b := u3) (by omega) (by omega)).mp c_16
      refine lv_iconst (pc := 710) (v := 1) hx hb dL_isStep_710 (by decide) ?_
      exact b_re (show _ = nI 1 from by decide) (J_1 1 (by omega))
    · skip
      have c_16 : ¬ (11 ≤ u3) := fun h9 => c_16 ((nI_leI (a := 11) (b := u3) (by omega) (by omega)).mpr h9)
      refine lv_iconst (pc := 706) (v := 4) hx hb dL_isStep_706 (by decide) ?_
      refine lv_goto (pc := 707) (tgt := 711) hx hb dL_isStep_707 (by decide) ?_
      exact b_re (show _ = nI 4 from by decide) (J_1 4 (by omega))
