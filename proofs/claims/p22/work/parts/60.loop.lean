/-! the law's loop -/
set_option maxHeartbeats 4000000 in
set_option maxRecDepth 100000 in
theorem law_loop {p : Program} {l : Launch} {e : Env} {s : State} {m : MethodId} {below : List Frame} {meth : Method} {c : Code} {D : va_G} {cI cC cZ cG : ClassId} {tb lo hi b L : Nat} {xs : Nat → Int32} {ad bd : Nat → Nat} (C : lw_C p s m meth c D cI cC cZ cG (fun q : Nat => s.heap.size ≤ q) tb lo hi b L xs) (hr : meth.sig.returnType = ret) (hlocks : meth.locks = false) (hL : L ≤ 260) : ∀ (n k : Nat), k + n = 60 → ∀ (σ ρ : HS), Rel (100 * k) σ ρ → ∀ (H : Heap) (locs : List Loc) (cells slots : Nat), cells + n ≤ 600000 → slots + 6 * n ≤ 7302250 → va_P D vwCl (hc cI cC cZ cG ad σ ++ hc cI cC cZ cG bd ρ) H → va_D (fun q : Nat => s.heap.size ≤ q) (hc cI cC cZ cG ad σ ++ hc cI cC cZ cG bd ρ) → va_S (fun q : Nat => s.heap.size ≤ q) s.heap H locs → ∀ (ls : Array Slot), lv_has ls 5 [(0, .ref b), (1, .ref (ad 0)), (2, .ref (bd 0)), (3, .int 1), (4, .int (nI k))] → W p l e room_1 s m #[Value.ref b] below meth c H locs cells slots (lw_Z below #[Value.ref b] s) (F0 m 21 ls []) := by
  intro n
  induction n with
  | zero =>
    intro k hkn σ ρ hR H locs cells slots hc1 hs1 hP hD hS ls hl
    obtain ⟨hx, hb, hml, hown, hts, hXs, hbl, hbA, hA, hK, hX⟩ := id C
    refine lv_iload (pc := 21) hx hb dL_law_21 (lv_at hl 4 rfl) ?_
    refine lv_bipush (pc := 23) (v := 60) hx hb dL_law_23 (by decide) ?_
    have ek : k = 60 := by omega
    subst ek
    obtain ⟨⟨ok, ok2⟩, ⟨hI, hI2, hM⟩, -⟩ := id hR
    refine lv_icmp_ge (pc := 25) (tgt := 75) hx hb dL_law_25 (by decide) (fun c_1 => ?_) (fun c_1 => absurd (by decide : (60 : Int32) ≤ nI 60) c_1)
    refine lv_iload_n (pc := 75) hx hb dL_law_75 rfl (lv_at hl 3 rfl) ?_
    refine lv_if_eq (pc := 76) (tgt := 91) hx hb dL_law_76 (by decide) (fun c_1 => absurd c_1 (by decide)) (fun c_1 => ?_)
    refine lv_aload_n (pc := 79) hx hb dL_law_79 rfl (lv_at hl 1 rfl) ?_
    refine lv_aload_n (pc := 80) hx hb dL_law_80 rfl (lv_at hl 2 rfl) ?_
    refine b_cR (pc := 81) (va_runS (As := [.ref (ad 0), .ref (bd 0)]) (rest := []) ⟨hx, hb, hml, hown, hts⟩ (c_L_areAlike l D cI cC cZ cG ad bd σ ρ ok ok2 (100 * 60) (by omega) hI hI2 hM) (va_cwS 2 hts gL_law_L_areAlike rfl rfl rfl hyS_L_areAlike ⟨Nat.le_of_ble_eq_true rfl, Nat.le_of_ble_eq_true rfl⟩) (b_pRs hK hP) rfl rfl hl.1 rfl (lv_room (Nat.le_of_ble_eq_true rfl)) dL_law_81 ⟨show cells + 0 ≤ 600000 by omega, show slots + 0 ≤ 7302250 by omega⟩) ?_
    refine lv_if_eq (pc := 84) (tgt := 91) hx hb dL_law_84 (by decide) (fun c_1 => absurd c_1 (by decide)) (fun c_1 => ?_)
    refine lv_iconst (pc := 87) (v := 1) hx hb dL_law_87 (by decide) ?_
    refine lv_goto (pc := 88) (tgt := 92) hx hb dL_law_88 (by decide) ?_
    refine W.widen (k := 600000) (n := 7302250) (by omega) (by omega) ?_
    refine va_forget (fun q hq => hS.2.2 q hq) ?_
    exact lw_ret hx hb hr hlocks dL_law_92
  | succ n ih =>
    intro k hkn σ ρ hR H locs cells slots hc1 hs1 hP hD hS ls hl
    obtain ⟨hx, hb, hml, hown, hts, hXs, hbl, hbA, hA, hK, hX⟩ := id C
    refine lv_iload (pc := 21) hx hb dL_law_21 (lv_at hl 4 rfl) ?_
    refine lv_bipush (pc := 23) (v := 60) hx hb dL_law_23 (by decide) ?_
    refine lv_icmp_ge (pc := 25) (tgt := 75) hx hb dL_law_25 (by decide) (fun c_1 => ?_) (fun c_1 => ?_)
    · exact absurd ((nI_leI (a := 60) (b := k) (by omega) (by omega)).mp c_1) (by omega)
    refine lv_iload_n (pc := 28) hx hb dL_law_28 rfl (lv_at hl 3 rfl) ?_
    refine lv_if_eq (pc := 29) (tgt := 75) hx hb dL_law_29 (by decide) (fun c_1 => absurd c_1 (by decide)) (fun c_1 => ?_)
    have hXn : va_X b L xs s H := hXs.kept (hS.2.1 b hbl hbA)
    refine lv_aload_n (pc := 32) hx hb dL_law_32 rfl (lv_at hl 1 rfl) ?_
    refine lv_aload_n (pc := 33) hx hb dL_law_33 rfl (lv_at hl 2 rfl) ?_
    refine lv_aload_n (pc := 34) hx hb dL_law_34 rfl (lv_at hl 0 rfl) ?_
    refine lv_iload (pc := 35) hx hb dL_law_35 (lv_at hl 4 rfl) ?_
    refine vp_callSi (va_Run.run (va_runS (As := [.ref b, .int (nI (k))]) (rest := [.ref (bd 0), .ref (ad 0)]) ⟨hx, hb, hml, hown, hts⟩ (c_L_cell l b L xs (k) hL (by omega)) (va_cwS 2 hts gL_law_L_cell rfl rfl rfl hyS_L_cell ⟨Nat.le_of_ble_eq_true rfl, Nat.le_of_ble_eq_true rfl⟩) (lw_pre hXn) rfl rfl hl.1 rfl (lv_room (Nat.le_of_ble_eq_true rfl)) dL_law_37 ⟨show cells + 0 ≤ 600000 by omega, show slots + 0 ≤ 7302250 by omega⟩)) (fun v1 _ => ?_)
    refine lv_aload_n (pc := 40) hx hb dL_law_40 rfl (lv_at hl 0 rfl) ?_
    refine lv_iload (pc := 41) hx hb dL_law_41 (lv_at hl 4 rfl) ?_
    refine lv_iconst (pc := 43) (v := 1) hx hb dL_law_43 (by decide) ?_
    refine lv_iadd (pc := 44) hx hb dL_law_44 ?_
    refine b_re (nI_add k 1) ?_
    refine vp_callSi (va_Run.run (va_runS (As := [.ref b, .int (nI (k + 1))]) (rest := [.int v1, .ref (bd 0), .ref (ad 0)]) ⟨hx, hb, hml, hown, hts⟩ (c_L_cell l b L xs (k + 1) hL (by omega)) (va_cwS 2 hts gL_law_L_cell rfl rfl rfl hyS_L_cell ⟨Nat.le_of_ble_eq_true rfl, Nat.le_of_ble_eq_true rfl⟩) (lw_pre hXn) rfl rfl hl.1 rfl (lv_room (Nat.le_of_ble_eq_true rfl)) dL_law_45 ⟨show cells + 0 ≤ 600000 by omega, show slots + 0 ≤ 7302250 by omega⟩)) (fun v2 _ => ?_)
    refine lv_iconst (pc := 48) (v := 2) hx hb dL_law_48 (by decide) ?_
    refine lv_ishr (pc := 49) hx hb dL_law_49 ?_
    refine va_calli (va_runS (As := [.ref (ad 0), .ref (bd 0), .int v1, .int (v2 >>> (2 &&& 31))]) (rest := []) ⟨hx, hb, hml, hown, hts⟩ (c_L_isStep l D cI cC cZ cG tb lo hi H.size ad bd σ ρ (100 * k) v1 (v2 >>> (2 &&& 31)) hR (by omega)) (va_cwS 4 hts gL_law_L_isStep rfl rfl rfl hyS_L_isStep ⟨Nat.le_of_ble_eq_true rfl, Nat.le_of_ble_eq_true rfl⟩) (b_pWs hK hP hD (b_Xok_X tb lo hi) (b_Xc0 hX hD hS hA)) rfl rfl hl.1 rfl (lv_room (Nat.le_of_ble_eq_true rfl)) dL_law_50 ⟨show cells + 0 ≤ 600000 by omega, show slots + 0 ≤ 7302250 by omega⟩) hS (fun q _ h => b_fr hD hS hA q h) (b_fr hD hS hA) (fun r u t H1 locs1 ht _ hv hB _ _ hS1 => ?_)
    obtain ⟨er, hR1⟩ := hv
    subst er
    rw [ht] at hB
    have hD1 := b_D_addr hD (hc2_ad cI cC cZ cG ad bd σ u.1 ρ u.2)
    obtain ⟨⟨ok, ok2⟩, ⟨hI, hI2, hM⟩, -⟩ := id hR1
    refine lv_if_eq (pc := 53) (tgt := 67) hx hb dL_law_53 (by decide) (fun c_1 => absurd c_1 (by decide)) (fun c_1 => ?_)
    refine lv_aload_n (pc := 56) hx hb dL_law_56 rfl (lv_at hl 1 rfl) ?_
    refine b_cWlc (pc := 57) (va_runS (As := [.ref (ad 0)]) (rest := []) ⟨hx, hb, hml, hown, hts⟩ (c_L_isWell l D cI cC cZ cG tb lo hi H1.size ad u.1 ok (100 * k + 100) (by omega) hI) (va_cwS 1 hts gL_law_L_isWell rfl rfl rfl hyS_L_isWell ⟨Nat.le_of_ble_eq_true rfl, Nat.le_of_ble_eq_true rfl⟩) (b_pWs hK (b_PL hB) (b_DL hD1) (b_Xok_X tb lo hi) (b_Xc0 hX (b_DL hD1) hS1 hA)) rfl rfl hl.1 rfl (lv_room (Nat.le_of_ble_eq_true rfl)) dL_law_57 ⟨show cells + 0 + 1 ≤ 600000 by omega, show slots + 0 + 6 ≤ 7302250 by omega⟩) hB hD1 hS1 hA rfl (fun H2 locs2 hP2 hD2 hS2 => ?_)
    refine lv_if_eq (pc := 60) (tgt := 67) hx hb dL_law_60 (by decide) (fun c_1 => absurd c_1 (by decide)) (fun c_1 => ?_)
    refine lv_iconst (pc := 63) (v := 1) hx hb dL_law_63 (by decide) ?_
    refine lv_goto (pc := 64) (tgt := 68) hx hb dL_law_64 (by decide) ?_
    refine lv_istore_n (pc := 68) (lv' := [(3, .int 1), (0, .ref b), (1, .ref (ad 0)), (2, .ref (bd 0)), (4, .int (nI k))]) hx hb dL_law_68 rfl hl (by decide) rfl (fun ls hl => ?_)
    refine lv_iinc (pc := 69) (v := nI (k + 1)) (lv' := [(4, .int (nI (k + 1))), (3, .int 1), (0, .ref b), (1, .ref (ad 0)), (2, .ref (bd 0))]) hx hb dL_law_69 hl (k := 4) rfl (nI_add k 1) (by decide) rfl (fun ls hl => ?_)
    refine lv_goto (pc := 72) (tgt := 21) hx hb dL_law_72 (by decide) ?_
    exact ih (k + 1) (by omega) u.1 u.2 (by rw [show 100 * (k + 1) = 100 * k + 100 by omega]; exact hR1) H2 locs2 _ _ (by omega) (by omega) hP2 hD2 hS2 ls (lv_sub hl [2, 3, 4, 1, 0] rfl)
