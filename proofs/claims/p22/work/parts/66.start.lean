/-! the law, from its entry -/
theorem st_w0 : (.initialized RX3 : Cond) ∈ lw_tbl := tb_1 (List.mem_of_getElem? (i := 1) rfl)
theorem st_w1 : (.initialized RX0 : Cond) ∈ lw_tbl := tb_1 (List.mem_of_getElem? (i := 2) rfl)
theorem st_w2 : (.instantiable RX3 6 : Cond) ∈ lw_tbl := tb_1 (List.mem_of_getElem? (i := 9) rfl)
theorem st_w3 : (.instantiable RX0 1 : Cond) ∈ lw_tbl := tb_1 (List.mem_of_getElem? (i := 17) rfl)
theorem st_w4 : (.instantiable RX2 2 : Cond) ∈ lw_tbl := tb_1 (List.mem_of_getElem? (i := 32) rfl)
theorem st_w5 : (.instantiable RX1 3 : Cond) ∈ lw_tbl := tb_1 (List.mem_of_getElem? (i := 47) rfl)
theorem st_w6 : (.arrayClass .int : Cond) ∈ lw_tbl := tb_1 (List.mem_of_getElem? (i := 30) rfl)
theorem st_w7 : (.arrayClass .char : Cond) ∈ lw_tbl := tb_1 (List.mem_of_getElem? (i := 45) rfl)
theorem st_w8 : (.arrayClass .boolean : Cond) ∈ lw_tbl := tb_1 (List.mem_of_getElem? (i := 85) rfl)
theorem st_w9 : (.arrayOver (.array .int) : Cond) ∈ lw_tbl := tb_1 (List.mem_of_getElem? (i := 53) rfl)
theorem st_w10 : (.laysStatic "BeamTurnstiles" "LOWEST" "[I" : Cond) ∈ lw_tbl := tb_1 (List.mem_of_getElem? (i := 130) rfl)
theorem st_w11 : (.laysStatic "BeamTurnstiles" "HIGHEST" "[I" : Cond) ∈ lw_tbl := tb_1 (List.mem_of_getElem? (i := 132) rfl)
theorem st_w12 : (.laysStatic "BeamTurnstiles$Hall" "TURNED_BITS" "[I" : Cond) ∈ lw_tbl := tb_2 (List.mem_of_getElem? (i := 25) rfl)
theorem st_w13 : (.methodLinkNest RX3 21 yX2_init "BeamTurnstiles" : Cond) ∈ lw_tbl := tb_1 (List.mem_of_getElem? (i := 33) rfl)
theorem st_w14 : (.methodLinkNest RX3 28 yX1_init "BeamTurnstiles" : Cond) ∈ lw_tbl := tb_1 (List.mem_of_getElem? (i := 48) rfl)
theorem st_w15 : (.methodLinkNest RX1 23 yX3_copyRow "BeamTurnstiles" : Cond) ∈ lw_tbl := tb_1 (List.mem_of_getElem? (i := 137) rfl)
theorem st_w16 : (.methodLinkNest RX2 51 yX3_isNoGate "BeamTurnstiles" : Cond) ∈ lw_tbl := tb_2 (List.mem_of_getElem? (i := 19) rfl)
theorem st_l0 : (.classLink RL 10 RX3 : Cond) ∈ wsL_law := lf_wsL_law_r1 _ (List.mem_of_getElem? (i := 0) rfl)
theorem st_l1 : (.instantiable RX3 6 : Cond) ∈ wsL_law := lf_wsL_law_r1 _ (List.mem_of_getElem? (i := 1) rfl)
theorem st_l2 : (.initialized RX3 : Cond) ∈ wsL_law := lf_wsL_law_r1 _ (List.mem_of_getElem? (i := 2) rfl)
theorem st_l3 : (.methodLink RL 92 yX3_init : Cond) ∈ wsL_law := lf_wsL_law_r1 _ (List.mem_of_getElem? (i := 3) rfl)
theorem st_l4 : (.instanceMethod yX3_init : Cond) ∈ wsL_law := lf_wsL_law_r1 _ (List.mem_of_getElem? (i := 4) rfl)
def hs0 : HS := (h_ini 6, h_ini 6, fun _ => 0, 0, 0, 0, fun _ _ => 0, fun _ _ => 0, fun _ => 0)
theorem inv0 : Inv 0 (h_ini 6) := by
  refine ⟨by unfold HI; decide +kernel, fun g hg => ?_⟩
  match g, hg with
  | 0, _ => unfold LI CI; decide +kernel
  | 1, _ => unfold LI CI; decide +kernel
  | 2, _ => unfold LI CI; decide +kernel
  | 3, _ => unfold LI CI; decide +kernel
  | 4, _ => unfold LI CI; decide +kernel
  | 5, _ => unfold LI CI; decide +kernel
  | k + 6, z => exact absurd z (by omega)
theorem mir0 : Mir (h_ini 6) (h_ini 6) := ⟨fun _ _ => rfl, by decide +kernel⟩
theorem rel0 : Rel 0 hs0 hs0 := ⟨⟨⟨Nat.zero_le _, by decide, by decide⟩, ⟨Nat.zero_le _, by decide, by decide⟩⟩, ⟨inv0, inv0, mir0⟩, fun t ht => Or.inl ⟨rfl, rfl⟩⟩
theorem st_eqi {args : Array Value} {s : State} {tm : Term} {z : Int32} (h : (Cond.eq tm (.int z)).before args s = true) : tm.eval args s none [] s = some (.int z) := by
  cases hv : tm.eval args s none [] s with
  | none => simp [Cond.before, Cond.holds, Cond.value, hv] at h
  | some w =>
    have hz : (Term.int z).eval args s none [] s = some (.int z) := rfl
    simp only [Cond.before, Cond.holds, Cond.value, hv, hz] at h
    cases w <;> simp_all
/-- a static row of three numbers -/
theorem st_tab {args : Array Value} {s : State} {C n : String} {A : Nat → Prop} {g : Nat → Int32} {x0 x1 x2 : Int32} (e0 : g 0 = x0) (e1 : g 1 = x1) (e2 : g 2 = x2) (hl : (Cond.laysStatic C n "[I").before args s = true) (hini : (Cond.initialized C).before args s = true) (harr : (Cond.arrayOf (.static C n "[I") .int).before args s = true) (hlen : (Cond.eq (.length (.static C n "[I")) (.int 3)).before args s = true)
    (h0 : (Cond.eq (.elem (.static C n "[I") (.int 0)) (.int x0)).before args s = true) (h1 : (Cond.eq (.elem (.static C n "[I") (.int 1)) (.int x1)).before args s = true) (h2 : (Cond.eq (.elem (.static C n "[I") (.int 2)) (.int x2)).before args s = true) (hA : ∀ a : Nat, a < s.heap.size → ¬ A a) : ∃ t : Nat, va_Z C n "[I" (.ref t) A s s.heap ∧ va_T .int t 3 (fun j => .int (g j)) A s s.heap := by
  have hel : ∀ j : Nat, j < 3 → (Term.elem (.static C n "[I") (.int (Int32.ofNat j))).eval args s none [] s = some (.int (g j)) := by
    intro j hj
    match j, hj with
    | 0, _ =>
      rw [e0]
      exact st_eqi h0
    | 1, _ =>
      rw [e1]
      exact st_eqi h1
    | 2, _ =>
      rw [e2]
      exact st_eqi h2
    | k + 3, z => exact absurd z (by omega)
  obtain ⟨t, ht, hT⟩ := va_Tof (tm := .static C n "[I") (ty := .int) (N := 3) (f := fun j => .int (g j)) (A := A) (by decide) harr (st_eqi hlen) hel hA
  exact ⟨t, va_Zref hl hini ht hA, hT⟩
set_option maxHeartbeats 4000000 in
set_option maxRecDepth 100000 in
theorem whole_start {p : Program} {e : Env} {s : State} {m : MethodId} {below : List Frame} {meth : Method} {c : Code} (l : Launch) (hflags : l.flags = flags0) {b L : Nat} {xs : Nat → Int32} (hL : L ≤ 260) (C0 : lw_At p s m meth c b L xs) : W p l e room_1 s m #[Value.ref b] below meth c s.heap [] 0 0 (lw_Z below #[Value.ref b] s) (entryFrame m ([Value.ref b] : List Value).toArray 5) := by
  obtain ⟨hx, hb, hr, hml, hown, hts0, hXs, hbl, hlocks, hgv⟩ := id C0
  have hts : ∀ w ∈ wsL_law, w.before #[Value.ref b] s = true := fun w h => hts0 w (wsL_law_in w h)
  have hown : s.vm.findClass RL = some m.cls := hown
  have hA : ∀ q : Nat, s.heap.size ≤ q → (fun q : Nat => s.heap.size ≤ q) q := fun _ h => h
  have hbA : ¬ (fun q : Nat => s.heap.size ≤ q) b := Nat.not_le.mpr hbl
  have hfl := flat_of_before _ hgv
  obtain ⟨tb, hz_tb, ht_tb⟩ := st_tab (C := "BeamTurnstiles$Hall") (n := "TURNED_BITS") (A := fun q : Nat => s.heap.size ≤ q) (g := b_tb) (x0 := 1) (x1 := 3) (x2 := 2) rfl rfl rfl (hts0 _ st_w12) (hts0 _ st_w1) (hfl _ (by decide +kernel)) (hfl _ (by decide +kernel)) (hfl _ (by decide +kernel)) (hfl _ (by decide +kernel)) (hfl _ (by decide +kernel)) (fun a ha z => absurd ha (Nat.not_lt.mpr z))
  obtain ⟨lo, hz_lo, ht_lo⟩ := st_tab (C := "BeamTurnstiles") (n := "LOWEST") (A := fun q : Nat => s.heap.size ≤ q) (g := b_lo) (x0 := 1) (x1 := 0) (x2 := 1) rfl rfl rfl (hts0 _ st_w10) (hts0 _ st_w0) (hfl _ (by decide +kernel)) (hfl _ (by decide +kernel)) (hfl _ (by decide +kernel)) (hfl _ (by decide +kernel)) (hfl _ (by decide +kernel)) (fun a ha z => absurd ha (Nat.not_lt.mpr z))
  obtain ⟨hi, hz_hi, ht_hi⟩ := st_tab (C := "BeamTurnstiles") (n := "HIGHEST") (A := fun q : Nat => s.heap.size ≤ q) (g := b_hi) (x0 := 200) (x1 := 50) (x2 := 500) rfl rfl rfl (hts0 _ st_w11) (hts0 _ st_w0) (hfl _ (by decide +kernel)) (hfl _ (by decide +kernel)) (hfl _ (by decide +kernel)) (hfl _ (by decide +kernel)) (hfl _ (by decide +kernel)) (fun a ha z => absurd ha (Nat.not_lt.mpr z))
  obtain ⟨d0, i0, hKn0⟩ := u_known (C := RX0) (T := TX0) (N := 1) (n := 1) hts0 inX0 (hts0 _ st_w3)
  obtain ⟨d1, i1, hKn1⟩ := u_known (C := RX1) (T := TX1) (N := 3) (n := 3) hts0 inX1 (hts0 _ st_w5)
  obtain ⟨d2, i2, hKn2⟩ := u_known (C := RX2) (T := TX2) (N := 2) (n := 2) hts0 inX2 (hts0 _ st_w4)
  obtain ⟨d3, i3, hKn3⟩ := u_known (C := RX3) (T := TX3) (N := 6) (n := 6) hts0 inX3 (hts0 _ st_w2)
  obtain ⟨D, hKc⟩ : ∃ D : va_G, ∀ (k : Nat) (q : vw_C), vwCl[k]? = some q → u_Kn s q.1 q.2.1 q.2.2 (D.1 k) (D.2 k) := by
    refine ⟨(fun k => match k with | 0 => d0 | 1 => d1 | 2 => d2 | _ => d3, fun k => match k with | 0 => i0 | 1 => i1 | 2 => i2 | _ => i3), ?_⟩
    intro k q hq
    match k, hq with
    | 0, hq => cases hq; exact hKn0
    | 1, hq => cases hq; exact hKn1
    | 2, hq => cases hq; exact hKn2
    | 3, hq => cases hq; exact hKn3
    | k + 4, hq => simp [vwCl] at hq
  obtain ⟨cI, kI, ccI, fcI, hkI, kdI⟩ := Cond.arrayClass_spec (hts0 _ st_w6)
  obtain ⟨cC, kC, ccC, fcC, hkC, kdC⟩ := Cond.arrayClass_spec (hts0 _ st_w7)
  obtain ⟨cZ, kZ, ccZ, fcZ, hkZ, kdZ⟩ := Cond.arrayClass_spec (hts0 _ st_w8)
  have hAO0 := (hts0 _ st_w9)
  have hAO : b_AO s := hAO0
  obtain ⟨compG, cG, kG, fcG0, hkG, kdG, fcG⟩ := Cond.arrayOver_specA (t := .int) (first := s) (o := none) (idx := []) hAO0
  have hK : va_K D vwCl (b_T cI cC cZ cG) s := by
    refine ⟨hKc, fun k q h => ?_⟩
    match k, h with
    | 0, h => cases h; exact ⟨fun n z => ⟨(fun k h => by cases h), kI, hkI, ccI, kdI⟩, fcI⟩
    | 1, h => cases h; exact ⟨fun n z => ⟨(fun k h => by cases h), kC, hkC, ccC, kdC⟩, fcC⟩
    | 2, h => cases h; exact ⟨fun n z => ⟨(fun k h => by cases h), kZ, hkZ, ccZ, kdZ⟩, fcZ⟩
    | 3, h => cases h; exact ⟨fun n z => ⟨(fun k h => by cases h), kG, hkG, compG, kdG⟩, fcG⟩
    | k + 4, h => simp [b_T] at h
  have hX : b_X tb lo hi (fun q : Nat => s.heap.size ≤ q) s s.heap := ⟨⟨hz_tb, ht_tb⟩, ⟨hz_lo, ht_lo⟩, ⟨hz_hi, ht_hi⟩, ⟨va_Nw.of rfl (hts0 _ st_w15), va_Nw.of rfl (hts0 _ st_w16)⟩⟩
  have n21 : va_Nw (.methodLinkNest RX3 21 yX2_init "BeamTurnstiles") s := va_Nw.of rfl (hts0 _ st_w13)
  have n28 : va_Nw (.methodLinkNest RX3 28 yX1_init "BeamTurnstiles") s := va_Nw.of rfl (hts0 _ st_w14)
  have hS : va_S (fun q : Nat => s.heap.size ≤ q) s.heap s.heap [] := va_S.rf
  have hP : va_P D vwCl [] s.heap := fun k q h => by simp at h
  have hD : va_D (fun q : Nat => s.heap.size ≤ q) [] := ⟨fun i j p q h => by simp at h, fun k q h => by simp at h⟩
  have hl := lv_entry ([.ref b]) (n := 5) (Nat.le_of_ble_eq_true rfl)
  rw [lg_entry_eq]
  generalize (lg_sl ([.ref b]) ++ List.replicate (5 - (lg_sl ([.ref b])).length) Slot.unset).toArray = ls at hl ⊢
  have hl : lv_has ls 5 [(0, .ref b)] := hl
  refine va_new (pc := 0) (ci := 3) (fs := [.null, .null, .null, .null, .null, .null]) (C := RX3) (T := TX3) (N := 6) hx hb hts inlX3 tyX3 tyX3_ok hown (hts _ st_l0) (hts _ st_l1) (hts _ st_l2) hK hP hD hS hA rfl (fun j hj => by rcases (show j = 0 ∨ j = 1 ∨ j = 2 ∨ j = 3 ∨ j = 4 ∨ j = 5 by omega) with rfl | rfl | rfl | rfl | rfl | rfl <;> rfl) (Nat.le_of_ble_eq_true rfl) (Nat.le_of_ble_eq_true rfl) dL_law_0 (fun q0v H hP hD hS => ?_)
  have hP : va_P D vwCl [(q0v, .inr (3, [.null, .null, .null, .null, .null, .null]))] H := hP
  have hD : va_D (fun q : Nat => s.heap.size ≤ q) [(q0v, .inr (3, [.null, .null, .null, .null, .null, .null]))] := hD
  refine lv_dup (pc := 3) hx hb dL_law_3 rfl ?_
  have hFc := va_free (wc := [(q0v, .inr (3, [.null, .null, .null, .null, .null, .null]))]) hD hS hA [0] rfl
  refine va_callv (va_runI (As := []) (rest := [.ref q0v]) ⟨hx, hb, hml, hown, hts⟩ (c_X3_init l D cI cC cZ cG H.size q0v) (cwI 0 hts gL_law_X3_init rfl rfl rfl (hts _ st_l2) (hts _ st_l3) (hts _ st_l4) rfl (by decide +kernel) ⟨Nat.le_of_ble_eq_true rfl, Nat.le_of_ble_eq_true rfl⟩) (b_pWS (wc := [(q0v, .inr (3, [.null, .null, .null, .null, .null, .null]))]) hK hP hD b_Xok_A [0] rfl (by decide) rfl ⟨hAO, n21, n28⟩) rfl rfl hl.1 rfl (lv_room (Nat.le_of_ble_eq_true rfl)) dL_law_4 ⟨Nat.le_of_ble_eq_true rfl, Nat.le_of_ble_eq_true rfl⟩) hS (fun q9 _ h9 => hFc q9 h9) hFc (fun ad t H1 locs ht hvm hw hB hz1 hk1 hS => ?_)
  obtain ⟨hP1, hD1⟩ := hB
  rw [ht] at hP1
  subst hw
  obtain ⟨hP, hD⟩ := va_join (wr := []) (w1 := hc cI cC cZ cG ad hs0) hP hD [0] [] rfl rfl (by decide) (by decide) hk1 hFc hP1 hD1
  generalize H1 = H at hP hS ⊢
  have hP : va_P D vwCl (hc cI cC cZ cG ad hs0) H := hP
  have hD : va_D (fun q : Nat => s.heap.size ≤ q) (hc cI cC cZ cG ad hs0) := hD
  refine lv_astore_n (pc := 7) (lv' := [(1, .ref (ad 0)), (0, .ref b)]) hx hb dL_law_7 rfl hl (by decide) rfl (fun ls hl => ?_)
  refine va_new (pc := 8) (ci := 3) (fs := [.null, .null, .null, .null, .null, .null]) (C := RX3) (T := TX3) (N := 6) hx hb hts inlX3 tyX3 tyX3_ok hown (hts _ st_l0) (hts _ st_l1) (hts _ st_l2) hK hP hD hS hA rfl (fun j hj => by rcases (show j = 0 ∨ j = 1 ∨ j = 2 ∨ j = 3 ∨ j = 4 ∨ j = 5 by omega) with rfl | rfl | rfl | rfl | rfl | rfl <;> rfl) (Nat.le_of_ble_eq_true rfl) (Nat.le_of_ble_eq_true rfl) dL_law_8 (fun q1v H hP hD hS => ?_)
  have hP : va_P D vwCl (hc cI cC cZ cG ad hs0 ++ [(q1v, .inr (3, [.null, .null, .null, .null, .null, .null]))]) H := hP
  have hD : va_D (fun q : Nat => s.heap.size ≤ q) (hc cI cC cZ cG ad hs0 ++ [(q1v, .inr (3, [.null, .null, .null, .null, .null, .null]))]) := hD
  refine lv_dup (pc := 11) hx hb dL_law_11 rfl ?_
  have hFc := va_free (wc := [(q1v, .inr (3, [.null, .null, .null, .null, .null, .null]))]) hD hS hA [19] rfl
  refine va_callv (va_runI (As := []) (rest := [.ref q1v]) ⟨hx, hb, hml, hown, hts⟩ (c_X3_init l D cI cC cZ cG H.size q1v) (cwI 0 hts gL_law_X3_init rfl rfl rfl (hts _ st_l2) (hts _ st_l3) (hts _ st_l4) rfl (by decide +kernel) ⟨Nat.le_of_ble_eq_true rfl, Nat.le_of_ble_eq_true rfl⟩) (b_pWS (wc := [(q1v, .inr (3, [.null, .null, .null, .null, .null, .null]))]) hK hP hD b_Xok_A [19] rfl (by decide) rfl ⟨hAO, n21, n28⟩) rfl rfl hl.1 rfl (lv_room (Nat.le_of_ble_eq_true rfl)) dL_law_12 ⟨Nat.le_of_ble_eq_true rfl, Nat.le_of_ble_eq_true rfl⟩) hS (fun q9 _ h9 => hFc q9 h9) hFc (fun bd t H1 locs ht hvm hw hB hz1 hk1 hS => ?_)
  obtain ⟨hP1, hD1⟩ := hB
  rw [ht] at hP1
  subst hw
  obtain ⟨hP, hD⟩ := va_join (wr := hc cI cC cZ cG ad hs0) (w1 := hc cI cC cZ cG bd hs0) hP hD [19] [0, 1, 2, 3, 4, 5, 6, 7, 8, 9, 10, 11, 12, 13, 14, 15, 16, 17, 18] rfl rfl (by decide) (by decide) hk1 hFc hP1 hD1
  generalize H1 = H at hP hS ⊢
  have hP : va_P D vwCl (hc cI cC cZ cG ad hs0 ++ hc cI cC cZ cG bd hs0) H := hP
  have hD : va_D (fun q : Nat => s.heap.size ≤ q) (hc cI cC cZ cG ad hs0 ++ hc cI cC cZ cG bd hs0) := hD
  refine lv_astore_n (pc := 15) (lv' := [(2, .ref (bd 0)), (1, .ref (ad 0)), (0, .ref b)]) hx hb dL_law_15 rfl hl (by decide) rfl (fun ls hl => ?_)
  refine lv_iconst (pc := 16) (v := 1) hx hb dL_law_16 (by decide) ?_
  refine lv_istore_n (pc := 17) (lv' := [(3, .int 1), (2, .ref (bd 0)), (1, .ref (ad 0)), (0, .ref b)]) hx hb dL_law_17 rfl hl (by decide) rfl (fun ls hl => ?_)
  refine lv_iconst (pc := 18) (v := 0) hx hb dL_law_18 (by decide) ?_
  refine lv_istore (pc := 19) (lv' := [(4, .int 0), (3, .int 1), (2, .ref (bd 0)), (1, .ref (ad 0)), (0, .ref b)]) hx hb dL_law_19 hl (by decide) rfl (fun ls hl => ?_)
  refine W.widen (k := 500000) (n := 7000000) (Nat.le_of_ble_eq_true rfl) (Nat.le_of_ble_eq_true rfl) ?_
  have C : lw_C p s m meth c D cI cC cZ cG (fun q : Nat => s.heap.size ≤ q) tb lo hi b L xs := ⟨hx, hb, hml, hown, hts, hXs, hbl, hbA, hA, hK, hX⟩
  exact law_loop C hr hlocks hL 60 0 (by omega) hs0 hs0 (by exact rel0) _ _ 500000 7000000 (by omega) (by omega) hP hD hS ls (lv_sub hl [4, 3, 2, 1, 0] rfl)
