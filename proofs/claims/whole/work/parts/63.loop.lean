/-! the law's loop -/
set_option maxHeartbeats 4000000 in
set_option maxRecDepth 100000 in
theorem law_loop {p : Program} {l : Launch} {e : Env} {s : State} {m : MethodId} {below : List Frame} {meth : Method} {c : Code} {D : va_G} {cI cC cZ cG : ClassId} {tb lo hi b L : Nat} {xs : Nat → Int32} {ad md : Nat → Nat} (C : lw_C p s m meth c D cI cC cZ cG (fun q : Nat => s.heap.size ≤ q) tb lo hi b L xs) (hr : meth.sig.returnType = ret) (hlocks : meth.locks = false) (hL : L ≤ 1536) : ∀ (n i : Nat), i ≤ L → L < i + n → lw_KK p l e s m below meth c D cI cC cZ cG (fun q : Nat => s.heap.size ≤ q) b ad md i (20 * i) 18 := by
  intro n
  induction n with
  | zero => intro i h1 h2; exact absurd h2 (by omega)
  | succ nn ih =>
    intro i h1 h2 f f2 tx n nx sn R SL sv a kp hs sl iv sp nu hB H locs hP hD hS ls hl
    obtain ⟨hx, hb, hml, hown, hts, hXs, hbl, hbA, hA, hK, hX⟩ := id C
    have hl : lv_has ls 4 [(0, .ref b), (1, .ref (ad 0)), (2, .ref (md 0)), (3, .int (nI i))] := hl
    refine lv_iload_n (pc := 18) hx hb dL_law_18 rfl (lv_at hl 3 rfl) ?_
    refine lv_aload_n (pc := 19) hx hb dL_law_19 rfl (lv_at hl 0 rfl) ?_
    refine va_slen hx hb hXs hbl hbA hS dL_law_20 ?_
    refine lv_iconst (pc := 21) (v := 3) hx hb dL_law_21 (by decide) ?_
    refine lv_isub (pc := 22) hx hb dL_law_22 ?_
    have hsub : (nI L - nI 3).toInt = (L : Int) - (3 : Nat) := pk_sub_toInt (by omega) (by omega)
    refine lv_icmp_gt (pc := 23) (tgt := 577) hx hb dL_law_23 (by decide) (fun c_1 => ?_) (fun c_1 => ?_)
    · refine lv_iconst (pc := 577) (v := 1) hx hb dL_law_577 (by decide) ?_
      refine va_forget (fun q hq => hS.2.2 q hq) ?_
      exact lw_ret hx hb hr hlocks dL_law_578
    · have hi3 : i + 3 ≤ L := by
        have c_2 : ¬ nI L - nI 3 < nI i := c_1
        rw [i_lt, hsub, nI_toInt (by omega)] at c_2
        omega
      have kk : lw_KK p l e s m below meth c D cI cC cZ cG (fun q : Nat => s.heap.size ≤ q) b ad md i (20 * i + 60) 571 := by
        intro f f2 tx n nx sn R SL sv a kp hs sl iv sp nu hB H locs hP hD hS ls hl
        refine lv_iinc (pc := 571) (v := nI (i + 3)) (lv' := [(3, .int (nI (i + 3))), (0, .ref b), (1, .ref (ad 0)), (2, .ref (md 0))]) hx hb dL_law_571 hl (k := 3) rfl (nI_add i 3) (by decide) rfl (fun ls hl => ?_)
        refine lv_goto (pc := 574) (tgt := 18) hx hb dL_law_574 (by decide) ?_
        exact ih (i + 3) hi3 (by omega) f f2 tx n nx sn R SL sv a kp hs sl iv sp nu (by rw [show 20 * (i + 3) = 20 * i + 60 by omega]; exact hB) _ _ hP hD hS ls (lv_sub hl [1, 2, 3, 0] rfl)
      refine lv_aload_n (pc := 26) hx hb dL_law_26 rfl (lv_at hl 0 rfl) ?_
      refine lv_iload_n (pc := 27) hx hb dL_law_27 rfl (lv_at hl 3 rfl) ?_
      refine b_sld (pc := 28) hx hb hXs hbl hbA hS i (by omega) (by omega) dL_law_28 ?_
      refine lv_bipush (pc := 29) (v := 31) hx hb dL_law_29 (by decide) ?_
      refine lv_iand (pc := 31) hx hb dL_law_31 ?_
      obtain ⟨j, hj, ej⟩ := pk_andE (xs i) (m := 31) 5 (by decide)
      refine b_re ej ?_
      rcases (show j = 0 ∨ j = 1 ∨ j = 2 ∨ j = 3 ∨ j = 4 ∨ j = 5 ∨ j = 6 ∨ j = 7 ∨ j = 8 ∨ j = 9 ∨ j = 10 ∨ j = 11 ∨ j = 12 ∨ j = 13 ∨ j = 14 ∨ j = 15 ∨ j = 16 ∨ j = 17 ∨ j = 18 ∨ 19 ≤ j by omega) with z | z | z | z | z | z | z | z | z | z | z | z | z | z | z | z | z | z | z | z
      · subst z
        refine lv_tableIn (pc := 32) (tgt := 124) (off := 92) hx hb dL_law_32 (by decide) (by decide) (by decide) (by decide) ?_
        exact law_set C hi3 hL (by omega) kk f f2 tx n nx sn R SL sv a kp hs sl iv sp nu hB _ _ hP hD hS ls hl
      · subst z
        refine lv_tableIn (pc := 32) (tgt := 157) (off := 125) hx hb dL_law_32 (by decide) (by decide) (by decide) (by decide) ?_
        exact law_event C hi3 hL (by omega) kk f f2 tx n nx sn R SL sv a kp hs sl iv sp nu hB _ _ hP hD hS ls hl
      · subst z
        refine lv_tableIn (pc := 32) (tgt := 190) (off := 158) hx hb dL_law_32 (by decide) (by decide) (by decide) (by decide) ?_
        exact law_pass C hi3 hL (by omega) kk f f2 tx n nx sn R SL sv a kp hs sl iv sp nu hB _ _ hP hD hS ls hl
      · subst z
        refine lv_tableIn (pc := 32) (tgt := 213) (off := 181) hx hb dL_law_32 (by decide) (by decide) (by decide) (by decide) ?_
        exact law_read C hi3 hL (by omega) kk f f2 tx n nx sn R SL sv a kp hs sl iv sp nu hB _ _ hP hD hS ls hl
      · subst z
        refine lv_tableIn (pc := 32) (tgt := 226) (off := 194) hx hb dL_law_32 (by decide) (by decide) (by decide) (by decide) ?_
        exact law_correct C hi3 hL (by omega) kk f f2 tx n nx sn R SL sv a kp hs sl iv sp nu hB _ _ hP hD hS ls hl
      · subst z
        refine lv_tableIn (pc := 32) (tgt := 249) (off := 217) hx hb dL_law_32 (by decide) (by decide) (by decide) (by decide) ?_
        exact law_clear C hi3 hL (by omega) kk f f2 tx n nx sn R SL sv a kp hs sl iv sp nu hB _ _ hP hD hS ls hl
      · subst z
        refine lv_tableIn (pc := 32) (tgt := 272) (off := 240) hx hb dL_law_32 (by decide) (by decide) (by decide) (by decide) ?_
        exact law_gate C hi3 hL (by omega) kk f f2 tx n nx sn R SL sv a kp hs sl iv sp nu hB _ _ hP hD hS ls hl
      · subst z
        refine lv_tableIn (pc := 32) (tgt := 305) (off := 273) hx hb dL_law_32 (by decide) (by decide) (by decide) (by decide) ?_
        exact law_count C hi3 hL (by omega) kk f f2 tx n nx sn R SL sv a kp hs sl iv sp nu hB _ _ hP hD hS ls hl
      · subst z
        refine lv_tableIn (pc := 32) (tgt := 328) (off := 296) hx hb dL_law_32 (by decide) (by decide) (by decide) (by decide) ?_
        exact law_mean C hi3 hL (by omega) kk f f2 tx n nx sn R SL sv a kp hs sl iv sp nu hB _ _ hP hD hS ls hl
      · subst z
        refine lv_tableIn (pc := 32) (tgt := 351) (off := 319) hx hb dL_law_32 (by decide) (by decide) (by decide) (by decide) ?_
        exact law_busiest C hi3 hL (by omega) kk f f2 tx n nx sn R SL sv a kp hs sl iv sp nu hB _ _ hP hD hS ls hl
      · subst z
        refine lv_tableIn (pc := 32) (tgt := 364) (off := 332) hx hb dL_law_32 (by decide) (by decide) (by decide) (by decide) ?_
        exact law_ifRead C hi3 hL (by omega) kk f f2 tx n nx sn R SL sv a kp hs sl iv sp nu hB _ _ hP hD hS ls hl
      · subst z
        refine lv_tableIn (pc := 32) (tgt := 387) (off := 355) hx hb dL_law_32 (by decide) (by decide) (by decide) (by decide) ?_
        exact law_eventsTo C hi3 hL (by omega) kk f f2 tx n nx sn R SL sv a kp hs sl iv sp nu hB _ _ hP hD hS ls hl
      · subst z
        refine lv_tableIn (pc := 32) (tgt := 420) (off := 388) hx hb dL_law_32 (by decide) (by decide) (by decide) (by decide) ?_
        exact law_untilBlocked C hi3 hL (by omega) kk f f2 tx n nx sn R SL sv a kp hs sl iv sp nu hB _ _ hP hD hS ls hl
      · subst z
        refine lv_tableIn (pc := 32) (tgt := 433) (off := 401) hx hb dL_law_32 (by decide) (by decide) (by decide) (by decide) ?_
        exact law_put C hi3 hL (by omega) kk f f2 tx n nx sn R SL sv a kp hs sl iv sp nu hB _ _ hP hD hS ls hl
      · subst z
        refine lv_tableIn (pc := 32) (tgt := 486) (off := 454) hx hb dL_law_32 (by decide) (by decide) (by decide) (by decide) ?_
        exact law_wipe C hi3 hL (by omega) kk f f2 tx n nx sn R SL sv a kp hs sl iv sp nu hB _ _ hP hD hS ls hl
      · subst z
        refine lv_tableIn (pc := 32) (tgt := 499) (off := 467) hx hb dL_law_32 (by decide) (by decide) (by decide) (by decide) ?_
        exact law_fault C hi3 hL (by omega) kk f f2 tx n nx sn R SL sv a kp hs sl iv sp nu hB _ _ hP hD hS ls hl
      · subst z
        refine lv_tableIn (pc := 32) (tgt := 512) (off := 480) hx hb dL_law_32 (by decide) (by decide) (by decide) (by decide) ?_
        exact law_undo C hi3 hL (by omega) kk f f2 tx n nx sn R SL sv a kp hs sl iv sp nu hB _ _ hP hD hS ls hl
      · subst z
        refine lv_tableIn (pc := 32) (tgt := 525) (off := 493) hx hb dL_law_32 (by decide) (by decide) (by decide) (by decide) ?_
        exact law_save C hi3 hL (by omega) kk f f2 tx n nx sn R SL sv a kp hs sl iv sp nu hB _ _ hP hD hS ls hl
      · subst z
        refine lv_tableIn (pc := 32) (tgt := 548) (off := 516) hx hb dL_law_32 (by decide) (by decide) (by decide) (by decide) ?_
        exact law_restore C hi3 hL (by omega) kk f f2 tx n nx sn R SL sv a kp hs sl iv sp nu hB _ _ hP hD hS ls hl
      · refine lv_tableOut (pc := 32) (tgt := 571) hx hb dL_law_32 (Or.inr (by rw [nI_toInt (by omega)]; omega)) (by decide) ?_
        exact kk f f2 tx n nx sn R SL sv a kp hs sl iv sp nu (hB.mono (by omega)) _ _ hP hD hS ls hl
